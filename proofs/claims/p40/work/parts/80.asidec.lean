/-! drawings: what is laid aside, led, the image: the class -/
/-- an image: how many cards, how many of each, laid aside, led, the latest -/
abbrev Img : Type := Nat × (Nat → Nat) × (Nat → Nat) × (Nat → Int32) × Nat
def cLt (l : Nat) : Int32 := if l = 0 then -1 else nI (l - 1)
def DCb (as : Nat → Nat) (ld : Nat → Int32) (l : Nat) (S : St) : Prop := (∀ i, i < 8 → S.1 48 i = nI (as i)) ∧ (∀ c, c < 6 → S.1 49 c = ld c) ∧ S.1 5 3 = cLt l
def ImC : Option Img → St → Prop
  | none, S => S.1 5 8 = -1
  | some m, S => S.1 5 8 = nI m.1 ∧ (∀ i, i < m.1 → S.1 50 i = nI (m.2.1 i) ∧ S.1 51 i = nI (m.2.2.1 i)) ∧ (∀ c, c < 6 → S.1 52 c = m.2.2.2.1 c) ∧ S.1 5 7 = cLt m.2.2.2.2
def up1 {α : Type} (f : Nat → α) (i : Nat) (x : α) : Nat → α := fun j => if j = i then x else f j
/-- the first k anew -/
def seg (v : Nat → Nat → Nat) (M : Nat → Nat) (k : Nat) : Nat → Nat → Nat := fun w i => if w = 0 ∧ i < k then M i else v w i
def seg1 {α : Type} (f M : Nat → α) (k : Nat) : Nat → α := fun i => if i < k then M i else f i
theorem seg_0 {v : Nat → Nat → Nat} {M : Nat → Nat} : seg v M 0 = v := by funext w i; simp [seg]
theorem seg1_0 {α : Type} {f M : Nat → α} : seg1 f M 0 = f := by funext i; simp [seg1]
theorem seg_s {v : Nat → Nat → Nat} {M : Nat → Nat} {k : Nat} : seg v M (k + 1) = up2 (seg v M k) 0 k (M k) := by
  funext w i
  unfold seg up2
  by_cases h : w = 0 ∧ i = k
  · rw [if_pos h, if_pos (by omega), h.2]
  · rw [if_neg h]
    by_cases h2 : w = 0 ∧ i < k
    · show _ = if w = 0 ∧ i < k then M i else v w i
      rw [if_pos h2, if_pos (by omega)]
    · show _ = if w = 0 ∧ i < k then M i else v w i
      rw [if_neg h2, if_neg (by omega)]
theorem seg1_s {α : Type} {f M : Nat → α} {k : Nat} : seg1 f M (k + 1) = up1 (seg1 f M k) k (M k) := by
  funext i
  unfold seg1 up1
  by_cases h : i = k
  · rw [if_pos h, if_pos (by omega), h]
  · rw [if_neg h]
    by_cases h2 : i < k
    · show _ = if i < k then M i else f i
      rw [if_pos h2, if_pos (by omega)]
    · show _ = if i < k then M i else f i
      rw [if_neg h2, if_neg (by omega)]
section DrawC2
variable {a : Nat → Nat} {S S1 : St} {n k u l t : Nat} {v h : Nat → Nat → Nat} {b : Option (List Line)} {as : Nat → Nat} {ld : Nat → Int32} {im : Option Img}
theorem DCb.kp {rs : List Nat} (hd : DCb as ld l S) (hk : Kp rs S S1) (hr : 5 ∉ rs) : DCb as ld l S1 := ⟨fun i hi => by rw [hk.i (show rg 48 i ∉ rs from hr)]; exact hd.1 i hi, fun c hc => by rw [hk.i (show rg 49 c ∉ rs from hr)]; exact hd.2.1 c hc, by rw [hk.i (show rg 5 3 ∉ rs from hr)]; exact hd.2.2⟩
theorem ImC.kp {rs : List Nat} (hd : ImC im S) (hk : Kp rs S S1) (hr : 5 ∉ rs) : ImC im S1 := by
  cases im with
  | none => exact (hk.i (show rg 5 8 ∉ rs from hr)).trans hd
  | some m => exact ⟨(hk.i (show rg 5 8 ∉ rs from hr)).trans hd.1, fun i hi => by rw [hk.i (show rg 50 i ∉ rs from hr), hk.i (show rg 51 i ∉ rs from hr)]; exact hd.2.1 i hi, fun c hc => by rw [hk.i (show rg 52 c ∉ rs from hr)]; exact hd.2.2.1 c hc, (hk.i (show rg 5 7 ∉ rs from hr)).trans hd.2.2.2⟩
theorem ImC.wI {j i : Nat} {x : Int32} (hd : ImC im S) (h1 : ¬ (50 ≤ j ∧ j ≤ 52)) (h2 : ¬ (j = 5 ∧ (i = 8 ∨ i = 7))) : ImC im (uI S j i x) := by
  cases im with
  | none =>
    show (_ : St).1 5 8 = -1
    rw [uI_at, if_neg (by omega)]; exact hd
  | some m =>
    refine ⟨?_, fun i hi => ?_, fun c hc => ?_, ?_⟩
    · rw [uI_at, if_neg (by omega)]; exact hd.1
    · rw [uI_at, if_neg (by omega), uI_at, if_neg (by omega)]; exact hd.2.1 i hi
    · rw [uI_at, if_neg (by omega)]; exact hd.2.2.1 c hc
    · rw [uI_at, if_neg (by omega)]; exact hd.2.2.2
theorem DCb.wI {j i : Nat} {x : Int32} (hd : DCb as ld l S) (h1 : ¬ (48 ≤ j ∧ j ≤ 49)) (h2 : ¬ (j = 5 ∧ i = 3)) : DCb as ld l (uI S j i x) := ⟨fun i hi => by rw [uI_at, if_neg (by omega)]; exact hd.1 i hi, fun c hc => by rw [uI_at, if_neg (by omega)]; exact hd.2.1 c hc, by rw [uI_at, if_neg (by omega)]; exact hd.2.2⟩
theorem DCb.was (hd : DCb as ld l S) {i x : Nat} : DCb (up1 as i x) ld l (uI S 48 i (nI x)) := by
  refine ⟨fun j hj => ?_, fun c hc => ?_, ?_⟩
  · rw [uI_at]
    unfold up1
    by_cases e : j = i
    · rw [if_pos ⟨rfl, e⟩, if_pos e]
    · rw [if_neg (fun z => e z.2), if_neg e]; exact hd.1 j hj
  · rw [uI_at, if_neg (by omega)]; exact hd.2.1 c hc
  · rw [uI_at, if_neg (by omega)]; exact hd.2.2
theorem DCb.wld (hd : DCb as ld l S) {i : Nat} {x : Int32} : DCb as (up1 ld i x) l (uI S 49 i x) := by
  refine ⟨fun j hj => ?_, fun c hc => ?_, ?_⟩
  · rw [uI_at, if_neg (by omega)]; exact hd.1 j hj
  · rw [uI_at]
    unfold up1
    by_cases e : c = i
    · rw [if_pos ⟨rfl, e⟩, if_pos e]
    · rw [if_neg (fun z => e z.2), if_neg e]; exact hd.2.1 c hc
  · rw [uI_at, if_neg (by omega)]; exact hd.2.2
theorem DCb.wlt (hd : DCb as ld l S) {c : Nat} : DCb as ld (c + 1) (uI S 5 3 (nI c)) := ⟨fun j hj => by rw [uI_at, if_neg (by omega)]; exact hd.1 j hj, fun c hc => by rw [uI_at, if_neg (by omega)]; exact hd.2.1 c hc, by rw [uI_at, if_pos ⟨rfl, rfl⟩]; rfl⟩

set_option maxRecDepth 20000 in
theorem s_X1_layAside {c e : Nat} (h : TC n v S) (hd : DCb as ld l S) (hc : c < 8) (he : e < 6) (hp : 1 ≤ v 0 c) : Rt a mX1_layAside 0 [.ref (a 5), .ref (a 1), .int (nI c), .int (nI e)] S none (uI (uI (uI (uI S 16 c (nI (v 0 c - 1))) 48 c (nI (as c + 1))) 49 e (ld e + 1)) 5 3 (nI c)) := by
  show J _ _ _ _ 0 [_, _, _, _] [] _
  refine j_ald1 dX1_layAside_0 ?_
  refine j_getR (k := 0) (15) dX1_layAside_1 cX6_ok (Or.inr ⟨_, f1_51⟩) rfl (by decide) (by decide) (by decide) rfl ?_
  refine j_iconst (0) dX1_layAside_4 rfl ?_
  refine j_aald (n := 0) (16) dX1_layAside_5 (Or.inr rfl) (by decide) rfl (by decide) (by decide) rfl ?_
  refine j_ild2 dX1_layAside_6 ?_
  refine j_dup2 dX1_layAside_7 rfl rfl ?_
  refine j_iald (n := c) dX1_layAside_8 rfl (by decide) rfl (by omega) (by decide) ?_
  refine j_top (y := nI (v 0 c)) (h.2.2.1 0 (by decide) c hc) ?_
  refine j_iconst (1) dX1_layAside_9 rfl ?_
  refine j_isub dX1_layAside_10 ?_
  refine j_top (y := nI (v 0 c - 1)) (by exact pk_sub (b := 1) hp) ?_
  refine j_iast (n := c) dX1_layAside_11 rfl (by decide) rfl (by omega) (by decide) ?_
  refine j_ald0 dX1_layAside_12 ?_
  refine j_getR (k := 1) (48) dX1_layAside_13 cX1_ok (Or.inl f1_9) rfl (by decide) (by decide) (by decide) rfl ?_
  refine j_ild2 dX1_layAside_16 ?_
  refine j_dup2 dX1_layAside_17 rfl rfl ?_
  refine j_iald (n := c) dX1_layAside_18 rfl (by decide) rfl (by omega) (by decide) ?_
  refine j_top (y := nI (as c)) (by rw [uI_at, if_neg (by omega)]; exact hd.1 c hc) ?_
  refine j_iconst (1) dX1_layAside_19 rfl ?_
  refine j_iadd dX1_layAside_20 ?_
  refine j_top (y := nI (as c + 1)) (nI_1 _) ?_
  refine j_iast (n := c) dX1_layAside_21 rfl (by decide) rfl (by omega) (by decide) ?_
  refine j_ald0 dX1_layAside_22 ?_
  refine j_getR (k := 2) (49) dX1_layAside_23 cX1_ok (Or.inl f1_15) rfl (by decide) (by decide) (by decide) rfl ?_
  refine j_ild3 dX1_layAside_26 ?_
  refine j_dup2 dX1_layAside_27 rfl rfl ?_
  refine j_iald (n := e) dX1_layAside_28 rfl (by decide) rfl (by omega) (by decide) ?_
  refine j_top (y := ld e) (by rw [uI_at, if_neg (by omega), uI_at, if_neg (by omega)]; exact hd.2.1 e he) ?_
  refine j_iconst (1) dX1_layAside_29 rfl ?_
  refine j_iadd dX1_layAside_30 ?_
  refine j_iast (n := e) dX1_layAside_31 rfl (by decide) rfl (by omega) (by decide) ?_
  refine j_ald0 dX1_layAside_32 ?_
  refine j_ild2 dX1_layAside_33 ?_
  refine j_putI (k := 3) dX1_layAside_34 cX1_ok (Or.inl f1_18) rfl (by decide) (by decide) (by decide) rfl ?_
  refine j_vret dX1_layAside_37 rfl ?_
  exact ⟨rfl, rfl⟩

theorem lay_ok {c e : Nat} (ht : TC n v S) (hh : HC k u h S) (hd : DCb as ld l S) (hi : ImC im S) (hc : c < 8) : TC n (up2 v 0 c (v 0 c - 1)) (uI (uI (uI (uI S 16 c (nI (v 0 c - 1))) 48 c (nI (as c + 1))) 49 e (ld e + 1)) 5 3 (nI c)) ∧ HC k u h (uI (uI (uI (uI S 16 c (nI (v 0 c - 1))) 48 c (nI (as c + 1))) 49 e (ld e + 1)) 5 3 (nI c)) ∧ DCb (up1 as c (as c + 1)) (up1 ld e (ld e + 1)) (c + 1) (uI (uI (uI (uI S 16 c (nI (v 0 c - 1))) 48 c (nI (as c + 1))) 49 e (ld e + 1)) 5 3 (nI c)) ∧ ImC im (uI (uI (uI (uI S 16 c (nI (v 0 c - 1))) 48 c (nI (as c + 1))) 49 e (ld e + 1)) 5 3 (nI c)) ∧ Kp [1, 5] S (uI (uI (uI (uI S 16 c (nI (v 0 c - 1))) 48 c (nI (as c + 1))) 49 e (ld e + 1)) 5 3 (nI c)) := by
  have h9 := ht.many9 hc
  have t1 : TC n (up2 v 0 c (v 0 c - 1)) (uI S 16 c (nI (v 0 c - 1))) := ht.uI_v (by decide) hc (show v 0 c - 1 ≤ 9 by omega)
  have h1 : HC k u h (uI S 16 c (nI (v 0 c - 1))) := hh.uI_v (w := 0) (by decide)
  have hk : Kp [5] (uI S 16 c (nI (v 0 c - 1))) (uI (uI (uI (uI S 16 c (nI (v 0 c - 1))) 48 c (nI (as c + 1))) 49 e (ld e + 1)) 5 3 (nI c)) := Kp_uI (Kp_uI (Kp_uI Kp.rf (by show 5 ∈ [5]; decide)) (by show 5 ∈ [5]; decide)) (by decide)
  exact ⟨t1.kp hk (by decide), h1.kp hk (by decide), (((hd.wI (by omega) (by omega)).was).wld).wlt, (((hi.wI (by omega) (by omega)).wI (by omega) (by omega)).wI (by omega) (by omega)).wI (by omega) (by omega), (Kp_uI (rs := [1, 5]) Kp.rf (by show 1 ∈ [1, 5]; decide)).tr (hk.wk (by simp))⟩
set_option maxRecDepth 20000 in
theorem s_X7_draw_0 {x : Int32} (ht : TC n v S) (h0 : sumN (v 0) n = 0) : Rt a mX7_draw 6 [.ref (a 0), .int x] S (some (.int (-5))) S := by
  show J _ _ _ _ 0 [_, _, .null, .null, .null] [] _
  refine j_ald0 dX7_draw_0 ?_
  refine j_getR (k := 0) (1) dX7_draw_1 cX7_ok (Or.inl f7_12) rfl (by decide) (by decide) (by decide) rfl ?_
  refine j_cV0 dX7_draw_4 kX6_inHat l7_120 rfl (by decide) rfl (Nat.le_of_ble_eq_true rfl) (Nat.le_of_ble_eq_true rfl) (by omega) (s_X6_inHat ht) ?_
  rw [h0]
  refine j_ifne 13 dX7_draw_7 (by decide) (fun c_7 => absurd c_7 (fun z => z rfl)) (fun c_7 => ?_)
  refine j_bipush (-5) dX7_draw_10 rfl ?_
  refine j_iret dX7_draw_12 rfl ?_
  exact ⟨rfl, rfl⟩

theorem up2_ne {v : Nat → Nat → Nat} {i x w j : Nat} (hw : ¬ w = 0) : up2 v 0 i x w j = v w j := by
  unfold up2; rw [if_neg (fun z => hw z.1)]
set_option maxRecDepth 20000 in
theorem s_X7_draw {x : Int32} (ht : TC n v S) (hb : LawC b S) (hg : GoodB b) (hh : HC k u h S) (hd : DCb as ld l S) (hi : ImC im S) (h0 : 0 < sumN (v 0) n) : Rqi a mX7_draw 6 [.ref (a 0), .int x] S fun z S' => z = nI (shwN v b n x) ∧ Kp [1, 4, 5, 8] S S' ∧ TC n (up2 v 0 (dcd v n x) (v 0 (dcd v n x) - 1)) S' ∧ HC k u h S' ∧ DCb (up1 as (dcd v n x) (as (dcd v n x) + 1)) (up1 ld (v (1 + dsd v b (dcd v n x) (rnd x)) (dcd v n x)) (ld (v (1 + dsd v b (dcd v n x) (rnd x)) (dcd v n x)) + 1)) ((dcd v n x) + 1) S' ∧ ImC im S' := by
  have hn8 := ht.2.1
  have hs := ht.sum hn8
  show J _ _ _ _ 0 [_, _, .null, .null, .null] [] _
  refine j_ald0 dX7_draw_0 ?_
  refine j_getR (k := 0) (1) dX7_draw_1 cX7_ok (Or.inl f7_12) rfl (by decide) (by decide) (by decide) rfl ?_
  refine j_cV0 dX7_draw_4 kX6_inHat l7_120 rfl (by decide) rfl (Nat.le_of_ble_eq_true rfl) (Nat.le_of_ble_eq_true rfl) (by omega) (s_X6_inHat ht) ?_
  refine j_ifne 13 dX7_draw_7 (by decide) (fun c_7 => ?_) (fun c_7 => absurd (nI_ne0 (by omega) (by omega)) c_7)
  refine j_ald0 dX7_draw_13 ?_
  refine j_getR (k := 2) (3) dX7_draw_14 cX7_ok (Or.inl f7_28) rfl (by decide) (by decide) (by decide) rfl ?_
  refine j_ald0 dX7_draw_17 ?_
  refine j_getR (k := 0) (1) dX7_draw_18 cX7_ok (Or.inl f7_12) rfl (by decide) (by decide) (by decide) rfl ?_
  refine j_ald0 dX7_draw_21 ?_
  refine j_getR (k := 1) (2) dX7_draw_22 cX7_ok (Or.inl f7_21) rfl (by decide) (by decide) (by decide) rfl ?_
  refine j_qvV2 dX7_draw_25 kX5_weighAll l7_140 rfl (by decide) rfl (Nat.le_of_ble_eq_true rfl) (Nat.le_of_ble_eq_true rfl) (by omega) (s_X5_weighAll ht hb hg) (fun S1 h1 => ?_)
  obtain ⟨hkp, hw⟩ := h1
  have hk0 : Kp [4, 8] S (uI S1 5 0 x) := Kp_uI hkp (by decide)
  have hw0 : WCq v b n (uI S1 5 0 x) := fun j hj => by rw [uI_at, if_neg (by omega), uI_at, if_neg (by omega)]; exact hw j hj
  have hsx : (uI S1 5 0 x).1 5 0 = x := by simp [uI_at]
  refine j_ald0 dX7_draw_28 ?_
  refine j_getR (k := 4) (5) dX7_draw_29 cX7_ok (Or.inl f7_42) rfl (by decide) (by decide) (by decide) rfl ?_
  refine j_ild1 dX7_draw_32 ?_
  refine j_putI (k := 0) dX7_draw_33 cX1_ok (Or.inr ⟨_, f7_218⟩) rfl (by decide) (by decide) (by decide) rfl ?_
  generalize uI S1 5 0 x = S0 at *
  have ht0 := ht.kp hk0 (by decide)
  refine j_ald0 dX7_draw_36 ?_
  refine j_getR (k := 4) (5) dX7_draw_37 cX7_ok (Or.inl f7_42) rfl (by decide) (by decide) (by decide) rfl ?_
  refine j_ald0 dX7_draw_40 ?_
  refine j_getR (k := 0) (1) dX7_draw_41 cX7_ok (Or.inl f7_12) rfl (by decide) (by decide) (by decide) rfl ?_
  refine j_cV1 dX7_draw_44 kX1_pickCard l7_221 rfl (by decide) rfl (Nat.le_of_ble_eq_true rfl) (Nat.le_of_ble_eq_true rfl) (by omega) (s_X1_pickCard ht0 h0) ?_
  rw [hsx]
  have hdc := dcd_ok (s := x) h0
  have hk2 : Kp [4, 8] S (uI S0 5 0 (rnd x)) := Kp_uI hk0 (by decide)
  have hw2 : WCq v b n (uI S0 5 0 (rnd x)) := fun j hj => by rw [uI_at, if_neg (by omega), uI_at, if_neg (by omega)]; exact hw0 j hj
  have hsd2 : (uI S0 5 0 (rnd x)).1 5 0 = rnd x := by simp [uI_at]
  unfold shwN
  generalize uI S0 5 0 (rnd x) = S2 at *
  generalize hcd : dcd v n x = c at *
  have hc8 : c < 8 := by omega
  refine j_ist2 dX7_draw_47 rfl (by decide) ?_
  refine j_ald0 dX7_draw_48 ?_
  refine j_getR (k := 4) (5) dX7_draw_49 cX7_ok (Or.inl f7_42) rfl (by decide) (by decide) (by decide) rfl ?_
  refine j_ald0 dX7_draw_52 ?_
  refine j_getR (k := 2) (3) dX7_draw_53 cX7_ok (Or.inl f7_28) rfl (by decide) (by decide) (by decide) rfl ?_
  refine j_getR (k := 0) (36) dX7_draw_56 cX5_ok (Or.inr ⟨_, f7_135⟩) rfl (by decide) (by decide) (by decide) rfl ?_
  refine j_ild2 dX7_draw_59 ?_
  refine j_aald (n := c) (37 + c) dX7_draw_60 (Or.inr rfl) (by decide) rfl (by omega) (by decide) (fr_wr hc8) ?_
  refine j_cV1 dX7_draw_61 kX1_pickSide l7_224 rfl (by decide) rfl (Nat.le_of_ble_eq_true rfl) (Nat.le_of_ble_eq_true rfl) (by omega) (s_X1_pickSide hw2 hc8 hdc.1) ?_
  rw [hsd2]
  have hds := dsd_2 v b c (rnd x)
  have hk3 : Kp [4, 8] S (uI S2 5 0 (rnd (rnd x))) := Kp_uI hk2 (by decide)
  generalize uI S2 5 0 (rnd (rnd x)) = S3 at *
  generalize hsi : dsd v b c (rnd x) = e at *
  have hv1 := ht.2.2.2 (1 + e) (by omega) c hc8
  have hv2 := ht.2.2.2 (2 - e) (by omega) c hc8
  have hm1 : mostN (1 + e) = 5 := by rcases s2 hds with rfl | rfl <;> rfl
  have hm2 : mostN (2 - e) = 5 := by rcases s2 hds with rfl | rfl <;> rfl
  have ht3 := ht.kp hk3 (by decide)
  have hd3 := hd.kp hk3 (by decide)
  have hok := lay_ok (e := v (1 + e) c) ht3 (hh.kp hk3 (by decide)) hd3 (hi.kp hk3 (by decide)) hc8
  refine j_ist3 dX7_draw_64 rfl (by decide) ?_
  refine j_ald0 dX7_draw_65 ?_
  refine j_getR (k := 0) (1) dX7_draw_66 cX7_ok (Or.inl f7_12) rfl (by decide) (by decide) (by decide) rfl ?_
  refine j_ild2 dX7_draw_69 ?_
  refine j_ild3 dX7_draw_70 ?_
  refine j_cV2 dX7_draw_71 kX6_colour l7_228 rfl (by decide) rfl (Nat.le_of_ble_eq_true rfl) (Nat.le_of_ble_eq_true rfl) (by omega) (sC_colour (i := c) (s := e) ht3 hc8 hds) ?_
  refine j_ist4 dX7_draw_74 rfl (by decide) ?_
  refine j_ald0 dX7_draw_76 ?_
  refine j_getR (k := 4) (5) dX7_draw_77 cX7_ok (Or.inl f7_42) rfl (by decide) (by decide) (by decide) rfl ?_
  refine j_ald0 dX7_draw_80 ?_
  refine j_getR (k := 0) (1) dX7_draw_81 cX7_ok (Or.inl f7_12) rfl (by decide) (by decide) (by decide) rfl ?_
  refine j_ild2 dX7_draw_84 ?_
  refine j_ild4 dX7_draw_85 ?_
  refine j_vV3 dX7_draw_87 kX1_layAside l7_232 rfl (by decide) rfl (Nat.le_of_ble_eq_true rfl) (Nat.le_of_ble_eq_true rfl) (by omega) (s_X1_layAside ht3 hd3 hc8 (by omega) hdc.2) ?_
  obtain ⟨k1, k2, k3, k4, k5⟩ := hok
  generalize uI (uI (uI (uI S3 16 c (nI (v 0 c - 1))) 48 c (nI (as c + 1))) 49 (v (1 + e) c) (ld (v (1 + e) c) + 1)) 5 3 (nI c) = S4 at *
  refine j_bipush (10) dX7_draw_90 rfl ?_
  refine j_ild4 dX7_draw_92 ?_
  refine j_imul dX7_draw_94 ?_
  refine j_top (y := nI (10 * v (1 + e) c)) (by exact pk_mul 10 (v (1 + e) c)) ?_
  refine j_ald0 dX7_draw_95 ?_
  refine j_getR (k := 0) (1) dX7_draw_96 cX7_ok (Or.inl f7_12) rfl (by decide) (by decide) (by decide) rfl ?_
  refine j_ild2 dX7_draw_99 ?_
  refine j_iconst (1) dX7_draw_100 rfl ?_
  refine j_ild3 dX7_draw_101 ?_
  refine j_isub dX7_draw_102 ?_
  refine j_top (y := nI (1 - e)) (by exact pk_sub (a := 1) (b := e) (by omega)) ?_
  refine j_cV2 dX7_draw_103 kX6_colour l7_228 rfl (by decide) rfl (Nat.le_of_ble_eq_true rfl) (Nat.le_of_ble_eq_true rfl) (by omega) (sC_colour (i := c) (s := 1 - e) k1 hc8 (by omega)) ?_
  refine j_top (y := nI (v (2 - e) c)) (by rw [up2_ne (by omega), show 1 + (1 - e) = 2 - e by omega]) ?_
  refine j_iadd dX7_draw_106 ?_
  refine j_top (y := nI (10 * v (1 + e) c + v (2 - e) c)) (nI_add _ _) ?_
  refine j_iret dX7_draw_107 rfl ?_
  exact ⟨_, rfl, rfl, (hk3.wk (by simp)).tr (k5.wk (by simp)), k1, k2, k3, k4⟩

set_option maxRecDepth 20000 in
theorem lp_X1_allAside (hd : DCb as ld l S) (ha : ∀ i, i < 8 → as i ≤ 2 ^ 20) : ∀ (fu : Nat) (i : Nat), 8 - i < fu → (i ≤ 8) → J a mX1_allAside 0 (gm a fun r S' => r = some (.int (nI (sumN as 8))) ∧ S' = S) 4 [.ref (a 5), .int (nI (sumN as i)), .int (nI i)] [] S := by
  intro fu
  induction fu with
  | zero => intro i hk; exact absurd hk (Nat.not_lt_zero _)
  | succ fu ih =>
    intro i hk hi
    refine j_ild2 dX1_allAside_4 ?_
    refine j_bipush (8) dX1_allAside_5 rfl ?_
    refine j_icmpge 25 dX1_allAside_7 (by decide) (fun c_7 => ?_) (fun c_7 => ?_)
    · have q_7 : i = 8 := by have := (nI_leI (a := 8) (b := i) (by decide) (by omega)).mp c_7; omega
      subst q_7
      refine j_ild1 dX1_allAside_25 ?_
      refine j_iret dX1_allAside_26 rfl ?_
      exact ⟨rfl, rfl⟩
    have q_7 : i < 8 := Nat.not_le.mp (fun z => c_7 ((nI_leI (a := 8) (b := i) (by decide) (by omega)).mpr z))
    refine j_ild1 dX1_allAside_10 ?_
    refine j_ald0 dX1_allAside_11 ?_
    refine j_getR (k := 1) (48) dX1_allAside_12 cX1_ok (Or.inl f1_9) rfl (by decide) (by decide) (by decide) rfl ?_
    refine j_ild2 dX1_allAside_15 ?_
    refine j_iald (n := i) dX1_allAside_16 rfl (by decide) rfl (by omega) (by decide) ?_
    refine j_top (y := nI (as i)) (hd.1 i q_7) ?_
    refine j_iadd dX1_allAside_17 ?_
    refine j_top (y := nI (sumN as (i + 1))) (nI_add _ _) ?_
    refine j_ist1 dX1_allAside_18 rfl (by decide) ?_
    refine j_iinc2 (nI (i + 1)) dX1_allAside_19 (nI_1 i) rfl (by decide) ?_
    refine j_goto 4 dX1_allAside_22 (by decide) ?_
    exact ih (i + 1) (by omega) (by omega)

set_option maxRecDepth 20000 in
theorem s_X1_allAside (hd : DCb as ld l S) (ha : ∀ i, i < 8 → as i ≤ 2 ^ 20) : Rt a mX1_allAside 0 [.ref (a 5)] S (some (.int (nI (sumN as 8)))) S := by
  show J _ _ _ _ 0 [_, .null, .null] [] _
  refine j_iconst (0) dX1_allAside_0 rfl ?_
  refine j_ist1 dX1_allAside_1 rfl (by decide) ?_
  refine j_iconst (0) dX1_allAside_2 rfl ?_
  refine j_ist2 dX1_allAside_3 rfl (by decide) ?_
  exact lp_X1_allAside hd ha 9 0 (by omega) (by omega)

def mn9 (v : Nat → Nat → Nat) (as : Nat → Nat) (i : Nat) : Nat := if v 0 i + as i < 9 then v 0 i + as i else 9
theorem mn9_le (v : Nat → Nat → Nat) (as : Nat → Nat) (i : Nat) : mn9 v as i ≤ 9 := by unfold mn9; split <;> omega
theorem seg_at {v : Nat → Nat → Nat} {M : Nat → Nat} {k w i : Nat} (h : ¬ i < k) : seg v M k w i = v w i := by unfold seg; rw [if_neg (fun z => h z.2)]
theorem seg1_at {α : Type} {f M : Nat → α} {k i : Nat} (h : ¬ i < k) : seg1 f M k i = f i := by unfold seg1; rw [if_neg h]
set_option maxRecDepth 20000 in
theorem lp_X1_layAllBack {w : Int32} (ha : ∀ i, i < 8 → as i ≤ 2 ^ 20) : ∀ (fu : Nat) (i : Nat) (S1 : St), 8 - i < fu → (i ≤ 8) → (TC n (seg v (mn9 v as) i) S1 ∧ HC k u h S1 ∧ DCb (seg1 as (fun _ => 0) i) ld l S1 ∧ ImC im S1 ∧ Kp [1, 5] S S1) → J a mX1_layAllBack 2 (gm a fun r S' => r = some (.int w) ∧ TC n (seg v (mn9 v as) 8) S' ∧ HC k u h S' ∧ DCb (seg1 as (fun _ => 0) 8) ld l S' ∧ ImC im S' ∧ Kp [1, 5] S S') 7 [.ref (a 5), .ref (a 1), .int w, .int (nI i)] [] S1 := by
  intro fu
  induction fu with
  | zero => intro i S1 hk; exact absurd hk (Nat.not_lt_zero _)
  | succ fu ih =>
    intro i S1 hk hi hq
    refine j_ild3 dX1_layAllBack_7 ?_
    refine j_bipush (8) dX1_layAllBack_8 rfl ?_
    refine j_icmpge 37 dX1_layAllBack_10 (by decide) (fun c_10 => ?_) (fun c_10 => ?_)
    · have q_10 : i = 8 := by have := (nI_leI (a := 8) (b := i) (by decide) (by omega)).mp c_10; omega
      subst q_10
      refine j_ild2 dX1_layAllBack_37 ?_
      refine j_iret dX1_layAllBack_38 rfl ?_
      exact ⟨rfl, hq⟩
    have q_10 : i < 8 := Nat.not_le.mp (fun z => c_10 ((nI_leI (a := 8) (b := i) (by decide) (by omega)).mpr z))
    obtain ⟨k1, k2, k3, k4, k5⟩ := hq
    have ha1 := ha i q_10
    have h9 := k1.many9 q_10
    rw [seg_at (by omega)] at h9
    refine j_ald1 dX1_layAllBack_13 ?_
    refine j_ild3 dX1_layAllBack_14 ?_
    refine j_ald0 dX1_layAllBack_15 ?_
    refine j_getR (k := 1) (48) dX1_layAllBack_16 cX1_ok (Or.inl f1_9) rfl (by decide) (by decide) (by decide) rfl ?_
    refine j_ild3 dX1_layAllBack_19 ?_
    refine j_iald (n := i) dX1_layAllBack_20 rfl (by decide) rfl (by omega) (by decide) ?_
    refine j_top (y := nI (as i)) ((k3.1 i q_10).trans (by rw [seg1_at (by omega)])) ?_
    refine j_qvV2 dX1_layAllBack_21 kX6_putInHat l1_58 rfl (by decide) rfl (Nat.le_of_ble_eq_true rfl) (Nat.le_of_ble_eq_true rfl) (by omega) (s_X6_putInHat k1 q_10) (fun S2 h2 => ?_)
    have e2 : S2 = uI S1 16 i (nI (mn9 v as i)) := by
      rw [h2, seg_at (by omega), nI_add]
      congr 1
      unfold mn9
      by_cases c : v 0 i + as i < 9
      · rw [if_pos c, if_pos (show nI (v 0 i + as i) < 9 from (nI_ltI (a := v 0 i + as i) (b := 9) (by omega) (by decide)).mpr c)]
      · rw [if_neg c, if_neg (show ¬ nI (v 0 i + as i) < 9 from fun z => c ((nI_ltI (a := v 0 i + as i) (b := 9) (by omega) (by decide)).mp z))]; rfl
    subst e2
    refine j_ald0 dX1_layAllBack_24 ?_
    refine j_getR (k := 1) (48) dX1_layAllBack_25 cX1_ok (Or.inl f1_9) rfl (by decide) (by decide) (by decide) rfl ?_
    refine j_ild3 dX1_layAllBack_28 ?_
    refine j_iconst (0) dX1_layAllBack_29 rfl ?_
    refine j_iast (n := i) dX1_layAllBack_30 rfl (by decide) rfl (by omega) (by decide) ?_
    refine j_iinc3 (nI (i + 1)) dX1_layAllBack_31 (nI_1 i) rfl (by decide) ?_
    refine j_goto 7 dX1_layAllBack_34 (by decide) ?_
    refine ih (i + 1) _ (by omega) (by omega) ⟨?_, ?_, ?_, ?_, ?_⟩
    · rw [seg_s]
      exact (k1.uI_v (by decide) q_10 (mn9_le v as i)).kp (Kp_uI (rs := [5]) Kp.rf (by show 5 ∈ [5]; decide)) (by decide)
    · exact (k2.uI_v (w := 0) (by decide)).kp (Kp_uI (rs := [5]) Kp.rf (by show 5 ∈ [5]; decide)) (by decide)
    · rw [seg1_s]
      exact (k3.wI (by omega) (by omega)).was
    · exact (k4.wI (by omega) (by omega)).wI (by omega) (by omega)
    · exact Kp_uI (Kp_uI k5 (by show 1 ∈ [1, 5]; decide)) (by show 5 ∈ [1, 5]; decide)

set_option maxRecDepth 20000 in
theorem s_X1_layAllBack (ht : TC n v S) (hh : HC k u h S) (hd : DCb as ld l S) (hi : ImC im S) (ha : ∀ i, i < 8 → as i ≤ 2 ^ 20) : Rqi a mX1_layAllBack 2 [.ref (a 5), .ref (a 1)] S fun z S' => z = nI (sumN as 8) ∧ TC n (seg v (mn9 v as) 8) S' ∧ HC k u h S' ∧ DCb (seg1 as (fun _ => 0) 8) ld l S' ∧ ImC im S' ∧ Kp [1, 5] S S' := by
  show J _ _ _ _ 0 [_, _, .null, .null] [] _
  refine j_ald0 dX1_layAllBack_0 ?_
  refine j_cV0 dX1_layAllBack_1 kX1_allAside l1_55 rfl (by decide) rfl (Nat.le_of_ble_eq_true rfl) (Nat.le_of_ble_eq_true rfl) (by omega) (s_X1_allAside hd ha) ?_
  refine j_ist2 dX1_layAllBack_4 rfl (by decide) ?_
  refine j_iconst (0) dX1_layAllBack_5 rfl ?_
  refine j_ist3 dX1_layAllBack_6 rfl (by decide) ?_
  refine J.post (lp_X1_layAllBack (n := n) (k := k) (u := u) (h := h) (v := v) (l := l) (ld := ld) (im := im) (S := S) ha 9 0 S (by omega) (by omega) ⟨by rw [seg_0]; exact ht, hh, by rw [seg1_0]; exact hd, hi, Kp.rf⟩) (fun r' S' hq => ⟨_, hq.1, rfl, hq.2⟩)

set_option maxRecDepth 20000 in
theorem s_X7_putBack (ht : TC n v S) (hh : HC k u h S) (hd : DCb as ld l S) (hi : ImC im S) (ha : ∀ i, i < 8 → as i ≤ 2 ^ 20) : Rqi a mX7_putBack 4 [.ref (a 0)] S fun z S' => z = nI (sumN as 8) ∧ TC n (seg v (mn9 v as) 8) S' ∧ HC k u h S' ∧ DCb (seg1 as (fun _ => 0) 8) ld l S' ∧ ImC im S' ∧ Kp [1, 5] S S' := by
  show J _ _ _ _ 0 [_] [] _
  refine j_ald0 dX7_putBack_0 ?_
  refine j_getR (k := 4) (5) dX7_putBack_1 cX7_ok (Or.inl f7_42) rfl (by decide) (by decide) (by decide) rfl ?_
  refine j_ald0 dX7_putBack_4 ?_
  refine j_getR (k := 0) (1) dX7_putBack_5 cX7_ok (Or.inl f7_12) rfl (by decide) (by decide) (by decide) rfl ?_
  refine j_qiV1 dX7_putBack_8 kX1_layAllBack l7_236 rfl (by decide) rfl (Nat.le_of_ble_eq_true rfl) (Nat.le_of_ble_eq_true rfl) (by omega) (s_X1_layAllBack ht hh hd hi ha) (fun z S1 h1 => ?_)
  refine j_iret dX7_putBack_11 rfl ?_
  exact ⟨_, rfl, h1⟩

end DrawC2

