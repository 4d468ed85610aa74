/-! laid aside, led, the image, count: the reference -/
section AsideR
variable {a : Nat → Nat} {S S1 : St} {n k u l t : Nat} {v h : Nat → Nat → Nat} {b : Option (List Line)} {as : Nat → Nat} {ld : Nat → Int32} {im : Option Img} {m : Img}
theorem DRb.kp {rs : List Nat} (hd : DRb as ld l S) (hk : Kp rs S S1) (hr : 15 ∉ rs) : DRb as ld l S1 := ⟨fun i hi => by rw [hk.i (show rg 65 i ∉ rs from hr)]; exact hd.1 i hi, fun c hc => by rw [hk.i (show rg 77 c ∉ rs from hr)]; exact hd.2.1 c hc, by rw [hk.i (show rg 61 22 ∉ rs from hr)]; exact hd.2.2⟩
theorem ImR.kp {rs : List Nat} (hd : ImR im S) (hk : Kp rs S S1) (hr : 15 ∉ rs) : ImR im S1 := by
  cases im with
  | none => exact (hk.i (show rg 61 45 ∉ rs from hr)).trans hd
  | some m => exact ⟨(hk.i (show rg 61 45 ∉ rs from hr)).trans hd.1, fun i hi => by rw [hk.i (show rg 91 i ∉ rs from hr), hk.i (show rg 92 i ∉ rs from hr)]; exact hd.2.1 i hi, fun c hc => by rw [hk.i (show rg 93 c ∉ rs from hr)]; exact hd.2.2.1 c hc, (hk.i (show rg 61 46 ∉ rs from hr)).trans hd.2.2.2⟩
theorem ImR.wI {j i : Nat} {x : Int32} (hd : ImR im S) (h1 : ¬ (91 ≤ j ∧ j ≤ 93)) (h2 : ¬ (j = 61 ∧ (i = 45 ∨ i = 46))) : ImR im (uI S j i x) := by
  cases im with
  | none =>
    show (_ : St).1 61 45 = -1
    rw [uI_at, if_neg (by omega)]; exact hd
  | some m =>
    refine ⟨?_, fun i hi => ?_, fun c hc => ?_, ?_⟩
    · rw [uI_at, if_neg (by omega)]; exact hd.1
    · rw [uI_at, if_neg (by omega), uI_at, if_neg (by omega)]; exact hd.2.1 i hi
    · rw [uI_at, if_neg (by omega)]; exact hd.2.2.1 c hc
    · rw [uI_at, if_neg (by omega)]; exact hd.2.2.2
theorem DRb.wI {j i : Nat} {x : Int32} (hd : DRb as ld l S) (h1 : ¬ (j = 65 ∨ j = 77)) (h2 : ¬ (j = 61 ∧ i = 22)) : DRb as ld l (uI S j i x) := ⟨fun i hi => by rw [uI_at, if_neg (by omega)]; exact hd.1 i hi, fun c hc => by rw [uI_at, if_neg (by omega)]; exact hd.2.1 c hc, by rw [uI_at, if_neg (by omega)]; exact hd.2.2⟩
theorem DRb.was (hd : DRb as ld l S) {i x : Nat} : DRb (up1 as i x) ld l (uI S 65 i (nI x)) := by
  refine ⟨fun j hj => ?_, fun c hc => ?_, ?_⟩
  · rw [uI_at]
    unfold up1
    by_cases e : j = i
    · rw [if_pos ⟨rfl, e⟩, if_pos e]
    · rw [if_neg (fun z => e z.2), if_neg e]; exact hd.1 j hj
  · rw [uI_at, if_neg (by omega)]; exact hd.2.1 c hc
  · rw [uI_at, if_neg (by omega)]; exact hd.2.2
theorem DRb.wld (hd : DRb as ld l S) {i : Nat} {x : Int32} : DRb as (up1 ld i x) l (uI S 77 i x) := by
  refine ⟨fun j hj => ?_, fun c hc => ?_, ?_⟩
  · rw [uI_at, if_neg (by omega)]; exact hd.1 j hj
  · rw [uI_at]
    unfold up1
    by_cases e : c = i
    · rw [if_pos ⟨rfl, e⟩, if_pos e]
    · rw [if_neg (fun z => e z.2), if_neg e]; exact hd.2.1 c hc
  · rw [uI_at, if_neg (by omega)]; exact hd.2.2
theorem DRb.wlt (hd : DRb as ld l S) {l' : Nat} : DRb as ld l' (uI S 61 22 (rLt l')) := ⟨fun j hj => by rw [uI_at, if_neg (by omega)]; exact hd.1 j hj, fun c hc => by rw [uI_at, if_neg (by omega)]; exact hd.2.1 c hc, by rw [uI_at, if_pos ⟨rfl, rfl⟩]⟩
theorem TR.w0 {i x : Nat} (ht : TR n v S) (hi : i < 8) (hx : x ≤ 9) : TR n (up2 v 0 i x) (uI S 62 i (nI x)) := by
  refine ⟨by rw [uI_at, if_neg (by omega)]; exact ht.1, ht.2.1, fun w hw j hj => ?_, fun w hw j hj => ?_⟩
  · rw [uI_at]
    unfold up2
    by_cases e : w = 0 ∧ j = i
    · obtain ⟨rfl, rfl⟩ := e
      rw [if_pos ⟨rfl, rfl⟩, if_pos ⟨rfl, rfl⟩]
    · rw [if_neg e, if_neg, ht.2.2.1 w hw j hj]
      intro z
      apply e
      obtain ⟨z1, z2⟩ := z
      rcases w12 hw with rfl | rfl | rfl | rfl | rfl | rfl | rfl | rfl | rfl | rfl | rfl | rfl <;> first | exact ⟨rfl, z2⟩ | exact absurd z1 (by decide)
  · unfold up2
    split
    · next e => rw [e.1]; exact hx
    · exact ht.2.2.2 w hw j hj
theorem HR.w0 {i : Nat} {x : Int32} (hh : HR k u h S) : HR k u h (uI S 62 i x) := by
  refine ⟨by rw [uI_at, if_neg (by omega)]; exact hh.1, by rw [uI_at, if_neg (by omega)]; exact hh.2.1, hh.2.2.1, fun j hj f hf => ?_⟩
  rw [uI_at, if_neg, hh.2.2.2 j hj f hf]
  rcases f4 hf with rfl | rfl | rfl | rfl <;> exact fun z => absurd z.1 (by decide)

theorem layR_ok {c e : Nat} (ht : TR n v S) (hh : HR k u h S) (hd : DRb as ld l S) (hi : ImR im S) (hc : c < 8) : TR n (up2 v 0 c (v 0 c - 1)) (uI (uI (uI (uI S 62 c (nI (v 0 c - 1))) 65 c (nI (as c + 1))) 77 e (ld e + 1)) 61 22 (nI c)) ∧ HR k u h (uI (uI (uI (uI S 62 c (nI (v 0 c - 1))) 65 c (nI (as c + 1))) 77 e (ld e + 1)) 61 22 (nI c)) ∧ DRb (up1 as c (as c + 1)) (up1 ld e (ld e + 1)) (c + 1) (uI (uI (uI (uI S 62 c (nI (v 0 c - 1))) 65 c (nI (as c + 1))) 77 e (ld e + 1)) 61 22 (nI c)) ∧ ImR im (uI (uI (uI (uI S 62 c (nI (v 0 c - 1))) 65 c (nI (as c + 1))) 77 e (ld e + 1)) 61 22 (nI c)) ∧ Kp [11, 15] S (uI (uI (uI (uI S 62 c (nI (v 0 c - 1))) 65 c (nI (as c + 1))) 77 e (ld e + 1)) 61 22 (nI c)) := by
  have h9 : v 0 c ≤ 9 := ht.2.2.2 0 (by decide) c hc
  have t1 : TR n (up2 v 0 c (v 0 c - 1)) (uI S 62 c (nI (v 0 c - 1))) := ht.w0 hc (show v 0 c - 1 ≤ 9 by omega)
  have h1 : HR k u h (uI S 62 c (nI (v 0 c - 1))) := hh.w0
  have hk : Kp [15] (uI S 62 c (nI (v 0 c - 1))) (uI (uI (uI (uI S 62 c (nI (v 0 c - 1))) 65 c (nI (as c + 1))) 77 e (ld e + 1)) 61 22 (nI c)) := Kp_uI (Kp_uI (Kp_uI Kp.rf (by show 15 ∈ [15]; decide)) (by show 15 ∈ [15]; decide)) (by decide)
  exact ⟨t1.kp hk (by decide), h1.kp hk (by decide), (((hd.wI (by omega) (by omega)).was).wld).wlt (l' := c + 1), (((hi.wI (by omega) (by omega)).wI (by omega) (by omega)).wI (by omega) (by omega)).wI (by omega) (by omega), (Kp_uI (rs := [11, 15]) Kp.rf (by show 11 ∈ [11, 15]; decide)).tr (hk.wk (by simp))⟩
set_option maxRecDepth 20000 in
theorem s_X8_draw_0 {x : Int32} (ht : TR n v S) (h0 : sumN (v 0) n = 0) : Rt a mX8_draw 5 [.ref (a 61), .int x] S (some (.int (-5))) S := by
  show J _ _ _ _ 0 [_, _, .null] [] _
  refine j_ald0 dX8_draw_0 ?_
  refine j_cV0 dX8_draw_1 kX8_allCards l8_196 rfl (by decide) rfl (Nat.le_of_ble_eq_true rfl) (Nat.le_of_ble_eq_true rfl) (by omega) (s_X8_allCards ht) ?_
  rw [h0]
  refine j_ifne 10 dX8_draw_4 (by decide) (fun c_4 => absurd c_4 (fun z => z rfl)) (fun c_4 => ?_)
  refine j_bipush (-5) dX8_draw_7 rfl ?_
  refine j_iret dX8_draw_9 rfl ?_
  exact ⟨rfl, rfl⟩

set_option maxRecDepth 20000 in
theorem s_X8_draw {x : Int32} (ht : TR n v S) (hb : LawR b S) (hg : GoodB b) (hh : HR k u h S) (hd : DRb as ld l S) (hi : ImR im S) (h0 : 0 < sumN (v 0) n) : Rqi a mX8_draw 5 [.ref (a 61), .int x] S fun z S' => z = nI (shwN v b n x) ∧ Kp [11, 14, 15, 18] S S' ∧ TR n (up2 v 0 (dcd v n x) (v 0 (dcd v n x) - 1)) S' ∧ HR k u h S' ∧ DRb (up1 as (dcd v n x) (as (dcd v n x) + 1)) (up1 ld (v (1 + dsd v b (dcd v n x) (rnd x)) (dcd v n x)) (ld (v (1 + dsd v b (dcd v n x) (rnd x)) (dcd v n x)) + 1)) ((dcd v n x) + 1) S' ∧ ImR im S' := by
  have hn8 := ht.2.1
  have hs := ht.sum hn8
  show J _ _ _ _ 0 [_, _, .null] [] _
  refine j_ald0 dX8_draw_0 ?_
  refine j_cV0 dX8_draw_1 kX8_allCards l8_196 rfl (by decide) rfl (Nat.le_of_ble_eq_true rfl) (Nat.le_of_ble_eq_true rfl) (by omega) (s_X8_allCards ht) ?_
  refine j_ifne 10 dX8_draw_4 (by decide) (fun c_4 => ?_) (fun c_4 => absurd (nI_ne0 (by omega) (by omega)) c_4)
  refine j_ald0 dX8_draw_10 ?_
  refine j_qvV0 dX8_draw_11 kX8_findWeights l8_275 rfl (by decide) rfl (Nat.le_of_ble_eq_true rfl) (Nat.le_of_ble_eq_true rfl) (by omega) (s_X8_findWeights ht hb hg) (fun S1 h1 => ?_)
  obtain ⟨hkp, hw⟩ := h1
  have hkq : Kp [14] S1 (uI S1 61 43 x) := Kp_uI Kp.rf (by decide)
  have hk0 : Kp [14, 18] S (uI S1 61 43 x) := hkp.tr (hkq.wk (by simp))
  have hw0 := hw.kp hkq (by decide)
  have hsx : (uI S1 61 43 x).1 61 43 = x := by rw [uI_at, if_pos ⟨rfl, rfl⟩]
  refine j_ald0 dX8_draw_14 ?_
  refine j_ild1 dX8_draw_15 ?_
  refine j_putI (k := 43) dX8_draw_16 cX8_ok (Or.inl f8_341) rfl (by decide) (by decide) (by decide) rfl ?_
  generalize uI S1 61 43 x = S0 at *
  have ht0 := ht.kp hk0 (by decide)
  refine j_ald0 dX8_draw_19 ?_
  refine j_qiV0 dX8_draw_20 kX8_show l8_351 rfl (by decide) rfl (Nat.le_of_ble_eq_true rfl) (Nat.le_of_ble_eq_true rfl) (by omega) (s_X8_show ht0 hw0 h0) (fun z S3 h2 => ?_)
  rw [hsx] at h2
  obtain ⟨rfl, hk2, -, hlc⟩ := h2
  have hdc := dcd_ok (s := x) h0
  unfold shwN
  generalize hcd : dcd v n x = c at *
  have hc8 : c < 8 := by omega
  have hk3 : Kp [14, 18] S S3 := hk0.tr (hk2.wk (by simp))
  have hds := dsd_2 v b c (rnd x)
  generalize hsi : dsd v b c (rnd x) = e at *
  have hv1 := ht.2.2.2 (1 + e) (by omega) c hc8
  have hv2 := ht.2.2.2 (2 - e) (by omega) c hc8
  have hm1 : mostN (1 + e) = 5 := by rcases s2 hds with rfl | rfl <;> rfl
  have hm2 : mostN (2 - e) = 5 := by rcases s2 hds with rfl | rfl <;> rfl
  have hdd := d10 (x := v (1 + e) c) (y := v (2 - e) c) (by omega)
  have ht3 := ht.kp hk3 (by decide)
  have hd3 := hd.kp hk3 (by decide)
  obtain ⟨k1, k2, k3, k4, k5⟩ := layR_ok (e := v (1 + e) c) ht3 (hh.kp hk3 (by decide)) hd3 (hi.kp hk3 (by decide)) hc8
  refine j_ist2 dX8_draw_23 rfl (by decide) ?_
  refine j_ald0 dX8_draw_24 ?_
  refine j_getR (k := 2) (62) dX8_draw_25 cX8_ok (Or.inl f8_9) rfl (by decide) (by decide) (by decide) rfl ?_
  refine j_ald0 dX8_draw_28 ?_
  refine j_getI (k := 44) dX8_draw_29 cX8_ok (Or.inl f8_348) rfl (by decide) (by decide) (by decide) ?_
  refine j_top (y := nI c) (by first | exact hlc | (rw [uI_at, if_neg (by omega)]; exact hlc) | (rw [uI_at, if_neg (by omega), uI_at, if_neg (by omega)]; exact hlc) | (rw [uI_at, if_neg (by omega), uI_at, if_neg (by omega), uI_at, if_neg (by omega)]; exact hlc)) ?_
  refine j_dup2 dX8_draw_32 rfl rfl ?_
  refine j_iald (n := c) dX8_draw_33 rfl (by decide) rfl (by omega) (by decide) ?_
  refine j_top (y := nI (v 0 c)) (ht3.many hc8) ?_
  refine j_iconst (1) dX8_draw_34 rfl ?_
  refine j_isub dX8_draw_35 ?_
  refine j_top (y := nI (v 0 c - 1)) (by exact pk_sub (b := 1) hdc.2) ?_
  refine j_iast (n := c) dX8_draw_36 rfl (by decide) rfl (by omega) (by decide) ?_
  refine j_ald0 dX8_draw_37 ?_
  refine j_getR (k := 5) (65) dX8_draw_38 cX8_ok (Or.inl f8_21) rfl (by decide) (by decide) (by decide) rfl ?_
  refine j_ald0 dX8_draw_41 ?_
  refine j_getI (k := 44) dX8_draw_42 cX8_ok (Or.inl f8_348) rfl (by decide) (by decide) (by decide) ?_
  refine j_top (y := nI c) (by first | exact hlc | (rw [uI_at, if_neg (by omega)]; exact hlc) | (rw [uI_at, if_neg (by omega), uI_at, if_neg (by omega)]; exact hlc) | (rw [uI_at, if_neg (by omega), uI_at, if_neg (by omega), uI_at, if_neg (by omega)]; exact hlc)) ?_
  refine j_dup2 dX8_draw_45 rfl rfl ?_
  refine j_iald (n := c) dX8_draw_46 rfl (by decide) rfl (by omega) (by decide) ?_
  refine j_top (y := nI (as c)) (by rw [uI_at, if_neg (by omega)]; exact hd3.1 c hc8) ?_
  refine j_iconst (1) dX8_draw_47 rfl ?_
  refine j_iadd dX8_draw_48 ?_
  refine j_top (y := nI (as c + 1)) (nI_1 _) ?_
  refine j_iast (n := c) dX8_draw_49 rfl (by decide) rfl (by omega) (by decide) ?_
  refine j_ald0 dX8_draw_50 ?_
  refine j_getR (k := 21) (77) dX8_draw_51 cX8_ok (Or.inl f8_64) rfl (by decide) (by decide) (by decide) rfl ?_
  refine j_ild2 dX8_draw_54 ?_
  refine j_bipush (10) dX8_draw_55 rfl ?_
  refine j_idiv dX8_draw_57 (by decide) ?_
  refine j_top (y := nI (v (1 + e) c)) ((pk_div (a := 10 * v (1 + e) c + v (2 - e) c) (d := 10) (by omega) (by decide) (by decide)).trans (by rw [hdd.1])) ?_
  refine j_dup2 dX8_draw_58 rfl rfl ?_
  refine j_iald (n := (v (1 + e) c)) dX8_draw_59 rfl (by decide) rfl (by omega) (by decide) ?_
  refine j_top (y := ld (v (1 + e) c)) (by rw [uI_at, if_neg (by omega), uI_at, if_neg (by omega)]; exact hd3.2.1 _ (by omega)) ?_
  refine j_iconst (1) dX8_draw_60 rfl ?_
  refine j_iadd dX8_draw_61 ?_
  refine j_iast (n := (v (1 + e) c)) dX8_draw_62 rfl (by decide) rfl (by omega) (by decide) ?_
  refine j_ald0 dX8_draw_63 ?_
  refine j_ald0 dX8_draw_64 ?_
  refine j_getI (k := 44) dX8_draw_65 cX8_ok (Or.inl f8_348) rfl (by decide) (by decide) (by decide) ?_
  refine j_top (y := nI c) (by first | exact hlc | (rw [uI_at, if_neg (by omega)]; exact hlc) | (rw [uI_at, if_neg (by omega), uI_at, if_neg (by omega)]; exact hlc) | (rw [uI_at, if_neg (by omega), uI_at, if_neg (by omega), uI_at, if_neg (by omega)]; exact hlc)) ?_
  refine j_putI (k := 22) dX8_draw_68 cX8_ok (Or.inl f8_67) rfl (by decide) (by decide) (by decide) rfl ?_
  refine j_ild2 dX8_draw_71 ?_
  refine j_iret dX8_draw_72 rfl ?_
  exact ⟨_, rfl, rfl, (hk3.wk (by simp)).tr (k5.wk (by simp)), k1, k2, k3, k4⟩

set_option maxRecDepth 20000 in
theorem lp_X8_asideMany (hn : S.1 61 1 = nI n) (hn8 : n ≤ 8) (hd : DRb as ld l S) : ∀ (fu : Nat) (i : Nat), n - i < fu → (i ≤ n) → J a mX8_asideMany 0 (gm a fun r S' => r = some (.int (nI (sumN as n))) ∧ S' = S) 4 [.ref (a 61), .int (nI (sumN as i)), .int (nI i)] [] S := by
  intro fu
  induction fu with
  | zero => intro i hk; exact absurd hk (Nat.not_lt_zero _)
  | succ fu ih =>
    intro i hk hi
    refine j_ild2 dX8_asideMany_4 ?_
    refine j_ald0 dX8_asideMany_5 ?_
    refine j_getI (k := 1) dX8_asideMany_6 cX8_ok (Or.inl f8_145) rfl (by decide) (by decide) (by decide) ?_
    refine j_top (y := nI n) (hn) ?_
    refine j_icmpge 27 dX8_asideMany_9 (by decide) (fun c_9 => ?_) (fun c_9 => ?_)
    · have q_9 : i = n := by have := (nI_leI (a := n) (b := i) (by omega) (by omega)).mp c_9; omega
      subst q_9
      refine j_ild1 dX8_asideMany_27 ?_
      refine j_iret dX8_asideMany_28 rfl ?_
      exact ⟨rfl, rfl⟩
    have q_9 : i < n := Nat.not_le.mp (fun z => c_9 ((nI_leI (a := n) (b := i) (by omega) (by omega)).mpr z))
    refine j_ild1 dX8_asideMany_12 ?_
    refine j_ald0 dX8_asideMany_13 ?_
    refine j_getR (k := 5) (65) dX8_asideMany_14 cX8_ok (Or.inl f8_21) rfl (by decide) (by decide) (by decide) rfl ?_
    refine j_ild2 dX8_asideMany_17 ?_
    refine j_iald (n := i) dX8_asideMany_18 rfl (by decide) rfl (by omega) (by decide) ?_
    refine j_top (y := nI (as i)) (hd.1 i (by omega)) ?_
    refine j_iadd dX8_asideMany_19 ?_
    refine j_top (y := nI (sumN as (i + 1))) (nI_add _ _) ?_
    refine j_ist1 dX8_asideMany_20 rfl (by decide) ?_
    refine j_iinc2 (nI (i + 1)) dX8_asideMany_21 (nI_1 i) rfl (by decide) ?_
    refine j_goto 4 dX8_asideMany_24 (by decide) ?_
    exact ih (i + 1) (by omega) (by omega)

set_option maxRecDepth 20000 in
theorem s_X8_asideMany (hn : S.1 61 1 = nI n) (hn8 : n ≤ 8) (hd : DRb as ld l S) : Rt a mX8_asideMany 0 [.ref (a 61)] S (some (.int (nI (sumN as n)))) S := by
  show J _ _ _ _ 0 [_, .null, .null] [] _
  refine j_iconst (0) dX8_asideMany_0 rfl ?_
  refine j_ist1 dX8_asideMany_1 rfl (by decide) ?_
  refine j_iconst (0) dX8_asideMany_2 rfl ?_
  refine j_ist2 dX8_asideMany_3 rfl (by decide) ?_
  exact lp_X8_asideMany hn hn8 hd (n + 1) 0 (by omega) (by omega)

set_option maxRecDepth 20000 in
theorem lp_X8_putBack {w : Int32} (hn8 : n ≤ 8) (ha : ∀ i, i < 8 → as i ≤ 2 ^ 20) : ∀ (fu : Nat) (i : Nat) (S1 : St), n - i < fu → (i ≤ n) → (TR n (seg v (mn9 v as) i) S1 ∧ HR k u h S1 ∧ DRb (seg1 as (fun _ => 0) i) ld l S1 ∧ ImR im S1 ∧ Kp [11, 15] S S1) → J a mX8_putBack 2 (gm a fun r S' => r = some (.int w) ∧ TR n (seg v (mn9 v as) n) S' ∧ HR k u h S' ∧ DRb (seg1 as (fun _ => 0) n) ld l S' ∧ ImR im S' ∧ Kp [11, 15] S S') 7 [.ref (a 61), .int w, .int (nI i)] [] S1 := by
  intro fu
  induction fu with
  | zero => intro i S1 hk; exact absurd hk (Nat.not_lt_zero _)
  | succ fu ih =>
    intro i S1 hk hi hq
    refine j_ild2 dX8_putBack_7 ?_
    refine j_ald0 dX8_putBack_8 ?_
    refine j_getI (k := 1) dX8_putBack_9 cX8_ok (Or.inl f8_145) rfl (by decide) (by decide) (by decide) ?_
    refine j_top (y := nI n) (hq.1.1) ?_
    refine j_icmpge 70 dX8_putBack_12 (by decide) (fun c_12 => ?_) (fun c_12 => ?_)
    · have q_12 : i = n := by have := (nI_leI (a := n) (b := i) (by omega) (by omega)).mp c_12; omega
      subst q_12
      refine j_ild1 dX8_putBack_70 ?_
      refine j_iret dX8_putBack_71 rfl ?_
      exact ⟨rfl, hq⟩
    have q_12 : i < n := Nat.not_le.mp (fun z => c_12 ((nI_leI (a := n) (b := i) (by omega) (by omega)).mpr z))
    obtain ⟨k1, k2, k3, k4, k5⟩ := hq
    have ha1 := ha i (by omega)
    have h9 : seg v (mn9 v as) i 0 i ≤ 9 := k1.2.2.2 0 (by decide) i (by omega)
    rw [seg_at (by omega)] at h9
    refine j_ald0 dX8_putBack_15 ?_
    refine j_getR (k := 2) (62) dX8_putBack_16 cX8_ok (Or.inl f8_9) rfl (by decide) (by decide) (by decide) rfl ?_
    refine j_ild2 dX8_putBack_19 ?_
    refine j_ald0 dX8_putBack_20 ?_
    refine j_getR (k := 2) (62) dX8_putBack_21 cX8_ok (Or.inl f8_9) rfl (by decide) (by decide) (by decide) rfl ?_
    refine j_ild2 dX8_putBack_24 ?_
    refine j_iald (n := i) dX8_putBack_25 rfl (by decide) rfl (by omega) (by decide) ?_
    refine j_top (y := nI (v 0 i)) ((k1.many (by omega)).trans (by rw [seg_at (by omega)])) ?_
    refine j_ald0 dX8_putBack_26 ?_
    refine j_getR (k := 5) (65) dX8_putBack_27 cX8_ok (Or.inl f8_21) rfl (by decide) (by decide) (by decide) rfl ?_
    refine j_ild2 dX8_putBack_30 ?_
    refine j_iald (n := i) dX8_putBack_31 rfl (by decide) rfl (by omega) (by decide) ?_
    refine j_top (y := nI (as i)) ((k3.1 i (by omega)).trans (by rw [seg1_at (by omega)])) ?_
    refine j_iadd dX8_putBack_32 ?_
    refine j_top (y := nI (v 0 i + as i)) (nI_add _ _) ?_
    refine j_bipush (9) dX8_putBack_33 rfl ?_
    refine j_icmple 43 dX8_putBack_35 (by decide) (fun c_35 => ?_) (fun c_35 => ?_)
    · have q_35 : v 0 i + as i ≤ 9 := (nI_leI (a := v 0 i + as i) (b := 9) (by omega) (by decide)).mp c_35
      have e2 : mn9 v as i = v 0 i + as i := by unfold mn9; split <;> omega
      refine j_ald0 dX8_putBack_43 ?_
      refine j_getR (k := 2) (62) dX8_putBack_44 cX8_ok (Or.inl f8_9) rfl (by decide) (by decide) (by decide) rfl ?_
      refine j_ild2 dX8_putBack_47 ?_
      refine j_iald (n := i) dX8_putBack_48 rfl (by decide) rfl (by omega) (by decide) ?_
      refine j_top (y := nI (v 0 i)) ((k1.many (by omega)).trans (by rw [seg_at (by omega)])) ?_
      refine j_ald0 dX8_putBack_49 ?_
      refine j_getR (k := 5) (65) dX8_putBack_50 cX8_ok (Or.inl f8_21) rfl (by decide) (by decide) (by decide) rfl ?_
      refine j_ild2 dX8_putBack_53 ?_
      refine j_iald (n := i) dX8_putBack_54 rfl (by decide) rfl (by omega) (by decide) ?_
      refine j_top (y := nI (as i)) ((k3.1 i (by omega)).trans (by rw [seg1_at (by omega)])) ?_
      refine j_iadd dX8_putBack_55 ?_
      refine j_top (y := nI (v 0 i + as i)) (nI_add _ _) ?_
      refine j_top (y := nI (mn9 v as i)) (by rw [e2] <;> rfl) ?_
      refine j_iast (n := i) dX8_putBack_56 rfl (by decide) rfl (by omega) (by decide) ?_
      refine j_ald0 dX8_putBack_57 ?_
      refine j_getR (k := 5) (65) dX8_putBack_58 cX8_ok (Or.inl f8_21) rfl (by decide) (by decide) (by decide) rfl ?_
      refine j_ild2 dX8_putBack_61 ?_
      refine j_iconst (0) dX8_putBack_62 rfl ?_
      refine j_iast (n := i) dX8_putBack_63 rfl (by decide) rfl (by omega) (by decide) ?_
      refine j_iinc2 (nI (i + 1)) dX8_putBack_64 (nI_1 i) rfl (by decide) ?_
      refine j_goto 7 dX8_putBack_67 (by decide) ?_
      refine ih (i + 1) _ (by omega) (by omega) ⟨?_, ?_, ?_, ?_, ?_⟩
      · rw [seg_s]
        exact (k1.w0 (by omega) (mn9_le v as i)).kp (Kp_uI (rs := [15]) Kp.rf (by show 15 ∈ [15]; decide)) (by decide)
      · exact (k2.w0).kp (Kp_uI (rs := [15]) Kp.rf (by show 15 ∈ [15]; decide)) (by decide)
      · rw [seg1_s]
        exact (k3.wI (by omega) (by omega)).was
      · exact (k4.wI (by omega) (by omega)).wI (by omega) (by omega)
      · exact Kp_uI (Kp_uI k5 (by show 11 ∈ [11, 15]; decide)) (by show 15 ∈ [11, 15]; decide)
    have q_35 : ¬ v 0 i + as i ≤ 9 := fun z => c_35 ((nI_leI (a := v 0 i + as i) (b := 9) (by omega) (by decide)).mpr z)
    have e2 : mn9 v as i = 9 := by unfold mn9; split <;> omega
    refine j_bipush (9) dX8_putBack_38 rfl ?_
    refine j_goto 56 dX8_putBack_40 (by decide) ?_
    refine j_top (y := nI (mn9 v as i)) (by rw [e2] <;> rfl) ?_
    refine j_iast (n := i) dX8_putBack_56 rfl (by decide) rfl (by omega) (by decide) ?_
    refine j_ald0 dX8_putBack_57 ?_
    refine j_getR (k := 5) (65) dX8_putBack_58 cX8_ok (Or.inl f8_21) rfl (by decide) (by decide) (by decide) rfl ?_
    refine j_ild2 dX8_putBack_61 ?_
    refine j_iconst (0) dX8_putBack_62 rfl ?_
    refine j_iast (n := i) dX8_putBack_63 rfl (by decide) rfl (by omega) (by decide) ?_
    refine j_iinc2 (nI (i + 1)) dX8_putBack_64 (nI_1 i) rfl (by decide) ?_
    refine j_goto 7 dX8_putBack_67 (by decide) ?_
    refine ih (i + 1) _ (by omega) (by omega) ⟨?_, ?_, ?_, ?_, ?_⟩
    · rw [seg_s]
      exact (k1.w0 (by omega) (mn9_le v as i)).kp (Kp_uI (rs := [15]) Kp.rf (by show 15 ∈ [15]; decide)) (by decide)
    · exact (k2.w0).kp (Kp_uI (rs := [15]) Kp.rf (by show 15 ∈ [15]; decide)) (by decide)
    · rw [seg1_s]
      exact (k3.wI (by omega) (by omega)).was
    · exact (k4.wI (by omega) (by omega)).wI (by omega) (by omega)
    · exact Kp_uI (Kp_uI k5 (by show 11 ∈ [11, 15]; decide)) (by show 15 ∈ [11, 15]; decide)

set_option maxRecDepth 20000 in
theorem s_X8_putBack (ht : TR n v S) (hh : HR k u h S) (hd : DRb as ld l S) (hi : ImR im S) (ha : ∀ i, i < 8 → as i ≤ 2 ^ 20) : Rqi a mX8_putBack 2 [.ref (a 61)] S fun z S' => z = nI (sumN as n) ∧ TR n (seg v (mn9 v as) n) S' ∧ HR k u h S' ∧ DRb (seg1 as (fun _ => 0) n) ld l S' ∧ ImR im S' ∧ Kp [11, 15] S S' := by
  show J _ _ _ _ 0 [_, .null, .null] [] _
  refine j_ald0 dX8_putBack_0 ?_
  refine j_cV0 dX8_putBack_1 kX8_asideMany l8_354 rfl (by decide) rfl (Nat.le_of_ble_eq_true rfl) (Nat.le_of_ble_eq_true rfl) (by omega) (s_X8_asideMany ht.1 ht.2.1 hd) ?_
  refine j_ist1 dX8_putBack_4 rfl (by decide) ?_
  refine j_iconst (0) dX8_putBack_5 rfl ?_
  refine j_ist2 dX8_putBack_6 rfl (by decide) ?_
  refine J.post (lp_X8_putBack (n := n) (k := k) (u := u) (h := h) (v := v) (l := l) (ld := ld) (im := im) (S := S) ht.2.1 ha (n + 1) 0 S (by omega) (by omega) ⟨by rw [seg_0]; exact ht, hh, by rw [seg1_0]; exact hd, hi, Kp.rf⟩) (fun r' S' hq => ⟨_, hq.1, rfl, hq.2⟩)

set_option maxRecDepth 20000 in
theorem lp_X8_image2 (ht : TR n v S) : ∀ (fu : Nat) (i : Nat) (S1 : St), 6 - i < fu → (i ≤ 6) → ((∀ j, j < n → S1.1 91 j = nI (v 0 j) ∧ S1.1 92 j = nI (as j)) ∧ DRb as ld l S1 ∧ S1.1 61 45 = nI n ∧ S1.1 61 46 = rLt l ∧ Kp [15] S S1) → (∀ c, c < i → S1.1 93 c = ld c) → J a mX8_image 3 (gm a fun r S' => ∃ z, r = some (.int z) ∧ z = nI (sumN (v 0) n) ∧ Kp [15] S S' ∧ DRb as ld l S' ∧ ImR (some (n, v 0, as, ld, l)) S') 58 [.ref (a 61), .int (nI i)] [] S1 := by
  intro fu
  induction fu with
  | zero => intro i S1 hk; exact absurd hk (Nat.not_lt_zero _)
  | succ fu ih =>
    intro i S1 hk hi hq hc
    refine j_ild1 dX8_image_58 ?_
    refine j_bipush (6) dX8_image_59 rfl ?_
    refine j_icmpge 82 dX8_image_61 (by decide) (fun c_61 => ?_) (fun c_61 => ?_)
    · have q_61 : i = 6 := by have := (nI_leI (a := 6) (b := i) (by decide) (by omega)).mp c_61; omega
      subst q_61
      refine j_ald0 dX8_image_82 ?_
      refine j_cV0 dX8_image_83 kX8_allCards l8_196 rfl (by decide) rfl (Nat.le_of_ble_eq_true rfl) (Nat.le_of_ble_eq_true rfl) (by omega) (s_X8_allCards (ht.kp hq.2.2.2.2 (by decide))) ?_
      refine j_iret dX8_image_86 rfl ?_
      exact ⟨_, rfl, rfl, hq.2.2.2.2, hq.2.1, hq.2.2.1, hq.1, hc, hq.2.2.2.1⟩
    have q_61 : i < 6 := Nat.not_le.mp (fun z => c_61 ((nI_leI (a := 6) (b := i) (by decide) (by omega)).mpr z))
    obtain ⟨k1, k2, k3, k4, k5⟩ := hq
    refine j_ald0 dX8_image_64 ?_
    refine j_getR (k := 49) (93) dX8_image_65 cX8_ok (Or.inl f8_120) rfl (by decide) (by decide) (by decide) rfl ?_
    refine j_ild1 dX8_image_68 ?_
    refine j_ald0 dX8_image_69 ?_
    refine j_getR (k := 21) (77) dX8_image_70 cX8_ok (Or.inl f8_64) rfl (by decide) (by decide) (by decide) rfl ?_
    refine j_ild1 dX8_image_73 ?_
    refine j_iald (n := i) dX8_image_74 rfl (by decide) rfl (by omega) (by decide) ?_
    refine j_top (y := ld i) (k2.2.1 i q_61) ?_
    refine j_iast (n := i) dX8_image_75 rfl (by decide) rfl (by omega) (by decide) ?_
    refine j_iinc1 (nI (i + 1)) dX8_image_76 (nI_1 i) rfl (by decide) ?_
    refine j_goto 58 dX8_image_79 (by decide) ?_
    refine ih (i + 1) _ (by omega) (by omega) ⟨fun j hj => ?_, k2.wI (by omega) (by omega), ?_, ?_, Kp_uI k5 (by show 15 ∈ [15]; decide)⟩ (fun c hc2 => ?_)
    · rw [uI_at, if_neg (by omega), uI_at, if_neg (by omega)]; exact k1 j hj
    · rw [uI_at, if_neg (by omega)]; exact k3
    · rw [uI_at, if_neg (by omega)]; exact k4
    · rw [uI_at]
      by_cases e : c = i
      · rw [if_pos ⟨rfl, e⟩, e]
      · rw [if_neg (fun z => e z.2)]; exact hc c (by omega)

set_option maxRecDepth 20000 in
theorem lp_X8_image (ht : TR n v S) : ∀ (fu : Nat) (i : Nat) (S1 : St), n - i < fu → (i ≤ n) → ((∀ j, j < i → S1.1 91 j = nI (v 0 j) ∧ S1.1 92 j = nI (as j)) ∧ DRb as ld l S1 ∧ S1.1 61 45 = nI n ∧ S1.1 61 46 = rLt l ∧ Kp [15] S S1) → J a mX8_image 3 (gm a fun r S' => ∃ z, r = some (.int z) ∧ z = nI (sumN (v 0) n) ∧ Kp [15] S S' ∧ DRb as ld l S' ∧ ImR (some (n, v 0, as, ld, l)) S') 18 [.ref (a 61), .int (nI i)] [] S1 := by
  intro fu
  induction fu with
  | zero => intro i S1 hk; exact absurd hk (Nat.not_lt_zero _)
  | succ fu ih =>
    intro i S1 hk hi hq
    have hn8 := ht.2.1
    refine j_ild1 dX8_image_18 ?_
    refine j_ald0 dX8_image_19 ?_
    refine j_getI (k := 1) dX8_image_20 cX8_ok (Or.inl f8_145) rfl (by decide) (by decide) (by decide) ?_
    refine j_top (y := nI n) ((ht.kp hq.2.2.2.2 (by decide)).1) ?_
    refine j_icmpge 56 dX8_image_23 (by decide) (fun c_23 => ?_) (fun c_23 => ?_)
    · have q_23 : i = n := by have := (nI_leI (a := n) (b := i) (by omega) (by omega)).mp c_23; omega
      subst q_23
      refine j_iconst (0) dX8_image_56 rfl ?_
      refine j_ist1 dX8_image_57 rfl (by decide) ?_
      exact lp_X8_image2 ht 7 0 S1 (by omega) (by omega) hq (fun c hc => absurd hc (Nat.not_lt_zero _))
    have q_23 : i < n := Nat.not_le.mp (fun z => c_23 ((nI_leI (a := n) (b := i) (by omega) (by omega)).mpr z))
    obtain ⟨k1, k2, k3, k4, k5⟩ := hq
    have ht1 := ht.kp k5 (by decide)
    refine j_ald0 dX8_image_26 ?_
    refine j_getR (k := 47) (91) dX8_image_27 cX8_ok (Or.inl f8_114) rfl (by decide) (by decide) (by decide) rfl ?_
    refine j_ild1 dX8_image_30 ?_
    refine j_ald0 dX8_image_31 ?_
    refine j_getR (k := 2) (62) dX8_image_32 cX8_ok (Or.inl f8_9) rfl (by decide) (by decide) (by decide) rfl ?_
    refine j_ild1 dX8_image_35 ?_
    refine j_iald (n := i) dX8_image_36 rfl (by decide) rfl (by omega) (by decide) ?_
    refine j_top (y := nI (v 0 i)) (ht1.many (by omega)) ?_
    refine j_iast (n := i) dX8_image_37 rfl (by decide) rfl (by omega) (by decide) ?_
    refine j_ald0 dX8_image_38 ?_
    refine j_getR (k := 48) (92) dX8_image_39 cX8_ok (Or.inl f8_117) rfl (by decide) (by decide) (by decide) rfl ?_
    refine j_ild1 dX8_image_42 ?_
    refine j_ald0 dX8_image_43 ?_
    refine j_getR (k := 5) (65) dX8_image_44 cX8_ok (Or.inl f8_21) rfl (by decide) (by decide) (by decide) rfl ?_
    refine j_ild1 dX8_image_47 ?_
    refine j_iald (n := i) dX8_image_48 rfl (by decide) rfl (by omega) (by decide) ?_
    refine j_top (y := nI (as i)) (by rw [uI_at, if_neg (by omega)]; exact k2.1 i (by omega)) ?_
    refine j_iast (n := i) dX8_image_49 rfl (by decide) rfl (by omega) (by decide) ?_
    refine j_iinc1 (nI (i + 1)) dX8_image_50 (nI_1 i) rfl (by decide) ?_
    refine j_goto 18 dX8_image_53 (by decide) ?_
    refine ih (i + 1) _ (by omega) (by omega) ⟨fun j hj => ?_, (k2.wI (by omega) (by omega)).wI (by omega) (by omega), ?_, ?_, Kp_uI (Kp_uI k5 (by show 15 ∈ [15]; decide)) (by show 15 ∈ [15]; decide)⟩
    · by_cases e : j = i
      · subst e
        exact ⟨by rw [uI_at, if_neg (by omega), uI_at, if_pos ⟨rfl, rfl⟩], by rw [uI_at, if_pos ⟨rfl, rfl⟩]⟩
      · rw [uI_at, if_neg (by omega), uI_at, if_neg (by omega), uI_at, if_neg (by omega), uI_at, if_neg (by omega)]; exact k1 j (by omega)
    · rw [uI_at, if_neg (by omega), uI_at, if_neg (by omega)]; exact k3
    · rw [uI_at, if_neg (by omega), uI_at, if_neg (by omega)]; exact k4

set_option maxRecDepth 20000 in
theorem s_X8_image (ht : TR n v S) (hd : DRb as ld l S) : Rqi a mX8_image 3 [.ref (a 61)] S fun z S' => z = nI (sumN (v 0) n) ∧ Kp [15] S S' ∧ DRb as ld l S' ∧ ImR (some (n, v 0, as, ld, l)) S' := by
  show J _ _ _ _ 0 [_, .null] [] _
  refine j_ald0 dX8_image_0 ?_
  refine j_ald0 dX8_image_1 ?_
  refine j_getI (k := 1) dX8_image_2 cX8_ok (Or.inl f8_145) rfl (by decide) (by decide) (by decide) ?_
  refine j_top (y := nI n) (ht.1) ?_
  refine j_putI (k := 45) dX8_image_5 cX8_ok (Or.inl f8_111) rfl (by decide) (by decide) (by decide) rfl ?_
  refine j_ald0 dX8_image_8 ?_
  refine j_ald0 dX8_image_9 ?_
  refine j_getI (k := 22) dX8_image_10 cX8_ok (Or.inl f8_67) rfl (by decide) (by decide) (by decide) ?_
  refine j_top (y := rLt l) (by rw [uI_at, if_neg (by omega)]; exact hd.2.2) ?_
  refine j_putI (k := 46) dX8_image_13 cX8_ok (Or.inl f8_357) rfl (by decide) (by decide) (by decide) rfl ?_
  refine j_iconst (0) dX8_image_16 rfl ?_
  refine j_ist1 dX8_image_17 rfl (by decide) ?_
  refine lp_X8_image ht (n + 1) 0 _ (by omega) (by omega) ⟨fun j hj => absurd hj (Nat.not_lt_zero _), (hd.wI (by omega) (by omega)).wI (by omega) (by omega), ?_, ?_, Kp_uI (Kp_uI Kp.rf (by decide)) (by decide)⟩
  · rw [uI_at, if_neg (by omega), uI_at, if_pos ⟨rfl, rfl⟩]
  · rw [uI_at, if_pos ⟨rfl, rfl⟩]

set_option maxRecDepth 20000 in
theorem lp_X8_back2 : ∀ (fu : Nat) (i : Nat) (S1 : St), 6 - i < fu → (i ≤ 6) → (TR n (seg v m.2.1 m.1) S1 ∧ HR k u h S1 ∧ DRb (seg1 as m.2.2.1 m.1) (seg1 ld m.2.2.2.1 i) m.2.2.2.2 S1 ∧ ImR (some m) S1 ∧ Kp [11, 15] S S1) → J a mX8_back 3 (gm a fun r S' => ∃ z, r = some (.int z) ∧ z = nI (sumN (seg v m.2.1 m.1 0) n) ∧ TR n (seg v m.2.1 m.1) S' ∧ HR k u h S' ∧ DRb (seg1 as m.2.2.1 m.1) m.2.2.2.1 m.2.2.2.2 S' ∧ ImR (some m) S' ∧ Kp [11, 15] S S') 60 [.ref (a 61), .int (nI i)] [] S1 := by
  intro fu
  induction fu with
  | zero => intro i S1 hk; exact absurd hk (Nat.not_lt_zero _)
  | succ fu ih =>
    intro i S1 hk hi hq
    refine j_ild1 dX8_back_60 ?_
    refine j_bipush (6) dX8_back_61 rfl ?_
    refine j_icmpge 84 dX8_back_63 (by decide) (fun c_63 => ?_) (fun c_63 => ?_)
    · have q_63 : i = 6 := by have := (nI_leI (a := 6) (b := i) (by decide) (by omega)).mp c_63; omega
      subst q_63
      refine j_ald0 dX8_back_84 ?_
      refine j_cV0 dX8_back_85 kX8_allCards l8_196 rfl (by decide) rfl (Nat.le_of_ble_eq_true rfl) (Nat.le_of_ble_eq_true rfl) (by omega) (s_X8_allCards hq.1) ?_
      refine j_iret dX8_back_88 rfl ?_
      exact ⟨_, rfl, rfl, hq.1, hq.2.1, ⟨hq.2.2.1.1, fun c hc => (hq.2.2.1.2.1 c hc).trans (by unfold seg1; rw [if_pos hc]), hq.2.2.1.2.2⟩, hq.2.2.2.1, hq.2.2.2.2⟩
    have q_63 : i < 6 := Nat.not_le.mp (fun z => c_63 ((nI_leI (a := 6) (b := i) (by decide) (by omega)).mpr z))
    obtain ⟨k1, k2, k3, k4, k5⟩ := hq
    refine j_ald0 dX8_back_66 ?_
    refine j_getR (k := 21) (77) dX8_back_67 cX8_ok (Or.inl f8_64) rfl (by decide) (by decide) (by decide) rfl ?_
    refine j_ild1 dX8_back_70 ?_
    refine j_ald0 dX8_back_71 ?_
    refine j_getR (k := 49) (93) dX8_back_72 cX8_ok (Or.inl f8_120) rfl (by decide) (by decide) (by decide) rfl ?_
    refine j_ild1 dX8_back_75 ?_
    refine j_iald (n := i) dX8_back_76 rfl (by decide) rfl (by omega) (by decide) ?_
    refine j_top (y := m.2.2.2.1 i) (k4.2.2.1 i q_63) ?_
    refine j_iast (n := i) dX8_back_77 rfl (by decide) rfl (by omega) (by decide) ?_
    refine j_iinc1 (nI (i + 1)) dX8_back_78 (nI_1 i) rfl (by decide) ?_
    refine j_goto 60 dX8_back_81 (by decide) ?_
    refine ih (i + 1) _ (by omega) (by omega) ⟨k1.kp (Kp_uI (rs := [15]) Kp.rf (by show 15 ∈ [15]; decide)) (by decide), k2.kp (Kp_uI (rs := [15]) Kp.rf (by show 15 ∈ [15]; decide)) (by decide), ?_, k4.wI (by omega) (by omega), Kp_uI k5 (by show 15 ∈ [11, 15]; decide)⟩
    rw [seg1_s]
    exact k3.wld

set_option maxRecDepth 20000 in
theorem lp_X8_back (hm : m.1 ≤ n) (hm9 : ∀ i, i < m.1 → m.2.1 i ≤ 9) (hn8 : n ≤ 8) : ∀ (fu : Nat) (i : Nat) (S1 : St), m.1 - i < fu → (i ≤ m.1) → (TR n (seg v m.2.1 i) S1 ∧ HR k u h S1 ∧ DRb (seg1 as m.2.2.1 i) ld m.2.2.2.2 S1 ∧ ImR (some m) S1 ∧ Kp [11, 15] S S1) → J a mX8_back 3 (gm a fun r S' => ∃ z, r = some (.int z) ∧ z = nI (sumN (seg v m.2.1 m.1 0) n) ∧ TR n (seg v m.2.1 m.1) S' ∧ HR k u h S' ∧ DRb (seg1 as m.2.2.1 m.1) m.2.2.2.1 m.2.2.2.2 S' ∧ ImR (some m) S' ∧ Kp [11, 15] S S') 20 [.ref (a 61), .int (nI i)] [] S1 := by
  intro fu
  induction fu with
  | zero => intro i S1 hk; exact absurd hk (Nat.not_lt_zero _)
  | succ fu ih =>
    intro i S1 hk hi hq
    refine j_ild1 dX8_back_20 ?_
    refine j_ald0 dX8_back_21 ?_
    refine j_getI (k := 45) dX8_back_22 cX8_ok (Or.inl f8_111) rfl (by decide) (by decide) (by decide) ?_
    refine j_top (y := nI m.1) (hq.2.2.2.1.1) ?_
    refine j_icmpge 58 dX8_back_25 (by decide) (fun c_25 => ?_) (fun c_25 => ?_)
    · have q_25 : i = m.1 := by have := (nI_leI (a := m.1) (b := i) (by omega) (by omega)).mp c_25; omega
      subst q_25
      refine j_iconst (0) dX8_back_58 rfl ?_
      refine j_ist1 dX8_back_59 rfl (by decide) ?_
      exact lp_X8_back2 7 0 S1 (by omega) (by omega) (by rw [seg1_0]; exact hq)
    have q_25 : i < m.1 := Nat.not_le.mp (fun z => c_25 ((nI_leI (a := m.1) (b := i) (by omega) (by omega)).mpr z))
    obtain ⟨k1, k2, k3, k4, k5⟩ := hq
    obtain ⟨im1, im2⟩ := k4.2.1 i q_25
    refine j_ald0 dX8_back_28 ?_
    refine j_getR (k := 2) (62) dX8_back_29 cX8_ok (Or.inl f8_9) rfl (by decide) (by decide) (by decide) rfl ?_
    refine j_ild1 dX8_back_32 ?_
    refine j_ald0 dX8_back_33 ?_
    refine j_getR (k := 47) (91) dX8_back_34 cX8_ok (Or.inl f8_114) rfl (by decide) (by decide) (by decide) rfl ?_
    refine j_ild1 dX8_back_37 ?_
    refine j_iald (n := i) dX8_back_38 rfl (by decide) rfl (by omega) (by decide) ?_
    refine j_top (y := nI (m.2.1 i)) im1 ?_
    refine j_iast (n := i) dX8_back_39 rfl (by decide) rfl (by omega) (by decide) ?_
    refine j_ald0 dX8_back_40 ?_
    refine j_getR (k := 5) (65) dX8_back_41 cX8_ok (Or.inl f8_21) rfl (by decide) (by decide) (by decide) rfl ?_
    refine j_ild1 dX8_back_44 ?_
    refine j_ald0 dX8_back_45 ?_
    refine j_getR (k := 48) (92) dX8_back_46 cX8_ok (Or.inl f8_117) rfl (by decide) (by decide) (by decide) rfl ?_
    refine j_ild1 dX8_back_49 ?_
    refine j_iald (n := i) dX8_back_50 rfl (by decide) rfl (by omega) (by decide) ?_
    refine j_top (y := nI (m.2.2.1 i)) (by rw [uI_at, if_neg (by omega)]; exact im2) ?_
    refine j_iast (n := i) dX8_back_51 rfl (by decide) rfl (by omega) (by decide) ?_
    refine j_iinc1 (nI (i + 1)) dX8_back_52 (nI_1 i) rfl (by decide) ?_
    refine j_goto 20 dX8_back_55 (by decide) ?_
    refine ih (i + 1) _ (by omega) (by omega) ⟨?_, ?_, ?_, ?_, ?_⟩
    · rw [seg_s]
      exact (k1.w0 (by omega) (hm9 i q_25)).kp (Kp_uI (rs := [15]) Kp.rf (by show 15 ∈ [15]; decide)) (by decide)
    · exact (k2.w0).kp (Kp_uI (rs := [15]) Kp.rf (by show 15 ∈ [15]; decide)) (by decide)
    · rw [seg1_s]
      exact (k3.wI (by omega) (by omega)).was
    · exact (k4.wI (by omega) (by omega)).wI (by omega) (by omega)
    · exact Kp_uI (Kp_uI k5 (by show 11 ∈ [11, 15]; decide)) (by show 15 ∈ [11, 15]; decide)

set_option maxRecDepth 20000 in
theorem s_X8_back_0 (hi : ImR none S) : Rt a mX8_back 3 [.ref (a 61)] S (some (.int (-5))) S := by
  show J _ _ _ _ 0 [_, .null] [] _
  refine j_ald0 dX8_back_0 ?_
  refine j_getI (k := 45) dX8_back_1 cX8_ok (Or.inl f8_111) rfl (by decide) (by decide) (by decide) ?_
  refine j_ifge 10 dX8_back_4 (by decide) (fun c_4 => absurd c_4 (fun z => absurd z (by rw [show S.1 61 45 = -1 from hi]; decide))) (fun c_4 => ?_)
  refine j_bipush (-5) dX8_back_7 rfl ?_
  refine j_iret dX8_back_9 rfl ?_
  exact ⟨rfl, rfl⟩

set_option maxRecDepth 20000 in
theorem s_X8_back (ht : TR n v S) (hh : HR k u h S) (hd : DRb as ld l S) (hi : ImR (some m) S) (hm : m.1 ≤ n) (hm9 : ∀ i, i < m.1 → m.2.1 i ≤ 9) : Rqi a mX8_back 3 [.ref (a 61)] S fun z S' => z = nI (sumN (seg v m.2.1 m.1 0) n) ∧ TR n (seg v m.2.1 m.1) S' ∧ HR k u h S' ∧ DRb (seg1 as m.2.2.1 m.1) m.2.2.2.1 m.2.2.2.2 S' ∧ ImR (some m) S' ∧ Kp [11, 15] S S' := by
  show J _ _ _ _ 0 [_, .null] [] _
  refine j_ald0 dX8_back_0 ?_
  refine j_getI (k := 45) dX8_back_1 cX8_ok (Or.inl f8_111) rfl (by decide) (by decide) (by decide) ?_
  refine j_ifge 10 dX8_back_4 (by decide) (fun c_4 => ?_) (fun c_4 => absurd (by rw [show S.1 61 45 = nI m.1 from hi.1]; exact nI_pos' (by have := ht.2.1; omega)) c_4)
  refine j_ald0 dX8_back_10 ?_
  refine j_ald0 dX8_back_11 ?_
  refine j_getI (k := 46) dX8_back_12 cX8_ok (Or.inl f8_357) rfl (by decide) (by decide) (by decide) ?_
  refine j_top (y := rLt m.2.2.2.2) (hi.2.2.2) ?_
  refine j_putI (k := 22) dX8_back_15 cX8_ok (Or.inl f8_67) rfl (by decide) (by decide) (by decide) rfl ?_
  refine j_iconst (0) dX8_back_18 rfl ?_
  refine j_ist1 dX8_back_19 rfl (by decide) ?_
  exact lp_X8_back hm hm9 ht.2.1 (m.1 + 1) 0 _ (by omega) (by omega) ⟨by rw [seg_0]; exact ht.kp (Kp_uI (rs := [15]) Kp.rf (by decide)) (by decide), hh.kp (Kp_uI (rs := [15]) Kp.rf (by decide)) (by decide), by rw [seg1_0]; exact hd.wlt, hi.wI (by omega) (by omega), Kp_uI Kp.rf (by decide)⟩

set_option maxRecDepth 20000 in
theorem s_X8_count {x : Int32} (hn : S.1 61 1 = nI n) (hn8 : n ≤ 8) (hd : DRb as ld l S) : Rt a mX8_count 2 [.ref (a 61), .int x] S (some (.int (ctV (S.1 61 1) (nI (sumN as n)) (S.1 61 24) (S.1 61 15) (S.1 61 50) (S.1 61 52) x))) S := by
  show J _ _ _ _ 0 [_, _] [] _
  refine j_ild1 dX8_count_0 ?_
  refine j_topi (fun y_1 e_1 => ?_)
  by_cases h_1_0 : y_1 = 0
  · rw [h_1_0] at e_1 ⊢
    refine j_tblIn (39) 40 dX8_count_1 (by decide) (by decide) rfl (by decide) ?_
    refine j_ald0 dX8_count_40 ?_
    refine j_getI (k := 1) dX8_count_41 cX8_ok (Or.inl f8_145) rfl (by decide) (by decide) (by decide) ?_
    refine j_iret dX8_count_44 rfl ?_
    exact ⟨by rw [← e_1]; rfl, rfl⟩
  by_cases h_1_1 : y_1 = 1
  · rw [h_1_1] at e_1 ⊢
    refine j_tblIn (44) 45 dX8_count_1 (by decide) (by decide) rfl (by decide) ?_
    refine j_ald0 dX8_count_45 ?_
    refine j_cV0 dX8_count_46 kX8_asideMany l8_354 rfl (by decide) rfl (Nat.le_of_ble_eq_true rfl) (Nat.le_of_ble_eq_true rfl) (by omega) (s_X8_asideMany hn hn8 hd) ?_
    refine j_iret dX8_count_49 rfl ?_
    exact ⟨by rw [← e_1]; rfl, rfl⟩
  by_cases h_1_2 : y_1 = 2
  · rw [h_1_2] at e_1 ⊢
    refine j_tblIn (49) 50 dX8_count_1 (by decide) (by decide) rfl (by decide) ?_
    refine j_ald0 dX8_count_50 ?_
    refine j_getI (k := 24) dX8_count_51 cX8_ok (Or.inl f8_200) rfl (by decide) (by decide) (by decide) ?_
    refine j_iret dX8_count_54 rfl ?_
    exact ⟨by rw [← e_1]; rfl, rfl⟩
  by_cases h_1_3 : y_1 = 3
  · rw [h_1_3] at e_1 ⊢
    refine j_tblIn (54) 55 dX8_count_1 (by decide) (by decide) rfl (by decide) ?_
    refine j_ald0 dX8_count_55 ?_
    refine j_getI (k := 15) dX8_count_56 cX8_ok (Or.inl f8_175) rfl (by decide) (by decide) (by decide) ?_
    refine j_iret dX8_count_59 rfl ?_
    exact ⟨by rw [← e_1]; rfl, rfl⟩
  by_cases h_1_4 : y_1 = 4
  · rw [h_1_4] at e_1 ⊢
    refine j_tblIn (59) 60 dX8_count_1 (by decide) (by decide) rfl (by decide) ?_
    refine j_ald0 dX8_count_60 ?_
    refine j_getI (k := 50) dX8_count_61 cX8_ok (Or.inl f8_360) rfl (by decide) (by decide) (by decide) ?_
    refine j_iret dX8_count_64 rfl ?_
    exact ⟨by rw [← e_1]; rfl, rfl⟩
  by_cases h_1_5 : y_1 = 5
  · rw [h_1_5] at e_1 ⊢
    refine j_tblIn (64) 65 dX8_count_1 (by decide) (by decide) rfl (by decide) ?_
    refine j_ald0 dX8_count_65 ?_
    refine j_getI (k := 52) dX8_count_66 cX8_ok (Or.inl f8_363) rfl (by decide) (by decide) (by decide) ?_
    refine j_iret dX8_count_69 rfl ?_
    exact ⟨by rw [← e_1]; rfl, rfl⟩
  refine j_tblOut 70 dX8_count_1 (tbl_out (fun k h1 h2 => by
    have hk : k = 0 ∨ k = 1 ∨ k = 2 ∨ k = 3 ∨ k = 4 ∨ k = 5 := by omega
    rcases hk with rfl | rfl | rfl | rfl | rfl | rfl
    · exact h_1_0
    · exact h_1_1
    · exact h_1_2
    · exact h_1_3
    · exact h_1_4
    · exact h_1_5)) (by decide) ?_
  refine j_iconst (-1) dX8_count_70 rfl ?_
  refine j_iret dX8_count_71 rfl ?_
  exact ⟨by rw [e_1] at h_1_0 h_1_1 h_1_2 h_1_3 h_1_4 h_1_5; rw [ctV, if_neg h_1_0, if_neg h_1_1, if_neg h_1_2, if_neg h_1_3, if_neg h_1_4, if_neg h_1_5], rfl⟩

end AsideR
