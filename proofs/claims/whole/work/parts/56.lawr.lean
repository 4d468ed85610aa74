/-! a law's text: how the reference reads it whole -/
def stO (ls : List Line) : List Int32 := (ls.map fun l => l.1 ++ l.2).flatten
theorem stO_snoc (ls : List Line) (ln : Line) : stO (ls ++ [ln]) = stO ls ++ (ln.1 ++ ln.2) := by simp [stO]
def tE (ls : List Line) (k : Nat) : Nat := (stO (ls.take k)).length + (ls.getD k ([], [])).1.length
def lE (ls : List Line) (k : Nat) : Nat := (stO (ls.take (k + 1))).length
theorem tE_old {ls : List Line} {ln : Line} {k : Nat} (h : k < ls.length) : tE (ls ++ [ln]) k = tE ls k ∧ lE (ls ++ [ln]) k = lE ls k := by
  refine ⟨?_, ?_⟩
  · unfold tE
    rw [List.take_append_of_le_length (by omega)]
    simp [List.getD, List.getElem?_append_left h]
  · unfold lE
    rw [List.take_append_of_le_length (by omega)]
theorem tE_new {ls : List Line} {ln : Line} : tE (ls ++ [ln]) ls.length = (stO ls).length + ln.1.length ∧ lE (ls ++ [ln]) ls.length = (stO ls).length + (ln.1.length + ln.2.length) := by
  refine ⟨?_, ?_⟩
  · unfold tE
    rw [List.take_append_of_le_length (Nat.le_refl _), List.take_length]
    simp [List.getD]
  · unfold lE
    rw [show (ls ++ [ln]).take (ls.length + 1) = ls ++ [ln] from by rw [List.take_of_length_le]; simp, stO_snoc]
    simp
theorem i16_b : ∀ b, b < 200 → (nI b).toInt16.toInt32 = nI b := by decide +kernel
section TextRef
variable {a : Nat → Nat} {S0 S : St} {t : Nat → Nat} {len : Nat}
/-- while lines are read: what stays, and the text -/
def RBt (S0 : St) (t : Nat → Nat) (len : Nat) (S : St) : Prop := Kp [13, 14] S0 S ∧ S.1 61 36 = S0.1 61 36 ∧ (∀ k, k < 130 → S.1 79 k = S0.1 79 k ∧ S.1 80 k = S0.1 80 k) ∧ S.1 81 0 = S0.1 81 0 ∧ (∀ k, k < 61 → S.1 82 k = S0.1 82 k ∧ S.1 83 k = S0.1 83 k) ∧ S.1 61 24 = nI len ∧ ∀ i, i < len → S.1 78 i = (nI (t i)).toInt8.toInt32
theorem RBt.q (h : RBt S0 t len S) : RBq S t len S := ⟨Kp.rf, rfl, fun _ _ => ⟨rfl, rfl⟩, fun _ => ⟨rfl, rfl, rfl⟩, h.2.2.2.2.2.1, h.2.2.2.2.2.2⟩
theorem RBt.tr {S' : St} (h : RBt S0 t len S) (h2 : RBq S t len S') : RBt S0 t len S' :=
  ⟨h.1.tr h2.1, h2.2.1.trans h.2.1, fun k hk => ⟨(h2.2.2.1 k hk).1.trans (h.2.2.1 k hk).1, (h2.2.2.1 k hk).2.trans (h.2.2.1 k hk).2⟩, ((h2.2.2.2.1 0).1).trans h.2.2.2.1, fun k hk => ⟨((h2.2.2.2.1 k).2.1).trans (h.2.2.2.2.1 k hk).1, ((h2.2.2.2.1 k).2.2).trans (h.2.2.2.2.1 k hk).2⟩, h2.2.2.2.2.1, h2.2.2.2.2.2⟩
theorem RBt.put61 {k : Nat} {x : Int32} (h : RBt S0 t len S) (hk : k ≠ 36 ∧ k ≠ 24) (hr : rg 61 k ∈ [13, 14]) : RBt S0 t len (uI S 61 k x) := h.tr (h.q.put61 hk hr)
theorem RBt.putE {j k : Nat} {x : Int32} (h : RBt S0 t len S) (hj : (j = 81 ∧ k = 1) ∨ ((j = 82 ∨ j = 83) ∧ 61 ≤ k)) : RBt S0 t len (uI S j k x) := by
  refine ⟨Kp_uI h.1 ?_, ?_, fun i hi => ?_, ?_, fun i hi => ?_, ?_, fun i hi => ?_⟩
  · rcases hj with ⟨rfl, -⟩ | ⟨rfl | rfl, -⟩ <;> (show 13 ∈ [13, 14]; decide)
  · rw [uI_at, if_neg (by omega)]; exact h.2.1
  · rw [uI_at, if_neg (by omega), uI_at, if_neg (by omega)]; exact h.2.2.1 i hi
  · rw [uI_at, if_neg (by omega)]; exact h.2.2.2.1
  · rw [uI_at, if_neg (by omega), uI_at, if_neg (by omega)]; exact h.2.2.2.2.1 i hi
  · rw [uI_at, if_neg (by omega)]; exact h.2.2.2.2.2.1
  · rw [uI_at, if_neg (by omega)]; exact h.2.2.2.2.2.2 i hi
/-- lines read up to p -/
def RLq (S0 : St) (t : Nat → Nat) (len p : Nat) (ls : List Line) (S : St) : Prop := RBt S0 t len S ∧ S.1 61 25 = nI p ∧ S.1 61 26 = -1 ∧ S.1 61 27 = 0 ∧ S.1 61 28 = nI (stO ls).length ∧ stepsR (stO ls) S ∧ S.1 81 1 = nI ls.length ∧ ∀ k, k < ls.length → S.1 82 (61 + k) = nI (tE ls k) ∧ S.1 83 (61 + k) = nI (lE ls k)
/-- a fault at q -/
def RXq (S0 : St) (t : Nat → Nat) (len q : Nat) (S : St) : Prop := RBt S0 t len S ∧ q ≤ len ∧ S.1 61 26 = nI q
def RMq (S0 : St) (t : Nat → Nat) (len : Nat) (ls : List Line) (r : LR) (S : St) : Prop := match r with
  | (q, none) => RXq S0 t len q S
  | (q, some ln) => RLq S0 t len q (ls ++ [ln]) S
theorem stepsR.putE {l : List Int32} {j k : Nat} {x : Int32} (h : stepsR l S) (hj : j ≠ 79 ∧ j ≠ 80) : stepsR l (uI S j k x) := fun i hi => by
  rw [uI_at, if_neg (by omega), uI_at, if_neg (by omega)]; exact h i hi
theorem ROq.putE {S1 : St} {p op : Nat} {l : List Int32} {j k : Nat} {x : Int32} (h : ROq S1 t len p op l S) (h2 : RBt S0 t len (uI S j k x)) (hj : j ≠ 79 ∧ j ≠ 80 ∧ j ≠ 61) : ROq (uI S j k x) t len p op l (uI S j k x) :=
  ⟨h2.q, by rw [uI_at, if_neg (by omega)]; exact h.2.1, by rw [uI_at, if_neg (by omega)]; exact h.2.2.1, by rw [uI_at, if_neg (by omega)]; exact h.2.2.2.1, by rw [uI_at, if_neg (by omega)]; exact h.2.2.2.2.1, h.2.2.2.2.2.putE ⟨hj.1, hj.2.1⟩⟩
/-- the end of a line -/
theorem RL_end {ls : List Line} {ln : Line} {S1 : St} {q : Nat} (hb : RBt S0 t len S1) (h : ROq S1 t len q 0 (stO ls ++ (ln.1 ++ ln.2)) S) (h1 : S1.1 81 1 = nI ls.length) (h2 : S1.1 82 (61 + ls.length) = nI ((stO ls).length + ln.1.length)) (h3 : ∀ k, k < ls.length → S1.1 82 (61 + k) = nI (tE ls k) ∧ S1.1 83 (61 + k) = nI (lE ls k)) : RLq S0 t len q (ls ++ [ln]) (uI (uI S 83 (61 + ls.length) (nI (stO ls ++ (ln.1 ++ ln.2)).length)) 81 1 (nI (ls.length + 1))) := by
  have hb2 := hb.tr h.1
  have e := h.1.2.2.2.1
  refine ⟨(hb2.putE (Or.inr ⟨Or.inr rfl, by omega⟩)).putE (Or.inl ⟨rfl, rfl⟩), ?_, ?_, ?_, ?_, ?_, ?_, fun k hk => ?_⟩
  · simp [uI_at]; exact h.2.1
  · simp [uI_at]; exact h.2.2.1
  · simp [uI_at]; exact h.2.2.2.1
  · rw [stO_snoc]; simp only [uI_at]; simp; simpa using h.2.2.2.2.1
  · rw [stO_snoc]; exact (h.2.2.2.2.2.putE (by decide)).putE (by decide)
  · simp [uI_at]
  · rw [List.length_append, List.length_singleton] at hk
    by_cases c : k = ls.length
    · subst c
      rw [tE_new.1, tE_new.2]
      refine ⟨?_, ?_⟩
      · simp [uI_at]; rw [(e _).2.1]; exact h2
      · simp [uI_at]
    · have hk2 : k < ls.length := by omega
      rw [(tE_old hk2).1, (tE_old hk2).2]
      refine ⟨?_, ?_⟩
      · simp [uI_at]; rw [(e _).2.1]; exact (h3 k hk2).1
      · simp [uI_at, c]; rw [(e _).2.2]; exact (h3 k hk2).2

set_option maxRecDepth 20000 in
theorem s_X8_line {p : Nat} {ls : List Line} (ht : ∀ i, t i < 256) (hl : len ≤ 120) (hp : p ≤ len) (hL : (stO ls).length ≤ p) (hls : 2 * ls.length ≤ p) (h : RLq S0 t len p ls S) : Rqv a mX8_line 52 [.ref (a 61)] S (RMq S0 t len ls (lineR t len p)) := by
  show J _ _ _ _ 0 [_, .null] [] _
  refine j_bipush (61) dX8_line_0 rfl ?_
  refine j_ald0 dX8_line_2 ?_
  refine j_getR (k := 31) (81) dX8_line_3 cX8_ok (Or.inl f8_80) rfl (by decide) (by decide) (by decide) rfl ?_
  refine j_iconst (1) dX8_line_6 rfl ?_
  refine j_iald (n := 1) dX8_line_7 rfl (by decide) rfl (by decide) (by decide) ?_
  refine j_top (y := nI ls.length) h.2.2.2.2.2.2.1 ?_
  refine j_iadd dX8_line_8 ?_
  refine j_top (y := nI (61 + ls.length)) (by exact nI_add 61 _) ?_
  refine j_ist1 dX8_line_9 rfl (by decide) ?_
  refine j_ald0 dX8_line_10 ?_
  refine j_getR (k := 32) (82) dX8_line_11 cX8_ok (Or.inl f8_83) rfl (by decide) (by decide) (by decide) rfl ?_
  refine j_ild1 dX8_line_14 ?_
  refine j_ald0 dX8_line_15 ?_
  refine j_getI (k := 28) dX8_line_16 cX8_ok (Or.inl f8_209) rfl (by decide) (by decide) (by decide) ?_
  refine j_top (y := nI (stO ls).length) (h.2.2.2.2.1) ?_
  refine j_i2s dX8_line_19 ?_
  refine j_top (y := nI (stO ls).length) (i16_b _ (by omega)) ?_
  refine j_sast (n := (61 + ls.length)) dX8_line_20 rfl (by decide) rfl (by omega) (by decide) ?_
  rw [i16_b _ (by omega)]
  have hB1 : RBt S0 t len (uI S 82 (61 + ls.length) (nI (stO ls).length)) := h.1.putE (Or.inr ⟨Or.inl rfl, by omega⟩)
  have hR1 : ROq (uI S 82 (61 + ls.length) (nI (stO ls).length)) t len p 0 (stO ls) (uI S 82 (61 + ls.length) (nI (stO ls).length)) := ⟨hB1.q, by rw [uI_at, if_neg (by omega)]; exact h.2.1, by rw [uI_at, if_neg (by omega)]; exact h.2.2.1, by rw [uI_at, if_neg (by omega)]; exact h.2.2.2.1, by rw [uI_at, if_neg (by omega)]; exact h.2.2.2.2.1, h.2.2.2.2.2.1.putE (by decide)⟩
  have hA : (uI S 82 (61 + ls.length) (nI (stO ls).length)).1 81 1 = nI ls.length ∧ (uI S 82 (61 + ls.length) (nI (stO ls).length)).1 82 (61 + ls.length) = nI ((stO ls).length + 0) ∧ ∀ k, k < ls.length → (uI S 82 (61 + ls.length) (nI (stO ls).length)).1 82 (61 + k) = nI (tE ls k) ∧ (uI S 82 (61 + ls.length) (nI (stO ls).length)).1 83 (61 + k) = nI (lE ls k) := by
    refine ⟨by simp [uI_at]; exact h.2.2.2.2.2.2.1, by simp [uI_at], fun k hk => ?_⟩
    have : k ≠ ls.length := by omega
    have := h.2.2.2.2.2.2.2 k hk
    simp [uI_at, *]
  generalize uI S 82 (61 + ls.length) (nI (stO ls).length) = S1 at *
  refine j_ald0 dX8_line_21 ?_
  refine j_qvV0 dX8_line_22 kX8_either l8_235 rfl (by decide) rfl (Nat.le_of_ble_eq_true rfl) (Nat.le_of_ble_eq_true rfl) (by omega) (((s_X8_all (a := a) (S0 := S1) ht hl 2000).1.2.2.2.2.2) 0 p (stO ls) S1 _ (by decide) hp hL hR1 (PE_eq hl hp)) (fun S2 h1 => ?_)
  have p0 := PE_at (t := t) hl hp
  unfold lineR
  rcases hE : PE t len p with ⟨q1, _ | l1⟩
  · try rw [hE] at h1
    try rw [hE]
    have h1 : RFq S1 t len q1 _ S2 := h1
    have hx : RXq S0 t len q1 S2 := ⟨hB1.tr h1.1, h1.2.1, h1.2.2.1.1⟩
    simp only []
    refine j_ald0 dX8_line_25 ?_
    refine j_getI (k := 26) dX8_line_26 cX8_ok (Or.inl f8_206) rfl (by decide) (by decide) (by decide) ?_
    refine j_ifge 66 dX8_line_29 (by decide) (fun c_29 => ?_) (fun c_29 => absurd (by rw [hx.2.2]; exact nI_pos' (by have := hx.2.1; omega)) c_29)
    refine j_ald0 dX8_line_66 ?_
    refine j_getR (k := 33) (83) dX8_line_67 cX8_ok (Or.inl f8_87) rfl (by decide) (by decide) (by decide) rfl ?_
    refine j_ild1 dX8_line_70 ?_
    refine j_ald0 dX8_line_71 ?_
    refine j_getI (k := 28) dX8_line_72 cX8_ok (Or.inl f8_209) rfl (by decide) (by decide) (by decide) ?_
    refine j_i2s dX8_line_75 ?_
    refine j_sast (n := (61 + ls.length)) dX8_line_76 rfl (by decide) rfl (by omega) (by decide) ?_
    refine j_ald0 dX8_line_77 ?_
    refine j_getR (k := 31) (81) dX8_line_78 cX8_ok (Or.inl f8_80) rfl (by decide) (by decide) (by decide) rfl ?_
    refine j_iconst (1) dX8_line_81 rfl ?_
    refine j_dup2 dX8_line_82 rfl rfl ?_
    refine j_iald (n := 1) dX8_line_83 rfl (by decide) rfl (by decide) (by decide) ?_
    refine j_iconst (1) dX8_line_84 rfl ?_
    refine j_iadd dX8_line_85 ?_
    refine j_iast (n := 1) dX8_line_86 rfl (by decide) rfl (by decide) (by decide) ?_
    refine j_vret dX8_line_87 rfl ?_
    exact ⟨rfl, ((hx.1.putE (Or.inr ⟨Or.inr rfl, by omega⟩)).putE (Or.inl ⟨rfl, rfl⟩)), hx.2.1, by simp [uI_at]; exact hx.2.2⟩
  · try rw [hE] at h1
    try rw [hE] at p0
    have h1 : ROq S1 t len q1 0 (stO ls ++ l1) S2 := h1
    have p2 : q1 ≤ len := p0.2.1
    have p1 := p0.2.2 l1 rfl
    simp only [] at p1
    simp only []
    refine j_ald0 dX8_line_25 ?_
    refine j_getI (k := 26) dX8_line_26 cX8_ok (Or.inl f8_206) rfl (by decide) (by decide) (by decide) ?_
    refine j_ifge 66 dX8_line_29 (by decide) (fun c_29 => absurd c_29 (by rw [h1.2.2.1]; decide)) (fun c_29 => ?_)
    refine j_ald0 dX8_line_32 ?_
    refine j_cV0 dX8_line_33 kX8_look l8_218 rfl (by decide) rfl (Nat.le_of_ble_eq_true rfl) (Nat.le_of_ble_eq_true rfl) (by omega) (s_X8_look hl p2 h1) ?_
    refine j_bipush (63) dX8_line_36 rfl ?_
    refine j_icmpne 66 dX8_line_38 (by decide) (fun c_38 => ?_) (fun c_38 => ?_)
    · have hs : ¬ sv t len q1 = 63 := fun z => c_38 ((lk_c ht (by decide) (by decide)).mpr z)
      rw [if_neg hs]
      have hB := hB1
      have hR0 : ROq S1 t len q1 0 (stO ls ++ ([] ++ l1)) S2 := h1
      have hn1 := hA.1
      have hn2 : S1.1 82 (61 + ls.length) = nI ((stO ls).length + (([], l1) : Line).1.length) := hA.2.1
      have hn3 := hA.2.2
      have hR : ROq S1 t len q1 0 (stO ls ++ ((([], l1) : Line).1 ++ (([], l1) : Line).2)) S2 := hR0
      generalize hln : (([], l1) : Line) = ln at hR hn2 ⊢
      have hlaid := hR.2.2.2.2.1
      have hlen9 : (stO ls ++ (ln.1 ++ ln.2)).length < 200 := by rw [← hln]; simp only [List.length_append, List.length_nil] at *; omega
      refine j_ald0 dX8_line_66 ?_
      refine j_getR (k := 33) (83) dX8_line_67 cX8_ok (Or.inl f8_87) rfl (by decide) (by decide) (by decide) rfl ?_
      refine j_ild1 dX8_line_70 ?_
      refine j_ald0 dX8_line_71 ?_
      refine j_getI (k := 28) dX8_line_72 cX8_ok (Or.inl f8_209) rfl (by decide) (by decide) (by decide) ?_
      refine j_top (y := nI (stO ls ++ (ln.1 ++ ln.2)).length) (hlaid) ?_
      refine j_i2s dX8_line_75 ?_
      refine j_top (y := nI (stO ls ++ (ln.1 ++ ln.2)).length) (i16_b _ (by omega)) ?_
      refine j_sast (n := (61 + ls.length)) dX8_line_76 rfl (by decide) rfl (by omega) (by decide) ?_
      rw [i16_b _ (by omega)]
      refine j_ald0 dX8_line_77 ?_
      refine j_getR (k := 31) (81) dX8_line_78 cX8_ok (Or.inl f8_80) rfl (by decide) (by decide) (by decide) rfl ?_
      refine j_iconst (1) dX8_line_81 rfl ?_
      refine j_dup2 dX8_line_82 rfl rfl ?_
      refine j_iald (n := 1) dX8_line_83 rfl (by decide) rfl (by decide) (by decide) ?_
      refine j_top (y := nI ls.length) (by rw [uI_at, if_neg (by omega), (hR.1.2.2.2.1 1).1]; exact hn1) ?_
      refine j_iconst (1) dX8_line_84 rfl ?_
      refine j_iadd dX8_line_85 ?_
      refine j_top (y := nI (ls.length + 1)) (nI_1 _) ?_
      refine j_iast (n := 1) dX8_line_86 rfl (by decide) rfl (by decide) (by decide) ?_
      refine j_vret dX8_line_87 rfl ?_
      have hfin := RL_end hB hR hn1 hn2 hn3
      subst hln
      exact ⟨rfl, hfin⟩
    have hs : sv t len q1 = 63 := (lk_c ht (by decide) (by decide)).mp (Classical.not_not.mp c_38)
    rw [if_pos hs]
    have hlt := (sv_lt hs (by decide)).1
    have p3 := PE_at (t := t) hl (p := q1 + 1) hlt
    refine j_ald0 dX8_line_41 ?_
    refine j_dup dX8_line_42 rfl ?_
    refine j_getI (k := 25) dX8_line_43 cX8_ok (Or.inl f8_203) rfl (by decide) (by decide) (by decide) ?_
    refine j_top (y := nI q1) (h1.2.1) ?_
    refine j_iconst (1) dX8_line_46 rfl ?_
    refine j_iadd dX8_line_47 ?_
    refine j_top (y := nI (q1 + 1)) (nI_1 q1) ?_
    refine j_putI (k := 25) dX8_line_48 cX8_ok (Or.inl f8_203) rfl (by decide) (by decide) (by decide) rfl ?_
    refine j_ald0 dX8_line_51 ?_
    refine j_getR (k := 32) (82) dX8_line_52 cX8_ok (Or.inl f8_83) rfl (by decide) (by decide) (by decide) rfl ?_
    refine j_ild1 dX8_line_55 ?_
    refine j_ald0 dX8_line_56 ?_
    refine j_getI (k := 28) dX8_line_57 cX8_ok (Or.inl f8_209) rfl (by decide) (by decide) (by decide) ?_
    refine j_top (y := nI (stO ls ++ l1).length) (by rw [uI_at, if_neg (by omega)]; exact h1.2.2.2.2.1) ?_
    refine j_i2s dX8_line_60 ?_
    refine j_top (y := nI (stO ls ++ l1).length) (i16_b _ (by rw [List.length_append]; omega)) ?_
    refine j_sast (n := (61 + ls.length)) dX8_line_61 rfl (by decide) rfl (by omega) (by decide) ?_
    rw [i16_b _ (by rw [List.length_append]; omega)]
    have hm2 : (stO ls ++ l1).length < 200 := by rw [List.length_append]; omega
    have hBa := (hB1.tr h1.1).put61 (k := 25) (x := nI (q1 + 1)) (by decide) (by decide)
    have hR2 := (h1.adv (q := q1 + 1))
    have hB4 : RBt S0 t len (uI (uI S2 61 25 (nI (q1 + 1))) 82 (61 + ls.length) (nI (stO ls ++ l1).length)) := hBa.putE (Or.inr ⟨Or.inl rfl, by omega⟩)
    have hR3 := hR2.putE hB4 (by decide)
    have hS3 : (uI (uI S2 61 25 (nI (q1 + 1))) 82 (61 + ls.length) (nI (stO ls ++ l1).length)).1 81 1 = nI ls.length ∧ (uI (uI S2 61 25 (nI (q1 + 1))) 82 (61 + ls.length) (nI (stO ls ++ l1).length)).1 82 (61 + ls.length) = nI ((stO ls).length + l1.length) ∧ ∀ k, k < ls.length → (uI (uI S2 61 25 (nI (q1 + 1))) 82 (61 + ls.length) (nI (stO ls ++ l1).length)).1 82 (61 + k) = nI (tE ls k) ∧ (uI (uI S2 61 25 (nI (q1 + 1))) 82 (61 + ls.length) (nI (stO ls ++ l1).length)).1 83 (61 + k) = nI (lE ls k) := by
      refine ⟨?_, ?_, fun k hk => ⟨?_, ?_⟩⟩
      · simp [uI_at]; rw [(h1.1.2.2.2.1 1).1]; exact hA.1
      · simp [uI_at]
      · have : k ≠ ls.length := by omega
        simp [uI_at, this]; rw [(h1.1.2.2.2.1 _).2.1]; exact (hA.2.2 k hk).1
      · simp [uI_at]; rw [(h1.1.2.2.2.1 _).2.2]; exact (hA.2.2 k hk).2
    generalize uI (uI S2 61 25 (nI (q1 + 1))) 82 (61 + ls.length) (nI (stO ls ++ l1).length) = S3 at *
    refine j_ald0 dX8_line_62 ?_
    refine j_qvV0 dX8_line_63 kX8_either l8_235 rfl (by decide) rfl (Nat.le_of_ble_eq_true rfl) (Nat.le_of_ble_eq_true rfl) (by omega) (((s_X8_all (a := a) (S0 := S3) ht hl 2000).1.2.2.2.2.2) 0 (q1 + 1) (stO ls ++ l1) S3 _ (by decide) hlt (by rw [List.length_append]; omega) hR3 (PE_eq hl hlt)) (fun S4 h3 => ?_)
    rcases hE2 : PE t len (q1 + 1) with ⟨q2, _ | l2⟩
    · try rw [hE2] at h3
      try rw [hE2]
      have h3 : RFq _ t len q2 _ S4 := h3
      have hx : RXq S0 t len q2 S4 := ⟨hB4.tr h3.1, h3.2.1, h3.2.2.1.1⟩
      refine j_ald0 dX8_line_66 ?_
      refine j_getR (k := 33) (83) dX8_line_67 cX8_ok (Or.inl f8_87) rfl (by decide) (by decide) (by decide) rfl ?_
      refine j_ild1 dX8_line_70 ?_
      refine j_ald0 dX8_line_71 ?_
      refine j_getI (k := 28) dX8_line_72 cX8_ok (Or.inl f8_209) rfl (by decide) (by decide) (by decide) ?_
      refine j_i2s dX8_line_75 ?_
      refine j_sast (n := (61 + ls.length)) dX8_line_76 rfl (by decide) rfl (by omega) (by decide) ?_
      refine j_ald0 dX8_line_77 ?_
      refine j_getR (k := 31) (81) dX8_line_78 cX8_ok (Or.inl f8_80) rfl (by decide) (by decide) (by decide) rfl ?_
      refine j_iconst (1) dX8_line_81 rfl ?_
      refine j_dup2 dX8_line_82 rfl rfl ?_
      refine j_iald (n := 1) dX8_line_83 rfl (by decide) rfl (by decide) (by decide) ?_
      refine j_iconst (1) dX8_line_84 rfl ?_
      refine j_iadd dX8_line_85 ?_
      refine j_iast (n := 1) dX8_line_86 rfl (by decide) rfl (by decide) (by decide) ?_
      refine j_vret dX8_line_87 rfl ?_
      exact ⟨rfl, ((hx.1.putE (Or.inr ⟨Or.inr rfl, by omega⟩)).putE (Or.inl ⟨rfl, rfl⟩)), hx.2.1, by simp [uI_at]; exact hx.2.2⟩
    · try rw [hE2] at h3
      try rw [hE2] at p3
      try rw [hE2]
      have h3 : ROq _ t len q2 0 (stO ls ++ l1 ++ l2) S4 := h3
      rw [List.append_assoc] at h3
      have p4 := p3.2.2 l2 rfl
      have p5 := p3.2.1
      simp only [] at p4 p5
      have hB := hB4
      have hR0 := h3
      have hn1 : S3.1 81 1 = nI ls.length := hS3.1
      have hn2 : S3.1 82 (61 + ls.length) = nI ((stO ls).length + (l1, l2).1.length) := hS3.2.1
      have hn3 := hS3.2.2
      have hR : ROq S3 t len q2 0 (stO ls ++ (((l1, l2) : Line).1 ++ ((l1, l2) : Line).2)) S4 := hR0
      generalize hln : ((l1, l2) : Line) = ln at hR hn2 ⊢
      have hlaid := hR.2.2.2.2.1
      have hlen9 : (stO ls ++ (ln.1 ++ ln.2)).length < 200 := by rw [← hln]; simp only [List.length_append, List.length_nil] at *; omega
      refine j_ald0 dX8_line_66 ?_
      refine j_getR (k := 33) (83) dX8_line_67 cX8_ok (Or.inl f8_87) rfl (by decide) (by decide) (by decide) rfl ?_
      refine j_ild1 dX8_line_70 ?_
      refine j_ald0 dX8_line_71 ?_
      refine j_getI (k := 28) dX8_line_72 cX8_ok (Or.inl f8_209) rfl (by decide) (by decide) (by decide) ?_
      refine j_top (y := nI (stO ls ++ (ln.1 ++ ln.2)).length) (hlaid) ?_
      refine j_i2s dX8_line_75 ?_
      refine j_top (y := nI (stO ls ++ (ln.1 ++ ln.2)).length) (i16_b _ (by omega)) ?_
      refine j_sast (n := (61 + ls.length)) dX8_line_76 rfl (by decide) rfl (by omega) (by decide) ?_
      rw [i16_b _ (by omega)]
      refine j_ald0 dX8_line_77 ?_
      refine j_getR (k := 31) (81) dX8_line_78 cX8_ok (Or.inl f8_80) rfl (by decide) (by decide) (by decide) rfl ?_
      refine j_iconst (1) dX8_line_81 rfl ?_
      refine j_dup2 dX8_line_82 rfl rfl ?_
      refine j_iald (n := 1) dX8_line_83 rfl (by decide) rfl (by decide) (by decide) ?_
      refine j_top (y := nI ls.length) (by rw [uI_at, if_neg (by omega), (hR.1.2.2.2.1 1).1]; exact hn1) ?_
      refine j_iconst (1) dX8_line_84 rfl ?_
      refine j_iadd dX8_line_85 ?_
      refine j_top (y := nI (ls.length + 1)) (nI_1 _) ?_
      refine j_iast (n := 1) dX8_line_86 rfl (by decide) rfl (by decide) (by decide) ?_
      refine j_vret dX8_line_87 rfl ?_
      have hfin := RL_end hB hR hn1 hn2 hn3
      subst hln
      exact ⟨rfl, hfin⟩

end TextRef
