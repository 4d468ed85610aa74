/-! a law's text: how the reference reads it -/
/-- the step that a piece of code is -/
def sgA (x : Int32) : Int32 := if 0 ≤ x then 1 else if x = -97 ∨ x = -98 ∨ x = -110 ∨ x = -109 ∨ x = -115 then 2 else if x = -33 then 3 else if x = -95 then 4 else -x
def sgW (x : Int32) : Int32 := if 0 ≤ x then x else if x = -98 then 1 else if x = -110 then 2 else if x = -109 then 3 else if x = -115 then 4 else 0
/-- the sign that look() sees -/
def lk (t : Nat → Nat) (len p : Nat) : Int32 := if p < len then (nI (t p)).toInt8.toInt32 else -1
theorem lk_b : ∀ b, b < 256 → (nI b).toInt8.toInt32 = nI b ∨ ((nI b).toInt8.toInt32 < 0 ∧ 128 ≤ nI b) := by decide +kernel
theorem i8_b : ∀ b, b < 128 → (nI b).toInt8.toInt32 = nI b := by decide +kernel
section ReadR
variable {a : Nat → Nat} {S0 S : St} {t : Nat → Nat} {len : Nat}
theorem lk_or (ht : ∀ i, t i < 256) (p : Nat) : lk t len p = sv t len p ∨ (lk t len p < 0 ∧ 128 ≤ sv t len p) := by
  unfold lk sv
  split
  · exact lk_b _ (ht p)
  · exact Or.inl rfl
theorem lk_c (ht : ∀ i, t i < 256) {p : Nat} {c : Int32} (h0 : 0 ≤ c) (h1 : c < 128) : lk t len p = c ↔ sv t len p = c := by
  rcases lk_or (len := len) ht p with h | h
  · rw [h]
  · constructor
    · intro z; rw [z] at h; exact absurd h.1 (Int32.not_lt.mpr h0)
    · intro z; rw [z] at h; exact absurd h1 (Int32.not_lt.mpr h.2)
theorem lk_dg (ht : ∀ i, t i < 256) {p : Nat} : (48 ≤ lk t len p ∧ lk t len p ≤ 57) ↔ isDg (sv t len p) = true := by
  rcases lk_or (len := len) ht p with h | h
  · rw [h]; exact ⟨fun z => decide_eq_true z, fun z => of_decide_eq_true z⟩
  · constructor
    · intro z; exact absurd (Int32.lt_of_le_of_lt z.1 h.1) (by decide)
    · intro z
      have := (of_decide_eq_true z : 48 ≤ sv t len p ∧ sv t len p ≤ 57).2
      exact absurd (Int32.le_trans h.2 this) (by decide)
theorem dg_lk (ht : ∀ i, t i < 256) {p : Nat} (h : isDg (sv t len p) = true) : lk t len p = nI (t p) := by
  obtain ⟨h1, h2⟩ := dg_1 h
  have h3 := dg_b (ht p) h
  rw [lk, if_pos h1]
  exact i8_b _ (by omega)
/-- while a text is read: what stays, and the text -/
def RBq (S0 : St) (t : Nat → Nat) (len : Nat) (S : St) : Prop := Kp [13, 14] S0 S ∧ S.1 61 36 = S0.1 61 36 ∧ (∀ k, k < 130 → S.1 79 k = S0.1 79 k ∧ S.1 80 k = S0.1 80 k) ∧ (∀ k, S.1 81 k = S0.1 81 k ∧ S.1 82 k = S0.1 82 k ∧ S.1 83 k = S0.1 83 k) ∧ S.1 61 24 = nI len ∧ ∀ i, i < len → S.1 78 i = (nI (t i)).toInt8.toInt32
/-- the steps so far being l -/
def stepsR (l : List Int32) (S : St) : Prop := ∀ i, i < l.length → S.1 79 (130 + i) = sgA (l.getD i 0) ∧ S.1 80 (130 + i) = sgW (l.getD i 0) ∧ (sgA (l.getD i 0)).toInt8.toInt32 = sgA (l.getD i 0)
def ROq (S0 : St) (t : Nat → Nat) (len p op : Nat) (l : List Int32) (S : St) : Prop := RBq S0 t len S ∧ S.1 61 25 = nI p ∧ S.1 61 26 = -1 ∧ S.1 61 27 = nI op ∧ S.1 61 28 = nI l.length ∧ stepsR l S
def RFq (S0 : St) (t : Nat → Nat) (len q m : Nat) (S : St) : Prop := RBq S0 t len S ∧ q ≤ len ∧ (S.1 61 26 = nI q ∧ S.1 61 25 = nI q) ∧ ∃ k, k ≤ m ∧ S.1 61 28 = nI k
theorem RBq.put61 {k : Nat} {x : Int32} (h : RBq S0 t len S) (hk : k ≠ 36 ∧ k ≠ 24) (hr : rg 61 k ∈ [13, 14]) : RBq S0 t len (uI S 61 k x) := by
  refine ⟨Kp_uI h.1 hr, ?_, fun i hi => ?_, fun i => ?_, ?_, fun i hi => ?_⟩
  · rw [uI_at, if_neg (by omega)]; exact h.2.1
  · rw [uI_at, if_neg (by omega), uI_at, if_neg (by omega)]; exact h.2.2.1 i hi
  · rw [uI_at, if_neg (by omega), uI_at, if_neg (by omega), uI_at, if_neg (by omega)]; exact h.2.2.2.1 i
  · rw [uI_at, if_neg (by omega)]; exact h.2.2.2.2.1
  · rw [uI_at, if_neg (by omega)]; exact h.2.2.2.2.2 i hi
theorem RBq.putS {j k : Nat} {x : Int32} (h : RBq S0 t len S) (hj : j = 79 ∨ j = 80) (hk : 130 ≤ k) : RBq S0 t len (uI S j k x) := by
  refine ⟨Kp_uI h.1 (by rcases hj with rfl | rfl <;> (show 13 ∈ [13, 14]; decide)), ?_, fun i hi => ?_, fun i => ?_, ?_, fun i hi => ?_⟩
  · rw [uI_at, if_neg (by omega)]; exact h.2.1
  · rw [uI_at, if_neg (by omega), uI_at, if_neg (by omega)]; exact h.2.2.1 i hi
  · rw [uI_at, if_neg (by omega), uI_at, if_neg (by omega), uI_at, if_neg (by omega)]; exact h.2.2.2.1 i
  · rw [uI_at, if_neg (by omega)]; exact h.2.2.2.2.1
  · rw [uI_at, if_neg (by omega)]; exact h.2.2.2.2.2 i hi
theorem stepsR.put61 {l : List Int32} {k : Nat} {x : Int32} (h : stepsR l S) : stepsR l (uI S 61 k x) := fun i hi => by
  rw [uI_at, if_neg (by omega), uI_at, if_neg (by omega)]; exact h i hi
theorem ROq.adv {p op : Nat} {l : List Int32} (h : ROq S0 t len p op l S) {q : Nat} : ROq S0 t len q op l (uI S 61 25 (nI q)) :=
  ⟨h.1.put61 (by decide) (by decide), by rw [uI_at, if_pos ⟨rfl, rfl⟩], by rw [uI_at, if_neg (by omega)]; exact h.2.2.1, by rw [uI_at, if_neg (by omega)]; exact h.2.2.2.1, by rw [uI_at, if_neg (by omega)]; exact h.2.2.2.2.1, h.2.2.2.2.2.put61⟩
theorem ROq.opn {p op : Nat} {l : List Int32} (h : ROq S0 t len p op l S) {q : Nat} : ROq S0 t len p q l (uI S 61 27 (nI q)) :=
  ⟨h.1.put61 (by decide) (by decide), by rw [uI_at, if_neg (by omega)]; exact h.2.1, by rw [uI_at, if_neg (by omega)]; exact h.2.2.1, by rw [uI_at, if_pos ⟨rfl, rfl⟩], by rw [uI_at, if_neg (by omega)]; exact h.2.2.2.2.1, h.2.2.2.2.2.put61⟩
theorem RFq.opn {q m : Nat} {x : Int32} (h : RFq S0 t len q m S) : RFq S0 t len q m (uI S 61 27 x) := by
  obtain ⟨k, hk1, hk2⟩ := h.2.2.2
  exact ⟨h.1.put61 (by decide) (by decide), h.2.1, ⟨by rw [uI_at, if_neg (by omega)]; exact h.2.2.1.1, by rw [uI_at, if_neg (by omega)]; exact h.2.2.1.2⟩, k, hk1, by rw [uI_at, if_neg (by omega)]; exact hk2⟩
theorem RFq.mono {q m m' : Nat} (h : RFq S0 t len q m S) (hm : m ≤ m') : RFq S0 t len q m' S := by
  obtain ⟨k, hk1, hk2⟩ := h.2.2.2
  exact ⟨h.1, h.2.1, h.2.2.1, k, by omega, hk2⟩

set_option maxRecDepth 20000 in
theorem s_X8_look_g {p : Nat} (hl : len ≤ 120) (hp : p ≤ len) (hb : RBq S0 t len S) (hh : S.1 61 25 = nI p) : Rt a mX8_look 0 [.ref (a 61)] S (some (.int (lk t len p))) S := by
  show J _ _ _ _ 0 [_] [] _
  refine j_ald0 dX8_look_0 ?_
  refine j_getI (k := 25) dX8_look_1 cX8_ok (Or.inl f8_203) rfl (by decide) (by decide) (by decide) ?_
  refine j_ald0 dX8_look_4 ?_
  refine j_getI (k := 24) dX8_look_5 cX8_ok (Or.inl f8_200) rfl (by decide) (by decide) (by decide) ?_
  refine j_icmpge 23 dX8_look_8 (by decide) (fun c_8 => ?_) (fun c_8 => ?_)
  · have q_8 : ¬ p < len := by
      have c := c_8
      rw [hh, hb.2.2.2.2.1] at c
      have := (nI_leI (a := len) (b := p) (by omega) (by omega)).mp c
      omega
    refine j_iconst (-1) dX8_look_23 rfl ?_
    refine j_iret dX8_look_24 rfl ?_
    exact ⟨by rw [lk, if_neg q_8], rfl⟩
  have q_8 : p < len := by
    have c := c_8
    rw [hh, hb.2.2.2.2.1] at c
    exact Nat.not_le.mp (fun z => c (nI_le z (by omega)))
  refine j_ald0 dX8_look_11 ?_
  refine j_getR (k := 23) (78) dX8_look_12 cX8_ok (Or.inl f8_70) rfl (by decide) (by decide) (by decide) rfl ?_
  refine j_ald0 dX8_look_15 ?_
  refine j_getI (k := 25) dX8_look_16 cX8_ok (Or.inl f8_203) rfl (by decide) (by decide) (by decide) ?_
  refine j_bald (n := p) dX8_look_19 rfl (by decide) hh (by omega) (by decide) ?_
  refine j_top (y := (nI (t p)).toInt8.toInt32) (hb.2.2.2.2.2 p q_8) ?_
  refine j_goto 24 dX8_look_20 (by decide) ?_
  refine j_iret dX8_look_24 rfl ?_
  exact ⟨by rw [lk, if_pos q_8], rfl⟩

theorem s_X8_look {p op : Nat} {l : List Int32} (hl : len ≤ 120) (hp : p ≤ len) (h : ROq S0 t len p op l S) : Rt a mX8_look 0 [.ref (a 61)] S (some (.int (lk t len p))) S := s_X8_look_g hl hp h.1 h.2.1
set_option maxRecDepth 20000 in
theorem s_X8_faulty {p op : Nat} {l : List Int32} (hp : p ≤ len) (h : ROq S0 t len p op l S) : Rqv a mX8_faulty 0 [.ref (a 61)] S (RFq S0 t len p l.length) := by
  show J _ _ _ _ 0 [_] [] _
  refine j_ald0 dX8_faulty_0 ?_
  refine j_getI (k := 26) dX8_faulty_1 cX8_ok (Or.inl f8_206) rfl (by decide) (by decide) (by decide) ?_
  refine j_ifge 15 dX8_faulty_4 (by decide) (fun c_4 => absurd c_4 (by rw [h.2.2.1]; decide)) (fun c_4 => ?_)
  refine j_ald0 dX8_faulty_7 ?_
  refine j_ald0 dX8_faulty_8 ?_
  refine j_getI (k := 25) dX8_faulty_9 cX8_ok (Or.inl f8_203) rfl (by decide) (by decide) (by decide) ?_
  refine j_top (y := nI p) (h.2.1) ?_
  refine j_putI (k := 26) dX8_faulty_12 cX8_ok (Or.inl f8_206) rfl (by decide) (by decide) (by decide) rfl ?_
  refine j_vret dX8_faulty_15 rfl ?_
  exact ⟨rfl, h.1.put61 (by decide) (by decide), hp, ⟨by rw [uI_at, if_pos ⟨rfl, rfl⟩], by rw [uI_at, if_neg (by omega)]; exact h.2.1⟩, _, Nat.le_refl _, by rw [uI_at, if_neg (by omega)]; exact h.2.2.2.2.1⟩

theorem i8_i8' (x : Int32) : x.toInt8.toInt32.toInt8.toInt32 = x.toInt8.toInt32 := by simp
set_option maxRecDepth 20000 in
theorem s_X8_addStep {p op : Nat} {l : List Int32} {x w z : Int32} (hL : l.length < 130) (hw : w.toInt8.toInt32 = sgA x) (hz : z = sgW x) (h : ROq S0 t len p op l S) : Rqv a mX8_addStep 0 [.ref (a 61), .int w, .int z] S (ROq S0 t len p op (l ++ [x])) := by
  show J _ _ _ _ 0 [_, _, _] [] _
  refine j_ald0 dX8_addStep_0 ?_
  refine j_getR (k := 29) (79) dX8_addStep_1 cX8_ok (Or.inl f8_74) rfl (by decide) (by decide) (by decide) rfl ?_
  refine j_sipush (130) dX8_addStep_4 rfl ?_
  refine j_ald0 dX8_addStep_7 ?_
  refine j_getI (k := 28) dX8_addStep_8 cX8_ok (Or.inl f8_209) rfl (by decide) (by decide) (by decide) ?_
  refine j_top (y := nI l.length) (h.2.2.2.2.1) ?_
  refine j_iadd dX8_addStep_11 ?_
  refine j_top (y := nI (130 + l.length)) (by exact nI_add 130 l.length) ?_
  refine j_ild1 dX8_addStep_12 ?_
  refine j_i2b dX8_addStep_13 ?_
  refine j_bast (n := (130 + l.length)) dX8_addStep_14 rfl (by decide) rfl (by omega) (by decide) ?_
  refine j_ald0 dX8_addStep_15 ?_
  refine j_getR (k := 30) (80) dX8_addStep_16 cX8_ok (Or.inl f8_77) rfl (by decide) (by decide) (by decide) rfl ?_
  refine j_sipush (130) dX8_addStep_19 rfl ?_
  refine j_ald0 dX8_addStep_22 ?_
  refine j_getI (k := 28) dX8_addStep_23 cX8_ok (Or.inl f8_209) rfl (by decide) (by decide) (by decide) ?_
  refine j_top (y := nI l.length) (by rw [uI_at, if_neg (by omega)]; exact h.2.2.2.2.1) ?_
  refine j_iadd dX8_addStep_26 ?_
  refine j_top (y := nI (130 + l.length)) (by exact nI_add 130 l.length) ?_
  refine j_ild2 dX8_addStep_27 ?_
  refine j_iast (n := (130 + l.length)) dX8_addStep_28 rfl (by decide) rfl (by omega) (by decide) ?_
  refine j_ald0 dX8_addStep_29 ?_
  refine j_dup dX8_addStep_30 rfl ?_
  refine j_getI (k := 28) dX8_addStep_31 cX8_ok (Or.inl f8_209) rfl (by decide) (by decide) (by decide) ?_
  refine j_top (y := nI l.length) (by rw [uI_at, if_neg (by omega), uI_at, if_neg (by omega)]; exact h.2.2.2.2.1) ?_
  refine j_iconst (1) dX8_addStep_34 rfl ?_
  refine j_iadd dX8_addStep_35 ?_
  refine j_top (y := nI (l.length + 1)) (nI_1 _) ?_
  refine j_putI (k := 28) dX8_addStep_36 cX8_ok (Or.inl f8_209) rfl (by decide) (by decide) (by decide) rfl ?_
  refine j_vret dX8_addStep_39 rfl ?_
  refine ⟨rfl, (((h.1.putS (Or.inl rfl) (by omega)).putS (Or.inr rfl) (by omega)).put61 (by decide) (by decide)), ?_, ?_, ?_, ?_, ?_⟩
  · rw [uI_at, if_neg (by omega), uI_at, if_neg (by omega), uI_at, if_neg (by omega)]; exact h.2.1
  · rw [uI_at, if_neg (by omega), uI_at, if_neg (by omega), uI_at, if_neg (by omega)]; exact h.2.2.1
  · rw [uI_at, if_neg (by omega), uI_at, if_neg (by omega), uI_at, if_neg (by omega)]; exact h.2.2.2.1
  · rw [uI_at, if_pos ⟨rfl, rfl⟩, List.length_append]; rfl
  · refine stepsR.put61 (fun i hi => ?_)
    rw [List.length_append, List.length_singleton] at hi
    rw [lw_snoc]
    by_cases c : i = l.length
    · subst c
      rw [if_pos rfl]
      exact ⟨by rw [← hw]; simp [uI_at], by simp [uI_at, hz], by rw [← hw]; simp⟩
    · rw [if_neg c]
      have := h.2.2.2.2.2 i (by omega)
      exact ⟨by simp [uI_at, c]; exact this.1, by simp [uI_at, c]; exact this.2.1, this.2.2⟩

set_option maxRecDepth 20000 in
theorem s_X8_addStep_f {q m : Nat} {w z : Int32} (hL : m < 130) (h : RFq S0 t len q m S) : Rqv a mX8_addStep 0 [.ref (a 61), .int w, .int z] S (RFq S0 t len q (m + 1)) := by
  obtain ⟨k, hk1, hk2⟩ := h.2.2.2
  show J _ _ _ _ 0 [_, _, _] [] _
  refine j_ald0 dX8_addStep_0 ?_
  refine j_getR (k := 29) (79) dX8_addStep_1 cX8_ok (Or.inl f8_74) rfl (by decide) (by decide) (by decide) rfl ?_
  refine j_sipush (130) dX8_addStep_4 rfl ?_
  refine j_ald0 dX8_addStep_7 ?_
  refine j_getI (k := 28) dX8_addStep_8 cX8_ok (Or.inl f8_209) rfl (by decide) (by decide) (by decide) ?_
  refine j_top (y := nI k) (hk2) ?_
  refine j_iadd dX8_addStep_11 ?_
  refine j_top (y := nI (130 + k)) (by exact nI_add 130 k) ?_
  refine j_ild1 dX8_addStep_12 ?_
  refine j_i2b dX8_addStep_13 ?_
  refine j_bast (n := (130 + k)) dX8_addStep_14 rfl (by decide) rfl (by omega) (by decide) ?_
  refine j_ald0 dX8_addStep_15 ?_
  refine j_getR (k := 30) (80) dX8_addStep_16 cX8_ok (Or.inl f8_77) rfl (by decide) (by decide) (by decide) rfl ?_
  refine j_sipush (130) dX8_addStep_19 rfl ?_
  refine j_ald0 dX8_addStep_22 ?_
  refine j_getI (k := 28) dX8_addStep_23 cX8_ok (Or.inl f8_209) rfl (by decide) (by decide) (by decide) ?_
  refine j_top (y := nI k) (by rw [uI_at, if_neg (by omega)]; exact hk2) ?_
  refine j_iadd dX8_addStep_26 ?_
  refine j_top (y := nI (130 + k)) (by exact nI_add 130 k) ?_
  refine j_ild2 dX8_addStep_27 ?_
  refine j_iast (n := (130 + k)) dX8_addStep_28 rfl (by decide) rfl (by omega) (by decide) ?_
  refine j_ald0 dX8_addStep_29 ?_
  refine j_dup dX8_addStep_30 rfl ?_
  refine j_getI (k := 28) dX8_addStep_31 cX8_ok (Or.inl f8_209) rfl (by decide) (by decide) (by decide) ?_
  refine j_top (y := nI k) (by rw [uI_at, if_neg (by omega), uI_at, if_neg (by omega)]; exact hk2) ?_
  refine j_iconst (1) dX8_addStep_34 rfl ?_
  refine j_iadd dX8_addStep_35 ?_
  refine j_top (y := nI (k + 1)) (nI_1 _) ?_
  refine j_putI (k := 28) dX8_addStep_36 cX8_ok (Or.inl f8_209) rfl (by decide) (by decide) (by decide) rfl ?_
  refine j_vret dX8_addStep_39 rfl ?_
  exact ⟨rfl, (((h.1.putS (Or.inl rfl) (by omega)).putS (Or.inr rfl) (by omega)).put61 (by decide) (by decide)), h.2.1, ⟨by rw [uI_at, if_neg (by omega), uI_at, if_neg (by omega), uI_at, if_neg (by omega)]; exact h.2.2.1.1, by rw [uI_at, if_neg (by omega), uI_at, if_neg (by omega), uI_at, if_neg (by omega)]; exact h.2.2.1.2⟩, k + 1, by omega, by rw [uI_at, if_pos ⟨rfl, rfl⟩]⟩

def nmV (x : Int32) : Int32 := if x = 97 then 0 else if x = 98 then 1 else if x = 110 then 2 else if x = 109 then 3 else if x = 115 then 4 else -1
set_option maxRecDepth 20000 in
theorem s_X8_nameOf {x : Int32} : Rt a mX8_nameOf 0 [.int x] S (some (.int (nmV x))) S := by
  show J _ _ _ _ 0 [_] [] _
  refine j_ild0 dX8_nameOf_0 ?_
  refine j_topi (fun y_1 e_1 => ?_)
  by_cases h_1_97 : y_1 = 97
  · rw [h_1_97] at e_1 ⊢
    refine j_lookup (51) 52 dX8_nameOf_1 (by decide +kernel) (by decide +kernel) (by decide) ?_
    refine j_iconst (0) dX8_nameOf_52 rfl ?_
    refine j_iret dX8_nameOf_53 rfl ?_
    subst e_1
    exact ⟨by decide, rfl⟩
  by_cases h_1_98 : y_1 = 98
  · rw [h_1_98] at e_1 ⊢
    refine j_lookup (53) 54 dX8_nameOf_1 (by decide +kernel) (by decide +kernel) (by decide) ?_
    refine j_iconst (1) dX8_nameOf_54 rfl ?_
    refine j_iret dX8_nameOf_55 rfl ?_
    subst e_1
    exact ⟨by decide, rfl⟩
  by_cases h_1_109 : y_1 = 109
  · rw [h_1_109] at e_1 ⊢
    refine j_lookup (57) 58 dX8_nameOf_1 (by decide +kernel) (by decide +kernel) (by decide) ?_
    refine j_iconst (3) dX8_nameOf_58 rfl ?_
    refine j_iret dX8_nameOf_59 rfl ?_
    subst e_1
    exact ⟨by decide, rfl⟩
  by_cases h_1_110 : y_1 = 110
  · rw [h_1_110] at e_1 ⊢
    refine j_lookup (55) 56 dX8_nameOf_1 (by decide +kernel) (by decide +kernel) (by decide) ?_
    refine j_iconst (2) dX8_nameOf_56 rfl ?_
    refine j_iret dX8_nameOf_57 rfl ?_
    subst e_1
    exact ⟨by decide, rfl⟩
  by_cases h_1_115 : y_1 = 115
  · rw [h_1_115] at e_1 ⊢
    refine j_lookup (59) 60 dX8_nameOf_1 (by decide +kernel) (by decide +kernel) (by decide) ?_
    refine j_iconst (4) dX8_nameOf_60 rfl ?_
    refine j_iret dX8_nameOf_61 rfl ?_
    subst e_1
    exact ⟨by decide, rfl⟩
  refine j_lookup (61) 62 dX8_nameOf_1 (by decide +kernel) (lk_out (fun k hk => by
    simp at hk
    rcases hk with rfl | rfl | rfl | rfl | rfl
    · exact h_1_97
    · exact h_1_98
    · exact h_1_109
    · exact h_1_110
    · exact h_1_115)) (by decide) ?_
  refine j_iconst (-1) dX8_nameOf_62 rfl ?_
  refine j_iret dX8_nameOf_63 rfl ?_
  subst e_1
  exact ⟨by rw [nmV, if_neg h_1_97, if_neg h_1_98, if_neg h_1_110, if_neg h_1_109, if_neg h_1_115], rfl⟩

theorem nm_iff {x : Int32} : 0 ≤ nmV x ↔ isNm x = true := by
  unfold nmV isNm
  by_cases h1 : x = 97
  · simp [h1]
  by_cases h2 : x = 98
  · simp [h2]
  by_cases h3 : x = 110
  · simp [h3]
  by_cases h4 : x = 109
  · simp [h4]
  by_cases h5 : x = 115
  · simp [h5]
  · simp [h1, h2, h3, h4, h5]
theorem nm_lk (ht : ∀ i, t i < 256) {p : Nat} : isNm (lk t len p) = isNm (sv t len p) := by
  unfold isNm
  simp only [lk_c (len := len) ht (p := p) (c := 97) (by decide) (by decide), lk_c (len := len) ht (p := p) (c := 98) (by decide) (by decide), lk_c (len := len) ht (p := p) (c := 110) (by decide) (by decide), lk_c (len := len) ht (p := p) (c := 109) (by decide) (by decide), lk_c (len := len) ht (p := p) (c := 115) (by decide) (by decide)]
theorem nm_st {x : Int32} (h : isNm x = true) : (2 : Int32).toInt8.toInt32 = sgA (-x) ∧ nmV x = sgW (-x) := by
  rcases (of_decide_eq_true h : x = 97 ∨ x = 98 ∨ x = 110 ∨ x = 109 ∨ x = 115) with rfl | rfl | rfl | rfl | rfl <;> decide
theorem nm_lkv (ht : ∀ i, t i < 256) {p : Nat} (h : isNm (sv t len p) = true) : lk t len p = sv t len p := by
  rcases (of_decide_eq_true h : sv t len p = 97 ∨ sv t len p = 98 ∨ sv t len p = 110 ∨ sv t len p = 109 ∨ sv t len p = 115) with e | e | e | e | e <;> (rw [e]; exact (lk_c ht (by decide) (by decide)).mpr e)
theorem jn_st {lvl : Nat} {x : Int32} (h : jn lvl x = true) : (x.toInt8.toInt32 = sgA (-x) ∧ 0 = sgW (-x)) ∧ 0 ≤ x ∧ x < 128 := by
  have h2 : x = 124 ∨ x = 38 ∨ x = 60 ∨ x = 61 ∨ x = 62 ∨ x = 43 ∨ x = 45 ∨ x = 42 ∨ x = 47 ∨ x = 37 := by
    match lvl, h with
    | 0, z => exact Or.inl (of_decide_eq_true z)
    | 1, z => exact Or.inr (Or.inl (of_decide_eq_true z))
    | 2, z => rcases of_decide_eq_true z with q | q | q <;> simp [q]
    | 3, z => rcases of_decide_eq_true z with q | q <;> simp [q]
    | n + 4, z => rcases (of_decide_eq_true z : x = 42 ∨ x = 47 ∨ x = 37) with q | q | q <;> simp [q]
  rcases h2 with rfl | rfl | rfl | rfl | rfl | rfl | rfl | rfl | rfl | rfl <;> decide
theorem jn_lk (ht : ∀ i, t i < 256) {p lvl : Nat} (h : jn lvl (sv t len p) = true) : lk t len p = sv t len p := by
  have := jn_st h
  exact (lk_c ht this.2.1 this.2.2).mpr rfl
set_option maxRecDepth 20000 in
theorem s_X8_opens_no {p : Nat} {l : List Int32} (hp : p ≤ len) (h : ROq S0 t len p 6 l S) : Rqi a mX8_opens 1 [.ref (a 61)] S fun x S' => x = 0 ∧ RFq S0 t len p l.length S' := by
  show J _ _ _ _ 0 [_] [] _
  refine j_ald0 dX8_opens_0 ?_
  refine j_getI (k := 27) dX8_opens_1 cX8_ok (Or.inl f8_212) rfl (by decide) (by decide) (by decide) ?_
  refine j_bipush (6) dX8_opens_4 rfl ?_
  refine j_icmpne 15 dX8_opens_6 (by decide) (fun c_6 => absurd c_6 (not_not_intro h.2.2.2.1)) (fun c_6 => ?_)
  refine j_ald0 dX8_opens_9 ?_
  refine j_qvV0 dX8_opens_10 kX8_faulty l8_215 rfl (by decide) rfl (Nat.le_of_ble_eq_true rfl) (Nat.le_of_ble_eq_true rfl) (by omega) (s_X8_faulty hp h) (fun S1 h1 => ?_)
  refine j_iconst (0) dX8_opens_13 rfl ?_
  refine j_zret dX8_opens_14 rfl (by decide) ?_
  exact ⟨_, rfl, rfl, h1⟩

set_option maxRecDepth 20000 in
theorem s_X8_opens {p op : Nat} {l : List Int32} (ho : op < 6) (h : ROq S0 t len p op l S) : Rqi a mX8_opens 1 [.ref (a 61)] S fun x S' => x = 1 ∧ ROq S0 t len (p + 1) (op + 1) l S' := by
  show J _ _ _ _ 0 [_] [] _
  refine j_ald0 dX8_opens_0 ?_
  refine j_getI (k := 27) dX8_opens_1 cX8_ok (Or.inl f8_212) rfl (by decide) (by decide) (by decide) ?_
  refine j_bipush (6) dX8_opens_4 rfl ?_
  refine j_icmpne 15 dX8_opens_6 (by decide) (fun c_6 => ?_) (fun c_6 => absurd (by rw [h.2.2.2.1]; exact fun z => absurd ((nI_eq (a := op) (b := 6) (by omega) (by decide)).mp z) (by omega)) c_6)
  refine j_ald0 dX8_opens_15 ?_
  refine j_dup dX8_opens_16 rfl ?_
  refine j_getI (k := 27) dX8_opens_17 cX8_ok (Or.inl f8_212) rfl (by decide) (by decide) (by decide) ?_
  refine j_top (y := nI op) (h.2.2.2.1) ?_
  refine j_iconst (1) dX8_opens_20 rfl ?_
  refine j_iadd dX8_opens_21 ?_
  refine j_top (y := nI (op + 1)) (nI_1 op) ?_
  refine j_putI (k := 27) dX8_opens_22 cX8_ok (Or.inl f8_212) rfl (by decide) (by decide) (by decide) rfl ?_
  refine j_ald0 dX8_opens_25 ?_
  refine j_dup dX8_opens_26 rfl ?_
  refine j_getI (k := 25) dX8_opens_27 cX8_ok (Or.inl f8_203) rfl (by decide) (by decide) (by decide) ?_
  refine j_top (y := nI p) (by rw [uI_at, if_neg (by omega)]; exact h.2.1) ?_
  refine j_iconst (1) dX8_opens_30 rfl ?_
  refine j_iadd dX8_opens_31 ?_
  refine j_top (y := nI (p + 1)) (nI_1 p) ?_
  refine j_putI (k := 25) dX8_opens_32 cX8_ok (Or.inl f8_203) rfl (by decide) (by decide) (by decide) rfl ?_
  refine j_iconst (1) dX8_opens_35 rfl ?_
  refine j_zret dX8_opens_36 rfl (by decide) ?_
  exact ⟨_, rfl, rfl, (h.opn (q := op + 1)).adv⟩

/-- where a figure ends: with a digit behind it it is a fault, as with none in it -/
def FGq (S0 : St) (t : Nat → Nat) (len q op w : Nat) (l : List Int32) (bad : Prop) (S : St) : Prop := (bad → RFq S0 t len q (l.length + 1) S) ∧ (¬ bad → ROq S0 t len q op (l ++ [nI w]) S)
set_option maxRecDepth 20000 in
theorem fig_52 {k p x op : Nat} {dig : Prop} {l : List Int32} (ht : ∀ i, t i < 256) (hl : len ≤ 120) (hL : l.length < 129) (hp : p ≤ len) (h : ROq S0 t len p op l S) (hk : k < 2 ^ 31) (hd0 : k = 0 → (isDg (sv t len p) = true ↔ dig)) (hd1 : 0 < k → dig) (hend : k = 0 → ¬ isDg (sv t len p) = true) (hx : x < 2 ^ 31) : J a mX8_figure 1 (gm a fun r S' => r = none ∧ FGq S0 t len p op x l (¬ dig ∨ isDg (sv t len p) = true) S') 52 [.ref (a 61), .int (nI x), .int (nI k)] [] S := by
  refine j_ild2 dX8_figure_52 ?_
  refine j_ifeq 70 dX8_figure_53 (by decide) (fun c_53 => ?_) (fun c_53 => ?_)
  · have q_53 : k = 0 := (nI_eq (a := k) (b := 0) (by omega) (by decide)).mp c_53
    have nd : ¬ dig := fun z => hend q_53 ((hd0 q_53).mpr z)
    refine j_ald0 dX8_figure_70 ?_
    refine j_qvV0 dX8_figure_71 kX8_faulty l8_215 rfl (by decide) rfl (Nat.le_of_ble_eq_true rfl) (Nat.le_of_ble_eq_true rfl) (by omega) (s_X8_faulty hp h) (fun S1 h1 => ?_)
    refine j_ald0 dX8_figure_74 ?_
    refine j_iconst (1) dX8_figure_75 rfl ?_
    refine j_ild1 dX8_figure_76 ?_
    refine j_qvV2 dX8_figure_77 kX8_addStep l8_221 rfl (by decide) rfl (Nat.le_of_ble_eq_true rfl) (Nat.le_of_ble_eq_true rfl) (by omega) (s_X8_addStep_f (by omega) h1) (fun S2 h2 => ?_)
    refine j_vret dX8_figure_80 rfl ?_
    exact ⟨rfl, fun _ => h2, fun z => absurd (Or.inl nd) z⟩
  have q_53 : 0 < k := Nat.pos_of_ne_zero (fun z => c_53 (by rw [z]; rfl))
  have yd := hd1 q_53
  refine j_ald0 dX8_figure_56 ?_
  refine j_cV0 dX8_figure_57 kX8_look l8_218 rfl (by decide) rfl (Nat.le_of_ble_eq_true rfl) (Nat.le_of_ble_eq_true rfl) (by omega) (s_X8_look hl hp h) ?_
  refine j_bipush (48) dX8_figure_60 rfl ?_
  refine j_bipush (57) dX8_figure_62 rfl ?_
  refine j_cS3 dX8_figure_64 kX8_in zX8_in (Or.inl l8_148) (Nat.le_of_ble_eq_true rfl) (Nat.le_of_ble_eq_true rfl) (by omega) (s_X8_in) ?_
  refine j_ifeqB 74 dX8_figure_67 (by decide) (fun c_67 => ?_) (fun c_67 => ?_)
  · have q_67 : ¬ isDg (sv t len p) = true := fun z => c_67 ((lk_dg ht).mpr z)
    refine j_ald0 dX8_figure_74 ?_
    refine j_iconst (1) dX8_figure_75 rfl ?_
    refine j_ild1 dX8_figure_76 ?_
    refine j_qvV2 dX8_figure_77 kX8_addStep l8_221 rfl (by decide) rfl (Nat.le_of_ble_eq_true rfl) (Nat.le_of_ble_eq_true rfl) (by omega) (s_X8_addStep (x := nI x) (by omega) (by rw [sgA, if_pos (nI_pos' (by omega))]; rfl) (by rw [sgW, if_pos (nI_pos' (by omega))]) h) (fun S2 h2 => ?_)
    refine j_vret dX8_figure_80 rfl ?_
    exact ⟨rfl, fun z => (by rcases z with z | z; exact absurd yd z; exact absurd z q_67), fun _ => h2⟩
  have q_67 := (lk_dg ht).mp c_67
  refine j_ald0 dX8_figure_70 ?_
  refine j_qvV0 dX8_figure_71 kX8_faulty l8_215 rfl (by decide) rfl (Nat.le_of_ble_eq_true rfl) (Nat.le_of_ble_eq_true rfl) (by omega) (s_X8_faulty hp h) (fun S1 h1 => ?_)
  refine j_ald0 dX8_figure_74 ?_
  refine j_iconst (1) dX8_figure_75 rfl ?_
  refine j_ild1 dX8_figure_76 ?_
  refine j_qvV2 dX8_figure_77 kX8_addStep l8_221 rfl (by decide) rfl (Nat.le_of_ble_eq_true rfl) (Nat.le_of_ble_eq_true rfl) (by omega) (s_X8_addStep_f (by omega) h1) (fun S2 h2 => ?_)
  refine j_vret dX8_figure_80 rfl ?_
  exact ⟨rfl, fun _ => h2, fun z => absurd (Or.inr q_67) z⟩

set_option maxRecDepth 20000 in
theorem lp_X8_figure (ht : ∀ i, t i < 256) (hl : len ≤ 120) {l : List Int32} (hL : l.length < 129) {q w op : Nat} {dig : Prop} : ∀ (fu : Nat) (k : Nat) (p : Nat) (x : Nat) (S : St), 4 - k < fu → (k ≤ 4) → (p ≤ len) → (ROq S0 t len p op l S) → (numR t len (4 - k) p x = (q, w)) → (k = 0 → (isDg (sv t len p) = true ↔ dig)) → (0 < k → dig) → (x < 10 ^ k) → J a mX8_figure 1 (gm a fun r S' => r = none ∧ FGq S0 t len q op w l (¬ dig ∨ isDg (sv t len q) = true) S') 4 [.ref (a 61), .int (nI x), .int (nI k)] [] S := by
  intro fu
  induction fu with
  | zero => intro k p x S hk; exact absurd hk (Nat.not_lt_zero _)
  | succ fu ih =>
    intro k p x S hk hk4 hp h hn hd0 hd1 hx
    refine j_ild2 dX8_figure_4 ?_
    refine j_iconst (4) dX8_figure_5 rfl ?_
    refine j_icmpge 52 dX8_figure_6 (by decide) (fun c_6 => ?_) (fun c_6 => ?_)
    · have q_6 : k = 4 := by have := (nI_leI (a := 4) (b := k) (by decide) (by omega)).mp c_6; omega
      subst q_6
      have hend : 4 = 0 → ¬ isDg (sv t len p) = true := fun z => by cases z
      have e : (p, x) = (q, w) := hn
      cases e
      exact fig_52 ht hl hL hp h (by omega) hd0 hd1 hend (by have := Nat.pow_le_pow_right (show 0 < 10 by decide) hk4; omega)
    have q_6 : k < 4 := Nat.not_le.mp (fun z => c_6 ((nI_leI (a := 4) (b := k) (by decide) (by omega)).mpr z))
    rw [show 4 - k = (4 - (k + 1)) + 1 by omega, numR] at hn
    refine j_ald0 dX8_figure_9 ?_
    refine j_cV0 dX8_figure_10 kX8_look l8_218 rfl (by decide) rfl (Nat.le_of_ble_eq_true rfl) (Nat.le_of_ble_eq_true rfl) (by omega) (s_X8_look hl hp h) ?_
    refine j_bipush (48) dX8_figure_13 rfl ?_
    refine j_bipush (57) dX8_figure_15 rfl ?_
    refine j_cS3 dX8_figure_17 kX8_in zX8_in (Or.inl l8_148) (Nat.le_of_ble_eq_true rfl) (Nat.le_of_ble_eq_true rfl) (by omega) (s_X8_in) ?_
    refine j_ifeqB 52 dX8_figure_20 (by decide) (fun c_20 => ?_) (fun c_20 => ?_)
    · have q_20 : ¬ isDg (sv t len p) = true := fun z => c_20 ((lk_dg ht).mpr z)
      rw [if_neg q_20] at hn
      have hend : k = 0 → ¬ isDg (sv t len p) = true := fun _ => q_20
      cases hn
      exact fig_52 ht hl hL hp h (by omega) hd0 hd1 hend (by have := Nat.pow_le_pow_right (show 0 < 10 by decide) hk4; omega)
    have q_20 := (lk_dg ht).mp c_20
    rw [if_pos q_20] at hn
    have hd := dg_1 q_20
    have hb := dg_b (ht p) q_20
    refine j_bipush (10) dX8_figure_23 rfl ?_
    refine j_ild1 dX8_figure_25 ?_
    refine j_imul dX8_figure_26 ?_
    refine j_top (y := nI (x * 10)) (by rw [Int32.mul_comm]; exact pk_mul x 10) ?_
    refine j_ald0 dX8_figure_27 ?_
    refine j_cV0 dX8_figure_28 kX8_look l8_218 rfl (by decide) rfl (Nat.le_of_ble_eq_true rfl) (Nat.le_of_ble_eq_true rfl) (by omega) (s_X8_look hl hp h) ?_
    refine j_top (y := nI (t p)) (dg_lk ht q_20) ?_
    refine j_iadd dX8_figure_31 ?_
    refine j_top (y := nI (x * 10 + t p)) (nI_add _ _) ?_
    refine j_bipush (48) dX8_figure_32 rfl ?_
    refine j_isub dX8_figure_34 ?_
    refine j_top (y := nI (x * 10 + t p - 48)) (by exact pk_sub (a := x * 10 + t p) (b := 48) (by omega)) ?_
    refine j_ist1 dX8_figure_35 rfl (by decide) ?_
    refine j_iinc2 (nI (k + 1)) dX8_figure_36 (nI_1 k) rfl (by decide) ?_
    refine j_ald0 dX8_figure_39 ?_
    refine j_dup dX8_figure_40 rfl ?_
    refine j_getI (k := 25) dX8_figure_41 cX8_ok (Or.inl f8_203) rfl (by decide) (by decide) (by decide) ?_
    refine j_top (y := nI p) (h.2.1) ?_
    refine j_iconst (1) dX8_figure_44 rfl ?_
    refine j_iadd dX8_figure_45 ?_
    refine j_top (y := nI (p + 1)) (nI_1 p) ?_
    refine j_putI (k := 25) dX8_figure_46 cX8_ok (Or.inl f8_203) rfl (by decide) (by decide) (by decide) rfl ?_
    refine j_goto 4 dX8_figure_49 (by decide) ?_
    exact ih (k + 1) (p + 1) _ _ (by omega) (by omega) (by omega) h.adv hn (fun z => by omega) (fun _ => by rcases Nat.eq_zero_or_pos k with z | z; exact (hd0 z).mp q_20; exact hd1 z) (by rw [Nat.pow_succ]; omega)

set_option maxRecDepth 20000 in
theorem s_X8_figure {p op : Nat} {l : List Int32} (ht : ∀ i, t i < 256) (hl : len ≤ 120) (hp : p ≤ len) (hL : l.length < 129) (h : ROq S0 t len p op l S) : Rqv a mX8_figure 1 [.ref (a 61)] S (FGq S0 t len (numR t len 4 p 0).1 op (numR t len 4 p 0).2 l (¬ isDg (sv t len p) = true ∨ isDg (sv t len (numR t len 4 p 0).1) = true)) := by
  show J _ _ _ _ 0 [_, .null, .null] [] _
  refine j_iconst (0) dX8_figure_0 rfl ?_
  refine j_ist1 dX8_figure_1 rfl (by decide) ?_
  refine j_iconst (0) dX8_figure_2 rfl ?_
  refine j_ist2 dX8_figure_3 rfl (by decide) ?_
  exact lp_X8_figure ht hl hL 5 0 p 0 S (by omega) (by omega) hp h rfl (fun _ => Iff.rfl) (fun z => absurd z (Nat.lt_irrefl _)) (by decide)

end ReadR
