/-! how likely a colour is shown: both sides -/
def pS (v : Nat → Nat → Nat) (b : Option (List Line)) (i s : Nat) : Nat := 60 / (wtN v b i 0 + wtN v b i 1) * wtN v b i s
def pC (v : Nat → Nat → Nat) (b : Option (List Line)) (i c : Nat) : Nat := (if v 1 i = c then pS v b i 0 else 0) + (if v 2 i = c then pS v b i 1 else 0)
def lkO (v : Nat → Nat → Nat) (b : Option (List Line)) (i c k : Nat) : Nat := v 0 i * pC v b i c ^ k
def lkA (v : Nat → Nat → Nat) (b : Option (List Line)) (n c k : Nat) : Nat := sumN (fun i => lkO v b i c k) n
theorem pS_sum (v : Nat → Nat → Nat) (b : Option (List Line)) (i : Nat) : pS v b i 0 + pS v b i 1 ≤ 60 := by
  unfold pS
  rw [← Nat.mul_add]
  exact Nat.div_mul_le_self _ _
theorem pC_le (v : Nat → Nat → Nat) (b : Option (List Line)) (i c : Nat) : pC v b i c ≤ 60 := by
  have := pS_sum v b i
  unfold pC
  split <;> split <;> omega
theorem lkO_le {v : Nat → Nat → Nat} {b : Option (List Line)} {i c k : Nat} (h : v 0 i ≤ 9) (hk : k ≤ 5) : lkO v b i c k ≤ 9 * 60 ^ 5 := by
  have h1 : pC v b i c ^ k ≤ 60 ^ k := Nat.pow_le_pow_left (pC_le v b i c) k
  have h2 : 60 ^ k ≤ 60 ^ 5 := Nat.pow_le_pow_right (by decide) hk
  exact Nat.mul_le_mul h (by omega)
section Likely
variable {a : Nat → Nat} {S : St} {n : Nat} {v : Nat → Nat → Nat} {b : Option (List Line)}
theorem lkA_le {c k : Nat} (h : ∀ w, w < 12 → ∀ i, i < 8 → v w i ≤ mostN w) (hn : n ≤ 8) (hk : k ≤ 5) : lkA v b n c k ≤ n * (9 * 60 ^ 5) := sumN_le n (fun i hi => lkO_le (h 0 (by decide) i (by omega)) hk)

set_option maxRecDepth 20000 in
theorem s_X5_ofSide {i s : Nat} (hw : WCq v b n S) (hn8 : n ≤ 8) (hin : i < n) (hs : s < 2) : Rt a mX5_ofSide 0 [.ref (a 3), .int (nI i), .int (nI s)] S (some (.int (nI (pS v b i s)))) S := by
  show J _ _ _ _ 0 [_, _, _, .null] [] _
  have hi : i < 8 := by omega
  have w0 := wtN_le v b i 0
  have w1 := wtN_le v b i 1
  have w2 := wtN_sum v b i
  refine j_ald0 dX5_ofSide_0 ?_
  refine j_getR (k := 0) (36) dX5_ofSide_1 cX5_ok (Or.inl f5_11) rfl (by decide) (by decide) (by decide) rfl ?_
  refine j_ild1 dX5_ofSide_4 ?_
  refine j_aald (n := i) (37 + i) dX5_ofSide_5 (Or.inr rfl) (by decide) rfl (by omega) (by decide) (fr_wr hi) ?_
  refine j_iconst (0) dX5_ofSide_6 rfl ?_
  refine j_iald (n := 0) dX5_ofSide_7 (ck_wr hi) (by omega) rfl (by decide) (by decide) ?_
  refine j_top (y := nI (wtN v b i 0)) (hw i hin).1 ?_
  refine j_ald0 dX5_ofSide_8 ?_
  refine j_getR (k := 0) (36) dX5_ofSide_9 cX5_ok (Or.inl f5_11) rfl (by decide) (by decide) (by decide) rfl ?_
  refine j_ild1 dX5_ofSide_12 ?_
  refine j_aald (n := i) (37 + i) dX5_ofSide_13 (Or.inr rfl) (by decide) rfl (by omega) (by decide) (fr_wr hi) ?_
  refine j_iconst (1) dX5_ofSide_14 rfl ?_
  refine j_iald (n := 1) dX5_ofSide_15 (ck_wr hi) (by omega) rfl (by decide) (by decide) ?_
  refine j_top (y := nI (wtN v b i 1)) (hw i hin).2 ?_
  refine j_iadd dX5_ofSide_16 ?_
  refine j_top (y := nI (wtN v b i 0 + wtN v b i 1)) (nI_add _ _) ?_
  refine j_ist3 dX5_ofSide_17 rfl (by decide) ?_
  refine j_ild3 dX5_ofSide_18 ?_
  refine j_iconst (1) dX5_ofSide_19 rfl ?_
  refine j_icmpge 27 dX5_ofSide_20 (by decide) (fun c_20 => ?_) (fun c_20 => absurd (nI_le (a := 1) w2 (by omega)) c_20)
  refine j_bipush (60) dX5_ofSide_27 rfl ?_
  refine j_ild3 dX5_ofSide_29 ?_
  refine j_idiv dX5_ofSide_30 (nI_ne0 (by omega) (by omega)) ?_
  refine j_top (y := nI (60 / (wtN v b i 0 + wtN v b i 1))) (pk_div (a := 60) (by decide) (by omega) (by omega)) ?_
  refine j_ald0 dX5_ofSide_31 ?_
  refine j_getR (k := 0) (36) dX5_ofSide_32 cX5_ok (Or.inl f5_11) rfl (by decide) (by decide) (by decide) rfl ?_
  refine j_ild1 dX5_ofSide_35 ?_
  refine j_aald (n := i) (37 + i) dX5_ofSide_36 (Or.inr rfl) (by decide) rfl (by omega) (by decide) (fr_wr hi) ?_
  refine j_ild2 dX5_ofSide_37 ?_
  refine j_iald (n := s) dX5_ofSide_38 (ck_wr hi) (by omega) rfl (by omega) (by decide) ?_
  refine j_top (y := nI (wtN v b i s)) (hw.at hin hs) ?_
  refine j_imul dX5_ofSide_39 ?_
  refine j_top (y := nI (pS v b i s)) (pk_mul _ _) ?_
  refine j_iret dX5_ofSide_40 rfl ?_
  exact ⟨rfl, rfl⟩

set_option maxRecDepth 20000 in
theorem s_X5_ofColour {i c : Nat} (h : TC n v S) (hw : WCq v b n S) (hin : i < n) (hc : c < 2 ^ 31) : Rt a mX5_ofColour 1 [.ref (a 3), .ref (a 1), .int (nI i), .int (nI c)] S (some (.int (nI (pC v b i c)))) S := by
  have hn8 := h.2.1
  show J _ _ _ _ 0 [_, _, _, _, .null, .null] [] _
  refine j_iconst (0) dX5_ofColour_0 rfl ?_
  refine j_ist4 dX5_ofColour_1 rfl (by decide) ?_
  refine j_iconst (0) dX5_ofColour_3 rfl ?_
  refine j_ist5 dX5_ofColour_4 rfl (by decide) ?_
  refine j_ild5 dX5_ofColour_6 ?_
  refine j_iconst (2) dX5_ofColour_8 rfl ?_
  refine j_icmpge 41 dX5_ofColour_9 (by decide) (fun c_9 => absurd c_9 (by decide)) (fun c_9 => ?_)
  refine j_ald1 dX5_ofColour_12 ?_
  refine j_ild2 dX5_ofColour_13 ?_
  refine j_ild5 dX5_ofColour_14 ?_
  refine j_cV2 dX5_ofColour_16 kX6_colour l5_56 rfl (by decide) rfl (Nat.le_of_ble_eq_true rfl) (Nat.le_of_ble_eq_true rfl) (by omega) (sC_colour (i := i) (s := 0) h (by omega) (by decide)) ?_
  refine j_ild3 dX5_ofColour_19 ?_
  refine j_icmpne 35 dX5_ofColour_20 (by decide) (fun c_20_0 => ?_) (fun c_20_0 => ?_)
  · have q_0 : ¬ v 1 i = c := fun z => c_20_0 (by rw [z])
    refine j_iinc5 (1) dX5_ofColour_35 rfl rfl (by decide) ?_
    refine j_goto 6 dX5_ofColour_38 (by decide) ?_
    refine j_ild5 dX5_ofColour_6 ?_
    refine j_iconst (2) dX5_ofColour_8 rfl ?_
    refine j_icmpge 41 dX5_ofColour_9 (by decide) (fun c_9 => absurd c_9 (by decide)) (fun c_9 => ?_)
    refine j_ald1 dX5_ofColour_12 ?_
    refine j_ild2 dX5_ofColour_13 ?_
    refine j_ild5 dX5_ofColour_14 ?_
    refine j_cV2 dX5_ofColour_16 kX6_colour l5_56 rfl (by decide) rfl (Nat.le_of_ble_eq_true rfl) (Nat.le_of_ble_eq_true rfl) (by omega) (sC_colour (i := i) (s := 1) h (by omega) (by decide)) ?_
    refine j_ild3 dX5_ofColour_19 ?_
    refine j_icmpne 35 dX5_ofColour_20 (by decide) (fun c_20_1 => ?_) (fun c_20_1 => ?_)
    · have q_1 : ¬ v 2 i = c := fun z => c_20_1 (by rw [z])
      refine j_iinc5 (2) dX5_ofColour_35 rfl rfl (by decide) ?_
      refine j_goto 6 dX5_ofColour_38 (by decide) ?_
      refine j_ild5 dX5_ofColour_6 ?_
      refine j_iconst (2) dX5_ofColour_8 rfl ?_
      refine j_icmpge 41 dX5_ofColour_9 (by decide) (fun c_9 => ?_) (fun c_9 => absurd (by decide) c_9)
      refine j_ild4 dX5_ofColour_41 ?_
      refine j_iret dX5_ofColour_43 rfl ?_
      exact ⟨by rw [pC, if_neg q_0, if_neg q_1]; first | rfl | rw [Nat.zero_add] | rw [Nat.add_zero], rfl⟩
    have q_1 : v 2 i = c := (nI_eq (by have := h.2.2.2 2 (by decide) i (by omega); rw [show mostN 2 = 5 from rfl] at this; omega) (by omega)).mp (Classical.not_not.mp c_20_1)
    refine j_ild4 dX5_ofColour_23 ?_
    refine j_ald0 dX5_ofColour_25 ?_
    refine j_ild2 dX5_ofColour_26 ?_
    refine j_ild5 dX5_ofColour_27 ?_
    refine j_cV2 dX5_ofColour_29 kX5_ofSide l5_59 rfl (by decide) rfl (Nat.le_of_ble_eq_true rfl) (Nat.le_of_ble_eq_true rfl) (by omega) (s_X5_ofSide (i := i) (s := 1) hw h.2.1 hin (by decide)) ?_
    refine j_iadd dX5_ofColour_32 ?_
    refine j_top (y := nI (pS v b i 1)) (by exact (Int32.zero_add _)) ?_
    refine j_ist4 dX5_ofColour_33 rfl (by decide) ?_
    refine j_iinc5 (2) dX5_ofColour_35 rfl rfl (by decide) ?_
    refine j_goto 6 dX5_ofColour_38 (by decide) ?_
    refine j_ild5 dX5_ofColour_6 ?_
    refine j_iconst (2) dX5_ofColour_8 rfl ?_
    refine j_icmpge 41 dX5_ofColour_9 (by decide) (fun c_9 => ?_) (fun c_9 => absurd (by decide) c_9)
    refine j_ild4 dX5_ofColour_41 ?_
    refine j_iret dX5_ofColour_43 rfl ?_
    exact ⟨by rw [pC, if_neg q_0, if_pos q_1]; first | rfl | rw [Nat.zero_add] | rw [Nat.add_zero], rfl⟩
  have q_0 : v 1 i = c := (nI_eq (by have := h.2.2.2 1 (by decide) i (by omega); rw [show mostN 1 = 5 from rfl] at this; omega) (by omega)).mp (Classical.not_not.mp c_20_0)
  refine j_ild4 dX5_ofColour_23 ?_
  refine j_ald0 dX5_ofColour_25 ?_
  refine j_ild2 dX5_ofColour_26 ?_
  refine j_ild5 dX5_ofColour_27 ?_
  refine j_cV2 dX5_ofColour_29 kX5_ofSide l5_59 rfl (by decide) rfl (Nat.le_of_ble_eq_true rfl) (Nat.le_of_ble_eq_true rfl) (by omega) (s_X5_ofSide (i := i) (s := 0) hw h.2.1 hin (by decide)) ?_
  refine j_iadd dX5_ofColour_32 ?_
  refine j_top (y := nI (pS v b i 0)) (by exact (Int32.zero_add _)) ?_
  refine j_ist4 dX5_ofColour_33 rfl (by decide) ?_
  refine j_iinc5 (1) dX5_ofColour_35 rfl rfl (by decide) ?_
  refine j_goto 6 dX5_ofColour_38 (by decide) ?_
  refine j_ild5 dX5_ofColour_6 ?_
  refine j_iconst (2) dX5_ofColour_8 rfl ?_
  refine j_icmpge 41 dX5_ofColour_9 (by decide) (fun c_9 => absurd c_9 (by decide)) (fun c_9 => ?_)
  refine j_ald1 dX5_ofColour_12 ?_
  refine j_ild2 dX5_ofColour_13 ?_
  refine j_ild5 dX5_ofColour_14 ?_
  refine j_cV2 dX5_ofColour_16 kX6_colour l5_56 rfl (by decide) rfl (Nat.le_of_ble_eq_true rfl) (Nat.le_of_ble_eq_true rfl) (by omega) (sC_colour (i := i) (s := 1) h (by omega) (by decide)) ?_
  refine j_ild3 dX5_ofColour_19 ?_
  refine j_icmpne 35 dX5_ofColour_20 (by decide) (fun c_20_1 => ?_) (fun c_20_1 => ?_)
  · have q_1 : ¬ v 2 i = c := fun z => c_20_1 (by rw [z])
    refine j_iinc5 (2) dX5_ofColour_35 rfl rfl (by decide) ?_
    refine j_goto 6 dX5_ofColour_38 (by decide) ?_
    refine j_ild5 dX5_ofColour_6 ?_
    refine j_iconst (2) dX5_ofColour_8 rfl ?_
    refine j_icmpge 41 dX5_ofColour_9 (by decide) (fun c_9 => ?_) (fun c_9 => absurd (by decide) c_9)
    refine j_ild4 dX5_ofColour_41 ?_
    refine j_iret dX5_ofColour_43 rfl ?_
    exact ⟨by rw [pC, if_pos q_0, if_neg q_1]; first | rfl | rw [Nat.zero_add] | rw [Nat.add_zero], rfl⟩
  have q_1 : v 2 i = c := (nI_eq (by have := h.2.2.2 2 (by decide) i (by omega); rw [show mostN 2 = 5 from rfl] at this; omega) (by omega)).mp (Classical.not_not.mp c_20_1)
  refine j_ild4 dX5_ofColour_23 ?_
  refine j_ald0 dX5_ofColour_25 ?_
  refine j_ild2 dX5_ofColour_26 ?_
  refine j_ild5 dX5_ofColour_27 ?_
  refine j_cV2 dX5_ofColour_29 kX5_ofSide l5_59 rfl (by decide) rfl (Nat.le_of_ble_eq_true rfl) (Nat.le_of_ble_eq_true rfl) (by omega) (s_X5_ofSide (i := i) (s := 1) hw h.2.1 hin (by decide)) ?_
  refine j_iadd dX5_ofColour_32 ?_
  refine j_top (y := nI (pS v b i 0 + pS v b i 1)) (nI_add _ _) ?_
  refine j_ist4 dX5_ofColour_33 rfl (by decide) ?_
  refine j_iinc5 (2) dX5_ofColour_35 rfl rfl (by decide) ?_
  refine j_goto 6 dX5_ofColour_38 (by decide) ?_
  refine j_ild5 dX5_ofColour_6 ?_
  refine j_iconst (2) dX5_ofColour_8 rfl ?_
  refine j_icmpge 41 dX5_ofColour_9 (by decide) (fun c_9 => ?_) (fun c_9 => absurd (by decide) c_9)
  refine j_ild4 dX5_ofColour_41 ?_
  refine j_iret dX5_ofColour_43 rfl ?_
  exact ⟨by rw [pC, if_pos q_0, if_pos q_1], rfl⟩

set_option maxRecDepth 20000 in
theorem lp_X5_likelyOf {w2 w3 : Int32} {x p k : Nat} (hk : k < 2 ^ 31) : ∀ (fu : Nat) (j : Nat), k - j < fu → (j ≤ k) → J a mX5_likelyOf 2 (gm a fun r S' => r = some (.long (lN (x * p ^ k))) ∧ S' = S) 24 [.ref (a 3), .ref (a 1), .int w2, .int w3, .int (nI k), .long (lN p), .null, .long (lN (x * p ^ j)), .null, .int (nI j)] [] S := by
  intro fu
  induction fu with
  | zero => intro j hf; exact absurd hf (Nat.not_lt_zero _)
  | succ fu ih =>
    intro j hf hj
    refine j_ild9 dX5_likelyOf_24 ?_
    refine j_ild4 dX5_likelyOf_26 ?_
    refine j_icmpge 44 dX5_likelyOf_28 (by decide) (fun c_28 => ?_) (fun c_28 => ?_)
    · have q_28 : j = k := by have := (nI_leI (a := k) (b := j) (by omega) (by omega)).mp c_28; omega
      subst q_28
      refine j_lld7 dX5_likelyOf_44 ?_
      refine j_lret dX5_likelyOf_46 rfl ?_
      exact ⟨rfl, rfl⟩
    have q_28 : j < k := Nat.not_le.mp (fun z => c_28 ((nI_leI (a := k) (b := j) (by omega) (by omega)).mpr z))
    refine j_lld7 dX5_likelyOf_31 ?_
    refine j_lld5 dX5_likelyOf_33 ?_
    refine j_lmul dX5_likelyOf_35 ?_
    refine j_topL (y := lN (x * p ^ (j + 1))) (by rw [Nat.pow_succ, ← Nat.mul_assoc]; exact lN_mul _ _) ?_
    refine j_lst7 dX5_likelyOf_36 rfl (by decide) ?_
    refine j_iinc9 (nI (j + 1)) dX5_likelyOf_38 (nI_1 j) rfl (by decide) ?_
    refine j_goto 24 dX5_likelyOf_41 (by decide) ?_
    exact ih (j + 1) (by omega) (by omega)

set_option maxRecDepth 20000 in
theorem s_X5_likelyOf {i c k : Nat} (h : TC n v S) (hw : WCq v b n S) (hin : i < n) (hc : c < 2 ^ 31) (hk : k < 2 ^ 31) : Rt a mX5_likelyOf 2 [.ref (a 3), .ref (a 1), .int (nI i), .int (nI c), .int (nI k)] S (some (.long (lN (lkO v b i c k)))) S := by
  have hn8 := h.2.1
  show J _ _ _ _ 0 [_, _, _, _, _, .null, .null, .null, .null, .null] [] _
  refine j_ald0 dX5_likelyOf_0 ?_
  refine j_ald1 dX5_likelyOf_1 ?_
  refine j_ild2 dX5_likelyOf_2 ?_
  refine j_ild3 dX5_likelyOf_3 ?_
  refine j_cV3 dX5_likelyOf_4 kX5_ofColour l5_62 rfl (by decide) rfl (Nat.le_of_ble_eq_true rfl) (Nat.le_of_ble_eq_true rfl) (by omega) (s_X5_ofColour h hw hin hc) ?_
  refine j_i2l dX5_likelyOf_7 ?_
  refine j_topL (y := lN (pC v b i c)) (nI_l (by have := pC_le v b i c; omega)) ?_
  refine j_lst5 dX5_likelyOf_8 rfl (by decide) ?_
  refine j_ald1 dX5_likelyOf_10 ?_
  refine j_getR (k := 0) (15) dX5_likelyOf_11 cX6_ok (Or.inr ⟨_, f5_26⟩) rfl (by decide) (by decide) (by decide) rfl ?_
  refine j_iconst (0) dX5_likelyOf_14 rfl ?_
  refine j_aald (n := 0) (16) dX5_likelyOf_15 (Or.inr rfl) (by decide) rfl (by decide) (by decide) rfl ?_
  refine j_ild2 dX5_likelyOf_16 ?_
  refine j_iald (n := i) dX5_likelyOf_17 rfl (by decide) rfl (by omega) (by decide) ?_
  refine j_top (y := nI (v 0 i)) (h.2.2.1 0 (by decide) i (by omega)) ?_
  refine j_i2l dX5_likelyOf_18 ?_
  refine j_topL (y := lN (v 0 i * pC v b i c ^ 0)) (by rw [Nat.pow_zero, Nat.mul_one]; exact nI_l (by have := h.many9 (i := i) (by omega); omega)) ?_
  refine j_lst7 dX5_likelyOf_19 rfl (by decide) ?_
  refine j_iconst (0) dX5_likelyOf_21 rfl ?_
  refine j_ist9 dX5_likelyOf_22 rfl (by decide) ?_
  exact lp_X5_likelyOf hk (k + 1) 0 (by omega) (by omega)

set_option maxRecDepth 20000 in
theorem lp_X5_likely (h : TC n v S) (hw : WCq v b n S) {c k : Nat} (hc : c < 2 ^ 31) (hk5 : k < 2 ^ 31) : ∀ (fu : Nat) (i : Nat), n - i < fu → (i ≤ n) → J a mX5_likely 3 (gm a fun r S' => r = some (.long (lN (lkA v b n c k))) ∧ S' = S) 6 [.ref (a 3), .ref (a 1), .int (nI c), .int (nI k), .long (lN (lkA v b i c k)), .null, .int (nI i)] [] S := by
  intro fu
  induction fu with
  | zero => intro i hk; exact absurd hk (Nat.not_lt_zero _)
  | succ fu ih =>
    intro i hk hi
    have hn8 := h.2.1
    refine j_ild6 dX5_likely_6 ?_
    refine j_ald1 dX5_likely_8 ?_
    refine j_getI (k := 1) dX5_likely_9 cX6_ok (Or.inr ⟨_, f5_16⟩) rfl (by decide) (by decide) (by decide) ?_
    refine j_top (y := nI n) (h.1) ?_
    refine j_icmpge 35 dX5_likely_12 (by decide) (fun c_12 => ?_) (fun c_12 => ?_)
    · have q_12 : i = n := by have := (nI_leI (a := n) (b := i) (by omega) (by omega)).mp c_12; omega
      subst q_12
      refine j_lld4 dX5_likely_35 ?_
      refine j_lret dX5_likely_37 rfl ?_
      exact ⟨rfl, rfl⟩
    have q_12 : i < n := Nat.not_le.mp (fun z => c_12 ((nI_leI (a := n) (b := i) (by omega) (by omega)).mpr z))
    refine j_lld4 dX5_likely_15 ?_
    refine j_ald0 dX5_likely_17 ?_
    refine j_ald1 dX5_likely_18 ?_
    refine j_ild6 dX5_likely_19 ?_
    refine j_ild2 dX5_likely_21 ?_
    refine j_ild3 dX5_likely_22 ?_
    refine j_cV4 dX5_likely_23 kX5_likelyOf l5_66 rfl (by decide) rfl (Nat.le_of_ble_eq_true rfl) (Nat.le_of_ble_eq_true rfl) (by omega) (s_X5_likelyOf h hw q_12 hc hk5) ?_
    refine j_ladd dX5_likely_26 ?_
    refine j_topL (y := lN (lkA v b (i + 1) c k)) (lN_add _ _) ?_
    refine j_lst4 dX5_likely_27 rfl (by decide) ?_
    refine j_iinc6 (nI (i + 1)) dX5_likely_29 (nI_1 i) rfl (by decide) ?_
    refine j_goto 6 dX5_likely_32 (by decide) ?_
    exact ih (i + 1) (by omega) (by omega)

set_option maxRecDepth 20000 in
theorem s_X5_likely {c k : Nat} (h : TC n v S) (hw : WCq v b n S) (hc : c < 2 ^ 31) (hk : k < 2 ^ 31) : Rt a mX5_likely 3 [.ref (a 3), .ref (a 1), .int (nI c), .int (nI k)] S (some (.long (lN (lkA v b n c k)))) S := by
  show J _ _ _ _ 0 [_, _, _, _, .null, .null, .null] [] _
  refine j_lconst (0) dX5_likely_0 rfl ?_
  refine j_lst4 dX5_likely_1 rfl (by decide) ?_
  refine j_iconst (0) dX5_likely_3 rfl ?_
  refine j_ist6 dX5_likely_4 rfl (by decide) ?_
  exact lp_X5_likely h hw hc hk (n + 1) 0 (by omega) (by omega)

end Likely

