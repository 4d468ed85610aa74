/-! other: both sides -/
def lb (v : Nat → Nat → Nat) (b : Option (List Line)) (c d i : Nat) : Nat := (if v 1 i = c ∧ v 2 i = d then v 0 i * pS v b i 0 else 0) + (if v 2 i = c ∧ v 1 i = d then v 0 i * pS v b i 1 else 0)
def lbA (v : Nat → Nat → Nat) (b : Option (List Line)) (n c d : Nat) : Nat := sumN (lb v b c d) n
section Other
variable {a : Nat → Nat} {S : St} {n : Nat} {v : Nat → Nat → Nat} {b : Option (List Line)}
theorem lb_le {c d i : Nat} (h : v 0 i ≤ 9) : lb v b c d i ≤ 1080 := by
  have hs := pS_sum v b i
  have h0 : v 0 i * pS v b i 0 ≤ 9 * 60 := Nat.mul_le_mul h (by omega)
  have h1 : v 0 i * pS v b i 1 ≤ 9 * 60 := Nat.mul_le_mul h (by omega)
  unfold lb
  split <;> split <;> omega
theorem lbA_le {c d : Nat} (h : ∀ w, w < 12 → ∀ i, i < 8 → v w i ≤ mostN w) (hn : n ≤ 8) : lbA v b n c d ≤ 8 * 1080 := Nat.le_trans (sumN_le n (fun i hi => lb_le (h 0 (by decide) i (by omega)))) (Nat.mul_le_mul_right _ hn)

set_option maxRecDepth 20000 in
theorem lp_X5_likelyBoth (h : TC n v S) (hw : WCq v b n S) {c d : Nat} (hc : c < 6) (hd : d < 6) : ∀ (fu : Nat) (i : Nat) (w7 : Value), n - i < fu → (i ≤ n) → J a mX5_likelyBoth 3 (gm a fun r S' => r = some (.long (lN (lbA v b n c d))) ∧ S' = S) 6 [.ref (a 3), .ref (a 1), .int (nI c), .int (nI d), .long (lN (lbA v b i c d)), .null, .int (nI i), w7] [] S := by
  intro fu
  induction fu with
  | zero => intro i w7 hk; exact absurd hk (Nat.not_lt_zero _)
  | succ fu ih =>
    intro i w7 hk hi
    have hn8 := h.2.1
    have b1 := fun (hi8 : i < 8) => h.2.2.2 1 (by decide) i hi8
    have b2 := fun (hi8 : i < 8) => h.2.2.2 2 (by decide) i hi8
    have b0 := fun (hi8 : i < 8) => h.2.2.2 0 (by decide) i hi8
    rw [show mostN 1 = 5 from rfl] at b1
    rw [show mostN 2 = 5 from rfl] at b2
    rw [show mostN 0 = 9 from rfl] at b0
    refine j_ild6 dX5_likelyBoth_6 ?_
    refine j_ald1 dX5_likelyBoth_8 ?_
    refine j_getI (k := 1) dX5_likelyBoth_9 cX6_ok (Or.inr ⟨_, f5_16⟩) rfl (by decide) (by decide) (by decide) ?_
    refine j_top (y := nI n) (h.1) ?_
    refine j_icmpge 87 dX5_likelyBoth_12 (by decide) (fun c_12 => ?_) (fun c_12 => ?_)
    · have q_12 : i = n := by have := (nI_leI (a := n) (b := i) (by omega) (by omega)).mp c_12; omega
      subst q_12
      refine j_lld4 dX5_likelyBoth_87 ?_
      refine j_lret dX5_likelyBoth_89 rfl ?_
      exact ⟨rfl, rfl⟩
    have q_12 : i < n := Nat.not_le.mp (fun z => c_12 ((nI_leI (a := n) (b := i) (by omega) (by omega)).mpr z))
    have hi8 : i < 8 := by omega
    have b1 := b1 hi8
    have b2 := b2 hi8
    have b0 := b0 hi8
    have hps := pS_sum v b i
    refine j_iconst (0) dX5_likelyBoth_15 rfl ?_
    refine j_ist7 dX5_likelyBoth_16 rfl (by decide) ?_
    refine j_ild7 dX5_likelyBoth_18 ?_
    refine j_iconst (2) dX5_likelyBoth_20 rfl ?_
    refine j_icmpge 81 dX5_likelyBoth_21 (by decide) (fun c_21 => absurd c_21 (by decide)) (fun c_21 => ?_)
    refine j_ald1 dX5_likelyBoth_24 ?_
    refine j_ild6 dX5_likelyBoth_25 ?_
    refine j_ild7 dX5_likelyBoth_27 ?_
    refine j_cV2 dX5_likelyBoth_29 kX6_colour l5_56 rfl (by decide) rfl (Nat.le_of_ble_eq_true rfl) (Nat.le_of_ble_eq_true rfl) (by omega) (sC_colour (i := i) (s := 0) h hi8 (by decide)) ?_
    refine j_ild2 dX5_likelyBoth_32 ?_
    refine j_icmpne 75 dX5_likelyBoth_33 (by decide) (fun c_33_0 => ?_) (fun c_33_0 => ?_)
    · have q_33_0 : ¬ v 1 i = c := fun z => c_33_0 (by rw [z])
      refine j_iinc7 (1) dX5_likelyBoth_75 rfl rfl (by decide) ?_
      refine j_goto 18 dX5_likelyBoth_78 (by decide) ?_
      refine j_ild7 dX5_likelyBoth_18 ?_
      refine j_iconst (2) dX5_likelyBoth_20 rfl ?_
      refine j_icmpge 81 dX5_likelyBoth_21 (by decide) (fun c_21 => absurd c_21 (by decide)) (fun c_21 => ?_)
      refine j_ald1 dX5_likelyBoth_24 ?_
      refine j_ild6 dX5_likelyBoth_25 ?_
      refine j_ild7 dX5_likelyBoth_27 ?_
      refine j_cV2 dX5_likelyBoth_29 kX6_colour l5_56 rfl (by decide) rfl (Nat.le_of_ble_eq_true rfl) (Nat.le_of_ble_eq_true rfl) (by omega) (sC_colour (i := i) (s := 1) h hi8 (by decide)) ?_
      refine j_ild2 dX5_likelyBoth_32 ?_
      refine j_icmpne 75 dX5_likelyBoth_33 (by decide) (fun c_33_1 => ?_) (fun c_33_1 => ?_)
      · have q_33_1 : ¬ v 2 i = c := fun z => c_33_1 (by rw [z])
        refine j_iinc7 (2) dX5_likelyBoth_75 rfl rfl (by decide) ?_
        refine j_goto 18 dX5_likelyBoth_78 (by decide) ?_
        refine j_ild7 dX5_likelyBoth_18 ?_
        refine j_iconst (2) dX5_likelyBoth_20 rfl ?_
        refine j_icmpge 81 dX5_likelyBoth_21 (by decide) (fun c_21 => ?_) (fun c_21 => absurd (by decide) c_21)
        refine j_iinc6 (nI (i + 1)) dX5_likelyBoth_81 (nI_1 i) rfl (by decide) ?_
        refine j_goto 6 dX5_likelyBoth_84 (by decide) ?_
        have e : lbA v b (i + 1) c d = lbA v b i c d := by
          rw [lbA, sumN, lb, if_neg (fun z => q_33_0 z.1), if_neg (fun z => q_33_1 z.1), Nat.add_zero]
          rfl
        have := ih (i + 1) (.int 2) (by omega) (by omega)
        rw [e] at this
        exact this
      have q_33_1 : v 2 i = c := (nI_eq (by omega) (by omega)).mp (Classical.not_not.mp c_33_1)
      refine j_ald1 dX5_likelyBoth_36 ?_
      refine j_ild6 dX5_likelyBoth_37 ?_
      refine j_iconst (1) dX5_likelyBoth_39 rfl ?_
      refine j_ild7 dX5_likelyBoth_40 ?_
      refine j_isub dX5_likelyBoth_42 ?_
      refine j_cV2 dX5_likelyBoth_43 kX6_colour l5_56 rfl (by decide) rfl (Nat.le_of_ble_eq_true rfl) (Nat.le_of_ble_eq_true rfl) (by omega) (sC_colour (i := i) (s := 0) h hi8 (by decide)) ?_
      refine j_ild3 dX5_likelyBoth_46 ?_
      refine j_icmpne 75 dX5_likelyBoth_47 (by decide) (fun c_47_1 => ?_) (fun c_47_1 => ?_)
      · have q_47_1 : ¬ v 1 i = d := fun z => c_47_1 (by rw [z])
        refine j_iinc7 (2) dX5_likelyBoth_75 rfl rfl (by decide) ?_
        refine j_goto 18 dX5_likelyBoth_78 (by decide) ?_
        refine j_ild7 dX5_likelyBoth_18 ?_
        refine j_iconst (2) dX5_likelyBoth_20 rfl ?_
        refine j_icmpge 81 dX5_likelyBoth_21 (by decide) (fun c_21 => ?_) (fun c_21 => absurd (by decide) c_21)
        refine j_iinc6 (nI (i + 1)) dX5_likelyBoth_81 (nI_1 i) rfl (by decide) ?_
        refine j_goto 6 dX5_likelyBoth_84 (by decide) ?_
        have e : lbA v b (i + 1) c d = lbA v b i c d := by
          rw [lbA, sumN, lb, if_neg (fun z => q_33_0 z.1), if_neg (fun z => q_47_1 z.2), Nat.add_zero]
          rfl
        have := ih (i + 1) (.int 2) (by omega) (by omega)
        rw [e] at this
        exact this
      have q_47_1 : v 1 i = d := (nI_eq (by omega) (by omega)).mp (Classical.not_not.mp c_47_1)
      refine j_lld4 dX5_likelyBoth_50 ?_
      refine j_ald1 dX5_likelyBoth_52 ?_
      refine j_getR (k := 0) (15) dX5_likelyBoth_53 cX6_ok (Or.inr ⟨_, f5_26⟩) rfl (by decide) (by decide) (by decide) rfl ?_
      refine j_iconst (0) dX5_likelyBoth_56 rfl ?_
      refine j_aald (n := 0) (16) dX5_likelyBoth_57 (Or.inr rfl) (by decide) rfl (by decide) (by decide) rfl ?_
      refine j_ild6 dX5_likelyBoth_58 ?_
      refine j_iald (n := i) dX5_likelyBoth_60 rfl (by decide) rfl (by omega) (by decide) ?_
      refine j_top (y := nI (v 0 i)) (h.2.2.1 0 (by decide) i hi8) ?_
      refine j_i2l dX5_likelyBoth_61 ?_
      refine j_topL (y := lN (v 0 i)) (nI_l (by omega)) ?_
      refine j_ald0 dX5_likelyBoth_62 ?_
      refine j_ild6 dX5_likelyBoth_63 ?_
      refine j_ild7 dX5_likelyBoth_65 ?_
      refine j_cV2 dX5_likelyBoth_67 kX5_ofSide l5_59 rfl (by decide) rfl (Nat.le_of_ble_eq_true rfl) (Nat.le_of_ble_eq_true rfl) (by omega) (s_X5_ofSide (i := i) (s := 1) hw hn8 q_12 (by decide)) ?_
      refine j_i2l dX5_likelyBoth_70 ?_
      refine j_topL (y := lN (pS v b i 1)) (nI_l (by omega)) ?_
      refine j_lmul dX5_likelyBoth_71 ?_
      refine j_topL (y := lN (v 0 i * pS v b i 1)) (lN_mul _ _) ?_
      refine j_ladd dX5_likelyBoth_72 ?_
      refine j_topL (y := lN (lbA v b i c d + v 0 i * pS v b i 1)) (lN_add _ _) ?_
      refine j_lst4 dX5_likelyBoth_73 rfl (by decide) ?_
      refine j_iinc7 (2) dX5_likelyBoth_75 rfl rfl (by decide) ?_
      refine j_goto 18 dX5_likelyBoth_78 (by decide) ?_
      refine j_ild7 dX5_likelyBoth_18 ?_
      refine j_iconst (2) dX5_likelyBoth_20 rfl ?_
      refine j_icmpge 81 dX5_likelyBoth_21 (by decide) (fun c_21 => ?_) (fun c_21 => absurd (by decide) c_21)
      refine j_iinc6 (nI (i + 1)) dX5_likelyBoth_81 (nI_1 i) rfl (by decide) ?_
      refine j_goto 6 dX5_likelyBoth_84 (by decide) ?_
      have e : lbA v b (i + 1) c d = lbA v b i c d + v 0 i * pS v b i 1 := by
        rw [lbA, sumN, lb, if_neg (fun z => q_33_0 z.1), if_pos ⟨q_33_1, q_47_1⟩, Nat.zero_add]
        rfl
      have := ih (i + 1) (.int 2) (by omega) (by omega)
      rw [e] at this
      exact this
    have q_33_0 : v 1 i = c := (nI_eq (by omega) (by omega)).mp (Classical.not_not.mp c_33_0)
    refine j_ald1 dX5_likelyBoth_36 ?_
    refine j_ild6 dX5_likelyBoth_37 ?_
    refine j_iconst (1) dX5_likelyBoth_39 rfl ?_
    refine j_ild7 dX5_likelyBoth_40 ?_
    refine j_isub dX5_likelyBoth_42 ?_
    refine j_cV2 dX5_likelyBoth_43 kX6_colour l5_56 rfl (by decide) rfl (Nat.le_of_ble_eq_true rfl) (Nat.le_of_ble_eq_true rfl) (by omega) (sC_colour (i := i) (s := 1) h hi8 (by decide)) ?_
    refine j_ild3 dX5_likelyBoth_46 ?_
    refine j_icmpne 75 dX5_likelyBoth_47 (by decide) (fun c_47_0 => ?_) (fun c_47_0 => ?_)
    · have q_47_0 : ¬ v 2 i = d := fun z => c_47_0 (by rw [z])
      refine j_iinc7 (1) dX5_likelyBoth_75 rfl rfl (by decide) ?_
      refine j_goto 18 dX5_likelyBoth_78 (by decide) ?_
      refine j_ild7 dX5_likelyBoth_18 ?_
      refine j_iconst (2) dX5_likelyBoth_20 rfl ?_
      refine j_icmpge 81 dX5_likelyBoth_21 (by decide) (fun c_21 => absurd c_21 (by decide)) (fun c_21 => ?_)
      refine j_ald1 dX5_likelyBoth_24 ?_
      refine j_ild6 dX5_likelyBoth_25 ?_
      refine j_ild7 dX5_likelyBoth_27 ?_
      refine j_cV2 dX5_likelyBoth_29 kX6_colour l5_56 rfl (by decide) rfl (Nat.le_of_ble_eq_true rfl) (Nat.le_of_ble_eq_true rfl) (by omega) (sC_colour (i := i) (s := 1) h hi8 (by decide)) ?_
      refine j_ild2 dX5_likelyBoth_32 ?_
      refine j_icmpne 75 dX5_likelyBoth_33 (by decide) (fun c_33_1 => ?_) (fun c_33_1 => ?_)
      · have q_33_1 : ¬ v 2 i = c := fun z => c_33_1 (by rw [z])
        refine j_iinc7 (2) dX5_likelyBoth_75 rfl rfl (by decide) ?_
        refine j_goto 18 dX5_likelyBoth_78 (by decide) ?_
        refine j_ild7 dX5_likelyBoth_18 ?_
        refine j_iconst (2) dX5_likelyBoth_20 rfl ?_
        refine j_icmpge 81 dX5_likelyBoth_21 (by decide) (fun c_21 => ?_) (fun c_21 => absurd (by decide) c_21)
        refine j_iinc6 (nI (i + 1)) dX5_likelyBoth_81 (nI_1 i) rfl (by decide) ?_
        refine j_goto 6 dX5_likelyBoth_84 (by decide) ?_
        have e : lbA v b (i + 1) c d = lbA v b i c d := by
          rw [lbA, sumN, lb, if_neg (fun z => q_47_0 z.2), if_neg (fun z => q_33_1 z.1), Nat.add_zero]
          rfl
        have := ih (i + 1) (.int 2) (by omega) (by omega)
        rw [e] at this
        exact this
      have q_33_1 : v 2 i = c := (nI_eq (by omega) (by omega)).mp (Classical.not_not.mp c_33_1)
      refine j_ald1 dX5_likelyBoth_36 ?_
      refine j_ild6 dX5_likelyBoth_37 ?_
      refine j_iconst (1) dX5_likelyBoth_39 rfl ?_
      refine j_ild7 dX5_likelyBoth_40 ?_
      refine j_isub dX5_likelyBoth_42 ?_
      refine j_cV2 dX5_likelyBoth_43 kX6_colour l5_56 rfl (by decide) rfl (Nat.le_of_ble_eq_true rfl) (Nat.le_of_ble_eq_true rfl) (by omega) (sC_colour (i := i) (s := 0) h hi8 (by decide)) ?_
      refine j_ild3 dX5_likelyBoth_46 ?_
      refine j_icmpne 75 dX5_likelyBoth_47 (by decide) (fun c_47_1 => ?_) (fun c_47_1 => ?_)
      · have q_47_1 : ¬ v 1 i = d := fun z => c_47_1 (by rw [z])
        refine j_iinc7 (2) dX5_likelyBoth_75 rfl rfl (by decide) ?_
        refine j_goto 18 dX5_likelyBoth_78 (by decide) ?_
        refine j_ild7 dX5_likelyBoth_18 ?_
        refine j_iconst (2) dX5_likelyBoth_20 rfl ?_
        refine j_icmpge 81 dX5_likelyBoth_21 (by decide) (fun c_21 => ?_) (fun c_21 => absurd (by decide) c_21)
        refine j_iinc6 (nI (i + 1)) dX5_likelyBoth_81 (nI_1 i) rfl (by decide) ?_
        refine j_goto 6 dX5_likelyBoth_84 (by decide) ?_
        have e : lbA v b (i + 1) c d = lbA v b i c d := by
          rw [lbA, sumN, lb, if_neg (fun z => q_47_0 z.2), if_neg (fun z => q_47_1 z.2), Nat.add_zero]
          rfl
        have := ih (i + 1) (.int 2) (by omega) (by omega)
        rw [e] at this
        exact this
      have q_47_1 : v 1 i = d := (nI_eq (by omega) (by omega)).mp (Classical.not_not.mp c_47_1)
      refine j_lld4 dX5_likelyBoth_50 ?_
      refine j_ald1 dX5_likelyBoth_52 ?_
      refine j_getR (k := 0) (15) dX5_likelyBoth_53 cX6_ok (Or.inr ⟨_, f5_26⟩) rfl (by decide) (by decide) (by decide) rfl ?_
      refine j_iconst (0) dX5_likelyBoth_56 rfl ?_
      refine j_aald (n := 0) (16) dX5_likelyBoth_57 (Or.inr rfl) (by decide) rfl (by decide) (by decide) rfl ?_
      refine j_ild6 dX5_likelyBoth_58 ?_
      refine j_iald (n := i) dX5_likelyBoth_60 rfl (by decide) rfl (by omega) (by decide) ?_
      refine j_top (y := nI (v 0 i)) (h.2.2.1 0 (by decide) i hi8) ?_
      refine j_i2l dX5_likelyBoth_61 ?_
      refine j_topL (y := lN (v 0 i)) (nI_l (by omega)) ?_
      refine j_ald0 dX5_likelyBoth_62 ?_
      refine j_ild6 dX5_likelyBoth_63 ?_
      refine j_ild7 dX5_likelyBoth_65 ?_
      refine j_cV2 dX5_likelyBoth_67 kX5_ofSide l5_59 rfl (by decide) rfl (Nat.le_of_ble_eq_true rfl) (Nat.le_of_ble_eq_true rfl) (by omega) (s_X5_ofSide (i := i) (s := 1) hw hn8 q_12 (by decide)) ?_
      refine j_i2l dX5_likelyBoth_70 ?_
      refine j_topL (y := lN (pS v b i 1)) (nI_l (by omega)) ?_
      refine j_lmul dX5_likelyBoth_71 ?_
      refine j_topL (y := lN (v 0 i * pS v b i 1)) (lN_mul _ _) ?_
      refine j_ladd dX5_likelyBoth_72 ?_
      refine j_topL (y := lN (lbA v b i c d + v 0 i * pS v b i 1)) (lN_add _ _) ?_
      refine j_lst4 dX5_likelyBoth_73 rfl (by decide) ?_
      refine j_iinc7 (2) dX5_likelyBoth_75 rfl rfl (by decide) ?_
      refine j_goto 18 dX5_likelyBoth_78 (by decide) ?_
      refine j_ild7 dX5_likelyBoth_18 ?_
      refine j_iconst (2) dX5_likelyBoth_20 rfl ?_
      refine j_icmpge 81 dX5_likelyBoth_21 (by decide) (fun c_21 => ?_) (fun c_21 => absurd (by decide) c_21)
      refine j_iinc6 (nI (i + 1)) dX5_likelyBoth_81 (nI_1 i) rfl (by decide) ?_
      refine j_goto 6 dX5_likelyBoth_84 (by decide) ?_
      have e : lbA v b (i + 1) c d = lbA v b i c d + v 0 i * pS v b i 1 := by
        rw [lbA, sumN, lb, if_neg (fun z => q_47_0 z.2), if_pos ⟨q_33_1, q_47_1⟩, Nat.zero_add]
        rfl
      have := ih (i + 1) (.int 2) (by omega) (by omega)
      rw [e] at this
      exact this
    have q_47_0 : v 2 i = d := (nI_eq (by omega) (by omega)).mp (Classical.not_not.mp c_47_0)
    refine j_lld4 dX5_likelyBoth_50 ?_
    refine j_ald1 dX5_likelyBoth_52 ?_
    refine j_getR (k := 0) (15) dX5_likelyBoth_53 cX6_ok (Or.inr ⟨_, f5_26⟩) rfl (by decide) (by decide) (by decide) rfl ?_
    refine j_iconst (0) dX5_likelyBoth_56 rfl ?_
    refine j_aald (n := 0) (16) dX5_likelyBoth_57 (Or.inr rfl) (by decide) rfl (by decide) (by decide) rfl ?_
    refine j_ild6 dX5_likelyBoth_58 ?_
    refine j_iald (n := i) dX5_likelyBoth_60 rfl (by decide) rfl (by omega) (by decide) ?_
    refine j_top (y := nI (v 0 i)) (h.2.2.1 0 (by decide) i hi8) ?_
    refine j_i2l dX5_likelyBoth_61 ?_
    refine j_topL (y := lN (v 0 i)) (nI_l (by omega)) ?_
    refine j_ald0 dX5_likelyBoth_62 ?_
    refine j_ild6 dX5_likelyBoth_63 ?_
    refine j_ild7 dX5_likelyBoth_65 ?_
    refine j_cV2 dX5_likelyBoth_67 kX5_ofSide l5_59 rfl (by decide) rfl (Nat.le_of_ble_eq_true rfl) (Nat.le_of_ble_eq_true rfl) (by omega) (s_X5_ofSide (i := i) (s := 0) hw hn8 q_12 (by decide)) ?_
    refine j_i2l dX5_likelyBoth_70 ?_
    refine j_topL (y := lN (pS v b i 0)) (nI_l (by omega)) ?_
    refine j_lmul dX5_likelyBoth_71 ?_
    refine j_topL (y := lN (v 0 i * pS v b i 0)) (lN_mul _ _) ?_
    refine j_ladd dX5_likelyBoth_72 ?_
    refine j_topL (y := lN (lbA v b i c d + v 0 i * pS v b i 0)) (lN_add _ _) ?_
    refine j_lst4 dX5_likelyBoth_73 rfl (by decide) ?_
    refine j_iinc7 (1) dX5_likelyBoth_75 rfl rfl (by decide) ?_
    refine j_goto 18 dX5_likelyBoth_78 (by decide) ?_
    refine j_ild7 dX5_likelyBoth_18 ?_
    refine j_iconst (2) dX5_likelyBoth_20 rfl ?_
    refine j_icmpge 81 dX5_likelyBoth_21 (by decide) (fun c_21 => absurd c_21 (by decide)) (fun c_21 => ?_)
    refine j_ald1 dX5_likelyBoth_24 ?_
    refine j_ild6 dX5_likelyBoth_25 ?_
    refine j_ild7 dX5_likelyBoth_27 ?_
    refine j_cV2 dX5_likelyBoth_29 kX6_colour l5_56 rfl (by decide) rfl (Nat.le_of_ble_eq_true rfl) (Nat.le_of_ble_eq_true rfl) (by omega) (sC_colour (i := i) (s := 1) h hi8 (by decide)) ?_
    refine j_ild2 dX5_likelyBoth_32 ?_
    refine j_icmpne 75 dX5_likelyBoth_33 (by decide) (fun c_33_1 => ?_) (fun c_33_1 => ?_)
    · have q_33_1 : ¬ v 2 i = c := fun z => c_33_1 (by rw [z])
      refine j_iinc7 (2) dX5_likelyBoth_75 rfl rfl (by decide) ?_
      refine j_goto 18 dX5_likelyBoth_78 (by decide) ?_
      refine j_ild7 dX5_likelyBoth_18 ?_
      refine j_iconst (2) dX5_likelyBoth_20 rfl ?_
      refine j_icmpge 81 dX5_likelyBoth_21 (by decide) (fun c_21 => ?_) (fun c_21 => absurd (by decide) c_21)
      refine j_iinc6 (nI (i + 1)) dX5_likelyBoth_81 (nI_1 i) rfl (by decide) ?_
      refine j_goto 6 dX5_likelyBoth_84 (by decide) ?_
      have e : lbA v b (i + 1) c d = lbA v b i c d + v 0 i * pS v b i 0 := by
        rw [lbA, sumN, lb, if_pos ⟨q_33_0, q_47_0⟩, if_neg (fun z => q_33_1 z.1), Nat.add_zero]
        rfl
      have := ih (i + 1) (.int 2) (by omega) (by omega)
      rw [e] at this
      exact this
    have q_33_1 : v 2 i = c := (nI_eq (by omega) (by omega)).mp (Classical.not_not.mp c_33_1)
    refine j_ald1 dX5_likelyBoth_36 ?_
    refine j_ild6 dX5_likelyBoth_37 ?_
    refine j_iconst (1) dX5_likelyBoth_39 rfl ?_
    refine j_ild7 dX5_likelyBoth_40 ?_
    refine j_isub dX5_likelyBoth_42 ?_
    refine j_cV2 dX5_likelyBoth_43 kX6_colour l5_56 rfl (by decide) rfl (Nat.le_of_ble_eq_true rfl) (Nat.le_of_ble_eq_true rfl) (by omega) (sC_colour (i := i) (s := 0) h hi8 (by decide)) ?_
    refine j_ild3 dX5_likelyBoth_46 ?_
    refine j_icmpne 75 dX5_likelyBoth_47 (by decide) (fun c_47_1 => ?_) (fun c_47_1 => ?_)
    · have q_47_1 : ¬ v 1 i = d := fun z => c_47_1 (by rw [z])
      refine j_iinc7 (2) dX5_likelyBoth_75 rfl rfl (by decide) ?_
      refine j_goto 18 dX5_likelyBoth_78 (by decide) ?_
      refine j_ild7 dX5_likelyBoth_18 ?_
      refine j_iconst (2) dX5_likelyBoth_20 rfl ?_
      refine j_icmpge 81 dX5_likelyBoth_21 (by decide) (fun c_21 => ?_) (fun c_21 => absurd (by decide) c_21)
      refine j_iinc6 (nI (i + 1)) dX5_likelyBoth_81 (nI_1 i) rfl (by decide) ?_
      refine j_goto 6 dX5_likelyBoth_84 (by decide) ?_
      have e : lbA v b (i + 1) c d = lbA v b i c d + v 0 i * pS v b i 0 := by
        rw [lbA, sumN, lb, if_pos ⟨q_33_0, q_47_0⟩, if_neg (fun z => q_47_1 z.2), Nat.add_zero]
        rfl
      have := ih (i + 1) (.int 2) (by omega) (by omega)
      rw [e] at this
      exact this
    have q_47_1 : v 1 i = d := (nI_eq (by omega) (by omega)).mp (Classical.not_not.mp c_47_1)
    refine j_lld4 dX5_likelyBoth_50 ?_
    refine j_ald1 dX5_likelyBoth_52 ?_
    refine j_getR (k := 0) (15) dX5_likelyBoth_53 cX6_ok (Or.inr ⟨_, f5_26⟩) rfl (by decide) (by decide) (by decide) rfl ?_
    refine j_iconst (0) dX5_likelyBoth_56 rfl ?_
    refine j_aald (n := 0) (16) dX5_likelyBoth_57 (Or.inr rfl) (by decide) rfl (by decide) (by decide) rfl ?_
    refine j_ild6 dX5_likelyBoth_58 ?_
    refine j_iald (n := i) dX5_likelyBoth_60 rfl (by decide) rfl (by omega) (by decide) ?_
    refine j_top (y := nI (v 0 i)) (h.2.2.1 0 (by decide) i hi8) ?_
    refine j_i2l dX5_likelyBoth_61 ?_
    refine j_topL (y := lN (v 0 i)) (nI_l (by omega)) ?_
    refine j_ald0 dX5_likelyBoth_62 ?_
    refine j_ild6 dX5_likelyBoth_63 ?_
    refine j_ild7 dX5_likelyBoth_65 ?_
    refine j_cV2 dX5_likelyBoth_67 kX5_ofSide l5_59 rfl (by decide) rfl (Nat.le_of_ble_eq_true rfl) (Nat.le_of_ble_eq_true rfl) (by omega) (s_X5_ofSide (i := i) (s := 1) hw hn8 q_12 (by decide)) ?_
    refine j_i2l dX5_likelyBoth_70 ?_
    refine j_topL (y := lN (pS v b i 1)) (nI_l (by omega)) ?_
    refine j_lmul dX5_likelyBoth_71 ?_
    refine j_topL (y := lN (v 0 i * pS v b i 1)) (lN_mul _ _) ?_
    refine j_ladd dX5_likelyBoth_72 ?_
    refine j_topL (y := lN (lbA v b i c d + v 0 i * pS v b i 0 + v 0 i * pS v b i 1)) (lN_add _ _) ?_
    refine j_lst4 dX5_likelyBoth_73 rfl (by decide) ?_
    refine j_iinc7 (2) dX5_likelyBoth_75 rfl rfl (by decide) ?_
    refine j_goto 18 dX5_likelyBoth_78 (by decide) ?_
    refine j_ild7 dX5_likelyBoth_18 ?_
    refine j_iconst (2) dX5_likelyBoth_20 rfl ?_
    refine j_icmpge 81 dX5_likelyBoth_21 (by decide) (fun c_21 => ?_) (fun c_21 => absurd (by decide) c_21)
    refine j_iinc6 (nI (i + 1)) dX5_likelyBoth_81 (nI_1 i) rfl (by decide) ?_
    refine j_goto 6 dX5_likelyBoth_84 (by decide) ?_
    have e : lbA v b (i + 1) c d = lbA v b i c d + v 0 i * pS v b i 0 + v 0 i * pS v b i 1 := by
      rw [lbA, sumN, lb, if_pos ⟨q_33_0, q_47_0⟩, if_pos ⟨q_33_1, q_47_1⟩, ← Nat.add_assoc]
      rfl
    have := ih (i + 1) (.int 2) (by omega) (by omega)
    rw [e] at this
    exact this

set_option maxRecDepth 20000 in
theorem s_X5_likelyBoth {c d : Nat} (h : TC n v S) (hw : WCq v b n S) (hc : c < 6) (hd : d < 6) : Rt a mX5_likelyBoth 3 [.ref (a 3), .ref (a 1), .int (nI c), .int (nI d)] S (some (.long (lN (lbA v b n c d)))) S := by
  show J _ _ _ _ 0 [_, _, _, _, .null, .null, .null, .null] [] _
  refine j_lconst (0) dX5_likelyBoth_0 rfl ?_
  refine j_lst4 dX5_likelyBoth_1 rfl (by decide) ?_
  refine j_iconst (0) dX5_likelyBoth_3 rfl ?_
  refine j_ist6 dX5_likelyBoth_4 rfl (by decide) ?_
  exact lp_X5_likelyBoth h hw hc hd (n + 1) 0 _ (by omega) (by omega)

abbrev otOk (x p : Int32) : Prop := 0 ≤ x ∧ (x / 10 < 6) ∧ (0 ≤ x - x / 10 * 10 ∧ x - x / 10 * 10 < 6) ∧ prt p
def otV (v : Nat → Nat → Nat) (b : Option (List Line)) (n : Nat) (x p : Int32) : Int64 := lowV (lbA v b n (x.toNatClampNeg / 10) (x.toNatClampNeg % 10)) (lkA v b n (x.toNatClampNeg / 10) 1) p
theorem ot_nat {x p : Int32} (h : otOk x p) : ∃ c d, c < 6 ∧ d < 6 ∧ x / 10 = nI c ∧ x - x / 10 * 10 = nI d ∧ x.toNatClampNeg / 10 = c ∧ x.toNatClampNeg % 10 = d := by
  obtain ⟨X, hX, rfl⟩ := nI_ge0 h.1
  have e1 : nI X / 10 = nI (X / 10) := pk_div (a := X) (d := 10) hX (by decide) (by decide)
  have e2 : nI X - nI X / 10 * 10 = nI (X % 10) := pk_rem (a := X) (d := 10) hX (by decide) (by decide)
  have hm := Nat.mod_lt X (show 0 < 10 by decide)
  have h2 := h.2.1
  have h3 := h.2.2.1.2
  rw [e1] at h2
  rw [e2] at h3
  exact ⟨X / 10, X % 10, (nI_ltI (a := X / 10) (b := 6) (by omega) (by decide)).mp h2, (nI_ltI (a := X % 10) (b := 6) (by omega) (by decide)).mp h3, e1, e2, by rw [nI_clamp hX], by rw [nI_clamp hX]⟩
set_option maxRecDepth 20000 in
theorem s_X7_other_ok {x p : Int32} (h : TC n v S) (hb : LawC b S) (hg : GoodB b) (hk : otOk x p) : Rql a mX7_other 6 [.ref (a 0), .int x, .int p] S fun z S' => z = otV v b n x p ∧ Kp [4, 8] S S' := by
  show J _ _ _ _ 0 [_, _, _, .null, .null] [] _
  have hn8 := h.2.1
  obtain ⟨c, d, hc, hd, e1, e2, f1, f2⟩ := ot_nat hk
  have l1 := lkA_62 (b := b) (c := c) (k := 1) h.2.2.2 hn8 (by decide)
  have l2 := lbA_le (b := b) (c := c) (d := d) h.2.2.2 hn8
  refine j_ild1 dX7_other_0 ?_
  refine j_iflt 36 dX7_other_1 (by decide) (fun c_1 => absurd c_1 (Int32.not_lt.mpr hk.1)) (fun c_1 => ?_)
  refine j_ild1 dX7_other_4 ?_
  refine j_bipush (10) dX7_other_5 rfl ?_
  refine j_idiv dX7_other_7 (by decide) ?_
  refine j_bipush (6) dX7_other_8 rfl ?_
  refine j_cS2 dX7_other_10 kX7_within zX7_within (Or.inl l7_72) (Nat.le_of_ble_eq_true rfl) (Nat.le_of_ble_eq_true rfl) (by omega) (s_X7_within) ?_
  refine j_ifeqB 36 dX7_other_13 (by decide) (fun c_13 => absurd c_13 (not_not_intro ⟨ck_div0 hk.1, hk.2.1⟩)) (fun c_13 => ?_)
  refine j_ild1 dX7_other_16 ?_
  refine j_bipush (10) dX7_other_17 rfl ?_
  refine j_irem dX7_other_19 (by decide) ?_
  refine j_bipush (6) dX7_other_20 rfl ?_
  refine j_cS2 dX7_other_22 kX7_within zX7_within (Or.inl l7_72) (Nat.le_of_ble_eq_true rfl) (Nat.le_of_ble_eq_true rfl) (by omega) (s_X7_within) ?_
  refine j_ifeqB 36 dX7_other_25 (by decide) (fun c_25 => absurd c_25 (not_not_intro hk.2.2.1)) (fun c_25 => ?_)
  refine j_ild2 dX7_other_28 ?_
  refine j_iconst (2) dX7_other_29 rfl ?_
  refine j_cS2 dX7_other_30 kX7_within zX7_within (Or.inl l7_72) (Nat.le_of_ble_eq_true rfl) (Nat.le_of_ble_eq_true rfl) (by omega) (s_X7_within) ?_
  refine j_ifneB 40 dX7_other_33 (by decide) (fun c_33 => ?_) (fun c_33 => absurd (hk.2.2.2) c_33)
  refine j_ald0 dX7_other_40 ?_
  refine j_getR (k := 2) (3) dX7_other_41 cX7_ok (Or.inl f7_28) rfl (by decide) (by decide) (by decide) rfl ?_
  refine j_ald0 dX7_other_44 ?_
  refine j_getR (k := 0) (1) dX7_other_45 cX7_ok (Or.inl f7_12) rfl (by decide) (by decide) (by decide) rfl ?_
  refine j_ald0 dX7_other_48 ?_
  refine j_getR (k := 1) (2) dX7_other_49 cX7_ok (Or.inl f7_21) rfl (by decide) (by decide) (by decide) rfl ?_
  refine j_qvV2 dX7_other_52 kX5_weighAll l7_140 rfl (by decide) rfl (Nat.le_of_ble_eq_true rfl) (Nat.le_of_ble_eq_true rfl) (by omega) (s_X5_weighAll h hb hg) (fun S1 h1 => ?_)
  obtain ⟨hkp, hw⟩ := h1
  refine j_ald0 dX7_other_55 ?_
  refine j_getR (k := 2) (3) dX7_other_56 cX7_ok (Or.inl f7_28) rfl (by decide) (by decide) (by decide) rfl ?_
  refine j_ald0 dX7_other_59 ?_
  refine j_getR (k := 0) (1) dX7_other_60 cX7_ok (Or.inl f7_12) rfl (by decide) (by decide) (by decide) rfl ?_
  refine j_ild1 dX7_other_63 ?_
  refine j_bipush (10) dX7_other_64 rfl ?_
  refine j_idiv dX7_other_66 (by decide) ?_
  refine j_top (y := nI c) (e1) ?_
  refine j_ild1 dX7_other_67 ?_
  refine j_bipush (10) dX7_other_68 rfl ?_
  refine j_irem dX7_other_70 (by decide) ?_
  refine j_top (y := nI d) (e2) ?_
  refine j_cV3 dX7_other_71 kX5_likelyBoth l7_154 rfl (by decide) rfl (Nat.le_of_ble_eq_true rfl) (Nat.le_of_ble_eq_true rfl) (by omega) (s_X5_likelyBoth (h.kp hkp (by decide)) hw hc hd) ?_
  refine j_lst3 dX7_other_74 rfl (by decide) ?_
  refine j_lld3 dX7_other_75 ?_
  refine j_ald0 dX7_other_76 ?_
  refine j_getR (k := 2) (3) dX7_other_77 cX7_ok (Or.inl f7_28) rfl (by decide) (by decide) (by decide) rfl ?_
  refine j_ald0 dX7_other_80 ?_
  refine j_getR (k := 0) (1) dX7_other_81 cX7_ok (Or.inl f7_12) rfl (by decide) (by decide) (by decide) rfl ?_
  refine j_ild1 dX7_other_84 ?_
  refine j_bipush (10) dX7_other_85 rfl ?_
  refine j_idiv dX7_other_87 (by decide) ?_
  refine j_top (y := nI c) (e1) ?_
  refine j_iconst (1) dX7_other_88 rfl ?_
  refine j_cV3 dX7_other_89 kX5_likely l7_144 rfl (by decide) rfl (Nat.le_of_ble_eq_true rfl) (Nat.le_of_ble_eq_true rfl) (by omega) (s_X5_likely (k := 1) (h.kp hkp (by decide)) hw (by omega) (by decide)) ?_
  refine j_ild2 dX7_other_92 ?_
  refine j_cS3 dX7_other_93 kX7_lowest zX7_lowest (Or.inl l7_150) (Nat.le_of_ble_eq_true rfl) (Nat.le_of_ble_eq_true rfl) (by omega) (s_X7_lowest (by omega) (by omega)) ?_
  refine j_lret dX7_other_96 rfl ?_
  exact ⟨_, rfl, by rw [otV, f1, f2], hkp⟩

end Other

