/-! the law, from behind: the cheapest order -/

theorem price_hi {M P : Nat} (hP : P ≤ 396) (hM : M ≤ 172800 * P) : DF (dq M 172800) ∧ DF (FP.dadd (FP.i2d (nI P)) (4472406533629990549 : UInt64)) ∧ zv (dq M 172800) ≤ zv (FP.dadd (FP.i2d (nI P)) (4472406533629990549 : UInt64)) := by
  have hu := uu_pos
  have ho : 0 < oneU := Int.mul_pos (by decide) uu_pos
  have e := i2d_zv (P := P) (by omega)
  have h1 : Ap (dq M 172800) M 172800 1 := dq_Ap (by omega) (by decide) (by decide) (by omega)
  have h2 := ap_ub (m := P) h1 (by decide) (by omega)
  have m1 : (0 : Int) ≤ (P : Int) * oneU := Int.mul_nonneg (by omega) (by omega)
  have m2 : (P : Int) * oneU ≤ 396 * oneU := Int.mul_le_mul_of_nonneg_right (by omega) (by omega)
  have s : DF (FP.dadd (FP.i2d (nI P)) (4472406533629990549 : UInt64)) ∧ zv (FP.i2d (nI P)) + 4397 * uu ≤ zv (FP.dadd (FP.i2d (nI P)) (4472406533629990549 : UInt64)) := addc e.1 (by omega) (by omega)
  rw [e.2] at s
  have e1 : ((1 : Nat) : Int) * uu = uu := by
    show (1 : Int) * uu = uu
    rw [Int.one_mul]
  rw [e1] at h2
  exact ⟨h1.1, s.1, by omega⟩
theorem price_lo {M F : Nat} (hF : F ≤ 99) (hM : 172800 * F ≤ M) (hM2 : M ≤ 172800 * 396) : DF (FP.dsub (FP.i2d (nI F)) (4472406533629990549 : UInt64)) ∧ zv (FP.dsub (FP.i2d (nI F)) (4472406533629990549 : UInt64)) ≤ zv (dq M 172800) := by
  have hu := uu_pos
  have ho : 0 < oneU := Int.mul_pos (by decide) uu_pos
  have e := i2d_zv (P := F) (by omega)
  have h1 : Ap (dq M 172800) M 172800 1 := dq_Ap (by omega) (by decide) (by decide) (by omega)
  have m1 : (0 : Int) ≤ (F : Int) * oneU := Int.mul_nonneg (by omega) (by omega)
  have m2 : (F : Int) * oneU ≤ 396 * oneU := Int.mul_le_mul_of_nonneg_right (by omega) (by omega)
  have s : DF (FP.dsub (FP.i2d (nI F)) (4472406533629990549 : UInt64)) ∧ zv (FP.dsub (FP.i2d (nI F)) (4472406533629990549 : UInt64)) ≤ zv (FP.i2d (nI F)) - 4397 * uu := subc e.1 (by omega) (by omega)
  rw [e.2] at s
  have h2 := h1.2.2
  have m3 : ((172800 * F : Nat) : Int) * oneU ≤ (M : Int) * oneU := Int.mul_le_mul_of_nonneg_right (by omega) (by omega)
  have e3 : ((172800 * F : Nat) : Int) * oneU = 172800 * ((F : Int) * oneU) := by
    rw [← Int.mul_assoc]
    rfl
  have e1 : ((1 : Nat) : Int) * uu = uu := by
    show (1 : Int) * uu = uu
    rw [Int.one_mul]
  rw [e1] at h2
  have e4 : ((172800 : Nat) : Int) = 172800 := rfl
  rw [e4] at h2
  exact ⟨s.1, by omega⟩
theorem dg_b7 {v : Nat → Nat → Nat} (h : ∀ w, w < 12 → ∀ i, i < 8 → v w i ≤ mostN w) (p i : Nat) : v 7 (dg p i) ≤ 99 := h 7 (by decide) _ (by have := dg_lt p i; omega)
theorem sum7 {v : Nat → Nat → Nat} (h : ∀ w, w < 12 → ∀ i, i < 8 → v w i ≤ mostN w) (p : Nat) : sumN (fun i => v 7 (dg p i)) 4 ≤ 396 := by
  have h0 := dg_b7 h p 0
  have h1 := dg_b7 h p 1
  have h2 := dg_b7 h p 2
  have h3 := dg_b7 h p 3
  simp only [sumN]
  omega
section Order
variable {a : Nat → Nat} {S : St} {n b Ls : Nat} {v : Nat → Nat → Nat} {bb : Option (List Line)} {xs : Nat → Int32}

theorem law_926 {g : GG} (hR : HR a g) (hN : 61 < NC a) (hl : xl a 61 = n) (hn7 : n ≤ 7) (hg : GoodB bb) (hE : HE g a b Ls xs) (hL : Ls ≤ 260) {S : St} {w10 : Int32} {w12 w13 : Value} (h : LW0 n v bb S) : J a mL_law 100 g 926 [.ref b, .ref (a 0), .ref (a 61), .int (bi (hatN v n = 0)), .null, .null, .null, .null, .double (dq (meanP v (bestP v)) 172800), .null, .int w10, .int (nI (sumN (fun i => v 7 (dg (bestP v) i)) 4)), w12, w13, .null, .null, .null, .null] [] S := by
  have mb := mean_b h.1.2.2.2 (bestP v)
  have s7 := sum7 h.1.2.2.2 (bestP v)
  have f7 := dg_b7 h.1.2.2.2 (bestP v) 0
  have pr1 := price_hi s7 mb.1
  have pr2 := price_lo f7 mb.2 (Nat.le_trans mb.1 (Nat.mul_le_mul_left _ s7))
  refine j_dld8 dL_law_926 ?_
  refine j_ild11 dL_law_928 ?_
  refine j_i2d dL_law_930 ?_
  refine j_ldc2_wD (v := 4472406533629990549) dL_law_931 qL_113 ?_
  refine j_dadd dL_law_934 (pr1.2.1) ?_
  refine j_dcmp dL_law_935 (pr1.1) (pr1.2.1) ?_
  refine j_ifgt 963 dL_law_936 (by decide) (fun c_936 => absurd c_936 (fun z => absurd (cz_gt.mp z) (Int.not_lt.mpr pr1.2.2))) (fun c_936 => ?_)
  refine j_dld8 dL_law_939 ?_
  refine j_ald1 dL_law_941 ?_
  refine j_ald1 dL_law_942 ?_
  refine j_iconst (0) dL_law_943 rfl ?_
  refine j_iconst (0) dL_law_944 rfl ?_
  refine j_qlV2 dL_law_945 kX7_order lL_173 rfl (by decide) rfl (Nat.le_of_ble_eq_true rfl) (Nat.le_of_ble_eq_true rfl) (by omega) (q_orderk h (k := 0) (by decide)) (fun v1 S1 h1 => ?_)
  obtain ⟨rfl, h2⟩ := h1
  refine j_l2i dL_law_948 ?_
  refine j_top (y := nI (dg (bestP v) 0)) (lN_I6 (Nat.lt_trans (dg_lt (bestP v) 0) (by decide))) ?_
  refine j_bipush (7) dL_law_949 rfl ?_
  refine j_cV2 dL_law_951 kX7_of lL_171 rfl (by decide) rfl (Nat.le_of_ble_eq_true rfl) (Nat.le_of_ble_eq_true rfl) (by omega) (q_of h2 (i := dg (bestP v) 0) (w := 7) (by decide) (by rw [num_hi (by decide)]; show dg (bestP v) 0 < 4; exact dg_lt _ 0)) ?_
  refine j_i2d dL_law_954 ?_
  refine j_ldc2_wD (v := 4472406533629990549) dL_law_955 qL_113 ?_
  refine j_dsub dL_law_958 (pr2.1) ?_
  refine j_dcmp dL_law_959 (pr1.1) (pr2.1) ?_
  refine j_ifge 965 dL_law_960 (by decide) (fun c_960 => ?_) (fun c_960 => absurd (Int32.not_lt.mp (fun z => absurd (cz_lt.mp z) (Int.not_lt.mpr pr2.2))) c_960)
  refine j_cut [_, _, _, _] [_, _, _, _, _, _, _, _, _, _, _, _, _, _] ?_
  exact law_965 hR hN hl hn7 hg hE hL h2

set_option maxRecDepth 20000 in
theorem law_858 {g : GG} (hR : HR a g) (hN : 61 < NC a) (hl : xl a 61 = n) (hn7 : n ≤ 7) (hg : GoodB bb) (hE : HE g a b Ls xs) (hL : Ls ≤ 260) : ∀ (fu : Nat) (k : Nat) (w13 : Value) (S : St), 4 - k < fu → (k ≤ 4) → (LW0 n v bb S) → J a mL_law 100 g 858 [.ref b, .ref (a 0), .ref (a 61), .int (bi (hatN v n = 0)), .null, .null, .null, .null, .double (dq (meanP v (bestP v)) 172800), .null, .int (nI (seen (bestP v) k)), .int (nI (sumN (fun i => v 7 (dg (bestP v) i)) k)), .int (nI k), w13, .null, .null, .null, .null] [] S := by
  intro fu
  induction fu with
  | zero => intro k w13 S hk; exact absurd hk (Nat.not_lt_zero _)
  | succ fu ih =>
    intro k w13 S hk hk h
    have bp := best_is (v := v)
    have sn := f_sn _ bp.1 k (by omega)
    have d4 := dg_lt (bestP v) k
    refine j_ild12 dL_law_858 ?_
    refine j_iconst (4) dL_law_860 rfl ?_
    refine j_icmpge 926 dL_law_861 (by decide) (fun c_861 => ?_) (fun c_861 => ?_)
    · have q_861 : k = 4 := by have := (nI_leI (a := 4) (b := k) (by omega) (by omega)).mp c_861; omega
      subst q_861
      exact law_926 hR hN hl hn7 hg hE hL h
    have q_861 : k < 4 := Nat.not_le.mp (fun z => c_861 ((nI_leI (a := 4) (b := k) (by omega) (by omega)).mpr z))
    refine j_ald1 dL_law_864 ?_
    refine j_ild12 dL_law_865 ?_
    refine j_iconst (0) dL_law_867 rfl ?_
    refine j_qlV2 dL_law_868 kX7_order lL_173 rfl (by decide) rfl (Nat.le_of_ble_eq_true rfl) (Nat.le_of_ble_eq_true rfl) (by omega) (q_orderk h (k := k) q_861) (fun v1 S2 h1 => ?_)
    obtain ⟨rfl, h2⟩ := h1
    refine j_l2i dL_law_871 ?_
    refine j_top (y := nI (dg (bestP v) k)) (lN_I6 (Nat.lt_trans (dg_lt (bestP v) k) (by decide))) ?_
    refine j_ist13 dL_law_872 rfl (by decide) ?_
    refine j_ild13 dL_law_874 ?_
    refine j_iflt 896 dL_law_876 (by decide) (fun c_876 => absurd c_876 (nI_pos (by omega))) (fun c_876 => ?_)
    refine j_ild13 dL_law_879 ?_
    refine j_iconst (3) dL_law_881 rfl ?_
    refine j_icmpgt 896 dL_law_882 (by decide) (fun c_882 => absurd c_882 (Int32.not_lt.mpr ((nI_leI (a := dg (bestP v) k) (b := 3) (by omega) (by decide)).mpr (by omega)))) (fun c_882 => ?_)
    refine j_ild10 dL_law_885 ?_
    refine j_ild13 dL_law_887 ?_
    refine j_ishr dL_law_889 ?_
    refine j_iconst (1) dL_law_890 rfl ?_
    refine j_iand dL_law_891 ?_
    refine j_top (y := 0) ((sh_bit (by omega) (by omega)).trans (by rw [seen_bit _ bp.1 bp.2 k q_861]; rfl)) ?_
    refine j_iconst (1) dL_law_892 rfl ?_
    refine j_icmpne 898 dL_law_893 (by decide) (fun c_893 => ?_) (fun c_893 => absurd (by decide) c_893)
    refine j_ild10 dL_law_898 ?_
    refine j_iconst (1) dL_law_900 rfl ?_
    refine j_ild13 dL_law_901 ?_
    refine j_ishl dL_law_903 ?_
    refine j_ior dL_law_904 ?_
    refine j_top (y := nI (seen (bestP v) (k + 1))) (f_seen _ sn _ d4) ?_
    refine j_ist10 dL_law_905 rfl (by decide) ?_
    refine j_ild11 dL_law_907 ?_
    refine j_ald1 dL_law_909 ?_
    refine j_ild13 dL_law_910 ?_
    refine j_bipush (7) dL_law_912 rfl ?_
    refine j_cV2 dL_law_914 kX7_of lL_171 rfl (by decide) rfl (Nat.le_of_ble_eq_true rfl) (Nat.le_of_ble_eq_true rfl) (by omega) (q_of h2 (i := dg (bestP v) k) (w := 7) (by decide) (by rw [num_hi (by decide)]; show dg (bestP v) k < 4; exact d4)) ?_
    refine j_iadd dL_law_917 ?_
    refine j_top (y := nI (sumN (fun i => v 7 (dg (bestP v) i)) (k + 1))) (nI_add _ _) ?_
    refine j_ist11 dL_law_918 rfl (by decide) ?_
    refine j_iinc12 (nI (k + 1)) dL_law_920 (nI_1 k) rfl (by decide) ?_
    refine j_goto 858 dL_law_923 (by decide) ?_
    exact ih (k + 1) _ _ (by omega) (by omega) h2

theorem law_832 {g : GG} (hR : HR a g) (hN : 61 < NC a) (hl : xl a 61 = n) (hn7 : n ≤ 7) (hg : GoodB bb) (hE : HE g a b Ls xs) (hL : Ls ≤ 260) {S : St} (h : LW0 n v bb S) : J a mL_law 100 g 832 [.ref b, .ref (a 0), .ref (a 61), .int (bi (hatN v n = 0)), .null, .null, .null, .null, .null, .null, .null, .null, .null, .null, .null, .null, .null, .null] [] S := by
  have mb := mean_b h.1.2.2.2 (bestP v)
  have s7 := sum7 h.1.2.2.2 (bestP v)
  have pr1 := price_hi s7 mb.1
  refine j_ald1 dL_law_832 ?_
  refine j_iconst (-1) dL_law_833 rfl ?_
  refine j_iconst (0) dL_law_834 rfl ?_
  refine j_qlV2 dL_law_835 kX7_order lL_173 rfl (by decide) rfl (Nat.le_of_ble_eq_true rfl) (Nat.le_of_ble_eq_true rfl) (by omega) (q_order h (Or.inl rfl)) (fun v1 S1 h1 => ?_)
  obtain ⟨rfl, h2⟩ := h1
  refine j_ald1 dL_law_838 ?_
  refine j_iconst (-1) dL_law_839 rfl ?_
  refine j_iconst (1) dL_law_840 rfl ?_
  refine j_qlV2 dL_law_841 kX7_order lL_173 rfl (by decide) rfl (Nat.le_of_ble_eq_true rfl) (Nat.le_of_ble_eq_true rfl) (by omega) (q_order h2 (Or.inr rfl)) (fun v2 S2 h3 => ?_)
  obtain ⟨rfl, h4⟩ := h3
  refine j_cS2 dL_law_844 kL_of zL_of (Or.inl lL_134) (Nat.le_of_ble_eq_true rfl) (Nat.le_of_ble_eq_true rfl) (by omega) (s_L_of pr1.1) ?_
  refine j_dst8 dL_law_847 rfl (by decide) ?_
  refine j_iconst (0) dL_law_849 rfl ?_
  refine j_ist10 dL_law_850 rfl (by decide) ?_
  refine j_iconst (0) dL_law_852 rfl ?_
  refine j_ist11 dL_law_853 rfl (by decide) ?_
  refine j_iconst (0) dL_law_855 rfl ?_
  refine j_ist12 dL_law_856 rfl (by decide) ?_
  exact law_858 hR hN hl hn7 hg hE hL 5 0 _ _ (by decide) (by decide) h4

end Order
