/-! shown, again, which: the faces -/
section ShownF
variable {a : Nat → Nat} {S : St} {n : Nat} {v : Nat → Nat → Nat} {b : Option (List Line)}

set_option maxRecDepth 20000 in
theorem s_X7_shown_ok {x p : Int32} (h : TC n v S) (hb : LawC b S) (hg : GoodB b) (hk : shOk2 x p) : Rql a mX7_shown 6 [.ref (a 0), .int x, .int p] S fun z S' => z = shnV v b n x.toNatClampNeg p ∧ Kp [4, 8] S S' := by
  show J _ _ _ _ 0 [_, _, _] [] _
  have hn8 := h.2.1
  have hB := h.2.2.2
  obtain ⟨c, hc6, rfl⟩ := in_nI (n := 6) (by decide) hk.1
  have cc : (nI c).toNatClampNeg = c := nI_clamp (by omega)
  have l1 := lkA_62 (b := b) (c := c) (k := 1) hB hn8 (by decide)
  have hs := h.sum hn8
  refine j_ild1 dX7_shown_0 ?_
  refine j_bipush (6) dX7_shown_1 rfl ?_
  refine j_cS2 dX7_shown_3 kX7_within zX7_within (Or.inl l7_72) (Nat.le_of_ble_eq_true rfl) (Nat.le_of_ble_eq_true rfl) (by omega) (s_X7_within) ?_
  refine j_ifeqB 17 dX7_shown_6 (by decide) (fun c_6 => absurd c_6 (not_not_intro hk.1)) (fun c_6 => ?_)
  refine j_ild2 dX7_shown_9 ?_
  refine j_iconst (2) dX7_shown_10 rfl ?_
  refine j_cS2 dX7_shown_11 kX7_within zX7_within (Or.inl l7_72) (Nat.le_of_ble_eq_true rfl) (Nat.le_of_ble_eq_true rfl) (by omega) (s_X7_within) ?_
  refine j_ifneB 21 dX7_shown_14 (by decide) (fun c_14 => ?_) (fun c_14 => absurd (hk.2) c_14)
  refine j_ald0 dX7_shown_21 ?_
  refine j_getR (k := 2) (3) dX7_shown_22 cX7_ok (Or.inl f7_28) rfl (by decide) (by decide) (by decide) rfl ?_
  refine j_ald0 dX7_shown_25 ?_
  refine j_getR (k := 0) (1) dX7_shown_26 cX7_ok (Or.inl f7_12) rfl (by decide) (by decide) (by decide) rfl ?_
  refine j_ald0 dX7_shown_29 ?_
  refine j_getR (k := 1) (2) dX7_shown_30 cX7_ok (Or.inl f7_21) rfl (by decide) (by decide) (by decide) rfl ?_
  refine j_qvV2 dX7_shown_33 kX5_weighAll l7_140 rfl (by decide) rfl (Nat.le_of_ble_eq_true rfl) (Nat.le_of_ble_eq_true rfl) (by omega) (s_X5_weighAll h hb hg) (fun S1 h1 => ?_)
  obtain ⟨hkp, hw⟩ := h1
  refine j_ald0 dX7_shown_36 ?_
  refine j_getR (k := 2) (3) dX7_shown_37 cX7_ok (Or.inl f7_28) rfl (by decide) (by decide) (by decide) rfl ?_
  refine j_ald0 dX7_shown_40 ?_
  refine j_getR (k := 0) (1) dX7_shown_41 cX7_ok (Or.inl f7_12) rfl (by decide) (by decide) (by decide) rfl ?_
  refine j_ild1 dX7_shown_44 ?_
  refine j_iconst (1) dX7_shown_45 rfl ?_
  refine j_cV3 dX7_shown_46 kX5_likely l7_144 rfl (by decide) rfl (Nat.le_of_ble_eq_true rfl) (Nat.le_of_ble_eq_true rfl) (by omega) (s_X5_likely (c := c) (k := 1) (h.kp hkp (by decide)) hw (by omega) (by decide)) ?_
  refine j_ldc2_w (v := 60) dX7_shown_49 q7_148 ?_
  refine j_topL (y := lN 60) (rfl) ?_
  refine j_ald0 dX7_shown_52 ?_
  refine j_getR (k := 0) (1) dX7_shown_53 cX7_ok (Or.inl f7_12) rfl (by decide) (by decide) (by decide) rfl ?_
  refine j_cV0 dX7_shown_56 kX6_inHat l7_120 rfl (by decide) rfl (Nat.le_of_ble_eq_true rfl) (Nat.le_of_ble_eq_true rfl) (by omega) (s_X6_inHat (h.kp hkp (by decide))) ?_
  refine j_i2l dX7_shown_59 ?_
  refine j_topL (y := lN (sumN (v 0) n)) (nI_l (by omega)) ?_
  refine j_lmul dX7_shown_60 ?_
  refine j_topL (y := lN (60 * sumN (v 0) n)) (lN_mul _ _) ?_
  refine j_ild2 dX7_shown_61 ?_
  refine j_cS3 dX7_shown_62 kX7_lowest zX7_lowest (Or.inl l7_150) (Nat.le_of_ble_eq_true rfl) (Nat.le_of_ble_eq_true rfl) (by omega) (s_X7_lowest (by omega) (by omega)) ?_
  refine j_lret dX7_shown_65 rfl ?_
  exact ⟨_, rfl, by rw [shnV, cc, hatN], hkp⟩

set_option maxRecDepth 20000 in
theorem s_X7_shown_bad {x p : Int32} (hk : ¬ shOk2 x p) : Rt a mX7_shown 6 [.ref (a 0), .int x, .int p] S (some (.long (-9223372036854775808))) S := by
  show J _ _ _ _ 0 [_, _, _] [] _
  refine j_ild1 dX7_shown_0 ?_
  refine j_bipush (6) dX7_shown_1 rfl ?_
  refine j_cS2 dX7_shown_3 kX7_within zX7_within (Or.inl l7_72) (Nat.le_of_ble_eq_true rfl) (Nat.le_of_ble_eq_true rfl) (by omega) (s_X7_within) ?_
  refine j_ifeqB 17 dX7_shown_6 (by decide) (fun c_6 => ?_) (fun c_6 => ?_)
  · refine j_ldc2_w (v := -9223372036854775808) dX7_shown_17 q7_138 ?_
    refine j_lret dX7_shown_20 rfl ?_
    exact ⟨rfl, rfl⟩
  refine j_ild2 dX7_shown_9 ?_
  refine j_iconst (2) dX7_shown_10 rfl ?_
  refine j_cS2 dX7_shown_11 kX7_within zX7_within (Or.inl l7_72) (Nat.le_of_ble_eq_true rfl) (Nat.le_of_ble_eq_true rfl) (by omega) (s_X7_within) ?_
  refine j_ifneB 21 dX7_shown_14 (by decide) (fun c_14 => ?_) (fun c_14 => ?_)
  · exact absurd ⟨c_6, c_14⟩ hk
  refine j_ldc2_w (v := -9223372036854775808) dX7_shown_17 q7_138 ?_
  refine j_lret dX7_shown_20 rfl ?_
  exact ⟨rfl, rfl⟩

set_option maxRecDepth 20000 in
theorem s_X8_shown_ok {x p : Int32} (h : TR n v S) (hb : LawR b S) (hg : GoodB b) (hk : shOk2 x p) : Rql a mX8_shown 5 [.ref (a 61), .int x, .int p] S fun z S' => z = shnV v b n x.toNatClampNeg p ∧ Kp [14, 18] S S' := by
  show J _ _ _ _ 0 [_, _, _] [] _
  have hn8 := h.2.1
  have hB := h.2.2.2
  obtain ⟨c, hc6, rfl⟩ := in_nI (n := 6) (by decide) hk.1
  have cc : (nI c).toNatClampNeg = c := nI_clamp (by omega)
  have l1 := lkA_62 (b := b) (c := c) (k := 1) hB hn8 (by decide)
  have hs := h.sum hn8
  refine j_ild1 dX8_shown_0 ?_
  refine j_cS1 dX8_shown_1 kX8_isColour zX8_isColour (Or.inl l8_152) (Nat.le_of_ble_eq_true rfl) (Nat.le_of_ble_eq_true rfl) (by omega) (s_X8_isColour) ?_
  refine j_ifeqB 14 dX8_shown_4 (by decide) (fun c_4 => absurd c_4 (not_not_intro hk.1)) (fun c_4 => ?_)
  refine j_ild2 dX8_shown_7 ?_
  refine j_cS1 dX8_shown_8 kX8_isPart zX8_isPart (Or.inl l8_291) (Nat.le_of_ble_eq_true rfl) (Nat.le_of_ble_eq_true rfl) (by omega) (s_X8_isPart) ?_
  refine j_ifneB 18 dX8_shown_11 (by decide) (fun c_11 => ?_) (fun c_11 => absurd (hk.2) c_11)
  refine j_ald0 dX8_shown_18 ?_
  refine j_qvV0 dX8_shown_19 kX8_findWeights l8_275 rfl (by decide) rfl (Nat.le_of_ble_eq_true rfl) (Nat.le_of_ble_eq_true rfl) (by omega) (s_X8_findWeights h hb hg) (fun S1 h1 => ?_)
  obtain ⟨hkp, hw⟩ := h1
  refine j_ald0 dX8_shown_22 ?_
  refine j_ild1 dX8_shown_23 ?_
  refine j_iconst (1) dX8_shown_24 rfl ?_
  refine j_cV2 dX8_shown_25 kX8_allShow l8_296 rfl (by decide) rfl (Nat.le_of_ble_eq_true rfl) (Nat.le_of_ble_eq_true rfl) (by omega) (s_X8_allShow (c := c) (k := 1) (h.kp hkp (by decide)) hw (by omega) (by decide)) ?_
  refine j_ldc2_w (v := 60) dX8_shown_28 q8_278 ?_
  refine j_topL (y := lN 60) (rfl) ?_
  refine j_ald0 dX8_shown_31 ?_
  refine j_cV0 dX8_shown_32 kX8_allCards l8_196 rfl (by decide) rfl (Nat.le_of_ble_eq_true rfl) (Nat.le_of_ble_eq_true rfl) (by omega) (s_X8_allCards (h.kp hkp (by decide))) ?_
  refine j_i2l dX8_shown_35 ?_
  refine j_topL (y := lN (sumN (v 0) n)) (nI_l (by omega)) ?_
  refine j_lmul dX8_shown_36 ?_
  refine j_topL (y := lN (60 * sumN (v 0) n)) (lN_mul _ _) ?_
  refine j_ild2 dX8_shown_37 ?_
  refine j_cS3 dX8_shown_38 kX8_asPart zX8_asPart (Or.inl l8_299) (Nat.le_of_ble_eq_true rfl) (Nat.le_of_ble_eq_true rfl) (by omega) (s_X8_asPart (by omega) (by omega) (prt_or hk.2)) ?_
  refine j_lret dX8_shown_41 rfl ?_
  exact ⟨_, rfl, by rw [shnV, cc, hatN], hkp⟩

set_option maxRecDepth 20000 in
theorem s_X8_shown_bad {x p : Int32} (hk : ¬ shOk2 x p) : Rt a mX8_shown 5 [.ref (a 61), .int x, .int p] S (some (.long (-9223372036854775808))) S := by
  show J _ _ _ _ 0 [_, _, _] [] _
  refine j_ild1 dX8_shown_0 ?_
  refine j_cS1 dX8_shown_1 kX8_isColour zX8_isColour (Or.inl l8_152) (Nat.le_of_ble_eq_true rfl) (Nat.le_of_ble_eq_true rfl) (by omega) (s_X8_isColour) ?_
  refine j_ifeqB 14 dX8_shown_4 (by decide) (fun c_4 => ?_) (fun c_4 => ?_)
  · refine j_ldc2_w (v := -9223372036854775808) dX8_shown_14 q8_294 ?_
    refine j_lret dX8_shown_17 rfl ?_
    exact ⟨rfl, rfl⟩
  refine j_ild2 dX8_shown_7 ?_
  refine j_cS1 dX8_shown_8 kX8_isPart zX8_isPart (Or.inl l8_291) (Nat.le_of_ble_eq_true rfl) (Nat.le_of_ble_eq_true rfl) (by omega) (s_X8_isPart) ?_
  refine j_ifneB 18 dX8_shown_11 (by decide) (fun c_11 => ?_) (fun c_11 => ?_)
  · exact absurd ⟨c_4, c_11⟩ hk
  refine j_ldc2_w (v := -9223372036854775808) dX8_shown_14 q8_294 ?_
  refine j_lret dX8_shown_17 rfl ?_
  exact ⟨rfl, rfl⟩

set_option maxRecDepth 20000 in
theorem s_X8_isShown {x : Int32} : Rt a mX8_isShown 2 [.int x] S (some (.int (bi (ckOk x)))) S := by
  show J _ _ _ _ 0 [_] [] _
  refine j_ild0 dX8_isShown_0 ?_
  refine j_iflt 30 dX8_isShown_1 (by decide) (fun c_1 => ?_) (fun c_1 => ?_)
  · refine j_iconst (0) dX8_isShown_30 rfl ?_
    refine j_zret dX8_isShown_31 rfl (by decide) ?_
    exact ⟨by rw [bi_f (fun z => absurd c_1 (Int32.not_lt.mpr z.1))], rfl⟩
  refine j_ild0 dX8_isShown_4 ?_
  refine j_bipush (10) dX8_isShown_5 rfl ?_
  refine j_idiv dX8_isShown_7 (by decide) ?_
  refine j_cS1 dX8_isShown_8 kX8_isColour zX8_isColour (Or.inl l8_152) (Nat.le_of_ble_eq_true rfl) (Nat.le_of_ble_eq_true rfl) (by omega) (s_X8_isColour) ?_
  refine j_ifeqB 30 dX8_isShown_11 (by decide) (fun c_11 => ?_) (fun c_11 => ?_)
  · refine j_iconst (0) dX8_isShown_30 rfl ?_
    refine j_zret dX8_isShown_31 rfl (by decide) ?_
    exact ⟨by rw [bi_f (fun z => c_11 ⟨ck_div0 z.1, z.2.1⟩)], rfl⟩
  refine j_ild0 dX8_isShown_14 ?_
  refine j_bipush (10) dX8_isShown_15 rfl ?_
  refine j_irem dX8_isShown_17 (by decide) ?_
  refine j_iconst (1) dX8_isShown_18 rfl ?_
  refine j_iconst (4) dX8_isShown_19 rfl ?_
  refine j_cS3 dX8_isShown_20 kX8_in zX8_in (Or.inl l8_148) (Nat.le_of_ble_eq_true rfl) (Nat.le_of_ble_eq_true rfl) (by omega) (s_X8_in) ?_
  refine j_ifeqB 30 dX8_isShown_23 (by decide) (fun c_23 => ?_) (fun c_23 => ?_)
  · refine j_iconst (0) dX8_isShown_30 rfl ?_
    refine j_zret dX8_isShown_31 rfl (by decide) ?_
    exact ⟨by rw [bi_f (fun z => c_23 z.2.2)], rfl⟩
  refine j_iconst (1) dX8_isShown_26 rfl ?_
  refine j_goto 31 dX8_isShown_27 (by decide) ?_
  refine j_zret dX8_isShown_31 rfl (by decide) ?_
  exact ⟨by rw [bi_t ⟨Int32.not_lt.mp c_1, c_11.2, c_23⟩], rfl⟩

set_option maxRecDepth 20000 in
theorem s_X7_again_ok {x p : Int32} (h : TC n v S) (hb : LawC b S) (hg : GoodB b) (hk : ckOk x ∧ prt p) : Rql a mX7_again 6 [.ref (a 0), .int x, .int p] S fun z S' => z = agV v b n x p ∧ Kp [4, 8] S S' := by
  show J _ _ _ _ 0 [_, _, _, .null, .null] [] _
  have hn8 := h.2.1
  have hB := h.2.2.2
  obtain ⟨c, k, hc6, k1, k4, e1, e2, f1, f2⟩ := ck_nat hk.1
  have l1 := lkA_62 (b := b) (c := c) (k := k + 1) hB hn8 (by omega)
  have l2 := lkA_62 (b := b) (c := c) (k := k) hB hn8 (by omega)
  refine j_ild1 dX7_again_0 ?_
  refine j_cS1 dX7_again_1 kX7_mayBeTimes zX7_mayBeTimes (Or.inl l7_157) (Nat.le_of_ble_eq_true rfl) (Nat.le_of_ble_eq_true rfl) (by omega) (s_X7_mayBeTimes) ?_
  refine j_ifeqB 15 dX7_again_4 (by decide) (fun c_4 => absurd c_4 (not_not_intro hk.1)) (fun c_4 => ?_)
  refine j_ild2 dX7_again_7 ?_
  refine j_iconst (2) dX7_again_8 rfl ?_
  refine j_cS2 dX7_again_9 kX7_within zX7_within (Or.inl l7_72) (Nat.le_of_ble_eq_true rfl) (Nat.le_of_ble_eq_true rfl) (by omega) (s_X7_within) ?_
  refine j_ifneB 19 dX7_again_12 (by decide) (fun c_12 => ?_) (fun c_12 => absurd (hk.2) c_12)
  refine j_ald0 dX7_again_19 ?_
  refine j_getR (k := 2) (3) dX7_again_20 cX7_ok (Or.inl f7_28) rfl (by decide) (by decide) (by decide) rfl ?_
  refine j_ald0 dX7_again_23 ?_
  refine j_getR (k := 0) (1) dX7_again_24 cX7_ok (Or.inl f7_12) rfl (by decide) (by decide) (by decide) rfl ?_
  refine j_ald0 dX7_again_27 ?_
  refine j_getR (k := 1) (2) dX7_again_28 cX7_ok (Or.inl f7_21) rfl (by decide) (by decide) (by decide) rfl ?_
  refine j_qvV2 dX7_again_31 kX5_weighAll l7_140 rfl (by decide) rfl (Nat.le_of_ble_eq_true rfl) (Nat.le_of_ble_eq_true rfl) (by omega) (s_X5_weighAll h hb hg) (fun S1 h1 => ?_)
  obtain ⟨hkp, hw⟩ := h1
  refine j_ald0 dX7_again_34 ?_
  refine j_getR (k := 2) (3) dX7_again_35 cX7_ok (Or.inl f7_28) rfl (by decide) (by decide) (by decide) rfl ?_
  refine j_ald0 dX7_again_38 ?_
  refine j_getR (k := 0) (1) dX7_again_39 cX7_ok (Or.inl f7_12) rfl (by decide) (by decide) (by decide) rfl ?_
  refine j_ild1 dX7_again_42 ?_
  refine j_bipush (10) dX7_again_43 rfl ?_
  refine j_idiv dX7_again_45 (by decide) ?_
  refine j_top (y := nI c) (e1) ?_
  refine j_ild1 dX7_again_46 ?_
  refine j_bipush (10) dX7_again_47 rfl ?_
  refine j_irem dX7_again_49 (by decide) ?_
  refine j_top (y := nI k) (e2) ?_
  refine j_cV3 dX7_again_50 kX5_likely l7_144 rfl (by decide) rfl (Nat.le_of_ble_eq_true rfl) (Nat.le_of_ble_eq_true rfl) (by omega) (s_X5_likely (h.kp hkp (by decide)) hw (by omega) (by omega)) ?_
  refine j_lst3 dX7_again_53 rfl (by decide) ?_
  refine j_ald0 dX7_again_54 ?_
  refine j_getR (k := 2) (3) dX7_again_55 cX7_ok (Or.inl f7_28) rfl (by decide) (by decide) (by decide) rfl ?_
  refine j_ald0 dX7_again_58 ?_
  refine j_getR (k := 0) (1) dX7_again_59 cX7_ok (Or.inl f7_12) rfl (by decide) (by decide) (by decide) rfl ?_
  refine j_ild1 dX7_again_62 ?_
  refine j_bipush (10) dX7_again_63 rfl ?_
  refine j_idiv dX7_again_65 (by decide) ?_
  refine j_top (y := nI c) (e1) ?_
  refine j_ild1 dX7_again_66 ?_
  refine j_bipush (10) dX7_again_67 rfl ?_
  refine j_irem dX7_again_69 (by decide) ?_
  refine j_top (y := nI k) (e2) ?_
  refine j_iconst (1) dX7_again_70 rfl ?_
  refine j_iadd dX7_again_71 ?_
  refine j_top (y := nI (k + 1)) (nI_1 k) ?_
  refine j_cV3 dX7_again_72 kX5_likely l7_144 rfl (by decide) rfl (Nat.le_of_ble_eq_true rfl) (Nat.le_of_ble_eq_true rfl) (by omega) (s_X5_likely (h.kp hkp (by decide)) hw (by omega) (by omega)) ?_
  refine j_lld3 dX7_again_75 ?_
  refine j_ldc2_w (v := 60) dX7_again_76 q7_148 ?_
  refine j_topL (y := lN 60) (rfl) ?_
  refine j_lmul dX7_again_79 ?_
  refine j_topL (y := lN (lkA v b n c k * 60)) (lN_mul _ _) ?_
  refine j_ild2 dX7_again_80 ?_
  refine j_cS3 dX7_again_81 kX7_lowest zX7_lowest (Or.inl l7_150) (Nat.le_of_ble_eq_true rfl) (Nat.le_of_ble_eq_true rfl) (by omega) (s_X7_lowest (by omega) (by omega)) ?_
  refine j_lret dX7_again_84 rfl ?_
  exact ⟨_, rfl, by rw [agV, f1, f2], hkp⟩

set_option maxRecDepth 20000 in
theorem s_X7_again_bad {x p : Int32} (hk : ¬ (ckOk x ∧ prt p)) : Rt a mX7_again 6 [.ref (a 0), .int x, .int p] S (some (.long (-9223372036854775808))) S := by
  show J _ _ _ _ 0 [_, _, _, .null, .null] [] _
  refine j_ild1 dX7_again_0 ?_
  refine j_cS1 dX7_again_1 kX7_mayBeTimes zX7_mayBeTimes (Or.inl l7_157) (Nat.le_of_ble_eq_true rfl) (Nat.le_of_ble_eq_true rfl) (by omega) (s_X7_mayBeTimes) ?_
  refine j_ifeqB 15 dX7_again_4 (by decide) (fun c_4 => ?_) (fun c_4 => ?_)
  · refine j_ldc2_w (v := -9223372036854775808) dX7_again_15 q7_138 ?_
    refine j_lret dX7_again_18 rfl ?_
    exact ⟨rfl, rfl⟩
  refine j_ild2 dX7_again_7 ?_
  refine j_iconst (2) dX7_again_8 rfl ?_
  refine j_cS2 dX7_again_9 kX7_within zX7_within (Or.inl l7_72) (Nat.le_of_ble_eq_true rfl) (Nat.le_of_ble_eq_true rfl) (by omega) (s_X7_within) ?_
  refine j_ifneB 19 dX7_again_12 (by decide) (fun c_12 => ?_) (fun c_12 => ?_)
  · exact absurd ⟨c_4, c_12⟩ hk
  refine j_ldc2_w (v := -9223372036854775808) dX7_again_15 q7_138 ?_
  refine j_lret dX7_again_18 rfl ?_
  exact ⟨rfl, rfl⟩

set_option maxRecDepth 20000 in
theorem s_X8_again_ok {x p : Int32} (h : TR n v S) (hb : LawR b S) (hg : GoodB b) (hk : ckOk x ∧ prt p) : Rql a mX8_again 5 [.ref (a 61), .int x, .int p] S fun z S' => z = agV v b n x p ∧ Kp [14, 18] S S' := by
  show J _ _ _ _ 0 [_, _, _] [] _
  have hn8 := h.2.1
  have hB := h.2.2.2
  obtain ⟨c, k, hc6, k1, k4, e1, e2, f1, f2⟩ := ck_nat hk.1
  have l1 := lkA_62 (b := b) (c := c) (k := k + 1) hB hn8 (by omega)
  have l2 := lkA_62 (b := b) (c := c) (k := k) hB hn8 (by omega)
  refine j_ild1 dX8_again_0 ?_
  refine j_cS1 dX8_again_1 kX8_isShown zX8_isShown (Or.inl l8_303) (Nat.le_of_ble_eq_true rfl) (Nat.le_of_ble_eq_true rfl) (by omega) (s_X8_isShown) ?_
  refine j_ifeqB 14 dX8_again_4 (by decide) (fun c_4 => absurd c_4 (not_not_intro hk.1)) (fun c_4 => ?_)
  refine j_ild2 dX8_again_7 ?_
  refine j_cS1 dX8_again_8 kX8_isPart zX8_isPart (Or.inl l8_291) (Nat.le_of_ble_eq_true rfl) (Nat.le_of_ble_eq_true rfl) (by omega) (s_X8_isPart) ?_
  refine j_ifneB 18 dX8_again_11 (by decide) (fun c_11 => ?_) (fun c_11 => absurd (hk.2) c_11)
  refine j_ald0 dX8_again_18 ?_
  refine j_qvV0 dX8_again_19 kX8_findWeights l8_275 rfl (by decide) rfl (Nat.le_of_ble_eq_true rfl) (Nat.le_of_ble_eq_true rfl) (by omega) (s_X8_findWeights h hb hg) (fun S1 h1 => ?_)
  obtain ⟨hkp, hw⟩ := h1
  refine j_ald0 dX8_again_22 ?_
  refine j_ild1 dX8_again_23 ?_
  refine j_bipush (10) dX8_again_24 rfl ?_
  refine j_idiv dX8_again_26 (by decide) ?_
  refine j_top (y := nI c) (e1) ?_
  refine j_ild1 dX8_again_27 ?_
  refine j_bipush (10) dX8_again_28 rfl ?_
  refine j_irem dX8_again_30 (by decide) ?_
  refine j_top (y := nI k) (e2) ?_
  refine j_iconst (1) dX8_again_31 rfl ?_
  refine j_iadd dX8_again_32 ?_
  refine j_top (y := nI (k + 1)) (nI_1 k) ?_
  refine j_cV2 dX8_again_33 kX8_allShow l8_296 rfl (by decide) rfl (Nat.le_of_ble_eq_true rfl) (Nat.le_of_ble_eq_true rfl) (by omega) (s_X8_allShow (h.kp hkp (by decide)) hw (by omega) (by omega)) ?_
  refine j_ldc2_w (v := 60) dX8_again_36 q8_278 ?_
  refine j_topL (y := lN 60) (rfl) ?_
  refine j_ald0 dX8_again_39 ?_
  refine j_ild1 dX8_again_40 ?_
  refine j_bipush (10) dX8_again_41 rfl ?_
  refine j_idiv dX8_again_43 (by decide) ?_
  refine j_top (y := nI c) (e1) ?_
  refine j_ild1 dX8_again_44 ?_
  refine j_bipush (10) dX8_again_45 rfl ?_
  refine j_irem dX8_again_47 (by decide) ?_
  refine j_top (y := nI k) (e2) ?_
  refine j_cV2 dX8_again_48 kX8_allShow l8_296 rfl (by decide) rfl (Nat.le_of_ble_eq_true rfl) (Nat.le_of_ble_eq_true rfl) (by omega) (s_X8_allShow (h.kp hkp (by decide)) hw (by omega) (by omega)) ?_
  refine j_lmul dX8_again_51 ?_
  refine j_topL (y := lN (lkA v b n c k * 60)) (by rw [Nat.mul_comm]; exact lN_mul _ _) ?_
  refine j_ild2 dX8_again_52 ?_
  refine j_cS3 dX8_again_53 kX8_asPart zX8_asPart (Or.inl l8_299) (Nat.le_of_ble_eq_true rfl) (Nat.le_of_ble_eq_true rfl) (by omega) (s_X8_asPart (by omega) (by omega) (prt_or hk.2)) ?_
  refine j_lret dX8_again_56 rfl ?_
  exact ⟨_, rfl, by rw [agV, f1, f2], hkp⟩

set_option maxRecDepth 20000 in
theorem s_X8_again_bad {x p : Int32} (hk : ¬ (ckOk x ∧ prt p)) : Rt a mX8_again 5 [.ref (a 61), .int x, .int p] S (some (.long (-9223372036854775808))) S := by
  show J _ _ _ _ 0 [_, _, _] [] _
  refine j_ild1 dX8_again_0 ?_
  refine j_cS1 dX8_again_1 kX8_isShown zX8_isShown (Or.inl l8_303) (Nat.le_of_ble_eq_true rfl) (Nat.le_of_ble_eq_true rfl) (by omega) (s_X8_isShown) ?_
  refine j_ifeqB 14 dX8_again_4 (by decide) (fun c_4 => ?_) (fun c_4 => ?_)
  · refine j_ldc2_w (v := -9223372036854775808) dX8_again_14 q8_294 ?_
    refine j_lret dX8_again_17 rfl ?_
    exact ⟨rfl, rfl⟩
  refine j_ild2 dX8_again_7 ?_
  refine j_cS1 dX8_again_8 kX8_isPart zX8_isPart (Or.inl l8_291) (Nat.le_of_ble_eq_true rfl) (Nat.le_of_ble_eq_true rfl) (by omega) (s_X8_isPart) ?_
  refine j_ifneB 18 dX8_again_11 (by decide) (fun c_11 => ?_) (fun c_11 => ?_)
  · exact absurd ⟨c_4, c_11⟩ hk
  refine j_ldc2_w (v := -9223372036854775808) dX8_again_14 q8_294 ?_
  refine j_lret dX8_again_17 rfl ?_
  exact ⟨rfl, rfl⟩

abbrev wiOk (n : Nat) (i x p : Int32) : Prop := (0 ≤ i ∧ i < nI n) ∧ ckOk x ∧ prt p
set_option maxRecDepth 20000 in
theorem s_X7_which_ok {i x p : Int32} (h : TC n v S) (hb : LawC b S) (hg : GoodB b) (hk : wiOk n i x p) : Rql a mX7_which 6 [.ref (a 0), .int i, .int x, .int p] S fun z S' => z = whV v b n i x p ∧ Kp [4, 8] S S' := by
  show J _ _ _ _ 0 [_, _, _, _, .null, .null] [] _
  have hn8 := h.2.1
  have hB := h.2.2.2
  obtain ⟨c, k, hc6, k1, k4, e1, e2, f1, f2⟩ := ck_nat hk.2.1
  obtain ⟨j, hj, rfl⟩ := in_nI (n := n) (by omega) hk.1
  have cj : (nI j).toNatClampNeg = j := nI_clamp (by omega)
  have l2 := lkA_62 (b := b) (c := c) (k := k) hB hn8 (by omega)
  have v9 : v 0 j ≤ 9 := hB 0 (by decide) j (by omega)
  have l1 := lkO_le (v := v) (b := b) (i := j) (c := c) (k := k) v9 (by omega)
  refine j_ild1 dX7_which_0 ?_
  refine j_ald0 dX7_which_1 ?_
  refine j_getR (k := 0) (1) dX7_which_2 cX7_ok (Or.inl f7_12) rfl (by decide) (by decide) (by decide) rfl ?_
  refine j_getI (k := 1) dX7_which_5 cX6_ok (Or.inr ⟨_, f7_91⟩) rfl (by decide) (by decide) (by decide) ?_
  refine j_top (y := nI n) (h.1) ?_
  refine j_cS2 dX7_which_8 kX7_within zX7_within (Or.inl l7_72) (Nat.le_of_ble_eq_true rfl) (Nat.le_of_ble_eq_true rfl) (by omega) (s_X7_within) ?_
  refine j_ifeqB 29 dX7_which_11 (by decide) (fun c_11 => absurd c_11 (not_not_intro hk.1)) (fun c_11 => ?_)
  refine j_ild2 dX7_which_14 ?_
  refine j_cS1 dX7_which_15 kX7_mayBeTimes zX7_mayBeTimes (Or.inl l7_157) (Nat.le_of_ble_eq_true rfl) (Nat.le_of_ble_eq_true rfl) (by omega) (s_X7_mayBeTimes) ?_
  refine j_ifeqB 29 dX7_which_18 (by decide) (fun c_18 => absurd c_18 (not_not_intro hk.2.1)) (fun c_18 => ?_)
  refine j_ild3 dX7_which_21 ?_
  refine j_iconst (2) dX7_which_22 rfl ?_
  refine j_cS2 dX7_which_23 kX7_within zX7_within (Or.inl l7_72) (Nat.le_of_ble_eq_true rfl) (Nat.le_of_ble_eq_true rfl) (by omega) (s_X7_within) ?_
  refine j_ifneB 33 dX7_which_26 (by decide) (fun c_26 => ?_) (fun c_26 => absurd (hk.2.2) c_26)
  refine j_ald0 dX7_which_33 ?_
  refine j_getR (k := 2) (3) dX7_which_34 cX7_ok (Or.inl f7_28) rfl (by decide) (by decide) (by decide) rfl ?_
  refine j_ald0 dX7_which_37 ?_
  refine j_getR (k := 0) (1) dX7_which_38 cX7_ok (Or.inl f7_12) rfl (by decide) (by decide) (by decide) rfl ?_
  refine j_ald0 dX7_which_41 ?_
  refine j_getR (k := 1) (2) dX7_which_42 cX7_ok (Or.inl f7_21) rfl (by decide) (by decide) (by decide) rfl ?_
  refine j_qvV2 dX7_which_45 kX5_weighAll l7_140 rfl (by decide) rfl (Nat.le_of_ble_eq_true rfl) (Nat.le_of_ble_eq_true rfl) (by omega) (s_X5_weighAll h hb hg) (fun S1 h1 => ?_)
  obtain ⟨hkp, hw⟩ := h1
  refine j_ald0 dX7_which_48 ?_
  refine j_getR (k := 2) (3) dX7_which_49 cX7_ok (Or.inl f7_28) rfl (by decide) (by decide) (by decide) rfl ?_
  refine j_ald0 dX7_which_52 ?_
  refine j_getR (k := 0) (1) dX7_which_53 cX7_ok (Or.inl f7_12) rfl (by decide) (by decide) (by decide) rfl ?_
  refine j_ild1 dX7_which_56 ?_
  refine j_ild2 dX7_which_57 ?_
  refine j_bipush (10) dX7_which_58 rfl ?_
  refine j_idiv dX7_which_60 (by decide) ?_
  refine j_top (y := nI c) (e1) ?_
  refine j_ild2 dX7_which_61 ?_
  refine j_bipush (10) dX7_which_62 rfl ?_
  refine j_irem dX7_which_64 (by decide) ?_
  refine j_top (y := nI k) (e2) ?_
  refine j_cV4 dX7_which_65 kX5_likelyOf l7_160 rfl (by decide) rfl (Nat.le_of_ble_eq_true rfl) (Nat.le_of_ble_eq_true rfl) (by omega) (s_X5_likelyOf (h.kp hkp (by decide)) hw hj (by omega) (by omega)) ?_
  refine j_lst4 dX7_which_68 rfl (by decide) ?_
  refine j_lld4 dX7_which_70 ?_
  refine j_ald0 dX7_which_72 ?_
  refine j_getR (k := 2) (3) dX7_which_73 cX7_ok (Or.inl f7_28) rfl (by decide) (by decide) (by decide) rfl ?_
  refine j_ald0 dX7_which_76 ?_
  refine j_getR (k := 0) (1) dX7_which_77 cX7_ok (Or.inl f7_12) rfl (by decide) (by decide) (by decide) rfl ?_
  refine j_ild2 dX7_which_80 ?_
  refine j_bipush (10) dX7_which_81 rfl ?_
  refine j_idiv dX7_which_83 (by decide) ?_
  refine j_top (y := nI c) (e1) ?_
  refine j_ild2 dX7_which_84 ?_
  refine j_bipush (10) dX7_which_85 rfl ?_
  refine j_irem dX7_which_87 (by decide) ?_
  refine j_top (y := nI k) (e2) ?_
  refine j_cV3 dX7_which_88 kX5_likely l7_144 rfl (by decide) rfl (Nat.le_of_ble_eq_true rfl) (Nat.le_of_ble_eq_true rfl) (by omega) (s_X5_likely (h.kp hkp (by decide)) hw (by omega) (by omega)) ?_
  refine j_ild3 dX7_which_91 ?_
  refine j_cS3 dX7_which_92 kX7_lowest zX7_lowest (Or.inl l7_150) (Nat.le_of_ble_eq_true rfl) (Nat.le_of_ble_eq_true rfl) (by omega) (s_X7_lowest (by omega) (by omega)) ?_
  refine j_lret dX7_which_95 rfl ?_
  exact ⟨_, rfl, by rw [whV, cj, f1, f2], hkp⟩

set_option maxRecDepth 20000 in
theorem s_X7_which_bad {i x p : Int32} (h : TC n v S) (hk : ¬ wiOk n i x p) : Rt a mX7_which 6 [.ref (a 0), .int i, .int x, .int p] S (some (.long (-9223372036854775808))) S := by
  show J _ _ _ _ 0 [_, _, _, _, .null, .null] [] _
  refine j_ild1 dX7_which_0 ?_
  refine j_ald0 dX7_which_1 ?_
  refine j_getR (k := 0) (1) dX7_which_2 cX7_ok (Or.inl f7_12) rfl (by decide) (by decide) (by decide) rfl ?_
  refine j_getI (k := 1) dX7_which_5 cX6_ok (Or.inr ⟨_, f7_91⟩) rfl (by decide) (by decide) (by decide) ?_
  refine j_top (y := nI n) (h.1) ?_
  refine j_cS2 dX7_which_8 kX7_within zX7_within (Or.inl l7_72) (Nat.le_of_ble_eq_true rfl) (Nat.le_of_ble_eq_true rfl) (by omega) (s_X7_within) ?_
  refine j_ifeqB 29 dX7_which_11 (by decide) (fun c_11 => ?_) (fun c_11 => ?_)
  · refine j_ldc2_w (v := -9223372036854775808) dX7_which_29 q7_138 ?_
    refine j_lret dX7_which_32 rfl ?_
    exact ⟨rfl, rfl⟩
  refine j_ild2 dX7_which_14 ?_
  refine j_cS1 dX7_which_15 kX7_mayBeTimes zX7_mayBeTimes (Or.inl l7_157) (Nat.le_of_ble_eq_true rfl) (Nat.le_of_ble_eq_true rfl) (by omega) (s_X7_mayBeTimes) ?_
  refine j_ifeqB 29 dX7_which_18 (by decide) (fun c_18 => ?_) (fun c_18 => ?_)
  · refine j_ldc2_w (v := -9223372036854775808) dX7_which_29 q7_138 ?_
    refine j_lret dX7_which_32 rfl ?_
    exact ⟨rfl, rfl⟩
  refine j_ild3 dX7_which_21 ?_
  refine j_iconst (2) dX7_which_22 rfl ?_
  refine j_cS2 dX7_which_23 kX7_within zX7_within (Or.inl l7_72) (Nat.le_of_ble_eq_true rfl) (Nat.le_of_ble_eq_true rfl) (by omega) (s_X7_within) ?_
  refine j_ifneB 33 dX7_which_26 (by decide) (fun c_26 => ?_) (fun c_26 => ?_)
  · exact absurd ⟨c_11, c_18, c_26⟩ hk
  refine j_ldc2_w (v := -9223372036854775808) dX7_which_29 q7_138 ?_
  refine j_lret dX7_which_32 rfl ?_
  exact ⟨rfl, rfl⟩

set_option maxRecDepth 20000 in
theorem s_X8_which_ok {i x p : Int32} (h : TR n v S) (hb : LawR b S) (hg : GoodB b) (hk : wiOk n i x p) : Rql a mX8_which 5 [.ref (a 61), .int i, .int x, .int p] S fun z S' => z = whV v b n i x p ∧ Kp [14, 18] S S' := by
  show J _ _ _ _ 0 [_, _, _, _] [] _
  have hn8 := h.2.1
  have hB := h.2.2.2
  obtain ⟨c, k, hc6, k1, k4, e1, e2, f1, f2⟩ := ck_nat hk.2.1
  obtain ⟨j, hj, rfl⟩ := in_nI (n := n) (by omega) hk.1
  have cj : (nI j).toNatClampNeg = j := nI_clamp (by omega)
  have l2 := lkA_62 (b := b) (c := c) (k := k) hB hn8 (by omega)
  have v9 : v 0 j ≤ 9 := hB 0 (by decide) j (by omega)
  have l1 := lkO_le (v := v) (b := b) (i := j) (c := c) (k := k) v9 (by omega)
  refine j_ald0 dX8_which_0 ?_
  refine j_ild1 dX8_which_1 ?_
  refine j_cV1 dX8_which_2 kX8_isCard l8_182 rfl (by decide) rfl (Nat.le_of_ble_eq_true rfl) (Nat.le_of_ble_eq_true rfl) (by omega) (s_X8_isCard h.1 h.2.1) ?_
  refine j_ifeqB 22 dX8_which_5 (by decide) (fun c_5 => absurd c_5 (not_not_intro hk.1)) (fun c_5 => ?_)
  refine j_ild2 dX8_which_8 ?_
  refine j_cS1 dX8_which_9 kX8_isShown zX8_isShown (Or.inl l8_303) (Nat.le_of_ble_eq_true rfl) (Nat.le_of_ble_eq_true rfl) (by omega) (s_X8_isShown) ?_
  refine j_ifeqB 22 dX8_which_12 (by decide) (fun c_12 => absurd c_12 (not_not_intro hk.2.1)) (fun c_12 => ?_)
  refine j_ild3 dX8_which_15 ?_
  refine j_cS1 dX8_which_16 kX8_isPart zX8_isPart (Or.inl l8_291) (Nat.le_of_ble_eq_true rfl) (Nat.le_of_ble_eq_true rfl) (by omega) (s_X8_isPart) ?_
  refine j_ifneB 26 dX8_which_19 (by decide) (fun c_19 => ?_) (fun c_19 => absurd (hk.2.2) c_19)
  refine j_ald0 dX8_which_26 ?_
  refine j_qvV0 dX8_which_27 kX8_findWeights l8_275 rfl (by decide) rfl (Nat.le_of_ble_eq_true rfl) (Nat.le_of_ble_eq_true rfl) (by omega) (s_X8_findWeights h hb hg) (fun S1 h1 => ?_)
  obtain ⟨hkp, hw⟩ := h1
  refine j_ald0 dX8_which_30 ?_
  refine j_getR (k := 2) (62) dX8_which_31 cX8_ok (Or.inl f8_9) rfl (by decide) (by decide) (by decide) rfl ?_
  refine j_ild1 dX8_which_34 ?_
  refine j_iald (n := j) dX8_which_35 rfl (by decide) rfl (by omega) (by decide) ?_
  refine j_top (y := nI (v 0 j)) ((h.kp hkp (by decide)).many (by omega)) ?_
  refine j_i2l dX8_which_36 ?_
  refine j_topL (y := lN (v 0 j)) (nI_l (by omega)) ?_
  refine j_ald0 dX8_which_37 ?_
  refine j_ild1 dX8_which_38 ?_
  refine j_ild2 dX8_which_39 ?_
  refine j_bipush (10) dX8_which_40 rfl ?_
  refine j_idiv dX8_which_42 (by decide) ?_
  refine j_top (y := nI c) (e1) ?_
  refine j_cV2 dX8_which_43 kX8_shows l8_283 rfl (by decide) rfl (Nat.le_of_ble_eq_true rfl) (Nat.le_of_ble_eq_true rfl) (by omega) (s_X8_shows (h.kp hkp (by decide)) hw hj (by omega)) ?_
  refine j_ild2 dX8_which_46 ?_
  refine j_bipush (10) dX8_which_47 rfl ?_
  refine j_irem dX8_which_49 (by decide) ?_
  refine j_top (y := nI k) (e2) ?_
  refine j_cS2 dX8_which_50 kX8_power zX8_power (Or.inl l8_287) (Nat.le_of_ble_eq_true rfl) (Nat.le_of_ble_eq_true rfl) (by omega) (s_X8_power (by omega)) ?_
  refine j_lmul dX8_which_53 ?_
  refine j_topL (y := lN (lkO v b j c k)) (lN_mul _ _) ?_
  refine j_ald0 dX8_which_54 ?_
  refine j_ild2 dX8_which_55 ?_
  refine j_bipush (10) dX8_which_56 rfl ?_
  refine j_idiv dX8_which_58 (by decide) ?_
  refine j_top (y := nI c) (e1) ?_
  refine j_ild2 dX8_which_59 ?_
  refine j_bipush (10) dX8_which_60 rfl ?_
  refine j_irem dX8_which_62 (by decide) ?_
  refine j_top (y := nI k) (e2) ?_
  refine j_cV2 dX8_which_63 kX8_allShow l8_296 rfl (by decide) rfl (Nat.le_of_ble_eq_true rfl) (Nat.le_of_ble_eq_true rfl) (by omega) (s_X8_allShow (h.kp hkp (by decide)) hw (by omega) (by omega)) ?_
  refine j_ild3 dX8_which_66 ?_
  refine j_cS3 dX8_which_67 kX8_asPart zX8_asPart (Or.inl l8_299) (Nat.le_of_ble_eq_true rfl) (Nat.le_of_ble_eq_true rfl) (by omega) (s_X8_asPart (by omega) (by omega) (prt_or hk.2.2)) ?_
  refine j_lret dX8_which_70 rfl ?_
  exact ⟨_, rfl, by rw [whV, cj, f1, f2], hkp⟩

set_option maxRecDepth 20000 in
theorem s_X8_which_bad {i x p : Int32} (h : TR n v S) (hk : ¬ wiOk n i x p) : Rt a mX8_which 5 [.ref (a 61), .int i, .int x, .int p] S (some (.long (-9223372036854775808))) S := by
  show J _ _ _ _ 0 [_, _, _, _] [] _
  refine j_ald0 dX8_which_0 ?_
  refine j_ild1 dX8_which_1 ?_
  refine j_cV1 dX8_which_2 kX8_isCard l8_182 rfl (by decide) rfl (Nat.le_of_ble_eq_true rfl) (Nat.le_of_ble_eq_true rfl) (by omega) (s_X8_isCard h.1 h.2.1) ?_
  refine j_ifeqB 22 dX8_which_5 (by decide) (fun c_5 => ?_) (fun c_5 => ?_)
  · refine j_ldc2_w (v := -9223372036854775808) dX8_which_22 q8_294 ?_
    refine j_lret dX8_which_25 rfl ?_
    exact ⟨rfl, rfl⟩
  refine j_ild2 dX8_which_8 ?_
  refine j_cS1 dX8_which_9 kX8_isShown zX8_isShown (Or.inl l8_303) (Nat.le_of_ble_eq_true rfl) (Nat.le_of_ble_eq_true rfl) (by omega) (s_X8_isShown) ?_
  refine j_ifeqB 22 dX8_which_12 (by decide) (fun c_12 => ?_) (fun c_12 => ?_)
  · refine j_ldc2_w (v := -9223372036854775808) dX8_which_22 q8_294 ?_
    refine j_lret dX8_which_25 rfl ?_
    exact ⟨rfl, rfl⟩
  refine j_ild3 dX8_which_15 ?_
  refine j_cS1 dX8_which_16 kX8_isPart zX8_isPart (Or.inl l8_291) (Nat.le_of_ble_eq_true rfl) (Nat.le_of_ble_eq_true rfl) (by omega) (s_X8_isPart) ?_
  refine j_ifneB 26 dX8_which_19 (by decide) (fun c_19 => ?_) (fun c_19 => ?_)
  · exact absurd ⟨c_5, c_12, c_19⟩ hk
  refine j_ldc2_w (v := -9223372036854775808) dX8_which_22 q8_294 ?_
  refine j_lret dX8_which_25 rfl ?_
  exact ⟨rfl, rfl⟩

end ShownF
