/-! shown, again, which: the faces -/
section ShownF
variable {a : Nat → Nat} {S : St} {n : Nat} {v : Nat → Nat → Nat} {b : Option (List Line)}

set_option maxRecDepth 20000 in
theorem s_X7_shown_ok {x p : Int32} (h : TC n v S) (hb : LawC b S) (hg : GoodB b) (hk : shOk2 x p) : Rql a mX7_shown 6 [.ref (a 0), .int x, .int p] S fun z S' => z = shnV v b n x.toNatClampNeg p ∧ Kp [4, 8] S S' := by
  show J _ _ _ _ 0 [_, _, _] [] _
  have hn8 := h.2.1
  have hB := h.2.2.2
  obtain ⟨c, hc6, rfl⟩ := in_nI (n := 6) (by decide) hk.1
  have cc : (nI c).toNatClampNeg = c := nI_clamp (by omega)
  have l1 := lkA_62 (b := b) (c := c) (k := 1) hB hn8 (by decide)
  have hs := h.sum hn8
  refine j_ild1 dX7_shown_0 ?_
  refine j_bipush (6) dX7_shown_1 rfl ?_
  refine j_cS2 dX7_shown_3 kX7_within zX7_within (Or.inl l7_72) (Nat.le_of_ble_eq_true rfl) (Nat.le_of_ble_eq_true rfl) (by omega) (s_X7_within) ?_
  refine j_ifeqB 17 dX7_shown_6 (by decide) (fun c_6 => absurd c_6 (not_not_intro hk.1)) (fun c_6 => ?_)
  refine j_ild2 dX7_shown_9 ?_
  refine j_iconst (2) dX7_shown_10 rfl ?_
  refine j_cS2 dX7_shown_11 kX7_within zX7_within (Or.inl l7_72) (Nat.le_of_ble_eq_true rfl) (Nat.le_of_ble_eq_true rfl) (by omega) (s_X7_within) ?_
  refine j_ifneB 21 dX7_shown_14 (by decide) (fun c_14 => ?_) (fun c_14 => absurd (hk.2) c_14)
  refine j_ald0 dX7_shown_21 ?_
  refine j_getR (k := 2) (3) dX7_shown_22 cX7_ok (Or.inl f7_28) rfl (by decide) (by decide) (by decide) rfl ?_
  refine j_ald0 dX7_shown_25 ?_
  refine j_getR (k := 0) (1) dX7_shown_26 cX7_ok (Or.inl f7_12) rfl (by decide) (by decide) (by decide) rfl ?_
  refine j_ald0 dX7_shown_29 ?_
  refine j_getR (k := 1) (2) dX7_shown_30 cX7_ok (Or.inl f7_21) rfl (by decide) (by decide) (by decide) rfl ?_
  refine j_qvV2 dX7_shown_33 kX5_weighAll l7_140 rfl (by decide) rfl (Nat.le_of_ble_eq_true rfl) (Nat.le_of_ble_eq_true rfl) (by omega) (s_X5_weighAll h hb hg) (fun S1 h1 => ?_)
  obtain ⟨hkp, hw⟩ := h1
  refine j_ald0 dX7_shown_36 ?_
  refine j_getR (k := 2) (3) dX7_shown_37 cX7_ok (Or.inl f7_28) rfl (by decide) (by decide) (by decide) rfl ?_
  refine j_ald0 dX7_shown_40 ?_
  refine j_getR (k := 0) (1) dX7_shown_41 cX7_ok (Or.inl f7_12) rfl (by decide) (by decide) (by decide) rfl ?_
  refine j_ild1 dX7_shown_44 ?_
  refine j_iconst (1) dX7_shown_45 rfl ?_
  refine j_cV3 dX7_shown_46 kX5_likely l7_144 rfl (by decide) rfl (Nat.le_of_ble_eq_true rfl) (Nat.le_of_ble_eq_true rfl) (by omega) (s_X5_likely (c := c) (k := 1) (h.kp hkp (by decide)) hw (by omega) (by decide)) ?_
  refine j_ldc2_w (v := 60) dX7_shown_49 q7_148 ?_
  refine j_topL (y := lN 60) (rfl) ?_
  refine j_ald0 dX7_shown_52 ?_
  refine j_getR (k := 0) (1) dX7_shown_53 cX7_ok (Or.inl f7_12) rfl (by decide) (by decide) (by decide) rfl ?_
  refine j_cV0 dX7_shown_56 kX6_inHat l7_120 rfl (by decide) rfl (Nat.le_of_ble_eq_true rfl) (Nat.le_of_ble_eq_true rfl) (by omega) (s_X6_inHat (h.kp hkp (by decide))) ?_
  refine j_i2l dX7_shown_59 ?_
  refine j_topL (y := lN (sumN (v 0) n)) (nI_l (by omega)) ?_
  refine j_lmul dX7_shown_60 ?_
  refine j_topL (y := lN (60 * sumN (v 0) n)) (lN_mul _ _) ?_
  refine j_ild2 dX7_shown_61 ?_
  refine j_cS3 dX7_shown_62 kX7_lowest zX7_lowest (Or.inl l7_150) (Nat.le_of_ble_eq_true rfl) (Nat.le_of_ble_eq_true rfl) (by omega) (s_X7_lowest (by omega) (by omega)) ?_
  refine j_lret dX7_shown_65 rfl ?_
  exact ⟨_, rfl, by rw [shnV, cc, hatN], hkp⟩

set_option maxRecDepth 20000 in
theorem s_X7_again_ok {x p : Int32} (h : TC n v S) (hb : LawC b S) (hg : GoodB b) (hk : ckOk x ∧ prt p) : Rql a mX7_again 6 [.ref (a 0), .int x, .int p] S fun z S' => z = agV v b n x p ∧ Kp [4, 8] S S' := by
  show J _ _ _ _ 0 [_, _, _, .null, .null] [] _
  have hn8 := h.2.1
  have hB := h.2.2.2
  obtain ⟨c, k, hc6, k1, k4, e1, e2, f1, f2⟩ := ck_nat hk.1
  have l1 := lkA_62 (b := b) (c := c) (k := k + 1) hB hn8 (by omega)
  have l2 := lkA_62 (b := b) (c := c) (k := k) hB hn8 (by omega)
  refine j_ild1 dX7_again_0 ?_
  refine j_cS1 dX7_again_1 kX7_mayBeTimes zX7_mayBeTimes (Or.inl l7_157) (Nat.le_of_ble_eq_true rfl) (Nat.le_of_ble_eq_true rfl) (by omega) (s_X7_mayBeTimes) ?_
  refine j_ifeqB 15 dX7_again_4 (by decide) (fun c_4 => absurd c_4 (not_not_intro hk.1)) (fun c_4 => ?_)
  refine j_ild2 dX7_again_7 ?_
  refine j_iconst (2) dX7_again_8 rfl ?_
  refine j_cS2 dX7_again_9 kX7_within zX7_within (Or.inl l7_72) (Nat.le_of_ble_eq_true rfl) (Nat.le_of_ble_eq_true rfl) (by omega) (s_X7_within) ?_
  refine j_ifneB 19 dX7_again_12 (by decide) (fun c_12 => ?_) (fun c_12 => absurd (hk.2) c_12)
  refine j_ald0 dX7_again_19 ?_
  refine j_getR (k := 2) (3) dX7_again_20 cX7_ok (Or.inl f7_28) rfl (by decide) (by decide) (by decide) rfl ?_
  refine j_ald0 dX7_again_23 ?_
  refine j_getR (k := 0) (1) dX7_again_24 cX7_ok (Or.inl f7_12) rfl (by decide) (by decide) (by decide) rfl ?_
  refine j_ald0 dX7_again_27 ?_
  refine j_getR (k := 1) (2) dX7_again_28 cX7_ok (Or.inl f7_21) rfl (by decide) (by decide) (by decide) rfl ?_
  refine j_qvV2 dX7_again_31 kX5_weighAll l7_140 rfl (by decide) rfl (Nat.le_of_ble_eq_true rfl) (Nat.le_of_ble_eq_true rfl) (by omega) (s_X5_weighAll h hb hg) (fun S1 h1 => ?_)
  obtain ⟨hkp, hw⟩ := h1
  refine j_ald0 dX7_again_34 ?_
  refine j_getR (k := 2) (3) dX7_again_35 cX7_ok (Or.inl f7_28) rfl (by decide) (by decide) (by decide) rfl ?_
  refine j_ald0 dX7_again_38 ?_
  refine j_getR (k := 0) (1) dX7_again_39 cX7_ok (Or.inl f7_12) rfl (by decide) (by decide) (by decide) rfl ?_
  refine j_ild1 dX7_again_42 ?_
  refine j_bipush (10) dX7_again_43 rfl ?_
  refine j_idiv dX7_again_45 (by decide) ?_
  refine j_top (y := nI c) (e1) ?_
  refine j_ild1 dX7_again_46 ?_
  refine j_bipush (10) dX7_again_47 rfl ?_
  refine j_irem dX7_again_49 (by decide) ?_
  refine j_top (y := nI k) (e2) ?_
  refine j_cV3 dX7_again_50 kX5_likely l7_144 rfl (by decide) rfl (Nat.le_of_ble_eq_true rfl) (Nat.le_of_ble_eq_true rfl) (by omega) (s_X5_likely (h.kp hkp (by decide)) hw (by omega) (by omega)) ?_
  refine j_lst3 dX7_again_53 rfl (by decide) ?_
  refine j_ald0 dX7_again_54 ?_
  refine j_getR (k := 2) (3) dX7_again_55 cX7_ok (Or.inl f7_28) rfl (by decide) (by decide) (by decide) rfl ?_
  refine j_ald0 dX7_again_58 ?_
  refine j_getR (k := 0) (1) dX7_again_59 cX7_ok (Or.inl f7_12) rfl (by decide) (by decide) (by decide) rfl ?_
  refine j_ild1 dX7_again_62 ?_
  refine j_bipush (10) dX7_again_63 rfl ?_
  refine j_idiv dX7_again_65 (by decide) ?_
  refine j_top (y := nI c) (e1) ?_
  refine j_ild1 dX7_again_66 ?_
  refine j_bipush (10) dX7_again_67 rfl ?_
  refine j_irem dX7_again_69 (by decide) ?_
  refine j_top (y := nI k) (e2) ?_
  refine j_iconst (1) dX7_again_70 rfl ?_
  refine j_iadd dX7_again_71 ?_
  refine j_top (y := nI (k + 1)) (nI_1 k) ?_
  refine j_cV3 dX7_again_72 kX5_likely l7_144 rfl (by decide) rfl (Nat.le_of_ble_eq_true rfl) (Nat.le_of_ble_eq_true rfl) (by omega) (s_X5_likely (h.kp hkp (by decide)) hw (by omega) (by omega)) ?_
  refine j_lld3 dX7_again_75 ?_
  refine j_ldc2_w (v := 60) dX7_again_76 q7_148 ?_
  refine j_topL (y := lN 60) (rfl) ?_
  refine j_lmul dX7_again_79 ?_
  refine j_topL (y := lN (lkA v b n c k * 60)) (lN_mul _ _) ?_
  refine j_ild2 dX7_again_80 ?_
  refine j_cS3 dX7_again_81 kX7_lowest zX7_lowest (Or.inl l7_150) (Nat.le_of_ble_eq_true rfl) (Nat.le_of_ble_eq_true rfl) (by omega) (s_X7_lowest (by omega) (by omega)) ?_
  refine j_lret dX7_again_84 rfl ?_
  exact ⟨_, rfl, by rw [agV, f1, f2], hkp⟩

abbrev wiOk (n : Nat) (i x p : Int32) : Prop := (0 ≤ i ∧ i < nI n) ∧ ckOk x ∧ prt p
set_option maxRecDepth 20000 in
theorem s_X7_which_ok {i x p : Int32} (h : TC n v S) (hb : LawC b S) (hg : GoodB b) (hk : wiOk n i x p) : Rql a mX7_which 6 [.ref (a 0), .int i, .int x, .int p] S fun z S' => z = whV v b n i x p ∧ Kp [4, 8] S S' := by
  show J _ _ _ _ 0 [_, _, _, _, .null, .null] [] _
  have hn8 := h.2.1
  have hB := h.2.2.2
  obtain ⟨c, k, hc6, k1, k4, e1, e2, f1, f2⟩ := ck_nat hk.2.1
  obtain ⟨j, hj, rfl⟩ := in_nI (n := n) (by omega) hk.1
  have cj : (nI j).toNatClampNeg = j := nI_clamp (by omega)
  have l2 := lkA_62 (b := b) (c := c) (k := k) hB hn8 (by omega)
  have v9 : v 0 j ≤ 9 := hB 0 (by decide) j (by omega)
  have l1 := lkO_le (v := v) (b := b) (i := j) (c := c) (k := k) v9 (by omega)
  refine j_ild1 dX7_which_0 ?_
  refine j_ald0 dX7_which_1 ?_
  refine j_getR (k := 0) (1) dX7_which_2 cX7_ok (Or.inl f7_12) rfl (by decide) (by decide) (by decide) rfl ?_
  refine j_getI (k := 1) dX7_which_5 cX6_ok (Or.inr ⟨_, f7_91⟩) rfl (by decide) (by decide) (by decide) ?_
  refine j_top (y := nI n) (h.1) ?_
  refine j_cS2 dX7_which_8 kX7_within zX7_within (Or.inl l7_72) (Nat.le_of_ble_eq_true rfl) (Nat.le_of_ble_eq_true rfl) (by omega) (s_X7_within) ?_
  refine j_ifeqB 29 dX7_which_11 (by decide) (fun c_11 => absurd c_11 (not_not_intro hk.1)) (fun c_11 => ?_)
  refine j_ild2 dX7_which_14 ?_
  refine j_cS1 dX7_which_15 kX7_mayBeTimes zX7_mayBeTimes (Or.inl l7_157) (Nat.le_of_ble_eq_true rfl) (Nat.le_of_ble_eq_true rfl) (by omega) (s_X7_mayBeTimes) ?_
  refine j_ifeqB 29 dX7_which_18 (by decide) (fun c_18 => absurd c_18 (not_not_intro hk.2.1)) (fun c_18 => ?_)
  refine j_ild3 dX7_which_21 ?_
  refine j_iconst (2) dX7_which_22 rfl ?_
  refine j_cS2 dX7_which_23 kX7_within zX7_within (Or.inl l7_72) (Nat.le_of_ble_eq_true rfl) (Nat.le_of_ble_eq_true rfl) (by omega) (s_X7_within) ?_
  refine j_ifneB 33 dX7_which_26 (by decide) (fun c_26 => ?_) (fun c_26 => absurd (hk.2.2) c_26)
  refine j_ald0 dX7_which_33 ?_
  refine j_getR (k := 2) (3) dX7_which_34 cX7_ok (Or.inl f7_28) rfl (by decide) (by decide) (by decide) rfl ?_
  refine j_ald0 dX7_which_37 ?_
  refine j_getR (k := 0) (1) dX7_which_38 cX7_ok (Or.inl f7_12) rfl (by decide) (by decide) (by decide) rfl ?_
  refine j_ald0 dX7_which_41 ?_
  refine j_getR (k := 1) (2) dX7_which_42 cX7_ok (Or.inl f7_21) rfl (by decide) (by decide) (by decide) rfl ?_
  refine j_qvV2 dX7_which_45 kX5_weighAll l7_140 rfl (by decide) rfl (Nat.le_of_ble_eq_true rfl) (Nat.le_of_ble_eq_true rfl) (by omega) (s_X5_weighAll h hb hg) (fun S1 h1 => ?_)
  obtain ⟨hkp, hw⟩ := h1
  refine j_ald0 dX7_which_48 ?_
  refine j_getR (k := 2) (3) dX7_which_49 cX7_ok (Or.inl f7_28) rfl (by decide) (by decide) (by decide) rfl ?_
  refine j_ald0 dX7_which_52 ?_
  refine j_getR (k := 0) (1) dX7_which_53 cX7_ok (Or.inl f7_12) rfl (by decide) (by decide) (by decide) rfl ?_
  refine j_ild1 dX7_which_56 ?_
  refine j_ild2 dX7_which_57 ?_
  refine j_bipush (10) dX7_which_58 rfl ?_
  refine j_idiv dX7_which_60 (by decide) ?_
  refine j_top (y := nI c) (e1) ?_
  refine j_ild2 dX7_which_61 ?_
  refine j_bipush (10) dX7_which_62 rfl ?_
  refine j_irem dX7_which_64 (by decide) ?_
  refine j_top (y := nI k) (e2) ?_
  refine j_cV4 dX7_which_65 kX5_likelyOf l7_160 rfl (by decide) rfl (Nat.le_of_ble_eq_true rfl) (Nat.le_of_ble_eq_true rfl) (by omega) (s_X5_likelyOf (h.kp hkp (by decide)) hw hj (by omega) (by omega)) ?_
  refine j_lst4 dX7_which_68 rfl (by decide) ?_
  refine j_lld4 dX7_which_70 ?_
  refine j_ald0 dX7_which_72 ?_
  refine j_getR (k := 2) (3) dX7_which_73 cX7_ok (Or.inl f7_28) rfl (by decide) (by decide) (by decide) rfl ?_
  refine j_ald0 dX7_which_76 ?_
  refine j_getR (k := 0) (1) dX7_which_77 cX7_ok (Or.inl f7_12) rfl (by decide) (by decide) (by decide) rfl ?_
  refine j_ild2 dX7_which_80 ?_
  refine j_bipush (10) dX7_which_81 rfl ?_
  refine j_idiv dX7_which_83 (by decide) ?_
  refine j_top (y := nI c) (e1) ?_
  refine j_ild2 dX7_which_84 ?_
  refine j_bipush (10) dX7_which_85 rfl ?_
  refine j_irem dX7_which_87 (by decide) ?_
  refine j_top (y := nI k) (e2) ?_
  refine j_cV3 dX7_which_88 kX5_likely l7_144 rfl (by decide) rfl (Nat.le_of_ble_eq_true rfl) (Nat.le_of_ble_eq_true rfl) (by omega) (s_X5_likely (h.kp hkp (by decide)) hw (by omega) (by omega)) ?_
  refine j_ild3 dX7_which_91 ?_
  refine j_cS3 dX7_which_92 kX7_lowest zX7_lowest (Or.inl l7_150) (Nat.le_of_ble_eq_true rfl) (Nat.le_of_ble_eq_true rfl) (by omega) (s_X7_lowest (by omega) (by omega)) ?_
  refine j_lret dX7_which_95 rfl ?_
  exact ⟨_, rfl, by rw [whV, cj, f1, f2], hkp⟩

end ShownF

