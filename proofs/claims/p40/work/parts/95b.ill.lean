/-! the law, from behind: the tests -/
section Ill
variable {a : Nat → Nat} {S : St} {n b Ls : Nat} {v : Nat → Nat → Nat} {bb : Option (List Line)} {xs : Nat → Int32}

set_option maxRecDepth 20000 in
theorem law_621 {g : GG} (hR : HR a g) (hN : 61 < NC a) (hl : xl a 61 = n) (hn7 : n ≤ 7) (hg : GoodB bb) (hE : HE g a b Ls xs) (hL : Ls ≤ 260) {S : St} (h : LW0 n v bb S) : ∀ (fu : Nat) (t : Nat), 4 - t < fu → (t ≤ 4) → J a mL_law 100 g 621 [.ref b, .ref (a 0), .ref (a 61), .int (bi (hatN v n = 0)), .null, .null, .null, .null, .int (nI t), .null, .null, .null, .null, .null, .null, .null, .null, .null] [] S := by
  intro fu
  induction fu with
  | zero => intro t hk; exact absurd hk (Nat.not_lt_zero _)
  | succ fu ih =>
    intro t hk ht
    refine j_ild8 dL_law_621 ?_
    refine j_iconst (4) dL_law_623 rfl ?_
    refine j_icmpge 832 dL_law_624 (by decide) (fun c_624 => ?_) (fun c_624 => ?_)
    · have q_624 : t = 4 := by have := (nI_leI (a := 4) (b := t) (by omega) (by omega)).mp c_624; omega
      subst q_624
      refine j_cut [_, _, _, _] [_, _, _, _, _, _, _, _, _, _, _, _, _, _] ?_
      exact law_832 hR hN hl hn7 hg hE hL h
    have q_624 : t < 4 := Nat.not_le.mp (fun z => c_624 ((nI_leI (a := 4) (b := t) (by omega) (by omega)).mpr z))
    have r99 : v 9 0 ≤ 99 := h.1.2.2.2 9 (by decide) 0 (by decide)
    have i12 : v 5 t ≤ 12 := h.1.2.2.2 5 (by decide) t (by omega)
    have w12 : v 6 t ≤ 12 := h.1.2.2.2 6 (by decide) t (by omega)
    have b1 : v 9 0 * v 5 t ≤ 99 * 12 := Nat.mul_le_mul r99 i12
    have b2 : v 9 0 * (12 - v 5 t) ≤ 99 * 12 := Nat.mul_le_mul r99 (by omega)
    have b3 : (100 - v 9 0) * (12 - v 6 t) ≤ 100 * 12 := Nat.mul_le_mul (by omega) (by omega)
    have b4 : (100 - v 9 0) * v 6 t ≤ 100 * 12 := Nat.mul_le_mul (by omega) w12
    have d0 := dq_in (A := v 9 0) (B := v 9 0 + (100 - v 9 0)) (by omega) (by omega) (by omega)
    have d1 := dq_in (A := v 9 0 * v 5 t) (B := v 9 0 * v 5 t + (100 - v 9 0) * (12 - v 6 t)) (by omega) (by omega) (by omega)
    have d2 := dq_in (A := v 9 0 * (12 - v 5 t)) (B := v 9 0 * (12 - v 5 t) + (100 - v 9 0) * v 6 t) (by omega) (by omega) (by omega)
    have hle : 12 ≤ v 5 t + v 6 t → 0 < v 5 t → zv (dq (v 9 0) (v 9 0 + (100 - v 9 0))) ≤ zv (dq (v 9 0 * v 5 t) (v 9 0 * v 5 t + (100 - v 9 0) * (12 - v 6 t))) + 2 * uu := fun q q0 => il_le r99 i12 w12 q q0
    have hge : v 5 t + v 6 t ≤ 12 → zv (dq (v 9 0 * v 5 t) (v 9 0 * v 5 t + (100 - v 9 0) * (12 - v 6 t))) ≤ zv (dq (v 9 0) (v 9 0 + (100 - v 9 0))) + 2 * uu := fun q => il_ge r99 i12 w12 q
    have e6 : 12 - (12 - v 6 t) = v 6 t := by omega
    have kle : v 5 t + v 6 t ≤ 12 → v 5 t < 12 → zv (dq (v 9 0) (v 9 0 + (100 - v 9 0))) ≤ zv (dq (v 9 0 * (12 - v 5 t)) (v 9 0 * (12 - v 5 t) + (100 - v 9 0) * v 6 t)) + 2 * uu := fun q q0 => by
      have := il_le (r := v 9 0) (i := 12 - v 5 t) (w := 12 - v 6 t) r99 (by omega) (by omega) (by omega) (by omega)
      rw [e6] at this
      exact this
    have kge : 12 ≤ v 5 t + v 6 t → zv (dq (v 9 0 * (12 - v 5 t)) (v 9 0 * (12 - v 5 t) + (100 - v 9 0) * v 6 t)) ≤ zv (dq (v 9 0) (v 9 0 + (100 - v 9 0))) + 2 * uu := fun q => by
      have := il_ge (r := v 9 0) (i := 12 - v 5 t) (w := 12 - v 6 t) r99 (by omega) (by omega) (by omega)
      rw [e6] at this
      exact this
    refine j_ald1 dL_law_627 ?_
    refine j_iconst (0) dL_law_628 rfl ?_
    refine j_iconst (0) dL_law_629 rfl ?_
    refine j_cV2 dL_law_630 kX7_ill lL_168 rfl (by decide) rfl (Nat.le_of_ble_eq_true rfl) (Nat.le_of_ble_eq_true rfl) (by omega) (q_ill0 h (Or.inl rfl)) ?_
    refine j_ald1 dL_law_633 ?_
    refine j_iconst (0) dL_law_634 rfl ?_
    refine j_iconst (1) dL_law_635 rfl ?_
    refine j_cV2 dL_law_636 kX7_ill lL_168 rfl (by decide) rfl (Nat.le_of_ble_eq_true rfl) (Nat.le_of_ble_eq_true rfl) (by omega) (q_ill0 h (Or.inr rfl)) ?_
    refine j_cS2 dL_law_639 kL_of zL_of (Or.inl lL_134) (Nat.le_of_ble_eq_true rfl) (Nat.le_of_ble_eq_true rfl) (by omega) (s_L_of (A := v 9 0) (B := v 9 0 + (100 - v 9 0)) d0.1) ?_
    refine j_dst9 dL_law_642 rfl (by decide) ?_
    refine j_ald1 dL_law_644 ?_
    refine j_bipush (16) dL_law_645 rfl ?_
    refine j_iconst (1) dL_law_647 rfl ?_
    refine j_ild8 dL_law_648 ?_
    refine j_ishl dL_law_650 ?_
    refine j_top (y := nI (2 ^ t)) (sh1 (t := t) (by omega)) ?_
    refine j_imul dL_law_651 ?_
    refine j_top (y := nI (16 * 2 ^ t)) (pk_mul 16 (2 ^ t)) ?_
    refine j_iconst (1) dL_law_652 rfl ?_
    refine j_ild8 dL_law_653 ?_
    refine j_ishl dL_law_655 ?_
    refine j_top (y := nI (2 ^ t)) (sh1 (t := t) (by omega)) ?_
    refine j_iadd dL_law_656 ?_
    refine j_top (y := nI (17 * 2 ^ t)) (n17 t) ?_
    refine j_iconst (0) dL_law_657 rfl ?_
    refine j_cV2 dL_law_658 kX7_ill lL_168 rfl (by decide) rfl (Nat.le_of_ble_eq_true rfl) (Nat.le_of_ble_eq_true rfl) (by omega) (q_ills h (t := t) q_624 (Or.inl rfl)) ?_
    refine j_ald1 dL_law_661 ?_
    refine j_bipush (16) dL_law_662 rfl ?_
    refine j_iconst (1) dL_law_664 rfl ?_
    refine j_ild8 dL_law_665 ?_
    refine j_ishl dL_law_667 ?_
    refine j_top (y := nI (2 ^ t)) (sh1 (t := t) (by omega)) ?_
    refine j_imul dL_law_668 ?_
    refine j_top (y := nI (16 * 2 ^ t)) (pk_mul 16 (2 ^ t)) ?_
    refine j_iconst (1) dL_law_669 rfl ?_
    refine j_ild8 dL_law_670 ?_
    refine j_ishl dL_law_672 ?_
    refine j_top (y := nI (2 ^ t)) (sh1 (t := t) (by omega)) ?_
    refine j_iadd dL_law_673 ?_
    refine j_top (y := nI (17 * 2 ^ t)) (n17 t) ?_
    refine j_iconst (1) dL_law_674 rfl ?_
    refine j_cV2 dL_law_675 kX7_ill lL_168 rfl (by decide) rfl (Nat.le_of_ble_eq_true rfl) (Nat.le_of_ble_eq_true rfl) (by omega) (q_ills h (t := t) q_624 (Or.inr rfl)) ?_
    refine j_cS2 dL_law_678 kL_of zL_of (Or.inl lL_134) (Nat.le_of_ble_eq_true rfl) (Nat.le_of_ble_eq_true rfl) (by omega) (s_L_of (A := v 9 0 * v 5 t) (B := v 9 0 * v 5 t + (100 - v 9 0) * (12 - v 6 t)) d1.1) ?_
    refine j_dst11 dL_law_681 rfl (by decide) ?_
    refine j_ald1 dL_law_683 ?_
    refine j_iconst (1) dL_law_684 rfl ?_
    refine j_ild8 dL_law_685 ?_
    refine j_ishl dL_law_687 ?_
    refine j_top (y := nI (2 ^ t)) (sh1 (t := t) (by omega)) ?_
    refine j_iconst (0) dL_law_688 rfl ?_
    refine j_cV2 dL_law_689 kX7_ill lL_168 rfl (by decide) rfl (Nat.le_of_ble_eq_true rfl) (Nat.le_of_ble_eq_true rfl) (by omega) (q_illw h (t := t) q_624 (Or.inl rfl)) ?_
    refine j_ald1 dL_law_692 ?_
    refine j_iconst (1) dL_law_693 rfl ?_
    refine j_ild8 dL_law_694 ?_
    refine j_ishl dL_law_696 ?_
    refine j_top (y := nI (2 ^ t)) (sh1 (t := t) (by omega)) ?_
    refine j_iconst (1) dL_law_697 rfl ?_
    refine j_cV2 dL_law_698 kX7_ill lL_168 rfl (by decide) rfl (Nat.le_of_ble_eq_true rfl) (Nat.le_of_ble_eq_true rfl) (by omega) (q_illw h (t := t) q_624 (Or.inr rfl)) ?_
    refine j_cS2 dL_law_701 kL_of zL_of (Or.inl lL_134) (Nat.le_of_ble_eq_true rfl) (Nat.le_of_ble_eq_true rfl) (by omega) (s_L_of (A := v 9 0 * (12 - v 5 t)) (B := v 9 0 * (12 - v 5 t) + (100 - v 9 0) * v 6 t) d2.1) ?_
    generalize dq (v 9 0) (v 9 0 + (100 - v 9 0)) = y0 at *
    generalize dq (v 9 0 * v 5 t) (v 9 0 * v 5 t + (100 - v 9 0) * (12 - v 6 t)) = y1 at *
    generalize dq (v 9 0 * (12 - v 5 t)) (v 9 0 * (12 - v 5 t) + (100 - v 9 0) * v 6 t) = y2 at *
    have hu := uu_pos
    have ho : oneU ≤ 512 * oneU := by have := d0.2.1; have := d0.2.2.1; omega
    have sb : DF (FP.dsub y0 (4472406533629990549 : UInt64)) ∧ zv (FP.dsub y0 (4472406533629990549 : UInt64)) ≤ zv y0 - 4397 * uu := subc d0.1 d0.2.1 (by omega)
    have ab : DF (FP.dadd y0 (4472406533629990549 : UInt64)) ∧ zv y0 + 4397 * uu ≤ zv (FP.dadd y0 (4472406533629990549 : UInt64)) := addc d0.1 d0.2.1 (by omega)
    have c9l := c9_DF
    refine j_dst13 dL_law_704 rfl (by decide) ?_
    refine j_ald1 dL_law_706 ?_
    refine j_ild8 dL_law_707 ?_
    refine j_iconst (5) dL_law_709 rfl ?_
    refine j_cV2 dL_law_710 kX7_of lL_171 rfl (by decide) rfl (Nat.le_of_ble_eq_true rfl) (Nat.le_of_ble_eq_true rfl) (by omega) (q_of h (i := t) (w := 5) (by decide) (by rw [num_hi (by decide)]; show t < 4; omega)) ?_
    refine j_ist15 dL_law_713 rfl (by decide) ?_
    refine j_ald1 dL_law_715 ?_
    refine j_ild8 dL_law_716 ?_
    refine j_bipush (6) dL_law_718 rfl ?_
    refine j_cV2 dL_law_720 kX7_of lL_171 rfl (by decide) rfl (Nat.le_of_ble_eq_true rfl) (Nat.le_of_ble_eq_true rfl) (by omega) (q_of h (i := t) (w := 6) (by decide) (by rw [num_hi (by decide)]; show t < 4; omega)) ?_
    refine j_ist16 dL_law_723 rfl (by decide) ?_
    refine j_ild15 dL_law_725 ?_
    refine j_ild16 dL_law_727 ?_
    refine j_iadd dL_law_729 ?_
    refine j_top (y := nI (v 5 t + v 6 t)) (nI_add _ _) ?_
    refine j_bipush (12) dL_law_730 rfl ?_
    refine j_icmple 772 dL_law_732 (by decide) (fun c_732 => ?_) (fun c_732 => ?_)
    · refine j_ild15 dL_law_772 ?_
      refine j_ild16 dL_law_774 ?_
      refine j_iadd dL_law_776 ?_
      refine j_top (y := nI (v 5 t + v 6 t)) (nI_add _ _) ?_
      refine j_bipush (12) dL_law_777 rfl ?_
      refine j_icmpne 826 dL_law_779 (by decide) (fun c_779 => ?_) (fun c_779 => ?_)
      · refine j_iinc8 (nI (t + 1)) dL_law_826 (nI_1 t) rfl (by decide) ?_
        refine j_goto 621 dL_law_829 (by decide) ?_
        refine j_cut [_, _, _, _, _, _, _, _, _] [_, _, _, _, _, _, _, _, _] ?_
        exact ih (t + 1) (by omega) (by omega)
      have q_779 : v 5 t + v 6 t = 12 := (nI_eq (a := v 5 t + v 6 t) (b := 12) (by omega) (by decide)).mp (Classical.not_not.mp c_779)
      refine j_ild15 dL_law_782 ?_
      refine j_ifle 826 dL_law_784 (by decide) (fun c_784 => ?_) (fun c_784 => ?_)
      · refine j_iinc8 (nI (t + 1)) dL_law_826 (nI_1 t) rfl (by decide) ?_
        refine j_goto 621 dL_law_829 (by decide) ?_
        refine j_cut [_, _, _, _, _, _, _, _, _] [_, _, _, _, _, _, _, _, _] ?_
        exact ih (t + 1) (by omega) (by omega)
      have q_784 : 0 < v 5 t := Nat.pos_of_ne_zero (fun z => c_784 (by rw [z]; decide))
      refine j_ild15 dL_law_787 ?_
      refine j_bipush (12) dL_law_789 rfl ?_
      refine j_icmpge 826 dL_law_791 (by decide) (fun c_791 => ?_) (fun c_791 => ?_)
      · refine j_iinc8 (nI (t + 1)) dL_law_826 (nI_1 t) rfl (by decide) ?_
        refine j_goto 621 dL_law_829 (by decide) ?_
        refine j_cut [_, _, _, _, _, _, _, _, _] [_, _, _, _, _, _, _, _, _] ?_
        exact ih (t + 1) (by omega) (by omega)
      have q_791 : v 5 t < 12 := Nat.not_le.mp (fun z => c_791 ((nI_leI (a := 12) (b := v 5 t) (by decide) (by omega)).mpr z))
      have s1 := subd d1.1 d0.1 d1.2.1 d1.2.2.1 d0.2.1 d0.2.2.1 (hge (by omega)) (hle (by omega) q_784)
      have s2 := subd d2.1 d0.1 d2.2.1 d2.2.2.1 d0.2.1 d0.2.2.1 (kge (by omega)) (kle (by omega) q_791)
      refine j_dld11 dL_law_794 ?_
      refine j_dld9 dL_law_796 ?_
      refine j_dsub dL_law_798 (s1.1) ?_
      refine j_absD (s1.1) dL_law_799 lL_109 (by decide) (by omega) ?_
      refine j_ldc2_wD (v := 4472406533629990549) dL_law_802 qL_113 ?_
      refine j_dcmp dL_law_805 ((abs_DF s1.1).1) (c9l.1) ?_
      refine j_ifgt 824 dL_law_806 (by decide) (fun c_806 => absurd c_806 (fun z => absurd (cz_gt.mp z) (by have := s1.2; have := c9l.2.1; show ¬ (zv c9 < _); omega))) (fun c_806 => ?_)
      refine j_dld13 dL_law_809 ?_
      refine j_dld9 dL_law_811 ?_
      refine j_dsub dL_law_813 (s2.1) ?_
      refine j_absD (s2.1) dL_law_814 lL_109 (by decide) (by omega) ?_
      refine j_ldc2_wD (v := 4472406533629990549) dL_law_817 qL_113 ?_
      refine j_dcmp dL_law_820 ((abs_DF s2.1).1) (c9l.1) ?_
      refine j_ifle 826 dL_law_821 (by decide) (fun c_821 => ?_) (fun c_821 => absurd (Int32.not_lt.mp (fun z => absurd (cz_gt.mp z) (by have := s2.2; have := c9l.2.1; show ¬ (zv c9 < _); omega))) c_821)
      refine j_iinc8 (nI (t + 1)) dL_law_826 (nI_1 t) rfl (by decide) ?_
      refine j_goto 621 dL_law_829 (by decide) ?_
      refine j_cut [_, _, _, _, _, _, _, _, _] [_, _, _, _, _, _, _, _, _] ?_
      exact ih (t + 1) (by omega) (by omega)
    have q_732 : 12 < v 5 t + v 6 t := Nat.not_le.mp (fun z => c_732 ((nI_leI (a := v 5 t + v 6 t) (b := 12) (by omega) (by decide)).mpr z))
    refine j_dld11 dL_law_735 ?_
    refine j_dld9 dL_law_737 ?_
    refine j_ldc2_wD (v := 4472406533629990549) dL_law_739 qL_113 ?_
    refine j_dsub dL_law_742 (sb.1) ?_
    refine j_dcmp dL_law_743 (d1.1) (sb.1) ?_
    refine j_ifge 758 dL_law_744 (by decide) (fun c_744 => ?_) (fun c_744 => absurd (Int32.not_lt.mp (fun z => absurd (cz_lt.mp z) (by have := hle (by omega) (by omega); have := sb.2; omega))) c_744)
    refine j_dld13 dL_law_758 ?_
    refine j_dld9 dL_law_760 ?_
    refine j_ldc2_wD (v := 4472406533629990549) dL_law_762 qL_113 ?_
    refine j_dadd dL_law_765 (ab.1) ?_
    refine j_dcmp dL_law_766 (d2.1) (ab.1) ?_
    refine j_ifle 772 dL_law_767 (by decide) (fun c_767 => ?_) (fun c_767 => absurd (Int32.not_lt.mp (fun z => absurd (cz_gt.mp z) (by have := kge (by omega); have := ab.2; omega))) c_767)
    refine j_ild15 dL_law_772 ?_
    refine j_ild16 dL_law_774 ?_
    refine j_iadd dL_law_776 ?_
    refine j_top (y := nI (v 5 t + v 6 t)) (nI_add _ _) ?_
    refine j_bipush (12) dL_law_777 rfl ?_
    refine j_icmpne 826 dL_law_779 (by decide) (fun c_779 => ?_) (fun c_779 => ?_)
    · refine j_iinc8 (nI (t + 1)) dL_law_826 (nI_1 t) rfl (by decide) ?_
      refine j_goto 621 dL_law_829 (by decide) ?_
      refine j_cut [_, _, _, _, _, _, _, _, _] [_, _, _, _, _, _, _, _, _] ?_
      exact ih (t + 1) (by omega) (by omega)
    have q_779 : v 5 t + v 6 t = 12 := (nI_eq (a := v 5 t + v 6 t) (b := 12) (by omega) (by decide)).mp (Classical.not_not.mp c_779)
    refine j_ild15 dL_law_782 ?_
    refine j_ifle 826 dL_law_784 (by decide) (fun c_784 => ?_) (fun c_784 => ?_)
    · refine j_iinc8 (nI (t + 1)) dL_law_826 (nI_1 t) rfl (by decide) ?_
      refine j_goto 621 dL_law_829 (by decide) ?_
      refine j_cut [_, _, _, _, _, _, _, _, _] [_, _, _, _, _, _, _, _, _] ?_
      exact ih (t + 1) (by omega) (by omega)
    have q_784 : 0 < v 5 t := Nat.pos_of_ne_zero (fun z => c_784 (by rw [z]; decide))
    refine j_ild15 dL_law_787 ?_
    refine j_bipush (12) dL_law_789 rfl ?_
    refine j_icmpge 826 dL_law_791 (by decide) (fun c_791 => ?_) (fun c_791 => ?_)
    · refine j_iinc8 (nI (t + 1)) dL_law_826 (nI_1 t) rfl (by decide) ?_
      refine j_goto 621 dL_law_829 (by decide) ?_
      refine j_cut [_, _, _, _, _, _, _, _, _] [_, _, _, _, _, _, _, _, _] ?_
      exact ih (t + 1) (by omega) (by omega)
    have q_791 : v 5 t < 12 := Nat.not_le.mp (fun z => c_791 ((nI_leI (a := 12) (b := v 5 t) (by decide) (by omega)).mpr z))
    have s1 := subd d1.1 d0.1 d1.2.1 d1.2.2.1 d0.2.1 d0.2.2.1 (hge (by omega)) (hle (by omega) q_784)
    have s2 := subd d2.1 d0.1 d2.2.1 d2.2.2.1 d0.2.1 d0.2.2.1 (kge (by omega)) (kle (by omega) q_791)
    refine j_dld11 dL_law_794 ?_
    refine j_dld9 dL_law_796 ?_
    refine j_dsub dL_law_798 (s1.1) ?_
    refine j_absD (s1.1) dL_law_799 lL_109 (by decide) (by omega) ?_
    refine j_ldc2_wD (v := 4472406533629990549) dL_law_802 qL_113 ?_
    refine j_dcmp dL_law_805 ((abs_DF s1.1).1) (c9l.1) ?_
    refine j_ifgt 824 dL_law_806 (by decide) (fun c_806 => absurd c_806 (fun z => absurd (cz_gt.mp z) (by have := s1.2; have := c9l.2.1; show ¬ (zv c9 < _); omega))) (fun c_806 => ?_)
    refine j_dld13 dL_law_809 ?_
    refine j_dld9 dL_law_811 ?_
    refine j_dsub dL_law_813 (s2.1) ?_
    refine j_absD (s2.1) dL_law_814 lL_109 (by decide) (by omega) ?_
    refine j_ldc2_wD (v := 4472406533629990549) dL_law_817 qL_113 ?_
    refine j_dcmp dL_law_820 ((abs_DF s2.1).1) (c9l.1) ?_
    refine j_ifle 826 dL_law_821 (by decide) (fun c_821 => ?_) (fun c_821 => absurd (Int32.not_lt.mp (fun z => absurd (cz_gt.mp z) (by have := s2.2; have := c9l.2.1; show ¬ (zv c9 < _); omega))) c_821)
    refine j_iinc8 (nI (t + 1)) dL_law_826 (nI_1 t) rfl (by decide) ?_
    refine j_goto 621 dL_law_829 (by decide) ?_
    refine j_cut [_, _, _, _, _, _, _, _, _] [_, _, _, _, _, _, _, _, _] ?_
    exact ih (t + 1) (by omega) (by omega)

theorem law_618 {g : GG} (hR : HR a g) (hN : 61 < NC a) (hl : xl a 61 = n) (hn7 : n ≤ 7) (hg : GoodB bb) (hE : HE g a b Ls xs) (hL : Ls ≤ 260) {S : St} (h : LW0 n v bb S) : J a mL_law 100 g 618 [.ref b, .ref (a 0), .ref (a 61), .int (bi (hatN v n = 0)), .null, .null, .null, .null, .null, .null, .null, .null, .null, .null, .null, .null, .null, .null] [] S := by
  refine j_iconst (0) dL_law_618 rfl ?_
  refine j_ist8 dL_law_619 rfl (by decide) ?_
  exact law_621 hR hN hl hn7 hg hE hL h 5 0 (by decide) (by decide)
end Ill
