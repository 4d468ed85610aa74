/-! weights: both sides -/
section Weigh
variable {a : Nat → Nat} {S : St} {n : Nat} {v : Nat → Nat → Nat} {b : Option (List Line)}
theorem WR_step {S1 S5 : St} {i : Nat} (h : WRq v b i S1) (h0 : S5.1 86 (2 * i) = nI (wtN v b i 0)) (h1 : S5.1 86 (2 * i + 1) = nI (wtN v b i 1)) (ho : ∀ k, k < 2 * i → S5.1 86 k = S1.1 86 k) : WRq v b (i + 1) S5 := fun j hj => by
  by_cases c : j = i
  · subst c; exact ⟨h0, h1⟩
  · rw [ho _ (by omega), ho _ (by omega)]; exact h j (by omega)
theorem K18 {rs : List Nat} {S S1 : St} (h : Kp [14] S S1) (k : Nat) : S1.1 86 k = S.1 86 k := h.i (show rg 86 k ∉ [14] from by show 18 ∉ [14]; decide)

set_option maxRecDepth 20000 in
theorem lp_X8_findWeights (h : TR n v S) (hb : LawR b S) (hg : GoodB b) (hn8 : n ≤ 8) : ∀ (fu : Nat) (i : Nat) (S1 : St), n - i < fu → (i ≤ n) → (Kp [14, 18] S S1) → (WRq v b i S1) → J a mX8_findWeights 4 (gm a fun r S' => r = none ∧ Kp [14, 18] S S' ∧ WRq v b n S') 2 [.ref (a 61), .int (nI i)] [] S1 := by
  intro fu
  induction fu with
  | zero => intro i S1 hk; exact absurd hk (Nat.not_lt_zero _)
  | succ fu ih =>
    intro i S1 hk hi hkp hw
    refine j_ild1 dX8_findWeights_2 ?_
    refine j_ald0 dX8_findWeights_3 ?_
    refine j_getI (k := 1) dX8_findWeights_4 cX8_ok (Or.inl f8_145) rfl (by decide) (by decide) (by decide) ?_
    refine j_top (y := nI n) ((h.kp hkp (by decide)).1) ?_
    refine j_icmpge 91 dX8_findWeights_7 (by decide) (fun c_7 => ?_) (fun c_7 => ?_)
    · have q_7 : i = n := by have := (nI_leI (a := n) (b := i) (by omega) (by omega)).mp c_7; omega
      subst q_7
      refine j_vret dX8_findWeights_91 rfl ?_
      exact ⟨rfl, hkp, hw⟩
    have q_7 : i < n := Nat.not_le.mp (fun z => c_7 ((nI_leI (a := n) (b := i) (by omega) (by omega)).mpr z))
    have o0 := ownN_le v b i 0
    have o1 := ownN_le v b i 1
    refine j_ald0 dX8_findWeights_10 ?_
    refine j_getR (k := 37) (86) dX8_findWeights_11 cX8_ok (Or.inl f8_96) rfl (by decide) (by decide) (by decide) rfl ?_
    refine j_iconst (2) dX8_findWeights_14 rfl ?_
    refine j_ild1 dX8_findWeights_15 ?_
    refine j_imul dX8_findWeights_16 ?_
    refine j_top (y := nI (2 * i)) (by exact pk_mul 2 i) ?_
    refine j_ald0 dX8_findWeights_17 ?_
    refine j_ild1 dX8_findWeights_18 ?_
    refine j_iconst (0) dX8_findWeights_19 rfl ?_
    refine j_qiV2 dX8_findWeights_20 kX8_ownWeight l8_272 rfl (by decide) rfl (Nat.le_of_ble_eq_true rfl) (Nat.le_of_ble_eq_true rfl) (by omega) (s_X8_ownWeight (i := i) (s := 0) (h.kp hkp (by decide)) (hb.kp hkp (by decide)) hg (by omega) (by decide)) (fun y S2 h2 => ?_)
    obtain ⟨rfl, hk2⟩ := h2
    have hkp3 : Kp [14, 18] S (uI S2 86 (2 * i) (nI (ownN v b i 0))) := Kp_uI (hkp.tr (hk2.wk (by simp))) (by show 18 ∈ [14, 18]; decide)
    refine j_iast (n := (2 * i)) dX8_findWeights_23 rfl (by decide) rfl (by omega) (by decide) ?_
    refine j_ald0 dX8_findWeights_24 ?_
    refine j_getR (k := 37) (86) dX8_findWeights_25 cX8_ok (Or.inl f8_96) rfl (by decide) (by decide) (by decide) rfl ?_
    refine j_iconst (2) dX8_findWeights_28 rfl ?_
    refine j_ild1 dX8_findWeights_29 ?_
    refine j_imul dX8_findWeights_30 ?_
    refine j_top (y := nI (2 * i)) (by exact pk_mul 2 i) ?_
    refine j_iconst (1) dX8_findWeights_31 rfl ?_
    refine j_iadd dX8_findWeights_32 ?_
    refine j_top (y := nI (2 * i + 1)) (nI_1 _) ?_
    refine j_ald0 dX8_findWeights_33 ?_
    refine j_ild1 dX8_findWeights_34 ?_
    refine j_iconst (1) dX8_findWeights_35 rfl ?_
    refine j_qiV2 dX8_findWeights_36 kX8_ownWeight l8_272 rfl (by decide) rfl (Nat.le_of_ble_eq_true rfl) (Nat.le_of_ble_eq_true rfl) (by omega) (s_X8_ownWeight (i := i) (s := 1) (h.kp hkp3 (by decide)) (hb.kp hkp3 (by decide)) hg (by omega) (by decide)) (fun z S4 h4 => ?_)
    obtain ⟨rfl, hk4⟩ := h4
    have e4 := K18 (rs := []) hk4
    have e2 := K18 (rs := []) hk2
    have hkp5 : Kp [14, 18] S (uI S4 86 (2 * i + 1) (nI (ownN v b i 1))) := Kp_uI (hkp3.tr (hk4.wk (by simp))) (by show 18 ∈ [14, 18]; decide)
    have v0 : (uI S4 86 (2 * i + 1) (nI (ownN v b i 1))).1 86 (2 * i) = nI (ownN v b i 0) := by rw [uI_at, if_neg (by omega), e4, uI_at, if_pos ⟨rfl, rfl⟩]
    have v1 : (uI S4 86 (2 * i + 1) (nI (ownN v b i 1))).1 86 (2 * i + 1) = nI (ownN v b i 1) := by rw [uI_at, if_pos ⟨rfl, rfl⟩]
    have vo : ∀ k, k < 2 * i → (uI S4 86 (2 * i + 1) (nI (ownN v b i 1))).1 86 k = S1.1 86 k := fun k hk => by rw [uI_at, if_neg (by omega), e4, uI_at, if_neg (by omega), e2]
    refine j_iast (n := (2 * i + 1)) dX8_findWeights_39 rfl (by decide) rfl (by omega) (by decide) ?_
    generalize uI S4 86 (2 * i + 1) (nI (ownN v b i 1)) = S5 at *
    refine j_ald0 dX8_findWeights_40 ?_
    refine j_getR (k := 37) (86) dX8_findWeights_41 cX8_ok (Or.inl f8_96) rfl (by decide) (by decide) (by decide) rfl ?_
    refine j_iconst (2) dX8_findWeights_44 rfl ?_
    refine j_ild1 dX8_findWeights_45 ?_
    refine j_imul dX8_findWeights_46 ?_
    refine j_top (y := nI (2 * i)) (by exact pk_mul 2 i) ?_
    refine j_iald (n := (2 * i)) dX8_findWeights_47 rfl (by decide) rfl (by omega) (by decide) ?_
    refine j_top v0 ?_
    refine j_ald0 dX8_findWeights_48 ?_
    refine j_getR (k := 37) (86) dX8_findWeights_49 cX8_ok (Or.inl f8_96) rfl (by decide) (by decide) (by decide) rfl ?_
    refine j_iconst (2) dX8_findWeights_52 rfl ?_
    refine j_ild1 dX8_findWeights_53 ?_
    refine j_imul dX8_findWeights_54 ?_
    refine j_top (y := nI (2 * i)) (by exact pk_mul 2 i) ?_
    refine j_iconst (1) dX8_findWeights_55 rfl ?_
    refine j_iadd dX8_findWeights_56 ?_
    refine j_top (y := nI (2 * i + 1)) (nI_1 _) ?_
    refine j_iald (n := (2 * i + 1)) dX8_findWeights_57 rfl (by decide) rfl (by omega) (by decide) ?_
    refine j_top v1 ?_
    refine j_iadd dX8_findWeights_58 ?_
    refine j_top (y := nI (ownN v b i 0 + ownN v b i 1)) (nI_add _ _) ?_
    refine j_ifle 65 dX8_findWeights_59 (by decide) (fun c_59 => ?_) (fun c_59 => ?_)
    · have q_59 : ownN v b i 0 + ownN v b i 1 = 0 := by
        have := (nI_leI (a := ownN v b i 0 + ownN v b i 1) (b := 0) (by omega) (by decide)).mp c_59
        omega
      refine j_ald0 dX8_findWeights_65 ?_
      refine j_getR (k := 37) (86) dX8_findWeights_66 cX8_ok (Or.inl f8_96) rfl (by decide) (by decide) (by decide) rfl ?_
      refine j_iconst (2) dX8_findWeights_69 rfl ?_
      refine j_ild1 dX8_findWeights_70 ?_
      refine j_imul dX8_findWeights_71 ?_
      refine j_top (y := nI (2 * i)) (by exact pk_mul 2 i) ?_
      refine j_iconst (1) dX8_findWeights_72 rfl ?_
      refine j_iast (n := (2 * i)) dX8_findWeights_73 rfl (by decide) rfl (by omega) (by decide) ?_
      refine j_ald0 dX8_findWeights_74 ?_
      refine j_getR (k := 37) (86) dX8_findWeights_75 cX8_ok (Or.inl f8_96) rfl (by decide) (by decide) (by decide) rfl ?_
      refine j_iconst (2) dX8_findWeights_78 rfl ?_
      refine j_ild1 dX8_findWeights_79 ?_
      refine j_imul dX8_findWeights_80 ?_
      refine j_top (y := nI (2 * i)) (by exact pk_mul 2 i) ?_
      refine j_iconst (1) dX8_findWeights_81 rfl ?_
      refine j_iadd dX8_findWeights_82 ?_
      refine j_top (y := nI (2 * i + 1)) (nI_1 _) ?_
      refine j_iconst (1) dX8_findWeights_83 rfl ?_
      refine j_iast (n := (2 * i + 1)) dX8_findWeights_84 rfl (by decide) rfl (by omega) (by decide) ?_
      refine j_iinc1 (nI (i + 1)) dX8_findWeights_85 (nI_1 i) rfl (by decide) ?_
      refine j_goto 2 dX8_findWeights_88 (by decide) ?_
      exact ih (i + 1) _ (by omega) (by omega) (Kp_uI (Kp_uI hkp5 (by show 18 ∈ [14, 18]; decide)) (by show 18 ∈ [14, 18]; decide)) (WR_step hw (by rw [wtN, if_pos (by omega), uI_at, if_neg (by omega), uI_at, if_pos ⟨rfl, rfl⟩]; rfl) (by rw [wtN, if_pos (by omega), uI_at, if_pos ⟨rfl, rfl⟩]; rfl) (fun k hk => by rw [uI_at, if_neg (by omega), uI_at, if_neg (by omega)]; exact vo k hk))
    have q_59 : ¬ ownN v b i 0 + ownN v b i 1 = 0 := fun z => c_59 (by rw [z]; decide)
    refine j_goto 85 dX8_findWeights_62 (by decide) ?_
    refine j_iinc1 (nI (i + 1)) dX8_findWeights_85 (nI_1 i) rfl (by decide) ?_
    refine j_goto 2 dX8_findWeights_88 (by decide) ?_
    exact ih (i + 1) S5 (by omega) (by omega) hkp5 (WR_step hw (by rw [wtN, if_neg (by omega)]; exact v0) (by rw [wtN, if_neg (by omega)]; exact v1) vo)

set_option maxRecDepth 20000 in
theorem s_X8_findWeights (h : TR n v S) (hb : LawR b S) (hg : GoodB b) : Rqv a mX8_findWeights 4 [.ref (a 61)] S fun S' => Kp [14, 18] S S' ∧ WRq v b n S' := by
  show J _ _ _ _ 0 [_, .null] [] _
  refine j_iconst (0) dX8_findWeights_0 rfl ?_
  refine j_ist1 dX8_findWeights_1 rfl (by decide) ?_
  exact lp_X8_findWeights h hb hg h.2.1 (n + 1) 0 S (by omega) (by omega) Kp.rf (fun i hi => absurd hi (Nat.not_lt_zero _))

set_option maxRecDepth 20000 in
theorem s_X8_sumOf {i : Nat} (hw : WRq v b n S) (hn : n ≤ 8) (hi : i < n) : Rt a mX8_sumOf 0 [.ref (a 61), .int (nI i)] S (some (.int (nI (wtN v b i 0 + wtN v b i 1)))) S := by
  show J _ _ _ _ 0 [_, _] [] _
  refine j_ald0 dX8_sumOf_0 ?_
  refine j_getR (k := 37) (86) dX8_sumOf_1 cX8_ok (Or.inl f8_96) rfl (by decide) (by decide) (by decide) rfl ?_
  refine j_iconst (2) dX8_sumOf_4 rfl ?_
  refine j_ild1 dX8_sumOf_5 ?_
  refine j_imul dX8_sumOf_6 ?_
  refine j_top (y := nI (2 * i)) (by exact pk_mul 2 i) ?_
  refine j_iald (n := (2 * i)) dX8_sumOf_7 rfl (by decide) rfl (by omega) (by decide) ?_
  refine j_top (hw i hi).1 ?_
  refine j_ald0 dX8_sumOf_8 ?_
  refine j_getR (k := 37) (86) dX8_sumOf_9 cX8_ok (Or.inl f8_96) rfl (by decide) (by decide) (by decide) rfl ?_
  refine j_iconst (2) dX8_sumOf_12 rfl ?_
  refine j_ild1 dX8_sumOf_13 ?_
  refine j_imul dX8_sumOf_14 ?_
  refine j_top (y := nI (2 * i)) (by exact pk_mul 2 i) ?_
  refine j_iconst (1) dX8_sumOf_15 rfl ?_
  refine j_iadd dX8_sumOf_16 ?_
  refine j_top (y := nI (2 * i + 1)) (nI_1 _) ?_
  refine j_iald (n := (2 * i + 1)) dX8_sumOf_17 rfl (by decide) rfl (by omega) (by decide) ?_
  refine j_top (hw i hi).2 ?_
  refine j_iadd dX8_sumOf_18 ?_
  refine j_top (y := nI (wtN v b i 0 + wtN v b i 1)) (nI_add _ _) ?_
  refine j_iret dX8_sumOf_19 rfl ?_
  exact ⟨rfl, rfl⟩

end Weigh
