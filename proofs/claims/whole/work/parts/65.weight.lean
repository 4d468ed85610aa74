/-! weight: both sides -/
abbrev wgOk (n : Nat) (x y : Int32) : Prop := (0 ≤ x ∧ x < nI n) ∧ (0 ≤ y ∧ y < 2)
def wgV (v : Nat → Nat → Nat) (b : Option (List Line)) (x y : Int32) : Int32 := nI (wtN v b x.toNatClampNeg y.toNatClampNeg)
theorem s2 {s : Nat} (h : s < 2) : s = 0 ∨ s = 1 := by omega
section WeightF
variable {a : Nat → Nat} {S : St} {n : Nat} {v : Nat → Nat → Nat} {b : Option (List Line)}
theorem WCq.at {i s : Nat} (h : WCq v b n S) (hi : i < n) (hs : s < 2) : S.1 (37 + i) s = nI (wtN v b i s) := by
  rcases s2 hs with rfl | rfl
  · exact (h i hi).1
  · exact (h i hi).2
theorem WRq.at {i s : Nat} (h : WRq v b n S) (hi : i < n) (hs : s < 2) : S.1 86 (2 * i + s) = nI (wtN v b i s) := by
  rcases s2 hs with rfl | rfl
  · exact (h i hi).1
  · exact (h i hi).2

set_option maxRecDepth 20000 in
theorem s_X7_weight_ok {x y : Int32} (h : TC n v S) (hb : LawC b S) (hg : GoodB b) (hk : wgOk n x y) : Rqi a mX7_weight 5 [.ref (a 0), .int x, .int y] S fun z S' => z = wgV v b x y ∧ Kp [4, 8] S S' := by
  show J _ _ _ _ 0 [_, _, _] [] _
  have h8 := h.2.1
  obtain ⟨i, hi, rfl⟩ := in_nI (n := n) (by omega) hk.1
  obtain ⟨s, hs, rfl⟩ := in_nI (n := 2) (by decide) hk.2
  have ci : (nI i).toNatClampNeg = i := nI_clamp (by omega)
  have cs : (nI s).toNatClampNeg = s := nI_clamp (by omega)
  have hi8 : i < 8 := by omega
  refine j_ild1 dX7_weight_0 ?_
  refine j_ald0 dX7_weight_1 ?_
  refine j_getR (k := 0) (1) dX7_weight_2 cX7_ok (Or.inl f7_12) rfl (by decide) (by decide) (by decide) rfl ?_
  refine j_getI (k := 1) dX7_weight_5 cX6_ok (Or.inr ⟨_, f7_91⟩) rfl (by decide) (by decide) (by decide) ?_
  refine j_top (y := nI n) (h.1) ?_
  refine j_cS2 dX7_weight_8 kX7_within zX7_within (Or.inl l7_72) (Nat.le_of_ble_eq_true rfl) (Nat.le_of_ble_eq_true rfl) (by omega) (s_X7_within) ?_
  refine j_ifeqB 22 dX7_weight_11 (by decide) (fun c_11 => absurd c_11 (not_not_intro hk.1)) (fun c_11 => ?_)
  refine j_ild2 dX7_weight_14 ?_
  refine j_iconst (2) dX7_weight_15 rfl ?_
  refine j_cS2 dX7_weight_16 kX7_within zX7_within (Or.inl l7_72) (Nat.le_of_ble_eq_true rfl) (Nat.le_of_ble_eq_true rfl) (by omega) (s_X7_within) ?_
  refine j_ifneB 24 dX7_weight_19 (by decide) (fun c_19 => ?_) (fun c_19 => absurd (hk.2) c_19)
  refine j_ald0 dX7_weight_24 ?_
  refine j_getR (k := 2) (3) dX7_weight_25 cX7_ok (Or.inl f7_28) rfl (by decide) (by decide) (by decide) rfl ?_
  refine j_ald0 dX7_weight_28 ?_
  refine j_getR (k := 0) (1) dX7_weight_29 cX7_ok (Or.inl f7_12) rfl (by decide) (by decide) (by decide) rfl ?_
  refine j_ald0 dX7_weight_32 ?_
  refine j_getR (k := 1) (2) dX7_weight_33 cX7_ok (Or.inl f7_21) rfl (by decide) (by decide) (by decide) rfl ?_
  refine j_ild1 dX7_weight_36 ?_
  refine j_qvV3 dX7_weight_37 kX5_weigh l7_131 rfl (by decide) rfl (Nat.le_of_ble_eq_true rfl) (Nat.le_of_ble_eq_true rfl) (by omega) (s_X5_weigh h hb hg hi8) (fun S1 h1 => ?_)
  refine j_ald0 dX7_weight_40 ?_
  refine j_getR (k := 2) (3) dX7_weight_41 cX7_ok (Or.inl f7_28) rfl (by decide) (by decide) (by decide) rfl ?_
  refine j_getR (k := 0) (36) dX7_weight_44 cX5_ok (Or.inr ⟨_, f7_135⟩) rfl (by decide) (by decide) (by decide) rfl ?_
  refine j_ild1 dX7_weight_47 ?_
  refine j_aald (n := i) (37 + i) dX7_weight_48 (Or.inr rfl) (by decide) rfl (by omega) (by decide) (fr_wr hi8) ?_
  refine j_ild2 dX7_weight_49 ?_
  refine j_iald (n := s) dX7_weight_50 (ck_wr hi8) (by omega) rfl (by omega) (by decide) ?_
  refine j_top (y := nI (wtN v b i s)) (by rcases s2 hs with rfl | rfl; exact h1.2.1; exact h1.2.2.1) ?_
  refine j_iret dX7_weight_51 rfl ?_
  exact ⟨_, rfl, by rw [wgV, ci, cs], h1.1⟩

set_option maxRecDepth 20000 in
theorem s_X7_weight_bad {x y : Int32} (h : TC n v S) (hk : ¬ wgOk n x y) : Rt a mX7_weight 5 [.ref (a 0), .int x, .int y] S (some (.int (-1))) S := by
  show J _ _ _ _ 0 [_, _, _] [] _
  refine j_ild1 dX7_weight_0 ?_
  refine j_ald0 dX7_weight_1 ?_
  refine j_getR (k := 0) (1) dX7_weight_2 cX7_ok (Or.inl f7_12) rfl (by decide) (by decide) (by decide) rfl ?_
  refine j_getI (k := 1) dX7_weight_5 cX6_ok (Or.inr ⟨_, f7_91⟩) rfl (by decide) (by decide) (by decide) ?_
  refine j_top (y := nI n) (h.1) ?_
  refine j_cS2 dX7_weight_8 kX7_within zX7_within (Or.inl l7_72) (Nat.le_of_ble_eq_true rfl) (Nat.le_of_ble_eq_true rfl) (by omega) (s_X7_within) ?_
  refine j_ifeqB 22 dX7_weight_11 (by decide) (fun c_11 => ?_) (fun c_11 => ?_)
  · refine j_iconst (-1) dX7_weight_22 rfl ?_
    refine j_iret dX7_weight_23 rfl ?_
    exact ⟨rfl, rfl⟩
  refine j_ild2 dX7_weight_14 ?_
  refine j_iconst (2) dX7_weight_15 rfl ?_
  refine j_cS2 dX7_weight_16 kX7_within zX7_within (Or.inl l7_72) (Nat.le_of_ble_eq_true rfl) (Nat.le_of_ble_eq_true rfl) (by omega) (s_X7_within) ?_
  refine j_ifneB 24 dX7_weight_19 (by decide) (fun c_19 => ?_) (fun c_19 => ?_)
  · exact absurd ⟨c_11, c_19⟩ hk
  refine j_iconst (-1) dX7_weight_22 rfl ?_
  refine j_iret dX7_weight_23 rfl ?_
  exact ⟨rfl, rfl⟩

set_option maxRecDepth 20000 in
theorem s_X8_weight_ok {x y : Int32} (h : TR n v S) (hb : LawR b S) (hg : GoodB b) (hk : wgOk n x y) : Rqi a mX8_weight 5 [.ref (a 61), .int x, .int y] S fun z S' => z = wgV v b x y ∧ Kp [14, 18] S S' := by
  show J _ _ _ _ 0 [_, _, _] [] _
  have h8 := h.2.1
  obtain ⟨i, hi, rfl⟩ := in_nI (n := n) (by omega) hk.1
  obtain ⟨s, hs, rfl⟩ := in_nI (n := 2) (by decide) hk.2
  have ci : (nI i).toNatClampNeg = i := nI_clamp (by omega)
  have cs : (nI s).toNatClampNeg = s := nI_clamp (by omega)
  have hi8 : i < 8 := by omega
  refine j_ald0 dX8_weight_0 ?_
  refine j_ild1 dX8_weight_1 ?_
  refine j_cV1 dX8_weight_2 kX8_isCard l8_182 rfl (by decide) rfl (Nat.le_of_ble_eq_true rfl) (Nat.le_of_ble_eq_true rfl) (by omega) (s_X8_isCard h.1 h.2.1) ?_
  refine j_ifeqB 17 dX8_weight_5 (by decide) (fun c_5 => absurd c_5 (not_not_intro hk.1)) (fun c_5 => ?_)
  refine j_ild2 dX8_weight_8 ?_
  refine j_iconst (0) dX8_weight_9 rfl ?_
  refine j_iconst (1) dX8_weight_10 rfl ?_
  refine j_cS3 dX8_weight_11 kX8_in zX8_in (Or.inl l8_148) (Nat.le_of_ble_eq_true rfl) (Nat.le_of_ble_eq_true rfl) (by omega) (s_X8_in) ?_
  refine j_ifneB 19 dX8_weight_14 (by decide) (fun c_14 => ?_) (fun c_14 => absurd (⟨hk.2.1, (le_lt (c := 1) (by decide)).mpr hk.2.2⟩) c_14)
  refine j_ald0 dX8_weight_19 ?_
  refine j_qvV0 dX8_weight_20 kX8_findWeights l8_275 rfl (by decide) rfl (Nat.le_of_ble_eq_true rfl) (Nat.le_of_ble_eq_true rfl) (by omega) (s_X8_findWeights h hb hg) (fun S1 h1 => ?_)
  refine j_ald0 dX8_weight_23 ?_
  refine j_getR (k := 37) (86) dX8_weight_24 cX8_ok (Or.inl f8_96) rfl (by decide) (by decide) (by decide) rfl ?_
  refine j_iconst (2) dX8_weight_27 rfl ?_
  refine j_ild1 dX8_weight_28 ?_
  refine j_imul dX8_weight_29 ?_
  refine j_top (y := nI (2 * i)) (by exact pk_mul 2 i) ?_
  refine j_ild2 dX8_weight_30 ?_
  refine j_iadd dX8_weight_31 ?_
  refine j_top (y := nI (2 * i + s)) (nI_add _ _) ?_
  refine j_iald (n := (2 * i + s)) dX8_weight_32 rfl (by decide) rfl (by omega) (by decide) ?_
  refine j_top (y := nI (wtN v b i s)) (h1.2.at hi hs) ?_
  refine j_iret dX8_weight_33 rfl ?_
  exact ⟨_, rfl, by rw [wgV, ci, cs], h1.1⟩

set_option maxRecDepth 20000 in
theorem s_X8_weight_bad {x y : Int32} (h : TR n v S) (hk : ¬ wgOk n x y) : Rt a mX8_weight 5 [.ref (a 61), .int x, .int y] S (some (.int (-1))) S := by
  show J _ _ _ _ 0 [_, _, _] [] _
  refine j_ald0 dX8_weight_0 ?_
  refine j_ild1 dX8_weight_1 ?_
  refine j_cV1 dX8_weight_2 kX8_isCard l8_182 rfl (by decide) rfl (Nat.le_of_ble_eq_true rfl) (Nat.le_of_ble_eq_true rfl) (by omega) (s_X8_isCard h.1 h.2.1) ?_
  refine j_ifeqB 17 dX8_weight_5 (by decide) (fun c_5 => ?_) (fun c_5 => ?_)
  · refine j_iconst (-1) dX8_weight_17 rfl ?_
    refine j_iret dX8_weight_18 rfl ?_
    exact ⟨rfl, rfl⟩
  refine j_ild2 dX8_weight_8 ?_
  refine j_iconst (0) dX8_weight_9 rfl ?_
  refine j_iconst (1) dX8_weight_10 rfl ?_
  refine j_cS3 dX8_weight_11 kX8_in zX8_in (Or.inl l8_148) (Nat.le_of_ble_eq_true rfl) (Nat.le_of_ble_eq_true rfl) (by omega) (s_X8_in) ?_
  refine j_ifneB 19 dX8_weight_14 (by decide) (fun c_14 => ?_) (fun c_14 => ?_)
  · exact absurd ⟨c_5, c_14.1, (le_lt (c := 1) (by decide)).mp c_14.2⟩ hk
  refine j_iconst (-1) dX8_weight_17 rfl ?_
  refine j_iret dX8_weight_18 rfl ?_
  exact ⟨rfl, rfl⟩

end WeightF
