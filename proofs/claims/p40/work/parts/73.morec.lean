/-! chances with one more of a card: the class -/
/-- only the colours of the cards -/
def TCc (n : Nat) (u : Nat → Nat → Nat) (S : St) : Prop := S.1 1 1 = nI n ∧ n ≤ 8 ∧ (∀ w, w = 1 ∨ w = 2 → ∀ i, i < 8 → S.1 (16 + w) i = nI (u w i)) ∧ ∀ w, w = 1 ∨ w = 2 → ∀ i, i < 8 → u w i ≤ mostN w
theorem TC.col {n : Nat} {v u : Nat → Nat → Nat} {S : St} (h : TC n v S) (h1 : u 1 = v 1) (h2 : u 2 = v 2) : TCc n u S := by
  refine ⟨h.1, h.2.1, fun w hw i hi => ?_, fun w hw i hi => ?_⟩
  · rcases hw with rfl | rfl
    · rw [h1]; exact h.2.2.1 1 (by decide) i hi
    · rw [h2]; exact h.2.2.1 2 (by decide) i hi
  · rcases hw with rfl | rfl
    · rw [h1]; exact h.2.2.2 1 (by decide) i hi
    · rw [h2]; exact h.2.2.2 2 (by decide) i hi
theorem TCc.kp {n : Nat} {u : Nat → Nat → Nat} {S S' : St} {rs : List Nat} (h : TCc n u S) (hk : Kp rs S S') (hr : 1 ∉ rs) : TCc n u S' := ⟨by rw [hk.i (show rg 1 1 ∉ rs from hr)]; exact h.1, h.2.1, fun w hw i hi => by rw [hk.i (by rw [rg_vr (by omega)]; exact hr)]; exact h.2.2.1 w hw i hi, h.2.2.2⟩
section MoreC
variable {a : Nat → Nat} {S : St} {n : Nat} {v u : Nat → Nat → Nat} {b : Option (List Line)}
def lkG (v u : Nat → Nat → Nat) (b : Option (List Line)) (i c k : Nat) : Nat := v 0 i * pC u b i c ^ k
def lkH (v u : Nat → Nat → Nat) (b : Option (List Line)) (n c k : Nat) : Nat := sumN (fun i => lkG v u b i c k) n

set_option maxRecDepth 20000 in
theorem gC_colour {i s : Nat} (h : TCc n u S) (hi : i < 8) (hs : s < 2) : Rt a mX6_colour 0 [.ref (a 1), .int (nI i), .int (nI s)] S (some (.int (nI (u (1 + s) i))))  S := by
  show J _ _ _ _ 0 [_, _, _] [] _
  refine j_ald0 dX6_colour_0 ?_
  refine j_getR (k := 0) (15) dX6_colour_1 cX6_ok (Or.inl f6_13) rfl (by decide) (by decide) (by decide) rfl ?_
  refine j_ild2 dX6_colour_4 ?_
  refine j_ifne 12 dX6_colour_5 (by decide) (fun c_5 => ?_) (fun c_5 => ?_)
  · have q_5 : s = 1 := by
      have : ¬ s = 0 := fun z => c_5 (by rw [z]; rfl)
      omega
    subst q_5
    refine j_iconst (2) dX6_colour_12 rfl ?_
    refine j_aald (n := 2) (18) dX6_colour_13 (Or.inr rfl) (by decide) rfl (by decide) (by decide) rfl ?_
    refine j_ild1 dX6_colour_14 ?_
    refine j_iald (n := i) dX6_colour_15 rfl (by decide) rfl (by omega) (by decide) ?_
    refine j_top (y := nI (u 2 i)) (h.2.2.1 2 (by decide) i hi) ?_
    refine j_iret dX6_colour_16 rfl ?_
    exact ⟨rfl, rfl⟩
  have q_5 : s = 0 := (nI_eq (a := s) (b := 0) (by omega) (by decide)).mp (Classical.not_not.mp c_5)
  subst q_5
  refine j_iconst (1) dX6_colour_8 rfl ?_
  refine j_goto 13 dX6_colour_9 (by decide) ?_
  refine j_aald (n := 1) (17) dX6_colour_13 (Or.inr rfl) (by decide) rfl (by decide) (by decide) rfl ?_
  refine j_ild1 dX6_colour_14 ?_
  refine j_iald (n := i) dX6_colour_15 rfl (by decide) rfl (by omega) (by decide) ?_
  refine j_top (y := nI (u 1 i)) (h.2.2.1 1 (by decide) i hi) ?_
  refine j_iret dX6_colour_16 rfl ?_
  exact ⟨rfl, rfl⟩


set_option maxRecDepth 20000 in
theorem g_X2_valueFor {i s : Nat} {ls : List Line} (h : TCc n u S) (hb : LawC (some ls) S) (hg : GoodB (some ls)) (hi : i < 8) (hs : s < 2) : Rqi a mX2_valueFor 2 [.ref (a 2), .ref (a 1), .int (nI i), .int (nI s), .int (nI (u 0 i))] S fun x S' => x = lawI (envC u i s) ls ∧ Kp [4] S S' := by
  show J _ _ _ _ 0 [_, _, _, _, _, .null, .null, .null] [] _
  refine j_ald0 dX2_valueFor_0 ?_
  refine j_ald1 dX2_valueFor_1 ?_
  refine j_ild2 dX2_valueFor_2 ?_
  refine j_ild3 dX2_valueFor_3 ?_
  refine j_cV2 dX2_valueFor_4 kX6_colour l2_93 rfl (by decide) rfl (Nat.le_of_ble_eq_true rfl) (Nat.le_of_ble_eq_true rfl) (by omega) (gC_colour h hi hs) ?_
  refine j_putI (k := 10) dX2_valueFor_7 cX2_ok (Or.inl f2_98) rfl (by decide) (by decide) (by decide) rfl ?_
  refine j_ald0 dX2_valueFor_10 ?_
  refine j_ald1 dX2_valueFor_11 ?_
  refine j_ild2 dX2_valueFor_12 ?_
  refine j_iconst (1) dX2_valueFor_13 rfl ?_
  refine j_ild3 dX2_valueFor_14 ?_
  refine j_isub dX2_valueFor_15 ?_
  refine j_top (y := nI (1 - s)) (by exact pk_sub (a := 1) (b := s) (by omega)) ?_
  refine j_cV2 dX2_valueFor_16 kX6_colour l2_93 rfl (by decide) rfl (Nat.le_of_ble_eq_true rfl) (Nat.le_of_ble_eq_true rfl) (by omega) (gC_colour (i := i) (s := 1 - s) (h.kp (Kp_uI (rs := [4]) Kp.rf (by decide)) (by decide)) hi (by omega)) ?_
  refine j_top (y := nI (u (2 - s) i)) (by rw [show 1 + (1 - s) = 2 - s by omega]) ?_
  refine j_putI (k := 11) dX2_valueFor_19 cX2_ok (Or.inl f2_101) rfl (by decide) (by decide) (by decide) rfl ?_
  refine j_ald0 dX2_valueFor_22 ?_
  refine j_ild2 dX2_valueFor_23 ?_
  refine j_putI (k := 12) dX2_valueFor_24 cX2_ok (Or.inl f2_104) rfl (by decide) (by decide) (by decide) rfl ?_
  refine j_ald0 dX2_valueFor_27 ?_
  refine j_ild4 dX2_valueFor_28 ?_
  refine j_putI (k := 13) dX2_valueFor_30 cX2_ok (Or.inl f2_107) rfl (by decide) (by decide) (by decide) rfl ?_
  refine j_ald0 dX2_valueFor_33 ?_
  refine j_ild3 dX2_valueFor_34 ?_
  refine j_putI (k := 14) dX2_valueFor_35 cX2_ok (Or.inl f2_110) rfl (by decide) (by decide) (by decide) rfl ?_
  refine j_ald0 dX2_valueFor_38 ?_
  refine j_iconst (0) dX2_valueFor_39 rfl ?_
  refine j_putI (k := 9) dX2_valueFor_40 cX2_ok (Or.inl f2_113) rfl (by decide) (by decide) (by decide) rfl ?_
  refine j_iconst (0) dX2_valueFor_43 rfl ?_
  refine j_ist5 dX2_valueFor_44 rfl (by decide) ?_
  have hv : VCq S (envC u i s) [] (uI (uI (uI (uI (uI (uI S 2 10 (nI (u (1 + s) i))) 2 11 (nI (u (2 - s) i))) 2 12 (nI i)) 2 13 (nI (u 0 i))) 2 14 (nI s)) 2 9 0) := by
    refine ⟨Kp_uI (Kp_uI (Kp_uI (Kp_uI (Kp_uI (Kp_uI Kp.rf (by decide)) (by decide)) (by decide)) (by decide)) (by decide)) (by decide), fun k hk => ?_, ?_, fun i hi => absurd hi (Nat.not_lt_zero _)⟩
    · rcases (show k = 0 ∨ k = 1 ∨ k = 2 ∨ k = 3 ∨ k = 4 by omega) with rfl | rfl | rfl | rfl | rfl <;> simp [uI_at, envC]
    · simp [uI_at]; rfl
  exact vl_lines hb ls [] _ _ _ (hg ls rfl) rfl hv


set_option maxRecDepth 20000 in
theorem ga_some {i : Nat} {ls : List Line} (h : TCc n u S) (hb : LawC (some ls) S) (hg : GoodB (some ls)) (hi : i < 8) (hpos : 0 < (codeOf ls).length) : Rqv a mX5_weighAmong 3 [.ref (a 3), .ref (a 1), .ref (a 2), .int (nI i), .int (nI (u 0 i))] S fun S' => Kp [4, 8] S S' ∧ S'.1 (37 + i) 0 = nI (wtN u (some ls) i 0) ∧ S'.1 (37 + i) 1 = nI (wtN u (some ls) i 1) ∧ ∀ j, j < 8 → j ≠ i → ∀ k, S'.1 (37 + j) k = S.1 (37 + j) k := by
  show J _ _ _ _ 0 [_, _, _, _, _, .null, .null, .null] [] _
  refine j_iconst (1) dX5_weighAmong_0 rfl ?_
  refine j_ist5 dX5_weighAmong_1 rfl (by decide) ?_
  refine j_iconst (1) dX5_weighAmong_3 rfl ?_
  refine j_ist6 dX5_weighAmong_4 rfl (by decide) ?_
  refine j_ald2 dX5_weighAmong_6 ?_
  refine j_cV0 dX5_weighAmong_7 kX2_stands l5_33 rfl (by decide) rfl (Nat.le_of_ble_eq_true rfl) (Nat.le_of_ble_eq_true rfl) (by omega) (s_X2_stands') ?_
  refine j_ifeqB 41 dX5_weighAmong_10 (by decide) (fun c_10 => absurd c_10 (not_not_intro (by rw [hb.2.1]; exact nI_lt (a := 0) hpos (by have := hb.2.2.1; omega)))) (fun c_10 => ?_)
  refine j_ald2 dX5_weighAmong_13 ?_
  refine j_ald1 dX5_weighAmong_14 ?_
  refine j_ild3 dX5_weighAmong_15 ?_
  refine j_iconst (0) dX5_weighAmong_16 rfl ?_
  refine j_ild4 dX5_weighAmong_17 ?_
  refine j_qiV4 dX5_weighAmong_19 kX2_valueFor l5_39 rfl (by decide) rfl (Nat.le_of_ble_eq_true rfl) (Nat.le_of_ble_eq_true rfl) (by omega) (g_X2_valueFor (i := i) (s := 0) h hb hg hi (by decide)) (fun y S1 h1 => ?_)
  obtain ⟨rfl, k1⟩ := h1
  refine j_cS1 dX5_weighAmong_22 kX5_held zX5_held (Or.inl l5_43) (Nat.le_of_ble_eq_true rfl) (Nat.le_of_ble_eq_true rfl) (by omega) (s_X5_held) ?_
  refine j_top (clm_own u ls i 0) ?_
  refine j_ist5 dX5_weighAmong_25 rfl (by decide) ?_
  refine j_ald2 dX5_weighAmong_27 ?_
  refine j_ald1 dX5_weighAmong_28 ?_
  refine j_ild3 dX5_weighAmong_29 ?_
  refine j_iconst (1) dX5_weighAmong_30 rfl ?_
  refine j_ild4 dX5_weighAmong_31 ?_
  refine j_qiV4 dX5_weighAmong_33 kX2_valueFor l5_39 rfl (by decide) rfl (Nat.le_of_ble_eq_true rfl) (Nat.le_of_ble_eq_true rfl) (by omega) (g_X2_valueFor (i := i) (s := 1) (h.kp k1 (by decide)) (hb.kp k1 (by decide)) hg hi (by decide)) (fun z S2 h2 => ?_)
  obtain ⟨rfl, k2⟩ := h2
  refine j_cS1 dX5_weighAmong_36 kX5_held zX5_held (Or.inl l5_43) (Nat.le_of_ble_eq_true rfl) (Nat.le_of_ble_eq_true rfl) (by omega) (s_X5_held) ?_
  refine j_top (clm_own u ls i 1) ?_
  refine j_ist6 dX5_weighAmong_39 rfl (by decide) ?_
  have o0 := ownN_le u (some ls) i 0
  have o1 := ownN_le u (some ls) i 1
  have k3 := k1.tr k2
  refine j_ild5 dX5_weighAmong_41 ?_
  refine j_ifne 55 dX5_weighAmong_43 (by decide) (fun c_43 => ?_) (fun c_43 => ?_)
  · have q_43 : ¬ ownN u (some ls) i 0 = 0 := fun z => c_43 (by rw [z]; rfl)
    refine j_iconst (0) dX5_weighAmong_55 rfl ?_
    refine j_ist7 dX5_weighAmong_56 rfl (by decide) ?_
    refine j_ald0 dX5_weighAmong_58 ?_
    refine j_getR (k := 0) (36) dX5_weighAmong_59 cX5_ok (Or.inl f5_11) rfl (by decide) (by decide) (by decide) rfl ?_
    refine j_ild3 dX5_weighAmong_62 ?_
    refine j_aald (n := i) (37 + i) dX5_weighAmong_63 (Or.inr rfl) (by decide) rfl (by omega) (by decide) (fr_wr hi) ?_
    refine j_iconst (0) dX5_weighAmong_64 rfl ?_
    refine j_ild7 dX5_weighAmong_65 ?_
    refine j_ifeq 74 dX5_weighAmong_67 (by decide) (fun c_67 => ?_) (fun c_67 => absurd (rfl) c_67)
    refine j_ild5 dX5_weighAmong_74 ?_
    refine j_iast (n := 0) dX5_weighAmong_76 (ck_wr hi) (by omega) rfl (by decide) (by decide) ?_
    refine j_ald0 dX5_weighAmong_77 ?_
    refine j_getR (k := 0) (36) dX5_weighAmong_78 cX5_ok (Or.inl f5_11) rfl (by decide) (by decide) (by decide) rfl ?_
    refine j_ild3 dX5_weighAmong_81 ?_
    refine j_aald (n := i) (37 + i) dX5_weighAmong_82 (Or.inr rfl) (by decide) rfl (by omega) (by decide) (fr_wr hi) ?_
    refine j_iconst (1) dX5_weighAmong_83 rfl ?_
    refine j_ild7 dX5_weighAmong_84 ?_
    refine j_ifeq 93 dX5_weighAmong_86 (by decide) (fun c_86 => ?_) (fun c_86 => absurd (rfl) c_86)
    refine j_ild6 dX5_weighAmong_93 ?_
    refine j_iast (n := 1) dX5_weighAmong_95 (ck_wr hi) (by omega) rfl (by decide) (by decide) ?_
    refine j_vret dX5_weighAmong_96 rfl ?_
    exact ⟨rfl, Kp_uI (Kp_uI (k3.wk (by simp)) (by rw [rg_wr hi]; decide)) (by rw [rg_wr hi]; decide), by rw [uI_at, if_neg (by omega), uI_at, if_pos ⟨rfl, rfl⟩, wtN, if_neg (fun z => q_43 z.1)], by rw [uI_at, if_pos ⟨rfl, rfl⟩, wtN, if_neg (fun z => q_43 z.1)], fun j hj8 hj k => by rw [uI_at, if_neg (by omega), uI_at, if_neg (by omega)]; exact k3.i (by rw [rg_wr hj8]; decide)⟩
  have q_43 : ownN u (some ls) i 0 = 0 := (nI_eq (a := ownN u (some ls) i 0) (b := 0) (by omega) (by decide)).mp (Classical.not_not.mp c_43)
  refine j_ild6 dX5_weighAmong_46 ?_
  refine j_ifne 55 dX5_weighAmong_48 (by decide) (fun c_48 => ?_) (fun c_48 => ?_)
  · have q_48 : ¬ ownN u (some ls) i 1 = 0 := fun z => c_48 (by rw [z]; rfl)
    refine j_iconst (0) dX5_weighAmong_55 rfl ?_
    refine j_ist7 dX5_weighAmong_56 rfl (by decide) ?_
    refine j_ald0 dX5_weighAmong_58 ?_
    refine j_getR (k := 0) (36) dX5_weighAmong_59 cX5_ok (Or.inl f5_11) rfl (by decide) (by decide) (by decide) rfl ?_
    refine j_ild3 dX5_weighAmong_62 ?_
    refine j_aald (n := i) (37 + i) dX5_weighAmong_63 (Or.inr rfl) (by decide) rfl (by omega) (by decide) (fr_wr hi) ?_
    refine j_iconst (0) dX5_weighAmong_64 rfl ?_
    refine j_ild7 dX5_weighAmong_65 ?_
    refine j_ifeq 74 dX5_weighAmong_67 (by decide) (fun c_67 => ?_) (fun c_67 => absurd (rfl) c_67)
    refine j_ild5 dX5_weighAmong_74 ?_
    refine j_iast (n := 0) dX5_weighAmong_76 (ck_wr hi) (by omega) rfl (by decide) (by decide) ?_
    refine j_ald0 dX5_weighAmong_77 ?_
    refine j_getR (k := 0) (36) dX5_weighAmong_78 cX5_ok (Or.inl f5_11) rfl (by decide) (by decide) (by decide) rfl ?_
    refine j_ild3 dX5_weighAmong_81 ?_
    refine j_aald (n := i) (37 + i) dX5_weighAmong_82 (Or.inr rfl) (by decide) rfl (by omega) (by decide) (fr_wr hi) ?_
    refine j_iconst (1) dX5_weighAmong_83 rfl ?_
    refine j_ild7 dX5_weighAmong_84 ?_
    refine j_ifeq 93 dX5_weighAmong_86 (by decide) (fun c_86 => ?_) (fun c_86 => absurd (rfl) c_86)
    refine j_ild6 dX5_weighAmong_93 ?_
    refine j_iast (n := 1) dX5_weighAmong_95 (ck_wr hi) (by omega) rfl (by decide) (by decide) ?_
    refine j_vret dX5_weighAmong_96 rfl ?_
    exact ⟨rfl, Kp_uI (Kp_uI (k3.wk (by simp)) (by rw [rg_wr hi]; decide)) (by rw [rg_wr hi]; decide), by rw [uI_at, if_neg (by omega), uI_at, if_pos ⟨rfl, rfl⟩, wtN, if_neg (fun z => q_48 z.2)], by rw [uI_at, if_pos ⟨rfl, rfl⟩, wtN, if_neg (fun z => q_48 z.2)], fun j hj8 hj k => by rw [uI_at, if_neg (by omega), uI_at, if_neg (by omega)]; exact k3.i (by rw [rg_wr hj8]; decide)⟩
  have q_48 : ownN u (some ls) i 1 = 0 := (nI_eq (a := ownN u (some ls) i 1) (b := 0) (by omega) (by decide)).mp (Classical.not_not.mp c_48)
  refine j_iconst (1) dX5_weighAmong_51 rfl ?_
  refine j_goto 56 dX5_weighAmong_52 (by decide) ?_
  refine j_ist7 dX5_weighAmong_56 rfl (by decide) ?_
  refine j_ald0 dX5_weighAmong_58 ?_
  refine j_getR (k := 0) (36) dX5_weighAmong_59 cX5_ok (Or.inl f5_11) rfl (by decide) (by decide) (by decide) rfl ?_
  refine j_ild3 dX5_weighAmong_62 ?_
  refine j_aald (n := i) (37 + i) dX5_weighAmong_63 (Or.inr rfl) (by decide) rfl (by omega) (by decide) (fr_wr hi) ?_
  refine j_iconst (0) dX5_weighAmong_64 rfl ?_
  refine j_ild7 dX5_weighAmong_65 ?_
  refine j_ifeq 74 dX5_weighAmong_67 (by decide) (fun c_67 => absurd c_67 (by decide)) (fun c_67 => ?_)
  refine j_iconst (1) dX5_weighAmong_70 rfl ?_
  refine j_goto 76 dX5_weighAmong_71 (by decide) ?_
  refine j_iast (n := 0) dX5_weighAmong_76 (ck_wr hi) (by omega) rfl (by decide) (by decide) ?_
  refine j_ald0 dX5_weighAmong_77 ?_
  refine j_getR (k := 0) (36) dX5_weighAmong_78 cX5_ok (Or.inl f5_11) rfl (by decide) (by decide) (by decide) rfl ?_
  refine j_ild3 dX5_weighAmong_81 ?_
  refine j_aald (n := i) (37 + i) dX5_weighAmong_82 (Or.inr rfl) (by decide) rfl (by omega) (by decide) (fr_wr hi) ?_
  refine j_iconst (1) dX5_weighAmong_83 rfl ?_
  refine j_ild7 dX5_weighAmong_84 ?_
  refine j_ifeq 93 dX5_weighAmong_86 (by decide) (fun c_86 => absurd c_86 (by decide)) (fun c_86 => ?_)
  refine j_iconst (1) dX5_weighAmong_89 rfl ?_
  refine j_goto 95 dX5_weighAmong_90 (by decide) ?_
  refine j_iast (n := 1) dX5_weighAmong_95 (ck_wr hi) (by omega) rfl (by decide) (by decide) ?_
  refine j_vret dX5_weighAmong_96 rfl ?_
  exact ⟨rfl, Kp_uI (Kp_uI (k3.wk (by simp)) (by rw [rg_wr hi]; decide)) (by rw [rg_wr hi]; decide), by rw [uI_at, if_neg (by omega), uI_at, if_pos ⟨rfl, rfl⟩, wtN, if_pos ⟨q_43, q_48⟩]; rfl, by rw [uI_at, if_pos ⟨rfl, rfl⟩, wtN, if_pos ⟨q_43, q_48⟩]; rfl, fun j hj8 hj k => by rw [uI_at, if_neg (by omega), uI_at, if_neg (by omega)]; exact k3.i (by rw [rg_wr hj8]; decide)⟩


set_option maxRecDepth 20000 in
theorem ga_none {i : Nat} (hb : LawC b S) (hi : i < 8) (h0 : (cdO b).length = 0) : Rqv a mX5_weighAmong 3 [.ref (a 3), .ref (a 1), .ref (a 2), .int (nI i), .int (nI (u 0 i))] S fun S' => Kp [4, 8] S S' ∧ S'.1 (37 + i) 0 = nI (wtN u b i 0) ∧ S'.1 (37 + i) 1 = nI (wtN u b i 1) ∧ ∀ j, j < 8 → j ≠ i → ∀ k, S'.1 (37 + j) k = S.1 (37 + j) k := by
  show J _ _ _ _ 0 [_, _, _, _, _, .null, .null, .null] [] _
  refine j_iconst (1) dX5_weighAmong_0 rfl ?_
  refine j_ist5 dX5_weighAmong_1 rfl (by decide) ?_
  refine j_iconst (1) dX5_weighAmong_3 rfl ?_
  refine j_ist6 dX5_weighAmong_4 rfl (by decide) ?_
  refine j_ald2 dX5_weighAmong_6 ?_
  refine j_cV0 dX5_weighAmong_7 kX2_stands l5_33 rfl (by decide) rfl (Nat.le_of_ble_eq_true rfl) (Nat.le_of_ble_eq_true rfl) (by omega) (s_X2_stands') ?_
  refine j_ifeqB 41 dX5_weighAmong_10 (by decide) (fun c_10 => ?_) (fun c_10 => absurd c_10 (by rw [hb.2.1, h0]; decide))
  refine j_ild5 dX5_weighAmong_41 ?_
  refine j_ifne 55 dX5_weighAmong_43 (by decide) (fun c_43 => ?_) (fun c_43 => absurd (by decide) c_43)
  refine j_iconst (0) dX5_weighAmong_55 rfl ?_
  refine j_ist7 dX5_weighAmong_56 rfl (by decide) ?_
  refine j_ald0 dX5_weighAmong_58 ?_
  refine j_getR (k := 0) (36) dX5_weighAmong_59 cX5_ok (Or.inl f5_11) rfl (by decide) (by decide) (by decide) rfl ?_
  refine j_ild3 dX5_weighAmong_62 ?_
  refine j_aald (n := i) (37 + i) dX5_weighAmong_63 (Or.inr rfl) (by decide) rfl (by omega) (by decide) (fr_wr hi) ?_
  refine j_iconst (0) dX5_weighAmong_64 rfl ?_
  refine j_ild7 dX5_weighAmong_65 ?_
  refine j_ifeq 74 dX5_weighAmong_67 (by decide) (fun c_67 => ?_) (fun c_67 => absurd (rfl) c_67)
  refine j_ild5 dX5_weighAmong_74 ?_
  refine j_iast (n := 0) dX5_weighAmong_76 (ck_wr hi) (by omega) rfl (by decide) (by decide) ?_
  refine j_ald0 dX5_weighAmong_77 ?_
  refine j_getR (k := 0) (36) dX5_weighAmong_78 cX5_ok (Or.inl f5_11) rfl (by decide) (by decide) (by decide) rfl ?_
  refine j_ild3 dX5_weighAmong_81 ?_
  refine j_aald (n := i) (37 + i) dX5_weighAmong_82 (Or.inr rfl) (by decide) rfl (by omega) (by decide) (fr_wr hi) ?_
  refine j_iconst (1) dX5_weighAmong_83 rfl ?_
  refine j_ild7 dX5_weighAmong_84 ?_
  refine j_ifeq 93 dX5_weighAmong_86 (by decide) (fun c_86 => ?_) (fun c_86 => absurd (rfl) c_86)
  refine j_ild6 dX5_weighAmong_93 ?_
  refine j_iast (n := 1) dX5_weighAmong_95 (ck_wr hi) (by omega) rfl (by decide) (by decide) ?_
  refine j_vret dX5_weighAmong_96 rfl ?_
  exact ⟨rfl, Kp_uI (Kp_uI Kp.rf (by rw [rg_wr hi]; decide)) (by rw [rg_wr hi]; decide), by rw [uI_at, if_neg (by omega), uI_at, if_pos ⟨rfl, rfl⟩, wt_nil h0 i 0 (by decide)]; rfl, by rw [uI_at, if_pos ⟨rfl, rfl⟩, wt_nil h0 i 1 (by decide)]; rfl, fun j hj8 hj k => by rw [uI_at, if_neg (by omega), uI_at, if_neg (by omega)]⟩


theorem g_X5_weighAmong {i : Nat} (h : TCc n u S) (hb : LawC b S) (hg : GoodB b) (hi : i < 8) : Rqv a mX5_weighAmong 3 [.ref (a 3), .ref (a 1), .ref (a 2), .int (nI i), .int (nI (u 0 i))] S fun S' => Kp [4, 8] S S' ∧ S'.1 (37 + i) 0 = nI (wtN u b i 0) ∧ S'.1 (37 + i) 1 = nI (wtN u b i 1) ∧ ∀ j, j < 8 → j ≠ i → ∀ k, S'.1 (37 + j) k = S.1 (37 + j) k := by
  rcases Nat.eq_zero_or_pos (cdO b).length with h0 | h0
  · exact ga_none hb hi h0
  · cases b with
    | none => exact absurd h0 (Nat.lt_irrefl _)
    | some ls => exact ga_some h hb hg hi h0

set_option maxRecDepth 20000 in
theorem g_X5_ofColour {i c : Nat} (h : TCc n u S) (hw : WCq u b n S) (hin : i < n) (hc : c < 2 ^ 31) : Rt a mX5_ofColour 1 [.ref (a 3), .ref (a 1), .int (nI i), .int (nI c)] S (some (.int (nI (pC u b i c)))) S := by
  have hn8 := h.2.1
  show J _ _ _ _ 0 [_, _, _, _, .null, .null] [] _
  refine j_iconst (0) dX5_ofColour_0 rfl ?_
  refine j_ist4 dX5_ofColour_1 rfl (by decide) ?_
  refine j_iconst (0) dX5_ofColour_3 rfl ?_
  refine j_ist5 dX5_ofColour_4 rfl (by decide) ?_
  refine j_ild5 dX5_ofColour_6 ?_
  refine j_iconst (2) dX5_ofColour_8 rfl ?_
  refine j_icmpge 41 dX5_ofColour_9 (by decide) (fun c_9 => absurd c_9 (by decide)) (fun c_9 => ?_)
  refine j_ald1 dX5_ofColour_12 ?_
  refine j_ild2 dX5_ofColour_13 ?_
  refine j_ild5 dX5_ofColour_14 ?_
  refine j_cV2 dX5_ofColour_16 kX6_colour l5_56 rfl (by decide) rfl (Nat.le_of_ble_eq_true rfl) (Nat.le_of_ble_eq_true rfl) (by omega) (gC_colour (i := i) (s := 0) h (by omega) (by decide)) ?_
  refine j_ild3 dX5_ofColour_19 ?_
  refine j_icmpne 35 dX5_ofColour_20 (by decide) (fun c_20_0 => ?_) (fun c_20_0 => ?_)
  · have q_0 : ¬ u 1 i = c := fun z => c_20_0 (by rw [z])
    refine j_iinc5 (1) dX5_ofColour_35 rfl rfl (by decide) ?_
    refine j_goto 6 dX5_ofColour_38 (by decide) ?_
    refine j_ild5 dX5_ofColour_6 ?_
    refine j_iconst (2) dX5_ofColour_8 rfl ?_
    refine j_icmpge 41 dX5_ofColour_9 (by decide) (fun c_9 => absurd c_9 (by decide)) (fun c_9 => ?_)
    refine j_ald1 dX5_ofColour_12 ?_
    refine j_ild2 dX5_ofColour_13 ?_
    refine j_ild5 dX5_ofColour_14 ?_
    refine j_cV2 dX5_ofColour_16 kX6_colour l5_56 rfl (by decide) rfl (Nat.le_of_ble_eq_true rfl) (Nat.le_of_ble_eq_true rfl) (by omega) (gC_colour (i := i) (s := 1) h (by omega) (by decide)) ?_
    refine j_ild3 dX5_ofColour_19 ?_
    refine j_icmpne 35 dX5_ofColour_20 (by decide) (fun c_20_1 => ?_) (fun c_20_1 => ?_)
    · have q_1 : ¬ u 2 i = c := fun z => c_20_1 (by rw [z])
      refine j_iinc5 (2) dX5_ofColour_35 rfl rfl (by decide) ?_
      refine j_goto 6 dX5_ofColour_38 (by decide) ?_
      refine j_ild5 dX5_ofColour_6 ?_
      refine j_iconst (2) dX5_ofColour_8 rfl ?_
      refine j_icmpge 41 dX5_ofColour_9 (by decide) (fun c_9 => ?_) (fun c_9 => absurd (by decide) c_9)
      refine j_ild4 dX5_ofColour_41 ?_
      refine j_iret dX5_ofColour_43 rfl ?_
      exact ⟨by rw [pC, if_neg q_0, if_neg q_1]; first | rfl | rw [Nat.zero_add] | rw [Nat.add_zero], rfl⟩
    have q_1 : u 2 i = c := (nI_eq (by have := h.2.2.2 2 (by decide) i (by omega); rw [show mostN 2 = 5 from rfl] at this; omega) (by omega)).mp (Classical.not_not.mp c_20_1)
    refine j_ild4 dX5_ofColour_23 ?_
    refine j_ald0 dX5_ofColour_25 ?_
    refine j_ild2 dX5_ofColour_26 ?_
    refine j_ild5 dX5_ofColour_27 ?_
    refine j_cV2 dX5_ofColour_29 kX5_ofSide l5_59 rfl (by decide) rfl (Nat.le_of_ble_eq_true rfl) (Nat.le_of_ble_eq_true rfl) (by omega) (s_X5_ofSide (i := i) (s := 1) hw h.2.1 hin (by decide)) ?_
    refine j_iadd dX5_ofColour_32 ?_
    refine j_top (y := nI (pS u b i 1)) (by exact (Int32.zero_add _)) ?_
    refine j_ist4 dX5_ofColour_33 rfl (by decide) ?_
    refine j_iinc5 (2) dX5_ofColour_35 rfl rfl (by decide) ?_
    refine j_goto 6 dX5_ofColour_38 (by decide) ?_
    refine j_ild5 dX5_ofColour_6 ?_
    refine j_iconst (2) dX5_ofColour_8 rfl ?_
    refine j_icmpge 41 dX5_ofColour_9 (by decide) (fun c_9 => ?_) (fun c_9 => absurd (by decide) c_9)
    refine j_ild4 dX5_ofColour_41 ?_
    refine j_iret dX5_ofColour_43 rfl ?_
    exact ⟨by rw [pC, if_neg q_0, if_pos q_1]; first | rfl | rw [Nat.zero_add] | rw [Nat.add_zero], rfl⟩
  have q_0 : u 1 i = c := (nI_eq (by have := h.2.2.2 1 (by decide) i (by omega); rw [show mostN 1 = 5 from rfl] at this; omega) (by omega)).mp (Classical.not_not.mp c_20_0)
  refine j_ild4 dX5_ofColour_23 ?_
  refine j_ald0 dX5_ofColour_25 ?_
  refine j_ild2 dX5_ofColour_26 ?_
  refine j_ild5 dX5_ofColour_27 ?_
  refine j_cV2 dX5_ofColour_29 kX5_ofSide l5_59 rfl (by decide) rfl (Nat.le_of_ble_eq_true rfl) (Nat.le_of_ble_eq_true rfl) (by omega) (s_X5_ofSide (i := i) (s := 0) hw h.2.1 hin (by decide)) ?_
  refine j_iadd dX5_ofColour_32 ?_
  refine j_top (y := nI (pS u b i 0)) (by exact (Int32.zero_add _)) ?_
  refine j_ist4 dX5_ofColour_33 rfl (by decide) ?_
  refine j_iinc5 (1) dX5_ofColour_35 rfl rfl (by decide) ?_
  refine j_goto 6 dX5_ofColour_38 (by decide) ?_
  refine j_ild5 dX5_ofColour_6 ?_
  refine j_iconst (2) dX5_ofColour_8 rfl ?_
  refine j_icmpge 41 dX5_ofColour_9 (by decide) (fun c_9 => absurd c_9 (by decide)) (fun c_9 => ?_)
  refine j_ald1 dX5_ofColour_12 ?_
  refine j_ild2 dX5_ofColour_13 ?_
  refine j_ild5 dX5_ofColour_14 ?_
  refine j_cV2 dX5_ofColour_16 kX6_colour l5_56 rfl (by decide) rfl (Nat.le_of_ble_eq_true rfl) (Nat.le_of_ble_eq_true rfl) (by omega) (gC_colour (i := i) (s := 1) h (by omega) (by decide)) ?_
  refine j_ild3 dX5_ofColour_19 ?_
  refine j_icmpne 35 dX5_ofColour_20 (by decide) (fun c_20_1 => ?_) (fun c_20_1 => ?_)
  · have q_1 : ¬ u 2 i = c := fun z => c_20_1 (by rw [z])
    refine j_iinc5 (2) dX5_ofColour_35 rfl rfl (by decide) ?_
    refine j_goto 6 dX5_ofColour_38 (by decide) ?_
    refine j_ild5 dX5_ofColour_6 ?_
    refine j_iconst (2) dX5_ofColour_8 rfl ?_
    refine j_icmpge 41 dX5_ofColour_9 (by decide) (fun c_9 => ?_) (fun c_9 => absurd (by decide) c_9)
    refine j_ild4 dX5_ofColour_41 ?_
    refine j_iret dX5_ofColour_43 rfl ?_
    exact ⟨by rw [pC, if_pos q_0, if_neg q_1]; first | rfl | rw [Nat.zero_add] | rw [Nat.add_zero], rfl⟩
  have q_1 : u 2 i = c := (nI_eq (by have := h.2.2.2 2 (by decide) i (by omega); rw [show mostN 2 = 5 from rfl] at this; omega) (by omega)).mp (Classical.not_not.mp c_20_1)
  refine j_ild4 dX5_ofColour_23 ?_
  refine j_ald0 dX5_ofColour_25 ?_
  refine j_ild2 dX5_ofColour_26 ?_
  refine j_ild5 dX5_ofColour_27 ?_
  refine j_cV2 dX5_ofColour_29 kX5_ofSide l5_59 rfl (by decide) rfl (Nat.le_of_ble_eq_true rfl) (Nat.le_of_ble_eq_true rfl) (by omega) (s_X5_ofSide (i := i) (s := 1) hw h.2.1 hin (by decide)) ?_
  refine j_iadd dX5_ofColour_32 ?_
  refine j_top (y := nI (pS u b i 0 + pS u b i 1)) (nI_add _ _) ?_
  refine j_ist4 dX5_ofColour_33 rfl (by decide) ?_
  refine j_iinc5 (2) dX5_ofColour_35 rfl rfl (by decide) ?_
  refine j_goto 6 dX5_ofColour_38 (by decide) ?_
  refine j_ild5 dX5_ofColour_6 ?_
  refine j_iconst (2) dX5_ofColour_8 rfl ?_
  refine j_icmpge 41 dX5_ofColour_9 (by decide) (fun c_9 => ?_) (fun c_9 => absurd (by decide) c_9)
  refine j_ild4 dX5_ofColour_41 ?_
  refine j_iret dX5_ofColour_43 rfl ?_
  exact ⟨by rw [pC, if_pos q_0, if_pos q_1], rfl⟩


set_option maxRecDepth 20000 in
theorem g_X5_likelyOf {i c k : Nat} (h : TC n v S) (hc0 : TCc n u S) (hw : WCq u b n S) (hin : i < n) (hc : c < 2 ^ 31) (hk : k < 2 ^ 31) : Rt a mX5_likelyOf 2 [.ref (a 3), .ref (a 1), .int (nI i), .int (nI c), .int (nI k)] S (some (.long (lN (lkG v u b i c k)))) S := by
  have hn8 := h.2.1
  show J _ _ _ _ 0 [_, _, _, _, _, .null, .null, .null, .null, .null] [] _
  refine j_ald0 dX5_likelyOf_0 ?_
  refine j_ald1 dX5_likelyOf_1 ?_
  refine j_ild2 dX5_likelyOf_2 ?_
  refine j_ild3 dX5_likelyOf_3 ?_
  refine j_cV3 dX5_likelyOf_4 kX5_ofColour l5_62 rfl (by decide) rfl (Nat.le_of_ble_eq_true rfl) (Nat.le_of_ble_eq_true rfl) (by omega) (g_X5_ofColour hc0 hw hin hc) ?_
  refine j_i2l dX5_likelyOf_7 ?_
  refine j_topL (y := lN (pC u b i c)) (nI_l (by have := pC_le u b i c; omega)) ?_
  refine j_lst5 dX5_likelyOf_8 rfl (by decide) ?_
  refine j_ald1 dX5_likelyOf_10 ?_
  refine j_getR (k := 0) (15) dX5_likelyOf_11 cX6_ok (Or.inr ⟨_, f5_26⟩) rfl (by decide) (by decide) (by decide) rfl ?_
  refine j_iconst (0) dX5_likelyOf_14 rfl ?_
  refine j_aald (n := 0) (16) dX5_likelyOf_15 (Or.inr rfl) (by decide) rfl (by decide) (by decide) rfl ?_
  refine j_ild2 dX5_likelyOf_16 ?_
  refine j_iald (n := i) dX5_likelyOf_17 rfl (by decide) rfl (by omega) (by decide) ?_
  refine j_top (y := nI (v 0 i)) (h.2.2.1 0 (by decide) i (by omega)) ?_
  refine j_i2l dX5_likelyOf_18 ?_
  refine j_topL (y := lN (v 0 i * pC u b i c ^ 0)) (by rw [Nat.pow_zero, Nat.mul_one]; exact nI_l (by have := h.many9 (i := i) (by omega); omega)) ?_
  refine j_lst7 dX5_likelyOf_19 rfl (by decide) ?_
  refine j_iconst (0) dX5_likelyOf_21 rfl ?_
  refine j_ist9 dX5_likelyOf_22 rfl (by decide) ?_
  exact lp_X5_likelyOf hk (k + 1) 0 (by omega) (by omega)


set_option maxRecDepth 20000 in
theorem lq_X5_likely (h : TC n v S) (hc0 : TCc n u S) (hw : WCq u b n S) {c k : Nat} (hc : c < 2 ^ 31) (hk5 : k < 2 ^ 31) : ∀ (fu : Nat) (i : Nat), n - i < fu → (i ≤ n) → J a mX5_likely 3 (gm a fun r S' => r = some (.long (lN (lkH v u b n c k))) ∧ S' = S) 6 [.ref (a 3), .ref (a 1), .int (nI c), .int (nI k), .long (lN (lkH v u b i c k)), .null, .int (nI i)] [] S := by
  intro fu
  induction fu with
  | zero => intro i hk; exact absurd hk (Nat.not_lt_zero _)
  | succ fu ih =>
    intro i hk hi
    have hn8 := h.2.1
    refine j_ild6 dX5_likely_6 ?_
    refine j_ald1 dX5_likely_8 ?_
    refine j_getI (k := 1) dX5_likely_9 cX6_ok (Or.inr ⟨_, f5_16⟩) rfl (by decide) (by decide) (by decide) ?_
    refine j_top (y := nI n) (h.1) ?_
    refine j_icmpge 35 dX5_likely_12 (by decide) (fun c_12 => ?_) (fun c_12 => ?_)
    · have q_12 : i = n := by have := (nI_leI (a := n) (b := i) (by omega) (by omega)).mp c_12; omega
      subst q_12
      refine j_lld4 dX5_likely_35 ?_
      refine j_lret dX5_likely_37 rfl ?_
      exact ⟨rfl, rfl⟩
    have q_12 : i < n := Nat.not_le.mp (fun z => c_12 ((nI_leI (a := n) (b := i) (by omega) (by omega)).mpr z))
    refine j_lld4 dX5_likely_15 ?_
    refine j_ald0 dX5_likely_17 ?_
    refine j_ald1 dX5_likely_18 ?_
    refine j_ild6 dX5_likely_19 ?_
    refine j_ild2 dX5_likely_21 ?_
    refine j_ild3 dX5_likely_22 ?_
    refine j_cV4 dX5_likely_23 kX5_likelyOf l5_66 rfl (by decide) rfl (Nat.le_of_ble_eq_true rfl) (Nat.le_of_ble_eq_true rfl) (by omega) (g_X5_likelyOf h hc0 hw q_12 hc hk5) ?_
    refine j_ladd dX5_likely_26 ?_
    refine j_topL (y := lN (lkH v u b (i + 1) c k)) (lN_add _ _) ?_
    refine j_lst4 dX5_likely_27 rfl (by decide) ?_
    refine j_iinc6 (nI (i + 1)) dX5_likely_29 (nI_1 i) rfl (by decide) ?_
    refine j_goto 6 dX5_likely_32 (by decide) ?_
    exact ih (i + 1) (by omega) (by omega)


set_option maxRecDepth 20000 in
theorem g_X5_likely {c k : Nat} (h : TC n v S) (hc0 : TCc n u S) (hw : WCq u b n S) (hc : c < 2 ^ 31) (hk : k < 2 ^ 31) : Rt a mX5_likely 3 [.ref (a 3), .ref (a 1), .int (nI c), .int (nI k)] S (some (.long (lN (lkH v u b n c k)))) S := by
  show J _ _ _ _ 0 [_, _, _, _, .null, .null, .null] [] _
  refine j_lconst (0) dX5_likely_0 rfl ?_
  refine j_lst4 dX5_likely_1 rfl (by decide) ?_
  refine j_iconst (0) dX5_likely_3 rfl ?_
  refine j_ist6 dX5_likely_4 rfl (by decide) ?_
  exact lq_X5_likely h hc0 hw hc hk (n + 1) 0 (by omega) (by omega)


/-- one more of card i -/
def mo1 (v : Nat → Nat → Nat) (i : Nat) : Nat → Nat → Nat := up2 v 0 i (v 0 i + 1)
theorem mo1_w {v : Nat → Nat → Nat} {i w : Nat} (hw : ¬ w = 0) : mo1 v i w = v w := by
  funext j
  unfold mo1 up2
  rw [if_neg (fun z => hw z.1)]
theorem mo1_0 {v : Nat → Nat → Nat} {i j : Nat} : mo1 v i 0 j = v 0 j + if j = i then 1 else 0 := by
  unfold mo1 up2
  by_cases h : j = i
  · subst h; simp
  · simp [h]
theorem mo1_j {v : Nat → Nat → Nat} {i j w : Nat} (hj : j ≠ i) : mo1 v i w j = v w j := by
  unfold mo1 up2
  rw [if_neg (fun z => hj z.2)]
theorem wt_mo1 {v : Nat → Nat → Nat} {b : Option (List Line)} {i j : Nat} (hj : j ≠ i) (s : Nat) : wtN (mo1 v i) b j s = wtN v b j s := by
  have e : ∀ s, ownN (mo1 v i) b j s = ownN v b j s := fun s => by
    cases b with
    | none => rfl
    | some ls =>
      have : envC (mo1 v i) j s = envC v j s := by
        funext k
        unfold envC
        rw [mo1_j hj, mo1_j hj, mo1_j hj]
      show (clm (lawI (envC (mo1 v i) j s) ls)).toNatClampNeg = (clm (lawI (envC v j s) ls)).toNatClampNeg
      rw [this]
  unfold wtN
  rw [e, e, e]
theorem sum_one {f h : Nat → Nat} {i : Nat} : ∀ n, sumN (fun j => (f j + if j = i then 1 else 0) * h j) n = sumN (fun j => f j * h j) n + if i < n then h i else 0
  | 0 => by simp [sumN]
  | n + 1 => by
    rw [sumN, sumN, sum_one n]
    by_cases e : n = i
    · subst e; simp [Nat.add_mul]; omega
    · by_cases e2 : i < n
      · simp [e, e2, show i < n + 1 by omega]; omega
      · simp [e, e2, show ¬ i < n + 1 by omega]
theorem lk_mo1 {v : Nat → Nat → Nat} {b : Option (List Line)} {n i c : Nat} (hi : i < n) : lkA (mo1 v i) b n c 1 = lkH v (mo1 v i) b n c 1 + pC (mo1 v i) b i c := by
  unfold lkA lkH lkO lkG
  have := sum_one (f := v 0) (h := fun j => pC (mo1 v i) b j c ^ 1) (i := i) n
  rw [if_pos hi] at this
  rw [Nat.pow_one] at this
  rw [← this]
  refine sumN_congr (fun j _ => ?_)
  rw [mo1_0]
end MoreC

