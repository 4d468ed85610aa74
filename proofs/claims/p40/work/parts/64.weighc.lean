/-! weights: the class -/
theorem codeL_pos (ln : Line) : 0 < (codeL ln).length := by simp [codeL]; omega
theorem code_nil {ls : List Line} (h : (codeOf ls).length = 0) : ls = [] := by
  cases ls with
  | nil => rfl
  | cons ln ls =>
    have := codeL_pos ln
    rw [show codeOf (ln :: ls) = codeL ln ++ codeOf ls from rfl, List.length_append] at h
    omega
theorem wt_nil {v : Nat → Nat → Nat} {b : Option (List Line)} (h : (cdO b).length = 0) (i s : Nat) (hs : s < 2) : wtN v b i s = 1 := by
  cases b with
  | none => unfold wtN; rw [if_neg (fun z => absurd z.1 (by show ¬ (1 : Nat) = 0; decide))]; rfl
  | some ls =>
    have e : ls = [] := code_nil h
    subst e
    have h0 : ∀ s, ownN v (some []) i s = 0 := fun s => by
      show (clm 0).toNatClampNeg = 0
      decide
    unfold wtN
    rw [if_pos ⟨h0 0, h0 1⟩]
section WeighC
variable {a : Nat → Nat} {S : St} {n : Nat} {v : Nat → Nat → Nat} {b : Option (List Line)}

set_option maxRecDepth 20000 in
theorem s_X2_stands' : Rt a mX2_stands 0 [.ref (a 2)] S (some (.int (bi (0 < S.1 2 1)))) S := by
  show J _ _ _ _ 0 [_] [] _
  refine j_ald0 dX2_stands_0 ?_
  refine j_getI (k := 1) dX2_stands_1 cX2_ok (Or.inl f2_24) rfl (by decide) (by decide) (by decide) ?_
  refine j_ifle 11 dX2_stands_4 (by decide) (fun c_4 => ?_) (fun c_4 => ?_)
  · refine j_iconst (0) dX2_stands_11 rfl ?_
    refine j_zret dX2_stands_12 rfl (by decide) ?_
    exact ⟨by rw [bi_f (Int32.not_lt.mpr c_4)], rfl⟩
  refine j_iconst (1) dX2_stands_7 rfl ?_
  refine j_goto 12 dX2_stands_8 (by decide) ?_
  refine j_zret dX2_stands_12 rfl (by decide) ?_
  exact ⟨by rw [bi_t (Int32.not_le.mp c_4)], rfl⟩

set_option maxRecDepth 20000 in
theorem s_X5_held {x : Int32} : Rt a mX5_held 1 [.int x] S (some (.int (clm x))) S := by
  show J _ _ _ _ 0 [_] [] _
  refine j_iconst (0) dX5_held_0 rfl ?_
  refine j_iconst (3) dX5_held_1 rfl ?_
  refine j_ild0 dX5_held_2 ?_
  refine j_min dX5_held_3 l5_47 t_min_s t_mini t_min_c (Nat.le_of_ble_eq_true rfl) (by omega) ?_
  refine j_max dX5_held_6 l5_53 t_max_s t_mini t_max_c (Nat.le_of_ble_eq_true rfl) (by omega) ?_
  refine j_iret dX5_held_9 rfl ?_
  refine ⟨?_, rfl⟩
  congr 2
  unfold clm
  by_cases h1 : x < 3
  · rw [if_pos h1]
    by_cases h2 : x < 0
    · rw [if_pos h2, if_neg (Int32.not_lt.mpr (Int32.le_of_lt h2))]
    · rw [if_neg h2, if_neg (Int32.not_lt.mpr (Int32.le_of_lt h1))]
      by_cases h3 : 0 < x
      · rw [if_pos h3]
      · rw [if_neg h3]; exact Int32.le_antisymm (Int32.not_lt.mp h2) (Int32.not_lt.mp h3)
  · rw [if_neg h1, if_pos (by decide), if_neg (fun z => h1 (Int32.lt_trans z (by decide)))]
    by_cases h3 : 3 < x
    · rw [if_pos h3]
    · rw [if_neg h3]; exact Int32.le_antisymm (Int32.not_lt.mp h1) (Int32.not_lt.mp h3)

set_option maxRecDepth 20000 in
theorem wa_some {i : Nat} {ls : List Line} (h : TC n v S) (hb : LawC (some ls) S) (hg : GoodB (some ls)) (hi : i < 8) (hpos : 0 < (codeOf ls).length) : Rqv a mX5_weighAmong 3 [.ref (a 3), .ref (a 1), .ref (a 2), .int (nI i), .int (nI (v 0 i))] S fun S' => Kp [4, 8] S S' ∧ S'.1 (37 + i) 0 = nI (wtN v (some ls) i 0) ∧ S'.1 (37 + i) 1 = nI (wtN v (some ls) i 1) ∧ ∀ j, j < 8 → j ≠ i → ∀ k, S'.1 (37 + j) k = S.1 (37 + j) k := by
  show J _ _ _ _ 0 [_, _, _, _, _, .null, .null, .null] [] _
  refine j_iconst (1) dX5_weighAmong_0 rfl ?_
  refine j_ist5 dX5_weighAmong_1 rfl (by decide) ?_
  refine j_iconst (1) dX5_weighAmong_3 rfl ?_
  refine j_ist6 dX5_weighAmong_4 rfl (by decide) ?_
  refine j_ald2 dX5_weighAmong_6 ?_
  refine j_cV0 dX5_weighAmong_7 kX2_stands l5_33 rfl (by decide) rfl (Nat.le_of_ble_eq_true rfl) (Nat.le_of_ble_eq_true rfl) (by omega) (s_X2_stands') ?_
  refine j_ifeqB 41 dX5_weighAmong_10 (by decide) (fun c_10 => absurd c_10 (not_not_intro (by rw [hb.2.1]; exact nI_lt (a := 0) hpos (by have := hb.2.2.1; omega)))) (fun c_10 => ?_)
  refine j_ald2 dX5_weighAmong_13 ?_
  refine j_ald1 dX5_weighAmong_14 ?_
  refine j_ild3 dX5_weighAmong_15 ?_
  refine j_iconst (0) dX5_weighAmong_16 rfl ?_
  refine j_ild4 dX5_weighAmong_17 ?_
  refine j_qiV4 dX5_weighAmong_19 kX2_valueFor l5_39 rfl (by decide) rfl (Nat.le_of_ble_eq_true rfl) (Nat.le_of_ble_eq_true rfl) (by omega) (s_X2_valueFor (i := i) (s := 0) h hb hg hi (by decide)) (fun y S1 h1 => ?_)
  obtain ⟨rfl, k1⟩ := h1
  refine j_cS1 dX5_weighAmong_22 kX5_held zX5_held (Or.inl l5_43) (Nat.le_of_ble_eq_true rfl) (Nat.le_of_ble_eq_true rfl) (by omega) (s_X5_held) ?_
  refine j_top (clm_own v ls i 0) ?_
  refine j_ist5 dX5_weighAmong_25 rfl (by decide) ?_
  refine j_ald2 dX5_weighAmong_27 ?_
  refine j_ald1 dX5_weighAmong_28 ?_
  refine j_ild3 dX5_weighAmong_29 ?_
  refine j_iconst (1) dX5_weighAmong_30 rfl ?_
  refine j_ild4 dX5_weighAmong_31 ?_
  refine j_qiV4 dX5_weighAmong_33 kX2_valueFor l5_39 rfl (by decide) rfl (Nat.le_of_ble_eq_true rfl) (Nat.le_of_ble_eq_true rfl) (by omega) (s_X2_valueFor (i := i) (s := 1) (h.kp k1 (by decide)) (hb.kp k1 (by decide)) hg hi (by decide)) (fun z S2 h2 => ?_)
  obtain ⟨rfl, k2⟩ := h2
  refine j_cS1 dX5_weighAmong_36 kX5_held zX5_held (Or.inl l5_43) (Nat.le_of_ble_eq_true rfl) (Nat.le_of_ble_eq_true rfl) (by omega) (s_X5_held) ?_
  refine j_top (clm_own v ls i 1) ?_
  refine j_ist6 dX5_weighAmong_39 rfl (by decide) ?_
  have o0 := ownN_le v (some ls) i 0
  have o1 := ownN_le v (some ls) i 1
  have k3 := k1.tr k2
  refine j_ild5 dX5_weighAmong_41 ?_
  refine j_ifne 55 dX5_weighAmong_43 (by decide) (fun c_43 => ?_) (fun c_43 => ?_)
  · have q_43 : ¬ ownN v (some ls) i 0 = 0 := fun z => c_43 (by rw [z]; rfl)
    refine j_iconst (0) dX5_weighAmong_55 rfl ?_
    refine j_ist7 dX5_weighAmong_56 rfl (by decide) ?_
    refine j_ald0 dX5_weighAmong_58 ?_
    refine j_getR (k := 0) (36) dX5_weighAmong_59 cX5_ok (Or.inl f5_11) rfl (by decide) (by decide) (by decide) rfl ?_
    refine j_ild3 dX5_weighAmong_62 ?_
    refine j_aald (n := i) (37 + i) dX5_weighAmong_63 (Or.inr rfl) (by decide) rfl (by omega) (by decide) (fr_wr hi) ?_
    refine j_iconst (0) dX5_weighAmong_64 rfl ?_
    refine j_ild7 dX5_weighAmong_65 ?_
    refine j_ifeq 74 dX5_weighAmong_67 (by decide) (fun c_67 => ?_) (fun c_67 => absurd (rfl) c_67)
    refine j_ild5 dX5_weighAmong_74 ?_
    refine j_iast (n := 0) dX5_weighAmong_76 (ck_wr hi) (by omega) rfl (by decide) (by decide) ?_
    refine j_ald0 dX5_weighAmong_77 ?_
    refine j_getR (k := 0) (36) dX5_weighAmong_78 cX5_ok (Or.inl f5_11) rfl (by decide) (by decide) (by decide) rfl ?_
    refine j_ild3 dX5_weighAmong_81 ?_
    refine j_aald (n := i) (37 + i) dX5_weighAmong_82 (Or.inr rfl) (by decide) rfl (by omega) (by decide) (fr_wr hi) ?_
    refine j_iconst (1) dX5_weighAmong_83 rfl ?_
    refine j_ild7 dX5_weighAmong_84 ?_
    refine j_ifeq 93 dX5_weighAmong_86 (by decide) (fun c_86 => ?_) (fun c_86 => absurd (rfl) c_86)
    refine j_ild6 dX5_weighAmong_93 ?_
    refine j_iast (n := 1) dX5_weighAmong_95 (ck_wr hi) (by omega) rfl (by decide) (by decide) ?_
    refine j_vret dX5_weighAmong_96 rfl ?_
    exact ⟨rfl, Kp_uI (Kp_uI (k3.wk (by simp)) (by rw [rg_wr hi]; decide)) (by rw [rg_wr hi]; decide), by rw [uI_at, if_neg (by omega), uI_at, if_pos ⟨rfl, rfl⟩, wtN, if_neg (fun z => q_43 z.1)], by rw [uI_at, if_pos ⟨rfl, rfl⟩, wtN, if_neg (fun z => q_43 z.1)], fun j hj8 hj k => by rw [uI_at, if_neg (by omega), uI_at, if_neg (by omega)]; exact k3.i (by rw [rg_wr hj8]; decide)⟩
  have q_43 : ownN v (some ls) i 0 = 0 := (nI_eq (a := ownN v (some ls) i 0) (b := 0) (by omega) (by decide)).mp (Classical.not_not.mp c_43)
  refine j_ild6 dX5_weighAmong_46 ?_
  refine j_ifne 55 dX5_weighAmong_48 (by decide) (fun c_48 => ?_) (fun c_48 => ?_)
  · have q_48 : ¬ ownN v (some ls) i 1 = 0 := fun z => c_48 (by rw [z]; rfl)
    refine j_iconst (0) dX5_weighAmong_55 rfl ?_
    refine j_ist7 dX5_weighAmong_56 rfl (by decide) ?_
    refine j_ald0 dX5_weighAmong_58 ?_
    refine j_getR (k := 0) (36) dX5_weighAmong_59 cX5_ok (Or.inl f5_11) rfl (by decide) (by decide) (by decide) rfl ?_
    refine j_ild3 dX5_weighAmong_62 ?_
    refine j_aald (n := i) (37 + i) dX5_weighAmong_63 (Or.inr rfl) (by decide) rfl (by omega) (by decide) (fr_wr hi) ?_
    refine j_iconst (0) dX5_weighAmong_64 rfl ?_
    refine j_ild7 dX5_weighAmong_65 ?_
    refine j_ifeq 74 dX5_weighAmong_67 (by decide) (fun c_67 => ?_) (fun c_67 => absurd (rfl) c_67)
    refine j_ild5 dX5_weighAmong_74 ?_
    refine j_iast (n := 0) dX5_weighAmong_76 (ck_wr hi) (by omega) rfl (by decide) (by decide) ?_
    refine j_ald0 dX5_weighAmong_77 ?_
    refine j_getR (k := 0) (36) dX5_weighAmong_78 cX5_ok (Or.inl f5_11) rfl (by decide) (by decide) (by decide) rfl ?_
    refine j_ild3 dX5_weighAmong_81 ?_
    refine j_aald (n := i) (37 + i) dX5_weighAmong_82 (Or.inr rfl) (by decide) rfl (by omega) (by decide) (fr_wr hi) ?_
    refine j_iconst (1) dX5_weighAmong_83 rfl ?_
    refine j_ild7 dX5_weighAmong_84 ?_
    refine j_ifeq 93 dX5_weighAmong_86 (by decide) (fun c_86 => ?_) (fun c_86 => absurd (rfl) c_86)
    refine j_ild6 dX5_weighAmong_93 ?_
    refine j_iast (n := 1) dX5_weighAmong_95 (ck_wr hi) (by omega) rfl (by decide) (by decide) ?_
    refine j_vret dX5_weighAmong_96 rfl ?_
    exact ⟨rfl, Kp_uI (Kp_uI (k3.wk (by simp)) (by rw [rg_wr hi]; decide)) (by rw [rg_wr hi]; decide), by rw [uI_at, if_neg (by omega), uI_at, if_pos ⟨rfl, rfl⟩, wtN, if_neg (fun z => q_48 z.2)], by rw [uI_at, if_pos ⟨rfl, rfl⟩, wtN, if_neg (fun z => q_48 z.2)], fun j hj8 hj k => by rw [uI_at, if_neg (by omega), uI_at, if_neg (by omega)]; exact k3.i (by rw [rg_wr hj8]; decide)⟩
  have q_48 : ownN v (some ls) i 1 = 0 := (nI_eq (a := ownN v (some ls) i 1) (b := 0) (by omega) (by decide)).mp (Classical.not_not.mp c_48)
  refine j_iconst (1) dX5_weighAmong_51 rfl ?_
  refine j_goto 56 dX5_weighAmong_52 (by decide) ?_
  refine j_ist7 dX5_weighAmong_56 rfl (by decide) ?_
  refine j_ald0 dX5_weighAmong_58 ?_
  refine j_getR (k := 0) (36) dX5_weighAmong_59 cX5_ok (Or.inl f5_11) rfl (by decide) (by decide) (by decide) rfl ?_
  refine j_ild3 dX5_weighAmong_62 ?_
  refine j_aald (n := i) (37 + i) dX5_weighAmong_63 (Or.inr rfl) (by decide) rfl (by omega) (by decide) (fr_wr hi) ?_
  refine j_iconst (0) dX5_weighAmong_64 rfl ?_
  refine j_ild7 dX5_weighAmong_65 ?_
  refine j_ifeq 74 dX5_weighAmong_67 (by decide) (fun c_67 => absurd c_67 (by decide)) (fun c_67 => ?_)
  refine j_iconst (1) dX5_weighAmong_70 rfl ?_
  refine j_goto 76 dX5_weighAmong_71 (by decide) ?_
  refine j_iast (n := 0) dX5_weighAmong_76 (ck_wr hi) (by omega) rfl (by decide) (by decide) ?_
  refine j_ald0 dX5_weighAmong_77 ?_
  refine j_getR (k := 0) (36) dX5_weighAmong_78 cX5_ok (Or.inl f5_11) rfl (by decide) (by decide) (by decide) rfl ?_
  refine j_ild3 dX5_weighAmong_81 ?_
  refine j_aald (n := i) (37 + i) dX5_weighAmong_82 (Or.inr rfl) (by decide) rfl (by omega) (by decide) (fr_wr hi) ?_
  refine j_iconst (1) dX5_weighAmong_83 rfl ?_
  refine j_ild7 dX5_weighAmong_84 ?_
  refine j_ifeq 93 dX5_weighAmong_86 (by decide) (fun c_86 => absurd c_86 (by decide)) (fun c_86 => ?_)
  refine j_iconst (1) dX5_weighAmong_89 rfl ?_
  refine j_goto 95 dX5_weighAmong_90 (by decide) ?_
  refine j_iast (n := 1) dX5_weighAmong_95 (ck_wr hi) (by omega) rfl (by decide) (by decide) ?_
  refine j_vret dX5_weighAmong_96 rfl ?_
  exact ⟨rfl, Kp_uI (Kp_uI (k3.wk (by simp)) (by rw [rg_wr hi]; decide)) (by rw [rg_wr hi]; decide), by rw [uI_at, if_neg (by omega), uI_at, if_pos ⟨rfl, rfl⟩, wtN, if_pos ⟨q_43, q_48⟩]; rfl, by rw [uI_at, if_pos ⟨rfl, rfl⟩, wtN, if_pos ⟨q_43, q_48⟩]; rfl, fun j hj8 hj k => by rw [uI_at, if_neg (by omega), uI_at, if_neg (by omega)]; exact k3.i (by rw [rg_wr hj8]; decide)⟩

set_option maxRecDepth 20000 in
theorem wa_none {i : Nat} (hb : LawC b S) (hi : i < 8) (h0 : (cdO b).length = 0) : Rqv a mX5_weighAmong 3 [.ref (a 3), .ref (a 1), .ref (a 2), .int (nI i), .int (nI (v 0 i))] S fun S' => Kp [4, 8] S S' ∧ S'.1 (37 + i) 0 = nI (wtN v b i 0) ∧ S'.1 (37 + i) 1 = nI (wtN v b i 1) ∧ ∀ j, j < 8 → j ≠ i → ∀ k, S'.1 (37 + j) k = S.1 (37 + j) k := by
  show J _ _ _ _ 0 [_, _, _, _, _, .null, .null, .null] [] _
  refine j_iconst (1) dX5_weighAmong_0 rfl ?_
  refine j_ist5 dX5_weighAmong_1 rfl (by decide) ?_
  refine j_iconst (1) dX5_weighAmong_3 rfl ?_
  refine j_ist6 dX5_weighAmong_4 rfl (by decide) ?_
  refine j_ald2 dX5_weighAmong_6 ?_
  refine j_cV0 dX5_weighAmong_7 kX2_stands l5_33 rfl (by decide) rfl (Nat.le_of_ble_eq_true rfl) (Nat.le_of_ble_eq_true rfl) (by omega) (s_X2_stands') ?_
  refine j_ifeqB 41 dX5_weighAmong_10 (by decide) (fun c_10 => ?_) (fun c_10 => absurd c_10 (by rw [hb.2.1, h0]; decide))
  refine j_ild5 dX5_weighAmong_41 ?_
  refine j_ifne 55 dX5_weighAmong_43 (by decide) (fun c_43 => ?_) (fun c_43 => absurd (by decide) c_43)
  refine j_iconst (0) dX5_weighAmong_55 rfl ?_
  refine j_ist7 dX5_weighAmong_56 rfl (by decide) ?_
  refine j_ald0 dX5_weighAmong_58 ?_
  refine j_getR (k := 0) (36) dX5_weighAmong_59 cX5_ok (Or.inl f5_11) rfl (by decide) (by decide) (by decide) rfl ?_
  refine j_ild3 dX5_weighAmong_62 ?_
  refine j_aald (n := i) (37 + i) dX5_weighAmong_63 (Or.inr rfl) (by decide) rfl (by omega) (by decide) (fr_wr hi) ?_
  refine j_iconst (0) dX5_weighAmong_64 rfl ?_
  refine j_ild7 dX5_weighAmong_65 ?_
  refine j_ifeq 74 dX5_weighAmong_67 (by decide) (fun c_67 => ?_) (fun c_67 => absurd (rfl) c_67)
  refine j_ild5 dX5_weighAmong_74 ?_
  refine j_iast (n := 0) dX5_weighAmong_76 (ck_wr hi) (by omega) rfl (by decide) (by decide) ?_
  refine j_ald0 dX5_weighAmong_77 ?_
  refine j_getR (k := 0) (36) dX5_weighAmong_78 cX5_ok (Or.inl f5_11) rfl (by decide) (by decide) (by decide) rfl ?_
  refine j_ild3 dX5_weighAmong_81 ?_
  refine j_aald (n := i) (37 + i) dX5_weighAmong_82 (Or.inr rfl) (by decide) rfl (by omega) (by decide) (fr_wr hi) ?_
  refine j_iconst (1) dX5_weighAmong_83 rfl ?_
  refine j_ild7 dX5_weighAmong_84 ?_
  refine j_ifeq 93 dX5_weighAmong_86 (by decide) (fun c_86 => ?_) (fun c_86 => absurd (rfl) c_86)
  refine j_ild6 dX5_weighAmong_93 ?_
  refine j_iast (n := 1) dX5_weighAmong_95 (ck_wr hi) (by omega) rfl (by decide) (by decide) ?_
  refine j_vret dX5_weighAmong_96 rfl ?_
  exact ⟨rfl, Kp_uI (Kp_uI Kp.rf (by rw [rg_wr hi]; decide)) (by rw [rg_wr hi]; decide), by rw [uI_at, if_neg (by omega), uI_at, if_pos ⟨rfl, rfl⟩, wt_nil h0 i 0 (by decide)]; rfl, by rw [uI_at, if_pos ⟨rfl, rfl⟩, wt_nil h0 i 1 (by decide)]; rfl, fun j hj8 hj k => by rw [uI_at, if_neg (by omega), uI_at, if_neg (by omega)]⟩

theorem s_X5_weighAmong {i : Nat} (h : TC n v S) (hb : LawC b S) (hg : GoodB b) (hi : i < 8) : Rqv a mX5_weighAmong 3 [.ref (a 3), .ref (a 1), .ref (a 2), .int (nI i), .int (nI (v 0 i))] S fun S' => Kp [4, 8] S S' ∧ S'.1 (37 + i) 0 = nI (wtN v b i 0) ∧ S'.1 (37 + i) 1 = nI (wtN v b i 1) ∧ ∀ j, j < 8 → j ≠ i → ∀ k, S'.1 (37 + j) k = S.1 (37 + j) k := by
  rcases Nat.eq_zero_or_pos (cdO b).length with h0 | h0
  · exact wa_none hb hi h0
  · cases b with
    | none => exact absurd h0 (Nat.lt_irrefl _)
    | some ls => exact wa_some h hb hg hi h0
set_option maxRecDepth 20000 in
theorem s_X5_weigh {i : Nat} (h : TC n v S) (hb : LawC b S) (hg : GoodB b) (hi : i < 8) : Rqv a mX5_weigh 4 [.ref (a 3), .ref (a 1), .ref (a 2), .int (nI i)] S (fun S' => Kp [4, 8] S S' ∧ S'.1 (37 + i) 0 = nI (wtN v b i 0) ∧ S'.1 (37 + i) 1 = nI (wtN v b i 1) ∧ ∀ j, j < 8 → j ≠ i → ∀ k, S'.1 (37 + j) k = S.1 (37 + j) k) := by
  show J _ _ _ _ 0 [_, _, _, _] [] _
  refine j_ald0 dX5_weigh_0 ?_
  refine j_ald1 dX5_weigh_1 ?_
  refine j_ald2 dX5_weigh_2 ?_
  refine j_ild3 dX5_weigh_3 ?_
  refine j_ald1 dX5_weigh_4 ?_
  refine j_getR (k := 0) (15) dX5_weigh_5 cX6_ok (Or.inr ⟨_, f5_26⟩) rfl (by decide) (by decide) (by decide) rfl ?_
  refine j_iconst (0) dX5_weigh_8 rfl ?_
  refine j_aald (n := 0) (16) dX5_weigh_9 (Or.inr rfl) (by decide) rfl (by decide) (by decide) rfl ?_
  refine j_ild3 dX5_weigh_10 ?_
  refine j_iald (n := i) dX5_weigh_11 rfl (by decide) rfl (by omega) (by decide) ?_
  refine j_top (y := nI (v 0 i)) (h.2.2.1 0 (by decide) i hi) ?_
  refine j_qvV4 dX5_weigh_12 kX5_weighAmong l5_29 rfl (by decide) rfl (Nat.le_of_ble_eq_true rfl) (Nat.le_of_ble_eq_true rfl) (by omega) (s_X5_weighAmong h hb hg hi) (fun S1 h1 => ?_)
  refine j_vret dX5_weigh_15 rfl ?_
  exact ⟨rfl, h1⟩

set_option maxRecDepth 20000 in
theorem lp_X5_weighAll (h : TC n v S) (hb : LawC b S) (hg : GoodB b) : ∀ (fu : Nat) (i : Nat) (S1 : St), n - i < fu → (i ≤ n) → (Kp [4, 8] S S1) → (WCq v b i S1) → J a mX5_weighAll 5 (gm a fun r S' => r = none ∧ Kp [4, 8] S S' ∧ WCq v b n S') 2 [.ref (a 3), .ref (a 1), .ref (a 2), .int (nI i)] [] S1 := by
  intro fu
  induction fu with
  | zero => intro i S1 hk; exact absurd hk (Nat.not_lt_zero _)
  | succ fu ih =>
    intro i S1 hk hi hkp hw
    have hn8 := h.2.1
    refine j_ild3 dX5_weighAll_2 ?_
    refine j_ald1 dX5_weighAll_3 ?_
    refine j_getI (k := 1) dX5_weighAll_4 cX6_ok (Or.inr ⟨_, f5_16⟩) rfl (by decide) (by decide) (by decide) ?_
    refine j_top (y := nI n) ((h.kp hkp (by decide)).1) ?_
    refine j_icmpge 23 dX5_weighAll_7 (by decide) (fun c_7 => ?_) (fun c_7 => ?_)
    · have q_7 : i = n := by have := (nI_leI (a := n) (b := i) (by omega) (by omega)).mp c_7; omega
      subst q_7
      refine j_vret dX5_weighAll_23 rfl ?_
      exact ⟨rfl, hkp, hw⟩
    have q_7 : i < n := Nat.not_le.mp (fun z => c_7 ((nI_leI (a := n) (b := i) (by omega) (by omega)).mpr z))
    refine j_ald0 dX5_weighAll_10 ?_
    refine j_ald1 dX5_weighAll_11 ?_
    refine j_ald2 dX5_weighAll_12 ?_
    refine j_ild3 dX5_weighAll_13 ?_
    refine j_qvV3 dX5_weighAll_14 kX5_weigh l5_22 rfl (by decide) rfl (Nat.le_of_ble_eq_true rfl) (Nat.le_of_ble_eq_true rfl) (by omega) (s_X5_weigh (h.kp hkp (by decide)) (hb.kp hkp (by decide)) hg (show i < 8 by omega)) (fun S2 h2 => ?_)
    refine j_iinc3 (nI (i + 1)) dX5_weighAll_17 (nI_1 i) rfl (by decide) ?_
    refine j_goto 2 dX5_weighAll_20 (by decide) ?_
    refine ih (i + 1) S2 (by omega) (by omega) (hkp.tr h2.1) (fun j hj => ?_)
    by_cases c : j = i
    · subst c; exact ⟨h2.2.1, h2.2.2.1⟩
    · rw [h2.2.2.2 j (by omega) c, h2.2.2.2 j (by omega) c]; exact hw j (by omega)

set_option maxRecDepth 20000 in
theorem s_X5_weighAll (h : TC n v S) (hb : LawC b S) (hg : GoodB b) : Rqv a mX5_weighAll 5 [.ref (a 3), .ref (a 1), .ref (a 2)] S fun S' => Kp [4, 8] S S' ∧ WCq v b n S' := by
  show J _ _ _ _ 0 [_, _, _, .null] [] _
  refine j_iconst (0) dX5_weighAll_0 rfl ?_
  refine j_ist3 dX5_weighAll_1 rfl (by decide) ?_
  exact lp_X5_weighAll h hb hg (n + 1) 0 S (by omega) (by omega) Kp.rf (fun i hi => absurd hi (Nat.not_lt_zero _))

end WeighC

