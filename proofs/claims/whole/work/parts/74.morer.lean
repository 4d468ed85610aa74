/-! chances with one more of a card: the reference -/
/-- the cards alone, of one of which there may be one more -/
def TRw (n : Nat) (v : Nat → Nat → Nat) (S : St) : Prop := S.1 61 1 = nI n ∧ n ≤ 8 ∧ (∀ w, w < 3 → ∀ i, i < 8 → S.1 (62 + w) i = nI (v w i)) ∧ ∀ w, w < 3 → ∀ i, i < 8 → v w i ≤ mostN w + 1
theorem TRw.kp {n : Nat} {v : Nat → Nat → Nat} {S S' : St} {rs : List Nat} (h : TRw n v S) (hk : Kp rs S S') (hr : 11 ∉ rs) : TRw n v S' := by
  refine ⟨by rw [hk.i (show rg 61 1 ∉ rs from hr)]; exact h.1, h.2.1, fun w hw i hi => ?_, h.2.2.2⟩
  rw [hk.i, h.2.2.1 w hw i hi]
  rcases (show w = 0 ∨ w = 1 ∨ w = 2 by omega) with rfl | rfl | rfl <;> exact hr
theorem TRw.many {n : Nat} {v : Nat → Nat → Nat} {S : St} (h : TRw n v S) {i : Nat} (hi : i < 8) : S.1 62 i = nI (v 0 i) := h.2.2.1 0 (by decide) i hi
theorem TRw.first {n : Nat} {v : Nat → Nat → Nat} {S : St} (h : TRw n v S) {i : Nat} (hi : i < 8) : S.1 63 i = nI (v 1 i) := h.2.2.1 1 (by decide) i hi
theorem TRw.second {n : Nat} {v : Nat → Nat → Nat} {S : St} (h : TRw n v S) {i : Nat} (hi : i < 8) : S.1 64 i = nI (v 2 i) := h.2.2.1 2 (by decide) i hi
theorem TR.w {n : Nat} {v : Nat → Nat → Nat} {S : St} (h : TR n v S) : TRw n v S := ⟨h.1, h.2.1, fun w hw i hi => by
  rcases (show w = 0 ∨ w = 1 ∨ w = 2 by omega) with rfl | rfl | rfl
  · exact h.many hi
  · exact h.first hi
  · exact h.second hi, fun w hw i hi => Nat.le_succ_of_le (h.2.2.2 w (by omega) i hi)⟩
theorem TR.wmo {n : Nat} {v : Nat → Nat → Nat} {S : St} (h : TR n v S) (i : Nat) : TRw n (mo1 v i) (uI S 62 i (nI (v 0 i + 1))) := by
  refine ⟨by rw [uI_at, if_neg (by omega)]; exact h.1, h.2.1, fun w hw j hj => ?_, fun w hw j hj => ?_⟩
  · rw [uI_at]
    by_cases e : w = 0 ∧ j = i
    · obtain ⟨rfl, rfl⟩ := e
      rw [if_pos ⟨rfl, rfl⟩, mo1_0, if_pos rfl]
    · rw [if_neg (by omega), h.w.2.2.1 w hw j hj]
      unfold mo1 up2
      rw [if_neg e]
  · have := h.2.2.2 w (by omega) j hj
    unfold mo1 up2
    split
    · next e => obtain ⟨rfl, rfl⟩ := e; omega
    · omega
section MoreR
variable {a : Nat → Nat} {S : St} {n : Nat} {v : Nat → Nat → Nat} {b : Option (List Line)}

set_option maxRecDepth 20000 in
theorem gw_some {i s : Nat} {ls : List Line} (h : TRw n v S) (hb : LawR (some ls) S) (hg : GoodB (some ls)) (hi : i < 8) (hs : s < 2) : Rqi a mX8_ownWeight 3 [.ref (a 61), .int (nI i), .int (nI s)] S fun y S' => y = nI (ownN v (some ls) i s) ∧ Kp [14] S S' := by
  show J _ _ _ _ 0 [_, _, _, .null] [] _
  refine j_ald0 dX8_ownWeight_0 ?_
  refine j_getI (k := 36) dX8_ownWeight_1 cX8_ok (Or.inl f8_265) rfl (by decide) (by decide) (by decide) ?_
  refine j_ifne 9 dX8_ownWeight_4 (by decide) (fun c_4 => ?_) (fun c_4 => absurd (by rw [hb.1]; decide) c_4)
  refine j_ald0 dX8_ownWeight_9 ?_
  refine j_getR (k := 34) (84) dX8_ownWeight_10 cX8_ok (Or.inl f8_90) rfl (by decide) (by decide) (by decide) rfl ?_
  refine j_iconst (0) dX8_ownWeight_13 rfl ?_
  refine j_ild2 dX8_ownWeight_14 ?_
  refine j_ifne 27 dX8_ownWeight_15 (by decide) (fun c_15 => ?_) (fun c_15 => ?_)
  · have q_15 : s = 1 := by
      have : ¬ s = 0 := fun z => c_15 (by rw [z]; rfl)
      omega
    subst q_15
    refine j_ald0 dX8_ownWeight_27 ?_
    refine j_getR (k := 4) (64) dX8_ownWeight_28 cX8_ok (Or.inl f8_18) rfl (by decide) (by decide) (by decide) rfl ?_
    refine j_ild1 dX8_ownWeight_31 ?_
    refine j_iald (n := i) dX8_ownWeight_32 rfl (by decide) rfl (by omega) (by decide) ?_
    refine j_top (y := nI (v 2 i)) (h.second hi) ?_
    refine j_iast (n := 0) dX8_ownWeight_33 rfl (by decide) rfl (by decide) (by decide) ?_
    refine j_ald0 dX8_ownWeight_34 ?_
    refine j_getR (k := 34) (84) dX8_ownWeight_35 cX8_ok (Or.inl f8_90) rfl (by decide) (by decide) (by decide) rfl ?_
    refine j_iconst (1) dX8_ownWeight_38 rfl ?_
    refine j_ild2 dX8_ownWeight_39 ?_
    refine j_ifne 52 dX8_ownWeight_40 (by decide) (fun c_40 => ?_) (fun c_40 => absurd (by decide) c_40)
    refine j_ald0 dX8_ownWeight_52 ?_
    refine j_getR (k := 3) (63) dX8_ownWeight_53 cX8_ok (Or.inl f8_15) rfl (by decide) (by decide) (by decide) rfl ?_
    refine j_ild1 dX8_ownWeight_56 ?_
    refine j_iald (n := i) dX8_ownWeight_57 rfl (by decide) rfl (by omega) (by decide) ?_
    refine j_top (y := nI (v 1 i)) (by rw [uI_at, if_neg (by omega)]; exact h.first hi) ?_
    refine j_iast (n := 1) dX8_ownWeight_58 rfl (by decide) rfl (by decide) (by decide) ?_
    refine j_ald0 dX8_ownWeight_59 ?_
    refine j_getR (k := 34) (84) dX8_ownWeight_60 cX8_ok (Or.inl f8_90) rfl (by decide) (by decide) (by decide) rfl ?_
    refine j_iconst (2) dX8_ownWeight_63 rfl ?_
    refine j_ild1 dX8_ownWeight_64 ?_
    refine j_iast (n := 2) dX8_ownWeight_65 rfl (by decide) rfl (by decide) (by decide) ?_
    refine j_ald0 dX8_ownWeight_66 ?_
    refine j_getR (k := 34) (84) dX8_ownWeight_67 cX8_ok (Or.inl f8_90) rfl (by decide) (by decide) (by decide) rfl ?_
    refine j_iconst (3) dX8_ownWeight_70 rfl ?_
    refine j_ald0 dX8_ownWeight_71 ?_
    refine j_getR (k := 2) (62) dX8_ownWeight_72 cX8_ok (Or.inl f8_9) rfl (by decide) (by decide) (by decide) rfl ?_
    refine j_ild1 dX8_ownWeight_75 ?_
    refine j_iald (n := i) dX8_ownWeight_76 rfl (by decide) rfl (by omega) (by decide) ?_
    refine j_top (y := nI (v 0 i)) (by rw [uI_at, if_neg (by omega), uI_at, if_neg (by omega), uI_at, if_neg (by omega)]; exact h.many hi) ?_
    refine j_iast (n := 3) dX8_ownWeight_77 rfl (by decide) rfl (by decide) (by decide) ?_
    refine j_ald0 dX8_ownWeight_78 ?_
    refine j_getR (k := 34) (84) dX8_ownWeight_79 cX8_ok (Or.inl f8_90) rfl (by decide) (by decide) (by decide) rfl ?_
    refine j_iconst (4) dX8_ownWeight_82 rfl ?_
    refine j_ild2 dX8_ownWeight_83 ?_
    refine j_iast (n := 4) dX8_ownWeight_84 rfl (by decide) rfl (by decide) (by decide) ?_
    refine j_ald0 dX8_ownWeight_85 ?_
    refine j_iconst (0) dX8_ownWeight_86 rfl ?_
    have hkf : Kp [14] S (uI (uI (uI (uI (uI S 84 0 (nI (v (1 + 1) i))) 84 1 (nI (v (2 - 1) i))) 84 2 (nI i)) 84 3 (nI (v 0 i))) 84 4 (nI 1)) := Kp_uI (Kp_uI (Kp_uI (Kp_uI (Kp_uI Kp.rf (by decide)) (by decide)) (by decide)) (by decide)) (by decide)
    have hfs : ∀ k, k < 5 → (uI (uI (uI (uI (uI S 84 0 (nI (v (1 + 1) i))) 84 1 (nI (v (2 - 1) i))) 84 2 (nI i)) 84 3 (nI (v 0 i))) 84 4 (nI 1)).1 84 k = envC v i 1 k := by
      intro k hk
      rcases (show k = 0 ∨ k = 1 ∨ k = 2 ∨ k = 3 ∨ k = 4 by omega) with rfl | rfl | rfl | rfl | rfl <;> simp [uI_at, envC]
    refine j_qiV1 dX8_ownWeight_87 kX8_gives l8_269 rfl (by decide) rfl (Nat.le_of_ble_eq_true rfl) (Nat.le_of_ble_eq_true rfl) (by omega) (s_X8_gives (e := envC v i 1) (hg _ rfl) (hb.2.kp hkf (by decide)) hfs) (fun y S1 h1 => ?_)
    obtain ⟨rfl, hk1⟩ := h1
    refine j_ist3 dX8_ownWeight_90 rfl (by decide) ?_
    refine j_ild3 dX8_ownWeight_91 ?_
    refine j_ifge 99 dX8_ownWeight_92 (by decide) (fun c_92 => ?_) (fun c_92 => ?_)
    · refine j_ild3 dX8_ownWeight_99 ?_
      refine j_iconst (3) dX8_ownWeight_100 rfl ?_
      refine j_icmple 108 dX8_ownWeight_101 (by decide) (fun c_101 => ?_) (fun c_101 => ?_)
      · refine j_ild3 dX8_ownWeight_108 ?_
        refine j_iret dX8_ownWeight_109 rfl ?_
        exact ⟨_, rfl, by rw [← clm_own, clm, if_neg (Int32.not_lt.mpr c_92), if_neg (Int32.not_lt.mpr c_101)], hkf.tr hk1⟩
      refine j_iconst (3) dX8_ownWeight_104 rfl ?_
      refine j_goto 109 dX8_ownWeight_105 (by decide) ?_
      refine j_iret dX8_ownWeight_109 rfl ?_
      exact ⟨_, rfl, by rw [← clm_own, clm, if_neg (Int32.not_lt.mpr c_92), if_pos (Int32.not_le.mp c_101)], hkf.tr hk1⟩
    refine j_iconst (0) dX8_ownWeight_95 rfl ?_
    refine j_goto 109 dX8_ownWeight_96 (by decide) ?_
    refine j_iret dX8_ownWeight_109 rfl ?_
    exact ⟨_, rfl, by rw [← clm_own, clm, if_pos (Int32.not_le.mp c_92)], hkf.tr hk1⟩
  have q_15 : s = 0 := (nI_eq (a := s) (b := 0) (by omega) (by decide)).mp (Classical.not_not.mp c_15)
  subst q_15
  refine j_ald0 dX8_ownWeight_18 ?_
  refine j_getR (k := 3) (63) dX8_ownWeight_19 cX8_ok (Or.inl f8_15) rfl (by decide) (by decide) (by decide) rfl ?_
  refine j_ild1 dX8_ownWeight_22 ?_
  refine j_iald (n := i) dX8_ownWeight_23 rfl (by decide) rfl (by omega) (by decide) ?_
  refine j_top (y := nI (v 1 i)) (h.first hi) ?_
  refine j_goto 33 dX8_ownWeight_24 (by decide) ?_
  refine j_iast (n := 0) dX8_ownWeight_33 rfl (by decide) rfl (by decide) (by decide) ?_
  refine j_ald0 dX8_ownWeight_34 ?_
  refine j_getR (k := 34) (84) dX8_ownWeight_35 cX8_ok (Or.inl f8_90) rfl (by decide) (by decide) (by decide) rfl ?_
  refine j_iconst (1) dX8_ownWeight_38 rfl ?_
  refine j_ild2 dX8_ownWeight_39 ?_
  refine j_ifne 52 dX8_ownWeight_40 (by decide) (fun c_40 => absurd c_40 (not_not_intro rfl)) (fun c_40 => ?_)
  refine j_ald0 dX8_ownWeight_43 ?_
  refine j_getR (k := 4) (64) dX8_ownWeight_44 cX8_ok (Or.inl f8_18) rfl (by decide) (by decide) (by decide) rfl ?_
  refine j_ild1 dX8_ownWeight_47 ?_
  refine j_iald (n := i) dX8_ownWeight_48 rfl (by decide) rfl (by omega) (by decide) ?_
  refine j_top (y := nI (v 2 i)) (by rw [uI_at, if_neg (by omega)]; exact h.second hi) ?_
  refine j_goto 58 dX8_ownWeight_49 (by decide) ?_
  refine j_iast (n := 1) dX8_ownWeight_58 rfl (by decide) rfl (by decide) (by decide) ?_
  refine j_ald0 dX8_ownWeight_59 ?_
  refine j_getR (k := 34) (84) dX8_ownWeight_60 cX8_ok (Or.inl f8_90) rfl (by decide) (by decide) (by decide) rfl ?_
  refine j_iconst (2) dX8_ownWeight_63 rfl ?_
  refine j_ild1 dX8_ownWeight_64 ?_
  refine j_iast (n := 2) dX8_ownWeight_65 rfl (by decide) rfl (by decide) (by decide) ?_
  refine j_ald0 dX8_ownWeight_66 ?_
  refine j_getR (k := 34) (84) dX8_ownWeight_67 cX8_ok (Or.inl f8_90) rfl (by decide) (by decide) (by decide) rfl ?_
  refine j_iconst (3) dX8_ownWeight_70 rfl ?_
  refine j_ald0 dX8_ownWeight_71 ?_
  refine j_getR (k := 2) (62) dX8_ownWeight_72 cX8_ok (Or.inl f8_9) rfl (by decide) (by decide) (by decide) rfl ?_
  refine j_ild1 dX8_ownWeight_75 ?_
  refine j_iald (n := i) dX8_ownWeight_76 rfl (by decide) rfl (by omega) (by decide) ?_
  refine j_top (y := nI (v 0 i)) (by rw [uI_at, if_neg (by omega), uI_at, if_neg (by omega), uI_at, if_neg (by omega)]; exact h.many hi) ?_
  refine j_iast (n := 3) dX8_ownWeight_77 rfl (by decide) rfl (by decide) (by decide) ?_
  refine j_ald0 dX8_ownWeight_78 ?_
  refine j_getR (k := 34) (84) dX8_ownWeight_79 cX8_ok (Or.inl f8_90) rfl (by decide) (by decide) (by decide) rfl ?_
  refine j_iconst (4) dX8_ownWeight_82 rfl ?_
  refine j_ild2 dX8_ownWeight_83 ?_
  refine j_iast (n := 4) dX8_ownWeight_84 rfl (by decide) rfl (by decide) (by decide) ?_
  refine j_ald0 dX8_ownWeight_85 ?_
  refine j_iconst (0) dX8_ownWeight_86 rfl ?_
  have hkf : Kp [14] S (uI (uI (uI (uI (uI S 84 0 (nI (v (1 + 0) i))) 84 1 (nI (v (2 - 0) i))) 84 2 (nI i)) 84 3 (nI (v 0 i))) 84 4 (nI 0)) := Kp_uI (Kp_uI (Kp_uI (Kp_uI (Kp_uI Kp.rf (by decide)) (by decide)) (by decide)) (by decide)) (by decide)
  have hfs : ∀ k, k < 5 → (uI (uI (uI (uI (uI S 84 0 (nI (v (1 + 0) i))) 84 1 (nI (v (2 - 0) i))) 84 2 (nI i)) 84 3 (nI (v 0 i))) 84 4 (nI 0)).1 84 k = envC v i 0 k := by
    intro k hk
    rcases (show k = 0 ∨ k = 1 ∨ k = 2 ∨ k = 3 ∨ k = 4 by omega) with rfl | rfl | rfl | rfl | rfl <;> simp [uI_at, envC]
  refine j_qiV1 dX8_ownWeight_87 kX8_gives l8_269 rfl (by decide) rfl (Nat.le_of_ble_eq_true rfl) (Nat.le_of_ble_eq_true rfl) (by omega) (s_X8_gives (e := envC v i 0) (hg _ rfl) (hb.2.kp hkf (by decide)) hfs) (fun y S1 h1 => ?_)
  obtain ⟨rfl, hk1⟩ := h1
  refine j_ist3 dX8_ownWeight_90 rfl (by decide) ?_
  refine j_ild3 dX8_ownWeight_91 ?_
  refine j_ifge 99 dX8_ownWeight_92 (by decide) (fun c_92 => ?_) (fun c_92 => ?_)
  · refine j_ild3 dX8_ownWeight_99 ?_
    refine j_iconst (3) dX8_ownWeight_100 rfl ?_
    refine j_icmple 108 dX8_ownWeight_101 (by decide) (fun c_101 => ?_) (fun c_101 => ?_)
    · refine j_ild3 dX8_ownWeight_108 ?_
      refine j_iret dX8_ownWeight_109 rfl ?_
      exact ⟨_, rfl, by rw [← clm_own, clm, if_neg (Int32.not_lt.mpr c_92), if_neg (Int32.not_lt.mpr c_101)], hkf.tr hk1⟩
    refine j_iconst (3) dX8_ownWeight_104 rfl ?_
    refine j_goto 109 dX8_ownWeight_105 (by decide) ?_
    refine j_iret dX8_ownWeight_109 rfl ?_
    exact ⟨_, rfl, by rw [← clm_own, clm, if_neg (Int32.not_lt.mpr c_92), if_pos (Int32.not_le.mp c_101)], hkf.tr hk1⟩
  refine j_iconst (0) dX8_ownWeight_95 rfl ?_
  refine j_goto 109 dX8_ownWeight_96 (by decide) ?_
  refine j_iret dX8_ownWeight_109 rfl ?_
  exact ⟨_, rfl, by rw [← clm_own, clm, if_pos (Int32.not_le.mp c_92)], hkf.tr hk1⟩


set_option maxRecDepth 20000 in
theorem gw_none {i s : Nat} (hb : LawR none S) : Rqi a mX8_ownWeight 3 [.ref (a 61), .int (nI i), .int (nI s)] S fun y S' => y = nI (ownN v none i s) ∧ Kp [14] S S' := by
  show J _ _ _ _ 0 [_, _, _, .null] [] _
  refine j_ald0 dX8_ownWeight_0 ?_
  refine j_getI (k := 36) dX8_ownWeight_1 cX8_ok (Or.inl f8_265) rfl (by decide) (by decide) (by decide) ?_
  refine j_ifne 9 dX8_ownWeight_4 (by decide) (fun c_4 => absurd c_4 (not_not_intro hb)) (fun c_4 => ?_)
  refine j_iconst (1) dX8_ownWeight_7 rfl ?_
  refine j_iret dX8_ownWeight_8 rfl ?_
  exact ⟨_, rfl, rfl, Kp.rf⟩


theorem g_X8_ownWeight {i s : Nat} (h : TRw n v S) (hb : LawR b S) (hg : GoodB b) (hi : i < 8) (hs : s < 2) : Rqi a mX8_ownWeight 3 [.ref (a 61), .int (nI i), .int (nI s)] S fun y S' => y = nI (ownN v b i s) ∧ Kp [14] S S' := by
  cases b with
  | none => exact gw_none hb
  | some ls => exact gw_some h hb hg hi hs

set_option maxRecDepth 20000 in
theorem lq_X8_findWeights (h : TRw n v S) (hb : LawR b S) (hg : GoodB b) (hn8 : n ≤ 8) : ∀ (fu : Nat) (i : Nat) (S1 : St), n - i < fu → (i ≤ n) → (Kp [14, 18] S S1) → (WRq v b i S1) → J a mX8_findWeights 4 (gm a fun r S' => r = none ∧ Kp [14, 18] S S' ∧ WRq v b n S') 2 [.ref (a 61), .int (nI i)] [] S1 := by
  intro fu
  induction fu with
  | zero => intro i S1 hk; exact absurd hk (Nat.not_lt_zero _)
  | succ fu ih =>
    intro i S1 hk hi hkp hw
    refine j_ild1 dX8_findWeights_2 ?_
    refine j_ald0 dX8_findWeights_3 ?_
    refine j_getI (k := 1) dX8_findWeights_4 cX8_ok (Or.inl f8_145) rfl (by decide) (by decide) (by decide) ?_
    refine j_top (y := nI n) ((h.kp hkp (by decide)).1) ?_
    refine j_icmpge 91 dX8_findWeights_7 (by decide) (fun c_7 => ?_) (fun c_7 => ?_)
    · have q_7 : i = n := by have := (nI_leI (a := n) (b := i) (by omega) (by omega)).mp c_7; omega
      subst q_7
      refine j_vret dX8_findWeights_91 rfl ?_
      exact ⟨rfl, hkp, hw⟩
    have q_7 : i < n := Nat.not_le.mp (fun z => c_7 ((nI_leI (a := n) (b := i) (by omega) (by omega)).mpr z))
    have o0 := ownN_le v b i 0
    have o1 := ownN_le v b i 1
    refine j_ald0 dX8_findWeights_10 ?_
    refine j_getR (k := 37) (86) dX8_findWeights_11 cX8_ok (Or.inl f8_96) rfl (by decide) (by decide) (by decide) rfl ?_
    refine j_iconst (2) dX8_findWeights_14 rfl ?_
    refine j_ild1 dX8_findWeights_15 ?_
    refine j_imul dX8_findWeights_16 ?_
    refine j_top (y := nI (2 * i)) (by exact pk_mul 2 i) ?_
    refine j_ald0 dX8_findWeights_17 ?_
    refine j_ild1 dX8_findWeights_18 ?_
    refine j_iconst (0) dX8_findWeights_19 rfl ?_
    refine j_qiV2 dX8_findWeights_20 kX8_ownWeight l8_272 rfl (by decide) rfl (Nat.le_of_ble_eq_true rfl) (Nat.le_of_ble_eq_true rfl) (by omega) (g_X8_ownWeight (i := i) (s := 0) (h.kp hkp (by decide)) (hb.kp hkp (by decide)) hg (by omega) (by decide)) (fun y S2 h2 => ?_)
    obtain ⟨rfl, hk2⟩ := h2
    have hkp3 : Kp [14, 18] S (uI S2 86 (2 * i) (nI (ownN v b i 0))) := Kp_uI (hkp.tr (hk2.wk (by simp))) (by show 18 ∈ [14, 18]; decide)
    refine j_iast (n := (2 * i)) dX8_findWeights_23 rfl (by decide) rfl (by omega) (by decide) ?_
    refine j_ald0 dX8_findWeights_24 ?_
    refine j_getR (k := 37) (86) dX8_findWeights_25 cX8_ok (Or.inl f8_96) rfl (by decide) (by decide) (by decide) rfl ?_
    refine j_iconst (2) dX8_findWeights_28 rfl ?_
    refine j_ild1 dX8_findWeights_29 ?_
    refine j_imul dX8_findWeights_30 ?_
    refine j_top (y := nI (2 * i)) (by exact pk_mul 2 i) ?_
    refine j_iconst (1) dX8_findWeights_31 rfl ?_
    refine j_iadd dX8_findWeights_32 ?_
    refine j_top (y := nI (2 * i + 1)) (nI_1 _) ?_
    refine j_ald0 dX8_findWeights_33 ?_
    refine j_ild1 dX8_findWeights_34 ?_
    refine j_iconst (1) dX8_findWeights_35 rfl ?_
    refine j_qiV2 dX8_findWeights_36 kX8_ownWeight l8_272 rfl (by decide) rfl (Nat.le_of_ble_eq_true rfl) (Nat.le_of_ble_eq_true rfl) (by omega) (g_X8_ownWeight (i := i) (s := 1) (h.kp hkp3 (by decide)) (hb.kp hkp3 (by decide)) hg (by omega) (by decide)) (fun z S4 h4 => ?_)
    obtain ⟨rfl, hk4⟩ := h4
    have e4 := K18 (rs := []) hk4
    have e2 := K18 (rs := []) hk2
    have hkp5 : Kp [14, 18] S (uI S4 86 (2 * i + 1) (nI (ownN v b i 1))) := Kp_uI (hkp3.tr (hk4.wk (by simp))) (by show 18 ∈ [14, 18]; decide)
    have v0 : (uI S4 86 (2 * i + 1) (nI (ownN v b i 1))).1 86 (2 * i) = nI (ownN v b i 0) := by rw [uI_at, if_neg (by omega), e4, uI_at, if_pos ⟨rfl, rfl⟩]
    have v1 : (uI S4 86 (2 * i + 1) (nI (ownN v b i 1))).1 86 (2 * i + 1) = nI (ownN v b i 1) := by rw [uI_at, if_pos ⟨rfl, rfl⟩]
    have vo : ∀ k, k < 2 * i → (uI S4 86 (2 * i + 1) (nI (ownN v b i 1))).1 86 k = S1.1 86 k := fun k hk => by rw [uI_at, if_neg (by omega), e4, uI_at, if_neg (by omega), e2]
    refine j_iast (n := (2 * i + 1)) dX8_findWeights_39 rfl (by decide) rfl (by omega) (by decide) ?_
    generalize uI S4 86 (2 * i + 1) (nI (ownN v b i 1)) = S5 at *
    refine j_ald0 dX8_findWeights_40 ?_
    refine j_getR (k := 37) (86) dX8_findWeights_41 cX8_ok (Or.inl f8_96) rfl (by decide) (by decide) (by decide) rfl ?_
    refine j_iconst (2) dX8_findWeights_44 rfl ?_
    refine j_ild1 dX8_findWeights_45 ?_
    refine j_imul dX8_findWeights_46 ?_
    refine j_top (y := nI (2 * i)) (by exact pk_mul 2 i) ?_
    refine j_iald (n := (2 * i)) dX8_findWeights_47 rfl (by decide) rfl (by omega) (by decide) ?_
    refine j_top v0 ?_
    refine j_ald0 dX8_findWeights_48 ?_
    refine j_getR (k := 37) (86) dX8_findWeights_49 cX8_ok (Or.inl f8_96) rfl (by decide) (by decide) (by decide) rfl ?_
    refine j_iconst (2) dX8_findWeights_52 rfl ?_
    refine j_ild1 dX8_findWeights_53 ?_
    refine j_imul dX8_findWeights_54 ?_
    refine j_top (y := nI (2 * i)) (by exact pk_mul 2 i) ?_
    refine j_iconst (1) dX8_findWeights_55 rfl ?_
    refine j_iadd dX8_findWeights_56 ?_
    refine j_top (y := nI (2 * i + 1)) (nI_1 _) ?_
    refine j_iald (n := (2 * i + 1)) dX8_findWeights_57 rfl (by decide) rfl (by omega) (by decide) ?_
    refine j_top v1 ?_
    refine j_iadd dX8_findWeights_58 ?_
    refine j_top (y := nI (ownN v b i 0 + ownN v b i 1)) (nI_add _ _) ?_
    refine j_ifle 65 dX8_findWeights_59 (by decide) (fun c_59 => ?_) (fun c_59 => ?_)
    · have q_59 : ownN v b i 0 + ownN v b i 1 = 0 := by
        have := (nI_leI (a := ownN v b i 0 + ownN v b i 1) (b := 0) (by omega) (by decide)).mp c_59
        omega
      refine j_ald0 dX8_findWeights_65 ?_
      refine j_getR (k := 37) (86) dX8_findWeights_66 cX8_ok (Or.inl f8_96) rfl (by decide) (by decide) (by decide) rfl ?_
      refine j_iconst (2) dX8_findWeights_69 rfl ?_
      refine j_ild1 dX8_findWeights_70 ?_
      refine j_imul dX8_findWeights_71 ?_
      refine j_top (y := nI (2 * i)) (by exact pk_mul 2 i) ?_
      refine j_iconst (1) dX8_findWeights_72 rfl ?_
      refine j_iast (n := (2 * i)) dX8_findWeights_73 rfl (by decide) rfl (by omega) (by decide) ?_
      refine j_ald0 dX8_findWeights_74 ?_
      refine j_getR (k := 37) (86) dX8_findWeights_75 cX8_ok (Or.inl f8_96) rfl (by decide) (by decide) (by decide) rfl ?_
      refine j_iconst (2) dX8_findWeights_78 rfl ?_
      refine j_ild1 dX8_findWeights_79 ?_
      refine j_imul dX8_findWeights_80 ?_
      refine j_top (y := nI (2 * i)) (by exact pk_mul 2 i) ?_
      refine j_iconst (1) dX8_findWeights_81 rfl ?_
      refine j_iadd dX8_findWeights_82 ?_
      refine j_top (y := nI (2 * i + 1)) (nI_1 _) ?_
      refine j_iconst (1) dX8_findWeights_83 rfl ?_
      refine j_iast (n := (2 * i + 1)) dX8_findWeights_84 rfl (by decide) rfl (by omega) (by decide) ?_
      refine j_iinc1 (nI (i + 1)) dX8_findWeights_85 (nI_1 i) rfl (by decide) ?_
      refine j_goto 2 dX8_findWeights_88 (by decide) ?_
      exact ih (i + 1) _ (by omega) (by omega) (Kp_uI (Kp_uI hkp5 (by show 18 ∈ [14, 18]; decide)) (by show 18 ∈ [14, 18]; decide)) (WR_step hw (by rw [wtN, if_pos (by omega), uI_at, if_neg (by omega), uI_at, if_pos ⟨rfl, rfl⟩]; rfl) (by rw [wtN, if_pos (by omega), uI_at, if_pos ⟨rfl, rfl⟩]; rfl) (fun k hk => by rw [uI_at, if_neg (by omega), uI_at, if_neg (by omega)]; exact vo k hk))
    have q_59 : ¬ ownN v b i 0 + ownN v b i 1 = 0 := fun z => c_59 (by rw [z]; decide)
    refine j_goto 85 dX8_findWeights_62 (by decide) ?_
    refine j_iinc1 (nI (i + 1)) dX8_findWeights_85 (nI_1 i) rfl (by decide) ?_
    refine j_goto 2 dX8_findWeights_88 (by decide) ?_
    exact ih (i + 1) S5 (by omega) (by omega) hkp5 (WR_step hw (by rw [wtN, if_neg (by omega)]; exact v0) (by rw [wtN, if_neg (by omega)]; exact v1) vo)


set_option maxRecDepth 20000 in
theorem g_X8_findWeights (h : TRw n v S) (hb : LawR b S) (hg : GoodB b) : Rqv a mX8_findWeights 4 [.ref (a 61)] S fun S' => Kp [14, 18] S S' ∧ WRq v b n S' := by
  show J _ _ _ _ 0 [_, .null] [] _
  refine j_iconst (0) dX8_findWeights_0 rfl ?_
  refine j_ist1 dX8_findWeights_1 rfl (by decide) ?_
  exact lq_X8_findWeights h hb hg h.2.1 (n + 1) 0 S (by omega) (by omega) Kp.rf (fun i hi => absurd hi (Nat.not_lt_zero _))


set_option maxRecDepth 20000 in
theorem g_X8_shows {i c : Nat} (h : TRw n v S) (hw : WRq v b n S) (hi : i < n) (hc : c < 2 ^ 31) : Rt a mX8_shows 1 [.ref (a 61), .int (nI i), .int (nI c)] S (some (.long (lN (pC v b i c)))) S := by
  show J _ _ _ _ 0 [_, _, _] [] _
  have hn8 := h.2.1
  have hi8 : i < 8 := by omega
  have b1 := h.2.2.2 1 (by decide) i hi8
  have b2 := h.2.2.2 2 (by decide) i hi8
  rw [show mostN 1 = 5 from rfl] at b1
  rw [show mostN 2 = 5 from rfl] at b2
  have w0 := wtN_le v b i 0
  have w1 := wtN_le v b i 1
  have w2 := wtN_sum v b i
  have e60 : ((if v 1 i = c then wtN v b i 0 else 0) + (if v 2 i = c then wtN v b i 1 else 0)) * 60 / (wtN v b i 0 + wtN v b i 1) = pC v b i c := by
    rw [part60 w2 (by omega), Nat.mul_add, pC, pS, pS]
    congr 1 <;> split <;> simp
  have hx6 : (if v 1 i = c then wtN v b i 0 else 0) + (if v 2 i = c then wtN v b i 1 else 0) ≤ 6 := by split <;> split <;> omega
  refine j_ald0 dX8_shows_0 ?_
  refine j_getR (k := 3) (63) dX8_shows_1 cX8_ok (Or.inl f8_15) rfl (by decide) (by decide) (by decide) rfl ?_
  refine j_ild1 dX8_shows_4 ?_
  refine j_iald (n := i) dX8_shows_5 rfl (by decide) rfl (by omega) (by decide) ?_
  refine j_top (y := nI (v 1 i)) (h.first hi8) ?_
  refine j_ild2 dX8_shows_6 ?_
  refine j_icmpne 21 dX8_shows_7 (by decide) (fun c_7 => ?_) (fun c_7 => ?_)
  · have q_7 : ¬ v 1 i = c := fun z => c_7 (by rw [z])
    refine j_iconst (0) dX8_shows_21 rfl ?_
    refine j_ald0 dX8_shows_22 ?_
    refine j_getR (k := 4) (64) dX8_shows_23 cX8_ok (Or.inl f8_18) rfl (by decide) (by decide) (by decide) rfl ?_
    refine j_ild1 dX8_shows_26 ?_
    refine j_iald (n := i) dX8_shows_27 rfl (by decide) rfl (by omega) (by decide) ?_
    refine j_top (y := nI (v 2 i)) (h.second hi8) ?_
    refine j_ild2 dX8_shows_28 ?_
    refine j_icmpne 45 dX8_shows_29 (by decide) (fun c_29 => ?_) (fun c_29 => ?_)
    · have q_29 : ¬ v 2 i = c := fun z => c_29 (by rw [z])
      refine j_iconst (0) dX8_shows_45 rfl ?_
      refine j_iadd dX8_shows_46 ?_
      refine j_top (y := nI ((if v 1 i = c then wtN v b i 0 else 0) + (if v 2 i = c then wtN v b i 1 else 0))) (by rw [if_neg q_7, if_neg q_29]; exact nI_add 0 0) ?_
      refine j_i2l dX8_shows_47 ?_
      refine j_topL (y := lN ((if v 1 i = c then wtN v b i 0 else 0) + (if v 2 i = c then wtN v b i 1 else 0))) (nI_l (by omega)) ?_
      refine j_ldc2_w (v := 60) dX8_shows_48 q8_278 ?_
      refine j_lmul dX8_shows_51 ?_
      refine j_topL (y := lN (((if v 1 i = c then wtN v b i 0 else 0) + (if v 2 i = c then wtN v b i 1 else 0)) * 60)) (lN_mul _ 60) ?_
      refine j_ald0 dX8_shows_52 ?_
      refine j_ild1 dX8_shows_53 ?_
      refine j_cV1 dX8_shows_54 kX8_sumOf l8_280 rfl (by decide) rfl (Nat.le_of_ble_eq_true rfl) (Nat.le_of_ble_eq_true rfl) (by omega) (s_X8_sumOf hw hn8 hi) ?_
      refine j_i2l dX8_shows_57 ?_
      refine j_topL (y := lN (wtN v b i 0 + wtN v b i 1)) (nI_l (by omega)) ?_
      refine j_ldiv dX8_shows_58 (fun z => absurd ((lN_eq0 (by omega)).mp z) (by omega)) ?_
      refine j_topL (y := lN (pC v b i c)) (by rw [pk_lDiv (by omega) (by omega) (by omega), e60]) ?_
      refine j_lret dX8_shows_59 rfl ?_
      exact ⟨rfl, rfl⟩
    have q_29 : v 2 i = c := (nI_eq (by omega) (by omega)).mp (Classical.not_not.mp c_29)
    refine j_ald0 dX8_shows_32 ?_
    refine j_getR (k := 37) (86) dX8_shows_33 cX8_ok (Or.inl f8_96) rfl (by decide) (by decide) (by decide) rfl ?_
    refine j_iconst (2) dX8_shows_36 rfl ?_
    refine j_ild1 dX8_shows_37 ?_
    refine j_imul dX8_shows_38 ?_
    refine j_top (y := nI (2 * i)) (by exact pk_mul 2 i) ?_
    refine j_iconst (1) dX8_shows_39 rfl ?_
    refine j_iadd dX8_shows_40 ?_
    refine j_top (y := nI (2 * i + 1)) (nI_1 _) ?_
    refine j_iald (n := (2 * i + 1)) dX8_shows_41 rfl (by decide) rfl (by omega) (by decide) ?_
    refine j_top (y := nI (wtN v b i 1)) (hw i hi).2 ?_
    refine j_goto 46 dX8_shows_42 (by decide) ?_
    refine j_iadd dX8_shows_46 ?_
    refine j_top (y := nI ((if v 1 i = c then wtN v b i 0 else 0) + (if v 2 i = c then wtN v b i 1 else 0))) (by rw [if_neg q_7, if_pos q_29]; exact nI_add 0 (wtN v b i 1)) ?_
    refine j_i2l dX8_shows_47 ?_
    refine j_topL (y := lN ((if v 1 i = c then wtN v b i 0 else 0) + (if v 2 i = c then wtN v b i 1 else 0))) (nI_l (by omega)) ?_
    refine j_ldc2_w (v := 60) dX8_shows_48 q8_278 ?_
    refine j_lmul dX8_shows_51 ?_
    refine j_topL (y := lN (((if v 1 i = c then wtN v b i 0 else 0) + (if v 2 i = c then wtN v b i 1 else 0)) * 60)) (lN_mul _ 60) ?_
    refine j_ald0 dX8_shows_52 ?_
    refine j_ild1 dX8_shows_53 ?_
    refine j_cV1 dX8_shows_54 kX8_sumOf l8_280 rfl (by decide) rfl (Nat.le_of_ble_eq_true rfl) (Nat.le_of_ble_eq_true rfl) (by omega) (s_X8_sumOf hw hn8 hi) ?_
    refine j_i2l dX8_shows_57 ?_
    refine j_topL (y := lN (wtN v b i 0 + wtN v b i 1)) (nI_l (by omega)) ?_
    refine j_ldiv dX8_shows_58 (fun z => absurd ((lN_eq0 (by omega)).mp z) (by omega)) ?_
    refine j_topL (y := lN (pC v b i c)) (by rw [pk_lDiv (by omega) (by omega) (by omega), e60]) ?_
    refine j_lret dX8_shows_59 rfl ?_
    exact ⟨rfl, rfl⟩
  have q_7 : v 1 i = c := (nI_eq (by omega) (by omega)).mp (Classical.not_not.mp c_7)
  refine j_ald0 dX8_shows_10 ?_
  refine j_getR (k := 37) (86) dX8_shows_11 cX8_ok (Or.inl f8_96) rfl (by decide) (by decide) (by decide) rfl ?_
  refine j_iconst (2) dX8_shows_14 rfl ?_
  refine j_ild1 dX8_shows_15 ?_
  refine j_imul dX8_shows_16 ?_
  refine j_top (y := nI (2 * i)) (by exact pk_mul 2 i) ?_
  refine j_iald (n := (2 * i)) dX8_shows_17 rfl (by decide) rfl (by omega) (by decide) ?_
  refine j_top (y := nI (wtN v b i 0)) (hw i hi).1 ?_
  refine j_goto 22 dX8_shows_18 (by decide) ?_
  refine j_ald0 dX8_shows_22 ?_
  refine j_getR (k := 4) (64) dX8_shows_23 cX8_ok (Or.inl f8_18) rfl (by decide) (by decide) (by decide) rfl ?_
  refine j_ild1 dX8_shows_26 ?_
  refine j_iald (n := i) dX8_shows_27 rfl (by decide) rfl (by omega) (by decide) ?_
  refine j_top (y := nI (v 2 i)) (h.second hi8) ?_
  refine j_ild2 dX8_shows_28 ?_
  refine j_icmpne 45 dX8_shows_29 (by decide) (fun c_29 => ?_) (fun c_29 => ?_)
  · have q_29 : ¬ v 2 i = c := fun z => c_29 (by rw [z])
    refine j_iconst (0) dX8_shows_45 rfl ?_
    refine j_iadd dX8_shows_46 ?_
    refine j_top (y := nI ((if v 1 i = c then wtN v b i 0 else 0) + (if v 2 i = c then wtN v b i 1 else 0))) (by rw [if_pos q_7, if_neg q_29]; exact nI_add (wtN v b i 0) 0) ?_
    refine j_i2l dX8_shows_47 ?_
    refine j_topL (y := lN ((if v 1 i = c then wtN v b i 0 else 0) + (if v 2 i = c then wtN v b i 1 else 0))) (nI_l (by omega)) ?_
    refine j_ldc2_w (v := 60) dX8_shows_48 q8_278 ?_
    refine j_lmul dX8_shows_51 ?_
    refine j_topL (y := lN (((if v 1 i = c then wtN v b i 0 else 0) + (if v 2 i = c then wtN v b i 1 else 0)) * 60)) (lN_mul _ 60) ?_
    refine j_ald0 dX8_shows_52 ?_
    refine j_ild1 dX8_shows_53 ?_
    refine j_cV1 dX8_shows_54 kX8_sumOf l8_280 rfl (by decide) rfl (Nat.le_of_ble_eq_true rfl) (Nat.le_of_ble_eq_true rfl) (by omega) (s_X8_sumOf hw hn8 hi) ?_
    refine j_i2l dX8_shows_57 ?_
    refine j_topL (y := lN (wtN v b i 0 + wtN v b i 1)) (nI_l (by omega)) ?_
    refine j_ldiv dX8_shows_58 (fun z => absurd ((lN_eq0 (by omega)).mp z) (by omega)) ?_
    refine j_topL (y := lN (pC v b i c)) (by rw [pk_lDiv (by omega) (by omega) (by omega), e60]) ?_
    refine j_lret dX8_shows_59 rfl ?_
    exact ⟨rfl, rfl⟩
  have q_29 : v 2 i = c := (nI_eq (by omega) (by omega)).mp (Classical.not_not.mp c_29)
  refine j_ald0 dX8_shows_32 ?_
  refine j_getR (k := 37) (86) dX8_shows_33 cX8_ok (Or.inl f8_96) rfl (by decide) (by decide) (by decide) rfl ?_
  refine j_iconst (2) dX8_shows_36 rfl ?_
  refine j_ild1 dX8_shows_37 ?_
  refine j_imul dX8_shows_38 ?_
  refine j_top (y := nI (2 * i)) (by exact pk_mul 2 i) ?_
  refine j_iconst (1) dX8_shows_39 rfl ?_
  refine j_iadd dX8_shows_40 ?_
  refine j_top (y := nI (2 * i + 1)) (nI_1 _) ?_
  refine j_iald (n := (2 * i + 1)) dX8_shows_41 rfl (by decide) rfl (by omega) (by decide) ?_
  refine j_top (y := nI (wtN v b i 1)) (hw i hi).2 ?_
  refine j_goto 46 dX8_shows_42 (by decide) ?_
  refine j_iadd dX8_shows_46 ?_
  refine j_top (y := nI ((if v 1 i = c then wtN v b i 0 else 0) + (if v 2 i = c then wtN v b i 1 else 0))) (by rw [if_pos q_7, if_pos q_29]; exact nI_add (wtN v b i 0) (wtN v b i 1)) ?_
  refine j_i2l dX8_shows_47 ?_
  refine j_topL (y := lN ((if v 1 i = c then wtN v b i 0 else 0) + (if v 2 i = c then wtN v b i 1 else 0))) (nI_l (by omega)) ?_
  refine j_ldc2_w (v := 60) dX8_shows_48 q8_278 ?_
  refine j_lmul dX8_shows_51 ?_
  refine j_topL (y := lN (((if v 1 i = c then wtN v b i 0 else 0) + (if v 2 i = c then wtN v b i 1 else 0)) * 60)) (lN_mul _ 60) ?_
  refine j_ald0 dX8_shows_52 ?_
  refine j_ild1 dX8_shows_53 ?_
  refine j_cV1 dX8_shows_54 kX8_sumOf l8_280 rfl (by decide) rfl (Nat.le_of_ble_eq_true rfl) (Nat.le_of_ble_eq_true rfl) (by omega) (s_X8_sumOf hw hn8 hi) ?_
  refine j_i2l dX8_shows_57 ?_
  refine j_topL (y := lN (wtN v b i 0 + wtN v b i 1)) (nI_l (by omega)) ?_
  refine j_ldiv dX8_shows_58 (fun z => absurd ((lN_eq0 (by omega)).mp z) (by omega)) ?_
  refine j_topL (y := lN (pC v b i c)) (by rw [pk_lDiv (by omega) (by omega) (by omega), e60]) ?_
  refine j_lret dX8_shows_59 rfl ?_
  exact ⟨rfl, rfl⟩


set_option maxRecDepth 20000 in
theorem lq_X8_allShow (h : TRw n v S) (hw : WRq v b n S) {c k : Nat} (hc : c < 2 ^ 31) (hk5 : k < 2 ^ 31) : ∀ (fu : Nat) (i : Nat), n - i < fu → (i ≤ n) → J a mX8_allShow 2 (gm a fun r S' => r = some (.long (lN (lkA v b n c k))) ∧ S' = S) 5 [.ref (a 61), .int (nI c), .int (nI k), .long (lN (lkA v b i c k)), .null, .int (nI i)] [] S := by
  intro fu
  induction fu with
  | zero => intro i hk; exact absurd hk (Nat.not_lt_zero _)
  | succ fu ih =>
    intro i hk hi
    have hn8 := h.2.1
    refine j_ild5 dX8_allShow_5 ?_
    refine j_ald0 dX8_allShow_7 ?_
    refine j_getI (k := 1) dX8_allShow_8 cX8_ok (Or.inl f8_145) rfl (by decide) (by decide) (by decide) ?_
    refine j_top (y := nI n) (h.1) ?_
    refine j_icmpge 43 dX8_allShow_11 (by decide) (fun c_11 => ?_) (fun c_11 => ?_)
    · have q_11 : i = n := by have := (nI_leI (a := n) (b := i) (by omega) (by omega)).mp c_11; omega
      subst q_11
      refine j_lld3 dX8_allShow_43 ?_
      refine j_lret dX8_allShow_44 rfl ?_
      exact ⟨rfl, rfl⟩
    have q_11 : i < n := Nat.not_le.mp (fun z => c_11 ((nI_leI (a := n) (b := i) (by omega) (by omega)).mpr z))
    refine j_lld3 dX8_allShow_14 ?_
    refine j_ald0 dX8_allShow_15 ?_
    refine j_getR (k := 2) (62) dX8_allShow_16 cX8_ok (Or.inl f8_9) rfl (by decide) (by decide) (by decide) rfl ?_
    refine j_ild5 dX8_allShow_19 ?_
    refine j_iald (n := i) dX8_allShow_21 rfl (by decide) rfl (by omega) (by decide) ?_
    refine j_top (y := nI (v 0 i)) (h.many (by omega)) ?_
    refine j_i2l dX8_allShow_22 ?_
    refine j_topL (y := lN (v 0 i)) (nI_l (by have := h.2.2.2 0 (by decide) i (by omega); rw [show mostN 0 = 9 from rfl] at this; omega)) ?_
    refine j_ald0 dX8_allShow_23 ?_
    refine j_ild5 dX8_allShow_24 ?_
    refine j_ild1 dX8_allShow_26 ?_
    refine j_cV2 dX8_allShow_27 kX8_shows l8_283 rfl (by decide) rfl (Nat.le_of_ble_eq_true rfl) (Nat.le_of_ble_eq_true rfl) (by omega) (g_X8_shows h hw q_11 hc) ?_
    refine j_ild2 dX8_allShow_30 ?_
    refine j_cS2 dX8_allShow_31 kX8_power zX8_power (Or.inl l8_287) (Nat.le_of_ble_eq_true rfl) (Nat.le_of_ble_eq_true rfl) (by omega) (s_X8_power hk5) ?_
    refine j_lmul dX8_allShow_34 ?_
    refine j_topL (y := lN (lkO v b i c k)) (lN_mul _ _) ?_
    refine j_ladd dX8_allShow_35 ?_
    refine j_topL (y := lN (lkA v b (i + 1) c k)) (lN_add _ _) ?_
    refine j_lst3 dX8_allShow_36 rfl (by decide) ?_
    refine j_iinc5 (nI (i + 1)) dX8_allShow_37 (nI_1 i) rfl (by decide) ?_
    refine j_goto 5 dX8_allShow_40 (by decide) ?_
    exact ih (i + 1) (by omega) (by omega)


set_option maxRecDepth 20000 in
theorem g_X8_allShow {c k : Nat} (h : TRw n v S) (hw : WRq v b n S) (hc : c < 2 ^ 31) (hk : k < 2 ^ 31) : Rt a mX8_allShow 2 [.ref (a 61), .int (nI c), .int (nI k)] S (some (.long (lN (lkA v b n c k)))) S := by
  show J _ _ _ _ 0 [_, _, _, .null, .null, .null] [] _
  refine j_lconst (0) dX8_allShow_0 rfl ?_
  refine j_lst3 dX8_allShow_1 rfl (by decide) ?_
  refine j_iconst (0) dX8_allShow_2 rfl ?_
  refine j_ist5 dX8_allShow_3 rfl (by decide) ?_
  exact lq_X8_allShow h hw hc hk (n + 1) 0 (by omega) (by omega)


end MoreR
