/-! the image: the class -/
section ImgC
variable {a : Nat → Nat} {S S1 : St} {n k u l t : Nat} {v h : Nat → Nat → Nat} {b : Option (List Line)} {as : Nat → Nat} {ld : Nat → Int32} {im : Option Img} {m : Img}
theorem HC.sI16 {f : Nat → Int32} (hh : HC k u h S) : HC k u h (sI S 16 f) := by
  obtain ⟨q, h1, h2, h3, h4, h5, h6⟩ := hh
  refine ⟨q, h1, ?_, ?_, ?_, h5, fun i' hi f' hf => ?_⟩
  · rw [sI_at, if_neg (by decide)]; exact h2
  · rw [sI_at, if_neg (by decide)]; exact h3
  · rw [sI_at, if_neg (by decide)]; exact h4
  · rw [sI_at, if_neg (by omega)]; exact h6 i' hi f' hf
theorem TC.sI16 {f : Nat → Int32} {M : Nat → Nat} {j : Nat} (ht : TC n v S) (hM : ∀ i, i < j → M i ≤ 9) (hf : ∀ i, i < 8 → f i = nI (if i < j then M i else v 0 i)) : TC n (seg v M j) (sI S 16 f) := by
  refine ⟨by rw [sI_at, if_neg (by decide)]; exact ht.1, ht.2.1, fun w hw i hi => ?_, fun w hw i hi => ?_⟩
  · rw [sI_at]
    by_cases c : w = 0
    · subst c
      rw [if_pos rfl, hf i hi]
      congr 1
      unfold seg
      by_cases c2 : i < j
      · rw [if_pos c2, if_pos ⟨rfl, c2⟩]
      · rw [if_neg c2, if_neg (fun z => c2 z.2)]
    · rw [if_neg (by omega), ht.2.2.1 w hw i hi]
      unfold seg
      rw [if_neg (fun z => c z.1)]
  · unfold seg
    split
    · next e => rw [e.1]; exact hM i e.2
    · exact ht.2.2.2 w hw i hi
theorem cpy_at {α : Type} {f g : Nat → α} {k i : Nat} : va_cpy f g 0 0 k i = if i < k then f i else g i := by
  unfold va_cpy
  by_cases c : i < k
  · rw [if_pos c, if_pos (by omega)]; congr 1; omega
  · rw [if_neg c, if_neg (by omega)]

set_option maxRecDepth 20000 in
theorem s_X1_keepImage (ht : TC n v S) (hh : HC k u h S) (hd : DCb as ld l S) : Rqv a mX1_keepImage 1 [.ref (a 5), .ref (a 1)] S fun S' => Kp [5] S S' ∧ DCb as ld l S' ∧ ImC (some (n, v 0, as, ld, l)) S' := by
  show J _ _ _ _ 0 [_, _] [] _
  refine j_ald0 dX1_keepImage_0 ?_
  refine j_ald1 dX1_keepImage_1 ?_
  refine j_getI (k := 1) dX1_keepImage_2 cX6_ok (Or.inr ⟨_, f1_48⟩) rfl (by decide) (by decide) (by decide) ?_
  refine j_top (y := nI n) (ht.1) ?_
  refine j_putI (k := 8) dX1_keepImage_5 cX1_ok (Or.inl f1_31) rfl (by decide) (by decide) (by decide) rfl ?_
  refine j_ald1 dX1_keepImage_8 ?_
  refine j_getR (k := 0) (15) dX1_keepImage_9 cX6_ok (Or.inr ⟨_, f1_51⟩) rfl (by decide) (by decide) (by decide) rfl ?_
  refine j_iconst (0) dX1_keepImage_12 rfl ?_
  refine j_aald (n := 0) (16) dX1_keepImage_13 (Or.inr rfl) (by decide) rfl (by decide) (by decide) rfl ?_
  refine j_iconst (0) dX1_keepImage_14 rfl ?_
  refine j_ald0 dX1_keepImage_15 ?_
  refine j_getR (k := 4) (50) dX1_keepImage_16 cX1_ok (Or.inl f1_22) rfl (by decide) (by decide) (by decide) rfl ?_
  refine j_iconst (0) dX1_keepImage_19 rfl ?_
  refine j_bipush (8) dX1_keepImage_20 rfl ?_
  refine j_copyi (sp := 0) (dp := 0) (n := 8) dX1_keepImage_22 l1_62 t_cp_n t_cp_s t_sysini rfl rfl (by decide) (by decide) rfl rfl rfl (by decide) (by decide) (by decide) (by decide) (Nat.le_of_ble_eq_true rfl) (by omega) ?_
  refine j_ald0 dX1_keepImage_25 ?_
  refine j_getR (k := 1) (48) dX1_keepImage_26 cX1_ok (Or.inl f1_9) rfl (by decide) (by decide) (by decide) rfl ?_
  refine j_iconst (0) dX1_keepImage_29 rfl ?_
  refine j_ald0 dX1_keepImage_30 ?_
  refine j_getR (k := 5) (51) dX1_keepImage_31 cX1_ok (Or.inl f1_25) rfl (by decide) (by decide) (by decide) rfl ?_
  refine j_iconst (0) dX1_keepImage_34 rfl ?_
  refine j_bipush (8) dX1_keepImage_35 rfl ?_
  refine j_copyi (sp := 0) (dp := 0) (n := 8) dX1_keepImage_37 l1_62 t_cp_n t_cp_s t_sysini rfl rfl (by decide) (by decide) rfl rfl rfl (by decide) (by decide) (by decide) (by decide) (Nat.le_of_ble_eq_true rfl) (by omega) ?_
  refine j_ald0 dX1_keepImage_40 ?_
  refine j_getR (k := 2) (49) dX1_keepImage_41 cX1_ok (Or.inl f1_15) rfl (by decide) (by decide) (by decide) rfl ?_
  refine j_iconst (0) dX1_keepImage_44 rfl ?_
  refine j_ald0 dX1_keepImage_45 ?_
  refine j_getR (k := 6) (52) dX1_keepImage_46 cX1_ok (Or.inl f1_28) rfl (by decide) (by decide) (by decide) rfl ?_
  refine j_iconst (0) dX1_keepImage_49 rfl ?_
  refine j_bipush (6) dX1_keepImage_50 rfl ?_
  refine j_copyi (sp := 0) (dp := 0) (n := 6) dX1_keepImage_52 l1_62 t_cp_n t_cp_s t_sysini rfl rfl (by decide) (by decide) rfl rfl rfl (by decide) (by decide) (by decide) (by decide) (Nat.le_of_ble_eq_true rfl) (by omega) ?_
  refine j_ald0 dX1_keepImage_55 ?_
  refine j_ald0 dX1_keepImage_56 ?_
  refine j_getI (k := 3) dX1_keepImage_57 cX1_ok (Or.inl f1_18) rfl (by decide) (by decide) (by decide) ?_
  refine j_top (y := cLt l) (by simp [sI_at, uI_at]; exact hd.2.2) ?_
  refine j_putI (k := 7) dX1_keepImage_60 cX1_ok (Or.inl f1_68) rfl (by decide) (by decide) (by decide) rfl ?_
  refine j_vret dX1_keepImage_63 rfl ?_
  refine ⟨rfl, Kp_uI (Kp_sI (Kp_sI (Kp_sI (Kp_uI Kp.rf (by decide)) (fun _ => by show 5 ∈ [5]; decide)) (fun _ => by show 5 ∈ [5]; decide)) (fun _ => by show 5 ∈ [5]; decide)) (by decide), ⟨fun i hi => ?_, fun c hc => ?_, ?_⟩, ?_, fun i hi => ⟨?_, ?_⟩, fun c hc => ?_, ?_⟩
  · simp [sI_at, uI_at]; exact hd.1 i hi
  · simp [sI_at, uI_at]; exact hd.2.1 c hc
  · simp [sI_at, uI_at]; exact hd.2.2
  · simp [sI_at, uI_at]
  · have hi8 : i < 8 := Nat.lt_of_lt_of_le hi ht.2.1
    simp [sI_at, uI_at, cpy_at, hi8]; exact ht.2.2.1 0 (by decide) i hi8
  · have hi8 : i < 8 := Nat.lt_of_lt_of_le hi ht.2.1
    simp [sI_at, uI_at, cpy_at, hi8]; exact hd.1 i hi8
  · simp [sI_at, uI_at, cpy_at, hc]; exact hd.2.1 c hc
  · simp [uI_at]

set_option maxRecDepth 20000 in
theorem s_X7_image (ht : TC n v S) (hh : HC k u h S) (hd : DCb as ld l S) : Rqi a mX7_image 3 [.ref (a 0)] S fun z S' => z = nI (sumN (v 0) n) ∧ Kp [5] S S' ∧ DCb as ld l S' ∧ ImC (some (n, v 0, as, ld, l)) S' := by
  show J _ _ _ _ 0 [_] [] _
  refine j_ald0 dX7_image_0 ?_
  refine j_getR (k := 4) (5) dX7_image_1 cX7_ok (Or.inl f7_42) rfl (by decide) (by decide) (by decide) rfl ?_
  refine j_ald0 dX7_image_4 ?_
  refine j_getR (k := 0) (1) dX7_image_5 cX7_ok (Or.inl f7_12) rfl (by decide) (by decide) (by decide) rfl ?_
  refine j_qvV1 dX7_image_8 kX1_keepImage l7_239 rfl (by decide) rfl (Nat.le_of_ble_eq_true rfl) (Nat.le_of_ble_eq_true rfl) (by omega) (s_X1_keepImage ht hh hd) (fun S1 h1 => ?_)
  refine j_ald0 dX7_image_11 ?_
  refine j_getR (k := 0) (1) dX7_image_12 cX7_ok (Or.inl f7_12) rfl (by decide) (by decide) (by decide) rfl ?_
  refine j_cV0 dX7_image_15 kX6_inHat l7_120 rfl (by decide) rfl (Nat.le_of_ble_eq_true rfl) (Nat.le_of_ble_eq_true rfl) (by omega) (s_X6_inHat (ht.kp h1.1 (by decide))) ?_
  refine j_iret dX7_image_18 rfl ?_
  exact ⟨_, rfl, rfl, h1⟩

set_option maxRecDepth 20000 in
theorem s_X1_hasImage : Rt a mX1_hasImage 0 [.ref (a 5)] S (some (.int (bi (0 ≤ S.1 5 8)))) S := by
  show J _ _ _ _ 0 [_] [] _
  refine j_ald0 dX1_hasImage_0 ?_
  refine j_getI (k := 8) dX1_hasImage_1 cX1_ok (Or.inl f1_31) rfl (by decide) (by decide) (by decide) ?_
  refine j_iflt 11 dX1_hasImage_4 (by decide) (fun c_4 => ?_) (fun c_4 => ?_)
  · refine j_iconst (0) dX1_hasImage_11 rfl ?_
    refine j_zret dX1_hasImage_12 rfl (by decide) ?_
    exact ⟨by rw [bi_f (Int32.not_le.mpr c_4)], rfl⟩
  refine j_iconst (1) dX1_hasImage_7 rfl ?_
  refine j_goto 12 dX1_hasImage_8 (by decide) ?_
  refine j_zret dX1_hasImage_12 rfl (by decide) ?_
  exact ⟨by rw [bi_t (Int32.not_lt.mp c_4)], rfl⟩

set_option maxRecDepth 20000 in
theorem s_X1_takeImage (ht : TC n v S) (hh : HC k u h S) (hd : DCb as ld l S) (hi : ImC (some m) S) (hm : m.1 ≤ n) (hm9 : ∀ i, i < m.1 → m.2.1 i ≤ 9) : Rqv a mX1_takeImage 1 [.ref (a 5), .ref (a 1)] S fun S' => TC n (seg v m.2.1 m.1) S' ∧ HC k u h S' ∧ DCb (seg1 as m.2.2.1 m.1) m.2.2.2.1 m.2.2.2.2 S' ∧ ImC (some m) S' ∧ Kp [1, 5] S S' := by
  have hn8 := ht.2.1
  show J _ _ _ _ 0 [_, _, .null] [] _
  refine j_iconst (0) dX1_takeImage_0 rfl ?_
  refine j_ald0 dX1_takeImage_1 ?_
  refine j_getI (k := 8) dX1_takeImage_2 cX1_ok (Or.inl f1_31) rfl (by decide) (by decide) (by decide) ?_
  refine j_top (y := nI m.1) (hi.1) ?_
  refine j_bipush (8) dX1_takeImage_5 rfl ?_
  refine j_min dX1_takeImage_7 l1_71 t_min_s t_mini t_min_c (Nat.le_of_ble_eq_true rfl) (by omega) ?_
  refine j_top (y := nI m.1) (if_neg (show ¬ nI 8 < nI m.1 from fun z => absurd ((nI_ltI (a := 8) (b := m.1) (by decide) (by omega)).mp z) (by omega))) ?_
  refine j_max dX1_takeImage_10 l1_77 t_max_s t_mini t_max_c (Nat.le_of_ble_eq_true rfl) (by omega) ?_
  refine j_top (y := nI m.1) (by
    by_cases c : 0 < m.1
    · exact if_pos ((nI_ltI (a := 0) (b := m.1) (by decide) (by omega)).mpr c)
    · rw [show m.1 = 0 by omega]; rfl) ?_
  refine j_ist2 dX1_takeImage_13 rfl (by decide) ?_
  refine j_ald0 dX1_takeImage_14 ?_
  refine j_getR (k := 4) (50) dX1_takeImage_15 cX1_ok (Or.inl f1_22) rfl (by decide) (by decide) (by decide) rfl ?_
  refine j_iconst (0) dX1_takeImage_18 rfl ?_
  refine j_ald1 dX1_takeImage_19 ?_
  refine j_getR (k := 0) (15) dX1_takeImage_20 cX6_ok (Or.inr ⟨_, f1_51⟩) rfl (by decide) (by decide) (by decide) rfl ?_
  refine j_iconst (0) dX1_takeImage_23 rfl ?_
  refine j_aald (n := 0) (16) dX1_takeImage_24 (Or.inr rfl) (by decide) rfl (by decide) (by decide) rfl ?_
  refine j_iconst (0) dX1_takeImage_25 rfl ?_
  refine j_ild2 dX1_takeImage_26 ?_
  refine j_copyi (sp := 0) (dp := 0) (n := m.1) dX1_takeImage_27 l1_62 t_cp_n t_cp_s t_sysini rfl rfl (by decide) (by decide) rfl rfl rfl (by omega) (by omega) (by decide) (by decide) (Nat.le_of_ble_eq_true rfl) (by omega) ?_
  refine j_ald0 dX1_takeImage_30 ?_
  refine j_getR (k := 5) (51) dX1_takeImage_31 cX1_ok (Or.inl f1_25) rfl (by decide) (by decide) (by decide) rfl ?_
  refine j_iconst (0) dX1_takeImage_34 rfl ?_
  refine j_ald0 dX1_takeImage_35 ?_
  refine j_getR (k := 1) (48) dX1_takeImage_36 cX1_ok (Or.inl f1_9) rfl (by decide) (by decide) (by decide) rfl ?_
  refine j_iconst (0) dX1_takeImage_39 rfl ?_
  refine j_ild2 dX1_takeImage_40 ?_
  refine j_copyi (sp := 0) (dp := 0) (n := m.1) dX1_takeImage_41 l1_62 t_cp_n t_cp_s t_sysini rfl rfl (by decide) (by decide) rfl rfl rfl (by omega) (by omega) (by decide) (by decide) (Nat.le_of_ble_eq_true rfl) (by omega) ?_
  refine j_ald0 dX1_takeImage_44 ?_
  refine j_getR (k := 6) (52) dX1_takeImage_45 cX1_ok (Or.inl f1_28) rfl (by decide) (by decide) (by decide) rfl ?_
  refine j_iconst (0) dX1_takeImage_48 rfl ?_
  refine j_ald0 dX1_takeImage_49 ?_
  refine j_getR (k := 2) (49) dX1_takeImage_50 cX1_ok (Or.inl f1_15) rfl (by decide) (by decide) (by decide) rfl ?_
  refine j_iconst (0) dX1_takeImage_53 rfl ?_
  refine j_bipush (6) dX1_takeImage_54 rfl ?_
  refine j_copyi (sp := 0) (dp := 0) (n := 6) dX1_takeImage_56 l1_62 t_cp_n t_cp_s t_sysini rfl rfl (by decide) (by decide) rfl rfl rfl (by decide) (by decide) (by decide) (by decide) (Nat.le_of_ble_eq_true rfl) (by omega) ?_
  refine j_ald0 dX1_takeImage_59 ?_
  refine j_ald0 dX1_takeImage_60 ?_
  refine j_getI (k := 7) dX1_takeImage_61 cX1_ok (Or.inl f1_68) rfl (by decide) (by decide) (by decide) ?_
  refine j_top (y := cLt m.2.2.2.2) (by simp [sI_at]; exact hi.2.2.2) ?_
  refine j_putI (k := 3) dX1_takeImage_64 cX1_ok (Or.inl f1_18) rfl (by decide) (by decide) (by decide) rfl ?_
  refine j_vret dX1_takeImage_67 rfl ?_
  have t1 : TC n (seg v m.2.1 m.1) (sI S 16 (va_cpy (S.1 50) (S.1 16) 0 0 m.1)) := ht.sI16 hm9 (fun i hi8 => by
    rw [cpy_at]
    by_cases c : i < m.1
    · rw [if_pos c, if_pos c]; exact (hi.2.1 i c).1
    · rw [if_neg c, if_neg c]; exact ht.2.2.1 0 (by decide) i hi8)
  have h1 : HC k u h (sI S 16 (va_cpy (S.1 50) (S.1 16) 0 0 m.1)) := hh.sI16
  refine ⟨rfl, t1.kp (Kp_uI (Kp_sI (Kp_sI Kp.rf (fun _ => by show 5 ∈ [5]; decide)) (fun _ => by show 5 ∈ [5]; decide)) (by decide)) (by decide), h1.kp (Kp_uI (Kp_sI (Kp_sI Kp.rf (fun _ => by show 5 ∈ [5]; decide)) (fun _ => by show 5 ∈ [5]; decide)) (by decide)) (by decide), ⟨fun i hi8 => ?_, fun c hc => ?_, ?_⟩, ⟨?_, fun i him => ⟨?_, ?_⟩, fun c hc => ?_, ?_⟩, Kp_uI (Kp_sI (Kp_sI (Kp_sI Kp.rf (fun _ => by show 1 ∈ [1, 5]; decide)) (fun _ => by show 5 ∈ [1, 5]; decide)) (fun _ => by show 5 ∈ [1, 5]; decide)) (by decide)⟩
  · simp only [sI_at, uI_at, cpy_at, seg1]
    by_cases c : i < m.1
    · simp [c]; exact (hi.2.1 i c).2
    · simp [c]; exact hd.1 i hi8
  · simp [sI_at, uI_at, cpy_at, hc]; exact hi.2.2.1 c hc
  · simp [uI_at]
  · simp [sI_at, uI_at]; exact hi.1
  · simp [sI_at, uI_at]; exact (hi.2.1 i him).1
  · simp [sI_at, uI_at]; exact (hi.2.1 i him).2
  · simp [sI_at, uI_at]; exact hi.2.2.1 c hc
  · simp [sI_at, uI_at]; exact hi.2.2.2

set_option maxRecDepth 20000 in
theorem s_X7_back_0 (hi : ImC none S) : Rt a mX7_back 3 [.ref (a 0)] S (some (.int (-5))) S := by
  show J _ _ _ _ 0 [_] [] _
  refine j_ald0 dX7_back_0 ?_
  refine j_getR (k := 4) (5) dX7_back_1 cX7_ok (Or.inl f7_42) rfl (by decide) (by decide) (by decide) rfl ?_
  refine j_cV0 dX7_back_4 kX1_hasImage l7_242 rfl (by decide) rfl (Nat.le_of_ble_eq_true rfl) (Nat.le_of_ble_eq_true rfl) (by omega) (s_X1_hasImage) ?_
  refine j_ifneB 13 dX7_back_7 (by decide) (fun c_7 => absurd c_7 (fun z => absurd z (by rw [show S.1 5 8 = -1 from hi]; decide))) (fun c_7 => ?_)
  refine j_bipush (-5) dX7_back_10 rfl ?_
  refine j_iret dX7_back_12 rfl ?_
  exact ⟨rfl, rfl⟩

set_option maxRecDepth 20000 in
theorem s_X7_back (ht : TC n v S) (hh : HC k u h S) (hd : DCb as ld l S) (hi : ImC (some m) S) (hm : m.1 ≤ n) (hm9 : ∀ i, i < m.1 → m.2.1 i ≤ 9) : Rqi a mX7_back 3 [.ref (a 0)] S fun z S' => z = nI (sumN (seg v m.2.1 m.1 0) n) ∧ TC n (seg v m.2.1 m.1) S' ∧ HC k u h S' ∧ DCb (seg1 as m.2.2.1 m.1) m.2.2.2.1 m.2.2.2.2 S' ∧ ImC (some m) S' ∧ Kp [1, 5] S S' := by
  show J _ _ _ _ 0 [_] [] _
  refine j_ald0 dX7_back_0 ?_
  refine j_getR (k := 4) (5) dX7_back_1 cX7_ok (Or.inl f7_42) rfl (by decide) (by decide) (by decide) rfl ?_
  refine j_cV0 dX7_back_4 kX1_hasImage l7_242 rfl (by decide) rfl (Nat.le_of_ble_eq_true rfl) (Nat.le_of_ble_eq_true rfl) (by omega) (s_X1_hasImage) ?_
  refine j_ifneB 13 dX7_back_7 (by decide) (fun c_7 => ?_) (fun c_7 => absurd (by rw [show S.1 5 8 = nI m.1 from hi.1]; exact nI_pos' (by have := ht.2.1; omega)) c_7)
  refine j_ald0 dX7_back_13 ?_
  refine j_getR (k := 4) (5) dX7_back_14 cX7_ok (Or.inl f7_42) rfl (by decide) (by decide) (by decide) rfl ?_
  refine j_ald0 dX7_back_17 ?_
  refine j_getR (k := 0) (1) dX7_back_18 cX7_ok (Or.inl f7_12) rfl (by decide) (by decide) (by decide) rfl ?_
  refine j_qvV1 dX7_back_21 kX1_takeImage l7_246 rfl (by decide) rfl (Nat.le_of_ble_eq_true rfl) (Nat.le_of_ble_eq_true rfl) (by omega) (s_X1_takeImage ht hh hd hi hm hm9) (fun S1 h1 => ?_)
  refine j_ald0 dX7_back_24 ?_
  refine j_getR (k := 0) (1) dX7_back_25 cX7_ok (Or.inl f7_12) rfl (by decide) (by decide) (by decide) rfl ?_
  refine j_cV0 dX7_back_28 kX6_inHat l7_120 rfl (by decide) rfl (Nat.le_of_ble_eq_true rfl) (Nat.le_of_ble_eq_true rfl) (by omega) (s_X6_inHat h1.1) ?_
  refine j_iret dX7_back_31 rfl ?_
  exact ⟨_, rfl, rfl, h1⟩

def ctV (n sa tp dn bd tr : Int32) (x : Int32) : Int32 := if x = 0 then n else if x = 1 then sa else if x = 2 then tp else if x = 3 then dn else if x = 4 then bd else if x = 5 then tr else -1
set_option maxRecDepth 20000 in
theorem s_X7_count {x : Int32} (hd : DCb as ld l S) (ha : ∀ i, i < 8 → as i ≤ 2 ^ 20) : Rt a mX7_count 2 [.ref (a 0), .int x] S (some (.int (ctV (S.1 1 1) (nI (sumN as 8)) (S.1 0 8) (S.1 1 7) (S.1 6 1) (S.1 6 3) x))) S := by
  show J _ _ _ _ 0 [_, _] [] _
  refine j_ild1 dX7_count_0 ?_
  refine j_topi (fun y_1 e_1 => ?_)
  by_cases h_1_0 : y_1 = 0
  · rw [h_1_0] at e_1 ⊢
    refine j_tblIn (39) 40 dX7_count_1 (by decide) (by decide) rfl (by decide) ?_
    refine j_ald0 dX7_count_40 ?_
    refine j_getR (k := 0) (1) dX7_count_41 cX7_ok (Or.inl f7_12) rfl (by decide) (by decide) (by decide) rfl ?_
    refine j_getI (k := 1) dX7_count_44 cX6_ok (Or.inr ⟨_, f7_91⟩) rfl (by decide) (by decide) (by decide) ?_
    refine j_iret dX7_count_47 rfl ?_
    exact ⟨by rw [← e_1]; rfl, rfl⟩
  by_cases h_1_1 : y_1 = 1
  · rw [h_1_1] at e_1 ⊢
    refine j_tblIn (47) 48 dX7_count_1 (by decide) (by decide) rfl (by decide) ?_
    refine j_ald0 dX7_count_48 ?_
    refine j_getR (k := 4) (5) dX7_count_49 cX7_ok (Or.inl f7_42) rfl (by decide) (by decide) (by decide) rfl ?_
    refine j_cV0 dX7_count_52 kX1_allAside l7_313 rfl (by decide) rfl (Nat.le_of_ble_eq_true rfl) (Nat.le_of_ble_eq_true rfl) (by omega) (s_X1_allAside hd ha) ?_
    refine j_iret dX7_count_55 rfl ?_
    exact ⟨by rw [← e_1]; rfl, rfl⟩
  by_cases h_1_2 : y_1 = 2
  · rw [h_1_2] at e_1 ⊢
    refine j_tblIn (55) 56 dX7_count_1 (by decide) (by decide) rfl (by decide) ?_
    refine j_ald0 dX7_count_56 ?_
    refine j_getI (k := 8) dX7_count_57 cX7_ok (Or.inl f7_124) rfl (by decide) (by decide) (by decide) ?_
    refine j_iret dX7_count_60 rfl ?_
    exact ⟨by rw [← e_1]; rfl, rfl⟩
  by_cases h_1_3 : y_1 = 3
  · rw [h_1_3] at e_1 ⊢
    refine j_tblIn (60) 61 dX7_count_1 (by decide) (by decide) rfl (by decide) ?_
    refine j_ald0 dX7_count_61 ?_
    refine j_getR (k := 0) (1) dX7_count_62 cX7_ok (Or.inl f7_12) rfl (by decide) (by decide) (by decide) rfl ?_
    refine j_getI (k := 7) dX7_count_65 cX6_ok (Or.inr ⟨_, f7_252⟩) rfl (by decide) (by decide) (by decide) ?_
    refine j_iret dX7_count_68 rfl ?_
    exact ⟨by rw [← e_1]; rfl, rfl⟩
  by_cases h_1_4 : y_1 = 4
  · rw [h_1_4] at e_1 ⊢
    refine j_tblIn (68) 69 dX7_count_1 (by decide) (by decide) rfl (by decide) ?_
    refine j_ald0 dX7_count_69 ?_
    refine j_getR (k := 5) (6) dX7_count_70 cX7_ok (Or.inl f7_49) rfl (by decide) (by decide) (by decide) rfl ?_
    refine j_getI (k := 1) dX7_count_73 cX0_ok (Or.inr ⟨_, f7_278⟩) rfl (by decide) (by decide) (by decide) ?_
    refine j_iret dX7_count_76 rfl ?_
    exact ⟨by rw [← e_1]; rfl, rfl⟩
  by_cases h_1_5 : y_1 = 5
  · rw [h_1_5] at e_1 ⊢
    refine j_tblIn (76) 77 dX7_count_1 (by decide) (by decide) rfl (by decide) ?_
    refine j_ald0 dX7_count_77 ?_
    refine j_getR (k := 5) (6) dX7_count_78 cX7_ok (Or.inl f7_49) rfl (by decide) (by decide) (by decide) rfl ?_
    refine j_getI (k := 3) dX7_count_81 cX0_ok (Or.inr ⟨_, f7_267⟩) rfl (by decide) (by decide) (by decide) ?_
    refine j_iret dX7_count_84 rfl ?_
    exact ⟨by rw [← e_1]; rfl, rfl⟩
  refine j_tblOut 85 dX7_count_1 (tbl_out (fun k h1 h2 => by
    have hk : k = 0 ∨ k = 1 ∨ k = 2 ∨ k = 3 ∨ k = 4 ∨ k = 5 := by omega
    rcases hk with rfl | rfl | rfl | rfl | rfl | rfl
    · exact h_1_0
    · exact h_1_1
    · exact h_1_2
    · exact h_1_3
    · exact h_1_4
    · exact h_1_5)) (by decide) ?_
  refine j_iconst (-1) dX7_count_85 rfl ?_
  refine j_iret dX7_count_86 rfl ?_
  exact ⟨by rw [e_1] at h_1_0 h_1_1 h_1_2 h_1_3 h_1_4 h_1_5; rw [ctV, if_neg h_1_0, if_neg h_1_1, if_neg h_1_2, if_neg h_1_3, if_neg h_1_4, if_neg h_1_5], rfl⟩

end ImgC
