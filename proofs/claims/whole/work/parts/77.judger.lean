/-! judge, cheated: the reference -/
theorem rfF_ok {W : Nat → Nat} {N L w0 B : Nat} (hW : ∀ i, W i ≤ B) : ∀ i, (rfF W N L w0 i).2 ≤ B
  | 0 => Nat.zero_le _
  | i + 1 => by
    rw [rfF]
    split
    · exact rfF_ok hW i
    · exact hW i
theorem Kp_back {rs : List Nat} {S S2 : St} {j k : Nat} {x y : Int32} (h1 : S.1 j k = x) (hk : Kp rs (uI S j k y) S2) : Kp rs S (uI S2 j k x) := by
  refine ⟨fun j' k' q => ?_, fun q => (hk.2 q).trans rfl⟩
  have h2 := hk.1 j' k' q
  refine ⟨?_, h2.2⟩
  rw [uI_at]
  by_cases c : j' = j ∧ k' = k
  · rw [if_pos c, c.1, c.2, h1]
  · rw [if_neg c, h2.1, uI_at, if_neg c]
section JudgeR
variable {a : Nat → Nat} {S : St} {n q bb : Nat} {v : Nat → Nat → Nat} {b : Option (List Line)} {sh : Nat → Nat → Nat} {el : Nat → Nat → Int64} {cl : Nat → Nat}

def rfV (sh : Nat → Nat → Nat) (q : Nat) : Int32 := if sh q 0 = 0 then -11 else if sh q 0 = 2 ∧ sh q 2 = 0 then 0 else -12
theorem refB_q {sh : Nat → Nat → Nat} {q : Nat} (hq : q < 6) : refB sh (nI q) = rfV sh q := by
  have hcl : (nI q).toNatClampNeg = q := nI_clamp (by omega)
  rw [refB, if_neg (not_not_intro (show 0 ≤ nI q ∧ nI q < 6 from nI_in' hq (by decide))), hcl]; rfl
theorem refB_no {sh : Nat → Nat → Nat} {x : Int32} (h : ¬ (0 ≤ x ∧ x < 6)) : refB sh x = -1 := by rw [refB, if_pos h]
theorem rfV_ok {sh : Nat → Nat → Nat} {q : Nat} (h : ¬ rfV sh q < 0) : sh q 0 = 2 ∧ sh q 2 = 0 := by
  unfold rfV at h
  split at h
  · exact absurd (by decide) h
  · split at h
    · next z => exact z
    · exact absurd (by decide) h
set_option maxRecDepth 20000 in
theorem s_X8_rowFault (hq : q < 6) (hsr : SR sh el S) (hs : SOk bb sh) : Rt a mX8_rowFault 0 [.ref (a 61), .int (nI q)] S (some (.int (rfV sh q))) S := by
  show J _ _ _ _ 0 [_, _] [] _
  refine j_ald0 dX8_rowFault_0 ?_
  refine j_getR (k := 54) (96) dX8_rowFault_1 cX8_ok (Or.inl f8_129) rfl (by decide) (by decide) (by decide) rfl ?_
  refine j_ild1 dX8_rowFault_4 ?_
  refine j_iald (n := q) dX8_rowFault_5 rfl (by decide) rfl (by omega) (by decide) ?_
  refine j_top (y := rh (sh q)) (hsr q hq).1 ?_
  refine j_iconst (-1) dX8_rowFault_6 rfl ?_
  refine j_icmpne 15 dX8_rowFault_7 (by decide) (fun c_7 => ?_) (fun c_7 => ?_)
  · have q_7 : ¬ sh q 0 = 0 := fun z => c_7 ((rh_m1 hs hq).mpr z)
    refine j_ald0 dX8_rowFault_15 ?_
    refine j_getR (k := 54) (96) dX8_rowFault_16 cX8_ok (Or.inl f8_129) rfl (by decide) (by decide) (by decide) rfl ?_
    refine j_ild1 dX8_rowFault_19 ?_
    refine j_iald (n := q) dX8_rowFault_20 rfl (by decide) rfl (by omega) (by decide) ?_
    refine j_top (y := rh (sh q)) (hsr q hq).1 ?_
    refine j_bipush (-2) dX8_rowFault_21 rfl ?_
    refine j_icmpne 30 dX8_rowFault_23 (by decide) (fun c_23 => ?_) (fun c_23 => ?_)
    · have q_23 : ¬ (sh q 0 = 2 ∧ sh q 2 = 0) := fun z => c_23 ((rh_m2 hs hq).mpr z)
      refine j_bipush (-12) dX8_rowFault_30 rfl ?_
      refine j_iret dX8_rowFault_32 rfl ?_
      exact ⟨by rw [rfV, if_neg q_7, if_neg q_23], rfl⟩
    have q_23 : sh q 0 = 2 ∧ sh q 2 = 0 := (rh_m2 hs hq).mp (Classical.not_not.mp c_23)
    refine j_iconst (0) dX8_rowFault_26 rfl ?_
    refine j_goto 32 dX8_rowFault_27 (by decide) ?_
    refine j_iret dX8_rowFault_32 rfl ?_
    exact ⟨by rw [rfV, if_neg q_7, if_pos q_23], rfl⟩
  have q_7 : sh q 0 = 0 := (rh_m1 hs hq).mp (Classical.not_not.mp c_7)
  refine j_bipush (-11) dX8_rowFault_10 rfl ?_
  refine j_goto 32 dX8_rowFault_12 (by decide) ?_
  refine j_iret dX8_rowFault_32 rfl ?_
  exact ⟨by rw [rfV, if_pos q_7], rfl⟩

set_option maxRecDepth 20000 in
theorem s_X8_byteAt {k : Nat} (hq : q < 6) (hk : k < 60) (hsr : SR sh el S) : Rt a mX8_byteAt 0 [.ref (a 61), .int (nI q), .int (nI k)] S (some (.int (jd el q k))) S := by
  show J _ _ _ _ 0 [_, _, _] [] _
  refine j_ald0 dX8_byteAt_0 ?_
  refine j_getR (k := 56) (98) dX8_byteAt_1 cX8_ok (Or.inl f8_135) rfl (by decide) (by decide) (by decide) rfl ?_
  refine j_bipush (60) dX8_byteAt_4 rfl ?_
  refine j_ild1 dX8_byteAt_6 ?_
  refine j_imul dX8_byteAt_7 ?_
  refine j_top (y := nI (60 * q)) (by exact pk_mul 60 q) ?_
  refine j_ild2 dX8_byteAt_8 ?_
  refine j_iadd dX8_byteAt_9 ?_
  refine j_top (y := nI (60 * q + k)) (nI_add _ _) ?_
  refine j_lald (n := (60 * q + k)) dX8_byteAt_10 rfl (by decide) rfl (by show _ < 360; omega) (by decide) ?_
  refine j_topL (y := el q k) ((hsr q hq).2.2 k hk) ?_
  refine j_l2i dX8_byteAt_11 ?_
  refine j_iret dX8_byteAt_12 rfl ?_
  exact ⟨rfl, rfl⟩

set_option maxRecDepth 20000 in
theorem lp_X8_judge {S0 : St} (hkp : Kp [14, 18] S0 S) (h : TR n v S) (hw : WRq v b n S) (hsr : SR sh el S) (hq : q < 6) (hL : sh q 3 ≤ 60) : ∀ (fu : Nat) (m k : Nat), m < fu → (k + m = sh q 3) → J a mX8_judge 5 (gm a fun r S' => ∃ z, r = some (.int z) ∧ z = fstJ v b n (jd el q) m k ∧ Kp [14, 18] S0 S') 29 [.ref (a 61), .int (nI q), .int (nI k)] [] S := by
  intro fu
  induction fu with
  | zero => intro m k hk; exact absurd hk (Nat.not_lt_zero _)
  | succ fu ih =>
    intro m k hk hm
    refine j_ild2 dX8_judge_29 ?_
    refine j_ald0 dX8_judge_30 ?_
    refine j_getR (k := 55) (97) dX8_judge_31 cX8_ok (Or.inl f8_132) rfl (by decide) (by decide) (by decide) rfl ?_
    refine j_ild1 dX8_judge_34 ?_
    refine j_iald (n := q) dX8_judge_35 rfl (by decide) rfl (by omega) (by decide) ?_
    refine j_top (y := nI (sh q 3)) (hsr q hq).2.1 ?_
    refine j_icmpge 75 dX8_judge_36 (by decide) (fun c_36 => ?_) (fun c_36 => ?_)
    · have q_36 : m = 0 := by have := (nI_leI (a := sh q 3) (b := k) (by omega) (by omega)).mp c_36; omega
      subst q_36
      refine j_bipush (-2) dX8_judge_75 rfl ?_
      refine j_iret dX8_judge_77 rfl ?_
      exact ⟨_, rfl, rfl, hkp⟩
    have q_36 : k < sh q 3 := Nat.not_le.mp (fun z => c_36 ((nI_leI (a := sh q 3) (b := k) (by omega) (by omega)).mpr z))
    obtain ⟨m, rfl⟩ : ∃ c, m = c + 1 := ⟨m - 1, by omega⟩
    refine j_ald0 dX8_judge_39 ?_
    refine j_ild1 dX8_judge_40 ?_
    refine j_ild2 dX8_judge_41 ?_
    refine j_cV2 dX8_judge_42 kX8_byteAt l8_306 rfl (by decide) rfl (Nat.le_of_ble_eq_true rfl) (Nat.le_of_ble_eq_true rfl) (by omega) (s_X8_byteAt hq (by omega) hsr) ?_
    refine j_cS1 dX8_judge_45 kX8_isColour zX8_isColour (Or.inl l8_152) (Nat.le_of_ble_eq_true rfl) (Nat.le_of_ble_eq_true rfl) (by omega) (s_X8_isColour) ?_
    refine j_ifeqB 67 dX8_judge_48 (by decide) (fun c_48 => ?_) (fun c_48 => ?_)
    · refine j_ild2 dX8_judge_67 ?_
      refine j_iret dX8_judge_68 rfl ?_
      exact ⟨_, rfl, by rw [fstJ, if_neg (fun z => c_48 ⟨z.1, z.2.1⟩)], hkp⟩
    have q_48 := c_48
    obtain ⟨c, hc6, ec⟩ := in_nI (n := 6) (by decide) q_48
    have cc : (jd el q k).toNatClampNeg = c := by rw [ec]; exact nI_clamp (by omega)
    have l1 := lkA_62 (b := b) (c := c) (k := 1) h.2.2.2 h.2.1 (by decide)
    refine j_ald0 dX8_judge_51 ?_
    refine j_ald0 dX8_judge_52 ?_
    refine j_ild1 dX8_judge_53 ?_
    refine j_ild2 dX8_judge_54 ?_
    refine j_cV2 dX8_judge_55 kX8_byteAt l8_306 rfl (by decide) rfl (Nat.le_of_ble_eq_true rfl) (Nat.le_of_ble_eq_true rfl) (by omega) (s_X8_byteAt hq (by omega) hsr) ?_
    refine j_top (y := nI c) ec ?_
    refine j_iconst (1) dX8_judge_58 rfl ?_
    refine j_cV2 dX8_judge_59 kX8_allShow l8_296 rfl (by decide) rfl (Nat.le_of_ble_eq_true rfl) (Nat.le_of_ble_eq_true rfl) (by omega) (s_X8_allShow (c := c) (k := 1) h hw (by omega) (by decide)) ?_
    refine j_lconst (0) dX8_judge_62 rfl ?_
    refine j_lcmp dX8_judge_63 ?_
    refine j_ifne 69 dX8_judge_64 (by decide) (fun c_64 => ?_) (fun c_64 => ?_)
    · have q_64 : ¬ lkA v b n c 1 = 0 := fun z => c_64 (lg_cmp0.mpr (by rw [z]; rfl))
      refine j_iinc2 (nI (k + 1)) dX8_judge_69 (nI_1 k) rfl (by decide) ?_
      refine j_goto 29 dX8_judge_72 (by decide) ?_
      rw [fstJ, if_pos ⟨q_48.1, q_48.2, by rw [cc]; exact q_64⟩]
      exact ih m (k + 1) (by omega) (by omega)
    have q_64 : lkA v b n c 1 = 0 := (lN_eq0 (by omega)).mp (lg_cmp0.mp (Classical.not_not.mp c_64))
    refine j_ild2 dX8_judge_67 ?_
    refine j_iret dX8_judge_68 rfl ?_
    exact ⟨_, rfl, by rw [fstJ, if_neg (fun z => absurd q_64 (by have := z.2.2; rw [cc] at this; exact this))], hkp⟩

set_option maxRecDepth 20000 in
theorem s_X8_judge {x : Int32} (h : TR n v S) (hb : LawR b S) (hg : GoodB b) (hsr : SR sh el S) (hs : SOk bb sh) (hbo : BOk sh el) : Rqi a mX8_judge 5 [.ref (a 61), .int x] S fun z S' => z = jgV v b n sh el x ∧ Kp [14, 18] S S' := by
  show J _ _ _ _ 0 [_, _, .null] [] _
  refine j_ild1 dX8_judge_0 ?_
  refine j_cS1 dX8_judge_1 kX8_isShelf zX8_isShelf (Or.inl l8_163) (Nat.le_of_ble_eq_true rfl) (Nat.le_of_ble_eq_true rfl) (by omega) (s_X8_isShelf) ?_
  refine j_ifneB 9 dX8_judge_4 (by decide) (fun c_4 => ?_) (fun c_4 => ?_)
  · obtain ⟨q, hq, rfl⟩ := in_nI (n := 6) (by decide) c_4
    have hcl : (nI q).toNatClampNeg = q := nI_clamp (by omega)
    have hL := (hs.2 q hq).2.2.2
    refine j_ald0 dX8_judge_9 ?_
    refine j_ild1 dX8_judge_10 ?_
    refine j_cV1 dX8_judge_11 kX8_rowFault l8_309 rfl (by decide) rfl (Nat.le_of_ble_eq_true rfl) (Nat.le_of_ble_eq_true rfl) (by omega) (s_X8_rowFault hq hsr hs) ?_
    refine j_ifge 23 dX8_judge_14 (by decide) (fun c_14 => ?_) (fun c_14 => ?_)
    · have h20 := rfV_ok (Int32.not_lt.mpr c_14)
      refine j_ald0 dX8_judge_23 ?_
      refine j_qvV0 dX8_judge_24 kX8_findWeights l8_275 rfl (by decide) rfl (Nat.le_of_ble_eq_true rfl) (Nat.le_of_ble_eq_true rfl) (by omega) (s_X8_findWeights h hb hg) (fun S1 h1 => ?_)
      obtain ⟨hkp, hw⟩ := h1
      refine j_iconst (0) dX8_judge_27 rfl ?_
      refine j_ist2 dX8_judge_28 rfl (by decide) ?_
      rw [jgV, refB_q hq, if_neg (Int32.not_lt.mpr c_14), hcl]
      exact lp_X8_judge hkp (h.kp hkp (by decide)) hw (hsr.kp hkp (by decide)) hq hL (sh q 3 + 1) (sh q 3) 0 (by omega) (by omega)
    refine j_ald0 dX8_judge_17 ?_
    refine j_ild1 dX8_judge_18 ?_
    refine j_cV1 dX8_judge_19 kX8_rowFault l8_309 rfl (by decide) rfl (Nat.le_of_ble_eq_true rfl) (Nat.le_of_ble_eq_true rfl) (by omega) (s_X8_rowFault hq hsr hs) ?_
    refine j_iret dX8_judge_22 rfl ?_
    exact ⟨_, rfl, by rw [jgV, refB_q hq, if_pos (Int32.not_le.mp c_14)], Kp.rf⟩
  refine j_iconst (-1) dX8_judge_7 rfl ?_
  refine j_iret dX8_judge_8 rfl ?_
  exact ⟨_, rfl, by rw [jgV, refB_no c_4, if_pos (by decide)], Kp.rf⟩

set_option maxRecDepth 20000 in
theorem lp_X8_rowShows {S0 : St} (hkp : Kp [14, 18] S0 S) (h : TRw n v S) (hw : WRq v b n S) (hsr : SR sh el S) (hq : q < 6) (hL : sh q 3 ≤ 3) (hcl : Cols sh el q cl) : ∀ (fu : Nat) (k : Nat), sh q 3 - k < fu → (k ≤ sh q 3) → J a mX8_rowShows 5 (gm a fun r S' => ∃ z, r = some (.long z) ∧ z = lN (prodN (fun k => lkA v b n (cl k) 1) (sh q 3)) ∧ Kp [14, 18] S0 S') 9 [.ref (a 61), .int (nI q), .long (lN (prodN (fun k => lkA v b n (cl k) 1) k)), .null, .int (nI k)] [] S := by
  intro fu
  induction fu with
  | zero => intro k hk; exact absurd hk (Nat.not_lt_zero _)
  | succ fu ih =>
    intro k hk hm
    refine j_ild4 dX8_rowShows_9 ?_
    refine j_ald0 dX8_rowShows_11 ?_
    refine j_getR (k := 55) (97) dX8_rowShows_12 cX8_ok (Or.inl f8_132) rfl (by decide) (by decide) (by decide) rfl ?_
    refine j_ild1 dX8_rowShows_15 ?_
    refine j_iald (n := q) dX8_rowShows_16 rfl (by decide) rfl (by omega) (by decide) ?_
    refine j_top (y := nI (sh q 3)) (hsr q hq).2.1 ?_
    refine j_icmpge 41 dX8_rowShows_17 (by decide) (fun c_17 => ?_) (fun c_17 => ?_)
    · have q_17 : k = sh q 3 := by have := (nI_leI (a := sh q 3) (b := k) (by omega) (by omega)).mp c_17; omega
      rw [q_17]
      refine j_lld2 dX8_rowShows_41 ?_
      refine j_lret dX8_rowShows_42 rfl ?_
      exact ⟨_, rfl, rfl, hkp⟩
    have q_17 : k < sh q 3 := Nat.not_le.mp (fun z => c_17 ((nI_leI (a := sh q 3) (b := k) (by omega) (by omega)).mpr z))
    obtain ⟨hc6, hek⟩ := hcl k q_17
    refine j_lld2 dX8_rowShows_20 ?_
    refine j_ald0 dX8_rowShows_21 ?_
    refine j_ald0 dX8_rowShows_22 ?_
    refine j_ild1 dX8_rowShows_23 ?_
    refine j_ild4 dX8_rowShows_24 ?_
    refine j_cV2 dX8_rowShows_26 kX8_byteAt l8_306 rfl (by decide) rfl (Nat.le_of_ble_eq_true rfl) (Nat.le_of_ble_eq_true rfl) (by omega) (s_X8_byteAt hq (by omega) hsr) ?_
    refine j_top (y := nI (cl k)) (by rw [jd, hek]; exact lN_I6 hc6) ?_
    refine j_iconst (1) dX8_rowShows_29 rfl ?_
    refine j_cV2 dX8_rowShows_30 kX8_allShow l8_296 rfl (by decide) rfl (Nat.le_of_ble_eq_true rfl) (Nat.le_of_ble_eq_true rfl) (by omega) (g_X8_allShow (c := cl k) (k := 1) h hw (by omega) (by decide)) ?_
    refine j_lmul dX8_rowShows_33 ?_
    refine j_topL (y := lN (prodN (fun k => lkA v b n (cl k) 1) (k + 1))) (lN_mul _ _) ?_
    refine j_lst2 dX8_rowShows_34 rfl (by decide) ?_
    refine j_iinc4 (nI (k + 1)) dX8_rowShows_35 (nI_1 k) rfl (by decide) ?_
    refine j_goto 9 dX8_rowShows_38 (by decide) ?_
    exact ih (k + 1) (by omega) (by omega)

set_option maxRecDepth 20000 in
theorem s_X8_rowShows (h : TRw n v S) (hb : LawR b S) (hg : GoodB b) (hsr : SR sh el S) (hq : q < 6) (hL : sh q 3 ≤ 3) (hcl : Cols sh el q cl) : Rql a mX8_rowShows 5 [.ref (a 61), .int (nI q)] S fun z S' => z = lN (prodN (fun k => lkA v b n (cl k) 1) (sh q 3)) ∧ Kp [14, 18] S S' := by
  show J _ _ _ _ 0 [_, _, .null, .null, .null] [] _
  refine j_ald0 dX8_rowShows_0 ?_
  refine j_qvV0 dX8_rowShows_1 kX8_findWeights l8_275 rfl (by decide) rfl (Nat.le_of_ble_eq_true rfl) (Nat.le_of_ble_eq_true rfl) (by omega) (g_X8_findWeights h hb hg) (fun S1 h1 => ?_)
  obtain ⟨hkp, hw⟩ := h1
  refine j_lconst (1) dX8_rowShows_4 rfl ?_
  refine j_lst2 dX8_rowShows_5 rfl (by decide) ?_
  refine j_iconst (0) dX8_rowShows_6 rfl ?_
  refine j_ist4 dX8_rowShows_7 rfl (by decide) ?_
  exact lp_X8_rowShows hkp (h.kp hkp (by decide)) hw (hsr.kp hkp (by decide)) hq hL hcl (sh q 3 + 1) 0 (by omega) (by omega)

set_option maxRecDepth 20000 in
theorem lp_X8_cheatedC {Q : Option Value → St → Prop} (hsr : SR sh el S) (hq : q < 6) (hL : sh q 3 ≤ 3) (ka : (∀ j, j < sh q 3 → okC el q j) → ∀ w, J a mX8_cheated 6 (gm a Q) 67 [.ref (a 61), .int (nI q), .int w, .null, .null, .null, .null, .null, .null, .null, .null] [] S) (kb : ¬ (∀ j, j < sh q 3 → okC el q j) → Q (some (.int (-1))) S) : ∀ (fu : Nat) (k : Nat), sh q 3 - k < fu → (k ≤ sh q 3) → (∀ j, j < k → okC el q j) → J a mX8_cheated 6 (gm a Q) 37 [.ref (a 61), .int (nI q), .int (nI k), .null, .null, .null, .null, .null, .null, .null, .null] [] S := by
  intro fu
  induction fu with
  | zero => intro k hk; exact absurd hk (Nat.not_lt_zero _)
  | succ fu ih =>
    intro k hk hj hok
    refine j_ild2 dX8_cheated_37 ?_
    refine j_ald0 dX8_cheated_38 ?_
    refine j_getR (k := 55) (97) dX8_cheated_39 cX8_ok (Or.inl f8_132) rfl (by decide) (by decide) (by decide) rfl ?_
    refine j_ild1 dX8_cheated_42 ?_
    refine j_iald (n := q) dX8_cheated_43 rfl (by decide) rfl (by omega) (by decide) ?_
    refine j_top (y := nI (sh q 3)) (hsr q hq).2.1 ?_
    refine j_icmpge 67 dX8_cheated_44 (by decide) (fun c_44 => ?_) (fun c_44 => ?_)
    · have q_44 : k = sh q 3 := by have := (nI_leI (a := sh q 3) (b := k) (by omega) (by omega)).mp c_44; omega
      exact ka (fun j hj => hok j (by omega)) _
    have q_44 : k < sh q 3 := Nat.not_le.mp (fun z => c_44 ((nI_leI (a := sh q 3) (b := k) (by omega) (by omega)).mpr z))
    refine j_ald0 dX8_cheated_47 ?_
    refine j_ild1 dX8_cheated_48 ?_
    refine j_ild2 dX8_cheated_49 ?_
    refine j_cV2 dX8_cheated_50 kX8_byteAt l8_306 rfl (by decide) rfl (Nat.le_of_ble_eq_true rfl) (Nat.le_of_ble_eq_true rfl) (by omega) (s_X8_byteAt hq (by omega) hsr) ?_
    refine j_cS1 dX8_cheated_53 kX8_isColour zX8_isColour (Or.inl l8_152) (Nat.le_of_ble_eq_true rfl) (Nat.le_of_ble_eq_true rfl) (by omega) (s_X8_isColour) ?_
    refine j_ifneB 61 dX8_cheated_56 (by decide) (fun c_56 => ?_) (fun c_56 => ?_)
    · refine j_iinc2 (nI (k + 1)) dX8_cheated_61 (nI_1 k) rfl (by decide) ?_
      refine j_goto 37 dX8_cheated_64 (by decide) ?_
      refine ih (k + 1) (by omega) (by omega) (fun j hj => ?_)
      by_cases c : j = k
      · rw [c]; exact c_56
      · exact hok j (by omega)
    refine j_iconst (-1) dX8_cheated_59 rfl ?_
    refine j_iret dX8_cheated_60 rfl ?_
    exact kb (fun z => c_56 (z k q_44))

abbrev rfA (v : Nat → Nat → Nat) (b : Option (List Line)) (n : Nat) (cl : Nat → Nat) (L : Nat) : Nat → Int32 × Nat := rfF (wy1 v b n cl L) (sumN (v 0) n) L (wy0 v b n cl L)
set_option maxRecDepth 20000 in
theorem lp_X8_cheated (h : TR n v S) (hb : LawR b S) (hg : GoodB b) (hsr : SR sh el S) (hq : q < 6) (hL : sh q 3 ≤ 3) (hcl : Cols sh el q cl) : ∀ (fu : Nat) (i : Nat) (S1 : St) (w9 : Value), n - i < fu → (i ≤ n) → (Kp [14, 18] S S1) → J a mX8_cheated 6 (gm a fun r S' => ∃ z, r = some (.int z) ∧ z = (rfA v b n cl (sh q 3) n).1 ∧ Kp [14, 18] S S') 89 [.ref (a 61), .int (nI q), .long (lN (wy0 v b n cl (sh q 3))), .null, .int (nI (sumN (v 0) n)), .int (rfA v b n cl (sh q 3) i).1, .long (lN (rfA v b n cl (sh q 3) i).2), .null, .int (nI i), w9, .null] [] S1 := by
  intro fu
  induction fu with
  | zero => intro i S1 w9 hk; exact absurd hk (Nat.not_lt_zero _)
  | succ fu ih =>
    intro i S1 w9 hk hi hkp
    have hn8 := h.2.1
    have hs := h.sum hn8
    have h9 : ∀ j, j < 8 → v 0 j ≤ 9 := fun j hj => h.2.2.2 0 (by decide) j hj
    have hw0 := wy0_le (b := b) (cl := cl) h9 hn8 hL
    have hwi := wy1_le (b := b) (cl := cl) h9 hn8 hL i
    have hrf : (rfA v b n cl (sh q 3) i).2 ≤ 4800 ^ 3 := rfF_ok (wy1_le (b := b) (cl := cl) h9 hn8 hL) i
    have hN1 : sumN (v 0) n ^ sh q 3 ≤ 73 ^ 3 := Nat.le_trans (Nat.pow_le_pow_left (by omega) _) (Nat.pow_le_pow_right (by decide) hL)
    have hN2 : (sumN (v 0) n + 1) ^ sh q 3 ≤ 73 ^ 3 := Nat.le_trans (Nat.pow_le_pow_left (by omega) _) (Nat.pow_le_pow_right (by decide) hL)
    have hP1 : wy1 v b n cl (sh q 3) i * sumN (v 0) n ^ sh q 3 < 2 ^ 62 := Nat.lt_of_le_of_lt (Nat.mul_le_mul hwi hN1) (by decide)
    have hP2 : wy0 v b n cl (sh q 3) * (sumN (v 0) n + 1) ^ sh q 3 < 2 ^ 62 := Nat.lt_of_le_of_lt (Nat.mul_le_mul hw0 hN2) (by decide)
    refine j_ild8 dX8_cheated_89 ?_
    refine j_ald0 dX8_cheated_91 ?_
    refine j_getI (k := 1) dX8_cheated_92 cX8_ok (Or.inl f8_145) rfl (by decide) (by decide) (by decide) ?_
    refine j_top (y := nI n) ((h.kp hkp (by decide)).1) ?_
    refine j_icmpge 213 dX8_cheated_95 (by decide) (fun c_95 => ?_) (fun c_95 => ?_)
    · have q_95 : i = n := by have := (nI_leI (a := n) (b := i) (by omega) (by omega)).mp c_95; omega
      subst q_95
      refine j_ild5 dX8_cheated_213 ?_
      refine j_iret dX8_cheated_215 rfl ?_
      exact ⟨_, rfl, rfl, hkp⟩
    have q_95 : i < n := Nat.not_le.mp (fun z => c_95 ((nI_leI (a := n) (b := i) (by omega) (by omega)).mpr z))
    have ht1 := h.kp hkp (by decide)
    have hi8 : i < 8 := by omega
    refine j_ald0 dX8_cheated_98 ?_
    refine j_getR (k := 2) (62) dX8_cheated_99 cX8_ok (Or.inl f8_9) rfl (by decide) (by decide) (by decide) rfl ?_
    refine j_ild8 dX8_cheated_102 ?_
    refine j_dup2 dX8_cheated_104 rfl rfl ?_
    refine j_iald (n := i) dX8_cheated_105 rfl (by decide) rfl (by omega) (by decide) ?_
    refine j_top (y := nI (v 0 i)) (ht1.many hi8) ?_
    refine j_iconst (1) dX8_cheated_106 rfl ?_
    refine j_iadd dX8_cheated_107 ?_
    refine j_top (y := nI (v 0 i + 1)) (nI_1 _) ?_
    refine j_iast (n := i) dX8_cheated_108 rfl (by decide) rfl (by omega) (by decide) ?_
    have hb1 : LawR b (uI S1 62 i (nI (v 0 i + 1))) := (hb.kp hkp (by decide)).kp (Kp_uI (rs := [11]) Kp.rf (by show 11 ∈ [11]; decide)) (by decide)
    have hs1 : SR sh el (uI S1 62 i (nI (v 0 i + 1))) := (hsr.kp hkp (by decide)).kp (Kp_uI (rs := [11]) Kp.rf (by show 11 ∈ [11]; decide)) (by decide)
    refine j_ald0 dX8_cheated_109 ?_
    refine j_ild1 dX8_cheated_110 ?_
    refine j_qlV1 dX8_cheated_111 kX8_rowShows l8_312 rfl (by decide) rfl (Nat.le_of_ble_eq_true rfl) (Nat.le_of_ble_eq_true rfl) (by omega) (s_X8_rowShows (ht1.wmo i) hb1 hg hs1 hq hL hcl) (fun z S2 h2 => ?_)
    obtain ⟨rfl, hk2⟩ := h2
    refine j_topL (y := lN (wy1 v b n cl (sh q 3) i)) rfl ?_
    have ht2 := (ht1.wmo i).kp hk2 (by decide)
    have hk3 : Kp [14, 18] S (uI S2 62 i (nI (v 0 i))) := hkp.tr (Kp_back (ht1.many hi8) hk2)
    refine j_lst9 dX8_cheated_114 rfl (by decide) ?_
    refine j_ald0 dX8_cheated_116 ?_
    refine j_getR (k := 2) (62) dX8_cheated_117 cX8_ok (Or.inl f8_9) rfl (by decide) (by decide) (by decide) rfl ?_
    refine j_ild8 dX8_cheated_120 ?_
    refine j_dup2 dX8_cheated_122 rfl rfl ?_
    refine j_iald (n := i) dX8_cheated_123 rfl (by decide) rfl (by omega) (by decide) ?_
    refine j_top (y := nI (v 0 i + 1)) ((ht2.many hi8).trans (by rw [mo1_0, if_pos rfl])) ?_
    refine j_iconst (1) dX8_cheated_124 rfl ?_
    refine j_isub dX8_cheated_125 ?_
    refine j_top (y := nI (v 0 i)) (by exact nI_pred (v 0 i)) ?_
    refine j_iast (n := i) dX8_cheated_126 rfl (by decide) rfl (by omega) (by decide) ?_
    refine j_lld9 dX8_cheated_127 ?_
    refine j_ild4 dX8_cheated_129 ?_
    refine j_i2l dX8_cheated_131 ?_
    refine j_topL (y := lN (sumN (v 0) n)) (nI_l (by omega)) ?_
    refine j_ald0 dX8_cheated_132 ?_
    refine j_getR (k := 55) (97) dX8_cheated_133 cX8_ok (Or.inl f8_132) rfl (by decide) (by decide) (by decide) rfl ?_
    refine j_ild1 dX8_cheated_136 ?_
    refine j_iald (n := q) dX8_cheated_137 rfl (by decide) rfl (by omega) (by decide) ?_
    refine j_top (y := nI (sh q 3)) ((hsr.kp hk3 (by decide)) q hq).2.1 ?_
    refine j_cS2 dX8_cheated_138 kX8_power zX8_power (Or.inl l8_287) (Nat.le_of_ble_eq_true rfl) (Nat.le_of_ble_eq_true rfl) (by omega) (s_X8_power (by omega)) ?_
    refine j_lmul dX8_cheated_141 ?_
    refine j_topL (y := lN (wy1 v b n cl (sh q 3) i * sumN (v 0) n ^ sh q 3)) (lN_mul _ _) ?_
    refine j_lld2 dX8_cheated_142 ?_
    refine j_ild4 dX8_cheated_143 ?_
    refine j_iconst (1) dX8_cheated_145 rfl ?_
    refine j_iadd dX8_cheated_146 ?_
    refine j_top (y := nI (sumN (v 0) n + 1)) (nI_1 _) ?_
    refine j_i2l dX8_cheated_147 ?_
    refine j_topL (y := lN (sumN (v 0) n + 1)) (nI_l (by omega)) ?_
    refine j_ald0 dX8_cheated_148 ?_
    refine j_getR (k := 55) (97) dX8_cheated_149 cX8_ok (Or.inl f8_132) rfl (by decide) (by decide) (by decide) rfl ?_
    refine j_ild1 dX8_cheated_152 ?_
    refine j_iald (n := q) dX8_cheated_153 rfl (by decide) rfl (by omega) (by decide) ?_
    refine j_top (y := nI (sh q 3)) ((hsr.kp hk3 (by decide)) q hq).2.1 ?_
    refine j_cS2 dX8_cheated_154 kX8_power zX8_power (Or.inl l8_287) (Nat.le_of_ble_eq_true rfl) (Nat.le_of_ble_eq_true rfl) (by omega) (s_X8_power (by omega)) ?_
    refine j_lmul dX8_cheated_157 ?_
    refine j_topL (y := lN (wy0 v b n cl (sh q 3) * (sumN (v 0) n + 1) ^ sh q 3)) (lN_mul _ _) ?_
    refine j_lcmp dX8_cheated_158 ?_
    refine j_ifgt 183 dX8_cheated_159 (by decide) (fun c_159 => ?_) (fun c_159 => ?_)
    · have q_n : ¬ chP (sumN (v 0) n) (sh q 3) (wy0 v b n cl (sh q 3)) (wy1 v b n cl (sh q 3) i) := fun z => absurd ((lg_cmp_gt _ _).mp c_159) (Int64.not_lt.mpr ((pk_lLE (by omega) (by omega)).mpr z.1))
      refine j_ild5 dX8_cheated_183 ?_
      refine j_iflt 199 dX8_cheated_185 (by decide) (fun c_185 => ?_) (fun c_185 => ?_)
      · have q_185 : ¬ 0 ≤ (rfA v b n cl (sh q 3) i).1 := Int32.not_le.mpr c_185
        refine j_ild8 dX8_cheated_199 ?_
        refine j_ist5 dX8_cheated_201 rfl (by decide) ?_
        refine j_lld9 dX8_cheated_203 ?_
        refine j_lst6 dX8_cheated_205 rfl (by decide) ?_
        refine j_iinc8 (nI (i + 1)) dX8_cheated_207 (nI_1 i) rfl (by decide) ?_
        refine j_goto 89 dX8_cheated_210 (by decide) ?_
        have e : rfA v b n cl (sh q 3) (i + 1) = (nI i, wy1 v b n cl (sh q 3) i) := if_neg (fun z => z.elim q_n (fun y => q_185 y.1))
        have := ih (i + 1) _ (.long (lN (wy1 v b n cl (sh q 3) i))) (by omega) (by omega) hk3
        rw [e] at this
        exact this
      have q_185 : 0 ≤ (rfA v b n cl (sh q 3) i).1 := Int32.not_lt.mp c_185
      refine j_lld9 dX8_cheated_188 ?_
      refine j_lld6 dX8_cheated_190 ?_
      refine j_lcmp dX8_cheated_192 ?_
      refine j_ifgt 199 dX8_cheated_193 (by decide) (fun c_193 => ?_) (fun c_193 => ?_)
      · have q_193 : (rfA v b n cl (sh q 3) i).2 < wy1 v b n cl (sh q 3) i := Nat.not_le.mp (fun z => absurd ((lg_cmp_gt _ _).mp c_193) (Int64.not_lt.mpr ((pk_lLE (by omega) (by omega)).mpr z)))
        refine j_ild8 dX8_cheated_199 ?_
        refine j_ist5 dX8_cheated_201 rfl (by decide) ?_
        refine j_lld9 dX8_cheated_203 ?_
        refine j_lst6 dX8_cheated_205 rfl (by decide) ?_
        refine j_iinc8 (nI (i + 1)) dX8_cheated_207 (nI_1 i) rfl (by decide) ?_
        refine j_goto 89 dX8_cheated_210 (by decide) ?_
        have e : rfA v b n cl (sh q 3) (i + 1) = (nI i, wy1 v b n cl (sh q 3) i) := if_neg (fun z => z.elim q_n (fun y => absurd y.2 (Nat.not_le.mpr q_193)))
        have := ih (i + 1) _ (.long (lN (wy1 v b n cl (sh q 3) i))) (by omega) (by omega) hk3
        rw [e] at this
        exact this
      have q_193 : wy1 v b n cl (sh q 3) i ≤ (rfA v b n cl (sh q 3) i).2 := (pk_lLE (by omega) (by omega)).mp (Int64.not_lt.mp (fun z => c_193 ((lg_cmp_gt _ _).mpr z)))
      refine j_goto 207 dX8_cheated_196 (by decide) ?_
      refine j_iinc8 (nI (i + 1)) dX8_cheated_207 (nI_1 i) rfl (by decide) ?_
      refine j_goto 89 dX8_cheated_210 (by decide) ?_
      have e : rfA v b n cl (sh q 3) (i + 1) = rfA v b n cl (sh q 3) i := if_pos (Or.inr ⟨q_185, q_193⟩)
      have := ih (i + 1) _ (.long (lN (wy1 v b n cl (sh q 3) i))) (by omega) (by omega) hk3
      rw [e] at this
      exact this
    have q_159 : wy1 v b n cl (sh q 3) i * sumN (v 0) n ^ sh q 3 ≤ wy0 v b n cl (sh q 3) * (sumN (v 0) n + 1) ^ sh q 3 := (pk_lLE (by omega) (by omega)).mp (Int64.not_lt.mp (fun z => c_159 ((lg_cmp_gt _ _).mpr z)))
    refine j_ild4 dX8_cheated_162 ?_
    refine j_ifne 207 dX8_cheated_164 (by decide) (fun c_164 => ?_) (fun c_164 => ?_)
    · have q_c : chP (sumN (v 0) n) (sh q 3) (wy0 v b n cl (sh q 3)) (wy1 v b n cl (sh q 3) i) := ⟨q_159, fun z => c_164 (by rw [z.1]; rfl)⟩
      refine j_iinc8 (nI (i + 1)) dX8_cheated_207 (nI_1 i) rfl (by decide) ?_
      refine j_goto 89 dX8_cheated_210 (by decide) ?_
      have e : rfA v b n cl (sh q 3) (i + 1) = rfA v b n cl (sh q 3) i := if_pos (Or.inl q_c)
      have := ih (i + 1) _ (.long (lN (wy1 v b n cl (sh q 3) i))) (by omega) (by omega) hk3
      rw [e] at this
      exact this
    have q_164 : sumN (v 0) n = 0 := (nI_eq (a := sumN (v 0) n) (b := 0) (by omega) (by decide)).mp (Classical.not_not.mp c_164)
    refine j_ald0 dX8_cheated_167 ?_
    refine j_getR (k := 55) (97) dX8_cheated_168 cX8_ok (Or.inl f8_132) rfl (by decide) (by decide) (by decide) rfl ?_
    refine j_ild1 dX8_cheated_171 ?_
    refine j_iald (n := q) dX8_cheated_172 rfl (by decide) rfl (by omega) (by decide) ?_
    refine j_top (y := nI (sh q 3)) ((hsr.kp hk3 (by decide)) q hq).2.1 ?_
    refine j_ifle 207 dX8_cheated_173 (by decide) (fun c_173 => ?_) (fun c_173 => ?_)
    · have q_173 : sh q 3 = 0 := by have := (nI_leI (a := sh q 3) (b := 0) (by omega) (by decide)).mp c_173; omega
      have q_c : chP (sumN (v 0) n) (sh q 3) (wy0 v b n cl (sh q 3)) (wy1 v b n cl (sh q 3) i) := ⟨q_159, fun z => by have := z.2.1; omega⟩
      refine j_iinc8 (nI (i + 1)) dX8_cheated_207 (nI_1 i) rfl (by decide) ?_
      refine j_goto 89 dX8_cheated_210 (by decide) ?_
      have e : rfA v b n cl (sh q 3) (i + 1) = rfA v b n cl (sh q 3) i := if_pos (Or.inl q_c)
      have := ih (i + 1) _ (.long (lN (wy1 v b n cl (sh q 3) i))) (by omega) (by omega) hk3
      rw [e] at this
      exact this
    have q_173 : 0 < sh q 3 := Nat.not_le.mp (fun z => c_173 ((nI_leI (a := sh q 3) (b := 0) (by omega) (by decide)).mpr z))
    refine j_lld9 dX8_cheated_176 ?_
    refine j_lconst (0) dX8_cheated_178 rfl ?_
    refine j_lcmp dX8_cheated_179 ?_
    refine j_ifle 207 dX8_cheated_180 (by decide) (fun c_180 => ?_) (fun c_180 => ?_)
    · have q_180 : wy1 v b n cl (sh q 3) i = 0 := (lN_le0 (by omega)).mp ((lg_cmp_le _ _).mp c_180)
      have q_c : chP (sumN (v 0) n) (sh q 3) (wy0 v b n cl (sh q 3)) (wy1 v b n cl (sh q 3) i) := ⟨q_159, fun z => by have := z.2.2; omega⟩
      refine j_iinc8 (nI (i + 1)) dX8_cheated_207 (nI_1 i) rfl (by decide) ?_
      refine j_goto 89 dX8_cheated_210 (by decide) ?_
      have e : rfA v b n cl (sh q 3) (i + 1) = rfA v b n cl (sh q 3) i := if_pos (Or.inl q_c)
      have := ih (i + 1) _ (.long (lN (wy1 v b n cl (sh q 3) i))) (by omega) (by omega) hk3
      rw [e] at this
      exact this
    have q_180 : 0 < wy1 v b n cl (sh q 3) i := Nat.pos_of_ne_zero (fun z => c_180 ((lg_cmp_le _ _).mpr ((lN_le0 (by omega)).mpr z)))
    have q_n : ¬ chP (sumN (v 0) n) (sh q 3) (wy0 v b n cl (sh q 3)) (wy1 v b n cl (sh q 3) i) := fun z => z.2 ⟨q_164, q_173, q_180⟩
    refine j_ild5 dX8_cheated_183 ?_
    refine j_iflt 199 dX8_cheated_185 (by decide) (fun c_185 => ?_) (fun c_185 => ?_)
    · have q_185 : ¬ 0 ≤ (rfA v b n cl (sh q 3) i).1 := Int32.not_le.mpr c_185
      refine j_ild8 dX8_cheated_199 ?_
      refine j_ist5 dX8_cheated_201 rfl (by decide) ?_
      refine j_lld9 dX8_cheated_203 ?_
      refine j_lst6 dX8_cheated_205 rfl (by decide) ?_
      refine j_iinc8 (nI (i + 1)) dX8_cheated_207 (nI_1 i) rfl (by decide) ?_
      refine j_goto 89 dX8_cheated_210 (by decide) ?_
      have e : rfA v b n cl (sh q 3) (i + 1) = (nI i, wy1 v b n cl (sh q 3) i) := if_neg (fun z => z.elim q_n (fun y => q_185 y.1))
      have := ih (i + 1) _ (.long (lN (wy1 v b n cl (sh q 3) i))) (by omega) (by omega) hk3
      rw [e] at this
      exact this
    have q_185 : 0 ≤ (rfA v b n cl (sh q 3) i).1 := Int32.not_lt.mp c_185
    refine j_lld9 dX8_cheated_188 ?_
    refine j_lld6 dX8_cheated_190 ?_
    refine j_lcmp dX8_cheated_192 ?_
    refine j_ifgt 199 dX8_cheated_193 (by decide) (fun c_193 => ?_) (fun c_193 => ?_)
    · have q_193 : (rfA v b n cl (sh q 3) i).2 < wy1 v b n cl (sh q 3) i := Nat.not_le.mp (fun z => absurd ((lg_cmp_gt _ _).mp c_193) (Int64.not_lt.mpr ((pk_lLE (by omega) (by omega)).mpr z)))
      refine j_ild8 dX8_cheated_199 ?_
      refine j_ist5 dX8_cheated_201 rfl (by decide) ?_
      refine j_lld9 dX8_cheated_203 ?_
      refine j_lst6 dX8_cheated_205 rfl (by decide) ?_
      refine j_iinc8 (nI (i + 1)) dX8_cheated_207 (nI_1 i) rfl (by decide) ?_
      refine j_goto 89 dX8_cheated_210 (by decide) ?_
      have e : rfA v b n cl (sh q 3) (i + 1) = (nI i, wy1 v b n cl (sh q 3) i) := if_neg (fun z => z.elim q_n (fun y => absurd y.2 (Nat.not_le.mpr q_193)))
      have := ih (i + 1) _ (.long (lN (wy1 v b n cl (sh q 3) i))) (by omega) (by omega) hk3
      rw [e] at this
      exact this
    have q_193 : wy1 v b n cl (sh q 3) i ≤ (rfA v b n cl (sh q 3) i).2 := (pk_lLE (by omega) (by omega)).mp (Int64.not_lt.mp (fun z => c_193 ((lg_cmp_gt _ _).mpr z)))
    refine j_goto 207 dX8_cheated_196 (by decide) ?_
    refine j_iinc8 (nI (i + 1)) dX8_cheated_207 (nI_1 i) rfl (by decide) ?_
    refine j_goto 89 dX8_cheated_210 (by decide) ?_
    have e : rfA v b n cl (sh q 3) (i + 1) = rfA v b n cl (sh q 3) i := if_pos (Or.inr ⟨q_185, q_193⟩)
    have := ih (i + 1) _ (.long (lN (wy1 v b n cl (sh q 3) i))) (by omega) (by omega) hk3
    rw [e] at this
    exact this

set_option maxRecDepth 20000 in
theorem ch_67 {w : Int32} (h : TR n v S) (hb : LawR b S) (hg : GoodB b) (hsr : SR sh el S) (hq : q < 6) (hL : sh q 3 ≤ 3) (hcl : Cols sh el q cl) : J a mX8_cheated 6 (gm a fun r S' => ∃ z, r = some (.int z) ∧ z = (rfA v b n cl (sh q 3) n).1 ∧ Kp [14, 18] S S') 67 [.ref (a 61), .int (nI q), .int w, .null, .null, .null, .null, .null, .null, .null, .null] [] S := by
  refine j_ald0 dX8_cheated_67 ?_
  refine j_ild1 dX8_cheated_68 ?_
  refine j_qlV1 dX8_cheated_69 kX8_rowShows l8_312 rfl (by decide) rfl (Nat.le_of_ble_eq_true rfl) (Nat.le_of_ble_eq_true rfl) (by omega) (s_X8_rowShows h.w hb hg hsr hq hL hcl) (fun z S1 h1 => ?_)
  obtain ⟨rfl, hkp⟩ := h1
  refine j_topL (y := lN (wy0 v b n cl (sh q 3))) rfl ?_
  refine j_lst2 dX8_cheated_72 rfl (by decide) ?_
  refine j_ald0 dX8_cheated_73 ?_
  refine j_cV0 dX8_cheated_74 kX8_allCards l8_196 rfl (by decide) rfl (Nat.le_of_ble_eq_true rfl) (Nat.le_of_ble_eq_true rfl) (by omega) (s_X8_allCards (h.kp hkp (by decide))) ?_
  refine j_ist4 dX8_cheated_77 rfl (by decide) ?_
  refine j_bipush (-2) dX8_cheated_79 rfl ?_
  refine j_ist5 dX8_cheated_81 rfl (by decide) ?_
  refine j_lconst (0) dX8_cheated_83 rfl ?_
  refine j_lst6 dX8_cheated_84 rfl (by decide) ?_
  refine j_iconst (0) dX8_cheated_86 rfl ?_
  refine j_ist8 dX8_cheated_87 rfl (by decide) ?_
  exact lp_X8_cheated h hb hg hsr hq hL hcl (n + 1) 0 S1 .null (by omega) (by omega) hkp

set_option maxRecDepth 20000 in
theorem s_X8_cheated {x : Int32} (h : TR n v S) (hb : LawR b S) (hg : GoodB b) (hsr : SR sh el S) (hs : SOk bb sh) (hbo : BOk sh el) : Rqi a mX8_cheated 6 [.ref (a 61), .int x] S fun z S' => z = chV v b n sh el x ∧ Kp [14, 18] S S' := by
  show J _ _ _ _ 0 [_, _, .null, .null, .null, .null, .null, .null, .null, .null, .null] [] _
  refine j_ild1 dX8_cheated_0 ?_
  refine j_cS1 dX8_cheated_1 kX8_isShelf zX8_isShelf (Or.inl l8_163) (Nat.le_of_ble_eq_true rfl) (Nat.le_of_ble_eq_true rfl) (by omega) (s_X8_isShelf) ?_
  refine j_ifneB 9 dX8_cheated_4 (by decide) (fun c_4 => ?_) (fun c_4 => ?_)
  · obtain ⟨q, hq, rfl⟩ := in_nI (n := 6) (by decide) c_4
    have hcl : (nI q).toNatClampNeg = q := nI_clamp (by omega)
    have hL := (hs.2 q hq).2.2.2
    refine j_ald0 dX8_cheated_9 ?_
    refine j_ild1 dX8_cheated_10 ?_
    refine j_cV1 dX8_cheated_11 kX8_rowFault l8_309 rfl (by decide) rfl (Nat.le_of_ble_eq_true rfl) (Nat.le_of_ble_eq_true rfl) (by omega) (s_X8_rowFault hq hsr hs) ?_
    refine j_ifge 23 dX8_cheated_14 (by decide) (fun c_14 => ?_) (fun c_14 => ?_)
    · have h20 := rfV_ok (Int32.not_lt.mpr c_14)
      refine j_ald0 dX8_cheated_23 ?_
      refine j_getR (k := 55) (97) dX8_cheated_24 cX8_ok (Or.inl f8_132) rfl (by decide) (by decide) (by decide) rfl ?_
      refine j_ild1 dX8_cheated_27 ?_
      refine j_iald (n := q) dX8_cheated_28 rfl (by decide) rfl (by omega) (by decide) ?_
      refine j_top (y := nI (sh q 3)) (hsr q hq).2.1 ?_
      refine j_iconst (3) dX8_cheated_29 rfl ?_
      refine j_icmple 35 dX8_cheated_30 (by decide) (fun c_30 => ?_) (fun c_30 => ?_)
      · have q_30 : sh q 3 ≤ 3 := (nI_leI (a := sh q 3) (b := 3) (by omega) (by decide)).mp c_30
        refine j_iconst (0) dX8_cheated_35 rfl ?_
        refine j_ist2 dX8_cheated_36 rfl (by decide) ?_
        refine lp_X8_cheatedC hsr hq q_30 (fun hok w => ?_) (fun hno => ?_) (sh q 3 + 1) 0 (by omega) (by omega) (fun j hj => absurd hj (Nat.not_lt_zero _))
        · rw [chV, refB_q hq, if_neg (Int32.not_lt.mpr c_14), hcl, if_neg (by omega), if_pos hok, (ml_rf (fun h0 hLp => wy0_0 h0 hLp) n (by have := h.2.1; omega)).1]
          exact ch_67 h hb hg hsr hq q_30 (cols_of hbo hq h20.1 h20.2 hL hok)
        · exact ⟨_, rfl, by rw [chV, refB_q hq, if_neg (Int32.not_lt.mpr c_14), hcl, if_neg (by omega), if_neg hno], Kp.rf⟩
      have q_30 : 3 < sh q 3 := Nat.not_le.mp (fun z => c_30 ((nI_leI (a := sh q 3) (b := 3) (by omega) (by decide)).mpr z))
      refine j_iconst (-1) dX8_cheated_33 rfl ?_
      refine j_iret dX8_cheated_34 rfl ?_
      exact ⟨_, rfl, by rw [chV, refB_q hq, if_neg (Int32.not_lt.mpr c_14), hcl, if_pos q_30], Kp.rf⟩
    refine j_ald0 dX8_cheated_17 ?_
    refine j_ild1 dX8_cheated_18 ?_
    refine j_cV1 dX8_cheated_19 kX8_rowFault l8_309 rfl (by decide) rfl (Nat.le_of_ble_eq_true rfl) (Nat.le_of_ble_eq_true rfl) (by omega) (s_X8_rowFault hq hsr hs) ?_
    refine j_iret dX8_cheated_22 rfl ?_
    exact ⟨_, rfl, by rw [chV, refB_q hq, if_pos (Int32.not_le.mp c_14)], Kp.rf⟩
  refine j_iconst (-1) dX8_cheated_7 rfl ?_
  refine j_iret dX8_cheated_8 rfl ?_
  exact ⟨_, rfl, by rw [chV, refB_no c_4, if_pos (by decide)], Kp.rf⟩

end JudgeR
