/-! shelves: both sides -/
def rh (s : Nat → Nat) : Int32 := if s 0 = 0 then -1 else if s 0 = 1 then nI (s 1) else -2 - nI (s 2)
/-- shelf i: 0 what it holds (0 nothing, 1 a body, 2 a row), 1 the body, 2 the sort, 3 the length; its elements -/
def SC (sh : Nat → Nat → Nat) (el : Nat → Nat → Int64) (S : St) : Prop := ∀ i, i < 6 → S.1 (8 + i) 0 = nI (sh i 0) ∧ (sh i 0 = 1 → S.1 (8 + i) 1 = nI (sh i 1)) ∧ (sh i 0 = 2 → S.1 (8 + i) 2 = nI (sh i 2)) ∧ S.1 (8 + i) 3 = nI (sh i 3) ∧ ∀ k, k < 60 → S.2.1 (55 + i) k = el i k
def SR (sh : Nat → Nat → Nat) (el : Nat → Nat → Int64) (S : St) : Prop := ∀ i, i < 6 → S.1 96 i = rh (sh i) ∧ S.1 97 i = nI (sh i 3) ∧ ∀ k, k < 60 → S.2.1 98 (60 * i + k) = el i k
def SOk (b : Nat) (sh : Nat → Nat → Nat) : Prop := b ≤ 50 ∧ ∀ i, i < 6 → sh i 0 ≤ 2 ∧ (sh i 0 = 1 → sh i 1 < b) ∧ (sh i 0 = 2 → sh i 2 < 5) ∧ sh i 3 ≤ 60
def refV (sh : Nat → Nat → Nat) (x y : Int32) : Int32 := if ¬ (0 ≤ x ∧ x < 6) then -1 else if sh x.toNatClampNeg 0 = 0 then -11 else if ¬ sh x.toNatClampNeg 0 = 2 then -12 else if 0 ≤ y ∧ y < nI (sh x.toNatClampNeg 3) then 0 else -13
def keptV (s : Nat) (v : Int64) : Int64 := if s = 0 then v.toInt32.toInt8.toInt32.toInt64 else if s = 1 then v.toInt32.toInt16.toInt32.toInt64 else if s = 2 then v.toInt32.toInt64 else if s = 3 then v else if v = 0 then 0 else 1
theorem i6 {i : Nat} (h : i < 6) : i = 0 ∨ i = 1 ∨ i = 2 ∨ i = 3 ∨ i = 4 ∨ i = 5 := by omega
theorem SC.kp {sh : Nat → Nat → Nat} {el : Nat → Nat → Int64} {S S' : St} {rs : List Nat} (h : SC sh el S) (hk : Kp rs S S') (hr : 7 ∉ rs) : SC sh el S' := by
  intro i hi
  have e : ∀ k, S'.1 (8 + i) k = S.1 (8 + i) k := fun k => hk.i (by rw [rg_sh hi]; exact hr)
  rw [e, e, e, e]
  exact ⟨(h i hi).1, (h i hi).2.1, (h i hi).2.2.1, (h i hi).2.2.2.1, fun k hk2 => by rw [hk.l (by rw [rg_el hi]; exact hr)]; exact (h i hi).2.2.2.2 k hk2⟩
theorem SR.kp {sh : Nat → Nat → Nat} {el : Nat → Nat → Int64} {S S' : St} {rs : List Nat} (h : SR sh el S) (hk : Kp rs S S') (hr : 17 ∉ rs) : SR sh el S' := by
  intro i hi
  rw [hk.i (show rg 96 i ∉ rs from hr), hk.i (show rg 97 i ∉ rs from hr)]
  exact ⟨(h i hi).1, (h i hi).2.1, fun k hk2 => by rw [hk.l (show rg 98 _ ∉ rs from hr)]; exact (h i hi).2.2 k hk2⟩
theorem rh_m1 {b : Nat} {sh : Nat → Nat → Nat} (h : SOk b sh) {i : Nat} (hi : i < 6) : rh (sh i) = -1 ↔ sh i 0 = 0 := by
  obtain ⟨hb, h⟩ := h
  obtain ⟨h0, h1, h2, -⟩ := h i hi
  unfold rh
  rcases (show sh i 0 = 0 ∨ sh i 0 = 1 ∨ sh i 0 = 2 by omega) with e | e | e
  · simp [e]
  · simp only [e]
    have := h1 e
    simp
    intro z
    rw [← Int32.toInt_inj, nI_toInt (by omega)] at z
    have z2 : ((sh i 1 : Nat) : Int) = -1 := z
    omega
  · have := h2 e
    simp only [e]
    simp
    rcases (show sh i 2 = 0 ∨ sh i 2 = 1 ∨ sh i 2 = 2 ∨ sh i 2 = 3 ∨ sh i 2 = 4 by omega) with q | q | q | q | q <;> rw [q] <;> decide
theorem rh_ge {b : Nat} {sh : Nat → Nat → Nat} (h : SOk b sh) {i : Nat} (hi : i < 6) : 0 ≤ rh (sh i) ↔ sh i 0 = 1 := by
  obtain ⟨hb, h⟩ := h
  obtain ⟨h0, h1, h2, -⟩ := h i hi
  unfold rh
  rcases (show sh i 0 = 0 ∨ sh i 0 = 1 ∨ sh i 0 = 2 by omega) with e | e | e
  · simp [e]
  · simp only [e]
    have := h1 e
    simp
    exact nI_pos' (by omega)
  · have := h2 e
    simp only [e]
    simp
    rcases (show sh i 2 = 0 ∨ sh i 2 = 1 ∨ sh i 2 = 2 ∨ sh i 2 = 3 ∨ sh i 2 = 4 by omega) with q | q | q | q | q <;> rw [q] <;> decide
theorem rh_2 {sh : Nat → Nat → Nat} {i : Nat} (e : sh i 0 = 2) : rh (sh i) = -2 - nI (sh i 2) := by unfold rh; simp [e]
theorem rh_1 {sh : Nat → Nat → Nat} {i : Nat} (e : sh i 0 = 1) : rh (sh i) = nI (sh i 1) := by unfold rh; simp [e]
theorem h012 {x : Nat} (h : x ≤ 2) (h0 : ¬ x = 0) (h1 : ¬ x = 1) : x = 2 := by omega
section Shelves
variable {a : Nat → Nat} {S : St} {b : Nat} {sh : Nat → Nat → Nat} {el : Nat → Nat → Int64}

set_option maxRecDepth 20000 in
theorem s_X7_refusedElement {x y : Int32} (h : SC sh el S) (hs : SOk b sh) : Rt a mX7_refusedElement 1 [.ref (a 0), .int x, .int y] S (some (.int (refV sh x y))) S := by
  show J _ _ _ _ 0 [_, _, _, .null] [] _
  refine j_ild1 dX7_refusedElement_0 ?_
  refine j_bipush (6) dX7_refusedElement_1 rfl ?_
  refine j_cS2 dX7_refusedElement_3 kX7_within zX7_within (Or.inl l7_72) (Nat.le_of_ble_eq_true rfl) (Nat.le_of_ble_eq_true rfl) (by omega) (s_X7_within) ?_
  refine j_ifneB 11 dX7_refusedElement_6 (by decide) (fun c_6 => ?_) (fun c_6 => ?_)
  · obtain ⟨i, hi, rfl⟩ := in_nI (n := 6) (by decide) c_6
    have hcl : (nI i).toNatClampNeg = i := nI_clamp (by omega)
    obtain ⟨e0, e1, e2, e3, e4⟩ := h i hi
    obtain ⟨s0, s1, s2, s3⟩ := hs.2 i hi
    refine j_ald0 dX7_refusedElement_11 ?_
    refine j_getR (k := 6) (7) dX7_refusedElement_12 cX7_ok (Or.inl f7_55) rfl (by decide) (by decide) (by decide) rfl ?_
    refine j_ild1 dX7_refusedElement_15 ?_
    refine j_aald (n := i) (8 + i) dX7_refusedElement_16 (Or.inl rfl) (by decide) rfl hi (by decide) (fr_sh hi) ?_
    refine j_ast3 dX7_refusedElement_17 rfl (by decide) ?_
    refine j_ald3 dX7_refusedElement_18 ?_
    refine j_getI (k := 0) dX7_refusedElement_19 cX4_ok (Or.inr ⟨_, f7_76⟩) (ck_sh hi) (by omega) (by decide) (by decide) ?_
    refine j_top (y := nI (sh i 0)) (e0) ?_
    refine j_ifne 28 dX7_refusedElement_22 (by decide) (fun c_22 => ?_) (fun c_22 => ?_)
    · have q_22 : ¬ sh i 0 = 0 := fun z => c_22 (by rw [z]; rfl)
      refine j_ald3 dX7_refusedElement_28 ?_
      refine j_getI (k := 0) dX7_refusedElement_29 cX4_ok (Or.inr ⟨_, f7_76⟩) (ck_sh hi) (by omega) (by decide) (by decide) ?_
      refine j_top (y := nI (sh i 0)) (e0) ?_
      refine j_iconst (2) dX7_refusedElement_32 rfl ?_
      refine j_icmpeq 39 dX7_refusedElement_33 (by decide) (fun c_33 => ?_) (fun c_33 => ?_)
      · have q_33 : sh i 0 = 2 := (nI_eq (a := sh i 0) (b := 2) (by omega) (by decide)).mp c_33
        refine j_ild2 dX7_refusedElement_39 ?_
        refine j_ald3 dX7_refusedElement_40 ?_
        refine j_getI (k := 3) dX7_refusedElement_41 cX4_ok (Or.inr ⟨_, f7_88⟩) (ck_sh hi) (by omega) (by decide) (by decide) ?_
        refine j_top (y := nI (sh i 3)) (e3) ?_
        refine j_cS2 dX7_refusedElement_44 kX7_within zX7_within (Or.inl l7_72) (Nat.le_of_ble_eq_true rfl) (Nat.le_of_ble_eq_true rfl) (by omega) (s_X7_within) ?_
        refine j_ifeqB 54 dX7_refusedElement_47 (by decide) (fun c_47 => ?_) (fun c_47 => ?_)
        · refine j_bipush (-13) dX7_refusedElement_54 rfl ?_
          refine j_iret dX7_refusedElement_56 rfl ?_
          exact ⟨by rw [refV, if_neg (not_not_intro c_6), hcl, if_neg q_22, if_neg (not_not_intro q_33), if_neg c_47], rfl⟩
        refine j_iconst (0) dX7_refusedElement_50 rfl ?_
        refine j_goto 56 dX7_refusedElement_51 (by decide) ?_
        refine j_iret dX7_refusedElement_56 rfl ?_
        exact ⟨by rw [refV, if_neg (not_not_intro c_6), hcl, if_neg q_22, if_neg (not_not_intro q_33), if_pos c_47], rfl⟩
      have q_33 : ¬ sh i 0 = 2 := fun z => c_33 (by rw [z]; rfl)
      refine j_bipush (-12) dX7_refusedElement_36 rfl ?_
      refine j_iret dX7_refusedElement_38 rfl ?_
      exact ⟨by rw [refV, if_neg (not_not_intro c_6), hcl, if_neg q_22, if_pos q_33], rfl⟩
    have q_22 : sh i 0 = 0 := (nI_eq (a := sh i 0) (b := 0) (by omega) (by decide)).mp (Classical.not_not.mp c_22)
    refine j_bipush (-11) dX7_refusedElement_25 rfl ?_
    refine j_iret dX7_refusedElement_27 rfl ?_
    exact ⟨by rw [refV, if_neg (not_not_intro c_6), hcl, if_pos q_22], rfl⟩
  refine j_iconst (-1) dX7_refusedElement_9 rfl ?_
  refine j_iret dX7_refusedElement_10 rfl ?_
  exact ⟨by rw [refV, if_pos c_6], rfl⟩

set_option maxRecDepth 20000 in
theorem s_X8_isShelf {x : Int32} : Rt a mX8_isShelf 1 [.int x] S (some (.int (bi (0 ≤ x ∧ x < 6)))) S := by
  show J _ _ _ _ 0 [_] [] _
  refine j_ild0 dX8_isShelf_0 ?_
  refine j_iconst (0) dX8_isShelf_1 rfl ?_
  refine j_iconst (5) dX8_isShelf_2 rfl ?_
  refine j_cS3 dX8_isShelf_3 kX8_in zX8_in (Or.inl l8_148) (Nat.le_of_ble_eq_true rfl) (Nat.le_of_ble_eq_true rfl) (by omega) (s_X8_in) ?_
  refine j_zret dX8_isShelf_6 rfl (bi_01 _) ?_
  exact ⟨congrArg (fun q => some (Value.int q)) (bi_iff (and_congr Iff.rfl (le_lt (c := 5) (by decide)))), rfl⟩

theorem in_pred {x : Int32} {n : Nat} (hn : n < 2 ^ 30) : (0 ≤ x ∧ x ≤ nI n - 1) ↔ (0 ≤ x ∧ x < nI n) := by
  rcases Nat.eq_zero_or_pos n with rfl | q
  · rw [show nI 0 - 1 = -1 from rfl, show nI 0 = 0 from rfl]
    constructor
    · intro z; exact absurd z.2 (by rw [Int32.not_le]; exact Int32.lt_of_lt_of_le (by decide) z.1)
    · intro z; exact absurd z.2 (Int32.not_lt.mpr z.1)
  · obtain ⟨c, rfl⟩ : ∃ c, n = c + 1 := ⟨n - 1, by omega⟩
    rw [nI_pred, le_lt (by omega)]
set_option maxRecDepth 20000 in
theorem s_X8_whyNoPlace {x y : Int32} (h : SR sh el S) (hs : SOk b sh) : Rt a mX8_whyNoPlace 2 [.ref (a 61), .int x, .int y] S (some (.int (refV sh x y))) S := by
  show J _ _ _ _ 0 [_, _, _] [] _
  refine j_ild1 dX8_whyNoPlace_0 ?_
  refine j_cS1 dX8_whyNoPlace_1 kX8_isShelf zX8_isShelf (Or.inl l8_163) (Nat.le_of_ble_eq_true rfl) (Nat.le_of_ble_eq_true rfl) (by omega) (s_X8_isShelf) ?_
  refine j_ifneB 9 dX8_whyNoPlace_4 (by decide) (fun c_4 => ?_) (fun c_4 => ?_)
  · obtain ⟨i, hi, rfl⟩ := in_nI (n := 6) (by decide) c_4
    have hcl : (nI i).toNatClampNeg = i := nI_clamp (by omega)
    obtain ⟨e0, e3, e4⟩ := h i hi
    obtain ⟨s0, s1, s2, s3⟩ := hs.2 i hi
    refine j_ald0 dX8_whyNoPlace_9 ?_
    refine j_getR (k := 54) (96) dX8_whyNoPlace_10 cX8_ok (Or.inl f8_129) rfl (by decide) (by decide) (by decide) rfl ?_
    refine j_ild1 dX8_whyNoPlace_13 ?_
    refine j_iald (n := i) dX8_whyNoPlace_14 rfl (by decide) rfl hi (by decide) ?_
    refine j_top (y := rh (sh i)) e0 ?_
    refine j_iconst (-1) dX8_whyNoPlace_15 rfl ?_
    refine j_icmpne 22 dX8_whyNoPlace_16 (by decide) (fun c_16 => ?_) (fun c_16 => ?_)
    · have q_16 : ¬ sh i 0 = 0 := fun z => c_16 ((rh_m1 hs hi).mpr z)
      refine j_ald0 dX8_whyNoPlace_22 ?_
      refine j_getR (k := 54) (96) dX8_whyNoPlace_23 cX8_ok (Or.inl f8_129) rfl (by decide) (by decide) (by decide) rfl ?_
      refine j_ild1 dX8_whyNoPlace_26 ?_
      refine j_iald (n := i) dX8_whyNoPlace_27 rfl (by decide) rfl hi (by decide) ?_
      refine j_top (y := rh (sh i)) e0 ?_
      refine j_iflt 34 dX8_whyNoPlace_28 (by decide) (fun c_28 => ?_) (fun c_28 => ?_)
      · have q_28 : sh i 0 = 2 := h012 s0 q_16 (fun z => absurd c_28 (Int32.not_lt.mpr ((rh_ge hs hi).mpr z)))
        refine j_ild2 dX8_whyNoPlace_34 ?_
        refine j_iconst (0) dX8_whyNoPlace_35 rfl ?_
        refine j_ald0 dX8_whyNoPlace_36 ?_
        refine j_getR (k := 55) (97) dX8_whyNoPlace_37 cX8_ok (Or.inl f8_132) rfl (by decide) (by decide) (by decide) rfl ?_
        refine j_ild1 dX8_whyNoPlace_40 ?_
        refine j_iald (n := i) dX8_whyNoPlace_41 rfl (by decide) rfl hi (by decide) ?_
        refine j_top (y := nI (sh i 3)) e3 ?_
        refine j_iconst (1) dX8_whyNoPlace_42 rfl ?_
        refine j_isub dX8_whyNoPlace_43 ?_
        refine j_cS3 dX8_whyNoPlace_44 kX8_in zX8_in (Or.inl l8_148) (Nat.le_of_ble_eq_true rfl) (Nat.le_of_ble_eq_true rfl) (by omega) (s_X8_in) ?_
        refine j_ifeqB 54 dX8_whyNoPlace_47 (by decide) (fun c_47 => ?_) (fun c_47 => ?_)
        · refine j_bipush (-13) dX8_whyNoPlace_54 rfl ?_
          refine j_iret dX8_whyNoPlace_56 rfl ?_
          exact ⟨by rw [refV, if_neg (not_not_intro c_4), hcl, if_neg q_16, if_neg (not_not_intro q_28), if_neg (fun q => c_47 ((in_pred (x := y) (n := sh i 3) (by omega)).mpr q))], rfl⟩
        refine j_iconst (0) dX8_whyNoPlace_50 rfl ?_
        refine j_goto 56 dX8_whyNoPlace_51 (by decide) ?_
        refine j_iret dX8_whyNoPlace_56 rfl ?_
        exact ⟨by rw [refV, if_neg (not_not_intro c_4), hcl, if_neg q_16, if_neg (not_not_intro q_28), if_pos ((in_pred (x := y) (n := sh i 3) (by omega)).mp c_47)], rfl⟩
      have q_28 : ¬ sh i 0 = 2 := fun z => by
        have := (rh_ge hs hi).mp (Int32.not_lt.mp c_28)
        omega
      refine j_bipush (-12) dX8_whyNoPlace_31 rfl ?_
      refine j_iret dX8_whyNoPlace_33 rfl ?_
      exact ⟨by rw [refV, if_neg (not_not_intro c_4), hcl, if_neg q_16, if_pos q_28], rfl⟩
    have q_16 : sh i 0 = 0 := (rh_m1 hs hi).mp (Classical.not_not.mp c_16)
    refine j_bipush (-11) dX8_whyNoPlace_19 rfl ?_
    refine j_iret dX8_whyNoPlace_21 rfl ?_
    exact ⟨by rw [refV, if_neg (not_not_intro c_4), hcl, if_pos q_16], rfl⟩
  refine j_iconst (-1) dX8_whyNoPlace_7 rfl ?_
  refine j_iret dX8_whyNoPlace_8 rfl ?_
  exact ⟨by rw [refV, if_pos c_4], rfl⟩

theorem refV_ok {x y : Int32} (h : ¬ refV sh x y < 0) (hs : SOk b sh) : ∃ i k, i < 6 ∧ x = nI i ∧ y = nI k ∧ sh i 0 = 2 ∧ k < sh i 3 ∧ k < 60 ∧ refV sh x y = 0 := by
  unfold refV at h
  split at h
  · exact absurd (by decide) h
  · next h1 =>
    split at h
    · exact absurd (by decide) h
    · next h2 =>
      split at h
      · exact absurd (by decide) h
      · next h3 =>
        split at h
        · next h4 =>
          obtain ⟨i, hi, rfl⟩ := in_nI (n := 6) (by decide) (Classical.not_not.mp h1)
          have hcl : (nI i).toNatClampNeg = i := nI_clamp (by omega)
          rw [hcl] at h2 h3 h4
          have := (hs.2 i hi).2.2.2
          obtain ⟨k, hk, rfl⟩ := in_nI (by omega) h4
          refine ⟨i, k, hi, rfl, rfl, Classical.not_not.mp h3, hk, by omega, ?_⟩
          unfold refV
          rw [if_neg h1, hcl, if_neg h2, if_neg h3, if_pos h4]
        · exact absurd (by decide) h
theorem keptV_cases {s : Nat} (h : s < 5) : s = 0 ∨ s = 1 ∨ s = 2 ∨ s = 3 ∨ s = 4 := by omega
theorem lg_cmp0 {x y : Int64} : lg_cmp x y = 0 ↔ x = y := by
  unfold lg_cmp
  by_cases h1 : x > y
  · simp only [h1, if_true]
    constructor
    · intro z; exact absurd z (by decide)
    · intro z; subst z; exact absurd h1 (fun q => Int64.lt_irrefl q)
  · by_cases h2 : x = y
    · simp [h1, h2]
    · simp only [h1, h2, if_false]
      constructor
      · intro z; exact absurd z (by decide)
      · intro z; exact absurd z (by simp)
set_option maxRecDepth 20000 in
theorem s_X4_kept {s : Nat} {v : Int64} (hs : s < 5) : Rt a mX4_kept 0 [.int (nI s), .long v] S (some (.long (keptV s v))) S := by
  show J _ _ _ _ 0 [_, _, .null] [] _
  refine j_ild0 dX4_kept_0 ?_
  refine j_topi (fun y_1 e_1 => ?_)
  by_cases h_1_0 : y_1 = 0
  · rw [h_1_0] at e_1 ⊢
    refine j_tblIn (31) 32 dX4_kept_1 (by decide) (by decide) rfl (by decide) ?_
    refine j_lld1 dX4_kept_32 ?_
    refine j_l2i dX4_kept_33 ?_
    refine j_i2b dX4_kept_34 ?_
    refine j_i2l dX4_kept_35 ?_
    refine j_lret dX4_kept_36 rfl ?_
    have e : s = 0 := (nI_eq (a := s) (b := 0) (by omega) (by decide)).mp e_1.symm
    subst e
    exact ⟨rfl, rfl⟩
  by_cases h_1_1 : y_1 = 1
  · rw [h_1_1] at e_1 ⊢
    refine j_tblIn (36) 37 dX4_kept_1 (by decide) (by decide) rfl (by decide) ?_
    refine j_lld1 dX4_kept_37 ?_
    refine j_l2i dX4_kept_38 ?_
    refine j_i2s dX4_kept_39 ?_
    refine j_i2l dX4_kept_40 ?_
    refine j_lret dX4_kept_41 rfl ?_
    have e : s = 1 := (nI_eq (a := s) (b := 1) (by omega) (by decide)).mp e_1.symm
    subst e
    exact ⟨rfl, rfl⟩
  by_cases h_1_2 : y_1 = 2
  · rw [h_1_2] at e_1 ⊢
    refine j_tblIn (41) 42 dX4_kept_1 (by decide) (by decide) rfl (by decide) ?_
    refine j_lld1 dX4_kept_42 ?_
    refine j_l2i dX4_kept_43 ?_
    refine j_i2l dX4_kept_44 ?_
    refine j_lret dX4_kept_45 rfl ?_
    have e : s = 2 := (nI_eq (a := s) (b := 2) (by omega) (by decide)).mp e_1.symm
    subst e
    exact ⟨rfl, rfl⟩
  by_cases h_1_3 : y_1 = 3
  · rw [h_1_3] at e_1 ⊢
    refine j_tblIn (45) 46 dX4_kept_1 (by decide) (by decide) rfl (by decide) ?_
    refine j_lld1 dX4_kept_46 ?_
    refine j_lret dX4_kept_47 rfl ?_
    have e : s = 3 := (nI_eq (a := s) (b := 3) (by omega) (by decide)).mp e_1.symm
    subst e
    exact ⟨rfl, rfl⟩
  refine j_tblOut 48 dX4_kept_1 (tbl_out (fun k h1 h2 => by
    have hk : k = 0 ∨ k = 1 ∨ k = 2 ∨ k = 3 := by omega
    rcases hk with rfl | rfl | rfl | rfl
    · exact h_1_0
    · exact h_1_1
    · exact h_1_2
    · exact h_1_3)) (by decide) ?_
  refine j_lld1 dX4_kept_48 ?_
  refine j_lconst (0) dX4_kept_49 rfl ?_
  refine j_lcmp dX4_kept_50 ?_
  refine j_ifeq 58 dX4_kept_51 (by decide) (fun c_51 => ?_) (fun c_51 => ?_)
  · refine j_lconst (0) dX4_kept_58 rfl ?_
    refine j_lret dX4_kept_59 rfl ?_
    have e : s = 4 := by
      rcases keptV_cases hs with rfl | rfl | rfl | rfl | rfl
      · exact absurd e_1 h_1_0
      · exact absurd e_1 h_1_1
      · exact absurd e_1 h_1_2
      · exact absurd e_1 h_1_3
      · rfl
    subst e
    exact ⟨by rw [keptV, if_neg (by decide), if_neg (by decide), if_neg (by decide), if_neg (by decide), if_pos (lg_cmp0.mp c_51)], rfl⟩
  refine j_lconst (1) dX4_kept_54 rfl ?_
  refine j_goto 59 dX4_kept_55 (by decide) ?_
  refine j_lret dX4_kept_59 rfl ?_
  have e : s = 4 := by
    rcases keptV_cases hs with rfl | rfl | rfl | rfl | rfl
    · exact absurd e_1 h_1_0
    · exact absurd e_1 h_1_1
    · exact absurd e_1 h_1_2
    · exact absurd e_1 h_1_3
    · rfl
  subst e
  exact ⟨by rw [keptV, if_neg (by decide), if_neg (by decide), if_neg (by decide), if_neg (by decide), if_neg (fun z => c_51 (lg_cmp0.mpr z))], rfl⟩

set_option maxRecDepth 20000 in
theorem s_X7_put_bad {x y : Int32} {v : Int64} (h : SC sh el S) (hs : SOk b sh) (hb : refV sh x y < 0) : Rt a mX7_put 2 [.ref (a 0), .int x, .int y, .long v] S (some (.int (refV sh x y))) S := by
  show J _ _ _ _ 0 [_, _, _, _, .null, .null, .null] [] _
  refine j_ald0 dX7_put_0 ?_
  refine j_ild1 dX7_put_1 ?_
  refine j_ild2 dX7_put_2 ?_
  refine j_cV2 dX7_put_3 kX7_refusedElement l7_288 rfl (by decide) rfl (Nat.le_of_ble_eq_true rfl) (Nat.le_of_ble_eq_true rfl) (by omega) (s_X7_refusedElement h hs) ?_
  refine j_ist5 dX7_put_6 rfl (by decide) ?_
  refine j_ild5 dX7_put_8 ?_
  refine j_ifge 16 dX7_put_10 (by decide) (fun c_10 => absurd c_10 (Int32.not_le.mpr hb)) (fun c_10 => ?_)
  refine j_ild5 dX7_put_13 ?_
  refine j_iret dX7_put_15 rfl ?_
  exact ⟨rfl, rfl⟩

set_option maxRecDepth 20000 in
theorem s_X7_put {i k : Nat} {v : Int64} (h : SC sh el S) (hs : SOk b sh) (hi : i < 6) (hk : k < 60) (h2 : sh i 0 = 2) (hr : refV sh (nI i) (nI k) = 0) : Rt a mX7_put 2 [.ref (a 0), .int (nI i), .int (nI k), .long v] S (some (.int 1)) (uL S (55 + i) k (keptV (sh i 2) v)) := by
  show J _ _ _ _ 0 [_, _, _, _, .null, .null, .null] [] _
  refine j_ald0 dX7_put_0 ?_
  refine j_ild1 dX7_put_1 ?_
  refine j_ild2 dX7_put_2 ?_
  refine j_cV2 dX7_put_3 kX7_refusedElement l7_288 rfl (by decide) rfl (Nat.le_of_ble_eq_true rfl) (Nat.le_of_ble_eq_true rfl) (by omega) (s_X7_refusedElement h hs) ?_
  rw [hr]
  refine j_ist5 dX7_put_6 rfl (by decide) ?_
  refine j_ild5 dX7_put_8 ?_
  refine j_ifge 16 dX7_put_10 (by decide) (fun c_10 => ?_) (fun c_10 => absurd (by decide) c_10)
  refine j_ald0 dX7_put_16 ?_
  refine j_getR (k := 6) (7) dX7_put_17 cX7_ok (Or.inl f7_55) rfl (by decide) (by decide) (by decide) rfl ?_
  refine j_ild1 dX7_put_20 ?_
  refine j_aald (n := i) (8 + i) dX7_put_21 (Or.inl rfl) (by decide) rfl hi (by decide) (fr_sh hi) ?_
  refine j_ast6 dX7_put_22 rfl (by decide) ?_
  refine j_ald6 dX7_put_24 ?_
  refine j_getR (k := 4) (55 + i) dX7_put_26 cX4_ok (Or.inr ⟨_, f7_94⟩) (ck_sh hi) (by omega) (by decide) (by decide) (fr_el hi) ?_
  refine j_ild2 dX7_put_29 ?_
  refine j_ald6 dX7_put_30 ?_
  refine j_getI (k := 2) dX7_put_32 cX4_ok (Or.inr ⟨_, f7_291⟩) (ck_sh hi) (by omega) (by decide) (by decide) ?_
  refine j_top (y := nI (sh i 2)) ((h i hi).2.2.1 h2) ?_
  refine j_lld3 dX7_put_35 ?_
  refine j_cS2 dX7_put_36 kX4_kept zX4_kept (Or.inl l7_294) (Nat.le_of_ble_eq_true rfl) (Nat.le_of_ble_eq_true rfl) (by omega) (s_X4_kept ((hs.2 i hi).2.2.1 h2)) ?_
  refine j_last (n := k) dX7_put_39 (ck_el hi) (by omega) rfl hk (by decide) ?_
  refine j_iconst (1) dX7_put_40 rfl ?_
  refine j_iret dX7_put_41 rfl ?_
  exact ⟨rfl, rfl⟩

set_option maxRecDepth 20000 in
theorem s_X8_put_bad {x y : Int32} {v : Int64} (h : SR sh el S) (hs : SOk b sh) (hb : refV sh x y < 0) : Rt a mX8_put 3 [.ref (a 61), .int x, .int y, .long v] S (some (.int (refV sh x y))) S := by
  show J _ _ _ _ 0 [_, _, _, _, .null, .null, .null] [] _
  refine j_ald0 dX8_put_0 ?_
  refine j_ild1 dX8_put_1 ?_
  refine j_ild2 dX8_put_2 ?_
  refine j_cV2 dX8_put_3 kX8_whyNoPlace l8_409 rfl (by decide) rfl (Nat.le_of_ble_eq_true rfl) (Nat.le_of_ble_eq_true rfl) (by omega) (s_X8_whyNoPlace h hs) ?_
  refine j_ist5 dX8_put_6 rfl (by decide) ?_
  refine j_ild5 dX8_put_8 ?_
  refine j_ifge 16 dX8_put_10 (by decide) (fun c_10 => absurd c_10 (Int32.not_le.mpr hb)) (fun c_10 => ?_)
  refine j_ild5 dX8_put_13 ?_
  refine j_iret dX8_put_15 rfl ?_
  exact ⟨rfl, rfl⟩

set_option maxRecDepth 20000 in
theorem s_X8_put {i k : Nat} {v : Int64} (h : SR sh el S) (hs : SOk b sh) (hi : i < 6) (hk : k < 60) (h2 : sh i 0 = 2) (hr : refV sh (nI i) (nI k) = 0) : Rt a mX8_put 3 [.ref (a 61), .int (nI i), .int (nI k), .long v] S (some (.int 1)) (uL S 98 (60 * i + k) (keptV (sh i 2) v)) := by
  have s2 := (hs.2 i hi).2.2.1 h2
  show J _ _ _ _ 0 [_, _, _, _, .null, .null, .null] [] _
  refine j_ald0 dX8_put_0 ?_
  refine j_ild1 dX8_put_1 ?_
  refine j_ild2 dX8_put_2 ?_
  refine j_cV2 dX8_put_3 kX8_whyNoPlace l8_409 rfl (by decide) rfl (Nat.le_of_ble_eq_true rfl) (Nat.le_of_ble_eq_true rfl) (by omega) (s_X8_whyNoPlace h hs) ?_
  rw [hr]
  refine j_ist5 dX8_put_6 rfl (by decide) ?_
  refine j_ild5 dX8_put_8 ?_
  refine j_ifge 16 dX8_put_10 (by decide) (fun c_10 => ?_) (fun c_10 => absurd (by decide) c_10)
  refine j_bipush (-2) dX8_put_16 rfl ?_
  refine j_ald0 dX8_put_18 ?_
  refine j_getR (k := 54) (96) dX8_put_19 cX8_ok (Or.inl f8_129) rfl (by decide) (by decide) (by decide) rfl ?_
  refine j_ild1 dX8_put_22 ?_
  refine j_iald (n := i) dX8_put_23 rfl (by decide) rfl hi (by decide) ?_
  refine j_top (y := rh (sh i)) (h i hi).1 ?_
  refine j_isub dX8_put_24 ?_
  refine j_top (y := nI (sh i 2)) (by rw [rh_2 h2]; rcases keptV_cases s2 with e | e | e | e | e <;> rw [e] <;> rfl) ?_
  refine j_ist6 dX8_put_25 rfl (by decide) ?_
  refine j_ald0 dX8_put_27 ?_
  refine j_getR (k := 56) (98) dX8_put_28 cX8_ok (Or.inl f8_135) rfl (by decide) (by decide) (by decide) rfl ?_
  refine j_bipush (60) dX8_put_31 rfl ?_
  refine j_ild1 dX8_put_33 ?_
  refine j_imul dX8_put_34 ?_
  refine j_top (y := nI (60 * i)) (by exact pk_mul 60 i) ?_
  refine j_ild2 dX8_put_35 ?_
  refine j_iadd dX8_put_36 ?_
  refine j_top (y := nI (60 * i + k)) (nI_add _ _) ?_
  refine j_ild6 dX8_put_37 ?_
  refine j_ifne 49 dX8_put_39 (by decide) (fun c_39 => ?_) (fun c_39 => ?_)
  · have q_39 : ¬ sh i 2 = 0 := fun z => c_39 (by rw [z]; rfl)
    refine j_ild6 dX8_put_49 ?_
    refine j_iconst (1) dX8_put_51 rfl ?_
    refine j_icmpne 62 dX8_put_52 (by decide) (fun c_52 => ?_) (fun c_52 => ?_)
    · have q_52 : ¬ sh i 2 = 1 := fun z => c_52 (by rw [z]; rfl)
      refine j_ild6 dX8_put_62 ?_
      refine j_iconst (2) dX8_put_64 rfl ?_
      refine j_icmpne 74 dX8_put_65 (by decide) (fun c_65 => ?_) (fun c_65 => ?_)
      · have q_65 : ¬ sh i 2 = 2 := fun z => c_65 (by rw [z]; rfl)
        refine j_ild6 dX8_put_74 ?_
        refine j_iconst (3) dX8_put_76 rfl ?_
        refine j_icmpne 84 dX8_put_77 (by decide) (fun c_77 => ?_) (fun c_77 => ?_)
        · have q_77 : ¬ sh i 2 = 3 := fun z => c_77 (by rw [z]; rfl)
          refine j_lld3 dX8_put_84 ?_
          refine j_lconst (0) dX8_put_85 rfl ?_
          refine j_lcmp dX8_put_86 ?_
          refine j_ifeq 94 dX8_put_87 (by decide) (fun c_87 => ?_) (fun c_87 => ?_)
          · refine j_lconst (0) dX8_put_94 rfl ?_
            refine j_last (n := 60 * i + k) dX8_put_95 rfl (by decide) rfl (by show _ < 360; omega) (by decide) ?_
            refine j_iconst (1) dX8_put_96 rfl ?_
            refine j_iret dX8_put_97 rfl ?_
            exact ⟨rfl, by rw [keptV, if_neg q_39, if_neg q_52, if_neg q_65, if_neg q_77, if_pos (lg_cmp0.mp c_87)]⟩
          refine j_lconst (1) dX8_put_90 rfl ?_
          refine j_goto 95 dX8_put_91 (by decide) ?_
          refine j_last (n := 60 * i + k) dX8_put_95 rfl (by decide) rfl (by show _ < 360; omega) (by decide) ?_
          refine j_iconst (1) dX8_put_96 rfl ?_
          refine j_iret dX8_put_97 rfl ?_
          exact ⟨rfl, by rw [keptV, if_neg q_39, if_neg q_52, if_neg q_65, if_neg q_77, if_neg (fun z => c_87 (lg_cmp0.mpr z))]⟩
        have q_77 : sh i 2 = 3 := (nI_eq (a := sh i 2) (b := 3) (by omega) (by decide)).mp (Classical.not_not.mp c_77)
        refine j_lld3 dX8_put_80 ?_
        refine j_goto 95 dX8_put_81 (by decide) ?_
        refine j_last (n := 60 * i + k) dX8_put_95 rfl (by decide) rfl (by show _ < 360; omega) (by decide) ?_
        refine j_iconst (1) dX8_put_96 rfl ?_
        refine j_iret dX8_put_97 rfl ?_
        exact ⟨rfl, by rw [keptV, if_neg q_39, if_neg q_52, if_neg q_65, if_pos q_77]⟩
      have q_65 : sh i 2 = 2 := (nI_eq (a := sh i 2) (b := 2) (by omega) (by decide)).mp (Classical.not_not.mp c_65)
      refine j_lld3 dX8_put_68 ?_
      refine j_l2i dX8_put_69 ?_
      refine j_i2l dX8_put_70 ?_
      refine j_goto 95 dX8_put_71 (by decide) ?_
      refine j_last (n := 60 * i + k) dX8_put_95 rfl (by decide) rfl (by show _ < 360; omega) (by decide) ?_
      refine j_iconst (1) dX8_put_96 rfl ?_
      refine j_iret dX8_put_97 rfl ?_
      exact ⟨rfl, by rw [keptV, if_neg q_39, if_neg q_52, if_pos q_65]⟩
    have q_52 : sh i 2 = 1 := (nI_eq (a := sh i 2) (b := 1) (by omega) (by decide)).mp (Classical.not_not.mp c_52)
    refine j_lld3 dX8_put_55 ?_
    refine j_l2i dX8_put_56 ?_
    refine j_i2s dX8_put_57 ?_
    refine j_i2l dX8_put_58 ?_
    refine j_goto 95 dX8_put_59 (by decide) ?_
    refine j_last (n := 60 * i + k) dX8_put_95 rfl (by decide) rfl (by show _ < 360; omega) (by decide) ?_
    refine j_iconst (1) dX8_put_96 rfl ?_
    refine j_iret dX8_put_97 rfl ?_
    exact ⟨rfl, by rw [keptV, if_neg q_39, if_pos q_52]⟩
  have q_39 : sh i 2 = 0 := (nI_eq (a := sh i 2) (b := 0) (by omega) (by decide)).mp (Classical.not_not.mp c_39)
  refine j_lld3 dX8_put_42 ?_
  refine j_l2i dX8_put_43 ?_
  refine j_i2b dX8_put_44 ?_
  refine j_i2l dX8_put_45 ?_
  refine j_goto 95 dX8_put_46 (by decide) ?_
  refine j_last (n := 60 * i + k) dX8_put_95 rfl (by decide) rfl (by show _ < 360; omega) (by decide) ?_
  refine j_iconst (1) dX8_put_96 rfl ?_
  refine j_iret dX8_put_97 rfl ?_
  exact ⟨rfl, by rw [keptV, if_pos q_39]⟩

def upE (el : Nat → Nat → Int64) (i k : Nat) (w : Int64) : Nat → Nat → Int64 := fun i' k' => if i' = i ∧ k' = k then w else el i' k'
theorem SC.put (h : SC sh el S) {i k : Nat} {w : Int64} (hi : i < 6) : SC sh (upE el i k w) (uL S (55 + i) k w) := by
  intro i' hi'
  obtain ⟨h1, h2, h3, h4, h5⟩ := h i' hi'
  refine ⟨h1, h2, h3, h4, fun k' hk' => ?_⟩
  rw [uL_at]
  unfold upE
  by_cases e : i' = i ∧ k' = k
  · rw [if_pos (by omega), if_pos e]
  · rw [if_neg (by omega), if_neg e]; exact h5 k' hk'
theorem SR.put (h : SR sh el S) {i k : Nat} {w : Int64} (hi : i < 6) (hk : k < 60) : SR sh (upE el i k w) (uL S 98 (60 * i + k) w) := by
  intro i' hi'
  obtain ⟨h1, h2, h3⟩ := h i' hi'
  refine ⟨h1, h2, fun k' hk' => ?_⟩
  rw [uL_at]
  unfold upE
  by_cases e : i' = i ∧ k' = k
  · rw [if_pos (by omega), if_pos e]
  · rw [if_neg (by omega), if_neg e]; exact h3 k' hk'
def elV (sh : Nat → Nat → Nat) (el : Nat → Nat → Int64) (x y : Int32) : Int64 := if refV sh x y < 0 then -9223372036854775808 else el x.toNatClampNeg y.toNatClampNeg
set_option maxRecDepth 20000 in
theorem s_X7_element {x y : Int32} (h : SC sh el S) (hs : SOk b sh) : Rt a mX7_element 2 [.ref (a 0), .int x, .int y] S (some (.long (elV sh el x y))) S := by
  show J _ _ _ _ 0 [_, _, _] [] _
  refine j_ald0 dX7_element_0 ?_
  refine j_ild1 dX7_element_1 ?_
  refine j_ild2 dX7_element_2 ?_
  refine j_cV2 dX7_element_3 kX7_refusedElement l7_288 rfl (by decide) rfl (Nat.le_of_ble_eq_true rfl) (Nat.le_of_ble_eq_true rfl) (by omega) (s_X7_refusedElement h hs) ?_
  refine j_ifge 13 dX7_element_6 (by decide) (fun c_6 => ?_) (fun c_6 => ?_)
  · obtain ⟨i, k, hi, rfl, rfl, h2, hk1, hk, hr⟩ := refV_ok (Int32.not_lt.mpr c_6) hs
    have hcl : (nI i).toNatClampNeg = i := nI_clamp (by omega)
    have hcl2 : (nI k).toNatClampNeg = k := nI_clamp (by omega)
    refine j_ald0 dX7_element_13 ?_
    refine j_getR (k := 6) (7) dX7_element_14 cX7_ok (Or.inl f7_55) rfl (by decide) (by decide) (by decide) rfl ?_
    refine j_ild1 dX7_element_17 ?_
    refine j_aald (n := i) (8 + i) dX7_element_18 (Or.inl rfl) (by decide) rfl hi (by decide) (fr_sh hi) ?_
    refine j_getR (k := 4) (55 + i) dX7_element_19 cX4_ok (Or.inr ⟨_, f7_94⟩) (ck_sh hi) (by omega) (by decide) (by decide) (fr_el hi) ?_
    refine j_ild2 dX7_element_22 ?_
    refine j_lald (n := k) dX7_element_23 (ck_el hi) (by omega) rfl hk (by decide) ?_
    refine j_lret dX7_element_24 rfl ?_
    exact ⟨by rw [elV, if_neg (Int32.not_lt.mpr c_6), hcl, hcl2, (h i hi).2.2.2.2 k hk], rfl⟩
  refine j_ldc2_w (v := -9223372036854775808) dX7_element_9 q7_138 ?_
  refine j_lret dX7_element_12 rfl ?_
  exact ⟨by rw [elV, if_pos (Int32.not_le.mp c_6)], rfl⟩

set_option maxRecDepth 20000 in
theorem s_X8_element {x y : Int32} (h : SR sh el S) (hs : SOk b sh) : Rt a mX8_element 3 [.ref (a 61), .int x, .int y] S (some (.long (elV sh el x y))) S := by
  show J _ _ _ _ 0 [_, _, _] [] _
  refine j_ald0 dX8_element_0 ?_
  refine j_ild1 dX8_element_1 ?_
  refine j_ild2 dX8_element_2 ?_
  refine j_cV2 dX8_element_3 kX8_whyNoPlace l8_409 rfl (by decide) rfl (Nat.le_of_ble_eq_true rfl) (Nat.le_of_ble_eq_true rfl) (by omega) (s_X8_whyNoPlace h hs) ?_
  refine j_ifge 15 dX8_element_6 (by decide) (fun c_6 => ?_) (fun c_6 => ?_)
  · obtain ⟨i, k, hi, rfl, rfl, h2, hk1, hk, hr⟩ := refV_ok (Int32.not_lt.mpr c_6) hs
    have hcl : (nI i).toNatClampNeg = i := nI_clamp (by omega)
    have hcl2 : (nI k).toNatClampNeg = k := nI_clamp (by omega)
    refine j_ald0 dX8_element_15 ?_
    refine j_getR (k := 56) (98) dX8_element_16 cX8_ok (Or.inl f8_135) rfl (by decide) (by decide) (by decide) rfl ?_
    refine j_bipush (60) dX8_element_19 rfl ?_
    refine j_ild1 dX8_element_21 ?_
    refine j_imul dX8_element_22 ?_
    refine j_top (y := nI (60 * i)) (by exact pk_mul 60 i) ?_
    refine j_ild2 dX8_element_23 ?_
    refine j_iadd dX8_element_24 ?_
    refine j_top (y := nI (60 * i + k)) (nI_add _ _) ?_
    refine j_lald (n := 60 * i + k) dX8_element_25 rfl (by decide) rfl (by show _ < 360; omega) (by decide) ?_
    refine j_lret dX8_element_26 rfl ?_
    exact ⟨by rw [elV, if_neg (Int32.not_lt.mpr c_6), hcl, hcl2, (h i hi).2.2 k hk], rfl⟩
  refine j_ldc2_w (v := -9223372036854775808) dX8_element_9 q8_294 ?_
  refine j_goto 26 dX8_element_12 (by decide) ?_
  refine j_lret dX8_element_26 rfl ?_
  exact ⟨by rw [elV, if_pos (Int32.not_le.mp c_6)], rfl⟩

def kpB (b : Nat) (x y : Int32) : Prop := (0 ≤ x ∧ x < 6) ∧ (-1 ≤ y ∧ y < nI b)
theorem m1_or {y : Int32} (h : -1 ≤ y) : y = -1 ∨ 0 ≤ y := by
  rw [Int32.le_iff_toInt_le] at h ⊢
  rw [← Int32.toInt_inj]
  have e1 : (-1 : Int32).toInt = -1 := rfl
  have e2 : (0 : Int32).toInt = 0 := rfl
  omega
def upS (sh : Nat → Nat → Nat) (i f x : Nat) : Nat → Nat → Nat := fun i' f' => if i' = i ∧ f' = f then x else sh i' f'
theorem SC.none (h : SC sh el S) {i : Nat} {y : Int32} : SC (upS sh i 0 0) el (uI (uI S (8 + i) 0 0) (8 + i) 1 y) := by
  intro i' hi'
  obtain ⟨h1, h2, h3, h4, h5⟩ := h i' hi'
  simp only [uI_at, upS]
  by_cases e : i' = i
  · subst e; simp [h4, nI_0]; exact h5
  · have : ¬ 8 + i' = 8 + i := by omega
    simp [e, this]; exact ⟨h1, h2, h3, h4, h5⟩
theorem SC.body (h : SC sh el S) {i j : Nat} : SC (upS (upS sh i 0 1) i 1 j) el (uI (uI S (8 + i) 0 1) (8 + i) 1 (nI j)) := by
  intro i' hi'
  obtain ⟨h1, h2, h3, h4, h5⟩ := h i' hi'
  simp only [uI_at, upS]
  by_cases e : i' = i
  · subst e; simp [h4]; exact ⟨rfl, h5⟩
  · have : ¬ 8 + i' = 8 + i := by omega
    simp [e, this]; exact ⟨h1, h2, h3, h4, h5⟩
theorem SR.none (h : SR sh el S) {i : Nat} : SR (upS sh i 0 0) el (uI S 96 i (-1)) := by
  intro i' hi'
  obtain ⟨h1, h2, h3⟩ := h i' hi'
  simp only [uI_at]
  by_cases e : i' = i
  · subst e; simp [upS, rh, h2]; exact h3
  · have q : upS sh i 0 0 i' = sh i' := by funext f; simp [upS, e]
    rw [q]; simp [e]; exact ⟨h1, h2, h3⟩
theorem SR.body (h : SR sh el S) {i j : Nat} : SR (upS (upS sh i 0 1) i 1 j) el (uI S 96 i (nI j)) := by
  intro i' hi'
  obtain ⟨h1, h2, h3⟩ := h i' hi'
  simp only [uI_at]
  by_cases e : i' = i
  · subst e; simp [upS, rh, h2]; exact h3
  · have q : upS (upS sh i 0 1) i 1 j i' = sh i' := by funext f; simp [upS, e]
    rw [q]; simp [e]; exact ⟨h1, h2, h3⟩
theorem SOk.none (h : SOk b sh) {i : Nat} : SOk b (upS sh i 0 0) := by
  refine ⟨h.1, fun i' hi' => ?_⟩
  obtain ⟨h1, h2, h3, h4⟩ := h.2 i' hi'
  simp only [upS]
  by_cases e : i' = i
  · subst e; simp [h4]
  · simp [e]; exact ⟨h1, h2, h3, h4⟩
theorem SOk.body (h : SOk b sh) {i j : Nat} (hj : j < b) : SOk b (upS (upS sh i 0 1) i 1 j) := by
  refine ⟨h.1, fun i' hi' => ?_⟩
  obtain ⟨h1, h2, h3, h4⟩ := h.2 i' hi'
  simp only [upS]
  by_cases e : i' = i
  · subst e; simp [h4, hj]
  · simp [e]; exact ⟨h1, h2, h3, h4⟩
set_option maxRecDepth 20000 in
theorem s_X7_keep_bad {x y : Int32} (hbd : S.1 6 1 = nI b) (hb : ¬ kpB b x y) : Rt a mX7_keep 1 [.ref (a 0), .int x, .int y] S (some (.int (-1))) S := by
  show J _ _ _ _ 0 [_, _, _] [] _
  refine j_ild1 dX7_keep_0 ?_
  refine j_bipush (6) dX7_keep_1 rfl ?_
  refine j_cS2 dX7_keep_3 kX7_within zX7_within (Or.inl l7_72) (Nat.le_of_ble_eq_true rfl) (Nat.le_of_ble_eq_true rfl) (by omega) (s_X7_within) ?_
  refine j_ifeqB 25 dX7_keep_6 (by decide) (fun c_6 => ?_) (fun c_6 => ?_)
  · refine j_iconst (-1) dX7_keep_25 rfl ?_
    refine j_iret dX7_keep_26 rfl ?_
    exact ⟨rfl, rfl⟩
  refine j_ild2 dX7_keep_9 ?_
  refine j_iconst (-1) dX7_keep_10 rfl ?_
  refine j_icmplt 25 dX7_keep_11 (by decide) (fun c_11 => ?_) (fun c_11 => ?_)
  · refine j_iconst (-1) dX7_keep_25 rfl ?_
    refine j_iret dX7_keep_26 rfl ?_
    exact ⟨rfl, rfl⟩
  refine j_ild2 dX7_keep_14 ?_
  refine j_ald0 dX7_keep_15 ?_
  refine j_getR (k := 5) (6) dX7_keep_16 cX7_ok (Or.inl f7_49) rfl (by decide) (by decide) (by decide) rfl ?_
  refine j_getI (k := 1) dX7_keep_19 cX0_ok (Or.inr ⟨_, f7_278⟩) rfl (by decide) (by decide) (by decide) ?_
  refine j_top (y := nI b) (hbd) ?_
  refine j_icmplt 27 dX7_keep_22 (by decide) (fun c_22 => ?_) (fun c_22 => ?_)
  · exact absurd ⟨c_6, Int32.not_lt.mp c_11, c_22⟩ hb
  refine j_iconst (-1) dX7_keep_25 rfl ?_
  refine j_iret dX7_keep_26 rfl ?_
  exact ⟨rfl, rfl⟩

set_option maxRecDepth 20000 in
theorem s_X7_keep_none {i : Nat} (hi : i < 6) (hbd : S.1 6 1 = nI b) (hb : b ≤ 50) : Rt a mX7_keep 1 [.ref (a 0), .int (nI i), .int (-1)] S (some (.int 1)) (uI (uI S (8 + i) 0 0) (8 + i) 1 (-1)) := by
  show J _ _ _ _ 0 [_, _, _] [] _
  refine j_ild1 dX7_keep_0 ?_
  refine j_bipush (6) dX7_keep_1 rfl ?_
  refine j_cS2 dX7_keep_3 kX7_within zX7_within (Or.inl l7_72) (Nat.le_of_ble_eq_true rfl) (Nat.le_of_ble_eq_true rfl) (by omega) (s_X7_within) ?_
  refine j_ifeqB 25 dX7_keep_6 (by decide) (fun c_6 => absurd c_6 (not_not_intro (nI_in' hi (by decide)))) (fun c_6 => ?_)
  refine j_ild2 dX7_keep_9 ?_
  refine j_iconst (-1) dX7_keep_10 rfl ?_
  refine j_icmplt 25 dX7_keep_11 (by decide) (fun c_11 => absurd c_11 (by decide)) (fun c_11 => ?_)
  refine j_ild2 dX7_keep_14 ?_
  refine j_ald0 dX7_keep_15 ?_
  refine j_getR (k := 5) (6) dX7_keep_16 cX7_ok (Or.inl f7_49) rfl (by decide) (by decide) (by decide) rfl ?_
  refine j_getI (k := 1) dX7_keep_19 cX0_ok (Or.inr ⟨_, f7_278⟩) rfl (by decide) (by decide) (by decide) ?_
  refine j_top (y := nI b) (hbd) ?_
  refine j_icmplt 27 dX7_keep_22 (by decide) (fun c_22 => ?_) (fun c_22 => absurd (Int32.lt_of_lt_of_le (by decide) (nI_pos' (n := b) (by omega))) c_22)
  refine j_ald0 dX7_keep_27 ?_
  refine j_getR (k := 6) (7) dX7_keep_28 cX7_ok (Or.inl f7_55) rfl (by decide) (by decide) (by decide) rfl ?_
  refine j_ild1 dX7_keep_31 ?_
  refine j_aald (n := i) (8 + i) dX7_keep_32 (Or.inl rfl) (by decide) rfl hi (by decide) (fr_sh hi) ?_
  refine j_ild2 dX7_keep_33 ?_
  refine j_ifge 41 dX7_keep_34 (by decide) (fun c_34 => absurd c_34 (by decide)) (fun c_34 => ?_)
  refine j_iconst (0) dX7_keep_37 rfl ?_
  refine j_goto 42 dX7_keep_38 (by decide) ?_
  refine j_putI (k := 0) dX7_keep_42 cX4_ok (Or.inr ⟨_, f7_76⟩) (ck_sh hi) (by omega) (by decide) (by decide) rfl ?_
  refine j_ald0 dX7_keep_45 ?_
  refine j_getR (k := 6) (7) dX7_keep_46 cX7_ok (Or.inl f7_55) rfl (by decide) (by decide) (by decide) rfl ?_
  refine j_ild1 dX7_keep_49 ?_
  refine j_aald (n := i) (8 + i) dX7_keep_50 (Or.inl rfl) (by decide) rfl hi (by decide) (fr_sh hi) ?_
  refine j_ild2 dX7_keep_51 ?_
  refine j_putI (k := 1) dX7_keep_52 cX4_ok (Or.inr ⟨_, f7_281⟩) (ck_sh hi) (by omega) (by decide) (by decide) rfl ?_
  refine j_iconst (1) dX7_keep_55 rfl ?_
  refine j_iret dX7_keep_56 rfl ?_
  exact ⟨rfl, rfl⟩

set_option maxRecDepth 20000 in
theorem s_X7_keep_body {i j : Nat} (hi : i < 6) (hbd : S.1 6 1 = nI b) (hb : b ≤ 50) (hj : j < b) : Rt a mX7_keep 1 [.ref (a 0), .int (nI i), .int (nI j)] S (some (.int 1)) (uI (uI S (8 + i) 0 1) (8 + i) 1 (nI j)) := by
  show J _ _ _ _ 0 [_, _, _] [] _
  refine j_ild1 dX7_keep_0 ?_
  refine j_bipush (6) dX7_keep_1 rfl ?_
  refine j_cS2 dX7_keep_3 kX7_within zX7_within (Or.inl l7_72) (Nat.le_of_ble_eq_true rfl) (Nat.le_of_ble_eq_true rfl) (by omega) (s_X7_within) ?_
  refine j_ifeqB 25 dX7_keep_6 (by decide) (fun c_6 => absurd c_6 (not_not_intro (nI_in' hi (by decide)))) (fun c_6 => ?_)
  refine j_ild2 dX7_keep_9 ?_
  refine j_iconst (-1) dX7_keep_10 rfl ?_
  refine j_icmplt 25 dX7_keep_11 (by decide) (fun c_11 => absurd c_11 (Int32.not_lt.mpr (Int32.le_of_lt (Int32.lt_of_lt_of_le (by decide) (nI_pos' (n := j) (by omega)))))) (fun c_11 => ?_)
  refine j_ild2 dX7_keep_14 ?_
  refine j_ald0 dX7_keep_15 ?_
  refine j_getR (k := 5) (6) dX7_keep_16 cX7_ok (Or.inl f7_49) rfl (by decide) (by decide) (by decide) rfl ?_
  refine j_getI (k := 1) dX7_keep_19 cX0_ok (Or.inr ⟨_, f7_278⟩) rfl (by decide) (by decide) (by decide) ?_
  refine j_top (y := nI b) (hbd) ?_
  refine j_icmplt 27 dX7_keep_22 (by decide) (fun c_22 => ?_) (fun c_22 => absurd ((nI_ltI (by omega) (by omega)).mpr hj) c_22)
  refine j_ald0 dX7_keep_27 ?_
  refine j_getR (k := 6) (7) dX7_keep_28 cX7_ok (Or.inl f7_55) rfl (by decide) (by decide) (by decide) rfl ?_
  refine j_ild1 dX7_keep_31 ?_
  refine j_aald (n := i) (8 + i) dX7_keep_32 (Or.inl rfl) (by decide) rfl hi (by decide) (fr_sh hi) ?_
  refine j_ild2 dX7_keep_33 ?_
  refine j_ifge 41 dX7_keep_34 (by decide) (fun c_34 => ?_) (fun c_34 => absurd (nI_pos' (n := j) (by omega)) c_34)
  refine j_iconst (1) dX7_keep_41 rfl ?_
  refine j_putI (k := 0) dX7_keep_42 cX4_ok (Or.inr ⟨_, f7_76⟩) (ck_sh hi) (by omega) (by decide) (by decide) rfl ?_
  refine j_ald0 dX7_keep_45 ?_
  refine j_getR (k := 6) (7) dX7_keep_46 cX7_ok (Or.inl f7_55) rfl (by decide) (by decide) (by decide) rfl ?_
  refine j_ild1 dX7_keep_49 ?_
  refine j_aald (n := i) (8 + i) dX7_keep_50 (Or.inl rfl) (by decide) rfl hi (by decide) (fr_sh hi) ?_
  refine j_ild2 dX7_keep_51 ?_
  refine j_putI (k := 1) dX7_keep_52 cX4_ok (Or.inr ⟨_, f7_281⟩) (ck_sh hi) (by omega) (by decide) (by decide) rfl ?_
  refine j_iconst (1) dX7_keep_55 rfl ?_
  refine j_iret dX7_keep_56 rfl ?_
  exact ⟨rfl, rfl⟩

set_option maxRecDepth 20000 in
theorem s_X8_keep_bad {x y : Int32} (hbd : S.1 61 50 = nI b) (hb50 : b ≤ 50) (hb : ¬ kpB b x y) : Rt a mX8_keep 2 [.ref (a 61), .int x, .int y] S (some (.int (-1))) S := by
  show J _ _ _ _ 0 [_, _, _] [] _
  refine j_ild1 dX8_keep_0 ?_
  refine j_cS1 dX8_keep_1 kX8_isShelf zX8_isShelf (Or.inl l8_163) (Nat.le_of_ble_eq_true rfl) (Nat.le_of_ble_eq_true rfl) (by omega) (s_X8_isShelf) ?_
  refine j_ifeqB 20 dX8_keep_4 (by decide) (fun c_4 => ?_) (fun c_4 => ?_)
  · refine j_iconst (-1) dX8_keep_20 rfl ?_
    refine j_iret dX8_keep_21 rfl ?_
    exact ⟨rfl, rfl⟩
  refine j_ild2 dX8_keep_7 ?_
  refine j_iconst (-1) dX8_keep_8 rfl ?_
  refine j_icmpeq 22 dX8_keep_9 (by decide) (fun c_9 => ?_) (fun c_9 => ?_)
  · have c_9' : kpB b x y := ⟨c_4, by rw [c_9]; exact ⟨Int32.le_refl _, Int32.lt_of_lt_of_le (by decide) (nI_pos' (n := b) (by omega))⟩⟩
    exact absurd c_9' hb
  refine j_ald0 dX8_keep_12 ?_
  refine j_ild2 dX8_keep_13 ?_
  refine j_cV1 dX8_keep_14 kX8_isBody l8_403 rfl (by decide) rfl (Nat.le_of_ble_eq_true rfl) (Nat.le_of_ble_eq_true rfl) (by omega) (s_X8_isBody hbd hb50) ?_
  refine j_ifneB 22 dX8_keep_17 (by decide) (fun c_17 => ?_) (fun c_17 => ?_)
  · exact absurd ⟨c_4, Int32.le_of_lt (Int32.lt_of_lt_of_le (by decide) c_17.1), c_17.2⟩ hb
  refine j_iconst (-1) dX8_keep_20 rfl ?_
  refine j_iret dX8_keep_21 rfl ?_
  exact ⟨rfl, rfl⟩

set_option maxRecDepth 20000 in
theorem s_X8_keep_none {i : Nat} (hi : i < 6) : Rt a mX8_keep 2 [.ref (a 61), .int (nI i), .int (-1)] S (some (.int 1)) (uI S 96 i (-1)) := by
  show J _ _ _ _ 0 [_, _, _] [] _
  refine j_ild1 dX8_keep_0 ?_
  refine j_cS1 dX8_keep_1 kX8_isShelf zX8_isShelf (Or.inl l8_163) (Nat.le_of_ble_eq_true rfl) (Nat.le_of_ble_eq_true rfl) (by omega) (s_X8_isShelf) ?_
  refine j_ifeqB 20 dX8_keep_4 (by decide) (fun c_4 => absurd c_4 (not_not_intro (nI_in' hi (by decide)))) (fun c_4 => ?_)
  refine j_ild2 dX8_keep_7 ?_
  refine j_iconst (-1) dX8_keep_8 rfl ?_
  refine j_icmpeq 22 dX8_keep_9 (by decide) (fun c_9 => ?_) (fun c_9 => absurd (rfl) c_9)
  refine j_ald0 dX8_keep_22 ?_
  refine j_getR (k := 54) (96) dX8_keep_23 cX8_ok (Or.inl f8_129) rfl (by decide) (by decide) (by decide) rfl ?_
  refine j_ild1 dX8_keep_26 ?_
  refine j_ild2 dX8_keep_27 ?_
  refine j_iast (n := i) dX8_keep_28 rfl (by decide) rfl hi (by decide) ?_
  refine j_iconst (1) dX8_keep_29 rfl ?_
  refine j_iret dX8_keep_30 rfl ?_
  exact ⟨rfl, rfl⟩

set_option maxRecDepth 20000 in
theorem s_X8_keep_body {i j : Nat} (hi : i < 6) (hbd : S.1 61 50 = nI b) (hb : b ≤ 50) (hj : j < b) : Rt a mX8_keep 2 [.ref (a 61), .int (nI i), .int (nI j)] S (some (.int 1)) (uI S 96 i (nI j)) := by
  show J _ _ _ _ 0 [_, _, _] [] _
  refine j_ild1 dX8_keep_0 ?_
  refine j_cS1 dX8_keep_1 kX8_isShelf zX8_isShelf (Or.inl l8_163) (Nat.le_of_ble_eq_true rfl) (Nat.le_of_ble_eq_true rfl) (by omega) (s_X8_isShelf) ?_
  refine j_ifeqB 20 dX8_keep_4 (by decide) (fun c_4 => absurd c_4 (not_not_intro (nI_in' hi (by decide)))) (fun c_4 => ?_)
  refine j_ild2 dX8_keep_7 ?_
  refine j_iconst (-1) dX8_keep_8 rfl ?_
  refine j_icmpeq 22 dX8_keep_9 (by decide) (fun c_9 => absurd c_9 (fun z => absurd (nI_pos' (n := j) (by omega)) (by rw [z]; decide))) (fun c_9 => ?_)
  refine j_ald0 dX8_keep_12 ?_
  refine j_ild2 dX8_keep_13 ?_
  refine j_cV1 dX8_keep_14 kX8_isBody l8_403 rfl (by decide) rfl (Nat.le_of_ble_eq_true rfl) (Nat.le_of_ble_eq_true rfl) (by omega) (s_X8_isBody hbd hb) ?_
  refine j_ifneB 22 dX8_keep_17 (by decide) (fun c_17 => ?_) (fun c_17 => absurd (nI_in' hj (by omega)) c_17)
  refine j_ald0 dX8_keep_22 ?_
  refine j_getR (k := 54) (96) dX8_keep_23 cX8_ok (Or.inl f8_129) rfl (by decide) (by decide) (by decide) rfl ?_
  refine j_ild1 dX8_keep_26 ?_
  refine j_ild2 dX8_keep_27 ?_
  refine j_iast (n := i) dX8_keep_28 rfl (by decide) rfl hi (by decide) ?_
  refine j_iconst (1) dX8_keep_29 rfl ?_
  refine j_iret dX8_keep_30 rfl ?_
  exact ⟨rfl, rfl⟩

def zL (S : St) (j p k : Nat) : St := (S.1, fun j' q => if j' = j ∧ p ≤ q ∧ q < p + k then 0 else S.2.1 j' q, S.2.2)
theorem zL_0 (S : St) (j p : Nat) : zL S j p 0 = S := by
  unfold zL
  refine Prod.ext rfl (Prod.ext ?_ rfl)
  funext j' q
  show (if _ then _ else _) = _
  rw [if_neg (by omega)]
theorem zL_step (S : St) (j p k : Nat) : uL (zL S j p k) j (p + k) 0 = zL S j p (k + 1) := by
  refine Prod.ext rfl (Prod.ext ?_ rfl)
  funext j' q
  rw [uL_at]
  show (if _ then _ else (if _ then _ else _)) = (if _ then _ else _)
  by_cases h1 : j' = j ∧ q = p + k
  · rw [if_pos h1, if_pos (by omega)]
  · rw [if_neg h1]
    by_cases h2 : j' = j ∧ p ≤ q ∧ q < p + k
    · rw [if_pos h2, if_pos (by omega)]
    · rw [if_neg h2, if_neg (by omega)]
theorem zL_1 (S : St) (j p k : Nat) : (zL S j p k).1 = S.1 := rfl
def RowC (S : St) (i so ln : Nat) : St := zL (uI (uI (uI S (8 + i) 0 2) (8 + i) 2 (nI so)) (8 + i) 3 (nI ln)) (55 + i) 0 60
def RowR (S : St) (i so ln : Nat) : St := zL (uI (uI S 96 i (-2 - nI so)) 97 i (nI ln)) 98 (60 * i) 60
def upR (sh : Nat → Nat → Nat) (i so ln : Nat) : Nat → Nat → Nat := fun i' f => if i' = i then (if f = 0 then 2 else if f = 2 then so else if f = 3 then ln else sh i' f) else sh i' f
def zE (el : Nat → Nat → Int64) (i : Nat) : Nat → Nat → Int64 := fun i' k => if i' = i then 0 else el i' k
theorem SC.row (h : SC sh el S) {i so ln : Nat} : SC (upR sh i so ln) (zE el i) (RowC S i so ln) := by
  intro i' hi'
  obtain ⟨h1, h2, h3, h4, h5⟩ := h i' hi'
  unfold RowC
  simp only [zL_1, uI_at, upR, zE]
  by_cases e : i' = i
  · subst e
    simp
    refine ⟨rfl, fun k hk => ?_⟩
    show (if _ then _ else _) = _
    rw [if_pos (by omega)]
  · have q : ¬ 8 + i' = 8 + i := by omega
    simp [e, q]
    refine ⟨h1, h2, h3, h4, fun k hk => ?_⟩
    show (if _ then _ else _) = _
    rw [if_neg (by omega)]
    exact h5 k hk
theorem SR.row (h : SR sh el S) {i so ln : Nat} : SR (upR sh i so ln) (zE el i) (RowR S i so ln) := by
  intro i' hi'
  obtain ⟨h1, h2, h3⟩ := h i' hi'
  unfold RowR
  simp only [zL_1, uI_at, zE]
  by_cases e : i' = i
  · subst e
    have q : rh (upR sh i' so ln i') = -2 - nI so := by simp [rh, upR]
    rw [q]
    refine ⟨by simp, by simp [upR], fun k hk => ?_⟩
    show (if _ then _ else _) = _
    rw [if_pos (by omega), if_pos rfl]
  · have q : upR sh i so ln i' = sh i' := by funext f; simp [upR, e]
    rw [q]
    refine ⟨by simp [e, h1], by simp [e, h2], fun k hk => ?_⟩
    show (if _ then _ else _) = _
    rw [if_neg (by omega), if_neg e]
    exact h3 k hk
theorem SOk.row (h : SOk b sh) {i so ln : Nat} (hs : so < 5) (hl : ln ≤ 60) : SOk b (upR sh i so ln) := by
  refine ⟨h.1, fun i' hi' => ?_⟩
  obtain ⟨h1, h2, h3, h4⟩ := h.2 i' hi'
  simp only [upR]
  by_cases e : i' = i
  · subst e; simp [hs, hl]
  · simp [e]; exact ⟨h1, h2, h3, h4⟩
set_option maxRecDepth 20000 in
theorem lp_X4_becomeRow {w1 w2 : Int32} {i : Nat} (hi : i < 6) : ∀ (k : Nat) (c : Nat), 60 - c < k → (c ≤ 60) → J a mX4_becomeRow 0 (gm a fun r S' => r = none ∧ S' = zL S (55 + i) 0 60) 17 [.ref (a (8 + i)), .int w1, .int w2, .int (nI c)] [] (zL S (55 + i) 0 c) := by
  intro k
  induction k with
  | zero => intro c hk; exact absurd hk (Nat.not_lt_zero _)
  | succ k ih =>
    intro c hk hc
    refine j_ild3 dX4_becomeRow_17 ?_
    refine j_bipush (60) dX4_becomeRow_18 rfl ?_
    refine j_icmpge 36 dX4_becomeRow_20 (by decide) (fun c_20 => ?_) (fun c_20 => ?_)
    · have q_20 : c = 60 := by have := (nI_leI (a := 60) (b := c) (by decide) (by omega)).mp c_20; omega
      subst q_20
      refine j_vret dX4_becomeRow_36 rfl ?_
      exact ⟨rfl, rfl⟩
    have q_20 : c < 60 := Nat.not_le.mp (fun z => c_20 ((nI_leI (a := 60) (b := c) (by decide) (by omega)).mpr z))
    refine j_ald0 dX4_becomeRow_23 ?_
    refine j_getR (k := 4) (55 + i) dX4_becomeRow_24 cX4_ok (Or.inl f4_9) (ck_sh hi) (by omega) (by decide) (by decide) (fr_el hi) ?_
    refine j_ild3 dX4_becomeRow_27 ?_
    refine j_lconst (0) dX4_becomeRow_28 rfl ?_
    refine j_last (n := c) dX4_becomeRow_29 (ck_el hi) (by omega) rfl q_20 (by decide) ?_
    refine j_iinc3 (nI (c + 1)) dX4_becomeRow_30 (nI_1 c) rfl (by decide) ?_
    refine j_goto 17 dX4_becomeRow_33 (by decide) ?_
    refine j_S (S' := zL S (55 + i) 0 (c + 1)) (by have := zL_step S (55 + i) 0 c; rw [Nat.zero_add] at this; exact this) ?_
    exact ih (c + 1) (by omega) (by omega)

set_option maxRecDepth 20000 in
theorem s_X4_becomeRow {i so ln : Nat} (hi : i < 6) : Rt a mX4_becomeRow 0 [.ref (a (8 + i)), .int (nI so), .int (nI ln)] S none (RowC S i so ln) := by
  show J _ _ _ _ 0 [_, _, _, .null] [] _
  refine j_ald0 dX4_becomeRow_0 ?_
  refine j_iconst (2) dX4_becomeRow_1 rfl ?_
  refine j_putI (k := 0) dX4_becomeRow_2 cX4_ok (Or.inl f4_15) (ck_sh hi) (by omega) (by decide) (by decide) rfl ?_
  refine j_ald0 dX4_becomeRow_5 ?_
  refine j_ild1 dX4_becomeRow_6 ?_
  refine j_putI (k := 2) dX4_becomeRow_7 cX4_ok (Or.inl f4_19) (ck_sh hi) (by omega) (by decide) (by decide) rfl ?_
  refine j_ald0 dX4_becomeRow_10 ?_
  refine j_ild2 dX4_becomeRow_11 ?_
  refine j_putI (k := 3) dX4_becomeRow_12 cX4_ok (Or.inl f4_22) (ck_sh hi) (by omega) (by decide) (by decide) rfl ?_
  refine j_iconst (0) dX4_becomeRow_15 rfl ?_
  refine j_ist3 dX4_becomeRow_16 rfl (by decide) ?_
  refine j_S (S' := zL (uI (uI (uI S (8 + i) 0 2) (8 + i) 2 (nI so)) (8 + i) 3 (nI ln)) (55 + i) 0 0) (zL_0 _ _ _).symm ?_
  exact lp_X4_becomeRow hi 61 0 (by omega) (by omega)

def rwV (x y z : Int32) : Int32 := if ¬ ((0 ≤ x ∧ x < 6) ∧ (0 ≤ y ∧ y < 5) ∧ z ≤ 60) then -1 else -14
set_option maxRecDepth 20000 in
theorem s_X7_row_bad {x y z : Int32} (hb : ¬ (((0 ≤ x ∧ x < 6) ∧ (0 ≤ y ∧ y < 5) ∧ z ≤ 60) ∧ 0 ≤ z)) : Rt a mX7_row 1 [.ref (a 0), .int x, .int y, .int z] S (some (.int (rwV x y z))) S := by
  show J _ _ _ _ 0 [_, _, _, _] [] _
  refine j_ild1 dX7_row_0 ?_
  refine j_bipush (6) dX7_row_1 rfl ?_
  refine j_cS2 dX7_row_3 kX7_within zX7_within (Or.inl l7_72) (Nat.le_of_ble_eq_true rfl) (Nat.le_of_ble_eq_true rfl) (by omega) (s_X7_within) ?_
  refine j_ifeqB 23 dX7_row_6 (by decide) (fun c_6 => ?_) (fun c_6 => ?_)
  · refine j_iconst (-1) dX7_row_23 rfl ?_
    refine j_iret dX7_row_24 rfl ?_
    exact ⟨by rw [rwV, if_pos (fun q => c_6 q.1)], rfl⟩
  refine j_ild2 dX7_row_9 ?_
  refine j_iconst (5) dX7_row_10 rfl ?_
  refine j_cS2 dX7_row_11 kX7_within zX7_within (Or.inl l7_72) (Nat.le_of_ble_eq_true rfl) (Nat.le_of_ble_eq_true rfl) (by omega) (s_X7_within) ?_
  refine j_ifeqB 23 dX7_row_14 (by decide) (fun c_14 => ?_) (fun c_14 => ?_)
  · refine j_iconst (-1) dX7_row_23 rfl ?_
    refine j_iret dX7_row_24 rfl ?_
    exact ⟨by rw [rwV, if_pos (fun q => c_14 q.2.1)], rfl⟩
  refine j_ild3 dX7_row_17 ?_
  refine j_bipush (60) dX7_row_18 rfl ?_
  refine j_icmple 25 dX7_row_20 (by decide) (fun c_20 => ?_) (fun c_20 => ?_)
  · refine j_ild3 dX7_row_25 ?_
    refine j_ifge 32 dX7_row_26 (by decide) (fun c_26 => ?_) (fun c_26 => ?_)
    · exact absurd ⟨⟨c_6, c_14, c_20⟩, c_26⟩ hb
    refine j_bipush (-14) dX7_row_29 rfl ?_
    refine j_iret dX7_row_31 rfl ?_
    exact ⟨by rw [rwV, if_neg (not_not_intro ⟨c_6, c_14, c_20⟩)], rfl⟩
  refine j_iconst (-1) dX7_row_23 rfl ?_
  refine j_iret dX7_row_24 rfl ?_
  exact ⟨by rw [rwV, if_pos (fun q => c_20 q.2.2)], rfl⟩

set_option maxRecDepth 20000 in
theorem s_X7_row {i so ln : Nat} (hi : i < 6) (hs : so < 5) (hl : ln ≤ 60) : Rt a mX7_row 1 [.ref (a 0), .int (nI i), .int (nI so), .int (nI ln)] S (some (.int 1)) (RowC S i so ln) := by
  show J _ _ _ _ 0 [_, _, _, _] [] _
  refine j_ild1 dX7_row_0 ?_
  refine j_bipush (6) dX7_row_1 rfl ?_
  refine j_cS2 dX7_row_3 kX7_within zX7_within (Or.inl l7_72) (Nat.le_of_ble_eq_true rfl) (Nat.le_of_ble_eq_true rfl) (by omega) (s_X7_within) ?_
  refine j_ifeqB 23 dX7_row_6 (by decide) (fun c_6 => absurd c_6 (not_not_intro (nI_in' hi (by decide)))) (fun c_6 => ?_)
  refine j_ild2 dX7_row_9 ?_
  refine j_iconst (5) dX7_row_10 rfl ?_
  refine j_cS2 dX7_row_11 kX7_within zX7_within (Or.inl l7_72) (Nat.le_of_ble_eq_true rfl) (Nat.le_of_ble_eq_true rfl) (by omega) (s_X7_within) ?_
  refine j_ifeqB 23 dX7_row_14 (by decide) (fun c_14 => absurd c_14 (not_not_intro (nI_in' hs (by decide)))) (fun c_14 => ?_)
  refine j_ild3 dX7_row_17 ?_
  refine j_bipush (60) dX7_row_18 rfl ?_
  refine j_icmple 25 dX7_row_20 (by decide) (fun c_20 => ?_) (fun c_20 => absurd (nI_le hl (by decide)) c_20)
  refine j_ild3 dX7_row_25 ?_
  refine j_ifge 32 dX7_row_26 (by decide) (fun c_26 => ?_) (fun c_26 => absurd (nI_pos' (by omega)) c_26)
  refine j_ald0 dX7_row_32 ?_
  refine j_getR (k := 6) (7) dX7_row_33 cX7_ok (Or.inl f7_55) rfl (by decide) (by decide) (by decide) rfl ?_
  refine j_ild1 dX7_row_36 ?_
  refine j_aald (n := i) (8 + i) dX7_row_37 (Or.inl rfl) (by decide) rfl hi (by decide) (fr_sh hi) ?_
  refine j_ild2 dX7_row_38 ?_
  refine j_ild3 dX7_row_39 ?_
  refine j_vV2 dX7_row_40 kX4_becomeRow l7_284 (ck_sh hi) (by omega) rfl (Nat.le_of_ble_eq_true rfl) (Nat.le_of_ble_eq_true rfl) (by omega) (s_X4_becomeRow hi) ?_
  refine j_iconst (1) dX7_row_43 rfl ?_
  refine j_iret dX7_row_44 rfl ?_
  exact ⟨rfl, rfl⟩

set_option maxRecDepth 20000 in
theorem s_X8_row_bad {x y z : Int32} (hb : ¬ (((0 ≤ x ∧ x < 6) ∧ (0 ≤ y ∧ y < 5) ∧ z ≤ 60) ∧ 0 ≤ z)) : Rt a mX8_row 2 [.ref (a 61), .int x, .int y, .int z] S (some (.int (rwV x y z))) S := by
  show J _ _ _ _ 0 [_, _, _, _, .null] [] _
  refine j_ild1 dX8_row_0 ?_
  refine j_cS1 dX8_row_1 kX8_isShelf zX8_isShelf (Or.inl l8_163) (Nat.le_of_ble_eq_true rfl) (Nat.le_of_ble_eq_true rfl) (by omega) (s_X8_isShelf) ?_
  refine j_ifeqB 22 dX8_row_4 (by decide) (fun c_4 => ?_) (fun c_4 => ?_)
  · refine j_iconst (-1) dX8_row_22 rfl ?_
    refine j_iret dX8_row_23 rfl ?_
    exact ⟨by rw [rwV, if_pos (fun q => c_4 q.1)], rfl⟩
  refine j_ild2 dX8_row_7 ?_
  refine j_iconst (0) dX8_row_8 rfl ?_
  refine j_iconst (4) dX8_row_9 rfl ?_
  refine j_cS3 dX8_row_10 kX8_in zX8_in (Or.inl l8_148) (Nat.le_of_ble_eq_true rfl) (Nat.le_of_ble_eq_true rfl) (by omega) (s_X8_in) ?_
  refine j_ifeqB 22 dX8_row_13 (by decide) (fun c_13 => ?_) (fun c_13 => ?_)
  · refine j_iconst (-1) dX8_row_22 rfl ?_
    refine j_iret dX8_row_23 rfl ?_
    exact ⟨by rw [rwV, if_pos (fun q => c_13 ⟨q.2.1.1, (le_lt (c := 4) (by decide)).mpr q.2.1.2⟩)], rfl⟩
  refine j_ild3 dX8_row_16 ?_
  refine j_bipush (60) dX8_row_17 rfl ?_
  refine j_icmple 24 dX8_row_19 (by decide) (fun c_19 => ?_) (fun c_19 => ?_)
  · refine j_ild3 dX8_row_24 ?_
    refine j_ifge 31 dX8_row_25 (by decide) (fun c_25 => ?_) (fun c_25 => ?_)
    · exact absurd ⟨⟨c_4, ⟨c_13.1, (le_lt (c := 4) (by decide)).mp c_13.2⟩, c_19⟩, c_25⟩ hb
    refine j_bipush (-14) dX8_row_28 rfl ?_
    refine j_iret dX8_row_30 rfl ?_
    exact ⟨by rw [rwV, if_neg (not_not_intro ⟨c_4, ⟨c_13.1, (le_lt (c := 4) (by decide)).mp c_13.2⟩, c_19⟩)], rfl⟩
  refine j_iconst (-1) dX8_row_22 rfl ?_
  refine j_iret dX8_row_23 rfl ?_
  exact ⟨by rw [rwV, if_pos (fun q => c_19 q.2.2)], rfl⟩

set_option maxRecDepth 20000 in
theorem lp_X8_row {w2 w3 : Int32} {i : Nat} (hi : i < 6) : ∀ (k : Nat) (c : Nat), 60 - c < k → (c ≤ 60) → J a mX8_row 2 (gm a fun r S' => r = some (.int 1) ∧ S' = zL S 98 (60 * i) 60) 54 [.ref (a 61), .int (nI i), .int w2, .int w3, .int (nI (60 * i + c))] [] (zL S 98 (60 * i) c) := by
  intro k
  induction k with
  | zero => intro c hk; exact absurd hk (Nat.not_lt_zero _)
  | succ k ih =>
    intro c hk hc
    refine j_ild4 dX8_row_54 ?_
    refine j_bipush (60) dX8_row_56 rfl ?_
    refine j_ild1 dX8_row_58 ?_
    refine j_imul dX8_row_59 ?_
    refine j_top (y := nI (60 * i)) (by exact pk_mul 60 i) ?_
    refine j_bipush (60) dX8_row_60 rfl ?_
    refine j_iadd dX8_row_62 ?_
    refine j_top (y := nI (60 * i + 60)) (by exact nI_add (60 * i) 60) ?_
    refine j_icmpge 80 dX8_row_63 (by decide) (fun c_63 => ?_) (fun c_63 => ?_)
    · have q_63 : c = 60 := by have := (nI_leI (a := 60 * i + 60) (b := 60 * i + c) (by omega) (by omega)).mp c_63; omega
      subst q_63
      refine j_iconst (1) dX8_row_80 rfl ?_
      refine j_iret dX8_row_81 rfl ?_
      exact ⟨rfl, rfl⟩
    have q_63 : c < 60 := Nat.not_le.mp (fun z => c_63 ((nI_leI (a := 60 * i + 60) (b := 60 * i + c) (by omega) (by omega)).mpr (by omega)))
    refine j_ald0 dX8_row_66 ?_
    refine j_getR (k := 56) (98) dX8_row_67 cX8_ok (Or.inl f8_135) rfl (by decide) (by decide) (by decide) rfl ?_
    refine j_ild4 dX8_row_70 ?_
    refine j_lconst (0) dX8_row_72 rfl ?_
    refine j_last (n := 60 * i + c) dX8_row_73 rfl (by decide) rfl (by show _ < 360; omega) (by decide) ?_
    refine j_iinc4 (nI (60 * i + (c + 1))) dX8_row_74 (nI_1 (60 * i + c)) rfl (by decide) ?_
    refine j_goto 54 dX8_row_77 (by decide) ?_
    refine j_S (S' := zL S 98 (60 * i) (c + 1)) (zL_step S 98 (60 * i) c) ?_
    exact ih (c + 1) (by omega) (by omega)

set_option maxRecDepth 20000 in
theorem s_X8_row {i so ln : Nat} (hi : i < 6) (hs : so < 5) (hl : ln ≤ 60) : Rt a mX8_row 2 [.ref (a 61), .int (nI i), .int (nI so), .int (nI ln)] S (some (.int 1)) (RowR S i so ln) := by
  show J _ _ _ _ 0 [_, _, _, _, .null] [] _
  refine j_ild1 dX8_row_0 ?_
  refine j_cS1 dX8_row_1 kX8_isShelf zX8_isShelf (Or.inl l8_163) (Nat.le_of_ble_eq_true rfl) (Nat.le_of_ble_eq_true rfl) (by omega) (s_X8_isShelf) ?_
  refine j_ifeqB 22 dX8_row_4 (by decide) (fun c_4 => absurd c_4 (not_not_intro (nI_in' hi (by decide)))) (fun c_4 => ?_)
  refine j_ild2 dX8_row_7 ?_
  refine j_iconst (0) dX8_row_8 rfl ?_
  refine j_iconst (4) dX8_row_9 rfl ?_
  refine j_cS3 dX8_row_10 kX8_in zX8_in (Or.inl l8_148) (Nat.le_of_ble_eq_true rfl) (Nat.le_of_ble_eq_true rfl) (by omega) (s_X8_in) ?_
  refine j_ifeqB 22 dX8_row_13 (by decide) (fun c_13 => absurd c_13 (not_not_intro ⟨nI_pos' (by omega), nI_le (a := so) (b := 4) (by omega) (by decide)⟩)) (fun c_13 => ?_)
  refine j_ild3 dX8_row_16 ?_
  refine j_bipush (60) dX8_row_17 rfl ?_
  refine j_icmple 24 dX8_row_19 (by decide) (fun c_19 => ?_) (fun c_19 => absurd (nI_le hl (by decide)) c_19)
  refine j_ild3 dX8_row_24 ?_
  refine j_ifge 31 dX8_row_25 (by decide) (fun c_25 => ?_) (fun c_25 => absurd (nI_pos' (by omega)) c_25)
  refine j_ald0 dX8_row_31 ?_
  refine j_getR (k := 54) (96) dX8_row_32 cX8_ok (Or.inl f8_129) rfl (by decide) (by decide) (by decide) rfl ?_
  refine j_ild1 dX8_row_35 ?_
  refine j_bipush (-2) dX8_row_36 rfl ?_
  refine j_ild2 dX8_row_38 ?_
  refine j_isub dX8_row_39 ?_
  refine j_iast (n := i) dX8_row_40 rfl (by decide) rfl hi (by decide) ?_
  refine j_ald0 dX8_row_41 ?_
  refine j_getR (k := 55) (97) dX8_row_42 cX8_ok (Or.inl f8_132) rfl (by decide) (by decide) (by decide) rfl ?_
  refine j_ild1 dX8_row_45 ?_
  refine j_ild3 dX8_row_46 ?_
  refine j_iast (n := i) dX8_row_47 rfl (by decide) rfl hi (by decide) ?_
  refine j_bipush (60) dX8_row_48 rfl ?_
  refine j_ild1 dX8_row_50 ?_
  refine j_imul dX8_row_51 ?_
  refine j_top (y := nI (60 * i)) (by exact pk_mul 60 i) ?_
  refine j_ist4 dX8_row_52 rfl (by decide) ?_
  refine j_S (S' := zL (uI (uI S 96 i (-2 - nI so)) 97 i (nI ln)) 98 (60 * i) 0) (zL_0 _ _ _).symm ?_
  exact lp_X8_row hi 61 0 (by omega) (by omega)

def tkV (b : Nat) (kd : Nat → Nat) (sh : Nat → Nat → Nat) (x y : Int32) : Int32 := if ¬ ((0 ≤ x ∧ x < 6) ∧ (0 ≤ y ∧ y < 8)) then -1 else if sh x.toNatClampNeg 0 = 0 then -11 else if sh x.toNatClampNeg 0 = 1 ∧ undN (kd (sh x.toNatClampNeg 1)) y.toNatClampNeg = true then nI (kd (sh x.toNatClampNeg 1)) else -12
set_option maxRecDepth 20000 in
theorem s_X7_taken {x y : Int32} {kd : Nat → Nat} {T : List Nat} (h : SC sh el S) (hs : SOk b sh) (hk : AC b kd T S) : Rt a mX7_taken 2 [.ref (a 0), .int x, .int y] S (some (.int (tkV b kd sh x y))) S := by
  show J _ _ _ _ 0 [_, _, _, .null, .null] [] _
  refine j_ild1 dX7_taken_0 ?_
  refine j_bipush (6) dX7_taken_1 rfl ?_
  refine j_cS2 dX7_taken_3 kX7_within zX7_within (Or.inl l7_72) (Nat.le_of_ble_eq_true rfl) (Nat.le_of_ble_eq_true rfl) (by omega) (s_X7_within) ?_
  refine j_ifeqB 18 dX7_taken_6 (by decide) (fun c_6 => ?_) (fun c_6 => ?_)
  · refine j_iconst (-1) dX7_taken_18 rfl ?_
    refine j_iret dX7_taken_19 rfl ?_
    exact ⟨by rw [tkV, if_pos (fun q => c_6 q.1)], rfl⟩
  refine j_ild2 dX7_taken_9 ?_
  refine j_bipush (8) dX7_taken_10 rfl ?_
  refine j_cS2 dX7_taken_12 kX7_within zX7_within (Or.inl l7_72) (Nat.le_of_ble_eq_true rfl) (Nat.le_of_ble_eq_true rfl) (by omega) (s_X7_within) ?_
  refine j_ifneB 20 dX7_taken_15 (by decide) (fun c_15 => ?_) (fun c_15 => ?_)
  · obtain ⟨i, hi, rfl⟩ := in_nI (n := 6) (by decide) c_6
    have hcl : (nI i).toNatClampNeg = i := nI_clamp (by omega)
    obtain ⟨e0, e1, e2, e3, e4⟩ := h i hi
    obtain ⟨s0, s1, s2, s3⟩ := hs.2 i hi
    obtain ⟨t, ht, rfl⟩ := in_nI (n := 8) (by decide) c_15
    have hcl2 : (nI t).toNatClampNeg = t := nI_clamp (by omega)
    refine j_ald0 dX7_taken_20 ?_
    refine j_getR (k := 6) (7) dX7_taken_21 cX7_ok (Or.inl f7_55) rfl (by decide) (by decide) (by decide) rfl ?_
    refine j_ild1 dX7_taken_24 ?_
    refine j_aald (n := i) (8 + i) dX7_taken_25 (Or.inl rfl) (by decide) rfl hi (by decide) (fr_sh hi) ?_
    refine j_ast3 dX7_taken_26 rfl (by decide) ?_
    refine j_ald3 dX7_taken_27 ?_
    refine j_getI (k := 0) dX7_taken_28 cX4_ok (Or.inr ⟨_, f7_76⟩) (ck_sh hi) (by omega) (by decide) (by decide) ?_
    refine j_top (y := nI (sh i 0)) (e0) ?_
    refine j_ifne 37 dX7_taken_31 (by decide) (fun c_31 => ?_) (fun c_31 => ?_)
    · have q_31 : ¬ sh i 0 = 0 := fun z => c_31 (by rw [z]; rfl)
      refine j_ald3 dX7_taken_37 ?_
      refine j_getI (k := 0) dX7_taken_38 cX4_ok (Or.inr ⟨_, f7_76⟩) (ck_sh hi) (by omega) (by decide) (by decide) ?_
      refine j_top (y := nI (sh i 0)) (e0) ?_
      refine j_iconst (1) dX7_taken_41 rfl ?_
      refine j_icmpne 62 dX7_taken_42 (by decide) (fun c_42 => ?_) (fun c_42 => ?_)
      · have q_42 : ¬ sh i 0 = 1 := fun z => c_42 (by rw [z]; rfl)
        refine j_bipush (-12) dX7_taken_62 rfl ?_
        refine j_iret dX7_taken_64 rfl ?_
        exact ⟨by rw [tkV, if_neg (not_not_intro ⟨c_6, c_15⟩), hcl, if_neg q_31, if_neg (fun q => q_42 q.1)], rfl⟩
      have q_42 : sh i 0 = 1 := (nI_eq (a := sh i 0) (b := 1) (by omega) (by decide)).mp (Classical.not_not.mp c_42)
      refine j_ald3 dX7_taken_45 ?_
      refine j_getI (k := 1) dX7_taken_46 cX4_ok (Or.inr ⟨_, f7_281⟩) (ck_sh hi) (by omega) (by decide) (by decide) ?_
      refine j_top (y := nI (sh i 1)) ((e1 q_42)) ?_
      refine j_ald0 dX7_taken_49 ?_
      refine j_getR (k := 5) (6) dX7_taken_50 cX7_ok (Or.inl f7_49) rfl (by decide) (by decide) (by decide) rfl ?_
      refine j_getI (k := 1) dX7_taken_53 cX0_ok (Or.inr ⟨_, f7_278⟩) rfl (by decide) (by decide) (by decide) ?_
      refine j_top (y := nI b) (hk.1) ?_
      refine j_cS2 dX7_taken_56 kX7_within zX7_within (Or.inl l7_72) (Nat.le_of_ble_eq_true rfl) (Nat.le_of_ble_eq_true rfl) (by omega) (s_X7_within) ?_
      refine j_ifneB 65 dX7_taken_59 (by decide) (fun c_59 => ?_) (fun c_59 => absurd (nI_in' (s1 q_42) (by have := hs.1; omega)) c_59)
      refine j_ald0 dX7_taken_65 ?_
      refine j_getR (k := 5) (6) dX7_taken_66 cX7_ok (Or.inl f7_49) rfl (by decide) (by decide) (by decide) rfl ?_
      refine j_getR (k := 0) (53) dX7_taken_69 cX0_ok (Or.inr ⟨_, f7_307⟩) rfl (by decide) (by decide) (by decide) rfl ?_
      refine j_ald3 dX7_taken_72 ?_
      refine j_getI (k := 1) dX7_taken_73 cX4_ok (Or.inr ⟨_, f7_281⟩) (ck_sh hi) (by omega) (by decide) (by decide) ?_
      refine j_top (y := nI (sh i 1)) ((e1 q_42)) ?_
      refine j_iald (n := sh i 1) dX7_taken_76 rfl (by decide) rfl (by have := s1 q_42; have := hs.1; omega) (by decide) ?_
      refine j_top (y := nI (kd (sh i 1))) (hk.2.2.1 _ (s1 q_42)).1 ?_
      refine j_ist4 dX7_taken_77 rfl (by decide) ?_
      refine j_ild4 dX7_taken_79 ?_
      refine j_ild2 dX7_taken_81 ?_
      refine j_cS2 dX7_taken_82 kX0_isUnder zX0_isUnder (Or.inl l7_310) (Nat.le_of_ble_eq_true rfl) (Nat.le_of_ble_eq_true rfl) (by omega) (s_X0_isUnder (hk.2.2.1 _ (s1 q_42)).2 ht) ?_
      refine j_ifeqB 93 dX7_taken_85 (by decide) (fun c_85 => ?_) (fun c_85 => ?_)
      · refine j_bipush (-12) dX7_taken_93 rfl ?_
        refine j_iret dX7_taken_95 rfl ?_
        exact ⟨by rw [tkV, if_neg (not_not_intro ⟨c_6, c_15⟩), hcl, if_neg q_31, hcl2, if_neg (fun q => c_85 q.2)], rfl⟩
      refine j_ild4 dX7_taken_88 ?_
      refine j_goto 95 dX7_taken_90 (by decide) ?_
      refine j_iret dX7_taken_95 rfl ?_
      exact ⟨by rw [tkV, if_neg (not_not_intro ⟨c_6, c_15⟩), hcl, if_neg q_31, hcl2, if_pos ⟨q_42, c_85⟩], rfl⟩
    have q_31 : sh i 0 = 0 := (nI_eq (a := sh i 0) (b := 0) (by omega) (by decide)).mp (Classical.not_not.mp c_31)
    refine j_bipush (-11) dX7_taken_34 rfl ?_
    refine j_iret dX7_taken_36 rfl ?_
    exact ⟨by rw [tkV, if_neg (not_not_intro ⟨c_6, c_15⟩), hcl, if_pos q_31], rfl⟩
  refine j_iconst (-1) dX7_taken_18 rfl ?_
  refine j_iret dX7_taken_19 rfl ?_
  exact ⟨by rw [tkV, if_pos (fun q => c_15 q.2)], rfl⟩

set_option maxRecDepth 20000 in
theorem s_X8_taken {x y : Int32} {kd : Nat → Nat} {T : List Nat} (h : SR sh el S) (hs : SOk b sh) (hk : AR b kd T S) : Rt a mX8_taken 2 [.ref (a 61), .int x, .int y] S (some (.int (tkV b kd sh x y))) S := by
  show J _ _ _ _ 0 [_, _, _] [] _
  refine j_ild1 dX8_taken_0 ?_
  refine j_cS1 dX8_taken_1 kX8_isShelf zX8_isShelf (Or.inl l8_163) (Nat.le_of_ble_eq_true rfl) (Nat.le_of_ble_eq_true rfl) (by omega) (s_X8_isShelf) ?_
  refine j_ifeqB 17 dX8_taken_4 (by decide) (fun c_4 => ?_) (fun c_4 => ?_)
  · refine j_iconst (-1) dX8_taken_17 rfl ?_
    refine j_iret dX8_taken_18 rfl ?_
    exact ⟨by rw [tkV, if_pos (fun q => c_4 q.1)], rfl⟩
  refine j_ild2 dX8_taken_7 ?_
  refine j_iconst (0) dX8_taken_8 rfl ?_
  refine j_bipush (7) dX8_taken_9 rfl ?_
  refine j_cS3 dX8_taken_11 kX8_in zX8_in (Or.inl l8_148) (Nat.le_of_ble_eq_true rfl) (Nat.le_of_ble_eq_true rfl) (by omega) (s_X8_in) ?_
  refine j_ifneB 19 dX8_taken_14 (by decide) (fun c_14 => ?_) (fun c_14 => ?_)
  · obtain ⟨i, hi, rfl⟩ := in_nI (n := 6) (by decide) c_4
    have hcl : (nI i).toNatClampNeg = i := nI_clamp (by omega)
    obtain ⟨e0, e3, e4⟩ := h i hi
    obtain ⟨s0, s1, s2, s3⟩ := hs.2 i hi
    obtain ⟨t, ht, rfl⟩ := in_nI (n := 8) (by decide) ⟨c_14.1, (le_lt (c := 7) (by decide)).mp c_14.2⟩
    have hcl2 : (nI t).toNatClampNeg = t := nI_clamp (by omega)
    refine j_ald0 dX8_taken_19 ?_
    refine j_getR (k := 54) (96) dX8_taken_20 cX8_ok (Or.inl f8_129) rfl (by decide) (by decide) (by decide) rfl ?_
    refine j_ild1 dX8_taken_23 ?_
    refine j_iald (n := i) dX8_taken_24 rfl (by decide) rfl hi (by decide) ?_
    refine j_top (y := rh (sh i)) e0 ?_
    refine j_iconst (-1) dX8_taken_25 rfl ?_
    refine j_icmpne 32 dX8_taken_26 (by decide) (fun c_26 => ?_) (fun c_26 => ?_)
    · have q_26 : ¬ sh i 0 = 0 := fun z => c_26 ((rh_m1 hs hi).mpr z)
      refine j_ald0 dX8_taken_32 ?_
      refine j_getR (k := 54) (96) dX8_taken_33 cX8_ok (Or.inl f8_129) rfl (by decide) (by decide) (by decide) rfl ?_
      refine j_ild1 dX8_taken_36 ?_
      refine j_iald (n := i) dX8_taken_37 rfl (by decide) rfl hi (by decide) ?_
      refine j_top (y := rh (sh i)) e0 ?_
      refine j_iflt 73 dX8_taken_38 (by decide) (fun c_38 => ?_) (fun c_38 => ?_)
      · have q_38 : ¬ sh i 0 = 1 := fun z => absurd c_38 (Int32.not_lt.mpr ((rh_ge hs hi).mpr z))
        refine j_bipush (-12) dX8_taken_73 rfl ?_
        refine j_iret dX8_taken_75 rfl ?_
        exact ⟨by rw [tkV, if_neg (not_not_intro ⟨c_4, c_14.1, (le_lt (c := 7) (by decide)).mp c_14.2⟩), hcl, if_neg q_26, if_neg (fun q => q_38 q.1)], rfl⟩
      have q_38 : sh i 0 = 1 := (rh_ge hs hi).mp (Int32.not_lt.mp c_38)
      refine j_ald0 dX8_taken_41 ?_
      refine j_getR (k := 51) (94) dX8_taken_42 cX8_ok (Or.inl f8_123) rfl (by decide) (by decide) (by decide) rfl ?_
      refine j_ald0 dX8_taken_45 ?_
      refine j_getR (k := 54) (96) dX8_taken_46 cX8_ok (Or.inl f8_129) rfl (by decide) (by decide) (by decide) rfl ?_
      refine j_ild1 dX8_taken_49 ?_
      refine j_iald (n := i) dX8_taken_50 rfl (by decide) rfl hi (by decide) ?_
      refine j_top (y := nI (sh i 1)) (e0.trans (rh_1 q_38)) ?_
      refine j_iald (n := sh i 1) dX8_taken_51 rfl (by decide) rfl (by have := s1 q_38; have := hs.1; omega) (by decide) ?_
      refine j_top (y := nI (kd (sh i 1))) (hk.2.2.1 _ (s1 q_38)).1 ?_
      refine j_ild2 dX8_taken_52 ?_
      refine j_cS2 dX8_taken_53 kX8_isUnder zX8_isUnder (Or.inl l8_373) (Nat.le_of_ble_eq_true rfl) (Nat.le_of_ble_eq_true rfl) (by omega) (s_X8_isUnder (hk.2.2.1 _ (s1 q_38)).2 ht) ?_
      refine j_ifeqB 73 dX8_taken_56 (by decide) (fun c_56 => ?_) (fun c_56 => ?_)
      · refine j_bipush (-12) dX8_taken_73 rfl ?_
        refine j_iret dX8_taken_75 rfl ?_
        exact ⟨by rw [tkV, if_neg (not_not_intro ⟨c_4, c_14.1, (le_lt (c := 7) (by decide)).mp c_14.2⟩), hcl, if_neg q_26, hcl2, if_neg (fun q => c_56 q.2)], rfl⟩
      refine j_ald0 dX8_taken_59 ?_
      refine j_getR (k := 51) (94) dX8_taken_60 cX8_ok (Or.inl f8_123) rfl (by decide) (by decide) (by decide) rfl ?_
      refine j_ald0 dX8_taken_63 ?_
      refine j_getR (k := 54) (96) dX8_taken_64 cX8_ok (Or.inl f8_129) rfl (by decide) (by decide) (by decide) rfl ?_
      refine j_ild1 dX8_taken_67 ?_
      refine j_iald (n := i) dX8_taken_68 rfl (by decide) rfl hi (by decide) ?_
      refine j_top (y := nI (sh i 1)) (e0.trans (rh_1 q_38)) ?_
      refine j_iald (n := sh i 1) dX8_taken_69 rfl (by decide) rfl (by have := s1 q_38; have := hs.1; omega) (by decide) ?_
      refine j_top (y := nI (kd (sh i 1))) (hk.2.2.1 _ (s1 q_38)).1 ?_
      refine j_goto 75 dX8_taken_70 (by decide) ?_
      refine j_iret dX8_taken_75 rfl ?_
      exact ⟨by rw [tkV, if_neg (not_not_intro ⟨c_4, c_14.1, (le_lt (c := 7) (by decide)).mp c_14.2⟩), hcl, if_neg q_26, hcl2, if_pos ⟨q_38, c_56⟩], rfl⟩
    have q_26 : sh i 0 = 0 := (rh_m1 hs hi).mp (Classical.not_not.mp c_26)
    refine j_bipush (-11) dX8_taken_29 rfl ?_
    refine j_iret dX8_taken_31 rfl ?_
    exact ⟨by rw [tkV, if_neg (not_not_intro ⟨c_4, c_14.1, (le_lt (c := 7) (by decide)).mp c_14.2⟩), hcl, if_pos q_26], rfl⟩
  refine j_iconst (-1) dX8_taken_17 rfl ?_
  refine j_iret dX8_taken_18 rfl ?_
  exact ⟨by rw [tkV, if_pos (fun q => c_14 ⟨q.2.1, (le_lt (c := 7) (by decide)).mpr q.2.2⟩)], rfl⟩

end Shelves
