/-! shelves: both sides -/
/-- shelf i: 0 what it holds (0 nothing, 1 a body, 2 a row), 1 the body, 2 the sort, 3 the length; its elements -/
def SC (sh : Nat → Nat → Nat) (el : Nat → Nat → Int64) (S : St) : Prop := ∀ i, i < 6 → S.1 (8 + i) 0 = nI (sh i 0) ∧ (sh i 0 = 1 → S.1 (8 + i) 1 = nI (sh i 1)) ∧ (sh i 0 = 2 → S.1 (8 + i) 2 = nI (sh i 2)) ∧ S.1 (8 + i) 3 = nI (sh i 3) ∧ ∀ k, k < 60 → S.2.1 (55 + i) k = el i k
def SOk (b : Nat) (sh : Nat → Nat → Nat) : Prop := b ≤ 50 ∧ ∀ i, i < 6 → sh i 0 ≤ 2 ∧ (sh i 0 = 1 → sh i 1 < b) ∧ (sh i 0 = 2 → sh i 2 < 5) ∧ sh i 3 ≤ 60
def refV (sh : Nat → Nat → Nat) (x y : Int32) : Int32 := if ¬ (0 ≤ x ∧ x < 6) then -1 else if sh x.toNatClampNeg 0 = 0 then -11 else if ¬ sh x.toNatClampNeg 0 = 2 then -12 else if 0 ≤ y ∧ y < nI (sh x.toNatClampNeg 3) then 0 else -13
def keptV (s : Nat) (v : Int64) : Int64 := if s = 0 then v.toInt32.toInt8.toInt32.toInt64 else if s = 1 then v.toInt32.toInt16.toInt32.toInt64 else if s = 2 then v.toInt32.toInt64 else if s = 3 then v else if v = 0 then 0 else 1
theorem SC.kp {sh : Nat → Nat → Nat} {el : Nat → Nat → Int64} {S S' : St} {rs : List Nat} (h : SC sh el S) (hk : Kp rs S S') (hr : 7 ∉ rs) : SC sh el S' := by
  intro i hi
  have e : ∀ k, S'.1 (8 + i) k = S.1 (8 + i) k := fun k => hk.i (by rw [rg_sh hi]; exact hr)
  rw [e, e, e, e]
  exact ⟨(h i hi).1, (h i hi).2.1, (h i hi).2.2.1, (h i hi).2.2.2.1, fun k hk2 => by rw [hk.l (by rw [rg_el hi]; exact hr)]; exact (h i hi).2.2.2.2 k hk2⟩
section Shelves
variable {a : Nat → Nat} {S : St} {b : Nat} {sh : Nat → Nat → Nat} {el : Nat → Nat → Int64}

set_option maxRecDepth 20000 in
theorem s_X7_refusedElement {x y : Int32} (h : SC sh el S) (hs : SOk b sh) : Rt a mX7_refusedElement 1 [.ref (a 0), .int x, .int y] S (some (.int (refV sh x y))) S := by
  show J _ _ _ _ 0 [_, _, _, .null] [] _
  refine j_ild1 dX7_refusedElement_0 ?_
  refine j_bipush (6) dX7_refusedElement_1 rfl ?_
  refine j_cS2 dX7_refusedElement_3 kX7_within zX7_within (Or.inl l7_72) (Nat.le_of_ble_eq_true rfl) (Nat.le_of_ble_eq_true rfl) (by omega) (s_X7_within) ?_
  refine j_ifneB 11 dX7_refusedElement_6 (by decide) (fun c_6 => ?_) (fun c_6 => ?_)
  · obtain ⟨i, hi, rfl⟩ := in_nI (n := 6) (by decide) c_6
    have hcl : (nI i).toNatClampNeg = i := nI_clamp (by omega)
    obtain ⟨e0, e1, e2, e3, e4⟩ := h i hi
    obtain ⟨s0, s1, s2, s3⟩ := hs.2 i hi
    refine j_ald0 dX7_refusedElement_11 ?_
    refine j_getR (k := 6) (7) dX7_refusedElement_12 cX7_ok (Or.inl f7_55) rfl (by decide) (by decide) (by decide) rfl ?_
    refine j_ild1 dX7_refusedElement_15 ?_
    refine j_aald (n := i) (8 + i) dX7_refusedElement_16 (Or.inl rfl) (by decide) rfl hi (by decide) (fr_sh hi) ?_
    refine j_ast3 dX7_refusedElement_17 rfl (by decide) ?_
    refine j_ald3 dX7_refusedElement_18 ?_
    refine j_getI (k := 0) dX7_refusedElement_19 cX4_ok (Or.inr ⟨_, f7_76⟩) (ck_sh hi) (by omega) (by decide) (by decide) ?_
    refine j_top (y := nI (sh i 0)) (e0) ?_
    refine j_ifne 28 dX7_refusedElement_22 (by decide) (fun c_22 => ?_) (fun c_22 => ?_)
    · have q_22 : ¬ sh i 0 = 0 := fun z => c_22 (by rw [z]; rfl)
      refine j_ald3 dX7_refusedElement_28 ?_
      refine j_getI (k := 0) dX7_refusedElement_29 cX4_ok (Or.inr ⟨_, f7_76⟩) (ck_sh hi) (by omega) (by decide) (by decide) ?_
      refine j_top (y := nI (sh i 0)) (e0) ?_
      refine j_iconst (2) dX7_refusedElement_32 rfl ?_
      refine j_icmpeq 39 dX7_refusedElement_33 (by decide) (fun c_33 => ?_) (fun c_33 => ?_)
      · have q_33 : sh i 0 = 2 := (nI_eq (a := sh i 0) (b := 2) (by omega) (by decide)).mp c_33
        refine j_ild2 dX7_refusedElement_39 ?_
        refine j_ald3 dX7_refusedElement_40 ?_
        refine j_getI (k := 3) dX7_refusedElement_41 cX4_ok (Or.inr ⟨_, f7_88⟩) (ck_sh hi) (by omega) (by decide) (by decide) ?_
        refine j_top (y := nI (sh i 3)) (e3) ?_
        refine j_cS2 dX7_refusedElement_44 kX7_within zX7_within (Or.inl l7_72) (Nat.le_of_ble_eq_true rfl) (Nat.le_of_ble_eq_true rfl) (by omega) (s_X7_within) ?_
        refine j_ifeqB 54 dX7_refusedElement_47 (by decide) (fun c_47 => ?_) (fun c_47 => ?_)
        · refine j_bipush (-13) dX7_refusedElement_54 rfl ?_
          refine j_iret dX7_refusedElement_56 rfl ?_
          exact ⟨by rw [refV, if_neg (not_not_intro c_6), hcl, if_neg q_22, if_neg (not_not_intro q_33), if_neg c_47], rfl⟩
        refine j_iconst (0) dX7_refusedElement_50 rfl ?_
        refine j_goto 56 dX7_refusedElement_51 (by decide) ?_
        refine j_iret dX7_refusedElement_56 rfl ?_
        exact ⟨by rw [refV, if_neg (not_not_intro c_6), hcl, if_neg q_22, if_neg (not_not_intro q_33), if_pos c_47], rfl⟩
      have q_33 : ¬ sh i 0 = 2 := fun z => c_33 (by rw [z]; rfl)
      refine j_bipush (-12) dX7_refusedElement_36 rfl ?_
      refine j_iret dX7_refusedElement_38 rfl ?_
      exact ⟨by rw [refV, if_neg (not_not_intro c_6), hcl, if_neg q_22, if_pos q_33], rfl⟩
    have q_22 : sh i 0 = 0 := (nI_eq (a := sh i 0) (b := 0) (by omega) (by decide)).mp (Classical.not_not.mp c_22)
    refine j_bipush (-11) dX7_refusedElement_25 rfl ?_
    refine j_iret dX7_refusedElement_27 rfl ?_
    exact ⟨by rw [refV, if_neg (not_not_intro c_6), hcl, if_pos q_22], rfl⟩
  refine j_iconst (-1) dX7_refusedElement_9 rfl ?_
  refine j_iret dX7_refusedElement_10 rfl ?_
  exact ⟨by rw [refV, if_pos c_6], rfl⟩

theorem keptV_cases {s : Nat} (h : s < 5) : s = 0 ∨ s = 1 ∨ s = 2 ∨ s = 3 ∨ s = 4 := by omega
theorem lg_cmp0 {x y : Int64} : lg_cmp x y = 0 ↔ x = y := by
  unfold lg_cmp
  by_cases h1 : x > y
  · simp only [h1, if_true]
    constructor
    · intro z; exact absurd z (by decide)
    · intro z; subst z; exact absurd h1 (fun q => Int64.lt_irrefl q)
  · by_cases h2 : x = y
    · simp [h1, h2]
    · simp only [h1, h2, if_false]
      constructor
      · intro z; exact absurd z (by decide)
      · intro z; exact absurd z (by simp)
set_option maxRecDepth 20000 in
theorem s_X4_kept {s : Nat} {v : Int64} (hs : s < 5) : Rt a mX4_kept 0 [.int (nI s), .long v] S (some (.long (keptV s v))) S := by
  show J _ _ _ _ 0 [_, _, .null] [] _
  refine j_ild0 dX4_kept_0 ?_
  refine j_topi (fun y_1 e_1 => ?_)
  by_cases h_1_0 : y_1 = 0
  · rw [h_1_0] at e_1 ⊢
    refine j_tblIn (31) 32 dX4_kept_1 (by decide) (by decide) rfl (by decide) ?_
    refine j_lld1 dX4_kept_32 ?_
    refine j_l2i dX4_kept_33 ?_
    refine j_i2b dX4_kept_34 ?_
    refine j_i2l dX4_kept_35 ?_
    refine j_lret dX4_kept_36 rfl ?_
    have e : s = 0 := (nI_eq (a := s) (b := 0) (by omega) (by decide)).mp e_1.symm
    subst e
    exact ⟨rfl, rfl⟩
  by_cases h_1_1 : y_1 = 1
  · rw [h_1_1] at e_1 ⊢
    refine j_tblIn (36) 37 dX4_kept_1 (by decide) (by decide) rfl (by decide) ?_
    refine j_lld1 dX4_kept_37 ?_
    refine j_l2i dX4_kept_38 ?_
    refine j_i2s dX4_kept_39 ?_
    refine j_i2l dX4_kept_40 ?_
    refine j_lret dX4_kept_41 rfl ?_
    have e : s = 1 := (nI_eq (a := s) (b := 1) (by omega) (by decide)).mp e_1.symm
    subst e
    exact ⟨rfl, rfl⟩
  by_cases h_1_2 : y_1 = 2
  · rw [h_1_2] at e_1 ⊢
    refine j_tblIn (41) 42 dX4_kept_1 (by decide) (by decide) rfl (by decide) ?_
    refine j_lld1 dX4_kept_42 ?_
    refine j_l2i dX4_kept_43 ?_
    refine j_i2l dX4_kept_44 ?_
    refine j_lret dX4_kept_45 rfl ?_
    have e : s = 2 := (nI_eq (a := s) (b := 2) (by omega) (by decide)).mp e_1.symm
    subst e
    exact ⟨rfl, rfl⟩
  by_cases h_1_3 : y_1 = 3
  · rw [h_1_3] at e_1 ⊢
    refine j_tblIn (45) 46 dX4_kept_1 (by decide) (by decide) rfl (by decide) ?_
    refine j_lld1 dX4_kept_46 ?_
    refine j_lret dX4_kept_47 rfl ?_
    have e : s = 3 := (nI_eq (a := s) (b := 3) (by omega) (by decide)).mp e_1.symm
    subst e
    exact ⟨rfl, rfl⟩
  refine j_tblOut 48 dX4_kept_1 (tbl_out (fun k h1 h2 => by
    have hk : k = 0 ∨ k = 1 ∨ k = 2 ∨ k = 3 := by omega
    rcases hk with rfl | rfl | rfl | rfl
    · exact h_1_0
    · exact h_1_1
    · exact h_1_2
    · exact h_1_3)) (by decide) ?_
  refine j_lld1 dX4_kept_48 ?_
  refine j_lconst (0) dX4_kept_49 rfl ?_
  refine j_lcmp dX4_kept_50 ?_
  refine j_ifeq 58 dX4_kept_51 (by decide) (fun c_51 => ?_) (fun c_51 => ?_)
  · refine j_lconst (0) dX4_kept_58 rfl ?_
    refine j_lret dX4_kept_59 rfl ?_
    have e : s = 4 := by
      rcases keptV_cases hs with rfl | rfl | rfl | rfl | rfl
      · exact absurd e_1 h_1_0
      · exact absurd e_1 h_1_1
      · exact absurd e_1 h_1_2
      · exact absurd e_1 h_1_3
      · rfl
    subst e
    exact ⟨by rw [keptV, if_neg (by decide), if_neg (by decide), if_neg (by decide), if_neg (by decide), if_pos (lg_cmp0.mp c_51)], rfl⟩
  refine j_lconst (1) dX4_kept_54 rfl ?_
  refine j_goto 59 dX4_kept_55 (by decide) ?_
  refine j_lret dX4_kept_59 rfl ?_
  have e : s = 4 := by
    rcases keptV_cases hs with rfl | rfl | rfl | rfl | rfl
    · exact absurd e_1 h_1_0
    · exact absurd e_1 h_1_1
    · exact absurd e_1 h_1_2
    · exact absurd e_1 h_1_3
    · rfl
  subst e
  exact ⟨by rw [keptV, if_neg (by decide), if_neg (by decide), if_neg (by decide), if_neg (by decide), if_neg (fun z => c_51 (lg_cmp0.mpr z))], rfl⟩

set_option maxRecDepth 20000 in
theorem s_X7_put {i k : Nat} {v : Int64} (h : SC sh el S) (hs : SOk b sh) (hi : i < 6) (hk : k < 60) (h2 : sh i 0 = 2) (hr : refV sh (nI i) (nI k) = 0) : Rt a mX7_put 2 [.ref (a 0), .int (nI i), .int (nI k), .long v] S (some (.int 1)) (uL S (55 + i) k (keptV (sh i 2) v)) := by
  show J _ _ _ _ 0 [_, _, _, _, .null, .null, .null] [] _
  refine j_ald0 dX7_put_0 ?_
  refine j_ild1 dX7_put_1 ?_
  refine j_ild2 dX7_put_2 ?_
  refine j_cV2 dX7_put_3 kX7_refusedElement l7_288 rfl (by decide) rfl (Nat.le_of_ble_eq_true rfl) (Nat.le_of_ble_eq_true rfl) (by omega) (s_X7_refusedElement h hs) ?_
  rw [hr]
  refine j_ist5 dX7_put_6 rfl (by decide) ?_
  refine j_ild5 dX7_put_8 ?_
  refine j_ifge 16 dX7_put_10 (by decide) (fun c_10 => ?_) (fun c_10 => absurd (by decide) c_10)
  refine j_ald0 dX7_put_16 ?_
  refine j_getR (k := 6) (7) dX7_put_17 cX7_ok (Or.inl f7_55) rfl (by decide) (by decide) (by decide) rfl ?_
  refine j_ild1 dX7_put_20 ?_
  refine j_aald (n := i) (8 + i) dX7_put_21 (Or.inl rfl) (by decide) rfl hi (by decide) (fr_sh hi) ?_
  refine j_ast6 dX7_put_22 rfl (by decide) ?_
  refine j_ald6 dX7_put_24 ?_
  refine j_getR (k := 4) (55 + i) dX7_put_26 cX4_ok (Or.inr ⟨_, f7_94⟩) (ck_sh hi) (by omega) (by decide) (by decide) (fr_el hi) ?_
  refine j_ild2 dX7_put_29 ?_
  refine j_ald6 dX7_put_30 ?_
  refine j_getI (k := 2) dX7_put_32 cX4_ok (Or.inr ⟨_, f7_291⟩) (ck_sh hi) (by omega) (by decide) (by decide) ?_
  refine j_top (y := nI (sh i 2)) ((h i hi).2.2.1 h2) ?_
  refine j_lld3 dX7_put_35 ?_
  refine j_cS2 dX7_put_36 kX4_kept zX4_kept (Or.inl l7_294) (Nat.le_of_ble_eq_true rfl) (Nat.le_of_ble_eq_true rfl) (by omega) (s_X4_kept ((hs.2 i hi).2.2.1 h2)) ?_
  refine j_last (n := k) dX7_put_39 (ck_el hi) (by omega) rfl hk (by decide) ?_
  refine j_iconst (1) dX7_put_40 rfl ?_
  refine j_iret dX7_put_41 rfl ?_
  exact ⟨rfl, rfl⟩

def zL (S : St) (j p k : Nat) : St := (S.1, fun j' q => if j' = j ∧ p ≤ q ∧ q < p + k then 0 else S.2.1 j' q, S.2.2)
theorem zL_0 (S : St) (j p : Nat) : zL S j p 0 = S := by
  unfold zL
  refine Prod.ext rfl (Prod.ext ?_ rfl)
  funext j' q
  show (if _ then _ else _) = _
  rw [if_neg (by omega)]
theorem zL_step (S : St) (j p k : Nat) : uL (zL S j p k) j (p + k) 0 = zL S j p (k + 1) := by
  refine Prod.ext rfl (Prod.ext ?_ rfl)
  funext j' q
  rw [uL_at]
  show (if _ then _ else (if _ then _ else _)) = (if _ then _ else _)
  by_cases h1 : j' = j ∧ q = p + k
  · rw [if_pos h1, if_pos (by omega)]
  · rw [if_neg h1]
    by_cases h2 : j' = j ∧ p ≤ q ∧ q < p + k
    · rw [if_pos h2, if_pos (by omega)]
    · rw [if_neg h2, if_neg (by omega)]
def RowC (S : St) (i so ln : Nat) : St := zL (uI (uI (uI S (8 + i) 0 2) (8 + i) 2 (nI so)) (8 + i) 3 (nI ln)) (55 + i) 0 60
set_option maxRecDepth 20000 in
theorem lp_X4_becomeRow {w1 w2 : Int32} {i : Nat} (hi : i < 6) : ∀ (k : Nat) (c : Nat), 60 - c < k → (c ≤ 60) → J a mX4_becomeRow 0 (gm a fun r S' => r = none ∧ S' = zL S (55 + i) 0 60) 17 [.ref (a (8 + i)), .int w1, .int w2, .int (nI c)] [] (zL S (55 + i) 0 c) := by
  intro k
  induction k with
  | zero => intro c hk; exact absurd hk (Nat.not_lt_zero _)
  | succ k ih =>
    intro c hk hc
    refine j_ild3 dX4_becomeRow_17 ?_
    refine j_bipush (60) dX4_becomeRow_18 rfl ?_
    refine j_icmpge 36 dX4_becomeRow_20 (by decide) (fun c_20 => ?_) (fun c_20 => ?_)
    · have q_20 : c = 60 := by have := (nI_leI (a := 60) (b := c) (by decide) (by omega)).mp c_20; omega
      subst q_20
      refine j_vret dX4_becomeRow_36 rfl ?_
      exact ⟨rfl, rfl⟩
    have q_20 : c < 60 := Nat.not_le.mp (fun z => c_20 ((nI_leI (a := 60) (b := c) (by decide) (by omega)).mpr z))
    refine j_ald0 dX4_becomeRow_23 ?_
    refine j_getR (k := 4) (55 + i) dX4_becomeRow_24 cX4_ok (Or.inl f4_9) (ck_sh hi) (by omega) (by decide) (by decide) (fr_el hi) ?_
    refine j_ild3 dX4_becomeRow_27 ?_
    refine j_lconst (0) dX4_becomeRow_28 rfl ?_
    refine j_last (n := c) dX4_becomeRow_29 (ck_el hi) (by omega) rfl q_20 (by decide) ?_
    refine j_iinc3 (nI (c + 1)) dX4_becomeRow_30 (nI_1 c) rfl (by decide) ?_
    refine j_goto 17 dX4_becomeRow_33 (by decide) ?_
    refine j_S (S' := zL S (55 + i) 0 (c + 1)) (by have := zL_step S (55 + i) 0 c; rw [Nat.zero_add] at this; exact this) ?_
    exact ih (c + 1) (by omega) (by omega)

set_option maxRecDepth 20000 in
theorem s_X4_becomeRow {i so ln : Nat} (hi : i < 6) : Rt a mX4_becomeRow 0 [.ref (a (8 + i)), .int (nI so), .int (nI ln)] S none (RowC S i so ln) := by
  show J _ _ _ _ 0 [_, _, _, .null] [] _
  refine j_ald0 dX4_becomeRow_0 ?_
  refine j_iconst (2) dX4_becomeRow_1 rfl ?_
  refine j_putI (k := 0) dX4_becomeRow_2 cX4_ok (Or.inl f4_15) (ck_sh hi) (by omega) (by decide) (by decide) rfl ?_
  refine j_ald0 dX4_becomeRow_5 ?_
  refine j_ild1 dX4_becomeRow_6 ?_
  refine j_putI (k := 2) dX4_becomeRow_7 cX4_ok (Or.inl f4_19) (ck_sh hi) (by omega) (by decide) (by decide) rfl ?_
  refine j_ald0 dX4_becomeRow_10 ?_
  refine j_ild2 dX4_becomeRow_11 ?_
  refine j_putI (k := 3) dX4_becomeRow_12 cX4_ok (Or.inl f4_22) (ck_sh hi) (by omega) (by decide) (by decide) rfl ?_
  refine j_iconst (0) dX4_becomeRow_15 rfl ?_
  refine j_ist3 dX4_becomeRow_16 rfl (by decide) ?_
  refine j_S (S' := zL (uI (uI (uI S (8 + i) 0 2) (8 + i) 2 (nI so)) (8 + i) 3 (nI ln)) (55 + i) 0 0) (zL_0 _ _ _).symm ?_
  exact lp_X4_becomeRow hi 61 0 (by omega) (by omega)

set_option maxRecDepth 20000 in
theorem s_X7_row {i so ln : Nat} (hi : i < 6) (hs : so < 5) (hl : ln ≤ 60) : Rt a mX7_row 1 [.ref (a 0), .int (nI i), .int (nI so), .int (nI ln)] S (some (.int 1)) (RowC S i so ln) := by
  show J _ _ _ _ 0 [_, _, _, _] [] _
  refine j_ild1 dX7_row_0 ?_
  refine j_bipush (6) dX7_row_1 rfl ?_
  refine j_cS2 dX7_row_3 kX7_within zX7_within (Or.inl l7_72) (Nat.le_of_ble_eq_true rfl) (Nat.le_of_ble_eq_true rfl) (by omega) (s_X7_within) ?_
  refine j_ifeqB 23 dX7_row_6 (by decide) (fun c_6 => absurd c_6 (not_not_intro (nI_in' hi (by decide)))) (fun c_6 => ?_)
  refine j_ild2 dX7_row_9 ?_
  refine j_iconst (5) dX7_row_10 rfl ?_
  refine j_cS2 dX7_row_11 kX7_within zX7_within (Or.inl l7_72) (Nat.le_of_ble_eq_true rfl) (Nat.le_of_ble_eq_true rfl) (by omega) (s_X7_within) ?_
  refine j_ifeqB 23 dX7_row_14 (by decide) (fun c_14 => absurd c_14 (not_not_intro (nI_in' hs (by decide)))) (fun c_14 => ?_)
  refine j_ild3 dX7_row_17 ?_
  refine j_bipush (60) dX7_row_18 rfl ?_
  refine j_icmple 25 dX7_row_20 (by decide) (fun c_20 => ?_) (fun c_20 => absurd (nI_le hl (by decide)) c_20)
  refine j_ild3 dX7_row_25 ?_
  refine j_ifge 32 dX7_row_26 (by decide) (fun c_26 => ?_) (fun c_26 => absurd (nI_pos' (by omega)) c_26)
  refine j_ald0 dX7_row_32 ?_
  refine j_getR (k := 6) (7) dX7_row_33 cX7_ok (Or.inl f7_55) rfl (by decide) (by decide) (by decide) rfl ?_
  refine j_ild1 dX7_row_36 ?_
  refine j_aald (n := i) (8 + i) dX7_row_37 (Or.inl rfl) (by decide) rfl hi (by decide) (fr_sh hi) ?_
  refine j_ild2 dX7_row_38 ?_
  refine j_ild3 dX7_row_39 ?_
  refine j_vV2 dX7_row_40 kX4_becomeRow l7_284 (ck_sh hi) (by omega) rfl (Nat.le_of_ble_eq_true rfl) (Nat.le_of_ble_eq_true rfl) (by omega) (s_X4_becomeRow hi) ?_
  refine j_iconst (1) dX7_row_43 rfl ?_
  refine j_iret dX7_row_44 rfl ?_
  exact ⟨rfl, rfl⟩

end Shelves

