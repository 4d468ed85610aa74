/-! the reference's things -/
def rj (w : Nat) : Nat := [62, 63, 64, 66, 67, 68, 69, 70, 71, 61, 61, 72].getD w 0
def rk (w i : Nat) : Nat := if w = 9 then 12 else if w = 10 then 13 else i
def capN (w : Nat) : Nat := [8, 8, 8, 4, 4, 4, 4, 4, 6, 1, 1, 3].getD w 0
def TR (n : Nat) (v : Nat → Nat → Nat) (S : St) : Prop := S.1 61 1 = nI n ∧ n ≤ 8 ∧ (∀ w, w < 12 → ∀ i, i < capN w → S.1 (rj w) (rk w i) = nI (v w i)) ∧ ∀ w, w < 12 → ∀ i, i < 8 → v w i ≤ mostN w
def hj (f : Nat) : Nat := [74, 73, 75, 76].getD f 0
def HR (k u : Nat) (h : Nat → Nat → Nat) (S : St) : Prop := S.1 61 15 = nI k ∧ S.1 61 16 = nI u ∧ k + u ≤ 40 ∧ ∀ i, i < k + u → ∀ f, f < 4 → S.1 (hj f) i = nI (h i f)
theorem w12 {w : Nat} (h : w < 12) : w = 0 ∨ w = 1 ∨ w = 2 ∨ w = 3 ∨ w = 4 ∨ w = 5 ∨ w = 6 ∨ w = 7 ∨ w = 8 ∨ w = 9 ∨ w = 10 ∨ w = 11 := by omega
theorem f4 {f : Nat} (h : f < 4) : f = 0 ∨ f = 1 ∨ f = 2 ∨ f = 3 := by omega
theorem bi_iff {P Q : Prop} [Decidable P] [Decidable Q] (h : P ↔ Q) : bi P = bi Q := by unfold bi; by_cases q : P <;> simp [q, ← h]
theorem le_lt {x : Int32} {c : Nat} (hc : c + 1 < 2 ^ 31) : x ≤ nI c ↔ x < nI (c + 1) := by
  rw [Int32.le_iff_toInt_le, Int32.lt_iff_toInt_lt, nI_toInt (by omega), nI_toInt hc]; omega
theorem capN_le {w : Nat} (h : w < 12) : capN w ≤ 8 := by rcases w12 h with rfl | rfl | rfl | rfl | rfl | rfl | rfl | rfl | rfl | rfl | rfl | rfl <;> decide
theorem numN_cap {n w : Nat} (hn : n ≤ 8) (h : w < 12) : numN n w ≤ capN w := by
  rcases w12 h with rfl | rfl | rfl | rfl | rfl | rfl | rfl | rfl | rfl | rfl | rfl | rfl <;> simp [numN, capN] <;> omega
section RThings
variable {a : Nat → Nat} {S : St} {n k u : Nat} {v h : Nat → Nat → Nat}
theorem TR.sum (h : TR n v S) {k : Nat} (hk : k ≤ 8) : sumN (v 0) k ≤ 72 := by
  have := sumN_le (f := v 0) (b := 9) k (fun i hi => h.2.2.2 0 (by decide) i (by omega))
  omega
theorem TR.kp {rs : List Nat} {S' : St} (h : TR n v S) (hk : Kp rs S S') (hr : 11 ∉ rs) : TR n v S' := by
  refine ⟨by rw [hk.i (show rg 61 1 ∉ rs from hr)]; exact h.1, h.2.1, fun w hw i hi => ?_, h.2.2.2⟩
  rw [hk.i, h.2.2.1 w hw i hi]
  rcases w12 hw with rfl | rfl | rfl | rfl | rfl | rfl | rfl | rfl | rfl | rfl | rfl | rfl <;> exact hr
theorem HR.kp {rs : List Nat} {S' : St} (hh : HR k u h S) (hk : Kp rs S S') (hr : 11 ∉ rs) : HR k u h S' := by
  refine ⟨by rw [hk.i (show rg 61 15 ∉ rs from hr)]; exact hh.1, by rw [hk.i (show rg 61 16 ∉ rs from hr)]; exact hh.2.1, hh.2.2.1, fun i hi f hf => ?_⟩
  rw [hk.i, hh.2.2.2 i hi f hf]
  rcases f4 hf with rfl | rfl | rfl | rfl <;> exact hr
theorem TR.many (h : TR n v S) {i : Nat} (hi : i < 8) : S.1 62 i = nI (v 0 i) := h.2.2.1 0 (by decide) i hi
theorem TR.first (h : TR n v S) {i : Nat} (hi : i < 8) : S.1 63 i = nI (v 1 i) := h.2.2.1 1 (by decide) i hi
theorem TR.second (h : TR n v S) {i : Nat} (hi : i < 8) : S.1 64 i = nI (v 2 i) := h.2.2.1 2 (by decide) i hi
theorem TR.ill (h : TR n v S) : S.1 61 12 = nI (v 9 0) := h.2.2.1 9 (by decide) 0 (by decide)
theorem TR.so (h : TR n v S) : S.1 61 13 = nI (v 10 0) := h.2.2.1 10 (by decide) 0 (by decide)

set_option maxRecDepth 20000 in
theorem s_X8_in {x l t : Int32} : Rt a mX8_in 0 [.int x, .int l, .int t] S (some (.int (bi (l ≤ x ∧ x ≤ t)))) S := by
  show J _ _ _ _ 0 [_, _, _] [] _
  refine j_ild0 dX8_in_0 ?_
  refine j_ild1 dX8_in_1 ?_
  refine j_icmplt 14 dX8_in_2 (by decide) (fun c_2 => ?_) (fun c_2 => ?_)
  · refine j_iconst (0) dX8_in_14 rfl ?_
    refine j_zret dX8_in_15 rfl (by decide) ?_
    exact ⟨by rw [bi_f (fun q => absurd c_2 (Int32.not_lt.mpr q.1))], rfl⟩
  refine j_ild0 dX8_in_5 ?_
  refine j_ild2 dX8_in_6 ?_
  refine j_icmpgt 14 dX8_in_7 (by decide) (fun c_7 => ?_) (fun c_7 => ?_)
  · refine j_iconst (0) dX8_in_14 rfl ?_
    refine j_zret dX8_in_15 rfl (by decide) ?_
    exact ⟨by rw [bi_f (fun q => absurd c_7 (Int32.not_lt.mpr q.2))], rfl⟩
  refine j_iconst (1) dX8_in_10 rfl ?_
  refine j_goto 15 dX8_in_11 (by decide) ?_
  refine j_zret dX8_in_15 rfl (by decide) ?_
  exact ⟨by rw [bi_t ⟨Int32.not_lt.mp c_2, Int32.not_lt.mp c_7⟩], rfl⟩

set_option maxRecDepth 20000 in
theorem s_X8_isCard {x : Int32} (hn : S.1 61 1 = nI n) (h8 : n ≤ 8) : Rt a mX8_isCard 1 [.ref (a 61), .int x] S (some (.int (bi (0 ≤ x ∧ x < nI n)))) S := by
  show J _ _ _ _ 0 [_, _] [] _
  refine j_ild1 dX8_isCard_0 ?_
  refine j_iconst (0) dX8_isCard_1 rfl ?_
  refine j_ald0 dX8_isCard_2 ?_
  refine j_getI (k := 1) dX8_isCard_3 cX8_ok (Or.inl f8_145) rfl (by decide) (by decide) (by decide) ?_
  refine j_top (y := nI n) (hn) ?_
  refine j_iconst (1) dX8_isCard_6 rfl ?_
  refine j_isub dX8_isCard_7 ?_
  refine j_cS3 dX8_isCard_8 kX8_in zX8_in (Or.inl l8_148) (Nat.le_of_ble_eq_true rfl) (Nat.le_of_ble_eq_true rfl) (by omega) (s_X8_in) ?_
  refine j_zret dX8_isCard_11 rfl (bi_01 _) ?_
  exact ⟨by
    rw [bi_iff (P := 0 ≤ x ∧ x ≤ nI n - 1) (Q := 0 ≤ x ∧ x < nI n)]
    rcases Nat.eq_zero_or_pos n with rfl | q
    · rw [show nI 0 - 1 = -1 from rfl, show nI 0 = 0 from rfl]
      constructor
      · intro z; exact absurd z.2 (by rw [Int32.not_le]; exact Int32.lt_of_lt_of_le (by decide) z.1)
      · intro z; exact absurd z.2 (Int32.not_lt.mpr z.1)
    · obtain ⟨c, rfl⟩ : ∃ c, n = c + 1 := ⟨n - 1, by omega⟩
      rw [nI_pred, le_lt (by omega)], rfl⟩

set_option maxRecDepth 20000 in
theorem s_X8_isColour {x : Int32} : Rt a mX8_isColour 1 [.int x] S (some (.int (bi (0 ≤ x ∧ x < 6)))) S := by
  show J _ _ _ _ 0 [_] [] _
  refine j_ild0 dX8_isColour_0 ?_
  refine j_iconst (0) dX8_isColour_1 rfl ?_
  refine j_iconst (5) dX8_isColour_2 rfl ?_
  refine j_cS3 dX8_isColour_3 kX8_in zX8_in (Or.inl l8_148) (Nat.le_of_ble_eq_true rfl) (Nat.le_of_ble_eq_true rfl) (by omega) (s_X8_in) ?_
  refine j_zret dX8_isColour_6 rfl (bi_01 _) ?_
  exact ⟨by rw [bi_iff (P := 0 ≤ x ∧ x ≤ 5) (Q := 0 ≤ x ∧ x < 6) (and_congr Iff.rfl (le_lt (c := 5) (by decide)))], rfl⟩

set_option maxRecDepth 20000 in
theorem s_X8_isCardSo {x y z : Int32} : Rt a mX8_isCardSo 2 [.int x, .int y, .int z] S (some (.int (bi ((0 ≤ x ∧ x < 6) ∧ (0 ≤ y ∧ y < 6) ∧ (0 ≤ z ∧ z < 10))))) S := by
  show J _ _ _ _ 0 [_, _, _] [] _
  refine j_ild0 dX8_isCardSo_0 ?_
  refine j_cS1 dX8_isCardSo_1 kX8_isColour zX8_isColour (Or.inl l8_152) (Nat.le_of_ble_eq_true rfl) (Nat.le_of_ble_eq_true rfl) (by omega) (s_X8_isColour) ?_
  refine j_ifeqB 28 dX8_isCardSo_4 (by decide) (fun c_4 => ?_) (fun c_4 => ?_)
  · refine j_iconst (0) dX8_isCardSo_28 rfl ?_
    refine j_zret dX8_isCardSo_29 rfl (by decide) ?_
    exact ⟨by rw [bi_f (fun q => c_4 q.1)], rfl⟩
  refine j_ild1 dX8_isCardSo_7 ?_
  refine j_cS1 dX8_isCardSo_8 kX8_isColour zX8_isColour (Or.inl l8_152) (Nat.le_of_ble_eq_true rfl) (Nat.le_of_ble_eq_true rfl) (by omega) (s_X8_isColour) ?_
  refine j_ifeqB 28 dX8_isCardSo_11 (by decide) (fun c_11 => ?_) (fun c_11 => ?_)
  · refine j_iconst (0) dX8_isCardSo_28 rfl ?_
    refine j_zret dX8_isCardSo_29 rfl (by decide) ?_
    exact ⟨by rw [bi_f (fun q => c_11 q.2.1)], rfl⟩
  refine j_ild2 dX8_isCardSo_14 ?_
  refine j_iconst (0) dX8_isCardSo_15 rfl ?_
  refine j_bipush (9) dX8_isCardSo_16 rfl ?_
  refine j_cS3 dX8_isCardSo_18 kX8_in zX8_in (Or.inl l8_148) (Nat.le_of_ble_eq_true rfl) (Nat.le_of_ble_eq_true rfl) (by omega) (s_X8_in) ?_
  refine j_ifeqB 28 dX8_isCardSo_21 (by decide) (fun c_21 => ?_) (fun c_21 => ?_)
  · refine j_iconst (0) dX8_isCardSo_28 rfl ?_
    refine j_zret dX8_isCardSo_29 rfl (by decide) ?_
    exact ⟨by rw [bi_f (fun q => c_21 ⟨q.2.2.1, (le_lt (c := 9) (by decide)).mpr q.2.2.2⟩)], rfl⟩
  refine j_iconst (1) dX8_isCardSo_24 rfl ?_
  refine j_goto 29 dX8_isCardSo_25 (by decide) ?_
  refine j_zret dX8_isCardSo_29 rfl (by decide) ?_
  exact ⟨by rw [bi_t ⟨c_4, c_11, c_21.1, (le_lt (c := 9) (by decide)).mp c_21.2⟩], rfl⟩

set_option maxRecDepth 20000 in
theorem s_X8_addCard {x y z : Int32} (hn : S.1 61 1 = nI n) (h8 : n < 8) : Rt a mX8_addCard 0 [.ref (a 61), .int x, .int y, .int z] S (some (.int (nI n))) (uI (uI (uI (uI (uI S 63 n x) 64 n y) 62 n z) 65 n 0) 61 1 (nI (n + 1))) := by
  show J _ _ _ _ 0 [_, _, _, _] [] _
  refine j_ald0 dX8_addCard_0 ?_
  refine j_getR (k := 3) (63) dX8_addCard_1 cX8_ok (Or.inl f8_15) rfl (by decide) (by decide) (by decide) rfl ?_
  refine j_ald0 dX8_addCard_4 ?_
  refine j_getI (k := 1) dX8_addCard_5 cX8_ok (Or.inl f8_145) rfl (by decide) (by decide) (by decide) ?_
  refine j_top (y := nI n) (hn) ?_
  refine j_ild1 dX8_addCard_8 ?_
  refine j_iast dX8_addCard_9 rfl (by decide) rfl (by omega) (by decide) ?_
  refine j_ald0 dX8_addCard_10 ?_
  refine j_getR (k := 4) (64) dX8_addCard_11 cX8_ok (Or.inl f8_18) rfl (by decide) (by decide) (by decide) rfl ?_
  refine j_ald0 dX8_addCard_14 ?_
  refine j_getI (k := 1) dX8_addCard_15 cX8_ok (Or.inl f8_145) rfl (by decide) (by decide) (by decide) ?_
  refine j_top (y := nI n) (by simp [uI_at, hn]) ?_
  refine j_ild2 dX8_addCard_18 ?_
  refine j_iast dX8_addCard_19 rfl (by decide) rfl (by omega) (by decide) ?_
  refine j_ald0 dX8_addCard_20 ?_
  refine j_getR (k := 2) (62) dX8_addCard_21 cX8_ok (Or.inl f8_9) rfl (by decide) (by decide) (by decide) rfl ?_
  refine j_ald0 dX8_addCard_24 ?_
  refine j_getI (k := 1) dX8_addCard_25 cX8_ok (Or.inl f8_145) rfl (by decide) (by decide) (by decide) ?_
  refine j_top (y := nI n) (by simp [uI_at, hn]) ?_
  refine j_ild3 dX8_addCard_28 ?_
  refine j_iast dX8_addCard_29 rfl (by decide) rfl (by omega) (by decide) ?_
  refine j_ald0 dX8_addCard_30 ?_
  refine j_getR (k := 5) (65) dX8_addCard_31 cX8_ok (Or.inl f8_21) rfl (by decide) (by decide) (by decide) rfl ?_
  refine j_ald0 dX8_addCard_34 ?_
  refine j_getI (k := 1) dX8_addCard_35 cX8_ok (Or.inl f8_145) rfl (by decide) (by decide) (by decide) ?_
  refine j_top (y := nI n) (by simp [uI_at, hn]) ?_
  refine j_iconst (0) dX8_addCard_38 rfl ?_
  refine j_iast dX8_addCard_39 rfl (by decide) rfl (by omega) (by decide) ?_
  refine j_ald0 dX8_addCard_40 ?_
  refine j_dup dX8_addCard_41 rfl ?_
  refine j_getI (k := 1) dX8_addCard_42 cX8_ok (Or.inl f8_145) rfl (by decide) (by decide) (by decide) ?_
  refine j_top (y := nI n) (by simp [uI_at, hn]) ?_
  refine j_iconst (1) dX8_addCard_45 rfl ?_
  refine j_iadd dX8_addCard_46 ?_
  refine j_top (y := nI (n + 1)) (nI_1 n) ?_
  refine j_putI (k := 1) dX8_addCard_47 cX8_ok (Or.inl f8_145) rfl (by decide) (by decide) (by decide) rfl ?_
  refine j_ald0 dX8_addCard_50 ?_
  refine j_getI (k := 1) dX8_addCard_51 cX8_ok (Or.inl f8_145) rfl (by decide) (by decide) (by decide) ?_
  refine j_top (y := nI (n + 1)) (by simp [uI_at]) ?_
  refine j_iconst (1) dX8_addCard_54 rfl ?_
  refine j_isub dX8_addCard_55 ?_
  refine j_top (y := nI n) (by exact nI_pred n) ?_
  refine j_iret dX8_addCard_56 rfl ?_
  exact ⟨rfl, rfl⟩

set_option maxRecDepth 20000 in
theorem lp_X8_allCards (h : TR n v S) : ∀ (k : Nat) (i : Nat), n - i < k → (i ≤ n) → J a mX8_allCards 0 (gm a fun r S' => r = some (.int (nI (sumN (v 0) n))) ∧ S' = S) 4 [.ref (a 61), .int (nI (sumN (v 0) i)), .int (nI i)] [] S := by
  intro k
  induction k with
  | zero => intro i hk; exact absurd hk (Nat.not_lt_zero _)
  | succ k ih =>
    intro i hk hi
    have h8 := h.2.1
    refine j_ild2 dX8_allCards_4 ?_
    refine j_ald0 dX8_allCards_5 ?_
    refine j_getI (k := 1) dX8_allCards_6 cX8_ok (Or.inl f8_145) rfl (by decide) (by decide) (by decide) ?_
    refine j_top (y := nI n) (h.1) ?_
    refine j_icmpge 27 dX8_allCards_9 (by decide) (fun c_9 => ?_) (fun c_9 => ?_)
    · have q_9 : n ≤ i := (nI_leI (by omega) (by omega)).mp c_9
      have q2 : i = n := by omega
      subst q2
      refine j_ild1 dX8_allCards_27 ?_
      refine j_iret dX8_allCards_28 rfl ?_
      exact ⟨rfl, rfl⟩
    have q_9 : i < n := Nat.not_le.mp (fun z => c_9 ((nI_leI (by omega) (by omega)).mpr z))
    refine j_ild1 dX8_allCards_12 ?_
    refine j_ald0 dX8_allCards_13 ?_
    refine j_getR (k := 2) (62) dX8_allCards_14 cX8_ok (Or.inl f8_9) rfl (by decide) (by decide) (by decide) rfl ?_
    refine j_ild2 dX8_allCards_17 ?_
    refine j_iald dX8_allCards_18 rfl (by decide) rfl (by omega) (by decide) ?_
    refine j_top (y := nI (v 0 i)) (h.many (by omega)) ?_
    refine j_iadd dX8_allCards_19 ?_
    refine j_top (y := nI (sumN (v 0) (i + 1))) (nI_add _ _) ?_
    refine j_ist1 dX8_allCards_20 rfl (by decide) ?_
    refine j_iinc2 (nI (i + 1)) dX8_allCards_21 (nI_1 i) rfl (by decide) ?_
    refine j_goto 4 dX8_allCards_24 (by decide) ?_
    exact ih (i + 1) (by omega) (by omega)

set_option maxRecDepth 20000 in
theorem s_X8_allCards (h : TR n v S) : Rt a mX8_allCards 0 [.ref (a 61)] S (some (.int (nI (sumN (v 0) n)))) S := by
  show J _ _ _ _ 0 [_, .null, .null] [] _
  refine j_iconst (0) dX8_allCards_0 rfl ?_
  refine j_ist1 dX8_allCards_1 rfl (by decide) ?_
  refine j_iconst (0) dX8_allCards_2 rfl ?_
  refine j_ist2 dX8_allCards_3 rfl (by decide) ?_
  exact lp_X8_allCards h (n + 1) 0 (by omega) (by omega)

set_option maxRecDepth 20000 in
theorem s_X8_valueAt {w i : Nat} (h : TR n v S) (hw : w < 12) (hi : i < capN w) : Rt a mX8_valueAt 0 [.ref (a 61), .int (nI w), .int (nI i)] S (some (.int (nI (v w i)))) S := by
  show J _ _ _ _ 0 [_, _, _] [] _
  refine j_ild1 dX8_valueAt_0 ?_
  refine j_topi (fun y_1 e_1 => ?_)
  by_cases h_1_0 : y_1 = 0
  · rw [h_1_0] at e_1 ⊢
    refine j_tblIn (59) 60 dX8_valueAt_1 (by decide) (by decide) rfl (by decide) ?_
    have e : w = 0 := (nI_eq (a := w) (b := 0) (by omega) (by decide)).mp e_1.symm
    subst e
    refine j_ald0 dX8_valueAt_60 ?_
    refine j_getR (k := 2) (62) dX8_valueAt_61 cX8_ok (Or.inl f8_9) rfl (by decide) (by decide) (by decide) rfl ?_
    refine j_ild2 dX8_valueAt_64 ?_
    refine j_iald dX8_valueAt_65 rfl (by decide) rfl hi (by decide) ?_
    refine j_iret dX8_valueAt_66 rfl ?_
    exact ⟨by rw [show S.1 62 i = nI (v 0 i) from h.2.2.1 0 (by decide) i hi], rfl⟩
  by_cases h_1_1 : y_1 = 1
  · rw [h_1_1] at e_1 ⊢
    refine j_tblIn (66) 67 dX8_valueAt_1 (by decide) (by decide) rfl (by decide) ?_
    have e : w = 1 := (nI_eq (a := w) (b := 1) (by omega) (by decide)).mp e_1.symm
    subst e
    refine j_ald0 dX8_valueAt_67 ?_
    refine j_getR (k := 3) (63) dX8_valueAt_68 cX8_ok (Or.inl f8_15) rfl (by decide) (by decide) (by decide) rfl ?_
    refine j_ild2 dX8_valueAt_71 ?_
    refine j_iald dX8_valueAt_72 rfl (by decide) rfl hi (by decide) ?_
    refine j_iret dX8_valueAt_73 rfl ?_
    exact ⟨by rw [show S.1 63 i = nI (v 1 i) from h.2.2.1 1 (by decide) i hi], rfl⟩
  by_cases h_1_2 : y_1 = 2
  · rw [h_1_2] at e_1 ⊢
    refine j_tblIn (73) 74 dX8_valueAt_1 (by decide) (by decide) rfl (by decide) ?_
    have e : w = 2 := (nI_eq (a := w) (b := 2) (by omega) (by decide)).mp e_1.symm
    subst e
    refine j_ald0 dX8_valueAt_74 ?_
    refine j_getR (k := 4) (64) dX8_valueAt_75 cX8_ok (Or.inl f8_18) rfl (by decide) (by decide) (by decide) rfl ?_
    refine j_ild2 dX8_valueAt_78 ?_
    refine j_iald dX8_valueAt_79 rfl (by decide) rfl hi (by decide) ?_
    refine j_iret dX8_valueAt_80 rfl ?_
    exact ⟨by rw [show S.1 64 i = nI (v 2 i) from h.2.2.1 2 (by decide) i hi], rfl⟩
  by_cases h_1_3 : y_1 = 3
  · rw [h_1_3] at e_1 ⊢
    refine j_tblIn (80) 81 dX8_valueAt_1 (by decide) (by decide) rfl (by decide) ?_
    have e : w = 3 := (nI_eq (a := w) (b := 3) (by omega) (by decide)).mp e_1.symm
    subst e
    refine j_ald0 dX8_valueAt_81 ?_
    refine j_getR (k := 6) (66) dX8_valueAt_82 cX8_ok (Or.inl f8_24) rfl (by decide) (by decide) (by decide) rfl ?_
    refine j_ild2 dX8_valueAt_85 ?_
    refine j_iald dX8_valueAt_86 rfl (by decide) rfl hi (by decide) ?_
    refine j_iret dX8_valueAt_87 rfl ?_
    exact ⟨by rw [show S.1 66 i = nI (v 3 i) from h.2.2.1 3 (by decide) i hi], rfl⟩
  by_cases h_1_4 : y_1 = 4
  · rw [h_1_4] at e_1 ⊢
    refine j_tblIn (87) 88 dX8_valueAt_1 (by decide) (by decide) rfl (by decide) ?_
    have e : w = 4 := (nI_eq (a := w) (b := 4) (by omega) (by decide)).mp e_1.symm
    subst e
    refine j_ald0 dX8_valueAt_88 ?_
    refine j_getR (k := 7) (67) dX8_valueAt_89 cX8_ok (Or.inl f8_27) rfl (by decide) (by decide) (by decide) rfl ?_
    refine j_ild2 dX8_valueAt_92 ?_
    refine j_iald dX8_valueAt_93 rfl (by decide) rfl hi (by decide) ?_
    refine j_iret dX8_valueAt_94 rfl ?_
    exact ⟨by rw [show S.1 67 i = nI (v 4 i) from h.2.2.1 4 (by decide) i hi], rfl⟩
  by_cases h_1_5 : y_1 = 5
  · rw [h_1_5] at e_1 ⊢
    refine j_tblIn (94) 95 dX8_valueAt_1 (by decide) (by decide) rfl (by decide) ?_
    have e : w = 5 := (nI_eq (a := w) (b := 5) (by omega) (by decide)).mp e_1.symm
    subst e
    refine j_ald0 dX8_valueAt_95 ?_
    refine j_getR (k := 8) (68) dX8_valueAt_96 cX8_ok (Or.inl f8_30) rfl (by decide) (by decide) (by decide) rfl ?_
    refine j_ild2 dX8_valueAt_99 ?_
    refine j_iald dX8_valueAt_100 rfl (by decide) rfl hi (by decide) ?_
    refine j_iret dX8_valueAt_101 rfl ?_
    exact ⟨by rw [show S.1 68 i = nI (v 5 i) from h.2.2.1 5 (by decide) i hi], rfl⟩
  by_cases h_1_6 : y_1 = 6
  · rw [h_1_6] at e_1 ⊢
    refine j_tblIn (101) 102 dX8_valueAt_1 (by decide) (by decide) rfl (by decide) ?_
    have e : w = 6 := (nI_eq (a := w) (b := 6) (by omega) (by decide)).mp e_1.symm
    subst e
    refine j_ald0 dX8_valueAt_102 ?_
    refine j_getR (k := 9) (69) dX8_valueAt_103 cX8_ok (Or.inl f8_33) rfl (by decide) (by decide) (by decide) rfl ?_
    refine j_ild2 dX8_valueAt_106 ?_
    refine j_iald dX8_valueAt_107 rfl (by decide) rfl hi (by decide) ?_
    refine j_iret dX8_valueAt_108 rfl ?_
    exact ⟨by rw [show S.1 69 i = nI (v 6 i) from h.2.2.1 6 (by decide) i hi], rfl⟩
  by_cases h_1_7 : y_1 = 7
  · rw [h_1_7] at e_1 ⊢
    refine j_tblIn (108) 109 dX8_valueAt_1 (by decide) (by decide) rfl (by decide) ?_
    have e : w = 7 := (nI_eq (a := w) (b := 7) (by omega) (by decide)).mp e_1.symm
    subst e
    refine j_ald0 dX8_valueAt_109 ?_
    refine j_getR (k := 10) (70) dX8_valueAt_110 cX8_ok (Or.inl f8_36) rfl (by decide) (by decide) (by decide) rfl ?_
    refine j_ild2 dX8_valueAt_113 ?_
    refine j_iald dX8_valueAt_114 rfl (by decide) rfl hi (by decide) ?_
    refine j_iret dX8_valueAt_115 rfl ?_
    exact ⟨by rw [show S.1 70 i = nI (v 7 i) from h.2.2.1 7 (by decide) i hi], rfl⟩
  by_cases h_1_8 : y_1 = 8
  · rw [h_1_8] at e_1 ⊢
    refine j_tblIn (115) 116 dX8_valueAt_1 (by decide) (by decide) rfl (by decide) ?_
    have e : w = 8 := (nI_eq (a := w) (b := 8) (by omega) (by decide)).mp e_1.symm
    subst e
    refine j_ald0 dX8_valueAt_116 ?_
    refine j_getR (k := 11) (71) dX8_valueAt_117 cX8_ok (Or.inl f8_39) rfl (by decide) (by decide) (by decide) rfl ?_
    refine j_ild2 dX8_valueAt_120 ?_
    refine j_iald dX8_valueAt_121 rfl (by decide) rfl hi (by decide) ?_
    refine j_iret dX8_valueAt_122 rfl ?_
    exact ⟨by rw [show S.1 71 i = nI (v 8 i) from h.2.2.1 8 (by decide) i hi], rfl⟩
  by_cases h_1_9 : y_1 = 9
  · rw [h_1_9] at e_1 ⊢
    refine j_tblIn (122) 123 dX8_valueAt_1 (by decide) (by decide) rfl (by decide) ?_
    have e : w = 9 := (nI_eq (a := w) (b := 9) (by omega) (by decide)).mp e_1.symm
    subst e
    refine j_ald0 dX8_valueAt_123 ?_
    refine j_getI (k := 12) dX8_valueAt_124 cX8_ok (Or.inl f8_42) rfl (by decide) (by decide) (by decide) ?_
    refine j_iret dX8_valueAt_127 rfl ?_
    exact ⟨by rw [show i = 0 from Nat.lt_one_iff.mp hi]; rw [h.ill], rfl⟩
  by_cases h_1_10 : y_1 = 10
  · rw [h_1_10] at e_1 ⊢
    refine j_tblIn (127) 128 dX8_valueAt_1 (by decide) (by decide) rfl (by decide) ?_
    have e : w = 10 := (nI_eq (a := w) (b := 10) (by omega) (by decide)).mp e_1.symm
    subst e
    refine j_ald0 dX8_valueAt_128 ?_
    refine j_getI (k := 13) dX8_valueAt_129 cX8_ok (Or.inl f8_46) rfl (by decide) (by decide) (by decide) ?_
    refine j_iret dX8_valueAt_132 rfl ?_
    exact ⟨by rw [show i = 0 from Nat.lt_one_iff.mp hi]; rw [h.so], rfl⟩
  refine j_tblOut 133 dX8_valueAt_1 (tbl_out (fun k h1 h2 => by
    have hk : k = 0 ∨ k = 1 ∨ k = 2 ∨ k = 3 ∨ k = 4 ∨ k = 5 ∨ k = 6 ∨ k = 7 ∨ k = 8 ∨ k = 9 ∨ k = 10 := by omega
    rcases hk with rfl | rfl | rfl | rfl | rfl | rfl | rfl | rfl | rfl | rfl | rfl
    · exact h_1_0
    · exact h_1_1
    · exact h_1_2
    · exact h_1_3
    · exact h_1_4
    · exact h_1_5
    · exact h_1_6
    · exact h_1_7
    · exact h_1_8
    · exact h_1_9
    · exact h_1_10)) (by decide) ?_
  refine j_ald0 dX8_valueAt_133 ?_
  refine j_getR (k := 14) (72) dX8_valueAt_134 cX8_ok (Or.inl f8_49) rfl (by decide) (by decide) (by decide) rfl ?_
  refine j_ild2 dX8_valueAt_137 ?_
  have e : w = 11 := by
    rcases w12 hw with rfl | rfl | rfl | rfl | rfl | rfl | rfl | rfl | rfl | rfl | rfl | rfl <;> first | rfl | (exfalso; revert e_1; simp_all; done) | (exfalso; first | exact h_1_0 e_1 | exact h_1_1 e_1 | exact h_1_2 e_1 | exact h_1_3 e_1 | exact h_1_4 e_1 | exact h_1_5 e_1 | exact h_1_6 e_1 | exact h_1_7 e_1 | exact h_1_8 e_1 | exact h_1_9 e_1 | exact h_1_10 e_1)
  subst e
  refine j_iald dX8_valueAt_138 rfl (by decide) rfl hi (by decide) ?_
  refine j_iret dX8_valueAt_139 rfl ?_
  exact ⟨by rw [show S.1 72 i = nI (v 11 i) from h.2.2.1 11 (by decide) i hi], rfl⟩

end RThings
