/-! OtherSide.within, Things -/
/-- the sum of the first n -/
def sumN (f : Nat → Nat) : Nat → Nat
  | 0 => 0
  | n + 1 => sumN f n + f n
theorem sumN_le {f : Nat → Nat} {b : Nat} : ∀ n, (∀ k, k < n → f k ≤ b) → sumN f n ≤ n * b
  | 0, _ => by simp [sumN]
  | n + 1, h => by
    have h1 := sumN_le n (fun k hk => h k (by omega))
    have h2 := h n (by omega)
    rw [sumN, Nat.succ_mul]
    omega
theorem sumN_congr {f h : Nat → Nat} : ∀ {n}, (∀ k, k < n → f k = h k) → sumN f n = sumN h n
  | 0, _ => rfl
  | n + 1, e => by rw [sumN, sumN, sumN_congr (fun k hk => e k (by omega)), e n (by omega)]
def mostN (w : Nat) : Nat := [9, 5, 5, 9, 9, 12, 12, 99, 12, 99, 12, 12].getD w 0
theorem mostN_le (w : Nat) : mostN w ≤ 99 := by
  rcases Nat.lt_or_ge w 12 with h | h
  · rcases (show w = 0 ∨ w = 1 ∨ w = 2 ∨ w = 3 ∨ w = 4 ∨ w = 5 ∨ w = 6 ∨ w = 7 ∨ w = 8 ∨ w = 9 ∨ w = 10 ∨ w = 11 by omega) with rfl | rfl | rfl | rfl | rfl | rfl | rfl | rfl | rfl | rfl | rfl | rfl <;> decide
  · unfold mostN; rw [List.getD_eq_default _ _ (by simpa using h)]; omega
/-- the cards and all that mend() mends, in the class's cells -/
def TC (n : Nat) (v : Nat → Nat → Nat) (S : St) : Prop := S.1 1 1 = nI n ∧ n ≤ 8 ∧ (∀ w, w < 12 → ∀ i, i < 8 → S.1 (16 + w) i = nI (v w i)) ∧ ∀ w, w < 12 → ∀ i, i < 8 → v w i ≤ mostN w
section Things
variable {a : Nat → Nat} {S : St} {n : Nat} {v : Nat → Nat → Nat}
theorem TC.le99 (h : TC n v S) {w i : Nat} (hw : w < 12) (hi : i < 8) : v w i ≤ 99 := Nat.le_trans (h.2.2.2 w hw i hi) (mostN_le w)
theorem TC.many9 (h : TC n v S) {i : Nat} (hi : i < 8) : v 0 i ≤ 9 := h.2.2.2 0 (by decide) i hi
theorem TC.sum (h : TC n v S) {k : Nat} (hk : k ≤ 8) : sumN (v 0) k ≤ 72 := by
  have := sumN_le (f := v 0) (b := 9) k (fun i hi => h.many9 (by omega))
  omega

set_option maxRecDepth 20000 in
theorem s_X7_within {i b : Int32} : Rt a mX7_within 0 [.int i, .int b] S (some (.int (bi (0 ≤ i ∧ i < b)))) S := by
  show J _ _ _ _ 0 [_, _] [] _
  refine j_ild0 dX7_within_0 ?_
  refine j_iflt 13 dX7_within_1 (by decide) (fun c_1 => ?_) (fun c_1 => ?_)
  · refine j_iconst (0) dX7_within_13 rfl ?_
    refine j_zret dX7_within_14 rfl (by decide) ?_
    exact ⟨by congr 2; simp_all [bi, Int32.not_lt, Int32.not_le], rfl⟩
  refine j_ild0 dX7_within_4 ?_
  refine j_ild1 dX7_within_5 ?_
  refine j_icmpge 13 dX7_within_6 (by decide) (fun c_6 => ?_) (fun c_6 => ?_)
  · refine j_iconst (0) dX7_within_13 rfl ?_
    refine j_zret dX7_within_14 rfl (by decide) ?_
    exact ⟨by congr 2; simp_all [bi, Int32.not_lt, Int32.not_le], rfl⟩
  refine j_iconst (1) dX7_within_9 rfl ?_
  refine j_goto 14 dX7_within_10 (by decide) ?_
  refine j_zret dX7_within_14 rfl (by decide) ?_
  exact ⟨by congr 2; simp_all [bi, Int32.not_lt, Int32.not_le], rfl⟩

set_option maxRecDepth 20000 in
theorem s_X6_mayBeCard {x y z : Int32} : Rt a mX6_mayBeCard 1 [.int x, .int y, .int z] S (some (.int (bi ((0 ≤ x ∧ x < 6) ∧ (0 ≤ y ∧ y < 6) ∧ (0 ≤ z ∧ z < 10))))) S := by
  show J _ _ _ _ 0 [_, _, _] [] _
  refine j_ild0 dX6_mayBeCard_0 ?_
  refine j_bipush (6) dX6_mayBeCard_1 rfl ?_
  refine j_cS2 dX6_mayBeCard_3 (Or.inr ⟨_, l6_35⟩) kX7_within zX7_within (Nat.le_of_ble_eq_true rfl) (Nat.le_of_ble_eq_true rfl) (by omega) (s_X7_within) ?_
  refine j_ifeqB 36 dX6_mayBeCard_6 (by decide) (fun c_6 => ?_) (fun c_6 => ?_)
  · refine j_iconst (0) dX6_mayBeCard_36 rfl ?_
    refine j_zret dX6_mayBeCard_37 rfl (by decide) ?_
    exact ⟨by congr 2; simp_all [bi], rfl⟩
  refine j_ild1 dX6_mayBeCard_9 ?_
  refine j_bipush (6) dX6_mayBeCard_10 rfl ?_
  refine j_cS2 dX6_mayBeCard_12 (Or.inr ⟨_, l6_35⟩) kX7_within zX7_within (Nat.le_of_ble_eq_true rfl) (Nat.le_of_ble_eq_true rfl) (by omega) (s_X7_within) ?_
  refine j_ifeqB 36 dX6_mayBeCard_15 (by decide) (fun c_15 => ?_) (fun c_15 => ?_)
  · refine j_iconst (0) dX6_mayBeCard_36 rfl ?_
    refine j_zret dX6_mayBeCard_37 rfl (by decide) ?_
    exact ⟨by congr 2; simp_all [bi], rfl⟩
  refine j_ild2 dX6_mayBeCard_18 ?_
  refine j_gets (i := 1) dX6_mayBeCard_19 rfl (Or.inl f6_39) ?_
  refine j_iconst (0) dX6_mayBeCard_22 rfl ?_
  refine j_tald (i := 1) (k := 0) dX6_mayBeCard_23 rfl rfl (by decide) (by decide) ?_
  refine j_iconst (1) dX6_mayBeCard_24 rfl ?_
  refine j_iadd dX6_mayBeCard_25 ?_
  refine j_top (y := 10) (rfl) ?_
  refine j_cS2 dX6_mayBeCard_26 (Or.inr ⟨_, l6_35⟩) kX7_within zX7_within (Nat.le_of_ble_eq_true rfl) (Nat.le_of_ble_eq_true rfl) (by omega) (s_X7_within) ?_
  refine j_ifeqB 36 dX6_mayBeCard_29 (by decide) (fun c_29 => ?_) (fun c_29 => ?_)
  · refine j_iconst (0) dX6_mayBeCard_36 rfl ?_
    refine j_zret dX6_mayBeCard_37 rfl (by decide) ?_
    exact ⟨by congr 2; simp_all [bi], rfl⟩
  refine j_iconst (1) dX6_mayBeCard_32 rfl ?_
  refine j_goto 37 dX6_mayBeCard_33 (by decide) ?_
  refine j_zret dX6_mayBeCard_37 rfl (by decide) ?_
  exact ⟨by congr 2; simp_all [bi], rfl⟩

set_option maxRecDepth 20000 in
theorem s_X6_addCard_full {x y z : Int32} (hn : S.1 1 1 = nI 8) : Rt a mX6_addCard 0 [.ref (a 1), .int x, .int y, .int z] S (some (.int (-3))) S := by
  show J _ _ _ _ 0 [_, _, _, _] [] _
  refine j_ald0 dX6_addCard_0 ?_
  refine j_getI (k := 1) dX6_addCard_1 cX6_ok (Or.inl f6_42) rfl (by decide) (by decide) (by decide) ?_
  refine j_bipush (8) dX6_addCard_4 rfl ?_
  refine j_icmplt 12 dX6_addCard_6 (by decide) (fun c_6 => ?_) (fun c_6 => ?_)
  · exact absurd (by rw [hn]; decide) c_6
  refine j_bipush (-3) dX6_addCard_9 rfl ?_
  refine j_iret dX6_addCard_11 rfl ?_
  exact ⟨rfl, rfl⟩

set_option maxRecDepth 20000 in
theorem s_X6_addCard {x y z : Int32} (hn : S.1 1 1 = nI n) (h8 : n < 8) : Rt a mX6_addCard 0 [.ref (a 1), .int x, .int y, .int z] S (some (.int (nI n))) (uI (uI (uI (uI S 17 n x) 18 n y) 16 n z) 1 1 (nI (n + 1))) := by
  show J _ _ _ _ 0 [_, _, _, _] [] _
  refine j_ald0 dX6_addCard_0 ?_
  refine j_getI (k := 1) dX6_addCard_1 cX6_ok (Or.inl f6_42) rfl (by decide) (by decide) (by decide) ?_
  refine j_top (y := nI n) (hn) ?_
  refine j_bipush (8) dX6_addCard_4 rfl ?_
  refine j_icmplt 12 dX6_addCard_6 (by decide) (fun c_6 => ?_) (fun c_6 => absurd (nI_ltI (by omega) (by omega) |>.mpr h8) c_6)
  refine j_ald0 dX6_addCard_12 ?_
  refine j_getR (k := 0) (15) dX6_addCard_13 cX6_ok (Or.inl f6_13) rfl (by decide) (by decide) (by decide) rfl ?_
  refine j_iconst (1) dX6_addCard_16 rfl ?_
  refine j_aald (n := 1) (17) dX6_addCard_17 (Or.inr rfl) (by decide) rfl (by decide) (by decide) rfl ?_
  refine j_ald0 dX6_addCard_18 ?_
  refine j_getI (k := 1) dX6_addCard_19 cX6_ok (Or.inl f6_42) rfl (by decide) (by decide) (by decide) ?_
  refine j_top (y := nI n) (hn) ?_
  refine j_ild1 dX6_addCard_22 ?_
  refine j_iast dX6_addCard_23 rfl (by decide) rfl (by omega) (by decide) ?_
  refine j_ald0 dX6_addCard_24 ?_
  refine j_getR (k := 0) (15) dX6_addCard_25 cX6_ok (Or.inl f6_13) rfl (by decide) (by decide) (by decide) rfl ?_
  refine j_iconst (2) dX6_addCard_28 rfl ?_
  refine j_aald (n := 2) (18) dX6_addCard_29 (Or.inr rfl) (by decide) rfl (by decide) (by decide) rfl ?_
  refine j_ald0 dX6_addCard_30 ?_
  refine j_getI (k := 1) dX6_addCard_31 cX6_ok (Or.inl f6_42) rfl (by decide) (by decide) (by decide) ?_
  refine j_top (y := nI n) (by simp [uI_at, hn]) ?_
  refine j_ild2 dX6_addCard_34 ?_
  refine j_iast dX6_addCard_35 rfl (by decide) rfl (by omega) (by decide) ?_
  refine j_ald0 dX6_addCard_36 ?_
  refine j_getR (k := 0) (15) dX6_addCard_37 cX6_ok (Or.inl f6_13) rfl (by decide) (by decide) (by decide) rfl ?_
  refine j_iconst (0) dX6_addCard_40 rfl ?_
  refine j_aald (n := 0) (16) dX6_addCard_41 (Or.inr rfl) (by decide) rfl (by decide) (by decide) rfl ?_
  refine j_ald0 dX6_addCard_42 ?_
  refine j_getI (k := 1) dX6_addCard_43 cX6_ok (Or.inl f6_42) rfl (by decide) (by decide) (by decide) ?_
  refine j_top (y := nI n) (by simp [uI_at, hn]) ?_
  refine j_ild3 dX6_addCard_46 ?_
  refine j_iast dX6_addCard_47 rfl (by decide) rfl (by omega) (by decide) ?_
  refine j_ald0 dX6_addCard_48 ?_
  refine j_dup dX6_addCard_49 rfl ?_
  refine j_getI (k := 1) dX6_addCard_50 cX6_ok (Or.inl f6_42) rfl (by decide) (by decide) (by decide) ?_
  refine j_top (y := nI n) (by simp [uI_at, hn]) ?_
  refine j_iconst (1) dX6_addCard_53 rfl ?_
  refine j_iadd dX6_addCard_54 ?_
  refine j_top (y := nI (n + 1)) (nI_1 n) ?_
  refine j_putI (k := 1) dX6_addCard_55 cX6_ok (Or.inl f6_42) rfl (by decide) (by decide) (by decide) rfl ?_
  refine j_ald0 dX6_addCard_58 ?_
  refine j_getI (k := 1) dX6_addCard_59 cX6_ok (Or.inl f6_42) rfl (by decide) (by decide) (by decide) ?_
  refine j_top (y := nI (n + 1)) (by simp [uI_at]) ?_
  refine j_iconst (1) dX6_addCard_62 rfl ?_
  refine j_isub dX6_addCard_63 ?_
  refine j_top (y := nI n) (nI_pred n) ?_
  refine j_iret dX6_addCard_64 rfl ?_
  exact ⟨rfl, rfl⟩

set_option maxRecDepth 20000 in
theorem lp_X6_inHat (h : TC n v S) : ∀ (k : Nat) (i : Nat), n - i < k → (i ≤ n) → J a mX6_inHat 0 (gm a fun r S' => r = some (.int (nI (sumN (v 0) n))) ∧ S' = S) 4 [.ref (a 1), .int (nI (sumN (v 0) i)), .int (nI i)] [] S := by
  intro k
  induction k with
  | zero => intro i hk; exact absurd hk (Nat.not_lt_zero _)
  | succ k ih =>
    intro i hk hi
    have h8 := h.2.1
    refine j_ild2 dX6_inHat_4 ?_
    refine j_ald0 dX6_inHat_5 ?_
    refine j_getI (k := 1) dX6_inHat_6 cX6_ok (Or.inl f6_42) rfl (by decide) (by decide) (by decide) ?_
    refine j_top (y := nI n) (h.1) ?_
    refine j_icmpge 29 dX6_inHat_9 (by decide) (fun c_9 => ?_) (fun c_9 => ?_)
    · have q := (nI_leI (by omega) (by omega)).mp c_9
      have q2 : i = n := by omega
      subst q2
      refine j_ild1 dX6_inHat_29 ?_
      refine j_iret dX6_inHat_30 rfl ?_
      exact ⟨rfl, rfl⟩
    have q := fun z => c_9 ((nI_leI (by omega) (by omega)).mpr z)
    have q2 : i < n := by omega
    refine j_ild1 dX6_inHat_12 ?_
    refine j_ald0 dX6_inHat_13 ?_
    refine j_getR (k := 0) (15) dX6_inHat_14 cX6_ok (Or.inl f6_13) rfl (by decide) (by decide) (by decide) rfl ?_
    refine j_iconst (0) dX6_inHat_17 rfl ?_
    refine j_aald (n := 0) (16) dX6_inHat_18 (Or.inr rfl) (by decide) rfl (by decide) (by decide) rfl ?_
    refine j_ild2 dX6_inHat_19 ?_
    refine j_iald dX6_inHat_20 rfl (by decide) rfl (by omega) (by decide) ?_
    refine j_top (y := nI (v 0 i)) (h.2.2.1 0 (by decide) i (by omega)) ?_
    refine j_iadd dX6_inHat_21 ?_
    refine j_top (y := nI (sumN (v 0) (i + 1))) (nI_add _ _) ?_
    refine j_ist1 dX6_inHat_22 rfl (by decide) ?_
    refine j_iinc2 (nI (i + 1)) dX6_inHat_23 (nI_1 i) rfl (by decide) ?_
    refine j_goto 4 dX6_inHat_26 (by decide) ?_
    exact ih (i + 1) (by omega) (by omega)

set_option maxRecDepth 20000 in
theorem s_X6_inHat (h : TC n v S) : Rt a mX6_inHat 0 [.ref (a 1)] S (some (.int (nI (sumN (v 0) n)))) S := by
  show J _ _ _ _ 0 [_, .null, .null] [] _
  refine j_iconst (0) dX6_inHat_0 rfl ?_
  refine j_ist1 dX6_inHat_1 rfl (by decide) ?_
  refine j_iconst (0) dX6_inHat_2 rfl ?_
  refine j_ist2 dX6_inHat_3 rfl (by decide) ?_
  exact lp_X6_inHat h (n + 1) 0 (by omega) (by omega)

end Things
