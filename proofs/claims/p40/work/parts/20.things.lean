/-! OtherSide.within, Things -/
/-- the cards and all that mend() mends, in the class's cells -/
def TC (n : Nat) (v : Nat → Nat → Nat) (S : St) : Prop := S.1 1 1 = nI n ∧ n ≤ 8 ∧ (∀ w, w < 12 → ∀ i, i < 8 → S.1 (16 + w) i = nI (v w i)) ∧ ∀ w, w < 12 → ∀ i, i < 8 → v w i ≤ mostN w
/-- the changes: k done, u undone: number, what, was, became -/
def HC (k u : Nat) (h : Nat → Nat → Nat) (S : St) : Prop := ∃ q, q < 40 ∧ S.1 1 6 = nI q ∧ S.1 1 7 = nI k ∧ S.1 1 8 = nI u ∧ k + u ≤ 40 ∧ (∀ i, i < k + u → ∀ f, f < 4 → S.1 (28 + f) ((q + i) % 40) = nI (h i f))
def up2 (v : Nat → Nat → Nat) (w i x : Nat) : Nat → Nat → Nat := fun w' i' => if w' = w ∧ i' = i then x else v w' i'
section Things
variable {a : Nat → Nat} {S : St} {n k u : Nat} {v h : Nat → Nat → Nat}
theorem TC.le99 (h : TC n v S) {w i : Nat} (hw : w < 12) (hi : i < 8) : v w i ≤ 99 := Nat.le_trans (h.2.2.2 w hw i hi) (mostN_le w)
theorem TC.many9 (h : TC n v S) {i : Nat} (hi : i < 8) : v 0 i ≤ 9 := h.2.2.2 0 (by decide) i hi
theorem TC.sum (h : TC n v S) {k : Nat} (hk : k ≤ 8) : sumN (v 0) k ≤ 72 := by
  have := sumN_le (f := v 0) (b := 9) k (fun i hi => h.many9 (by omega))
  omega
theorem TC.kp {rs : List Nat} {S' : St} (h : TC n v S) (hk : Kp rs S S') (hr : 1 ∉ rs) : TC n v S' := ⟨by rw [hk.i (show rg 1 1 ∉ rs from hr)]; exact h.1, h.2.1, fun w hw i hi => by rw [hk.i (by rw [rg_vr hw]; exact hr)]; exact h.2.2.1 w hw i hi, h.2.2.2⟩
theorem HC.kp {rs : List Nat} {S' : St} (hh : HC k u h S) (hk : Kp rs S S') (hr : 1 ∉ rs) : HC k u h S' := by
  obtain ⟨q, h1, h2, h3, h4, h5, h6⟩ := hh
  refine ⟨q, h1, by rw [hk.i (show rg 1 6 ∉ rs from hr)]; exact h2, by rw [hk.i (show rg 1 7 ∉ rs from hr)]; exact h3, by rw [hk.i (show rg 1 8 ∉ rs from hr)]; exact h4, h5, fun i hi f hf => ?_⟩
  rw [hk.i, h6 i hi f hf]
  rcases (show f = 0 ∨ f = 1 ∨ f = 2 ∨ f = 3 by omega) with rfl | rfl | rfl | rfl <;> exact hr
set_option maxRecDepth 20000 in
theorem s_X7_within {i b : Int32} : Rt a mX7_within 0 [.int i, .int b] S (some (.int (bi (0 ≤ i ∧ i < b)))) S := by
  show J _ _ _ _ 0 [_, _] [] _
  refine j_ild0 dX7_within_0 ?_
  refine j_iflt 13 dX7_within_1 (by decide) (fun c_1 => ?_) (fun c_1 => ?_)
  · refine j_iconst (0) dX7_within_13 rfl ?_
    refine j_zret dX7_within_14 rfl (by decide) ?_
    exact ⟨by rw [bi_f (fun q => absurd c_1 (Int32.not_lt.mpr q.1))], rfl⟩
  refine j_ild0 dX7_within_4 ?_
  refine j_ild1 dX7_within_5 ?_
  refine j_icmpge 13 dX7_within_6 (by decide) (fun c_6 => ?_) (fun c_6 => ?_)
  · refine j_iconst (0) dX7_within_13 rfl ?_
    refine j_zret dX7_within_14 rfl (by decide) ?_
    exact ⟨by rw [bi_f (fun q => absurd c_6 (Int32.not_le.mpr q.2))], rfl⟩
  refine j_iconst (1) dX7_within_9 rfl ?_
  refine j_goto 14 dX7_within_10 (by decide) ?_
  refine j_zret dX7_within_14 rfl (by decide) ?_
  exact ⟨by rw [bi_t ⟨Int32.not_lt.mp c_1, Int32.not_le.mp c_6⟩], rfl⟩

set_option maxRecDepth 20000 in
theorem s_X6_mayBeCard {x y z : Int32} : Rt a mX6_mayBeCard 1 [.int x, .int y, .int z] S (some (.int (bi ((0 ≤ x ∧ x < 6) ∧ (0 ≤ y ∧ y < 6) ∧ (0 ≤ z ∧ z < 10))))) S := by
  show J _ _ _ _ 0 [_, _, _] [] _
  refine j_ild0 dX6_mayBeCard_0 ?_
  refine j_bipush (6) dX6_mayBeCard_1 rfl ?_
  refine j_cS2 dX6_mayBeCard_3 kX7_within zX7_within (Or.inr ⟨_, l6_35⟩) (Nat.le_of_ble_eq_true rfl) (Nat.le_of_ble_eq_true rfl) (by omega) (s_X7_within) ?_
  refine j_ifeqB 36 dX6_mayBeCard_6 (by decide) (fun c_6 => ?_) (fun c_6 => ?_)
  · refine j_iconst (0) dX6_mayBeCard_36 rfl ?_
    refine j_zret dX6_mayBeCard_37 rfl (by decide) ?_
    exact ⟨by rw [bi_f (fun q => c_6 q.1)], rfl⟩
  refine j_ild1 dX6_mayBeCard_9 ?_
  refine j_bipush (6) dX6_mayBeCard_10 rfl ?_
  refine j_cS2 dX6_mayBeCard_12 kX7_within zX7_within (Or.inr ⟨_, l6_35⟩) (Nat.le_of_ble_eq_true rfl) (Nat.le_of_ble_eq_true rfl) (by omega) (s_X7_within) ?_
  refine j_ifeqB 36 dX6_mayBeCard_15 (by decide) (fun c_15 => ?_) (fun c_15 => ?_)
  · refine j_iconst (0) dX6_mayBeCard_36 rfl ?_
    refine j_zret dX6_mayBeCard_37 rfl (by decide) ?_
    exact ⟨by rw [bi_f (fun q => c_15 q.2.1)], rfl⟩
  refine j_ild2 dX6_mayBeCard_18 ?_
  refine j_gets (i := 1) dX6_mayBeCard_19 rfl (Or.inl f6_39) ?_
  refine j_iconst (0) dX6_mayBeCard_22 rfl ?_
  refine j_tald (i := 1) (k := 0) dX6_mayBeCard_23 rfl rfl (by decide) (by decide) ?_
  refine j_iconst (1) dX6_mayBeCard_24 rfl ?_
  refine j_iadd dX6_mayBeCard_25 ?_
  refine j_top (y := 10) (rfl) ?_
  refine j_cS2 dX6_mayBeCard_26 kX7_within zX7_within (Or.inr ⟨_, l6_35⟩) (Nat.le_of_ble_eq_true rfl) (Nat.le_of_ble_eq_true rfl) (by omega) (s_X7_within) ?_
  refine j_ifeqB 36 dX6_mayBeCard_29 (by decide) (fun c_29 => ?_) (fun c_29 => ?_)
  · refine j_iconst (0) dX6_mayBeCard_36 rfl ?_
    refine j_zret dX6_mayBeCard_37 rfl (by decide) ?_
    exact ⟨by rw [bi_f (fun q => c_29 q.2.2)], rfl⟩
  refine j_iconst (1) dX6_mayBeCard_32 rfl ?_
  refine j_goto 37 dX6_mayBeCard_33 (by decide) ?_
  refine j_zret dX6_mayBeCard_37 rfl (by decide) ?_
  exact ⟨by rw [bi_t ⟨c_6, c_15, c_29⟩], rfl⟩

set_option maxRecDepth 20000 in
theorem s_X6_addCard {x y z : Int32} (hn : S.1 1 1 = nI n) (h8 : n < 8) : Rt a mX6_addCard 0 [.ref (a 1), .int x, .int y, .int z] S (some (.int (nI n))) (uI (uI (uI (uI S 17 n x) 18 n y) 16 n z) 1 1 (nI (n + 1))) := by
  show J _ _ _ _ 0 [_, _, _, _] [] _
  refine j_ald0 dX6_addCard_0 ?_
  refine j_getI (k := 1) dX6_addCard_1 cX6_ok (Or.inl f6_42) rfl (by decide) (by decide) (by decide) ?_
  refine j_top (y := nI n) (hn) ?_
  refine j_bipush (8) dX6_addCard_4 rfl ?_
  refine j_icmplt 12 dX6_addCard_6 (by decide) (fun c_6 => ?_) (fun c_6 => absurd (nI_ltI (by omega) (by omega) |>.mpr h8) c_6)
  refine j_ald0 dX6_addCard_12 ?_
  refine j_getR (k := 0) (15) dX6_addCard_13 cX6_ok (Or.inl f6_13) rfl (by decide) (by decide) (by decide) rfl ?_
  refine j_iconst (1) dX6_addCard_16 rfl ?_
  refine j_aald (n := 1) (17) dX6_addCard_17 (Or.inr rfl) (by decide) rfl (by decide) (by decide) rfl ?_
  refine j_ald0 dX6_addCard_18 ?_
  refine j_getI (k := 1) dX6_addCard_19 cX6_ok (Or.inl f6_42) rfl (by decide) (by decide) (by decide) ?_
  refine j_top (y := nI n) (hn) ?_
  refine j_ild1 dX6_addCard_22 ?_
  refine j_iast dX6_addCard_23 rfl (by decide) rfl (by omega) (by decide) ?_
  refine j_ald0 dX6_addCard_24 ?_
  refine j_getR (k := 0) (15) dX6_addCard_25 cX6_ok (Or.inl f6_13) rfl (by decide) (by decide) (by decide) rfl ?_
  refine j_iconst (2) dX6_addCard_28 rfl ?_
  refine j_aald (n := 2) (18) dX6_addCard_29 (Or.inr rfl) (by decide) rfl (by decide) (by decide) rfl ?_
  refine j_ald0 dX6_addCard_30 ?_
  refine j_getI (k := 1) dX6_addCard_31 cX6_ok (Or.inl f6_42) rfl (by decide) (by decide) (by decide) ?_
  refine j_top (y := nI n) (by simp [uI_at, hn]) ?_
  refine j_ild2 dX6_addCard_34 ?_
  refine j_iast dX6_addCard_35 rfl (by decide) rfl (by omega) (by decide) ?_
  refine j_ald0 dX6_addCard_36 ?_
  refine j_getR (k := 0) (15) dX6_addCard_37 cX6_ok (Or.inl f6_13) rfl (by decide) (by decide) (by decide) rfl ?_
  refine j_iconst (0) dX6_addCard_40 rfl ?_
  refine j_aald (n := 0) (16) dX6_addCard_41 (Or.inr rfl) (by decide) rfl (by decide) (by decide) rfl ?_
  refine j_ald0 dX6_addCard_42 ?_
  refine j_getI (k := 1) dX6_addCard_43 cX6_ok (Or.inl f6_42) rfl (by decide) (by decide) (by decide) ?_
  refine j_top (y := nI n) (by simp [uI_at, hn]) ?_
  refine j_ild3 dX6_addCard_46 ?_
  refine j_iast dX6_addCard_47 rfl (by decide) rfl (by omega) (by decide) ?_
  refine j_ald0 dX6_addCard_48 ?_
  refine j_dup dX6_addCard_49 rfl ?_
  refine j_getI (k := 1) dX6_addCard_50 cX6_ok (Or.inl f6_42) rfl (by decide) (by decide) (by decide) ?_
  refine j_top (y := nI n) (by simp [uI_at, hn]) ?_
  refine j_iconst (1) dX6_addCard_53 rfl ?_
  refine j_iadd dX6_addCard_54 ?_
  refine j_top (y := nI (n + 1)) (nI_1 n) ?_
  refine j_putI (k := 1) dX6_addCard_55 cX6_ok (Or.inl f6_42) rfl (by decide) (by decide) (by decide) rfl ?_
  refine j_ald0 dX6_addCard_58 ?_
  refine j_getI (k := 1) dX6_addCard_59 cX6_ok (Or.inl f6_42) rfl (by decide) (by decide) (by decide) ?_
  refine j_top (y := nI (n + 1)) (by simp [uI_at]) ?_
  refine j_iconst (1) dX6_addCard_62 rfl ?_
  refine j_isub dX6_addCard_63 ?_
  refine j_top (y := nI n) (by exact nI_pred n) ?_
  refine j_iret dX6_addCard_64 rfl ?_
  exact ⟨rfl, rfl⟩

set_option maxRecDepth 20000 in
theorem lp_X6_inHat (h : TC n v S) : ∀ (k : Nat) (i : Nat), n - i < k → (i ≤ n) → J a mX6_inHat 0 (gm a fun r S' => r = some (.int (nI (sumN (v 0) n))) ∧ S' = S) 4 [.ref (a 1), .int (nI (sumN (v 0) i)), .int (nI i)] [] S := by
  intro k
  induction k with
  | zero => intro i hk; exact absurd hk (Nat.not_lt_zero _)
  | succ k ih =>
    intro i hk hi
    have h8 := h.2.1
    refine j_ild2 dX6_inHat_4 ?_
    refine j_ald0 dX6_inHat_5 ?_
    refine j_getI (k := 1) dX6_inHat_6 cX6_ok (Or.inl f6_42) rfl (by decide) (by decide) (by decide) ?_
    refine j_top (y := nI n) (h.1) ?_
    refine j_icmpge 29 dX6_inHat_9 (by decide) (fun c_9 => ?_) (fun c_9 => ?_)
    · have q_9 : n ≤ i := (nI_leI (by omega) (by omega)).mp c_9
      have q2 : i = n := by omega
      subst q2
      refine j_ild1 dX6_inHat_29 ?_
      refine j_iret dX6_inHat_30 rfl ?_
      exact ⟨rfl, rfl⟩
    have q_9 : i < n := Nat.not_le.mp (fun z => c_9 ((nI_leI (by omega) (by omega)).mpr z))
    refine j_ild1 dX6_inHat_12 ?_
    refine j_ald0 dX6_inHat_13 ?_
    refine j_getR (k := 0) (15) dX6_inHat_14 cX6_ok (Or.inl f6_13) rfl (by decide) (by decide) (by decide) rfl ?_
    refine j_iconst (0) dX6_inHat_17 rfl ?_
    refine j_aald (n := 0) (16) dX6_inHat_18 (Or.inr rfl) (by decide) rfl (by decide) (by decide) rfl ?_
    refine j_ild2 dX6_inHat_19 ?_
    refine j_iald dX6_inHat_20 rfl (by decide) rfl (by omega) (by decide) ?_
    refine j_top (y := nI (v 0 i)) (h.2.2.1 0 (by decide) i (by omega)) ?_
    refine j_iadd dX6_inHat_21 ?_
    refine j_top (y := nI (sumN (v 0) (i + 1))) (nI_add _ _) ?_
    refine j_ist1 dX6_inHat_22 rfl (by decide) ?_
    refine j_iinc2 (nI (i + 1)) dX6_inHat_23 (nI_1 i) rfl (by decide) ?_
    refine j_goto 4 dX6_inHat_26 (by decide) ?_
    exact ih (i + 1) (by omega) (by omega)

set_option maxRecDepth 20000 in
theorem s_X6_inHat (h : TC n v S) : Rt a mX6_inHat 0 [.ref (a 1)] S (some (.int (nI (sumN (v 0) n)))) S := by
  show J _ _ _ _ 0 [_, .null, .null] [] _
  refine j_iconst (0) dX6_inHat_0 rfl ?_
  refine j_ist1 dX6_inHat_1 rfl (by decide) ?_
  refine j_iconst (0) dX6_inHat_2 rfl ?_
  refine j_ist2 dX6_inHat_3 rfl (by decide) ?_
  exact lp_X6_inHat h (n + 1) 0 (by omega) (by omega)

set_option maxRecDepth 20000 in
theorem s_X6_known (h : TC n v S) {x y : Int32} : Rt a mX6_known 1 [.ref (a 1), .int x, .int y] S (some (.int (bi ((0 ≤ y ∧ y < 12) ∧ (0 ≤ x ∧ x < nI (numN n y.toNatClampNeg)))))) S := by
  show J _ _ _ _ 0 [_, _, _] [] _
  refine j_ild2 dX6_known_0 ?_
  refine j_bipush (12) dX6_known_1 rfl ?_
  refine j_cS2 dX6_known_3 kX7_within zX7_within (Or.inr ⟨_, l6_35⟩) (Nat.le_of_ble_eq_true rfl) (Nat.le_of_ble_eq_true rfl) (by omega) (s_X7_within) ?_
  refine j_ifeqB 37 dX6_known_6 (by decide) (fun c_6 => ?_) (fun c_6 => ?_)
  · refine j_iconst (0) dX6_known_37 rfl ?_
    refine j_zret dX6_known_38 rfl (by decide) ?_
    exact ⟨by rw [bi_f (fun q => c_6 q.1)], rfl⟩
  obtain ⟨w, hw, rfl⟩ := in_nI (n := 12) (by decide) c_6
  have hcl : (nI w).toNatClampNeg = w := nI_clamp (by omega)
  rw [hcl]
  refine j_ild1 dX6_known_9 ?_
  refine j_ild2 dX6_known_10 ?_
  refine j_iconst (2) dX6_known_11 rfl ?_
  refine j_icmpgt 22 dX6_known_12 (by decide) (fun c_12 => ?_) (fun c_12 => ?_)
  · have q12 : ¬ w ≤ 2 := fun z => absurd c_12 (Int32.not_lt.mpr ((nI_leI (a := w) (b := 2) (by omega) (by decide)).mpr z))
    refine j_gets (i := 0) dX6_known_22 rfl (Or.inl f6_29) ?_
    refine j_ild2 dX6_known_25 ?_
    refine j_tald (i := 0) (k := w) dX6_known_26 rfl rfl (by omega) (by decide) ?_
    refine j_top (y := nI (numN n w)) (by rw [numN, if_neg q12]; rcases (show w = 3 ∨ w = 4 ∨ w = 5 ∨ w = 6 ∨ w = 7 ∨ w = 8 ∨ w = 9 ∨ w = 10 ∨ w = 11 by omega) with rfl | rfl | rfl | rfl | rfl | rfl | rfl | rfl | rfl <;> rfl) ?_
    have hkn : True := trivial
    refine j_cS2 dX6_known_27 kX7_within zX7_within (Or.inr ⟨_, l6_35⟩) (Nat.le_of_ble_eq_true rfl) (Nat.le_of_ble_eq_true rfl) (by omega) (s_X7_within) ?_
    refine j_ifeqB 37 dX6_known_30 (by decide) (fun c_30 => ?_) (fun c_30 => ?_)
    · refine j_iconst (0) dX6_known_37 rfl ?_
      refine j_zret dX6_known_38 rfl (by decide) ?_
      exact ⟨by rw [bi_f (fun q => c_30 (q.2))], rfl⟩
    refine j_iconst (1) dX6_known_33 rfl ?_
    refine j_goto 38 dX6_known_34 (by decide) ?_
    refine j_zret dX6_known_38 rfl (by decide) ?_
    exact ⟨by rw [bi_t ⟨c_6, c_30⟩], rfl⟩
  have q12 : w ≤ 2 := (nI_leI (a := w) (b := 2) (by omega) (by decide)).mp (Int32.not_lt.mp c_12)
  refine j_ald0 dX6_known_15 ?_
  refine j_getI (k := 1) dX6_known_16 cX6_ok (Or.inl f6_42) rfl (by decide) (by decide) (by decide) ?_
  refine j_top (y := nI (numN n w)) ((h.1.trans (by rw [numN, if_pos q12]))) ?_
  refine j_goto 27 dX6_known_19 (by decide) ?_
  have hkn : True := trivial
  refine j_cS2 dX6_known_27 kX7_within zX7_within (Or.inr ⟨_, l6_35⟩) (Nat.le_of_ble_eq_true rfl) (Nat.le_of_ble_eq_true rfl) (by omega) (s_X7_within) ?_
  refine j_ifeqB 37 dX6_known_30 (by decide) (fun c_30 => ?_) (fun c_30 => ?_)
  · refine j_iconst (0) dX6_known_37 rfl ?_
    refine j_zret dX6_known_38 rfl (by decide) ?_
    exact ⟨by rw [bi_f (fun q => c_30 (q.2))], rfl⟩
  refine j_iconst (1) dX6_known_33 rfl ?_
  refine j_goto 38 dX6_known_34 (by decide) ?_
  refine j_zret dX6_known_38 rfl (by decide) ?_
  exact ⟨by rw [bi_t ⟨c_6, c_30⟩], rfl⟩

def mk4 (p q r t : Nat) : Nat → Nat := fun f => if f = 0 then p else if f = 1 then q else if f = 2 then r else t
/-- one more change -/
def pushH (k : Nat) (h : Nat → Nat → Nat) (x : Nat → Nat) : Nat → Nat → Nat := if k = 40 then (fun i f => if i = 39 then x f else h (i + 1) f) else (fun i f => if i = k then x f else h i f)
def pushK (k : Nat) : Nat := if k = 40 then 40 else k + 1
theorem up2_same {v : Nat → Nat → Nat} {w i : Nat} : up2 v w i (v w i) = v := by
  funext w' i'
  unfold up2
  split
  · next e => rw [e.1, e.2]
  · rfl
theorem mod40 {p i j : Nat} (hi : i < 40) (hj : j < 40) (e : (p + i) % 40 = (p + j) % 40) : i = j := by omega
theorem TC.uI_v {n : Nat} {v : Nat → Nat → Nat} {S : St} (h : TC n v S) {w i x : Nat} (hw : w < 12) (hi : i < 8) (hx : x ≤ mostN w) : TC n (up2 v w i x) (uI S (16 + w) i (nI x)) := by
  refine ⟨by rw [uI_at, if_neg (by omega)]; exact h.1, h.2.1, fun w' hw' i' hi' => ?_, fun w' hw' i' hi' => ?_⟩
  · rw [uI_at]
    unfold up2
    by_cases e : w' = w ∧ i' = i
    · rw [if_pos (by omega), if_pos e]
    · rw [if_neg (by omega), if_neg e]
      exact h.2.2.1 w' hw' i' hi'
  · unfold up2
    split
    · next e => rw [e.1]; exact hx
    · exact h.2.2.2 w' hw' i' hi'
theorem HC.uI_v {k u : Nat} {h : Nat → Nat → Nat} {S : St} {w i : Nat} {x : Int32} (hh : HC k u h S) (hw : w < 12) : HC k u h (uI S (16 + w) i x) := by
  obtain ⟨q, h1, h2, h3, h4, h5, h6⟩ := hh
  refine ⟨q, h1, ?_, ?_, ?_, h5, fun i' hi f hf => ?_⟩
  · rw [uI_at, if_neg (by omega)]; exact h2
  · rw [uI_at, if_neg (by omega)]; exact h3
  · rw [uI_at, if_neg (by omega)]; exact h4
  · rw [uI_at, if_neg (by omega)]; exact h6 i' hi f hf
def KCs (S : St) (p k : Nat) (x : Nat → Nat) : St := uI (uI (uI (uI (uI (uI S 28 p (nI (x 0))) 29 p (nI (x 1))) 30 p (nI (x 2))) 31 p (nI (x 3))) 1 7 (nI (k + 1))) 1 8 0
theorem KCs_at (S : St) (p k : Nat) (x : Nat → Nat) {f i : Nat} (hf : f < 4) : (KCs S p k x).1 (28 + f) i = if i = p then nI (x f) else S.1 (28 + f) i := by
  unfold KCs
  simp only [uI_at]
  rcases (show f = 0 ∨ f = 1 ∨ f = 2 ∨ f = 3 by omega) with rfl | rfl | rfl | rfl <;> simp
theorem KCs_o (S : St) (p k : Nat) (x : Nat → Nat) {j i : Nat} (h1 : ¬ (j = 1 ∧ (i = 7 ∨ i = 8))) (h2 : ¬ (28 ≤ j ∧ j < 32)) : (KCs S p k x).1 j i = S.1 j i := by
  unfold KCs
  simp only [uI_at]
  repeat rw [if_neg (by omega)]
set_option maxRecDepth 20000 in
theorem kc_32 {q : Nat} {x : Nat → Nat} {w : Value} (hq : S.1 1 6 = nI q) (hq1 : q < 40) (hk : S.1 1 7 = nI k) (hk1 : k < 40) : J a mX6_keepChange 0 (gm a fun r S' => r = none ∧ S' = KCs S ((q + k) % 40) k x) 32 [.ref (a 1), .int (nI (x 0)), .int (nI (x 1)), .int (nI (x 2)), .int (nI (x 3)), w] [] S := by
  refine j_ald0 dX6_keepChange_32 ?_
  refine j_getI (k := 6) dX6_keepChange_33 cX6_ok (Or.inl f6_59) rfl (by decide) (by decide) (by decide) ?_
  refine j_top (y := nI q) (hq) ?_
  refine j_ald0 dX6_keepChange_36 ?_
  refine j_getI (k := 7) dX6_keepChange_37 cX6_ok (Or.inl f6_56) rfl (by decide) (by decide) (by decide) ?_
  refine j_top (y := nI k) (hk) ?_
  refine j_iadd dX6_keepChange_40 ?_
  refine j_top (y := nI (q + k)) (nI_add _ _) ?_
  refine j_bipush (40) dX6_keepChange_41 rfl ?_
  refine j_irem dX6_keepChange_43 (by decide) ?_
  refine j_top (y := nI ((q + k) % 40)) (by exact pk_rem (a := q + k) (d := 40) (by omega) (by decide) (by decide)) ?_
  refine j_ist5 dX6_keepChange_44 rfl (by decide) ?_
  refine j_ald0 dX6_keepChange_46 ?_
  refine j_getR (k := 2) (28) dX6_keepChange_47 cX6_ok (Or.inl f6_16) rfl (by decide) (by decide) (by decide) rfl ?_
  refine j_ild5 dX6_keepChange_50 ?_
  refine j_ild1 dX6_keepChange_52 ?_
  refine j_iast (n := (q + k) % 40) dX6_keepChange_53 rfl (by decide) rfl (Nat.mod_lt _ (by decide)) (by decide) ?_
  refine j_ald0 dX6_keepChange_54 ?_
  refine j_getR (k := 3) (29) dX6_keepChange_55 cX6_ok (Or.inl f6_20) rfl (by decide) (by decide) (by decide) rfl ?_
  refine j_ild5 dX6_keepChange_58 ?_
  refine j_ild2 dX6_keepChange_60 ?_
  refine j_iast (n := (q + k) % 40) dX6_keepChange_61 rfl (by decide) rfl (Nat.mod_lt _ (by decide)) (by decide) ?_
  refine j_ald0 dX6_keepChange_62 ?_
  refine j_getR (k := 4) (30) dX6_keepChange_63 cX6_ok (Or.inl f6_23) rfl (by decide) (by decide) (by decide) rfl ?_
  refine j_ild5 dX6_keepChange_66 ?_
  refine j_ild3 dX6_keepChange_68 ?_
  refine j_iast (n := (q + k) % 40) dX6_keepChange_69 rfl (by decide) rfl (Nat.mod_lt _ (by decide)) (by decide) ?_
  refine j_ald0 dX6_keepChange_70 ?_
  refine j_getR (k := 5) (31) dX6_keepChange_71 cX6_ok (Or.inl f6_26) rfl (by decide) (by decide) (by decide) rfl ?_
  refine j_ild5 dX6_keepChange_74 ?_
  refine j_ild4 dX6_keepChange_76 ?_
  refine j_iast (n := (q + k) % 40) dX6_keepChange_78 rfl (by decide) rfl (Nat.mod_lt _ (by decide)) (by decide) ?_
  refine j_ald0 dX6_keepChange_79 ?_
  refine j_dup dX6_keepChange_80 rfl ?_
  refine j_getI (k := 7) dX6_keepChange_81 cX6_ok (Or.inl f6_56) rfl (by decide) (by decide) (by decide) ?_
  refine j_top (y := nI k) (by simp [uI_at, hk]) ?_
  refine j_iconst (1) dX6_keepChange_84 rfl ?_
  refine j_iadd dX6_keepChange_85 ?_
  refine j_top (y := nI (k + 1)) (nI_1 k) ?_
  refine j_putI (k := 7) dX6_keepChange_86 cX6_ok (Or.inl f6_56) rfl (by decide) (by decide) (by decide) rfl ?_
  refine j_ald0 dX6_keepChange_89 ?_
  refine j_iconst (0) dX6_keepChange_90 rfl ?_
  refine j_putI (k := 8) dX6_keepChange_91 cX6_ok (Or.inl f6_62) rfl (by decide) (by decide) (by decide) rfl ?_
  refine j_vret dX6_keepChange_94 rfl ?_
  exact ⟨rfl, rfl⟩

set_option maxRecDepth 20000 in
theorem s_X6_keepChange {x : Nat → Nat} (ht : TC n v S) (hh : HC k u h S) : Rqv a mX6_keepChange 0 [.ref (a 1), .int (nI (x 0)), .int (nI (x 1)), .int (nI (x 2)), .int (nI (x 3))] S (fun S' => TC n v S' ∧ HC (pushK k) 0 (pushH k h x) S' ∧ Kp [1] S S') := by
  obtain ⟨q, h1, h2, h3, h4, h5, h6⟩ := hh
  show J _ _ _ _ 0 [_, _, _, _, _, .null] [] _
  refine j_ald0 dX6_keepChange_0 ?_
  refine j_getI (k := 7) dX6_keepChange_1 cX6_ok (Or.inl f6_56) rfl (by decide) (by decide) (by decide) ?_
  refine j_top (y := nI k) (h3) ?_
  refine j_bipush (40) dX6_keepChange_4 rfl ?_
  refine j_icmpne 32 dX6_keepChange_6 (by decide) (fun c_6 => ?_) (fun c_6 => ?_)
  · have q_6 : ¬ k = 40 := fun z => c_6 (by rw [z]; rfl)
    refine J.post (kc_32 h2 h1 h3 (by omega)) (fun r S' e => ⟨e.1, ?_⟩)
    rw [e.2]
    refine ⟨⟨?_, ht.2.1, fun w hw i hi => ?_, ht.2.2.2⟩, ⟨q, h1, ?_, ?_, ?_, ?_, fun i hi f hf => ?_⟩, ?_⟩
    · rw [KCs_o _ _ _ _ (by omega) (by omega)]; exact ht.1
    · rw [KCs_o _ _ _ _ (by omega) (by omega)]; exact ht.2.2.1 w hw i hi
    · rw [KCs_o _ _ _ _ (by omega) (by omega)]; exact h2
    · unfold KCs pushK; rw [if_neg q_6]; simp [uI_at]
    · unfold KCs; simp [uI_at]; rfl
    · unfold pushK; rw [if_neg q_6]; omega
    · unfold pushK at hi
      rw [if_neg q_6] at hi
      rw [KCs_at _ _ _ _ hf]
      unfold pushH
      rw [if_neg q_6]
      by_cases e2 : i = k
      · subst e2; simp
      · rw [if_neg (fun z => e2 (mod40 (by omega) (by omega) z))]
        simp only [e2, if_false]
        exact h6 i (by omega) f hf
    · unfold KCs
      exact Kp_uI (Kp_uI (Kp_uI (Kp_uI (Kp_uI (Kp_uI Kp.rf (List.mem_singleton.mpr rfl)) (List.mem_singleton.mpr rfl)) (List.mem_singleton.mpr rfl)) (List.mem_singleton.mpr rfl)) (List.mem_singleton.mpr rfl)) (List.mem_singleton.mpr rfl)
  have q_6 : k = 40 := (nI_eq (a := k) (b := 40) (by omega) (by decide)).mp (Classical.not_not.mp c_6)
  subst q_6
  refine j_ald0 dX6_keepChange_9 ?_
  refine j_ald0 dX6_keepChange_10 ?_
  refine j_getI (k := 6) dX6_keepChange_11 cX6_ok (Or.inl f6_59) rfl (by decide) (by decide) (by decide) ?_
  refine j_top (y := nI q) (h2) ?_
  refine j_iconst (1) dX6_keepChange_14 rfl ?_
  refine j_iadd dX6_keepChange_15 ?_
  refine j_top (y := nI (q + 1)) (nI_1 q) ?_
  refine j_bipush (40) dX6_keepChange_16 rfl ?_
  refine j_irem dX6_keepChange_18 (by decide) ?_
  refine j_top (y := nI ((q + 1) % 40)) (by exact pk_rem (a := q + 1) (d := 40) (by omega) (by decide) (by decide)) ?_
  refine j_putI (k := 6) dX6_keepChange_19 cX6_ok (Or.inl f6_59) rfl (by decide) (by decide) (by decide) rfl ?_
  refine j_ald0 dX6_keepChange_22 ?_
  refine j_dup dX6_keepChange_23 rfl ?_
  refine j_getI (k := 7) dX6_keepChange_24 cX6_ok (Or.inl f6_56) rfl (by decide) (by decide) (by decide) ?_
  refine j_top (y := nI 40) (by simp [uI_at, h3]) ?_
  refine j_iconst (1) dX6_keepChange_27 rfl ?_
  refine j_isub dX6_keepChange_28 ?_
  refine j_top (y := nI 39) (by exact nI_pred 39) ?_
  refine j_putI (k := 7) dX6_keepChange_29 cX6_ok (Or.inl f6_56) rfl (by decide) (by decide) (by decide) rfl ?_
  refine J.post (kc_32 (q := (q + 1) % 40) (k := 39) (by simp [uI_at]) (Nat.mod_lt _ (by decide)) (by simp [uI_at]) (by omega)) (fun r S' e => ⟨e.1, ?_⟩)
  rw [e.2]
  refine ⟨⟨?_, ht.2.1, fun w hw i hi => ?_, ht.2.2.2⟩, ⟨(q + 1) % 40, Nat.mod_lt _ (by decide), ?_, ?_, ?_, ?_, fun i hi f hf => ?_⟩, ?_⟩
  · rw [KCs_o _ _ _ _ (by omega) (by omega), uI_at, if_neg (by omega), uI_at, if_neg (by omega)]; exact ht.1
  · rw [KCs_o _ _ _ _ (by omega) (by omega), uI_at, if_neg (by omega), uI_at, if_neg (by omega)]; exact ht.2.2.1 w hw i hi
  · rw [KCs_o _ _ _ _ (by omega) (by omega)]; simp [uI_at]
  · unfold KCs pushK; simp [uI_at]
  · unfold KCs; simp [uI_at]; rfl
  · decide
  · have hi : i < 40 := hi
    rw [KCs_at _ _ _ _ hf]
    unfold pushH
    rw [if_pos rfl]
    by_cases e2 : i = 39
    · subst e2; simp
    · rw [if_neg (fun z => e2 (mod40 (by omega) (by omega) z))]
      simp only [e2, if_false]
      rw [uI_at, if_neg (by omega), uI_at, if_neg (by omega), show ((q + 1) % 40 + i) % 40 = (q + (i + 1)) % 40 by omega]
      exact h6 (i + 1) (by omega) f hf
  · unfold KCs
    exact Kp_uI (Kp_uI (Kp_uI (Kp_uI (Kp_uI (Kp_uI (Kp_uI (Kp_uI Kp.rf (List.mem_singleton.mpr rfl)) (List.mem_singleton.mpr rfl)) (List.mem_singleton.mpr rfl)) (List.mem_singleton.mpr rfl)) (List.mem_singleton.mpr rfl)) (List.mem_singleton.mpr rfl)) (List.mem_singleton.mpr rfl)) (List.mem_singleton.mpr rfl)

set_option maxRecDepth 20000 in
theorem s_X6_putInHat (h : TC n v S) {i : Nat} {x : Int32} (hi : i < 8) : Rqv a mX6_putInHat 1 [.ref (a 1), .int (nI i), .int x] S (fun S' => S' = uI S 16 i (if nI (v 0 i) + x < 9 then nI (v 0 i) + x else 9)) := by
  show J _ _ _ _ 0 [_, _, _] [] _
  refine j_ald0 dX6_putInHat_0 ?_
  refine j_getR (k := 0) (15) dX6_putInHat_1 cX6_ok (Or.inl f6_13) rfl (by decide) (by decide) (by decide) rfl ?_
  refine j_iconst (0) dX6_putInHat_4 rfl ?_
  refine j_aald (n := 0) (16) dX6_putInHat_5 (Or.inr rfl) (by decide) rfl (by decide) (by decide) rfl ?_
  refine j_ild1 dX6_putInHat_6 ?_
  refine j_gets (i := 1) dX6_putInHat_7 rfl (Or.inl f6_39) ?_
  refine j_iconst (0) dX6_putInHat_10 rfl ?_
  refine j_tald (i := 1) (k := 0) dX6_putInHat_11 rfl rfl (by decide) (by decide) ?_
  refine j_top (y := 9) (rfl) ?_
  refine j_ald0 dX6_putInHat_12 ?_
  refine j_getR (k := 0) (15) dX6_putInHat_13 cX6_ok (Or.inl f6_13) rfl (by decide) (by decide) (by decide) rfl ?_
  refine j_iconst (0) dX6_putInHat_16 rfl ?_
  refine j_aald (n := 0) (16) dX6_putInHat_17 (Or.inr rfl) (by decide) rfl (by decide) (by decide) rfl ?_
  refine j_ild1 dX6_putInHat_18 ?_
  refine j_iald dX6_putInHat_19 rfl (by decide) rfl (by omega) (by decide) ?_
  refine j_top (y := nI (v 0 i)) (h.2.2.1 0 (by decide) i hi) ?_
  refine j_ild2 dX6_putInHat_20 ?_
  refine j_iadd dX6_putInHat_21 ?_
  refine j_min dX6_putInHat_22 l6_46 t_min_s t_mini t_min_c (Nat.le_of_ble_eq_true rfl) (by omega) ?_
  refine j_iast dX6_putInHat_25 rfl (by decide) rfl (by omega) (by decide) ?_
  refine j_vret dX6_putInHat_26 rfl ?_
  exact ⟨rfl, rfl⟩

set_option maxRecDepth 20000 in
theorem s_X6_change {i w x : Nat} (ht : TC n v S) (hh : HC k u h S) (hw : w < 12) (hi : i < 8) (hx : x ≤ mostN w) : Rqi a mX6_change 1 [.ref (a 1), .int (nI i), .int (nI w), .int (nI x)] S (fun r S' => r = nI (v w i) ∧ Kp [1] S S' ∧ TC n (up2 v w i x) S' ∧ (if x = v w i then HC k u h S' else HC (pushK k) 0 (pushH k h (mk4 i w (v w i) x)) S')) := by
  have b1 := ht.le99 hw hi
  have b2 := mostN_le w
  show J _ _ _ _ 0 [_, _, _, _, .null] [] _
  refine j_ald0 dX6_change_0 ?_
  refine j_getR (k := 0) (15) dX6_change_1 cX6_ok (Or.inl f6_13) rfl (by decide) (by decide) (by decide) rfl ?_
  refine j_ild2 dX6_change_4 ?_
  refine j_aald (n := w) (16 + w) dX6_change_5 (Or.inr rfl) (by decide) rfl hw (by decide) (fr_vr hw) ?_
  refine j_ild1 dX6_change_6 ?_
  refine j_iald (n := i) dX6_change_7 (ck_vr hw) (by omega) rfl hi (by decide) ?_
  refine j_top (y := nI (v w i)) (ht.2.2.1 w hw i hi) ?_
  refine j_ist4 dX6_change_8 rfl (by decide) ?_
  refine j_ild3 dX6_change_10 ?_
  refine j_ild4 dX6_change_11 ?_
  refine j_icmpeq 34 dX6_change_13 (by decide) (fun c_13 => ?_) (fun c_13 => ?_)
  · have e13 : x = v w i := (nI_eq (by omega) (by omega)).mp c_13
    refine j_ild4 dX6_change_34 ?_
    refine j_iret dX6_change_36 rfl ?_
    exact ⟨_, rfl, rfl, Kp.rf, by rw [e13, up2_same]; exact ht, by rw [if_pos e13]; exact hh⟩
  have e13 : ¬ x = v w i := fun z => c_13 (by rw [z])
  refine j_ald0 dX6_change_16 ?_
  refine j_ild1 dX6_change_17 ?_
  refine j_ild2 dX6_change_18 ?_
  refine j_ild4 dX6_change_19 ?_
  refine j_ild3 dX6_change_21 ?_
  refine j_qvV4 dX6_change_22 kX6_keepChange l6_52 rfl (by decide) rfl (Nat.le_of_ble_eq_true rfl) (Nat.le_of_ble_eq_true rfl) (by omega) (s_X6_keepChange (x := mk4 i w (v w i) x) ht hh) (fun S1 h1 => ?_)
  obtain ⟨ht1, hh1, hk1⟩ := h1
  refine j_ald0 dX6_change_25 ?_
  refine j_getR (k := 0) (15) dX6_change_26 cX6_ok (Or.inl f6_13) rfl (by decide) (by decide) (by decide) rfl ?_
  refine j_ild2 dX6_change_29 ?_
  refine j_aald (n := w) (16 + w) dX6_change_30 (Or.inr rfl) (by decide) rfl hw (by decide) (fr_vr hw) ?_
  refine j_ild1 dX6_change_31 ?_
  refine j_ild3 dX6_change_32 ?_
  refine j_iast (n := i) dX6_change_33 (ck_vr hw) (by omega) rfl hi (by decide) ?_
  refine j_ild4 dX6_change_34 ?_
  refine j_iret dX6_change_36 rfl ?_
  exact ⟨_, rfl, rfl, Kp_uI hk1 (by rw [rg_vr hw]; decide), ht1.uI_v hw hi hx, by rw [if_neg e13]; exact hh1.uI_v hw⟩

end Things

