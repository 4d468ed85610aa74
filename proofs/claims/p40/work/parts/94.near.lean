/-! numbers near each other -/
theorem subc {x : UInt64} (hx : DF x) (h0 : 0 ≤ zv x) (h1 : zv x ≤ 512 * oneU) : DF (FP.dsub x c9) ∧ zv (FP.dsub x c9) ≤ zv x - 4397 * uu := by
  have hu := uu_pos
  have hc := c9_DF
  have e : 512 * oneU = 2 ^ 51 * uu := by
    unfold oneU
    rw [← Int.mul_assoc]
    rfl
  rw [e] at h1
  have h := sub_near hx hc.1 (by omega) (by omega)
  exact ⟨h.1, by omega⟩
theorem addc {x : UInt64} (hx : DF x) (h0 : 0 ≤ zv x) (h1 : zv x ≤ 512 * oneU) : DF (FP.dadd x c9) ∧ zv x + 4397 * uu ≤ zv (FP.dadd x c9) := by
  have hu := uu_pos
  have hc := c9_DF
  have e : 512 * oneU = 2 ^ 51 * uu := by
    unfold oneU
    rw [← Int.mul_assoc]
    rfl
  rw [e] at h1
  have h := add_near hx hc.1 (by omega) (by omega)
  exact ⟨h.1, by omega⟩
theorem subd {x y : UInt64} (hx : DF x) (hy : DF y) (h0 : 0 ≤ zv x) (h1 : zv x ≤ oneU) (h2 : 0 ≤ zv y) (h3 : zv y ≤ oneU) (ha : zv x ≤ zv y + 2 * uu) (hb : zv y ≤ zv x + 2 * uu) : DF (FP.dsub x y) ∧ zv (FP.dsub x y &&& 0x7fffffffffffffff) ≤ 3 * uu := by
  have hu := uu_pos
  have h := sub_near hx hy (by omega) (by omega)
  refine ⟨h.1, ?_⟩
  rw [(abs_DF h.1).2]
  split <;> omega
/-- whole numbers -/
theorem i2d_zv {P : Nat} (hP : P < 2 ^ 20) : DF (FP.i2d (nI P)) ∧ zv (FP.i2d (nI P)) = (P : Int) * oneU := by
  have h := FP.Core.i2d_int (nI P)
  have hf := FP.Core.i2d_fin (nI P)
  refine ⟨hf, ?_⟩
  obtain ⟨s, c, q, e⟩ := hf
  unfold FP.Core.DInt at h
  rw [e, nI_toInt (by omega)] at h
  have hfit := FP.Core.val64_fits (FP.Core.i2d (nI P))
  rw [e] at hfit
  have hw := FP.Core.whole_units h hfit.2.1
  have e1 : FP.Core.b64.qmin.toNat = 0 := by decide
  have e2 : (-FP.Core.b64.qmin).toNat = 1074 := by decide
  rw [e1, e2, fl_1074] at hw
  have e3 : ((2 ^ 0 : Nat) : Int) = 1 := rfl
  rw [e3, Int.mul_one] at hw
  show FP.Core.zval FP.Core.b64 (FP.Core.val64 (FP.Core.i2d (nI P))) = _
  rw [e]
  show FP.Core.signed s (FP.Core.inUnits c q FP.Core.b64.qmin) = _
  rw [hw, oneU_eq, ← uk]
/-- a part that is no more than all -/
theorem dq_in {A B : Nat} (hA : A < 2 ^ 53) (hB : B < 2 ^ 53) (hle : A ≤ B) : DF (dq A B) ∧ 0 ≤ zv (dq A B) ∧ zv (dq A B) ≤ oneU ∧ (B = 0 → zv (dq A B) = 0) := by
  rcases Nat.eq_zero_or_pos B with h0 | h0
  · have hq := dq_0 (A := A) (B := B) (Or.inr h0)
    have hz := q_zero hq (by decide)
    have ho : 0 < oneU := Int.mul_pos (by decide) uu_pos
    exact ⟨q_fin hq (by decide) (by decide), by omega, by omega, fun _ => hz⟩
  · have hq := dq_Qd hA hB h0
    exact ⟨q_fin hq h0 (by omega), q_pos hq, q_le1 hq h0 hle, fun z => by omega⟩
theorem dq_Ap {A B : Nat} (hA : A < 2 ^ 53) (hB : B < 2 ^ 53) (h0 : 0 < B) (hle : A ≤ 2 ^ 10 * B) : Ap (dq A B) A B 1 := q_ap (dq_Qd hA hB h0) h0 hle
theorem dq_le {A B A' B' : Nat} (hA : A < 2 ^ 53) (hB : B < 2 ^ 53) (h0 : 0 < B) (hle : A ≤ 2 ^ 10 * B) (hA' : A' < 2 ^ 53) (hB' : B' < 2 ^ 53) (h0' : 0 < B') (hle' : A' ≤ 2 ^ 10 * B') (hc : A * B' ≤ A' * B) : zv (dq A B) ≤ zv (dq A' B') + 2 * uu := by
  have h := ap_le (dq_Ap hA hB h0 hle) (dq_Ap hA' hB' h0' hle') h0 h0' hc
  have e : ((1 : Nat) : Int) * uu + ((1 : Nat) : Int) * uu = 2 * uu := by
    rw [← Int.add_mul]
    rfl
  rw [e] at h
  exact h
theorem nx_lt {i : Nat} (hi : i < 99) : DF (dq (i / 2 + 1) (i + 2)) ∧ DF (dq (i / 2 + 1 + 1) (i + 1 + 2)) ∧ zv (dq (i / 2 + 1) (i + 2)) < zv (dq (i / 2 + 1 + 1) (i + 1 + 2)) := by
  have h1 := dq_Ap (A := i / 2 + 1) (B := i + 2) (by omega) (by omega) (by omega) (by omega)
  have h2 := dq_Ap (A := i / 2 + 1 + 1) (B := i + 1 + 2) (by omega) (by omega) (by omega) (by omega)
  refine ⟨h1.1, h2.1, ap_lt h1 h2 (by omega) (by omega) ?_ ?_⟩
  · have hm : i / 2 ≤ i := Nat.div_le_self _ _
    generalize i / 2 = m at *
    simp only [Nat.add_mul, Nat.mul_add]
    omega
  · have : (i + 2) * (i + 1 + 2) ≤ 101 * 102 := Nat.mul_le_mul (by omega) (by omega)
    omega
/-! a test that says ill, one that says well -/
theorem il_le {r i w : Nat} (hr : r ≤ 99) (hi : i ≤ 12) (hw : w ≤ 12) (h : 12 ≤ i + w) (hi0 : 0 < i) : zv (dq r (r + (100 - r))) ≤ zv (dq (r * i) (r * i + (100 - r) * (12 - w))) + 2 * uu := by
  have hu := uu_pos
  have b1 : r * i ≤ 99 * 12 := Nat.mul_le_mul hr hi
  have b2 : (100 - r) * (12 - w) ≤ 100 * 12 := Nat.mul_le_mul (by omega) (by omega)
  by_cases h0 : r = 0
  · subst h0
    have z := q_zero (dq_Qd (A := 0) (B := 0 + (100 - 0)) (by decide) (by decide) (by decide)) (by decide)
    have p := (dq_in (A := 0 * i) (B := 0 * i + (100 - 0) * (12 - w)) (by omega) (by omega) (by omega)).2.1
    omega
  · by_cases h1 : r * i + (100 - r) * (12 - w) = 0
    · exfalso
      have a1 : r * i = 0 := by omega
      have a2 : (100 - r) * (12 - w) = 0 := by omega
      rcases Nat.mul_eq_zero.mp a1 with e | e
      · exact h0 e
      · rcases Nat.mul_eq_zero.mp a2 with e2 | e2 <;> omega
    · refine dq_le (by omega) (by omega) (by omega) (by omega) (by omega) (by omega) (by omega) (by omega) ?_
      have c1 : (100 - r) * (12 - w) ≤ (100 - r) * i := Nat.mul_le_mul_left _ (by omega)
      calc r * (r * i + (100 - r) * (12 - w)) ≤ r * (r * i + (100 - r) * i) := Nat.mul_le_mul_left _ (by omega)
        _ = r * (i * (r + (100 - r))) := by rw [← Nat.add_mul, Nat.mul_comm i]
        _ = r * i * (r + (100 - r)) := by rw [Nat.mul_assoc]
theorem il_ge {r i w : Nat} (hr : r ≤ 99) (hi : i ≤ 12) (hw : w ≤ 12) (h : i + w ≤ 12) : zv (dq (r * i) (r * i + (100 - r) * (12 - w))) ≤ zv (dq r (r + (100 - r))) + 2 * uu := by
  have hu := uu_pos
  have b1 : r * i ≤ 99 * 12 := Nat.mul_le_mul hr hi
  have b2 : (100 - r) * (12 - w) ≤ 100 * 12 := Nat.mul_le_mul (by omega) (by omega)
  by_cases h1 : r * i + (100 - r) * (12 - w) = 0
  · have z := (dq_in (A := r * i) (B := r * i + (100 - r) * (12 - w)) (by omega) (by omega) (by omega)).2.2.2 h1
    have p := (dq_in (A := r) (B := r + (100 - r)) (by omega) (by omega) (by omega)).2.1
    omega
  · refine dq_le (by omega) (by omega) (by omega) (by omega) (by omega) (by omega) (by omega) (by omega) ?_
    have c1 : (100 - r) * i ≤ (100 - r) * (12 - w) := Nat.mul_le_mul_left _ (by omega)
    calc r * i * (r + (100 - r)) = r * (i * (r + (100 - r))) := by rw [Nat.mul_assoc]
      _ = r * (r * i + (100 - r) * i) := by rw [← Nat.add_mul, Nat.mul_comm i]
      _ ≤ r * (r * i + (100 - r) * (12 - w)) := Nat.mul_le_mul_left _ (by omega)
/-- s of 12 that so, f of 12 lies -/
theorem so_le {s f : Nat} (hs : s ≤ 12) (hf : f ≤ 6) : zv (dq s (s + (12 - s))) ≤ zv (dq (s * (12 - f)) (s * (12 - f) + (12 - s) * f)) + 2 * uu := by
  have hu := uu_pos
  have b1 : s * (12 - f) ≤ 12 * 12 := Nat.mul_le_mul hs (by omega)
  have b2 : (12 - s) * f ≤ 12 * 12 := Nat.mul_le_mul (by omega) (by omega)
  by_cases h0 : s = 0
  · subst h0
    have z := q_zero (dq_Qd (A := 0) (B := 0 + (12 - 0)) (by decide) (by decide) (by decide)) (by decide)
    have p := (dq_in (A := 0 * (12 - f)) (B := 0 * (12 - f) + (12 - 0) * f) (by omega) (by omega) (by omega)).2.1
    omega
  · have h1 : 0 < s * (12 - f) := Nat.mul_pos (by omega) (by omega)
    refine dq_le (by omega) (by omega) (by omega) (by omega) (by omega) (by omega) (by omega) (by omega) ?_
    have c1 : (12 - s) * f ≤ (12 - s) * (12 - f) := Nat.mul_le_mul_left _ (by omega)
    calc s * (s * (12 - f) + (12 - s) * f) ≤ s * (s * (12 - f) + (12 - s) * (12 - f)) := Nat.mul_le_mul_left _ (by omega)
      _ = s * ((12 - f) * (s + (12 - s))) := by rw [← Nat.add_mul, Nat.mul_comm (12 - f)]
      _ = s * (12 - f) * (s + (12 - s)) := by rw [Nat.mul_assoc]
theorem so_ge {s f : Nat} (hs : s ≤ 12) (hf : f ≤ 12) (hf6 : 6 ≤ f) : zv (dq (s * (12 - f)) (s * (12 - f) + (12 - s) * f)) ≤ zv (dq s (s + (12 - s))) + 2 * uu := by
  have hu := uu_pos
  have b1 : s * (12 - f) ≤ 12 * 12 := Nat.mul_le_mul hs (by omega)
  have b2 : (12 - s) * f ≤ 12 * 12 := Nat.mul_le_mul (by omega) (by omega)
  by_cases h1 : s * (12 - f) + (12 - s) * f = 0
  · have z := (dq_in (A := s * (12 - f)) (B := s * (12 - f) + (12 - s) * f) (by omega) (by omega) (by omega)).2.2.2 h1
    have p := (dq_in (A := s) (B := s + (12 - s)) (by omega) (by omega) (by omega)).2.1
    omega
  · refine dq_le (by omega) (by omega) (by omega) (by omega) (by omega) (by omega) (by omega) (by omega) ?_
    have c1 : (12 - s) * (12 - f) ≤ (12 - s) * f := Nat.mul_le_mul_left _ (by omega)
    calc s * (12 - f) * (s + (12 - s)) = s * ((12 - f) * (s + (12 - s))) := by rw [Nat.mul_assoc]
      _ = s * (s * (12 - f) + (12 - s) * (12 - f)) := by rw [← Nat.add_mul, Nat.mul_comm (12 - f)]
      _ ≤ s * (s * (12 - f) + (12 - s) * f) := Nat.mul_le_mul_left _ (by omega)
/-! stakes, as whole numbers -/
theorem st_mul : ∀ i, i < 11 → ∀ x, x < 13 → (sg i * nI x).toInt = ((i : Int) - 5) * (x : Int) ∧ -60 ≤ ((i : Int) - 5) * (x : Int) ∧ ((i : Int) - 5) * (x : Int) ≤ 60 := by decide +kernel
theorem st_min : ∀ i, i < 11 → ∀ j, j < 11 → ∀ k, k < 11 → (12 * mnI (sg i) (mnI (sg j) (sg k))).toInt = 12 * (((min i (min j k) : Nat) : Int) - 5) := by decide +kernel
theorem ls_int {v : Nat → Nat → Nat} (h : ∀ i, i < 3 → v 11 i ≤ 12) {i j k : Nat} (hi : i < 11) (hj : j < 11) (hk : k < 11) : (lsQ (qI v) i j k).toInt = 12 * (((min i (min j k) : Nat) : Int) - 5) - (((i : Int) - 5) * (v 11 0 : Int) + ((j : Int) - 5) * (v 11 1 : Int) + ((k : Int) - 5) * (v 11 2 : Int)) := by
  have a0 := st_mul i hi (v 11 0) (by have := h 0 (by decide); omega)
  have a1 := st_mul j hj (v 11 1) (by have := h 1 (by decide); omega)
  have a2 := st_mul k hk (v 11 2) (by have := h 2 (by decide); omega)
  have am := st_min i hi j hj k hk
  unfold lsQ lossI qI
  have m0 : min i (min j k) ≤ 10 := by omega
  rw [Int32.toInt_sub, Int32.toInt_add, Int32.toInt_add, am, a0.1, a1.1, a2.1]
  generalize min i (min j k) = m at *
  generalize ((i : Int) - 5) * (v 11 0 : Int) = X at *
  generalize ((j : Int) - 5) * (v 11 1 : Int) = Y at *
  generalize ((k : Int) - 5) * (v 11 2 : Int) = Z at *
  have e1 : (X + Y).bmod (2 ^ 32) = X + Y := Int.bmod_eq_of_le (by omega) (by omega)
  rw [e1]
  have e2 : (X + Y + Z).bmod (2 ^ 32) = X + Y + Z := Int.bmod_eq_of_le (by omega) (by omega)
  rw [e2]
  exact Int.bmod_eq_of_le (by omega) (by omega)
theorem sure_iff {v : Nat → Nat → Nat} (h : ∀ i, i < 3 → v 11 i ≤ 12) : 0 < (sureP v).1 ↔ ¬ v 11 0 + v 11 1 + v 11 2 = 12 := by
  obtain ⟨h1, h2⟩ := sure_ok (v := v)
  constructor
  · intro hp hs
    rcases h1 with e | ⟨i, j, k, hi, hj, hk, e, -⟩
    · rw [e] at hp
      exact absurd hp (by decide)
    · rw [e] at hp
      have hq := ls_int h hi hj hk
      have hp' : 0 < (lsQ (qI v) i j k).toInt := Int32.lt_iff_toInt_lt.mp hp
      rw [hq] at hp'
      have m1 : ((min i (min j k) : Nat) : Int) ≤ i := by omega
      have m2 : ((min i (min j k) : Nat) : Int) ≤ j := by omega
      have m3 : ((min i (min j k) : Nat) : Int) ≤ k := by omega
      generalize ((min i (min j k) : Nat) : Int) = m at *
      have c1 := Int.mul_le_mul_of_nonneg_right (show m - 5 ≤ (i : Int) - 5 by omega) (show (0 : Int) ≤ (v 11 0 : Int) by omega)
      have c2 := Int.mul_le_mul_of_nonneg_right (show m - 5 ≤ (j : Int) - 5 by omega) (show (0 : Int) ≤ (v 11 1 : Int) by omega)
      have c3 := Int.mul_le_mul_of_nonneg_right (show m - 5 ≤ (k : Int) - 5 by omega) (show (0 : Int) ≤ (v 11 2 : Int) by omega)
      have c4 : (m - 5) * (v 11 0 : Int) + (m - 5) * (v 11 1 : Int) + (m - 5) * (v 11 2 : Int) = (m - 5) * 12 := by
        rw [← Int.mul_add, ← Int.mul_add]
        congr 1
        omega
      omega
  · intro hs
    by_cases hgt : 12 < v 11 0 + v 11 1 + v 11 2
    · have hq := ls_int h (i := 4) (j := 4) (k := 4) (by decide) (by decide) (by decide)
      have hm := h2 4 (by decide) 4 (by decide) 4 (by decide)
      refine Int32.lt_of_lt_of_le ?_ hm
      rw [Int32.lt_iff_toInt_lt, hq]
      have e : ((min 4 (min 4 4) : Nat) : Int) = 4 := rfl
      rw [e]
      show (0 : Int) < _
      omega
    · have hq := ls_int h (i := 6) (j := 6) (k := 6) (by decide) (by decide) (by decide)
      have hm := h2 6 (by decide) 6 (by decide) 6 (by decide)
      refine Int32.lt_of_lt_of_le ?_ hm
      rw [Int32.lt_iff_toInt_lt, hq]
      have e : ((min 6 (min 6 6) : Nat) : Int) = 6 := rfl
      rw [e]
      show (0 : Int) < _
      omega
/-- he loses by his own stakes -/
theorem sure_at {v : Nat → Nat → Nat} (hp : 0 < (sureP v).1) : (sureP v).1 = mnI (sureV v 0) (mnI (sureV v 1) (sureV v 2)) * 12 - (sureV v 0 * nI (v 11 0) + sureV v 1 * nI (v 11 1) + sureV v 2 * nI (v 11 2)) := by
  have e0 : sureV v 0 = (sureP v).2.1 := rfl
  have e1 : sureV v 1 = (sureP v).2.2.1 := rfl
  have e2 : sureV v 2 = (sureP v).2.2.2 := rfl
  rw [e0, e1, e2]
  rcases (sure_ok (v := v)).1 with e | ⟨i, j, k, -, -, -, e, -⟩
  · rw [e] at hp
    exact absurd hp (by decide)
  · rw [e]
    show lsQ (qI v) i j k = _
    unfold lsQ lossI qI
    rw [Int32.mul_comm 12]
