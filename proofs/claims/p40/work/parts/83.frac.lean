/-! quotients of what the class answers; sums of them -/
theorem qd_val {x y : Int64} {a b : Nat} (hx : x.toInt = a) (hy : y.toInt = b) (ha : a < 2 ^ 53) (hb : b < 2 ^ 53) (h0 : 0 < b) : Qd (FP.ddiv (FP.l2d x) (FP.l2d y)) a b := by
  show FP.Core.val64 (FP.Core.ddiv (FP.Core.l2d x) (FP.Core.l2d y)) = _
  rw [FP.Core.val64_ddiv]
  obtain ⟨c, q, e1⟩ := FP.Core.l2d_shape x
  obtain ⟨d, r, e2⟩ := FP.Core.l2d_shape y
  have w1 := FP.Core.l2d_whole (a := x) ⟨by rw [hx]; omega, by rw [hx]; omega⟩
  have w2 := FP.Core.l2d_whole (a := y) ⟨by rw [hy]; omega, by rw [hy]; omega⟩
  rw [hx, decide_eq_false (show ¬ (a : Int) < 0 by omega)] at e1
  rw [hy, decide_eq_false (show ¬ (b : Int) < 0 by omega)] at e2
  rw [e1, hx] at w1
  rw [e2, hy] at w2
  rw [e1, e2]
  have w1' : c * 2 ^ q.toNat = a * 2 ^ (-q).toNat := by
    have h : ((c * 2 ^ q.toNat : Nat) : Int) = (a : Int) * ((2 ^ (-q).toNat : Nat) : Int) := w1
    rw [← Int.natCast_mul] at h
    exact Int.ofNat.inj h
  have w2' : d * 2 ^ r.toNat = b * 2 ^ (-r).toNat := by
    have h : ((d * 2 ^ r.toNat : Nat) : Int) = (b : Int) * ((2 ^ (-r).toNat : Nat) : Int) := w2
    rw [← Int.natCast_mul] at h
    exact Int.ofNat.inj h
  have hd : d ≠ 0 := fun z => by
    rw [z, Nat.zero_mul] at w2'
    have := Nat.mul_pos h0 (Nat.two_pow_pos (-r).toNat)
    omega
  have hg : FP.Core.quotient FP.Core.b64 (.fin false c q) (.fin false d r) = FP.Core.roundRatio FP.Core.b64 false c d (q - r) := by
    show (if d = 0 then _ else _) = _
    rw [if_neg hd]
    rfl
  rw [hg]
  refine FP.Core.roundRatio_congr (Nat.pos_of_ne_zero hd) h0 ?_
  have hxp : (q - r - 0).toNat + ((-q).toNat + r.toNat) = q.toNat + (-r).toNat + (0 - (q - r)).toNat := by omega
  generalize (q - r - 0).toNat = X at *
  generalize (0 - (q - r)).toNat = Y at *
  refine Nat.eq_of_mul_eq_mul_right (Nat.two_pow_pos ((-q).toNat + r.toNat)) ?_
  calc c * b * 2 ^ X * 2 ^ ((-q).toNat + r.toNat) = c * b * 2 ^ (X + ((-q).toNat + r.toNat)) := by rw [Nat.pow_add 2 X, Nat.mul_assoc]
    _ = c * b * 2 ^ (q.toNat + (-r).toNat + Y) := by rw [hxp]
    _ = (c * 2 ^ q.toNat) * (b * 2 ^ (-r).toNat) * 2 ^ Y := by rw [Nat.pow_add, Nat.pow_add]; ac_rfl
    _ = (a * 2 ^ (-q).toNat) * (d * 2 ^ r.toNat) * 2 ^ Y := by rw [w1', w2']
    _ = a * d * 2 ^ Y * 2 ^ ((-q).toNat + r.toNat) := by rw [Nat.pow_add]; ac_rfl
theorem lN_toInt' {n : Nat} (h : n < 2 ^ 63) : (lN n).toInt = (n : Int) := lg_ofNat_toInt (by omega)
theorem rr_zero (B : Nat) : rr 0 B = rr 0 1 := by
  unfold rr FP.Core.roundRatio
  rw [if_pos rfl, if_pos rfl]
/-- what a question's two answers give as a number -/
def dq (A B : Nat) : UInt64 := FP.ddiv (FP.l2d (lowV A B 0)) (FP.l2d (lowV A B 1))
theorem dq_Qd {A B : Nat} (hA : A < 2 ^ 53) (hB : B < 2 ^ 53) (h0 : 0 < B) : Qd (dq A B) A B := by
  unfold dq lowV
  by_cases hz : A = 0
  · rw [if_pos (Or.inl hz), if_pos (Or.inl hz), if_pos rfl, if_neg (by decide), hz]
    have h := qd_val (x := 0) (y := 1) (a := 0) (b := 1) rfl rfl (by decide) (by decide) (by decide)
    exact h.trans (rr_zero B).symm
  · have hn : ¬ (A = 0 ∨ B = 0) := fun z => z.elim hz (fun q => by omega)
    have hg : 0 < Nat.gcd A B := Nat.gcd_pos_of_pos_right _ h0
    have d1 := Nat.gcd_dvd_left A B
    have d2 := Nat.gcd_dvd_right A B
    rw [if_neg hn, if_neg hn, if_pos rfl, if_neg (by decide)]
    have l1 : A / Nat.gcd A B ≤ A := Nat.div_le_self _ _
    have l2 : B / Nat.gcd A B ≤ B := Nat.div_le_self _ _
    have l3 : 0 < B / Nat.gcd A B := Nat.div_pos (Nat.le_of_dvd h0 d2) hg
    have h := qd_val (x := lN (A / Nat.gcd A B)) (y := lN (B / Nat.gcd A B)) (lN_toInt' (by omega)) (lN_toInt' (by omega)) (by omega) (by omega) l3
    refine h.trans (FP.Core.roundRatio_congr l3 h0 ?_)
    obtain ⟨u, hu⟩ := d1
    obtain ⟨w, hw⟩ := d2
    generalize Nat.gcd A B = g at *
    rw [hu, hw, Nat.mul_div_cancel_left _ hg, Nat.mul_div_cancel_left _ hg]
    ac_rfl
theorem dq_0 {A B : Nat} (h : A = 0 ∨ B = 0) : Qd (dq A B) 0 1 := by
  unfold dq lowV
  rw [if_pos h, if_pos h, if_pos rfl, if_neg (by decide)]
  exact qd_val (x := 0) (y := 1) (a := 0) (b := 1) rfl rfl (by decide) (by decide) (by decide)
/-- about A / B, and nothing if A is nothing -/
def Sp (x : UInt64) (A B e : Nat) : Prop := Ap x A B e ∧ (A = 0 → zv x = 0)
theorem q_sp {x : UInt64} {A B : Nat} (h : Qd x A B) (hB : 0 < B) (hA : A ≤ 2 ^ 10 * B) : Sp x A B 1 := ⟨q_ap h hB hA, fun z => by subst z; exact q_zero h hB⟩
theorem sp_0 (B : Nat) : Sp 0 0 B 0 := by
  have h := d0_DF
  refine ⟨⟨h.1, ?_, ?_⟩, fun _ => h.2⟩
  · rw [h.2]; simp
  · rw [h.2]; simp
theorem ap_ub {x : UInt64} {A B e m : Nat} (h : Ap x A B e) (hB : 0 < B) (hA : A ≤ m * B) : zv x ≤ (m : Int) * oneU + (e : Int) * uu := by
  have hu : 0 < oneU := Int.mul_pos (by decide) uu_pos
  refine Int.le_of_mul_le_mul_left (a := (B : Int)) ?_ (by omega)
  have e1 : (A : Int) * oneU ≤ ((m * B : Nat) : Int) * oneU := Int.mul_le_mul_of_nonneg_right (Int.ofNat_le.mpr hA) (by omega)
  rw [Int.natCast_mul, Int.mul_comm (m : Int), Int.mul_assoc] at e1
  rw [Int.mul_add]
  have := h.2.1
  omega
theorem ap_lb {x : UInt64} {A B e : Nat} (h : Ap x A B e) (hB : 0 < B) : -((e : Int) * uu) ≤ zv x := by
  have hu : 0 < oneU := Int.mul_pos (by decide) uu_pos
  refine Int.le_of_mul_le_mul_left (a := (B : Int)) ?_ (by omega)
  have e1 : 0 ≤ (A : Int) * oneU := Int.mul_nonneg (by omega) (by omega)
  rw [Int.mul_neg]
  have := h.2.2
  omega
theorem ap_add {x y : UInt64} {A A' B e e' : Nat} (h : Ap x A B e) (h' : Ap y A' B e') (hB : 0 < B) (hA : A ≤ 2 ^ 8 * B) (hA' : A' ≤ 2 ^ 8 * B) (he : e + e' ≤ 2 ^ 20) : Ap (FP.dadd x y) (A + A') B (e + e' + 1) := by
  have hu := uu_pos
  have u1 := ap_ub h hB hA
  have u2 := ap_ub h' hB hA'
  have l1 := ap_lb h hB
  have l2 := ap_lb h' hB
  have e1 : ((2 ^ 8 : Nat) : Int) * oneU = 2 ^ 50 * uu := by
    rw [oneU_eq, ← Int.mul_assoc]
    rfl
  rw [e1] at u1 u2
  have e2 : (e : Int) * uu + (e' : Int) * uu ≤ 2 ^ 20 * uu := by
    rw [← Int.add_mul]
    exact Int.mul_le_mul_of_nonneg_right (by omega) (by omega)
  obtain ⟨a1, a2, a3⟩ := add_near h.1 h'.1 (by omega) (by omega)
  have b0 : (0 : Int) ≤ (B : Int) := by omega
  have m1 := Int.mul_le_mul_of_nonneg_left a2 b0
  have m2 := Int.mul_le_mul_of_nonneg_left a3 b0
  have s : ((e + e' + 1 : Nat) : Int) * uu = (e : Int) * uu + (e' : Int) * uu + uu := by
    rw [Int.natCast_add, Int.natCast_add, Int.add_mul, Int.add_mul]
    simp
  have s2 : ((A + A' : Nat) : Int) * oneU = (A : Int) * oneU + (A' : Int) * oneU := by rw [Int.natCast_add, Int.add_mul]
  have h1 := h.2
  have h2 := h'.2
  refine ⟨a1, ?_, ?_⟩
  · rw [s, s2, Int.mul_add, Int.mul_add]
    rw [Int.mul_add, Int.mul_add] at m1
    omega
  · rw [s, s2, Int.mul_add, Int.mul_add]
    rw [Int.mul_add, Int.mul_add] at m2
    omega
theorem sp_add {x y : UInt64} {A A' B e e' : Nat} (h : Sp x A B e) (h' : Sp y A' B e') (hB : 0 < B) (hA : A ≤ 2 ^ 8 * B) (hA' : A' ≤ 2 ^ 8 * B) (he : e + e' ≤ 2 ^ 20) : Sp (FP.dadd x y) (A + A') B (e + e' + 1) := by
  refine ⟨ap_add h.1 h'.1 hB hA hA' he, fun z => ?_⟩
  exact (add_zero h.1.1 h'.1.1 (by rw [h.2 (by omega), h'.2 (by omega)]; rfl)).2
theorem ap_le {x y : UInt64} {A B e A' B' e' : Nat} (h : Ap x A B e) (h' : Ap y A' B' e') (hB : 0 < B) (hB' : 0 < B') (hc : A * B' ≤ A' * B) : zv x ≤ zv y + ((e : Int) * uu + (e' : Int) * uu) := by
  have hu : 0 < oneU := Int.mul_pos (by decide) uu_pos
  refine Int.le_of_mul_le_mul_left (a := ((B * B' : Nat) : Int)) ?_ (by have := Nat.mul_pos hB hB'; omega)
  have c1 : ((A * B' : Nat) : Int) * oneU ≤ ((A' * B : Nat) : Int) * oneU := Int.mul_le_mul_of_nonneg_right (Int.ofNat_le.mpr hc) (by omega)
  have m1 := Int.mul_le_mul_of_nonneg_left h.2.1 (show (0 : Int) ≤ (B' : Int) by omega)
  have m2 := Int.mul_le_mul_of_nonneg_left h'.2.2 (show (0 : Int) ≤ (B : Int) by omega)
  rw [Int.natCast_mul, Int.natCast_mul] at c1
  rw [Int.natCast_mul, Int.mul_add, Int.mul_add]
  rw [Int.mul_add] at m1 m2
  have r1 : (B' : Int) * ((B : Int) * zv x) = (B : Int) * (B' : Int) * zv x := by rw [← Int.mul_assoc, Int.mul_comm (B' : Int)]
  have r2 : (B' : Int) * ((A : Int) * oneU) = (A : Int) * (B' : Int) * oneU := by rw [← Int.mul_assoc, Int.mul_comm (B' : Int)]
  have r3 : (B' : Int) * ((B : Int) * ((e : Int) * uu)) = (B : Int) * (B' : Int) * ((e : Int) * uu) := by rw [← Int.mul_assoc, Int.mul_comm (B' : Int)]
  have r4 : (B : Int) * ((A' : Int) * oneU) = (A' : Int) * (B : Int) * oneU := by rw [← Int.mul_assoc, Int.mul_comm (B : Int)]
  have r5 : (B : Int) * ((B' : Int) * zv y) = (B : Int) * (B' : Int) * zv y := by rw [← Int.mul_assoc]
  have r6 : (B : Int) * ((B' : Int) * ((e' : Int) * uu)) = (B : Int) * (B' : Int) * ((e' : Int) * uu) := by rw [← Int.mul_assoc]
  rw [r1, r2, r3] at m1
  rw [r4, r5, r6] at m2
  omega
theorem ap_lt {x y : UInt64} {A B e A' B' e' : Nat} (h : Ap x A B e) (h' : Ap y A' B' e') (hB : 0 < B) (hB' : 0 < B') (hc : A * B' < A' * B) (hs : B * B' * (e + e') < 2 ^ 42) : zv x < zv y := by
  have hu := uu_pos
  have ho : 0 < oneU := Int.mul_pos (by decide) uu_pos
  refine Int.lt_of_mul_lt_mul_left (a := ((B * B' : Nat) : Int)) ?_ (by omega)
  have c1 : ((A * B' + 1 : Nat) : Int) * oneU ≤ ((A' * B : Nat) : Int) * oneU := Int.mul_le_mul_of_nonneg_right (Int.ofNat_le.mpr hc) (by omega)
  have c2 : ((B * B' * (e + e') : Nat) : Int) * uu < oneU := by
    rw [oneU_eq]
    exact Int.mul_lt_mul_of_pos_right (Int.ofNat_lt.mpr hs) hu
  have m1 := Int.mul_le_mul_of_nonneg_left h.2.1 (show (0 : Int) ≤ (B' : Int) by omega)
  have m2 := Int.mul_le_mul_of_nonneg_left h'.2.2 (show (0 : Int) ≤ (B : Int) by omega)
  rw [Int.natCast_add, Int.add_mul, Int.natCast_mul, Int.natCast_mul, show ((1 : Nat) : Int) * oneU = oneU from Int.one_mul _] at c1
  rw [Int.natCast_mul, Int.natCast_mul, Int.natCast_add, Int.mul_add, Int.add_mul, Int.mul_assoc _ (e : Int), Int.mul_assoc _ (e' : Int)] at c2
  rw [Int.natCast_mul]
  rw [Int.mul_add] at m1 m2
  have r1 : (B' : Int) * ((B : Int) * zv x) = (B : Int) * (B' : Int) * zv x := by rw [← Int.mul_assoc, Int.mul_comm (B' : Int)]
  have r2 : (B' : Int) * ((A : Int) * oneU) = (A : Int) * (B' : Int) * oneU := by rw [← Int.mul_assoc, Int.mul_comm (B' : Int)]
  have r3 : (B' : Int) * ((B : Int) * ((e : Int) * uu)) = (B : Int) * (B' : Int) * ((e : Int) * uu) := by rw [← Int.mul_assoc, Int.mul_comm (B' : Int)]
  have r4 : (B : Int) * ((A' : Int) * oneU) = (A' : Int) * (B : Int) * oneU := by rw [← Int.mul_assoc, Int.mul_comm (B : Int)]
  have r5 : (B : Int) * ((B' : Int) * zv y) = (B : Int) * (B' : Int) * zv y := by rw [← Int.mul_assoc]
  have r6 : (B : Int) * ((B' : Int) * ((e' : Int) * uu)) = (B : Int) * (B' : Int) * ((e' : Int) * uu) := by rw [← Int.mul_assoc]
  rw [r1, r2, r3] at m1
  rw [r4, r5, r6] at m2
  omega
theorem ap_1 {x : UInt64} {B e : Nat} (h : Ap x B B e) (hB : 0 < B) : zv x ≤ oneU + (e : Int) * uu ∧ oneU ≤ zv x + (e : Int) * uu := by
  have h1 : Ap FP.dconst1 1 1 0 := by
    have d := d1_DF
    exact ⟨d.1, by rw [d.2]; simp, by rw [d.2]; simp⟩
  have a1 := ap_le h h1 hB (by decide) (by omega)
  have a2 := ap_le h1 h (by decide) hB (by omega)
  rw [d1_DF.2] at a1 a2
  simp only [Int.natCast_zero, Int.zero_mul, Int.cast_ofNat_Int] at a1 a2
  omega
