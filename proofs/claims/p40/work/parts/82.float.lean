/-! floats: their values, in units of the least number; quotients and sums between multiples of 2^-42 -/
abbrev zv (x : UInt64) : Int := FP.Core.zval FP.Core.b64 (FP.Core.val64 x)
abbrev DF (x : UInt64) : Prop := FP.Core.DFin x
def uN : Nat := 2 ^ 1032
def uu : Int := (uN : Int)
theorem uN_pos : 0 < uN := Nat.two_pow_pos _
theorem uu_pos : 0 < uu := by have := uN_pos; show 0 < (uN : Int); omega
theorem fl_q42 : ((-42 : Int) - FP.Core.b64.qmin).toNat = 1032 := by decide +kernel
theorem fl_q0 : ((0 : Int) - FP.Core.b64.qmin).toNat = 1074 := by decide +kernel
theorem fl_1074 : (2 : Nat) ^ 1074 = 2 ^ 42 * uN := by unfold uN; rw [← Nat.pow_add]
theorem fl_p : FP.Core.b64.p = 53 := rfl
/-- a multiple of 2^-42 is a float -/
theorem rep (s : Bool) {k : Nat} (hk : k < 2 ^ 53) : ∃ V, FP.Core.fits FP.Core.b64 V ∧ V ≠ .nan ∧ FP.Core.zmag FP.Core.b64 V = k * uN ∧ FP.Core.zval FP.Core.b64 V = FP.Core.signed s k * uu := by
  obtain ⟨c', q', h1, h2⟩ := FP.Core.round_exact fl_good s (c := k) (q := -42) (by rw [fl_p]; exact hk) (by decide +kernel) (by decide +kernel)
  have e : FP.Core.inUnits c' q' FP.Core.b64.qmin = k * uN := by
    rw [h2]
    unfold FP.Core.inUnits
    rw [fl_q42]
    rfl
  refine ⟨.fin s c' q', ?_, FP.Core.Datum.noConfusion, e, ?_⟩
  · rw [← h1]
    exact FP.Core.round_fits fl_good _
  · show FP.Core.signed s (FP.Core.inUnits c' q' FP.Core.b64.qmin) = _
    rw [e, FP.Core.signed_mul]
    rfl
/-- a quotient of whole numbers -/
abbrev rr (A B : Nat) : FP.Core.Datum := FP.Core.roundRatio FP.Core.b64 false A B 0
theorem rr_fits (A : Nat) {B : Nat} (hB : 0 < B) : FP.Core.fits FP.Core.b64 (rr A B) := FP.Core.roundRatio_fits fl_good _ _ hB _
theorem rr_zval (A B : Nat) : FP.Core.zval FP.Core.b64 (rr A B) = (FP.Core.zmag FP.Core.b64 (rr A B) : Int) := by
  unfold FP.Core.zval
  rw [FP.Core.sgn_roundRatio]
  rfl
theorem fl_units (A : Nat) : FP.Core.inUnits A 0 FP.Core.b64.qmin = A * 2 ^ 42 * uN := by
  unfold FP.Core.inUnits
  rw [fl_q0, fl_1074, Nat.mul_assoc]
theorem rr_le {A B k : Nat} (hB : 0 < B) (hk : k < 2 ^ 53) (h : A * 2 ^ 42 ≤ k * B) : FP.Core.zmag FP.Core.b64 (rr A B) ≤ k * uN := by
  obtain ⟨V, h1, h2, h3, -⟩ := rep false hk
  rw [← h3]
  refine FP.Core.zmag_roundRatio_le fl_good (e0 := FP.Core.b64.qmin) hB h1 h2 (Int.le_refl _) (by decide +kernel) ?_
  rw [Int.sub_self, fl_units, h3]
  have e : k * uN * 2 ^ Int.toNat 0 * B = k * B * uN := by
    rw [show Int.toNat 0 = 0 from rfl, Nat.pow_zero, Nat.mul_one, Nat.mul_right_comm]
  rw [e]
  exact Nat.mul_le_mul_right uN h
theorem rr_ge {A B k : Nat} (hB : 0 < B) (hk : k < 2 ^ 53) (h : k * B ≤ A * 2 ^ 42) : k * uN ≤ FP.Core.zmag FP.Core.b64 (rr A B) := by
  obtain ⟨V, h1, h2, h3, -⟩ := rep false hk
  rw [← h3]
  refine FP.Core.zmag_roundRatio_ge fl_good (e0 := FP.Core.b64.qmin) hB h1 (Int.le_refl _) (by decide +kernel) ?_
  rw [Int.sub_self, fl_units, h3]
  have e : k * uN * 2 ^ Int.toNat 0 * B = k * B * uN := by
    rw [show Int.toNat 0 = 0 from rfl, Nat.pow_zero, Nat.mul_one, Nat.mul_right_comm]
  rw [e]
  exact Nat.mul_le_mul_right uN h
theorem fl_top : 2 ^ 53 * 2 ^ 1032 < FP.Core.b64.tails * 2 ^ (FP.Core.b64.exps - 2) := by decide +kernel
theorem fl_topN : 2 ^ 53 * uN < FP.Core.b64.tails * 2 ^ (FP.Core.b64.exps - 2) := by
  unfold uN
  exact fl_top
theorem k_top {k z : Nat} (hk : k < 2 ^ 53) (h : z ≤ k * uN) : z < FP.Core.b64.tails * 2 ^ (FP.Core.b64.exps - 2) :=
  Nat.lt_of_le_of_lt h (Nat.lt_trans (Nat.mul_lt_mul_of_pos_right hk uN_pos) fl_topN)
theorem rr_fin {A B : Nat} (hB : 0 < B) (h : A ≤ 2 ^ 10 * B) : ∃ c q, rr A B = .fin false c q := by
  rcases FP.Core.roundRatio_cases FP.Core.b64 false A B 0 with ⟨c, q, e⟩ | e
  · exact ⟨c, q, e⟩
  · exfalso
    have h1 := rr_le (A := A) (k := 2 ^ 52) hB (by decide) (by omega)
    have h2 := k_top (by decide) h1
    rw [show rr A B = .inf false from e] at h2
    exact Nat.lt_irrefl _ h2
/-- x is A / B, rounded -/
def Qd (x : UInt64) (A B : Nat) : Prop := FP.Core.val64 x = rr A B
theorem q_fin {x : UInt64} {A B : Nat} (h : Qd x A B) (hB : 0 < B) (hA : A ≤ 2 ^ 10 * B) : DF x := by
  obtain ⟨c, q, e⟩ := rr_fin hB hA
  exact ⟨false, c, q, h.trans e⟩
theorem q_zv {x : UInt64} {A B : Nat} (h : Qd x A B) : zv x = (FP.Core.zmag FP.Core.b64 (rr A B) : Int) := by
  show FP.Core.zval FP.Core.b64 (FP.Core.val64 x) = _
  rw [show FP.Core.val64 x = rr A B from h, rr_zval]
theorem uk (k : Nat) : ((k * uN : Nat) : Int) = (k : Int) * uu := by
  unfold uu
  exact Int.natCast_mul k uN
theorem q_le {x : UInt64} {A B k : Nat} (h : Qd x A B) (hB : 0 < B) (hk : k < 2 ^ 53) (hx : A * 2 ^ 42 ≤ k * B) : zv x ≤ (k : Int) * uu := by
  rw [q_zv h, ← uk]
  exact Int.ofNat_le.mpr (rr_le hB hk hx)
theorem q_ge {x : UInt64} {A B k : Nat} (h : Qd x A B) (hB : 0 < B) (hk : k < 2 ^ 53) (hx : k * B ≤ A * 2 ^ 42) : (k : Int) * uu ≤ zv x := by
  rw [q_zv h, ← uk]
  exact Int.ofNat_le.mpr (rr_ge hB hk hx)
theorem q_pos {x : UInt64} {A B : Nat} (h : Qd x A B) : 0 ≤ zv x := by
  rw [q_zv h]
  omega
/-- one -/
def oneU : Int := (2 : Int) ^ 42 * uu
theorem oneU_eq : oneU = ((2 ^ 42 : Nat) : Int) * uu := rfl
theorem q_zero {x : UInt64} {B : Nat} (h : Qd x 0 B) (hB : 0 < B) : zv x = 0 := by
  have h1 := q_le (k := 0) h hB (by decide) (by omega)
  have h2 := q_pos h
  rw [show ((0 : Nat) : Int) * uu = 0 from Int.zero_mul _] at h1
  omega
theorem q_le1 {x : UInt64} {A B : Nat} (h : Qd x A B) (hB : 0 < B) (hA : A ≤ B) : zv x ≤ oneU := by
  rw [oneU_eq]
  exact q_le h hB (by decide) (by omega)
theorem q_one {x : UInt64} {B : Nat} (h : Qd x B B) (hB : 0 < B) : zv x = oneU := by
  have h1 := q_le1 h hB (Nat.le_refl _)
  have h2 := q_ge (k := 2 ^ 42) h hB (by decide) (by omega)
  rw [← oneU_eq] at h2
  omega
theorem q_pos' {x : UInt64} {A B : Nat} (h : Qd x A B) (hA : 0 < A) (hB : 0 < B) (hb : B ≤ 2 ^ 42) : 0 < zv x := by
  have h2 := q_ge (k := 1) h hB (by decide) (by omega)
  have := uu_pos
  rw [show ((1 : Nat) : Int) * uu = uu from Int.one_mul _] at h2
  omega
/-- about A / B, within e multiples of 2^-42 -/
def Ap (x : UInt64) (A B e : Nat) : Prop := DF x ∧ (B : Int) * zv x ≤ (A : Int) * oneU + (B : Int) * ((e : Int) * uu) ∧ (A : Int) * oneU ≤ (B : Int) * zv x + (B : Int) * ((e : Int) * uu)
theorem q_ap {x : UInt64} {A B : Nat} (h : Qd x A B) (hB : 0 < B) (hA : A ≤ 2 ^ 10 * B) : Ap x A B 1 := by
  have hd := Nat.div_add_mod (A * 2 ^ 42) B
  have hm := Nat.mod_lt (A * 2 ^ 42) hB
  have hq : A * 2 ^ 42 / B ≤ 2 ^ 52 := Nat.div_le_of_le_mul (by omega)
  generalize A * 2 ^ 42 / B = k at *
  generalize A * 2 ^ 42 % B = r at *
  have h1 := q_ge (k := k) h hB (by omega) (by rw [Nat.mul_comm k B]; omega)
  have h2 := q_le (k := k + 1) h hB (by omega) (by rw [Nat.add_mul, Nat.mul_comm k B]; omega)
  have hu := uu_pos
  refine ⟨q_fin h hB hA, ?_, ?_⟩
  · have e1 := Int.mul_le_mul_of_nonneg_left h2 (show (0 : Int) ≤ (B : Int) by omega)
    have e2 : (A : Int) * oneU = ((A * 2 ^ 42 : Nat) : Int) * uu := by
      rw [oneU_eq, Int.natCast_mul, Int.mul_assoc]
    rw [e2, ← hd]
    have e3 : ((B * k + r : Nat) : Int) * uu = (B : Int) * ((k : Int) * uu) + (r : Int) * uu := by
      rw [Int.natCast_add, Int.natCast_mul, Int.add_mul, Int.mul_assoc]
    have e4 : (B : Int) * (((k + 1 : Nat) : Int) * uu) = (B : Int) * ((k : Int) * uu) + (B : Int) * uu := by
      rw [Int.natCast_add, Int.add_mul, Int.mul_add]
      simp
    have e5 : 0 ≤ (r : Int) * uu := Int.mul_nonneg (by omega) (by omega)
    have e6 : (B : Int) * (((1 : Nat) : Int) * uu) = (B : Int) * uu := by simp
    rw [e3, e6]
    rw [e4] at e1
    omega
  · have e1 := Int.mul_le_mul_of_nonneg_left h1 (show (0 : Int) ≤ (B : Int) by omega)
    have e2 : (A : Int) * oneU = ((A * 2 ^ 42 : Nat) : Int) * uu := by
      rw [oneU_eq, Int.natCast_mul, Int.mul_assoc]
    rw [e2, ← hd]
    have e3 : ((B * k + r : Nat) : Int) * uu = (B : Int) * ((k : Int) * uu) + (r : Int) * uu := by
      rw [Int.natCast_add, Int.natCast_mul, Int.add_mul, Int.mul_assoc]
    have e5 : (r : Int) * uu ≤ (B : Int) * uu := Int.mul_le_mul_of_nonneg_right (by omega) (by omega)
    have e6 : (B : Int) * (((1 : Nat) : Int) * uu) = (B : Int) * uu := by simp
    rw [e3, e6]
    omega
/-! sums -/
theorem repI {k : Int} (h1 : -2 ^ 53 < k) (h2 : k < 2 ^ 53) : ∃ V, FP.Core.fits FP.Core.b64 V ∧ V ≠ .nan ∧ FP.Core.zval FP.Core.b64 V = k * uu := by
  obtain ⟨V, a1, a2, -, a4⟩ := rep (decide (k < 0)) (k := k.natAbs) (by omega)
  refine ⟨V, a1, a2, ?_⟩
  rw [a4]
  congr 1
  by_cases h : k < 0
  · rw [decide_eq_true h]; simp only [FP.Core.signed, if_true]; omega
  · rw [decide_eq_false h]; simp only [FP.Core.signed, Bool.false_eq_true, if_false]; omega
theorem add_le {x y : UInt64} (hx : DF x) (hy : DF y) {k : Int} (h1 : -2 ^ 53 < k) (h2 : k < 2 ^ 53) (h : zv x + zv y ≤ k * uu) : zv (FP.dadd x y) ≤ k * uu := by
  obtain ⟨V, a1, a2, a3⟩ := repI h1 h2
  rw [← a3] at h ⊢
  show FP.Core.zval FP.Core.b64 (FP.Core.val64 (FP.Core.dadd x y)) ≤ _
  rw [FP.Core.val64_dadd]
  exact FP.Core.sum_le fl_good hx hy (FP.Core.val64_fits x) (FP.Core.val64_fits y) a1 a2 h
theorem add_ge {x y : UInt64} (hx : DF x) (hy : DF y) {k : Int} (h1 : -2 ^ 53 < k) (h2 : k < 2 ^ 53) (h : k * uu ≤ zv x + zv y) : k * uu ≤ zv (FP.dadd x y) := by
  obtain ⟨V, a1, a2, a3⟩ := repI h1 h2
  rw [← a3] at h ⊢
  show _ ≤ FP.Core.zval FP.Core.b64 (FP.Core.val64 (FP.Core.dadd x y))
  rw [FP.Core.val64_dadd]
  exact FP.Core.sum_ge fl_good hx hy (FP.Core.val64_fits x) (FP.Core.val64_fits y) a1 a2 h
theorem uu_top : (2 : Int) ^ 53 * uu < ((FP.Core.b64.tails * 2 ^ (FP.Core.b64.exps - 2) : Nat) : Int) := by
  have h := fl_topN
  have e : (2 : Int) ^ 53 * uu = ((2 ^ 53 * uN : Nat) : Int) := (uk (2 ^ 53)).symm
  rw [e]
  exact Int.ofNat_lt.mpr h
theorem fin_of {x : UInt64} (hn : FP.Core.dIsNaN x = false) (h1 : -(2 ^ 53 * uu) ≤ zv x) (h2 : zv x ≤ 2 ^ 53 * uu) : DF x := by
  have hn' := (FP.Core.notNaN_iff x).mp hn
  have ht := uu_top
  cases e : FP.Core.val64 x with
  | nan => exact absurd e hn'
  | inf s =>
    exfalso
    have : zv x = FP.Core.signed s (FP.Core.b64.tails * 2 ^ (FP.Core.b64.exps - 2)) := by
      show FP.Core.zval FP.Core.b64 (FP.Core.val64 x) = _
      rw [e]; rfl
    rw [this] at h1 h2
    generalize FP.Core.b64.tails * 2 ^ (FP.Core.b64.exps - 2) = top at *
    generalize (2 : Int) ^ 53 * uu = w at *
    cases s
    · simp only [FP.Core.signed, Bool.false_eq_true, if_false] at h1 h2; omega
    · simp only [FP.Core.signed, if_true] at h1 h2; omega
  | fin s c q => exact ⟨s, c, q, e⟩
/-- a sum, within one multiple -/
theorem add_near {x y : UInt64} (hx : DF x) (hy : DF y) (h1 : -(2 ^ 52 * uu) ≤ zv x + zv y) (h2 : zv x + zv y ≤ 2 ^ 52 * uu) : DF (FP.dadd x y) ∧ zv (FP.dadd x y) ≤ zv x + zv y + uu ∧ zv x + zv y ≤ zv (FP.dadd x y) + uu := by
  have hu := uu_pos
  have hd := Int.emod_def (zv x + zv y) uu
  have m1 := Int.emod_nonneg (zv x + zv y) (show uu ≠ 0 by omega)
  have m2 := Int.emod_lt_of_pos (zv x + zv y) hu
  have k1 : -2 ^ 53 < (zv x + zv y) / uu := by
    have := Int.le_ediv_of_mul_le (a := -2 ^ 52) hu (by omega : -2 ^ 52 * uu ≤ zv x + zv y)
    omega
  have k2 : (zv x + zv y) / uu < 2 ^ 53 - 1 := by
    have := Int.ediv_lt_of_lt_mul (b := 2 ^ 52 + 1) hu (by omega : zv x + zv y < (2 ^ 52 + 1) * uu)
    omega
  generalize (zv x + zv y) / uu = k at *
  generalize (zv x + zv y) % uu = r at *
  have e1 : k * uu ≤ zv x + zv y := by rw [Int.mul_comm]; omega
  have e2 : zv x + zv y ≤ (k + 1) * uu := by rw [Int.add_mul, Int.mul_comm k]; omega
  have a1 := add_ge hx hy (k := k) k1 (by omega) e1
  have a2 := add_le hx hy (k := k + 1) (by omega) (by omega) e2
  rw [Int.add_mul] at a2
  rw [Int.mul_comm] at e1
  rw [Int.mul_comm k] at a1 a2
  refine ⟨fin_of (FP.Core.dadd_out hx.notNaN hy) ?_ ?_, by omega, by omega⟩
  · omega
  · omega
theorem add_zero {x y : UInt64} (hx : DF x) (hy : DF y) (h : zv x + zv y = 0) : DF (FP.dadd x y) ∧ zv (FP.dadd x y) = 0 := by
  have hu := uu_pos
  have a1 := add_ge hx hy (k := 0) (by decide) (by decide) (by omega)
  have a2 := add_le hx hy (k := 0) (by decide) (by decide) (by omega)
  exact ⟨(add_near hx hy (by omega) (by omega)).1, by omega⟩
theorem dneg_DF {y : UInt64} (hy : DF y) : DF (FP.Core.dneg y) ∧ zv (FP.Core.dneg y) = - zv y := by
  obtain ⟨s, c, q, e⟩ := hy
  have h := FP.Core.val64_dneg y
  refine ⟨⟨!s, c, q, by rw [h, e]; rfl⟩, ?_⟩
  show FP.Core.zval FP.Core.b64 (FP.Core.val64 (FP.Core.dneg y)) = _
  rw [h, FP.Core.zval_negate]
theorem sub_near {x y : UInt64} (hx : DF x) (hy : DF y) (h1 : -(2 ^ 52 * uu) ≤ zv x - zv y) (h2 : zv x - zv y ≤ 2 ^ 52 * uu) : DF (FP.dsub x y) ∧ zv (FP.dsub x y) ≤ zv x - zv y + uu ∧ zv x - zv y ≤ zv (FP.dsub x y) + uu := by
  obtain ⟨d1, d2⟩ := dneg_DF hy
  have e : FP.dsub x y = FP.dadd x (FP.Core.dneg y) := FP.Core.dsub_eq x y
  rw [e]
  have h := add_near hx d1 (by omega) (by omega)
  rw [d2] at h
  exact ⟨h.1, by omega, by omega⟩
/-- what dcmp says of numbers -/
def cz (x y : UInt64) : Int32 := if zv x < zv y then -1 else if zv x = zv y then 0 else 1
theorem cz_cmp {x y : UInt64} (hx : DF x) (hy : DF y) (op : CmpOp) : Op.cmpValue (FP.dcmp x y) op = cz x y := by
  have h := FP.Core.dcmp_zval hx.ne_nan hy.ne_nan
  show Op.cmpValue (FP.Core.dcmp x y) op = _
  rw [h, FP.Core.compare_ite]
  unfold cz Op.cmpValue
  by_cases h1 : zv x < zv y
  · rw [if_pos h1, if_pos h1]
  · rw [if_neg h1, if_neg h1]
    by_cases h2 : zv x = zv y
    · rw [if_pos h2, if_pos h2]
    · rw [if_neg h2, if_neg h2]
theorem cz_lt {x y : UInt64} : cz x y < 0 ↔ zv x < zv y := by
  unfold cz
  by_cases h1 : zv x < zv y
  · simp [h1]
  · by_cases h2 : zv x = zv y
    · simp [h2]
    · simp [h1, h2]
theorem cz_gt {x y : UInt64} : 0 < cz x y ↔ zv y < zv x := by
  unfold cz
  by_cases h1 : zv x < zv y
  · rw [if_pos h1]; constructor
    · intro h; exact absurd h (by decide)
    · intro h; omega
  · rw [if_neg h1]
    by_cases h2 : zv x = zv y
    · rw [if_pos h2]; constructor
      · intro h; exact absurd h (by decide)
      · intro h; omega
    · rw [if_neg h2]; constructor
      · intro h; omega
      · intro h; decide
theorem cz_eq {x y : UInt64} : cz x y = 0 ↔ zv x = zv y := by
  unfold cz
  by_cases h1 : zv x < zv y
  · rw [if_pos h1]; constructor
    · intro h; exact absurd h (by decide)
    · intro h; omega
  · rw [if_neg h1]
    by_cases h2 : zv x = zv y
    · rw [if_pos h2]; simp [h2]
    · rw [if_neg h2]; constructor
      · intro h; exact absurd h (by decide)
      · intro h; exact absurd h h2
theorem vf_DF {x : UInt64} (h : DF x) : vf_n64 x := by
  unfold vf_n64
  have h1 := (FP.Core.ne_nan x).mp h.ne_nan
  rw [UInt64.le_iff_toNat_le, FP.Core.mask_toNat]
  exact h1
/-- the mask of Math.abs -/
theorem abs_DF {x : UInt64} (h : DF x) : DF (x &&& 0x7fffffffffffffff) ∧ zv (x &&& 0x7fffffffffffffff) = if zv x < 0 then - zv x else zv x := by
  have h0 : FP.Core.val64 0 ≠ .nan := by rw [FP.Core.val64_zero]; exact FP.Core.Datum.noConfusion
  rcases Int.lt_trichotomy (zv x) 0 with q | q | q
  · have e := FP.Core.abs_neg (FP.Core.dcmp_lt.mpr ⟨h.ne_nan, h0, by rw [FP.Core.zval64_zero]; exact q⟩)
    rw [e, if_pos q]
    exact dneg_DF h
  · have e := FP.Core.abs_zero (FP.Core.dcmp_eq.mpr ⟨h.ne_nan, h0, by rw [FP.Core.zval64_zero]; exact q⟩)
    rw [e, if_neg (by omega), q]
    exact ⟨⟨false, 0, FP.Core.b64.qmin, FP.Core.val64_zero⟩, FP.Core.zval64_zero⟩
  · have e := FP.Core.abs_pos (FP.Core.dcmp_gt.mpr ⟨h.ne_nan, h0, by rw [FP.Core.zval64_zero]; exact q⟩)
    rw [e, if_neg (by omega)]
    exact ⟨h, rfl⟩
/-- the constants -/
theorem d0_DF : DF 0 ∧ zv 0 = 0 := ⟨⟨false, 0, FP.Core.b64.qmin, FP.Core.val64_zero⟩, FP.Core.zval64_zero⟩
theorem d1_val : FP.Core.val64 FP.dconst1 = .fin false (2 ^ 52) (-52) := FP.Core.val64_dconst1
theorem d1_z : FP.Core.inUnits (2 ^ 52) (-52) FP.Core.b64.qmin = 2 ^ 42 * uN := by
  unfold uN
  decide +kernel
theorem d1_DF : DF FP.dconst1 ∧ zv FP.dconst1 = oneU := by
  refine ⟨⟨false, _, _, d1_val⟩, ?_⟩
  show FP.Core.zval FP.Core.b64 (FP.Core.val64 FP.dconst1) = _
  rw [d1_val]
  show FP.Core.signed false (FP.Core.inUnits (2 ^ 52) (-52) FP.Core.b64.qmin) = _
  rw [d1_z, oneU_eq, ← uk]
  rfl
def c9 : UInt64 := 4472406533629990549
theorem c9_val : ∃ c q, FP.Core.val64 c9 = .fin false c q ∧ 4398 * uN ≤ FP.Core.inUnits c q FP.Core.b64.qmin ∧ FP.Core.inUnits c q FP.Core.b64.qmin ≤ 4399 * uN := ⟨4835703278458517, -82, by decide +kernel, by unfold uN; decide +kernel, by unfold uN; decide +kernel⟩
theorem c9_DF : DF c9 ∧ 4398 * uu ≤ zv c9 ∧ zv c9 ≤ 4399 * uu := by
  obtain ⟨c, q, h1, h2, h3⟩ := c9_val
  have e : zv c9 = (FP.Core.inUnits c q FP.Core.b64.qmin : Int) := by
    show FP.Core.zval FP.Core.b64 (FP.Core.val64 c9) = _
    rw [h1]
    rfl
  refine ⟨⟨false, c, q, h1⟩, ?_, ?_⟩
  · rw [e]; have := uk 4398; have h2 := Int.ofNat_le.mpr h2; rw [this] at h2; exact h2
  · rw [e]; have := uk 4399; have h3 := Int.ofNat_le.mpr h3; rw [this] at h3; exact h3
