/-! numbers: what the class's answers are to each other -/
theorem sumN_add (f h : Nat → Nat) : ∀ n, sumN (fun i => f i + h i) n = sumN f n + sumN h n
  | 0 => rfl
  | n + 1 => by
    have := sumN_add f h n
    simp only [sumN]
    omega
theorem sumN_mul (k : Nat) (f : Nat → Nat) : ∀ n, sumN (fun i => k * f i) n = k * sumN f n
  | 0 => rfl
  | n + 1 => by
    have := sumN_mul k f n
    simp only [sumN, Nat.mul_add]
    omega
theorem sumN_swap (f : Nat → Nat → Nat) (n : Nat) : ∀ m, sumN (fun c => sumN (fun i => f c i) n) m = sumN (fun i => sumN (fun c => f c i) m) n
  | 0 => by
    have : ∀ k, sumN (fun _ => 0) k = 0 := fun k => by
      induction k with
      | zero => rfl
      | succ k ih => simp only [sumN, ih]
    simp only [sumN]
    exact (this n).symm
  | m + 1 => by
    have := sumN_swap f n m
    simp only [sumN] at this ⊢
    rw [this, ← sumN_add]
theorem sumN_mono {f h : Nat → Nat} : ∀ n, (∀ k, k < n → f k ≤ h k) → sumN f n ≤ sumN h n
  | 0, _ => Nat.le_refl _
  | n + 1, e => by
    have h1 := sumN_mono n (fun k hk => e k (by omega))
    have h2 := e n (by omega)
    simp only [sumN]
    omega
theorem sumN_0 {f : Nat → Nat} : ∀ {n}, sumN f n = 0 → ∀ i, i < n → f i = 0
  | 0, _, i, hi => absurd hi (Nat.not_lt_zero _)
  | n + 1, h, i, hi => by
    simp only [sumN] at h
    by_cases e : i = n
    · rw [e]; omega
    · exact sumN_0 (n := n) (by omega) i (by omega)
theorem sumN_z {f : Nat → Nat} : ∀ {n}, (∀ i, i < n → f i = 0) → sumN f n = 0
  | 0, _ => rfl
  | n + 1, h => by
    have h1 := sumN_z (n := n) (fun i hi => h i (by omega))
    have h2 := h n (by omega)
    simp only [sumN]
    omega
theorem pick6 {x y : Nat} (hx : x < 6) : sumN (fun c => if x = c then y else 0) 6 = y := by
  rcases (show x = 0 ∨ x = 1 ∨ x = 2 ∨ x = 3 ∨ x = 4 ∨ x = 5 by omega) with rfl | rfl | rfl | rfl | rfl | rfl <;> simp [sumN]
section Nums
variable {v : Nat → Nat → Nat} {b : Option (List Line)} {n : Nat}
theorem pS_60 (v : Nat → Nat → Nat) (b : Option (List Line)) (i : Nat) : pS v b i 0 + pS v b i 1 = 60 := by
  have h1 := wtN_sum v b i
  have h2 := wtN_le v b i 0
  have h3 := wtN_le v b i 1
  have hs : wtN v b i 0 + wtN v b i 1 ≤ 6 := by omega
  unfold pS
  rw [← Nat.mul_add]
  generalize wtN v b i 0 + wtN v b i 1 = s at *
  rcases (show s = 1 ∨ s = 2 ∨ s = 3 ∨ s = 4 ∨ s = 5 ∨ s = 6 by omega) with rfl | rfl | rfl | rfl | rfl | rfl <;> rfl
theorem pC_sum {i : Nat} (h1 : v 1 i < 6) (h2 : v 2 i < 6) : sumN (fun c => pC v b i c) 6 = 60 := by
  have e : (fun c => pC v b i c) = fun c => (if v 1 i = c then pS v b i 0 else 0) + (if v 2 i = c then pS v b i 1 else 0) := rfl
  rw [e, sumN_add, pick6 h1, pick6 h2, pS_60]
theorem lkA_sum (h1 : ∀ i, i < n → v 1 i < 6) (h2 : ∀ i, i < n → v 2 i < 6) : sumN (fun c => lkA v b n c 1) 6 = 60 * hatN v n := by
  unfold lkA
  rw [sumN_swap]
  have e : sumN (fun i => sumN (fun c => lkO v b i c 1) 6) n = sumN (fun i => 60 * v 0 i) n := sumN_congr (fun i hi => by
    have : (fun c => lkO v b i c 1) = fun c => v 0 i * pC v b i c := by
      funext c
      unfold lkO
      rw [Nat.pow_one]
    rw [this, sumN_mul, pC_sum (h1 i hi) (h2 i hi), Nat.mul_comm])
  rw [e, sumN_mul]
  rfl
theorem lb_sum {c i : Nat} (h1 : v 1 i < 6) (h2 : v 2 i < 6) : sumN (fun d => lb v b c d i) 6 = lkO v b i c 1 := by
  have e : (fun d => lb v b c d i) = fun d => (if v 2 i = d then (if v 1 i = c then v 0 i * pS v b i 0 else 0) else 0) + (if v 1 i = d then (if v 2 i = c then v 0 i * pS v b i 1 else 0) else 0) := by
    funext d
    unfold lb
    congr 1
    · by_cases e1 : v 1 i = c <;> by_cases e2 : v 2 i = d <;> simp [e1, e2]
    · by_cases e1 : v 2 i = c <;> by_cases e2 : v 1 i = d <;> simp [e1, e2]
  rw [e, sumN_add, pick6 h2, pick6 h1]
  unfold lkO pC
  rw [Nat.pow_one, Nat.mul_add]
  congr 1
  · split <;> simp
  · split <;> simp
theorem lbA_sum {c : Nat} (h1 : ∀ i, i < n → v 1 i < 6) (h2 : ∀ i, i < n → v 2 i < 6) : sumN (fun d => lbA v b n c d) 6 = lkA v b n c 1 := by
  have e : (fun d => lbA v b n c d) = fun d => sumN (fun i => lb v b c d i) n := rfl
  rw [e, sumN_swap]
  exact sumN_congr (fun i hi => lb_sum (h1 i hi) (h2 i hi))
theorem two_sq (p q : Nat) : 2 * (p * q) ≤ p * p + q * q := by
  rcases Nat.le_total p q with h | h
  · obtain ⟨d, rfl⟩ := Nat.le.dest h
    simp only [Nat.mul_add, Nat.add_mul]
    have := Nat.mul_comm d p
    omega
  · obtain ⟨d, rfl⟩ := Nat.le.dest h
    simp only [Nat.mul_add, Nat.add_mul]
    have := Nat.mul_comm d q
    omega
/-- of sums A, B, C of x, x p, x p p: 2 p B is no more than p p A + C -/
theorem cs_1 (x p : Nat → Nat) (r : Nat) : ∀ n, 2 * (r * sumN (fun i => x i * p i) n) ≤ r * r * sumN x n + sumN (fun i => x i * (p i * p i)) n
  | 0 => by simp [sumN]
  | n + 1 => by
    have ih := cs_1 x p r n
    have h := Nat.mul_le_mul_left (x n) (two_sq r (p n))
    simp only [sumN, Nat.mul_add]
    have e1 : x n * (2 * (r * p n)) = 2 * (r * (x n * p n)) := by
      rw [Nat.mul_left_comm (x n) 2, Nat.mul_left_comm (x n) r]
    have e2 : x n * (r * r + p n * p n) = r * r * x n + x n * (p n * p n) := by
      rw [Nat.mul_add, Nat.mul_comm (x n) (r * r)]
    rw [e1, e2] at h
    omega
theorem cs_2 (x p : Nat → Nat) : ∀ n, sumN (fun i => x i * p i) n * sumN (fun i => x i * p i) n ≤ sumN x n * sumN (fun i => x i * (p i * p i)) n
  | 0 => by simp [sumN]
  | n + 1 => by
    have ih := cs_2 x p n
    have h := Nat.mul_le_mul_left (x n) (cs_1 x p (p n) n)
    simp only [sumN]
    generalize sumN (fun i => x i * p i) n = B at *
    generalize sumN x n = A at *
    generalize sumN (fun i => x i * (p i * p i)) n = C at *
    generalize x n = y at *
    generalize p n = q at *
    have e1 : (B + y * q) * (B + y * q) = B * B + y * (2 * (q * B)) + y * q * (y * q) := by
      rw [Nat.add_mul, Nat.mul_add, Nat.mul_add]
      have : B * (y * q) = y * (q * B) := by ac_rfl
      have h2 : y * q * B = y * (q * B) := by ac_rfl
      have h3 : y * (2 * (q * B)) = 2 * (y * (q * B)) := by ac_rfl
      omega
    have e2 : (A + y) * (C + y * (q * q)) = A * C + y * (q * q * A + C) + y * q * (y * q) := by
      rw [Nat.add_mul, Nat.mul_add, Nat.mul_add, Nat.mul_add]
      have : A * (y * (q * q)) = y * (q * q * A) := by ac_rfl
      have h2 : y * (y * (q * q)) = y * q * (y * q) := by ac_rfl
      omega
    rw [e1, e2]
    omega
theorem lk_cs (c k : Nat) : lkA v b n c (k + 1) * lkA v b n c (k + 1) ≤ lkA v b n c k * lkA v b n c (k + 2) := by
  have h := cs_2 (fun i => lkO v b i c k) (fun i => pC v b i c) n
  have e1 : (fun i => lkO v b i c k * pC v b i c) = fun i => lkO v b i c (k + 1) := by
    funext i
    unfold lkO
    rw [Nat.pow_succ, Nat.mul_assoc]
  have e2 : (fun i => lkO v b i c k * (pC v b i c * pC v b i c)) = fun i => lkO v b i c (k + 2) := by
    funext i
    unfold lkO
    rw [Nat.pow_succ, Nat.pow_succ]
    ac_rfl
  rw [e1, e2] at h
  exact h
theorem lk_le (c k : Nat) : lkA v b n c (k + 1) ≤ lkA v b n c k * 60 := by
  unfold lkA
  rw [Nat.mul_comm _ 60, ← sumN_mul]
  refine sumN_mono n (fun i _ => ?_)
  unfold lkO
  rw [Nat.pow_succ, ← Nat.mul_assoc, Nat.mul_comm 60]
  exact Nat.mul_le_mul_left _ (pC_le v b i c)
theorem lk_0 (c : Nat) : lkA v b n c 0 = hatN v n := by
  unfold lkA hatN
  refine sumN_congr (fun i _ => ?_)
  unfold lkO
  rw [Nat.pow_zero, Nat.mul_one]
theorem lk_z {c k : Nat} (h : lkA v b n c 1 = 0) : lkA v b n c (k + 1) = 0 := sumN_z (fun i hi => by
  have h1 := sumN_0 h i hi
  unfold lkO at *
  rw [Nat.pow_one] at h1
  rcases Nat.mul_eq_zero.mp h1 with e | e
  · rw [e, Nat.zero_mul]
  · rw [e, Nat.pow_succ, Nat.mul_zero, Nat.mul_zero])
theorem lk_pos {c k : Nat} (h : 0 < lkA v b n c 1) : 0 < lkA v b n c k := by
  rcases Nat.eq_zero_or_pos (lkA v b n c k) with e | e
  · exfalso
    have : lkA v b n c 1 = 0 := sumN_z (fun i hi => by
      have h1 := sumN_0 e i hi
      unfold lkO at *
      rw [Nat.pow_one]
      rcases Nat.mul_eq_zero.mp h1 with e2 | e2
      · rw [e2, Nat.zero_mul]
      · have : pC v b i c = 0 := by
          rcases Nat.eq_zero_or_pos (pC v b i c) with e3 | e3
          · exact e3
          · have := Nat.pow_pos (n := k) e3
            omega
        rw [this, Nat.mul_zero])
    omega
  · exact e
/-- the part shown rises with the showings before, and is no less than with none -/
theorem lk_chain {c : Nat} (h : 0 < lkA v b n c 1) : ∀ k, lkA v b n c 1 * lkA v b n c k ≤ lkA v b n c (k + 1) * hatN v n
  | 0 => by
    rw [lk_0]
    exact Nat.le_refl _
  | k + 1 => by
    have ih := lk_chain h k
    have cs := lk_cs (v := v) (b := b) (n := n) c k
    have hk := lk_pos (k := k) h
    refine Nat.le_of_mul_le_mul_right (c := lkA v b n c k) ?_ hk
    generalize lkA v b n c 1 = m1 at *
    generalize lkA v b n c k = mk at *
    generalize lkA v b n c (k + 1) = mk1 at *
    generalize lkA v b n c (k + 1 + 1) = mk2 at *
    generalize hatN v n = m0 at *
    calc m1 * mk1 * mk = m1 * mk * mk1 := by ac_rfl
      _ ≤ mk1 * m0 * mk1 := Nat.mul_le_mul_right _ ih
      _ = mk1 * mk1 * m0 := by ac_rfl
      _ ≤ mk * mk2 * m0 := Nat.mul_le_mul_right _ cs
      _ = mk2 * m0 * mk := by ac_rfl
theorem hat_le (h : ∀ i, i < 8 → v 0 i ≤ 9) (hn : n ≤ 7) : hatN v n ≤ 63 := by
  have := sumN_le (f := v 0) (b := 9) n (fun i hi => h i (by omega))
  unfold hatN
  omega
theorem lk1_hat (c : Nat) : lkA v b n c 1 ≤ 60 * hatN v n := by
  have := lk_le (v := v) (b := b) (n := n) c 0
  rw [lk_0, Nat.mul_comm] at this
  exact this
theorem lkO_A {c k i : Nat} (hi : i < n) : lkO v b i c k ≤ lkA v b n c k := by
  have : ∀ {f : Nat → Nat} {m i : Nat}, i < m → f i ≤ sumN f m := by
    intro f m
    induction m with
    | zero => intro i hi; exact absurd hi (Nat.not_lt_zero _)
    | succ m ih =>
      intro i hi
      simp only [sumN]
      by_cases e : i = m
      · rw [e]; omega
      · have := ih (i := i) (by omega); omega
  exact this (f := fun i => lkO v b i c k) hi
theorem lbA_A {c d : Nat} (hd : d < 6) (h1 : ∀ i, i < n → v 1 i < 6) (h2 : ∀ i, i < n → v 2 i < 6) : lbA v b n c d ≤ lkA v b n c 1 := by
  have h := lbA_sum (b := b) (c := c) h1 h2
  rw [← h]
  rcases (show d = 0 ∨ d = 1 ∨ d = 2 ∨ d = 3 ∨ d = 4 ∨ d = 5 by omega) with rfl | rfl | rfl | rfl | rfl | rfl <;> simp only [sumN] <;> omega
/-! one card more -/
theorem mlF_is {W : Nat → Nat} {A w0 b0 : Nat} (hA : 0 < A) : ∀ m, mlF W A w0 b0 m = (-2, w0, b0) ∨ ∃ i, i < m ∧ mlF W A w0 b0 m = (nI i, W i, A) ∧ w0 * A < W i * b0
  | 0 => Or.inl rfl
  | m + 1 => by
    rcases mlF_is (W := W) (w0 := w0) (b0 := b0) hA m with h | ⟨i, hi, h, h2⟩
    · show (if (mlF W A w0 b0 m).2.1 * A < W m * (mlF W A w0 b0 m).2.2 then _ else _) = _ ∨ _
      rw [h]
      by_cases q : w0 * A < W m * b0
      · right
        refine ⟨m, by omega, ?_, q⟩
        show (if (mlF W A w0 b0 m).2.1 * A < W m * (mlF W A w0 b0 m).2.2 then _ else _) = _
        rw [h, if_pos q]
      · left
        rw [if_neg q]
    · right
      by_cases q : W i * A < W m * A
      · have hlt : W i < W m := Nat.lt_of_mul_lt_mul_right q
        refine ⟨m, by omega, ?_, ?_⟩
        · show (if (mlF W A w0 b0 m).2.1 * A < W m * (mlF W A w0 b0 m).2.2 then _ else _) = _
          rw [h, if_pos q]
        · exact Nat.lt_of_lt_of_le h2 (Nat.mul_le_mul_right _ (Nat.le_of_lt hlt))
      · refine ⟨i, by omega, ?_, h2⟩
        show (if (mlF W A w0 b0 m).2.1 * A < W m * (mlF W A w0 b0 m).2.2 then _ else _) = _
        rw [h, if_neg q]
theorem mo1_hat {i : Nat} (hi : i < n) : hatN (mo1 v i) n = hatN v n + 1 := by
  have : ∀ m, hatN (mo1 v i) m = hatN v m + (if i < m then 1 else 0) := by
    intro m
    induction m with
    | zero => simp [hatN, sumN]
    | succ m ih =>
      have e1 : mo1 v i 0 m = v 0 m + (if m = i then 1 else 0) := by
        unfold mo1 up2
        by_cases e : m = i
        · rw [if_pos ⟨rfl, e⟩, if_pos e, e]
        · rw [if_neg (fun z => e z.2), if_neg e, Nat.add_zero]
      unfold hatN at *
      simp only [sumN]
      rw [ih, e1]
      split <;> split <;> split <;> omega
  rw [this n, if_pos hi]
/-- the row of one showing -/
def shC (sh : Nat → Nat → Nat) : Nat → Nat → Nat := upR sh 0 0 1
def elC (el : Nat → Nat → Int64) (c : Nat) : Nat → Nat → Int64 := upE (zE el 0) 0 0 (keptV (shC (fun _ _ => 0) 0 2) (nI c).toInt64)
theorem elC_jd {el : Nat → Nat → Int64} {c : Nat} (hc : c < 6) : jd (elC el c) 0 0 = nI c := by
  rcases (show c = 0 ∨ c = 1 ∨ c = 2 ∨ c = 3 ∨ c = 4 ∨ c = 5 by omega) with rfl | rfl | rfl | rfl | rfl | rfl <;> (unfold jd elC upE; rw [if_pos ⟨rfl, rfl⟩]; decide)
theorem ref_C (sh : Nat → Nat → Nat) : refB (shC sh) 0 = 0 := by
  unfold refB shC upR
  simp
theorem jg_C {sh : Nat → Nat → Nat} {el : Nat → Nat → Int64} {c : Nat} (hc : c < 6) : jgV v b n (shC sh) (elC el c) 0 = if lkA v b n c 1 = 0 then 0 else -2 := by
  unfold jgV
  rw [ref_C, if_neg (by decide)]
  show fstJ v b n (jd (elC el c) 0) 1 0 = _
  show (if 0 ≤ jd (elC el c) 0 0 ∧ jd (elC el c) 0 0 < 6 ∧ ¬ lkA v b n (jd (elC el c) 0 0).toNatClampNeg 1 = 0 then (-2 : Int32) else nI 0) = _
  rw [elC_jd hc, nI_clamp (by omega)]
  have h1 : 0 ≤ nI c := nI_pos' (by omega)
  have h2 : nI c < 6 := (nI_ltI (a := c) (b := 6) (by omega) (by decide)).mpr hc
  by_cases e : lkA v b n c 1 = 0
  · rw [if_neg (fun z => z.2.2 e), if_pos e]; rfl
  · rw [if_pos ⟨h1, h2, e⟩, if_neg e]
theorem ch_C {sh : Nat → Nat → Nat} {el : Nat → Nat → Int64} {c : Nat} (hc : c < 6) : chV v b n (shC sh) (elC el c) 0 = (mlF (fun i => lkA (mo1 v i) b n c 1) (60 * (hatN v n + 1)) (lkA v b n c 1) (if hatN v n = 0 then 1 else 60 * hatN v n) n).1 := by
  unfold chV
  rw [ref_C, if_neg (by decide)]
  have h1 : ¬ 3 < shC sh (0 : Int32).toNatClampNeg 3 := by
    show ¬ 3 < 1
    decide
  rw [if_neg h1]
  have h2 : ∀ k, k < shC sh (0 : Int32).toNatClampNeg 3 → okC (elC el c) (0 : Int32).toNatClampNeg k := fun k hk => by
    have hk0 : k = 0 := by
      have : k < 1 := hk
      omega
    subst hk0
    show 0 ≤ jd (elC el c) 0 0 ∧ jd (elC el c) 0 0 < 6
    rw [elC_jd hc]
    exact ⟨nI_pos' (by omega), (nI_ltI (a := c) (b := 6) (by omega) (by decide)).mpr hc⟩
  rw [if_pos h2]
  show (mlF (wy1 v b n (fun k => (jd (elC el c) 0 k).toNatClampNeg) 1) (bAll (sumN (v 0) n + 1) 1) (wy0 v b n (fun k => (jd (elC el c) 0 k).toNatClampNeg) 1) (bAll (sumN (v 0) n) 1) n).1 = _
  have e0 : (jd (elC el c) 0 0).toNatClampNeg = c := by rw [elC_jd hc, nI_clamp (by omega)]
  have e1 : wy1 v b n (fun k => (jd (elC el c) 0 k).toNatClampNeg) 1 = fun i => lkA (mo1 v i) b n c 1 := by
    funext i
    show 1 * lkA (mo1 v i) b n (jd (elC el c) 0 0).toNatClampNeg 1 = _
    rw [e0, Nat.one_mul]
  have e2 : wy0 v b n (fun k => (jd (elC el c) 0 k).toNatClampNeg) 1 = lkA v b n c 1 := by
    show 1 * lkA v b n (jd (elC el c) 0 0).toNatClampNeg 1 = _
    rw [e0, Nat.one_mul]
  have e3 : bAll (sumN (v 0) n + 1) 1 = 60 * (hatN v n + 1) := by
    unfold bAll hatN
    rw [Nat.pow_one, if_neg (by omega)]
  have e4 : bAll (sumN (v 0) n) 1 = if hatN v n = 0 then 1 else 60 * hatN v n := by
    unfold bAll hatN
    rw [Nat.pow_one]
    by_cases h : sumN (v 0) n = 0
    · rw [if_pos h, if_pos (by omega)]
    · rw [if_neg h, if_neg (by omega)]
  rw [e1, e2, e3, e4]
/-! urns -/
theorem hnd_mono {p q p' q' : Nat} (hp : p ≤ p') (hq : q ≤ q') : ∀ i, (hnd v i (p, q)).1 ≤ (hnd v i (p', q')).1 ∧ (hnd v i (p, q)).2 ≤ (hnd v i (p', q')).2
  | 0 => ⟨hp, hq⟩
  | i + 1 => by
    obtain ⟨h1, h2⟩ := hnd_mono hp hq i
    simp only [hnd, hst]
    exact ⟨Nat.add_le_add (Nat.mul_le_mul_right _ h1) (Nat.mul_le_mul_right _ h2), Nat.add_le_add (Nat.mul_le_mul_right _ h1) (Nat.mul_le_mul_right _ h2)⟩
theorem hnd_le (i p q : Nat) : (hnd v i (p, q)).1 ≤ (p + q) * wpr v i := by
  have := hnd_sum (v := v) i (p, q)
  simp only at this
  omega
/-! tests -/
theorem ill_bits : ∀ t, t < 4 → bt (2 ^ t) t = 1 ∧ (∀ i, i < 4 → i ≠ t → bt (2 ^ t) i = 0) ∧ anN (2 ^ t) (2 ^ t) = 0 ∧ anN (2 ^ t) 0 = 2 ^ t := by decide +kernel
theorem prod4 {f : Nat → Nat} {t x : Nat} (ht : t < 4) (h1 : f t = x) (h2 : ∀ i, i < 4 → i ≠ t → f i = 1) : prodN f 4 = x := by
  rcases (show t = 0 ∨ t = 1 ∨ t = 2 ∨ t = 3 by omega) with rfl | rfl | rfl | rfl
  · have a1 := h2 1 (by decide) (by decide); have a2 := h2 2 (by decide) (by decide); have a3 := h2 3 (by decide) (by decide); simp [prodN, h1, a1, a2, a3]
  · have a1 := h2 0 (by decide) (by decide); have a2 := h2 2 (by decide) (by decide); have a3 := h2 3 (by decide) (by decide); simp [prodN, h1, a1, a2, a3]
  · have a1 := h2 0 (by decide) (by decide); have a2 := h2 1 (by decide) (by decide); have a3 := h2 3 (by decide) (by decide); simp [prodN, h1, a1, a2, a3]
  · have a1 := h2 0 (by decide) (by decide); have a2 := h2 1 (by decide) (by decide); have a3 := h2 2 (by decide) (by decide); simp [prodN, h1, a1, a2, a3]
theorem wrf_out {f : Nat → Nat} {A B i : Nat} (h : bt A i = 0) : wrf f A B i = 1 := by unfold wrf; rw [if_neg (by omega)]
theorem bt_0 (i : Nat) : bt 0 i = 0 := by unfold bt; simp
theorem ill_none : illW v 0 0 = v 9 0 ∧ welW v 0 0 = 100 - v 9 0 := by
  have h : ∀ f : Nat → Nat, ∀ B, prodN (wrf f 0 B) 4 = 1 := fun f B => by
    simp [prodN, wrf_out (bt_0 _)]
  unfold illW welW
  rw [h, h, Nat.mul_one, Nat.mul_one]
  exact ⟨rfl, rfl⟩
theorem ill_says {t : Nat} (ht : t < 4) : illW v (2 ^ t) (2 ^ t) = v 9 0 * v 5 t ∧ welW v (2 ^ t) (2 ^ t) = (100 - v 9 0) * (12 - v 6 t) := by
  obtain ⟨b1, b2, b3, b4⟩ := ill_bits t ht
  unfold illW welW
  rw [b3]
  rw [prod4 (x := v 5 t) ht (by unfold wrf; rw [if_pos b1, if_pos b1]) (fun i hi hne => wrf_out (b2 i hi hne))]
  rw [prod4 (x := 12 - v 6 t) ht (by unfold wrf; rw [if_pos b1, if_neg (by rw [bt_0]; decide)]) (fun i hi hne => wrf_out (b2 i hi hne))]
  exact ⟨rfl, rfl⟩
theorem ill_well {t : Nat} (ht : t < 4) : illW v (2 ^ t) 0 = v 9 0 * (12 - v 5 t) ∧ welW v (2 ^ t) 0 = (100 - v 9 0) * v 6 t := by
  obtain ⟨b1, b2, b3, b4⟩ := ill_bits t ht
  unfold illW welW
  rw [b4]
  rw [prod4 (x := 12 - v 5 t) ht (by unfold wrf; rw [if_pos b1, if_neg (by rw [bt_0]; decide)]) (fun i hi hne => wrf_out (b2 i hi hne))]
  rw [prod4 (x := v 6 t) ht (by unfold wrf; rw [if_pos b1, if_pos b1]) (fun i hi hne => wrf_out (b2 i hi hne))]
  exact ⟨rfl, rfl⟩
/-! witnesses -/
theorem so_bits : ∀ t, t < 6 → bt (2 ^ t) t = 1 ∧ (∀ i, i < 6 → i ≠ t → bt (2 ^ t) i = 0) ∧ anN (2 ^ t) (2 ^ t) = 0 := by decide +kernel
theorem prod6 {f : Nat → Nat} {t x : Nat} (ht : t < 6) (h1 : f t = x) (h2 : ∀ i, i < 6 → i ≠ t → f i = 1) : prodN f 6 = x := by
  have a : ∀ i, i < 6 → f i = if i = t then x else 1 := fun i hi => by
    by_cases e : i = t
    · rw [if_pos e, e, h1]
    · rw [if_neg e, h2 i hi e]
  simp only [prodN, a 0 (by decide), a 1 (by decide), a 2 (by decide), a 3 (by decide), a 4 (by decide), a 5 (by decide)]
  rcases (show t = 0 ∨ t = 1 ∨ t = 2 ∨ t = 3 ∨ t = 4 ∨ t = 5 by omega) with rfl | rfl | rfl | rfl | rfl | rfl <;> simp
theorem saf_out {f : Nat → Nat} {A B i : Nat} (h : bt A i = 0) : saf f A B i = 1 := by unfold saf; rw [if_neg (by omega)]
theorem sa_t {t : Nat} (ht : t < 6) : saW v (2 ^ t) (2 ^ t) = 12 - v 8 t ∧ saW v (2 ^ t) 0 = v 8 t ∧ allW (2 ^ t) = 12 := by
  obtain ⟨b1, b2, b3⟩ := so_bits t ht
  unfold saW allW
  rw [prod6 (x := 12 - v 8 t) ht (by unfold saf; rw [if_pos b1, if_pos b1]) (fun i hi hne => saf_out (b2 i hi hne))]
  rw [prod6 (x := v 8 t) ht (by unfold saf; rw [if_pos b1, if_neg (by rw [bt_0]; decide)]) (fun i hi hne => saf_out (b2 i hi hne))]
  rw [prod6 (x := 12) ht (by unfold twf; rw [if_pos b1]) (fun i hi hne => by unfold twf; rw [if_neg (by rw [b2 i hi hne]; decide)])]
  exact ⟨rfl, rfl, rfl⟩
theorem so_none : soW v 0 0 = v 10 0 ∧ noW v 0 0 = 12 - v 10 0 := by
  have h : ∀ B, saW v 0 B = 1 := fun B => by
    unfold saW
    simp [prodN, saf_out (bt_0 _)]
  unfold soW noW
  rw [h, h, Nat.mul_one, Nat.mul_one]
  exact ⟨rfl, rfl⟩
theorem so_t {t : Nat} (ht : t < 6) : soW v (2 ^ t) (2 ^ t) = v 10 0 * (12 - v 8 t) ∧ noW v (2 ^ t) (2 ^ t) = (12 - v 10 0) * v 8 t := by
  obtain ⟨-, -, b3⟩ := so_bits t ht
  have h := sa_t (v := v) ht
  unfold soW noW
  rw [b3, h.1, h.2.1]
  exact ⟨rfl, rfl⟩
/-! prices -/
theorem bst_P {P : Nat → Prop} {o : Option Nat} {p : Nat} (ho : ∀ q, o = some q → P q) (hp : P p) : ∀ q, bst v o p = some q → P q := by
  intro q h
  unfold bst at h
  cases o with
  | none => cases h; exact hp
  | some r =>
    simp only at h
    split at h
    · cases h; exact hp
    · cases h; exact ho _ rfl
theorem fo_P : ∀ m q, fo v m = some q → q < m ∧ isP q
  | 0, q, h => by cases h
  | m + 1, q, h => by
    have ih := fo_P m
    unfold fo at h
    by_cases e : isP m
    · rw [if_pos e] at h
      exact bst_P (v := v) (P := fun q => q < m + 1 ∧ isP q) (fun q hq => ⟨Nat.lt_succ_of_lt (ih q hq).1, (ih q hq).2⟩) ⟨Nat.lt_succ_self m, e⟩ q h
    · rw [if_neg e] at h
      exact ⟨Nat.lt_succ_of_lt (ih q h).1, (ih q h).2⟩
theorem best_is : bestP v < 256 ∧ isP (bestP v) := fo_P 256 _ (fo_best v)
theorem seen_bit : ∀ p, p < 256 → isP p → ∀ k, k < 4 → bt (seen p k) (dg p k) = 0 := by decide +kernel
theorem mean_b (h : ∀ w, w < 12 → ∀ i, i < 8 → v w i ≤ mostN w) (p : Nat) : meanP v p ≤ 172800 * sumN (fun k => v 7 (dg p k)) 4 ∧ 172800 * v 7 (dg p 0) ≤ meanP v p := by
  have s0 := (mnp_b h p 0).1
  have s1 := (mnp_b h p 1).1
  have s2 := (mnp_b h p 2).1
  have s3 := (mnp_b h p 3).1
  have e0 : (mnp v p 0).2.1 + (mnp v p 0).2.2 = 100 := by
    have := h 9 (by decide) 0 (by decide)
    rw [show mostN 9 = 99 from rfl] at this
    simp only [mnp]
    omega
  have m1 : (mnp v p 1).1 = (mnp v p 0).1 * 12 + v 7 (dg p 0) * ((mnp v p 0).2.1 + (mnp v p 0).2.2) := rfl
  have m2 : (mnp v p 2).1 = (mnp v p 1).1 * 12 + v 7 (dg p 1) * ((mnp v p 1).2.1 + (mnp v p 1).2.2) := rfl
  have m3 : (mnp v p 3).1 = (mnp v p 2).1 * 12 + v 7 (dg p 2) * ((mnp v p 2).2.1 + (mnp v p 2).2.2) := rfl
  have m4 : (mnp v p 4).1 = (mnp v p 3).1 * 12 + v 7 (dg p 3) * ((mnp v p 3).2.1 + (mnp v p 3).2.2) := rfl
  have z0 : (mnp v p 0).1 = 0 := rfl
  have k1 := Nat.mul_le_mul_left (v 7 (dg p 1)) s1
  have k2 := Nat.mul_le_mul_left (v 7 (dg p 2)) s2
  have k3 := Nat.mul_le_mul_left (v 7 (dg p 3)) s3
  rw [e0] at m1
  unfold meanP
  simp only [sumN]
  omega
/-! stakes -/
def lsQ (q : Nat → Int32) (i j k : Nat) : Int32 := lossI q (sg i) (sg j) (sg k)
def okS (q : Nat → Int32) (P : P4) : Prop := P = (0, 0, 0, 0) ∨ ∃ i j k, i < 11 ∧ j < 11 ∧ k < 11 ∧ P = (lsQ q i j k, sg i, sg j, sg k) ∧ 0 < P.1
theorem okS_0 {q : Nat → Int32} {P : P4} (h : okS q P) : 0 ≤ P.1 := by
  rcases h with h | ⟨i, j, k, -, -, -, -, h⟩
  · rw [h]; decide
  · exact Int32.le_of_lt h
theorem stp_ok {q : Nat → Int32} {P : P4} {i j k : Nat} (hi : i < 11) (hj : j < 11) (hk : k < 11) (h : okS q P) : okS q (stp q i j k P) ∧ P.1 ≤ (stp q i j k P).1 ∧ lsQ q i j k ≤ (stp q i j k P).1 := by
  have h0 := okS_0 h
  unfold stp
  by_cases e : P.1 < lossI q (sg i) (sg j) (sg k)
  · rw [if_pos e]
    exact ⟨Or.inr ⟨i, j, k, hi, hj, hk, rfl, Int32.lt_of_le_of_lt h0 e⟩, Int32.le_of_lt e, Int32.le_refl _⟩
  · rw [if_neg e]
    exact ⟨h, Int32.le_refl _, Int32.not_lt.mp e⟩
theorem l3_ok {q : Nat → Int32} {P : P4} {i j : Nat} (hi : i < 11) (hj : j < 11) (h : okS q P) : ∀ m, m ≤ 11 → okS q (l3 q i j m P) ∧ P.1 ≤ (l3 q i j m P).1 ∧ ∀ k, k < m → lsQ q i j k ≤ (l3 q i j m P).1
  | 0, _ => ⟨h, Int32.le_refl _, fun k hk => absurd hk (Nat.not_lt_zero _)⟩
  | m + 1, hm => by
    obtain ⟨a1, a2, a3⟩ := l3_ok hi hj h m (by omega)
    obtain ⟨b1, b2, b3⟩ := stp_ok (k := m) hi hj (by omega) a1
    refine ⟨b1, Int32.le_trans a2 b2, fun k hk => ?_⟩
    by_cases e : k = m
    · rw [e]; exact b3
    · exact Int32.le_trans (a3 k (by omega)) b2
theorem l2_ok {q : Nat → Int32} {P : P4} {i : Nat} (hi : i < 11) (h : okS q P) : ∀ m, m ≤ 11 → okS q (l2 q i m P) ∧ P.1 ≤ (l2 q i m P).1 ∧ ∀ j, j < m → ∀ k, k < 11 → lsQ q i j k ≤ (l2 q i m P).1
  | 0, _ => ⟨h, Int32.le_refl _, fun k hk => absurd hk (Nat.not_lt_zero _)⟩
  | m + 1, hm => by
    obtain ⟨a1, a2, a3⟩ := l2_ok hi h m (by omega)
    obtain ⟨b1, b2, b3⟩ := l3_ok (j := m) hi (by omega) a1 11 (Nat.le_refl _)
    refine ⟨b1, Int32.le_trans a2 b2, fun j hj k hk => ?_⟩
    by_cases e : j = m
    · rw [e]; exact b3 k hk
    · exact Int32.le_trans (a3 j (by omega) k hk) b2
theorem l1_ok {q : Nat → Int32} {P : P4} (h : okS q P) : ∀ m, m ≤ 11 → okS q (l1 q m P) ∧ P.1 ≤ (l1 q m P).1 ∧ ∀ i, i < m → ∀ j, j < 11 → ∀ k, k < 11 → lsQ q i j k ≤ (l1 q m P).1
  | 0, _ => ⟨h, Int32.le_refl _, fun k hk => absurd hk (Nat.not_lt_zero _)⟩
  | m + 1, hm => by
    obtain ⟨a1, a2, a3⟩ := l1_ok h m (by omega)
    obtain ⟨b1, b2, b3⟩ := l2_ok (i := m) (by omega) a1 11 (Nat.le_refl _)
    refine ⟨b1, Int32.le_trans a2 b2, fun i hi j hj k hk => ?_⟩
    by_cases e : i = m
    · rw [e]; exact b3 j hj k hk
    · exact Int32.le_trans (a3 i (by omega) j hj k hk) b2
theorem sure_ok : okS (qI v) (sureP v) ∧ ∀ i, i < 11 → ∀ j, j < 11 → ∀ k, k < 11 → lsQ (qI v) i j k ≤ (sureP v).1 := by
  have h := l1_ok (q := qI v) (P := (0, 0, 0, 0)) (Or.inl rfl) 11 (Nat.le_refl _)
  exact ⟨h.1, h.2.2⟩
end Nums
