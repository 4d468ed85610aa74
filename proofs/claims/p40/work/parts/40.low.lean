/-! lowest terms: both sides -/
def lowV (x y : Nat) (p : Int32) : Int64 := if x = 0 ∨ y = 0 then (if p = 0 then 0 else 1) else lN ((if p = 0 then x else y) / Nat.gcd x y)
theorem lN_le0 {x : Nat} (hx : x < 2 ^ 62) : lN x ≤ 0 ↔ x = 0 := by
  have := pk_lLE (a := x) (b := 0) (by omega) (by decide)
  rw [show (0 : Int64) = lN 0 from rfl, this]; omega
theorem lN_eq0 {x : Nat} (hx : x < 2 ^ 62) : lN x = 0 ↔ x = 0 := by
  have := pk_lEQ (a := x) (b := 0) (by omega) (by decide)
  rw [show (0 : Int64) = lN 0 from rfl, this]
theorem gcd_step {g l : Nat} : Nat.gcd l (g % l) = Nat.gcd g l := by rw [Nat.gcd_comm l (g % l), ← Nat.gcd_rec, Nat.gcd_comm]
theorem half_step {g l s : Nat} (hl : 0 < l) (h : (s = 0 ∧ g * l < 2 ^ 126) ∨ (l ≤ g ∧ g * l * 2 ^ s ≤ 2 ^ 127)) : g % l ≤ l ∧ l * (g % l) * 2 ^ (s + 1) ≤ 2 ^ 127 := by
  have h1 := Nat.mod_lt g hl
  refine ⟨by omega, ?_⟩
  rcases h with ⟨rfl, h⟩ | ⟨h, h2⟩
  · have h3 : l * (g % l) ≤ l * g := Nat.mul_le_mul_left l (Nat.mod_le g l)
    rw [Nat.mul_comm l g] at h3
    omega
  · have h4 : 2 * (g % l) ≤ g := by
      have := Nat.div_add_mod g l
      have h5 : 1 ≤ g / l := (Nat.le_div_iff_mul_le hl).mpr (by omega)
      have h6 : l * 1 ≤ l * (g / l) := Nat.mul_le_mul_left l h5
      omega
    have h5 : l * (g % l) * 2 ^ (s + 1) = (l * (2 * (g % l))) * 2 ^ s := by rw [Nat.pow_succ]; simp only [Nat.mul_assoc, Nat.mul_comm, Nat.mul_left_comm]
    rw [h5]
    refine Nat.le_trans (Nat.mul_le_mul_right _ (Nat.mul_le_mul_left l h4)) ?_
    rw [Nat.mul_comm l g]; exact h2
theorem half_end {g l s : Nat} (hg : 0 < g) (hs : 200 ≤ s) (h : g * l * 2 ^ s ≤ 2 ^ 127) : l = 0 := by
  rcases Nat.eq_zero_or_pos l with e | e
  · exact e
  · have h1 : 1 * 1 ≤ g * l := Nat.mul_le_mul hg e
    have h2 : (2 : Nat) ^ 200 ≤ 2 ^ s := Nat.pow_le_pow_right (by decide) hs
    have h3 : 1 * 2 ^ 200 ≤ g * l * 2 ^ s := Nat.mul_le_mul (by omega) h2
    exact absurd (Nat.le_trans h3 h) (by decide)
section Low
variable {a : Nat → Nat} {S : St}

set_option maxRecDepth 20000 in
theorem lp_X7_gcd {x0 y0 : Int64} {q : Nat} : ∀ (fu : Nat) (g : Nat) (l : Nat) (s : Nat) (w9 : Value), 200 - s < fu → (0 < g) → (g < 2 ^ 62) → (l < 2 ^ 62) → (s ≤ 200) → ((s = 0 ∧ g * l < 2 ^ 126) ∨ (l ≤ g ∧ g * l * 2 ^ s ≤ 2 ^ 127)) → (Nat.gcd g l = q) → J a mX7_commonDivisor 0 (gm a fun r S' => r = some (.long (lN q)) ∧ S' = S) 9 [.long x0, .null, .long y0, .null, .long (lN g), .null, .long (lN l), .null, .int (nI s), w9, .null] [] S := by
  intro fu
  induction fu with
  | zero => intro g l s w9 hk; exact absurd hk (Nat.not_lt_zero _)
  | succ fu ih =>
    intro g l s w9 hk hg hg2 hl2 hs hb hq
    refine j_ild8 dX7_commonDivisor_9 ?_
    refine j_sipush (200) dX7_commonDivisor_11 rfl ?_
    refine j_icmpge 45 dX7_commonDivisor_14 (by decide) (fun c_14 => ?_) (fun c_14 => ?_)
    · have q_14 : s = 200 := by have := (nI_leI (a := 200) (b := s) (by decide) (by omega)).mp c_14; omega
      have q_l : l = 0 := half_end (s := s) hg (by omega) (by rcases hb with z | z; omega; exact z.2)
      subst q_l
      have q_g : g = q := by rw [← hq, Nat.gcd_zero_right]
      subst q_g
      refine j_lld4 dX7_commonDivisor_45 ?_
      refine j_lconst (1) dX7_commonDivisor_47 rfl ?_
      refine j_lcmp dX7_commonDivisor_48 ?_
      refine j_ifge 56 dX7_commonDivisor_49 (by decide) (fun c_49 => ?_) (fun c_49 => absurd ((lg_cmp_ge _ _).mpr ((pk_lLE (a := 1) (b := g) (by decide) (by omega)).mpr (by omega))) c_49)
      refine j_lld4 dX7_commonDivisor_56 ?_
      refine j_lret dX7_commonDivisor_58 rfl ?_
      exact ⟨rfl, rfl⟩
    have q_14 : s < 200 := Nat.not_le.mp (fun z => c_14 ((nI_leI (a := 200) (b := s) (by decide) (by omega)).mpr z))
    refine j_lld6 dX7_commonDivisor_17 ?_
    refine j_lconst (0) dX7_commonDivisor_19 rfl ?_
    refine j_lcmp dX7_commonDivisor_20 ?_
    refine j_ifeq 45 dX7_commonDivisor_21 (by decide) (fun c_21 => ?_) (fun c_21 => ?_)
    · have q_l : l = 0 := (lN_eq0 (by omega)).mp (lg_cmp0.mp c_21)
      subst q_l
      have q_g : g = q := by rw [← hq, Nat.gcd_zero_right]
      subst q_g
      refine j_lld4 dX7_commonDivisor_45 ?_
      refine j_lconst (1) dX7_commonDivisor_47 rfl ?_
      refine j_lcmp dX7_commonDivisor_48 ?_
      refine j_ifge 56 dX7_commonDivisor_49 (by decide) (fun c_49 => ?_) (fun c_49 => absurd ((lg_cmp_ge _ _).mpr ((pk_lLE (a := 1) (b := g) (by decide) (by omega)).mpr (by omega))) c_49)
      refine j_lld4 dX7_commonDivisor_56 ?_
      refine j_lret dX7_commonDivisor_58 rfl ?_
      exact ⟨rfl, rfl⟩
    have q_l : 0 < l := Nat.pos_of_ne_zero (fun z => c_21 (lg_cmp0.mpr (by rw [z]; rfl)))
    refine j_lld4 dX7_commonDivisor_24 ?_
    refine j_lld6 dX7_commonDivisor_26 ?_
    refine j_lrem dX7_commonDivisor_28 (fun z => absurd ((lN_eq0 (by omega)).mp z) (by omega)) ?_
    refine j_topL (y := lN (g % l)) (pk_lRem (by omega) q_l (by omega)) ?_
    refine j_lst9 dX7_commonDivisor_29 rfl (by decide) ?_
    refine j_lld6 dX7_commonDivisor_31 ?_
    refine j_lst4 dX7_commonDivisor_33 rfl (by decide) ?_
    refine j_lld9 dX7_commonDivisor_35 ?_
    refine j_lst6 dX7_commonDivisor_37 rfl (by decide) ?_
    refine j_iinc8 (nI (s + 1)) dX7_commonDivisor_39 (nI_1 s) rfl (by decide) ?_
    refine j_goto 9 dX7_commonDivisor_42 (by decide) ?_
    have hm := Nat.mod_lt g q_l
    have hh := half_step q_l hb
    exact ih l (g % l) (s + 1) _ (by omega) q_l (by omega) (by omega) (by omega) (Or.inr hh) (gcd_step.trans hq)

set_option maxRecDepth 20000 in
theorem s_X7_commonDivisor {x y : Nat} (hx : 0 < x) (hx2 : x < 2 ^ 62) (hy2 : y < 2 ^ 62) : Rt a mX7_commonDivisor 0 [.long (lN x), .long (lN y)] S (some (.long (lN (Nat.gcd x y)))) S := by
  show J _ _ _ _ 0 [_, .null, _, .null, .null, .null, .null, .null, .null, .null, .null] [] _
  refine j_lld0 dX7_commonDivisor_0 ?_
  refine j_lst4 dX7_commonDivisor_1 rfl (by decide) ?_
  refine j_lld2 dX7_commonDivisor_3 ?_
  refine j_lst6 dX7_commonDivisor_4 rfl (by decide) ?_
  refine j_iconst (0) dX7_commonDivisor_6 rfl ?_
  refine j_ist8 dX7_commonDivisor_7 rfl (by decide) ?_
  refine lp_X7_gcd 201 x y 0 .null (by omega) hx hx2 hy2 (by omega) (Or.inl ⟨rfl, ?_⟩) rfl
  exact Nat.lt_of_lt_of_le (Nat.mul_lt_mul_of_lt_of_le hx2 (Nat.le_of_lt hy2) (by decide)) (by decide)

set_option maxRecDepth 20000 in
theorem s_X7_lowest {x y : Nat} {p : Int32} (hx : x < 2 ^ 62) (hy : y < 2 ^ 62) : Rt a mX7_lowest 1 [.long (lN x), .long (lN y), .int p] S (some (.long (lowV x y p))) S := by
  show J _ _ _ _ 0 [_, .null, _, .null, _, .null, .null] [] _
  refine j_lld0 dX7_lowest_0 ?_
  refine j_lconst (0) dX7_lowest_1 rfl ?_
  refine j_lcmp dX7_lowest_2 ?_
  refine j_ifle 12 dX7_lowest_3 (by decide) (fun c_3 => ?_) (fun c_3 => ?_)
  · have q_3 : x = 0 := (lN_le0 hx).mp ((lg_cmp_le _ _).mp c_3)
    refine j_ild4 dX7_lowest_12 ?_
    refine j_ifne 21 dX7_lowest_14 (by decide) (fun c_14 => ?_) (fun c_14 => ?_)
    · refine j_lconst (1) dX7_lowest_21 rfl ?_
      refine j_lret dX7_lowest_22 rfl ?_
      exact ⟨by rw [lowV, if_pos (Or.inl q_3), if_neg c_14], rfl⟩
    refine j_lconst (0) dX7_lowest_17 rfl ?_
    refine j_goto 22 dX7_lowest_18 (by decide) ?_
    refine j_lret dX7_lowest_22 rfl ?_
    exact ⟨by rw [lowV, if_pos (Or.inl q_3), if_pos (Classical.not_not.mp c_14)], rfl⟩
  have q_3 : ¬ x = 0 := fun z => c_3 ((lg_cmp_le _ _).mpr ((lN_le0 hx).mpr z))
  refine j_lld2 dX7_lowest_6 ?_
  refine j_lconst (0) dX7_lowest_7 rfl ?_
  refine j_lcmp dX7_lowest_8 ?_
  refine j_ifgt 23 dX7_lowest_9 (by decide) (fun c_9 => ?_) (fun c_9 => ?_)
  · have q_9 : ¬ y = 0 := fun z => absurd ((lg_cmp_gt _ _).mp c_9) (by rw [z]; exact Int64.lt_irrefl)
    have hgp : 0 < Nat.gcd x y := Nat.gcd_pos_of_pos_left y (Nat.pos_of_ne_zero q_3)
    refine j_lld0 dX7_lowest_23 ?_
    refine j_lld2 dX7_lowest_24 ?_
    refine j_cS2 dX7_lowest_25 kX7_commonDivisor zX7_commonDivisor (Or.inl l7_316) (Nat.le_of_ble_eq_true rfl) (Nat.le_of_ble_eq_true rfl) (by omega) (s_X7_commonDivisor (Nat.pos_of_ne_zero q_3) hx hy) ?_
    refine j_lst5 dX7_lowest_28 rfl (by decide) ?_
    refine j_ild4 dX7_lowest_30 ?_
    refine j_ifne 39 dX7_lowest_32 (by decide) (fun c_32 => ?_) (fun c_32 => ?_)
    · refine j_lld2 dX7_lowest_39 ?_
      refine j_lld5 dX7_lowest_40 ?_
      refine j_ldiv dX7_lowest_42 (fun z => absurd ((lN_eq0 (by have := Nat.gcd_le_left y (Nat.pos_of_ne_zero q_3); omega)).mp z) (by omega)) ?_
      refine j_topL (y := lN (y / Nat.gcd x y)) (pk_lDiv (by omega) hgp (by have := Nat.gcd_le_left y (Nat.pos_of_ne_zero q_3); omega)) ?_
      refine j_lret dX7_lowest_43 rfl ?_
      exact ⟨by rw [lowV, if_neg (by omega), if_neg c_32], rfl⟩
    refine j_lld0 dX7_lowest_35 ?_
    refine j_goto 40 dX7_lowest_36 (by decide) ?_
    refine j_lld5 dX7_lowest_40 ?_
    refine j_ldiv dX7_lowest_42 (fun z => absurd ((lN_eq0 (by have := Nat.gcd_le_left y (Nat.pos_of_ne_zero q_3); omega)).mp z) (by omega)) ?_
    refine j_topL (y := lN (x / Nat.gcd x y)) (pk_lDiv (by omega) hgp (by have := Nat.gcd_le_left y (Nat.pos_of_ne_zero q_3); omega)) ?_
    refine j_lret dX7_lowest_43 rfl ?_
    exact ⟨by rw [lowV, if_neg (by omega), if_pos (Classical.not_not.mp c_32)], rfl⟩
  have q_9 : y = 0 := by
    have := mt (lg_cmp_gt (lN y) 0).mpr c_9
    exact (lN_le0 hy).mp (Int64.not_lt.mp this)
  refine j_ild4 dX7_lowest_12 ?_
  refine j_ifne 21 dX7_lowest_14 (by decide) (fun c_14 => ?_) (fun c_14 => ?_)
  · refine j_lconst (1) dX7_lowest_21 rfl ?_
    refine j_lret dX7_lowest_22 rfl ?_
    exact ⟨by rw [lowV, if_pos (Or.inr q_9), if_neg c_14], rfl⟩
  refine j_lconst (0) dX7_lowest_17 rfl ?_
  refine j_goto 22 dX7_lowest_18 (by decide) ?_
  refine j_lret dX7_lowest_22 rfl ?_
  exact ⟨by rw [lowV, if_pos (Or.inr q_9), if_pos (Classical.not_not.mp c_14)], rfl⟩

end Low

