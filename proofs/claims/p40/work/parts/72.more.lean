/-! which of two fractions is more: the class -/
theorem mr_gt {p q r t : Nat} (hq : 0 < q) (ht : 0 < t) (h : r / t < p / q) : r * q < p * t := by
  have h1 : (r / t + 1) * q ≤ p := (Nat.le_div_iff_mul_le hq).mp h
  have h2 : r < (r / t + 1) * t := by
    have e1 := Nat.div_add_mod r t
    have e2 := Nat.mod_lt r ht
    rw [Nat.succ_mul, Nat.mul_comm (r / t) t]
    omega
  have h3 : r * q < (r / t + 1) * t * q := Nat.mul_lt_mul_of_pos_right h2 hq
  have h4 : (r / t + 1) * t * q = (r / t + 1) * q * t := Nat.mul_right_comm _ _ _
  have h5 : (r / t + 1) * q * t ≤ p * t := Nat.mul_le_mul_right t h1
  omega
theorem mr_eq {p q r t : Nat} (h : p / q = r / t) : (r * q < p * t ↔ r % t * q < p % q * t) ∧ (p * t < r * q ↔ p % q * t < r % t * q) := by
  have h1 := Nat.div_add_mod p q
  have h2 := Nat.div_add_mod r t
  have e1 : p * t = q * t * (p / q) + p % q * t := by
    have : (q * (p / q) + p % q) * t = q * t * (p / q) + p % q * t := by rw [Nat.add_mul, Nat.mul_right_comm]
    rw [h1] at this; exact this
  have e2 : r * q = q * t * (p / q) + r % t * q := by
    have : (t * (r / t) + r % t) * q = q * t * (r / t) + r % t * q := by rw [Nat.add_mul, Nat.mul_comm (t * (r / t)) q, ← Nat.mul_assoc]
    rw [h2] at this; rw [h]; exact this
  rw [e1, e2]
  generalize q * t * (p / q) = A
  generalize p % q * t = B
  generalize r % t * q = C
  constructor <;> constructor <;> intro z <;> omega
/-- turned (u = 1) or not (u = 0) -/
abbrev mrP (u p q r t : Nat) : Prop := (u = 0 ∧ r * q < p * t) ∨ (u = 1 ∧ p * t < r * q)
theorem mr_step {u p q r t : Nat} (hu : u < 2) (h : p / q = r / t) : mrP (1 - u) q (p % q) t (r % t) ↔ mrP u p q r t := by
  have e := mr_eq h
  rw [Nat.mul_comm (p % q) t, Nat.mul_comm (r % t) q] at e
  rcases (show u = 0 ∨ u = 1 by omega) with rfl | rfl <;> simp [mrP, e.1, e.2]
theorem mr_q0 {u p r t : Nat} (hu : u < 2) (hp : 0 < p) : mrP u p 0 r t ↔ 0 < t ∧ u = 0 := by
  rcases (show u = 0 ∨ u = 1 by omega) with rfl | rfl <;> simp [mrP]
  constructor
  · intro z; exact Nat.pos_of_ne_zero (fun q => by rw [q] at z; simp at z)
  · intro z; exact Nat.mul_pos hp z
theorem mr_t0 {u p q r : Nat} (hu : u < 2) (hr : 0 < r) : mrP u p q r 0 ↔ 0 < q ∧ u = 1 := by
  rcases (show u = 0 ∨ u = 1 by omega) with rfl | rfl <;> simp [mrP]
  constructor
  · intro z; exact Nat.pos_of_ne_zero (fun q => by rw [q] at z; simp at z)
  · intro z; exact Nat.mul_pos hr z
theorem lN_ne0 {x : Nat} (hx : x < 2 ^ 62) (h : 0 < x) : ¬ lN x = 0 := fun z => absurd ((lN_eq0 hx).mp z) (by omega)
section More
variable {a : Nat → Nat} {S : St}


set_option maxRecDepth 20000 in
theorem mr_end {x0 x1 x2 x3 : Int64} {P : Prop} (ip : Decidable P) {p q r t i u : Nat} {w18 w20 : Value} (hq2 : q < 2 ^ 62) (ht2 : t < 2 ^ 62) (hpq : 0 < q ∨ 0 < p) (hrt : 0 < t ∨ 0 < r) (hu : u < 2) (he : q = 0 ∨ t = 0) (hP : mrP u p q r t ↔ P) : J a mX5_isMore 0 (gm a fun r' S' => r' = some (.int (@bi P ip)) ∧ S' = S) 134 [.long x0, .null, .long x1, .null, .long x2, .null, .long x3, .null, .long (lN p), .null, .long (lN q), .null, .long (lN r), .null, .long (lN t), .null, .int (nI u), .int (nI i), w18, .null, w20, .null] [] S := by
  refine j_lld10 dX5_isMore_134 ?_
  refine j_lconst (0) dX5_isMore_136 rfl ?_
  refine j_lcmp dX5_isMore_137 ?_
  refine j_ifne 161 dX5_isMore_138 (by decide) (fun c_138 => ?_) (fun c_138 => ?_)
  · have q_138 : 0 < q := Nat.pos_of_ne_zero (fun z => c_138 (lg_cmp0.mpr (by rw [z]; rfl)))
    refine j_lld14 dX5_isMore_161 ?_
    refine j_lconst (0) dX5_isMore_163 rfl ?_
    refine j_lcmp dX5_isMore_164 ?_
    refine j_ifne 177 dX5_isMore_165 (by decide) (fun c_165 => ?_) (fun c_165 => ?_)
    · have q_165 : 0 < t := Nat.pos_of_ne_zero (fun z => c_165 (lg_cmp0.mpr (by rw [z]; rfl)))
      refine j_iconst (0) dX5_isMore_177 rfl ?_
      refine j_zret dX5_isMore_178 rfl (by decide) ?_
      exact absurd he (by omega)
    have q_165 : t = 0 := (lN_eq0 ht2).mp (lg_cmp0.mp (Classical.not_not.mp c_165))
    subst q_165
    have hr0 : 0 < r := by omega
    refine j_ild16 dX5_isMore_168 ?_
    refine j_ifeq 177 dX5_isMore_170 (by decide) (fun c_170 => ?_) (fun c_170 => ?_)
    · have q_170 : u = 0 := (nI_eq (a := u) (b := 0) (by omega) (by decide)).mp c_170
      refine j_iconst (0) dX5_isMore_177 rfl ?_
      refine j_zret dX5_isMore_178 rfl (by decide) ?_
      exact ⟨by rw [bi_f (fun z => absurd ((mr_t0 hu hr0).mp (hP.mpr z)).2 (by omega))], rfl⟩
    have q_170 : u = 1 := by
      have : ¬ u = 0 := fun z => c_170 (by rw [z]; rfl)
      omega
    refine j_iconst (1) dX5_isMore_173 rfl ?_
    refine j_goto 178 dX5_isMore_174 (by decide) ?_
    refine j_zret dX5_isMore_178 rfl (by decide) ?_
    exact ⟨by rw [bi_t (hP.mp ((mr_t0 hu hr0).mpr ⟨q_138, q_170⟩))], rfl⟩
  have q_138 : q = 0 := (lN_eq0 hq2).mp (lg_cmp0.mp (Classical.not_not.mp c_138))
  subst q_138
  have hp0 : 0 < p := by omega
  refine j_lld14 dX5_isMore_141 ?_
  refine j_lconst (0) dX5_isMore_143 rfl ?_
  refine j_lcmp dX5_isMore_144 ?_
  refine j_ifeq 157 dX5_isMore_145 (by decide) (fun c_145 => ?_) (fun c_145 => ?_)
  · have q_145 : t = 0 := (lN_eq0 ht2).mp (lg_cmp0.mp c_145)
    refine j_iconst (0) dX5_isMore_157 rfl ?_
    refine j_goto 178 dX5_isMore_158 (by decide) ?_
    refine j_zret dX5_isMore_178 rfl (by decide) ?_
    exact ⟨by rw [bi_f (fun z => absurd ((mr_q0 hu hp0).mp (hP.mpr z)).1 (by omega))], rfl⟩
  have q_145 : 0 < t := Nat.pos_of_ne_zero (fun z => c_145 (lg_cmp0.mpr (by rw [z]; rfl)))
  refine j_ild16 dX5_isMore_148 ?_
  refine j_ifne 157 dX5_isMore_150 (by decide) (fun c_150 => ?_) (fun c_150 => ?_)
  · have q_150 : u = 1 := by
      have : ¬ u = 0 := fun z => c_150 (by rw [z]; rfl)
      omega
    refine j_iconst (0) dX5_isMore_157 rfl ?_
    refine j_goto 178 dX5_isMore_158 (by decide) ?_
    refine j_zret dX5_isMore_178 rfl (by decide) ?_
    exact ⟨by rw [bi_f (fun z => absurd ((mr_q0 hu hp0).mp (hP.mpr z)).2 (by omega))], rfl⟩
  have q_150 : u = 0 := (nI_eq (a := u) (b := 0) (by omega) (by decide)).mp (Classical.not_not.mp c_150)
  refine j_iconst (1) dX5_isMore_153 rfl ?_
  refine j_goto 178 dX5_isMore_154 (by decide) ?_
  refine j_zret dX5_isMore_178 rfl (by decide) ?_
  exact ⟨by rw [bi_t (hP.mp ((mr_q0 hu hp0).mpr ⟨q_145, q_150⟩))], rfl⟩

set_option maxRecDepth 20000 in
theorem lp_X5_isMore {x0 x1 x2 x3 : Int64} {P : Prop} (ip : Decidable P) : ∀ (fu : Nat) (p q r t i u : Nat) (w18 w20 : Value), 200 - i < fu → (p < 2 ^ 62) → (q < 2 ^ 62) → (r < 2 ^ 62) → (t < 2 ^ 62) → (0 < q ∨ 0 < p) → (0 < t ∨ 0 < r) → (i ≤ 200) → (u < 2) → ((i = 0 ∧ p * q < 2 ^ 126) ∨ (q ≤ p ∧ p * q * 2 ^ i ≤ 2 ^ 127)) → (mrP u p q r t ↔ P) → J a mX5_isMore 0 (gm a fun r' S' => r' = some (.int (@bi P ip)) ∧ S' = S) 20 [.long x0, .null, .long x1, .null, .long x2, .null, .long x3, .null, .long (lN p), .null, .long (lN q), .null, .long (lN r), .null, .long (lN t), .null, .int (nI u), .int (nI i), w18, .null, w20, .null] [] S := by
  intro fu
  induction fu with
  | zero => intro p q r t i u w18 w20 hk; exact absurd hk (Nat.not_lt_zero _)
  | succ fu ih =>
    intro p q r t i u w18 w20 hk hp2 hq2 hr2 ht2 hpq hrt hi hu hb hP
    refine j_ild17 dX5_isMore_20 ?_
    refine j_sipush (200) dX5_isMore_22 rfl ?_
    refine j_icmpge 134 dX5_isMore_25 (by decide) (fun c_25 => ?_) (fun c_25 => ?_)
    · have q_25 : i = 200 := by have := (nI_leI (a := 200) (b := i) (by decide) (by omega)).mp c_25; omega
      have q_q : q = 0 := by
        rcases Nat.eq_zero_or_pos p with z | z
        · rcases hb with y | y <;> omega
        · exact half_end (s := i) z (by omega) (by rcases hb with y | y; omega; exact y.2)
      exact mr_end ip hq2 ht2 hpq hrt hu (Or.inl q_q) hP
    have q_25 : i < 200 := Nat.not_le.mp (fun z => c_25 ((nI_leI (a := 200) (b := i) (by decide) (by omega)).mpr z))
    refine j_lld10 dX5_isMore_28 ?_
    refine j_lconst (0) dX5_isMore_30 rfl ?_
    refine j_lcmp dX5_isMore_31 ?_
    refine j_ifeq 134 dX5_isMore_32 (by decide) (fun c_32 => ?_) (fun c_32 => ?_)
    · have q_q : q = 0 := (lN_eq0 hq2).mp (lg_cmp0.mp c_32)
      exact mr_end ip hq2 ht2 hpq hrt hu (Or.inl q_q) hP
    have q_32 : 0 < q := Nat.pos_of_ne_zero (fun z => c_32 (lg_cmp0.mpr (by rw [z]; rfl)))
    refine j_lld14 dX5_isMore_35 ?_
    refine j_lconst (0) dX5_isMore_37 rfl ?_
    refine j_lcmp dX5_isMore_38 ?_
    refine j_ifeq 134 dX5_isMore_39 (by decide) (fun c_39 => ?_) (fun c_39 => ?_)
    · have q_t : t = 0 := (lN_eq0 ht2).mp (lg_cmp0.mp c_39)
      exact mr_end ip hq2 ht2 hpq hrt hu (Or.inr q_t) hP
    have q_39 : 0 < t := Nat.pos_of_ne_zero (fun z => c_39 (lg_cmp0.mpr (by rw [z]; rfl)))
    have hdp : p / q ≤ p := Nat.div_le_self _ _
    have hdr : r / t ≤ r := Nat.div_le_self _ _
    refine j_lld8 dX5_isMore_42 ?_
    refine j_lld10 dX5_isMore_44 ?_
    refine j_ldiv dX5_isMore_46 (lN_ne0 hq2 q_32) ?_
    refine j_topL (y := lN (p / q)) (pk_lDiv (by omega) q_32 (by omega)) ?_
    refine j_lld12 dX5_isMore_47 ?_
    refine j_lld14 dX5_isMore_49 ?_
    refine j_ldiv dX5_isMore_51 (lN_ne0 ht2 q_39) ?_
    refine j_topL (y := lN (r / t)) (pk_lDiv (by omega) q_39 (by omega)) ?_
    refine j_lcmp dX5_isMore_52 ?_
    refine j_ifeq 86 dX5_isMore_53 (by decide) (fun c_53 => ?_) (fun c_53 => ?_)
    · have q_53 : p / q = r / t := (pk_lEQ (by omega) (by omega)).mp (lg_cmp0.mp c_53)
      refine j_lld8 dX5_isMore_86 ?_
      refine j_lld10 dX5_isMore_88 ?_
      refine j_lrem dX5_isMore_90 (lN_ne0 hq2 q_32) ?_
      refine j_topL (y := lN (p % q)) (pk_lRem (by omega) q_32 (by omega)) ?_
      refine j_lst18 dX5_isMore_91 rfl (by decide) ?_
      refine j_lld12 dX5_isMore_93 ?_
      refine j_lld14 dX5_isMore_95 ?_
      refine j_lrem dX5_isMore_97 (lN_ne0 ht2 q_39) ?_
      refine j_topL (y := lN (r % t)) (pk_lRem (by omega) q_39 (by omega)) ?_
      refine j_lst20 dX5_isMore_98 rfl (by decide) ?_
      refine j_lld10 dX5_isMore_100 ?_
      refine j_lst8 dX5_isMore_102 rfl (by decide) ?_
      refine j_lld18 dX5_isMore_104 ?_
      refine j_lst10 dX5_isMore_106 rfl (by decide) ?_
      refine j_lld14 dX5_isMore_108 ?_
      refine j_lst12 dX5_isMore_110 rfl (by decide) ?_
      refine j_lld20 dX5_isMore_112 ?_
      refine j_lst14 dX5_isMore_114 rfl (by decide) ?_
      refine j_ild16 dX5_isMore_116 ?_
      refine j_ifne 125 dX5_isMore_118 (by decide) (fun c_118 => ?_) (fun c_118 => ?_)
      · have q_u : u = 1 := by
          have : ¬ u = 0 := fun z => c_118 (by rw [z]; rfl)
          omega
        subst q_u
        refine j_iconst (0) dX5_isMore_125 rfl ?_
        refine j_ist16 dX5_isMore_126 rfl (by decide) ?_
        refine j_iinc17 (nI (i + 1)) dX5_isMore_128 (nI_1 i) rfl (by decide) ?_
        refine j_goto 20 dX5_isMore_131 (by decide) ?_
        have hm1 := Nat.mod_lt p q_32
        have hm2 := Nat.mod_lt r q_39
        have hh := half_step q_32 hb
        exact ih q (p % q) t (r % t) (i + 1) 0 _ _ (by omega) hq2 (by omega) ht2 (by omega) (Or.inr q_32) (Or.inr q_39) (by omega) (by omega) (Or.inr hh) ((mr_step (by decide) q_53).trans hP)
      have q_u : u = 0 := (nI_eq (a := u) (b := 0) (by omega) (by decide)).mp (Classical.not_not.mp c_118)
      subst q_u
      refine j_iconst (1) dX5_isMore_121 rfl ?_
      refine j_goto 126 dX5_isMore_122 (by decide) ?_
      refine j_ist16 dX5_isMore_126 rfl (by decide) ?_
      refine j_iinc17 (nI (i + 1)) dX5_isMore_128 (nI_1 i) rfl (by decide) ?_
      refine j_goto 20 dX5_isMore_131 (by decide) ?_
      have hm1 := Nat.mod_lt p q_32
      have hm2 := Nat.mod_lt r q_39
      have hh := half_step q_32 hb
      exact ih q (p % q) t (r % t) (i + 1) 1 _ _ (by omega) hq2 (by omega) ht2 (by omega) (Or.inr q_32) (Or.inr q_39) (by omega) (by omega) (Or.inr hh) ((mr_step (by decide) q_53).trans hP)
    have q_53 : ¬ p / q = r / t := fun z => c_53 (lg_cmp0.mpr (by rw [z]))
    refine j_lld8 dX5_isMore_56 ?_
    refine j_lld10 dX5_isMore_58 ?_
    refine j_ldiv dX5_isMore_60 (lN_ne0 hq2 q_32) ?_
    refine j_topL (y := lN (p / q)) (pk_lDiv (by omega) q_32 (by omega)) ?_
    refine j_lld12 dX5_isMore_61 ?_
    refine j_lld14 dX5_isMore_63 ?_
    refine j_ldiv dX5_isMore_65 (lN_ne0 ht2 q_39) ?_
    refine j_topL (y := lN (r / t)) (pk_lDiv (by omega) q_39 (by omega)) ?_
    refine j_lcmp dX5_isMore_66 ?_
    refine j_ifle 74 dX5_isMore_67 (by decide) (fun c_67 => ?_) (fun c_67 => ?_)
    · have q_67 : p / q < r / t := by
        have := (pk_lLE (by omega) (by omega)).mp ((lg_cmp_le _ _).mp c_67)
        omega
      have q_m := mr_gt q_39 q_32 q_67
      refine j_iconst (0) dX5_isMore_74 rfl ?_
      refine j_ild16 dX5_isMore_75 ?_
      refine j_icmpeq 84 dX5_isMore_77 (by decide) (fun c_77 => ?_) (fun c_77 => ?_)
      · have q_77 : u = 0 := ((nI_eq (a := 0) (b := u) (by decide) (by omega)).mp c_77).symm
        subst q_77
        refine j_iconst (0) dX5_isMore_84 rfl ?_
        refine j_zret dX5_isMore_85 rfl (by decide) ?_
        exact ⟨by rw [bi_f (fun z => absurd (hP.mpr z) (by simp only [mrP]; omega))], rfl⟩
      have q_77 : u = 1 := by
        have : ¬ u = 0 := fun z => c_77 (by rw [z]; rfl)
        omega
      subst q_77
      refine j_iconst (1) dX5_isMore_80 rfl ?_
      refine j_goto 85 dX5_isMore_81 (by decide) ?_
      refine j_zret dX5_isMore_85 rfl (by decide) ?_
      exact ⟨by rw [bi_t (hP.mp (Or.inr ⟨rfl, q_m⟩))], rfl⟩
    have q_67 : r / t < p / q := by
      have := mt (fun z => (lg_cmp_le _ _).mpr ((pk_lLE (a := p / q) (b := r / t) (by omega) (by omega)).mpr z)) c_67
      omega
    have q_m := mr_gt q_32 q_39 q_67
    refine j_iconst (1) dX5_isMore_70 rfl ?_
    refine j_goto 75 dX5_isMore_71 (by decide) ?_
    refine j_ild16 dX5_isMore_75 ?_
    refine j_icmpeq 84 dX5_isMore_77 (by decide) (fun c_77 => ?_) (fun c_77 => ?_)
    · have q_77 : u = 1 := ((nI_eq (a := 1) (b := u) (by decide) (by omega)).mp c_77).symm
      subst q_77
      refine j_iconst (0) dX5_isMore_84 rfl ?_
      refine j_zret dX5_isMore_85 rfl (by decide) ?_
      exact ⟨by rw [bi_f (fun z => absurd (hP.mpr z) (by simp only [mrP]; omega))], rfl⟩
    have q_77 : u = 0 := by
      have : ¬ u = 1 := fun z => c_77 (by rw [z]; rfl)
      omega
    subst q_77
    refine j_iconst (1) dX5_isMore_80 rfl ?_
    refine j_goto 85 dX5_isMore_81 (by decide) ?_
    refine j_zret dX5_isMore_85 rfl (by decide) ?_
    exact ⟨by rw [bi_t (hP.mp (Or.inl ⟨rfl, q_m⟩))], rfl⟩

set_option maxRecDepth 20000 in
theorem s_X5_isMore {p q r t : Nat} (hq : 0 < q) (ht : 0 < t) (hp2 : p < 2 ^ 62) (hq2 : q < 2 ^ 62) (hr2 : r < 2 ^ 62) (ht2 : t < 2 ^ 62) : Rt a mX5_isMore 0 [.long (lN p), .long (lN q), .long (lN r), .long (lN t)] S (some (.int (bi (r * q < p * t)))) S := by
  show J _ _ _ _ 0 [_, .null, _, .null, _, .null, _, .null, .null, .null, .null, .null, .null, .null, .null, .null, .null, .null, .null, .null, .null, .null] [] _
  refine j_lld0 dX5_isMore_0 ?_
  refine j_lst8 dX5_isMore_1 rfl (by decide) ?_
  refine j_lld2 dX5_isMore_3 ?_
  refine j_lst10 dX5_isMore_4 rfl (by decide) ?_
  refine j_lld4 dX5_isMore_6 ?_
  refine j_lst12 dX5_isMore_8 rfl (by decide) ?_
  refine j_lld6 dX5_isMore_10 ?_
  refine j_lst14 dX5_isMore_12 rfl (by decide) ?_
  refine j_iconst (0) dX5_isMore_14 rfl ?_
  refine j_ist16 dX5_isMore_15 rfl (by decide) ?_
  refine j_iconst (0) dX5_isMore_17 rfl ?_
  refine j_ist17 dX5_isMore_18 rfl (by decide) ?_
  refine lp_X5_isMore _ 201 p q r t 0 0 .null .null (by omega) hp2 hq2 hr2 ht2 (Or.inl hq) (Or.inl ht) (by omega) (by decide) (Or.inl ⟨rfl, ?_⟩) (by simp [mrP])
  exact Nat.lt_of_lt_of_le (Nat.mul_lt_mul_of_lt_of_le hp2 (Nat.le_of_lt hq2) (by decide)) (by decide)

end More

