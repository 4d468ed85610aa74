/-! urns handed on, tests, witnesses, next: both sides -/
def bt (X i : Nat) : Nat := X / 2 ^ i % 2
theorem bt_2 (X i : Nat) : bt X i < 2 := Nat.mod_lt _ (by decide)
theorem sh_bit {X i : Nat} (hX : X < 2 ^ 31) (hi : i < 16) : (nI X >>> (nI i &&& 31)) &&& 1 = nI (bt X i) := by
  have e : nI X >>> (nI i &&& 31) = nI (X / 2 ^ i) := by
    rcases (show i = 0 ∨ i = 1 ∨ i = 2 ∨ i = 3 ∨ i = 4 ∨ i = 5 ∨ i = 6 ∨ i = 7 ∨ i = 8 ∨ i = 9 ∨ i = 10 ∨ i = 11 ∨ i = 12 ∨ i = 13 ∨ i = 14 ∨ i = 15 by omega) with rfl | rfl | rfl | rfl | rfl | rfl | rfl | rfl | rfl | rfl | rfl | rfl | rfl | rfl | rfl | rfl <;> exact pk_shrN hX _ _ (by decide)
  rw [e]
  have h2 : X / 2 ^ i < 2 ^ 32 := Nat.lt_of_le_of_lt (Nat.div_le_self _ _) (by omega)
  exact pk_andN h2 1 (by decide)
def anN (X Y : Nat) : Nat := X - (X &&& Y)
theorem an_I : ∀ X, X < 64 → ∀ Y, Y < 64 → nI X &&& (nI Y ^^^ (-1)) = nI (anN X Y) := by decide +kernel
theorem an_le {X Y : Nat} : anN X Y ≤ X := Nat.sub_le _ _
def prodN (f : Nat → Nat) : Nat → Nat
  | 0 => 1
  | n + 1 => prodN f n * f n
theorem prodN_le {f : Nat → Nat} {b : Nat} : ∀ n, (∀ k, k < n → f k ≤ b) → prodN f n ≤ b ^ n
  | 0, _ => Nat.le_refl _
  | n + 1, h => by
    rw [prodN, Nat.pow_succ]
    exact Nat.mul_le_mul (prodN_le n (fun k hk => h k (by omega))) (h n (by omega))
theorem prodN_congr {f h : Nat → Nat} : ∀ {n}, (∀ k, k < n → f k = h k) → prodN f n = prodN h n
  | 0, _ => rfl
  | n + 1, e => by rw [prodN, prodN, prodN_congr (fun k hk => e k (by omega)), e n (by omega)]
def wrf (f : Nat → Nat) (A B i : Nat) : Nat := if bt A i = 1 then (if bt B i = 1 then f i else 12 - f i) else 1
theorem wrf_le {f : Nat → Nat} {A B i : Nat} (h : f i ≤ 12) : wrf f A B i ≤ 12 := by unfold wrf; split <;> (try split) <;> omega
def hst (r w : Nat) (p : Nat × Nat) : Nat × Nat := (p.1 * (r + 1) + p.2 * r, p.1 * w + p.2 * (w + 1))
/-- ways of red and white after i urns -/
def hnd (v : Nat → Nat → Nat) : Nat → Nat × Nat → Nat × Nat
  | 0, p => p
  | i + 1, p => hst (v 3 (i + 1)) (v 4 (i + 1)) (hnd v i p)
def wpr (v : Nat → Nat → Nat) : Nat → Nat
  | 0 => 1
  | i + 1 => wpr v i * (v 3 (i + 1) + v 4 (i + 1) + 1)
theorem hnd_sum {v : Nat → Nat → Nat} : ∀ i p, (hnd v i p).1 + (hnd v i p).2 = (p.1 + p.2) * wpr v i
  | 0, p => by simp [hnd, wpr]
  | i + 1, p => by
    have ih := hnd_sum (v := v) i p
    simp only [hnd, hst, wpr]
    rw [← Nat.mul_assoc, ← ih]
    simp only [Nat.mul_add, Nat.add_mul, Nat.mul_one]
    omega
theorem wpr_le {v : Nat → Nat → Nat} (h : ∀ w, w < 12 → ∀ i, i < 8 → v w i ≤ mostN w) : ∀ i, i < 4 → wpr v i ≤ 19 ^ i
  | 0, _ => Nat.le_refl _
  | i + 1, hi => by
    have ih := wpr_le h i (by omega)
    have h3 := h 3 (by decide) (i + 1) (by omega)
    have h4 := h 4 (by decide) (i + 1) (by omega)
    have e3 : mostN 3 = 9 := rfl
    have e4 : mostN 4 = 9 := rfl
    rw [wpr, Nat.pow_succ]
    exact Nat.mul_le_mul ih (by omega)
def handV (v : Nat → Nat → Nat) (u : Nat) (y p : Int32) : Int64 := if y = 0 then lowV (hnd v u (v 3 0, v 4 0)).1 ((v 3 0 + v 4 0) * wpr v u) p else lowV (hnd v u (v 3 0, 0)).1 (hnd v u (v 3 0, v 4 0)).1 p
abbrev prt (p : Int32) : Prop := 0 ≤ p ∧ p < 2
section Odds
variable {a : Nat → Nat} {S : St} {n : Nat} {v : Nat → Nat → Nat}
theorem TC.b9 (h : TC n v S) {w i : Nat} (hw : w = 3 ∨ w = 4) (hi : i < 8) : v w i ≤ 9 := by rcases hw with rfl | rfl <;> exact h.2.2.2 _ (by decide) i hi
theorem hnd_b (h : ∀ w, w < 12 → ∀ i, i < 8 → v w i ≤ mostN w) {i p q : Nat} (hi : i < 4) (hp : p + q ≤ 18) : (hnd v i (p, q)).1 ≤ 18 * 19 ^ i ∧ (hnd v i (p, q)).2 ≤ 18 * 19 ^ i := by
  have h1 := hnd_sum (v := v) i (p, q)
  have h2 : (p + q) * wpr v i ≤ 18 * 19 ^ i := Nat.mul_le_mul hp (wpr_le h i hi)
  have h3 : ((p, q) : Nat × Nat).1 + ((p, q) : Nat × Nat).2 = p + q := rfl
  rw [h3] at h1
  omega

set_option maxRecDepth 20000 in
theorem lp_X3_redLast (h : TC n v S) {u : Nat} (hu : u < 4) {P : Nat × Nat} {w3 w4 : Int32} : ∀ (fu : Nat) (c : Nat) (w10 w12 w14 : Value), u - c < fu → (c ≤ u) → J a mX3_redLast 0 (gm a fun r S' => r = some (.long (lN (hnd v u P).1)) ∧ S' = S) 12 [.ref (a 4), .ref (a 1), .int (nI u), .int w3, .int w4, .long (lN (hnd v c P).1), .null, .long (lN (hnd v c P).2), .null, .int (nI (c + 1)), w10, .null, w12, .null, w14, .null] [] S := by
  intro fu
  induction fu with
  | zero => intro c w10 w12 w14 hk; exact absurd hk (Nat.not_lt_zero _)
  | succ fu ih =>
    intro c w10 w12 w14 hk hc
    refine j_ild9 dX3_redLast_12 ?_
    refine j_ild2 dX3_redLast_14 ?_
    refine j_icmpgt 88 dX3_redLast_15 (by decide) (fun c_15 => ?_) (fun c_15 => ?_)
    · have q_15 : c = u := by have := (nI_ltI (a := u) (b := c + 1) (by omega) (by omega)).mp c_15; omega
      subst q_15
      refine j_lld5 dX3_redLast_88 ?_
      refine j_lret dX3_redLast_90 rfl ?_
      exact ⟨rfl, rfl⟩
    have q_15 : c < u := by have := mt (nI_ltI (a := u) (b := c + 1) (by omega) (by omega)).mpr c_15; omega
    refine j_ild9 dX3_redLast_18 ?_
    refine j_iconst (4) dX3_redLast_20 rfl ?_
    refine j_icmpge 88 dX3_redLast_21 (by decide) (fun c_21 => absurd c_21 (fun z => absurd ((nI_leI (a := 4) (b := c + 1) (by decide) (by omega)).mp z) (by omega))) (fun c_21 => ?_)
    refine j_ald1 dX3_redLast_24 ?_
    refine j_getR (k := 0) (15) dX3_redLast_25 cX6_ok (Or.inr ⟨_, f3_21⟩) rfl (by decide) (by decide) (by decide) rfl ?_
    refine j_iconst (3) dX3_redLast_28 rfl ?_
    refine j_aald (n := 3) (19) dX3_redLast_29 (Or.inr rfl) (by decide) rfl (by decide) (by decide) rfl ?_
    refine j_ild9 dX3_redLast_30 ?_
    refine j_iald (n := (c + 1)) dX3_redLast_32 rfl (by decide) rfl (by omega) (by decide) ?_
    refine j_top (y := nI (v 3 (c + 1))) (h.2.2.1 3 (by decide) (c + 1) (by omega)) ?_
    refine j_i2l dX3_redLast_33 ?_
    refine j_topL (y := lN (v 3 (c + 1))) (nI_l (by have := h.b9 (w := 3) (i := c + 1) (by omega) (by omega); omega)) ?_
    refine j_lst10 dX3_redLast_34 rfl (by decide) ?_
    refine j_ald1 dX3_redLast_36 ?_
    refine j_getR (k := 0) (15) dX3_redLast_37 cX6_ok (Or.inr ⟨_, f3_21⟩) rfl (by decide) (by decide) (by decide) rfl ?_
    refine j_iconst (4) dX3_redLast_40 rfl ?_
    refine j_aald (n := 4) (20) dX3_redLast_41 (Or.inr rfl) (by decide) rfl (by decide) (by decide) rfl ?_
    refine j_ild9 dX3_redLast_42 ?_
    refine j_iald (n := (c + 1)) dX3_redLast_44 rfl (by decide) rfl (by omega) (by decide) ?_
    refine j_top (y := nI (v 4 (c + 1))) (h.2.2.1 4 (by decide) (c + 1) (by omega)) ?_
    refine j_i2l dX3_redLast_45 ?_
    refine j_topL (y := lN (v 4 (c + 1))) (nI_l (by have := h.b9 (w := 4) (i := c + 1) (by omega) (by omega); omega)) ?_
    refine j_lst12 dX3_redLast_46 rfl (by decide) ?_
    refine j_lld5 dX3_redLast_48 ?_
    refine j_lld10 dX3_redLast_50 ?_
    refine j_lconst (1) dX3_redLast_52 rfl ?_
    refine j_ladd dX3_redLast_53 ?_
    refine j_topL (y := lN (v 3 (c + 1) + 1)) (lN_1 _) ?_
    refine j_lmul dX3_redLast_54 ?_
    refine j_topL (y := lN ((hnd v c P).1 * (v 3 (c + 1) + 1))) (lN_mul _ _) ?_
    refine j_lld7 dX3_redLast_55 ?_
    refine j_lld10 dX3_redLast_57 ?_
    refine j_lmul dX3_redLast_59 ?_
    refine j_topL (y := lN ((hnd v c P).2 * v 3 (c + 1))) (lN_mul _ _) ?_
    refine j_ladd dX3_redLast_60 ?_
    refine j_topL (y := lN (hnd v (c + 1) P).1) (lN_add _ _) ?_
    refine j_lst14 dX3_redLast_61 rfl (by decide) ?_
    refine j_lld5 dX3_redLast_63 ?_
    refine j_lld12 dX3_redLast_65 ?_
    refine j_lmul dX3_redLast_67 ?_
    refine j_topL (y := lN ((hnd v c P).1 * v 4 (c + 1))) (lN_mul _ _) ?_
    refine j_lld7 dX3_redLast_68 ?_
    refine j_lld12 dX3_redLast_70 ?_
    refine j_lconst (1) dX3_redLast_72 rfl ?_
    refine j_ladd dX3_redLast_73 ?_
    refine j_topL (y := lN (v 4 (c + 1) + 1)) (lN_1 _) ?_
    refine j_lmul dX3_redLast_74 ?_
    refine j_topL (y := lN ((hnd v c P).2 * (v 4 (c + 1) + 1))) (lN_mul _ _) ?_
    refine j_ladd dX3_redLast_75 ?_
    refine j_topL (y := lN (hnd v (c + 1) P).2) (lN_add _ _) ?_
    refine j_lst7 dX3_redLast_76 rfl (by decide) ?_
    refine j_lld14 dX3_redLast_78 ?_
    refine j_lst5 dX3_redLast_80 rfl (by decide) ?_
    refine j_iinc9 (nI (c + 2)) dX3_redLast_82 (nI_1 (c + 1)) rfl (by decide) ?_
    refine j_goto 12 dX3_redLast_85 (by decide) ?_
    exact ih (c + 1) _ _ _ (by omega) (by omega)

set_option maxRecDepth 20000 in
theorem s_X3_redLast {u p q : Nat} (h : TC n v S) (hu : u < 4) (hp : p < 100) (hq : q < 100) : Rt a mX3_redLast 0 [.ref (a 4), .ref (a 1), .int (nI u), .int (nI p), .int (nI q)] S (some (.long (lN (hnd v u (p, q)).1))) S := by
  show J _ _ _ _ 0 [_, _, _, _, _, .null, .null, .null, .null, .null, .null, .null, .null, .null, .null, .null] [] _
  refine j_ild3 dX3_redLast_0 ?_
  refine j_i2l dX3_redLast_1 ?_
  refine j_topL (y := lN p) (nI_l (by omega)) ?_
  refine j_lst5 dX3_redLast_2 rfl (by decide) ?_
  refine j_ild4 dX3_redLast_4 ?_
  refine j_i2l dX3_redLast_6 ?_
  refine j_topL (y := lN q) (nI_l (by omega)) ?_
  refine j_lst7 dX3_redLast_7 rfl (by decide) ?_
  refine j_iconst (1) dX3_redLast_9 rfl ?_
  refine j_ist9 dX3_redLast_10 rfl (by decide) ?_
  exact lp_X3_redLast h hu 5 0 .null .null .null (by omega) (by omega)

set_option maxRecDepth 20000 in
theorem lp_X3_waysToLast (h : TC n v S) {u : Nat} (hu : u < 4) {b : Nat} : ∀ (fu : Nat) (c : Nat), u - c < fu → (c ≤ u) → J a mX3_waysToLast 0 (gm a fun r S' => r = some (.long (lN (b * wpr v u))) ∧ S' = S) 22 [.ref (a 4), .ref (a 1), .int (nI u), .long (lN (b * wpr v c)), .null, .int (nI (c + 1))] [] S := by
  intro fu
  induction fu with
  | zero => intro c hk; exact absurd hk (Nat.not_lt_zero _)
  | succ fu ih =>
    intro c hk hc
    refine j_ild5 dX3_waysToLast_22 ?_
    refine j_ild2 dX3_waysToLast_24 ?_
    refine j_icmpgt 65 dX3_waysToLast_25 (by decide) (fun c_25 => ?_) (fun c_25 => ?_)
    · have q_25 : c = u := by have := (nI_ltI (a := u) (b := c + 1) (by omega) (by omega)).mp c_25; omega
      subst q_25
      refine j_lld3 dX3_waysToLast_65 ?_
      refine j_lret dX3_waysToLast_66 rfl ?_
      exact ⟨rfl, rfl⟩
    have q_25 : c < u := by have := mt (nI_ltI (a := u) (b := c + 1) (by omega) (by omega)).mpr c_25; omega
    refine j_ild5 dX3_waysToLast_28 ?_
    refine j_iconst (4) dX3_waysToLast_30 rfl ?_
    refine j_icmpge 65 dX3_waysToLast_31 (by decide) (fun c_31 => absurd c_31 (fun z => absurd ((nI_leI (a := 4) (b := c + 1) (by decide) (by omega)).mp z) (by omega))) (fun c_31 => ?_)
    refine j_lld3 dX3_waysToLast_34 ?_
    refine j_ald1 dX3_waysToLast_35 ?_
    refine j_getR (k := 0) (15) dX3_waysToLast_36 cX6_ok (Or.inr ⟨_, f3_21⟩) rfl (by decide) (by decide) (by decide) rfl ?_
    refine j_iconst (3) dX3_waysToLast_39 rfl ?_
    refine j_aald (n := 3) (19) dX3_waysToLast_40 (Or.inr rfl) (by decide) rfl (by decide) (by decide) rfl ?_
    refine j_ild5 dX3_waysToLast_41 ?_
    refine j_iald (n := (c + 1)) dX3_waysToLast_43 rfl (by decide) rfl (by omega) (by decide) ?_
    refine j_top (y := nI (v 3 (c + 1))) (h.2.2.1 3 (by decide) (c + 1) (by omega)) ?_
    refine j_ald1 dX3_waysToLast_44 ?_
    refine j_getR (k := 0) (15) dX3_waysToLast_45 cX6_ok (Or.inr ⟨_, f3_21⟩) rfl (by decide) (by decide) (by decide) rfl ?_
    refine j_iconst (4) dX3_waysToLast_48 rfl ?_
    refine j_aald (n := 4) (20) dX3_waysToLast_49 (Or.inr rfl) (by decide) rfl (by decide) (by decide) rfl ?_
    refine j_ild5 dX3_waysToLast_50 ?_
    refine j_iald (n := (c + 1)) dX3_waysToLast_52 rfl (by decide) rfl (by omega) (by decide) ?_
    refine j_top (y := nI (v 4 (c + 1))) (h.2.2.1 4 (by decide) (c + 1) (by omega)) ?_
    refine j_iadd dX3_waysToLast_53 ?_
    refine j_top (y := nI (v 3 (c + 1) + v 4 (c + 1))) (nI_add _ _) ?_
    refine j_iconst (1) dX3_waysToLast_54 rfl ?_
    refine j_iadd dX3_waysToLast_55 ?_
    refine j_top (y := nI (v 3 (c + 1) + v 4 (c + 1) + 1)) (nI_1 _) ?_
    refine j_i2l dX3_waysToLast_56 ?_
    refine j_topL (y := lN (v 3 (c + 1) + v 4 (c + 1) + 1)) (nI_l (by have := h.b9 (w := 3) (i := c + 1) (by omega) (by omega); have := h.b9 (w := 4) (i := c + 1) (by omega) (by omega); omega)) ?_
    refine j_lmul dX3_waysToLast_57 ?_
    refine j_topL (y := lN (b * wpr v (c + 1))) (by rw [lN_mul, wpr, Nat.mul_assoc]) ?_
    refine j_lst3 dX3_waysToLast_58 rfl (by decide) ?_
    refine j_iinc5 (nI (c + 2)) dX3_waysToLast_59 (nI_1 (c + 1)) rfl (by decide) ?_
    refine j_goto 22 dX3_waysToLast_62 (by decide) ?_
    exact ih (c + 1) (by omega) (by omega)

set_option maxRecDepth 20000 in
theorem s_X3_waysToLast {u : Nat} (h : TC n v S) (hu : u < 4) : Rt a mX3_waysToLast 0 [.ref (a 4), .ref (a 1), .int (nI u)] S (some (.long (lN ((v 3 0 + v 4 0) * wpr v u)))) S := by
  show J _ _ _ _ 0 [_, _, _, .null, .null, .null] [] _
  refine j_ald1 dX3_waysToLast_0 ?_
  refine j_getR (k := 0) (15) dX3_waysToLast_1 cX6_ok (Or.inr ⟨_, f3_21⟩) rfl (by decide) (by decide) (by decide) rfl ?_
  refine j_iconst (3) dX3_waysToLast_4 rfl ?_
  refine j_aald (n := 3) (19) dX3_waysToLast_5 (Or.inr rfl) (by decide) rfl (by decide) (by decide) rfl ?_
  refine j_iconst (0) dX3_waysToLast_6 rfl ?_
  refine j_iald (n := 0) dX3_waysToLast_7 rfl (by decide) rfl (by omega) (by decide) ?_
  refine j_top (y := nI (v 3 0)) (h.2.2.1 3 (by decide) 0 (by omega)) ?_
  refine j_ald1 dX3_waysToLast_8 ?_
  refine j_getR (k := 0) (15) dX3_waysToLast_9 cX6_ok (Or.inr ⟨_, f3_21⟩) rfl (by decide) (by decide) (by decide) rfl ?_
  refine j_iconst (4) dX3_waysToLast_12 rfl ?_
  refine j_aald (n := 4) (20) dX3_waysToLast_13 (Or.inr rfl) (by decide) rfl (by decide) (by decide) rfl ?_
  refine j_iconst (0) dX3_waysToLast_14 rfl ?_
  refine j_iald (n := 0) dX3_waysToLast_15 rfl (by decide) rfl (by omega) (by decide) ?_
  refine j_top (y := nI (v 4 0)) (h.2.2.1 4 (by decide) 0 (by omega)) ?_
  refine j_iadd dX3_waysToLast_16 ?_
  refine j_top (y := nI (v 3 0 + v 4 0)) (nI_add _ _) ?_
  refine j_i2l dX3_waysToLast_17 ?_
  refine j_topL (y := lN ((v 3 0 + v 4 0) * wpr v 0)) (by rw [wpr, Nat.mul_one]; exact nI_l (by have := h.b9 (w := 3) (i := 0) (by omega) (by omega); have := h.b9 (w := 4) (i := 0) (by omega) (by omega); omega)) ?_
  refine j_lst3 dX3_waysToLast_18 rfl (by decide) ?_
  refine j_iconst (1) dX3_waysToLast_19 rfl ?_
  refine j_ist5 dX3_waysToLast_20 rfl (by decide) ?_
  exact lp_X3_waysToLast h hu 5 0 (by omega) (by omega)

def hdV (v : Nat → Nat → Nat) (x y p : Int32) : Int64 := if (1 ≤ x ∧ x < 4) ∧ (0 ≤ y ∧ y < 2) ∧ prt p then handV v x.toNatClampNeg y p else -9223372036854775808
set_option maxRecDepth 20000 in
theorem s_X7_handed {x y p : Int32} (h : TC n v S) : Rt a mX7_handed 2 [.ref (a 0), .int x, .int y, .int p] S (some (.long (hdV v x y p))) S := by
  show J _ _ _ _ 0 [_, _, _, _, .null, .null, .null, .null] [] _
  refine j_ild1 dX7_handed_0 ?_
  refine j_iconst (1) dX7_handed_1 rfl ?_
  refine j_icmplt 26 dX7_handed_2 (by decide) (fun c_2 => ?_) (fun c_2 => ?_)
  · refine j_ldc2_w (v := -9223372036854775808) dX7_handed_26 q7_138 ?_
    refine j_lret dX7_handed_29 rfl ?_
    exact ⟨by rw [hdV, if_neg (fun z => absurd c_2 (Int32.not_lt.mpr z.1.1))], rfl⟩
  refine j_ild1 dX7_handed_5 ?_
  refine j_iconst (4) dX7_handed_6 rfl ?_
  refine j_icmpge 26 dX7_handed_7 (by decide) (fun c_7 => ?_) (fun c_7 => ?_)
  · refine j_ldc2_w (v := -9223372036854775808) dX7_handed_26 q7_138 ?_
    refine j_lret dX7_handed_29 rfl ?_
    exact ⟨by rw [hdV, if_neg (fun z => absurd c_7 (Int32.not_le.mpr z.1.2))], rfl⟩
  refine j_ild2 dX7_handed_10 ?_
  refine j_iconst (2) dX7_handed_11 rfl ?_
  refine j_cS2 dX7_handed_12 kX7_within zX7_within (Or.inl l7_72) (Nat.le_of_ble_eq_true rfl) (Nat.le_of_ble_eq_true rfl) (by omega) (s_X7_within) ?_
  refine j_ifeqB 26 dX7_handed_15 (by decide) (fun c_15 => ?_) (fun c_15 => ?_)
  · refine j_ldc2_w (v := -9223372036854775808) dX7_handed_26 q7_138 ?_
    refine j_lret dX7_handed_29 rfl ?_
    exact ⟨by rw [hdV, if_neg (fun z => c_15 z.2.1)], rfl⟩
  refine j_ild3 dX7_handed_18 ?_
  refine j_iconst (2) dX7_handed_19 rfl ?_
  refine j_cS2 dX7_handed_20 kX7_within zX7_within (Or.inl l7_72) (Nat.le_of_ble_eq_true rfl) (Nat.le_of_ble_eq_true rfl) (by omega) (s_X7_within) ?_
  refine j_ifneB 30 dX7_handed_23 (by decide) (fun c_23 => ?_) (fun c_23 => ?_)
  · obtain ⟨u, hu1, hu3, rfl⟩ := rng (l := 1) (t := 3) (by decide) (by decide) ⟨Int32.not_lt.mp c_2, (le_lt (c := 3) (by decide)).mpr (Int32.not_le.mp c_7)⟩
    have hub : (nI u).toNatClampNeg = u := nI_clamp (by omega)
    have r9 := h.b9 (w := 3) (i := 0) (by omega) (by omega)
    have w9 := h.b9 (w := 4) (i := 0) (by omega) (by omega)
    have b1 := hnd_b h.2.2.2 (i := u) (p := v 3 0) (q := v 4 0) (by omega) (by omega)
    have b2 := hnd_b h.2.2.2 (i := u) (p := v 3 0) (q := 0) (by omega) (by omega)
    have b3 : (v 3 0 + v 4 0) * wpr v u ≤ 18 * 19 ^ u := Nat.mul_le_mul (by omega) (wpr_le h.2.2.2 u (by omega))
    have b4 : 18 * 19 ^ u ≤ 18 * 19 ^ 3 := Nat.mul_le_mul_left _ (Nat.pow_le_pow_right (by decide) hu3)
    refine j_ald0 dX7_handed_30 ?_
    refine j_getR (k := 0) (1) dX7_handed_31 cX7_ok (Or.inl f7_12) rfl (by decide) (by decide) (by decide) rfl ?_
    refine j_getR (k := 0) (15) dX7_handed_34 cX6_ok (Or.inr ⟨_, f7_107⟩) rfl (by decide) (by decide) (by decide) rfl ?_
    refine j_iconst (3) dX7_handed_37 rfl ?_
    refine j_aald (n := 3) (19) dX7_handed_38 (Or.inr rfl) (by decide) rfl (by decide) (by decide) rfl ?_
    refine j_iconst (0) dX7_handed_39 rfl ?_
    refine j_iald (n := 0) dX7_handed_40 rfl (by decide) rfl (by omega) (by decide) ?_
    refine j_top (y := nI (v 3 0)) (h.2.2.1 3 (by decide) 0 (by omega)) ?_
    refine j_ist4 dX7_handed_41 rfl (by decide) ?_
    refine j_ald0 dX7_handed_43 ?_
    refine j_getR (k := 0) (1) dX7_handed_44 cX7_ok (Or.inl f7_12) rfl (by decide) (by decide) (by decide) rfl ?_
    refine j_getR (k := 0) (15) dX7_handed_47 cX6_ok (Or.inr ⟨_, f7_107⟩) rfl (by decide) (by decide) (by decide) rfl ?_
    refine j_iconst (4) dX7_handed_50 rfl ?_
    refine j_aald (n := 4) (20) dX7_handed_51 (Or.inr rfl) (by decide) rfl (by decide) (by decide) rfl ?_
    refine j_iconst (0) dX7_handed_52 rfl ?_
    refine j_iald (n := 0) dX7_handed_53 rfl (by decide) rfl (by omega) (by decide) ?_
    refine j_top (y := nI (v 4 0)) (h.2.2.1 4 (by decide) 0 (by omega)) ?_
    refine j_ist5 dX7_handed_54 rfl (by decide) ?_
    refine j_ald0 dX7_handed_56 ?_
    refine j_getR (k := 3) (4) dX7_handed_57 cX7_ok (Or.inl f7_35) rfl (by decide) (by decide) (by decide) rfl ?_
    refine j_ald0 dX7_handed_60 ?_
    refine j_getR (k := 0) (1) dX7_handed_61 cX7_ok (Or.inl f7_12) rfl (by decide) (by decide) (by decide) rfl ?_
    refine j_ild1 dX7_handed_64 ?_
    refine j_ild4 dX7_handed_65 ?_
    refine j_ild5 dX7_handed_67 ?_
    refine j_cV4 dX7_handed_69 kX3_redLast l7_174 rfl (by decide) rfl (Nat.le_of_ble_eq_true rfl) (Nat.le_of_ble_eq_true rfl) (by omega) (s_X3_redLast h (by omega) (by omega) (by omega)) ?_
    refine j_lst6 dX7_handed_72 rfl (by decide) ?_
    refine j_ild2 dX7_handed_74 ?_
    refine j_ifne 97 dX7_handed_75 (by decide) (fun c_75 => ?_) (fun c_75 => ?_)
    · have q_75 : ¬ y = 0 := c_75
      refine j_ald0 dX7_handed_97 ?_
      refine j_getR (k := 3) (4) dX7_handed_98 cX7_ok (Or.inl f7_35) rfl (by decide) (by decide) (by decide) rfl ?_
      refine j_ald0 dX7_handed_101 ?_
      refine j_getR (k := 0) (1) dX7_handed_102 cX7_ok (Or.inl f7_12) rfl (by decide) (by decide) (by decide) rfl ?_
      refine j_ild1 dX7_handed_105 ?_
      refine j_ild4 dX7_handed_106 ?_
      refine j_iconst (0) dX7_handed_108 rfl ?_
      refine j_cV4 dX7_handed_109 kX3_redLast l7_174 rfl (by decide) rfl (Nat.le_of_ble_eq_true rfl) (Nat.le_of_ble_eq_true rfl) (by omega) (s_X3_redLast (q := 0) h (by omega) (by omega) (by omega)) ?_
      refine j_lld6 dX7_handed_112 ?_
      refine j_ild3 dX7_handed_114 ?_
      refine j_cS3 dX7_handed_115 kX7_lowest zX7_lowest (Or.inl l7_150) (Nat.le_of_ble_eq_true rfl) (Nat.le_of_ble_eq_true rfl) (by omega) (s_X7_lowest (by omega) (by omega)) ?_
      refine j_lret dX7_handed_118 rfl ?_
      exact ⟨by rw [hdV, if_pos ⟨⟨Int32.not_lt.mp c_2, Int32.not_le.mp c_7⟩, c_15, c_23⟩, hub, handV, if_neg q_75], rfl⟩
    have q_75 : y = 0 := Classical.not_not.mp c_75
    refine j_lld6 dX7_handed_78 ?_
    refine j_ald0 dX7_handed_80 ?_
    refine j_getR (k := 3) (4) dX7_handed_81 cX7_ok (Or.inl f7_35) rfl (by decide) (by decide) (by decide) rfl ?_
    refine j_ald0 dX7_handed_84 ?_
    refine j_getR (k := 0) (1) dX7_handed_85 cX7_ok (Or.inl f7_12) rfl (by decide) (by decide) (by decide) rfl ?_
    refine j_ild1 dX7_handed_88 ?_
    refine j_cV2 dX7_handed_89 kX3_waysToLast l7_177 rfl (by decide) rfl (Nat.le_of_ble_eq_true rfl) (Nat.le_of_ble_eq_true rfl) (by omega) (s_X3_waysToLast h (by omega)) ?_
    refine j_ild3 dX7_handed_92 ?_
    refine j_cS3 dX7_handed_93 kX7_lowest zX7_lowest (Or.inl l7_150) (Nat.le_of_ble_eq_true rfl) (Nat.le_of_ble_eq_true rfl) (by omega) (s_X7_lowest (by omega) (by omega)) ?_
    refine j_lret dX7_handed_96 rfl ?_
    exact ⟨by rw [hdV, if_pos ⟨⟨Int32.not_lt.mp c_2, Int32.not_le.mp c_7⟩, c_15, c_23⟩, hub, handV, if_pos q_75], rfl⟩
  refine j_ldc2_w (v := -9223372036854775808) dX7_handed_26 q7_138 ?_
  refine j_lret dX7_handed_29 rfl ?_
  exact ⟨by rw [hdV, if_neg (fun z => c_23 z.2.2)], rfl⟩

def nxOk (x p : Int32) : Prop := 0 ≤ x ∧ x / 100 ≤ x - x / 100 * 100 ∧ prt p
def nxV (x p : Int32) : Int64 := lowV (x.toNatClampNeg / 100 + 1) (x.toNatClampNeg % 100 + 2) p
theorem nx_nat {x : Int32} (h : 0 ≤ x) : ∃ X, X < 2 ^ 31 ∧ x = nI X ∧ x / 100 = nI (X / 100) ∧ x - x / 100 * 100 = nI (X % 100) := by
  obtain ⟨X, hX, rfl⟩ := nI_ge0 h
  exact ⟨X, hX, rfl, pk_div (a := X) (d := 100) hX (by decide) (by decide), pk_rem (a := X) (d := 100) hX (by decide) (by decide)⟩
set_option maxRecDepth 20000 in
theorem s_X7_next_ok {x p : Int32} (hk : nxOk x p) : Rt a mX7_next 2 [.ref (a 0), .int x, .int p] S (some (.long (nxV x p))) S := by
  show J _ _ _ _ 0 [_, _, _] [] _
  obtain ⟨X, hX, rfl, e1, e2⟩ := nx_nat hk.1
  have hcl : (nI X).toNatClampNeg = X := nI_clamp hX
  have hm := Nat.mod_lt X (show 0 < 100 by decide)
  have hle : X / 100 ≤ X % 100 := by
    have := hk.2.1
    rw [e2, e1] at this
    exact (nI_leI (by omega) (by omega)).mp this
  refine j_ild1 dX7_next_0 ?_
  refine j_sipush (10000) dX7_next_1 rfl ?_
  refine j_cS2 dX7_next_4 kX7_within zX7_within (Or.inl l7_72) (Nat.le_of_ble_eq_true rfl) (Nat.le_of_ble_eq_true rfl) (by omega) (s_X7_within) ?_
  refine j_ifeqB 29 dX7_next_7 (by decide) (fun c_7 => absurd c_7 (not_not_intro ⟨nI_pos' hX, (nI_ltI (a := X) (b := 10000) hX (by decide)).mpr (by omega)⟩)) (fun c_7 => ?_)
  refine j_ild1 dX7_next_10 ?_
  refine j_bipush (100) dX7_next_11 rfl ?_
  refine j_idiv dX7_next_13 (by decide) ?_
  refine j_ild1 dX7_next_14 ?_
  refine j_bipush (100) dX7_next_15 rfl ?_
  refine j_irem dX7_next_17 (by decide) ?_
  refine j_icmpgt 29 dX7_next_18 (by decide) (fun c_18 => absurd c_18 (by rw [e2, e1]; exact Int32.not_lt.mpr (nI_le hle (by omega)))) (fun c_18 => ?_)
  refine j_ild2 dX7_next_21 ?_
  refine j_iconst (2) dX7_next_22 rfl ?_
  refine j_cS2 dX7_next_23 kX7_within zX7_within (Or.inl l7_72) (Nat.le_of_ble_eq_true rfl) (Nat.le_of_ble_eq_true rfl) (by omega) (s_X7_within) ?_
  refine j_ifneB 33 dX7_next_26 (by decide) (fun c_26 => ?_) (fun c_26 => absurd (hk.2.2) c_26)
  refine j_ild1 dX7_next_33 ?_
  refine j_bipush (100) dX7_next_34 rfl ?_
  refine j_idiv dX7_next_36 (by decide) ?_
  refine j_top (y := nI (X / 100)) (e1) ?_
  refine j_iconst (1) dX7_next_37 rfl ?_
  refine j_iadd dX7_next_38 ?_
  refine j_top (y := nI (X / 100 + 1)) (nI_1 _) ?_
  refine j_i2l dX7_next_39 ?_
  refine j_topL (y := lN (X / 100 + 1)) (nI_l (by omega)) ?_
  refine j_ild1 dX7_next_40 ?_
  refine j_bipush (100) dX7_next_41 rfl ?_
  refine j_irem dX7_next_43 (by decide) ?_
  refine j_top (y := nI (X % 100)) (e2) ?_
  refine j_iconst (2) dX7_next_44 rfl ?_
  refine j_iadd dX7_next_45 ?_
  refine j_top (y := nI (X % 100 + 2)) (by exact nI_add _ 2) ?_
  refine j_i2l dX7_next_46 ?_
  refine j_topL (y := lN (X % 100 + 2)) (nI_l (by omega)) ?_
  refine j_ild2 dX7_next_47 ?_
  refine j_cS3 dX7_next_48 kX7_lowest zX7_lowest (Or.inl l7_150) (Nat.le_of_ble_eq_true rfl) (Nat.le_of_ble_eq_true rfl) (by omega) (s_X7_lowest (by omega) (by omega)) ?_
  refine j_lret dX7_next_51 rfl ?_
  exact ⟨by rw [nxV, hcl], rfl⟩

end Odds

