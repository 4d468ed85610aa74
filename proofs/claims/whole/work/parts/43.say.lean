/-! what witnesses say: both sides -/
def saf (f : Nat → Nat) (A B i : Nat) : Nat := if bt A i = 1 then (if bt B i = 1 then 12 - f i else f i) else 1
def twf (A i : Nat) : Nat := if bt A i = 1 then 12 else 1
theorem saf_le {f : Nat → Nat} {A B i : Nat} (h : f i ≤ 12) : saf f A B i ≤ 12 := by unfold saf; split <;> (try split) <;> omega
theorem twf_le {A i : Nat} : twf A i ≤ 12 := by unfold twf; split <;> omega
def saW (v : Nat → Nat → Nat) (A B : Nat) : Nat := prodN (saf (v 8) A B) 6
def allW (A : Nat) : Nat := prodN (twf A) 6
def soW (v : Nat → Nat → Nat) (A B : Nat) : Nat := v 10 0 * saW v A B
def noW (v : Nat → Nat → Nat) (A B : Nat) : Nat := (12 - v 10 0) * saW v A (anN A B)
theorem saW_b {v : Nat → Nat → Nat} {A B : Nat} (h : ∀ i, i < 8 → v 8 i ≤ 12) : saW v A B ≤ 12 ^ 6 := prodN_le 6 (fun k hk => saf_le (h k (by omega)))
theorem allW_b {A : Nat} : allW A ≤ 12 ^ 6 := prodN_le 6 (fun k hk => twf_le)
theorem soW_b {v : Nat → Nat → Nat} {A B : Nat} (h0 : v 10 0 ≤ 12) (h : ∀ i, i < 8 → v 8 i ≤ 12) : soW v A B ≤ 12 * 12 ^ 6 := Nat.mul_le_mul h0 (saW_b h)
theorem noW_b {v : Nat → Nat → Nat} {A B : Nat} (h : ∀ i, i < 8 → v 8 i ≤ 12) : noW v A B ≤ 12 * 12 ^ 6 := Nat.mul_le_mul (by omega) (saW_b h)
def isV (v : Nat → Nat → Nat) (x p : Int32) : Int64 := lowV (soW v (x.toNatClampNeg % 64) (x.toNatClampNeg / 64)) (soW v (x.toNatClampNeg % 64) (x.toNatClampNeg / 64) + noW v (x.toNatClampNeg % 64) (x.toNatClampNeg / 64)) p
def tmV (v : Nat → Nat → Nat) (X : Nat) (p : Int32) : Int64 := if X = 0 then 1 else lowV (saW v X X + saW v X 0) (allW X) p
abbrev tmOk (x p : Int32) : Prop := (0 ≤ x ∧ x < 64) ∧ prt p
theorem bt_0 (i : Nat) : bt 0 i = 0 := by unfold bt; rw [Nat.zero_div]
section Say
variable {a : Nat → Nat} {S : St} {n : Nat} {v : Nat → Nat → Nat}
theorem TC.b8 (h : TC n v S) : ∀ i, i < 8 → v 8 i ≤ 12 := fun i hi => h.b12 (by omega) hi
theorem TR.b8 (h : TR n v S) : ∀ i, i < 8 → v 8 i ≤ 12 := fun i hi => h.b12 (by omega) hi

set_option maxRecDepth 20000 in
theorem lp_X3_waysTheySay (h : TC n v S) {A B : Nat} (hA : A < 64) (hB : B < 64) : ∀ (fu : Nat) (i : Nat) (w7 : Value), 6 - i < fu → (i ≤ 6) → J a mX3_waysTheySay 0 (gm a fun r S' => r = some (.long (lN (saW v A B))) ∧ S' = S) 6 [.ref (a 4), .ref (a 1), .int (nI A), .int (nI B), .long (lN (prodN (saf (v 8) A B) i)), .null, .int (nI i), w7] [] S := by
  intro fu
  induction fu with
  | zero => intro i w7 hk; exact absurd hk (Nat.not_lt_zero _)
  | succ fu ih =>
    intro i w7 hk hi
    refine j_ild6 dX3_waysTheySay_6 ?_
    refine j_bipush (6) dX3_waysTheySay_8 rfl ?_
    refine j_icmpge 68 dX3_waysTheySay_10 (by decide) (fun c_10 => ?_) (fun c_10 => ?_)
    · have q_10 : i = 6 := by have := (nI_leI (a := 6) (b := i) (by decide) (by omega)).mp c_10; omega
      subst q_10
      refine j_lld4 dX3_waysTheySay_68 ?_
      refine j_lret dX3_waysTheySay_70 rfl ?_
      exact ⟨rfl, rfl⟩
    have q_10 : i < 6 := Nat.not_le.mp (fun z => c_10 ((nI_leI (a := 6) (b := i) (by decide) (by omega)).mpr z))
    have f8 := h.b8 i (by omega)
    refine j_ild2 dX3_waysTheySay_13 ?_
    refine j_ild6 dX3_waysTheySay_14 ?_
    refine j_ishr dX3_waysTheySay_16 ?_
    refine j_iconst (1) dX3_waysTheySay_17 rfl ?_
    refine j_iand dX3_waysTheySay_18 ?_
    refine j_top (y := nI (bt (A) (i))) (sh_bit (X := A) (i := i) (by omega) (by omega)) ?_
    refine j_iconst (1) dX3_waysTheySay_19 rfl ?_
    refine j_icmpne 62 dX3_waysTheySay_20 (by decide) (fun c_20 => ?_) (fun c_20 => ?_)
    · have q_20 : ¬ bt (A) (i) = 1 := fun z => c_20 (by rw [z]; rfl)
      refine j_iinc6 (nI (i + 1)) dX3_waysTheySay_62 (nI_1 i) rfl (by decide) ?_
      refine j_goto 6 dX3_waysTheySay_65 (by decide) ?_
      have e : prodN (saf (v 8) A B) (i + 1) = prodN (saf (v 8) A B) i := by rw [prodN, saf, if_neg q_20, Nat.mul_one]
      rw [← e]
      exact ih (i + 1) w7 (by omega) (by omega)
    have q_20 : bt (A) (i) = 1 := (nI_eq (a := bt (A) (i)) (b := 1) (by have := bt_2 (A) (i); omega) (by decide)).mp (Classical.not_not.mp c_20)
    refine j_ald1 dX3_waysTheySay_23 ?_
    refine j_getR (k := 0) (15) dX3_waysTheySay_24 cX6_ok (Or.inr ⟨_, f3_21⟩) rfl (by decide) (by decide) (by decide) rfl ?_
    refine j_bipush (8) dX3_waysTheySay_27 rfl ?_
    refine j_aald (n := 8) (24) dX3_waysTheySay_29 (Or.inr rfl) (by decide) rfl (by decide) (by decide) rfl ?_
    refine j_ild6 dX3_waysTheySay_30 ?_
    refine j_iald (n := i) dX3_waysTheySay_32 rfl (by decide) rfl (by omega) (by decide) ?_
    refine j_top (y := nI (v 8 i)) (h.2.2.1 8 (by decide) i (by omega)) ?_
    refine j_ist7 dX3_waysTheySay_33 rfl (by decide) ?_
    refine j_lld4 dX3_waysTheySay_35 ?_
    refine j_ild3 dX3_waysTheySay_37 ?_
    refine j_ild6 dX3_waysTheySay_38 ?_
    refine j_ishr dX3_waysTheySay_40 ?_
    refine j_iconst (1) dX3_waysTheySay_41 rfl ?_
    refine j_iand dX3_waysTheySay_42 ?_
    refine j_top (y := nI (bt (B) (i))) (sh_bit (X := B) (i := i) (by omega) (by omega)) ?_
    refine j_iconst (1) dX3_waysTheySay_43 rfl ?_
    refine j_icmpne 56 dX3_waysTheySay_44 (by decide) (fun c_44 => ?_) (fun c_44 => ?_)
    · have q_44 : ¬ bt (B) (i) = 1 := fun z => c_44 (by rw [z]; rfl)
      refine j_ild7 dX3_waysTheySay_56 ?_
      refine j_i2l dX3_waysTheySay_58 ?_
      refine j_topL (y := lN (v 8 i)) (nI_l (by omega)) ?_
      refine j_lmul dX3_waysTheySay_59 ?_
      refine j_topL (y := lN (prodN (saf (v 8) A B) (i + 1))) (by rw [lN_mul, prodN, saf, if_pos q_20, if_neg q_44]) ?_
      refine j_lst4 dX3_waysTheySay_60 rfl (by decide) ?_
      refine j_iinc6 (nI (i + 1)) dX3_waysTheySay_62 (nI_1 i) rfl (by decide) ?_
      refine j_goto 6 dX3_waysTheySay_65 (by decide) ?_
      exact ih (i + 1) _ (by omega) (by omega)
    have q_44 : bt (B) (i) = 1 := (nI_eq (a := bt (B) (i)) (b := 1) (by have := bt_2 (B) (i); omega) (by decide)).mp (Classical.not_not.mp c_44)
    refine j_bipush (12) dX3_waysTheySay_47 rfl ?_
    refine j_ild7 dX3_waysTheySay_49 ?_
    refine j_isub dX3_waysTheySay_51 ?_
    refine j_top (y := nI (12 - v 8 i)) (by exact pk_sub (a := 12) f8) ?_
    refine j_i2l dX3_waysTheySay_52 ?_
    refine j_topL (y := lN (12 - v 8 i)) (nI_l (by omega)) ?_
    refine j_goto 59 dX3_waysTheySay_53 (by decide) ?_
    refine j_lmul dX3_waysTheySay_59 ?_
    refine j_topL (y := lN (prodN (saf (v 8) A B) (i + 1))) (by rw [lN_mul, prodN, saf, if_pos q_20, if_pos q_44]) ?_
    refine j_lst4 dX3_waysTheySay_60 rfl (by decide) ?_
    refine j_iinc6 (nI (i + 1)) dX3_waysTheySay_62 (nI_1 i) rfl (by decide) ?_
    refine j_goto 6 dX3_waysTheySay_65 (by decide) ?_
    exact ih (i + 1) _ (by omega) (by omega)

set_option maxRecDepth 20000 in
theorem s_X3_waysTheySay {A B : Nat} (h : TC n v S) (hA : A < 64) (hB : B < 64) : Rt a mX3_waysTheySay 0 [.ref (a 4), .ref (a 1), .int (nI A), .int (nI B)] S (some (.long (lN (saW v A B)))) S := by
  show J _ _ _ _ 0 [_, _, _, _, .null, .null, .null, .null] [] _
  refine j_lconst (1) dX3_waysTheySay_0 rfl ?_
  refine j_lst4 dX3_waysTheySay_1 rfl (by decide) ?_
  refine j_iconst (0) dX3_waysTheySay_3 rfl ?_
  refine j_ist6 dX3_waysTheySay_4 rfl (by decide) ?_
  exact lp_X3_waysTheySay h hA hB 7 0 .null (by omega) (by omega)

set_option maxRecDepth 20000 in
theorem lp_X3_allWays {A : Nat} (hA : A < 64) : ∀ (fu : Nat) (i : Nat), 6 - i < fu → (i ≤ 6) → J a mX3_allWays 0 (gm a fun r S' => r = some (.long (lN (allW A))) ∧ S' = S) 5 [.ref (a 4), .int (nI A), .long (lN (prodN (twf A) i)), .null, .int (nI i)] [] S := by
  intro fu
  induction fu with
  | zero => intro i hk; exact absurd hk (Nat.not_lt_zero _)
  | succ fu ih =>
    intro i hk hi
    refine j_ild4 dX3_allWays_5 ?_
    refine j_bipush (6) dX3_allWays_7 rfl ?_
    refine j_icmpge 38 dX3_allWays_9 (by decide) (fun c_9 => ?_) (fun c_9 => ?_)
    · have q_9 : i = 6 := by have := (nI_leI (a := 6) (b := i) (by decide) (by omega)).mp c_9; omega
      subst q_9
      refine j_lld2 dX3_allWays_38 ?_
      refine j_lret dX3_allWays_39 rfl ?_
      exact ⟨rfl, rfl⟩
    have q_9 : i < 6 := Nat.not_le.mp (fun z => c_9 ((nI_leI (a := 6) (b := i) (by decide) (by omega)).mpr z))
    refine j_lld2 dX3_allWays_12 ?_
    refine j_ild1 dX3_allWays_13 ?_
    refine j_ild4 dX3_allWays_14 ?_
    refine j_ishr dX3_allWays_16 ?_
    refine j_iconst (1) dX3_allWays_17 rfl ?_
    refine j_iand dX3_allWays_18 ?_
    refine j_top (y := nI (bt (A) (i))) (sh_bit (X := A) (i := i) (by omega) (by omega)) ?_
    refine j_iconst (1) dX3_allWays_19 rfl ?_
    refine j_icmpne 29 dX3_allWays_20 (by decide) (fun c_20 => ?_) (fun c_20 => ?_)
    · have q_20 : ¬ bt (A) (i) = 1 := fun z => c_20 (by rw [z]; rfl)
      refine j_lconst (1) dX3_allWays_29 rfl ?_
      refine j_lmul dX3_allWays_30 ?_
      refine j_topL (y := lN (prodN (twf A) (i + 1))) (by rw [prodN, twf, if_neg q_20]; exact lN_mul _ 1) ?_
      refine j_lst2 dX3_allWays_31 rfl (by decide) ?_
      refine j_iinc4 (nI (i + 1)) dX3_allWays_32 (nI_1 i) rfl (by decide) ?_
      refine j_goto 5 dX3_allWays_35 (by decide) ?_
      exact ih (i + 1) (by omega) (by omega)
    have q_20 : bt (A) (i) = 1 := (nI_eq (a := bt (A) (i)) (b := 1) (by have := bt_2 (A) (i); omega) (by decide)).mp (Classical.not_not.mp c_20)
    refine j_ldc2_w (v := 12) dX3_allWays_23 q3_55 ?_
    refine j_goto 30 dX3_allWays_26 (by decide) ?_
    refine j_lmul dX3_allWays_30 ?_
    refine j_topL (y := lN (prodN (twf A) (i + 1))) (by rw [prodN, twf, if_pos q_20]; exact lN_mul _ 12) ?_
    refine j_lst2 dX3_allWays_31 rfl (by decide) ?_
    refine j_iinc4 (nI (i + 1)) dX3_allWays_32 (nI_1 i) rfl (by decide) ?_
    refine j_goto 5 dX3_allWays_35 (by decide) ?_
    exact ih (i + 1) (by omega) (by omega)

set_option maxRecDepth 20000 in
theorem s_X3_allWays {A : Nat} (hA : A < 64) : Rt a mX3_allWays 0 [.ref (a 4), .int (nI A)] S (some (.long (lN (allW A)))) S := by
  show J _ _ _ _ 0 [_, _, .null, .null, .null] [] _
  refine j_lconst (1) dX3_allWays_0 rfl ?_
  refine j_lst2 dX3_allWays_1 rfl (by decide) ?_
  refine j_iconst (0) dX3_allWays_2 rfl ?_
  refine j_ist4 dX3_allWays_3 rfl (by decide) ?_
  exact lp_X3_allWays hA 7 0 (by omega) (by omega)

set_option maxRecDepth 20000 in
theorem s_X7_isSo_ok {x p : Int32} (h : TC n v S) (hk : tdOk 64 x ∧ prt p) : Rt a mX7_isSo 3 [.ref (a 0), .int x, .int p] S (some (.long (isV v x p))) S := by
  show J _ _ _ _ 0 [_, _, _, .null, .null, .null, .null, .null, .null] [] _
  obtain ⟨X, hX, rfl, e1, e2⟩ := td_nat (s := 64) (Or.inr rfl) hk.1
  have hcl : (nI X).toNatClampNeg = X := nI_clamp (by omega)
  have hm := Nat.mod_lt X (show 0 < 64 by decide)
  have hd := (Nat.div_lt_iff_lt_mul (x := X) (y := 64) (show 0 < 64 by decide)).mpr hX
  have h10 := h.b12 (w := 10) (i := 0) (by omega) (by omega)
  have w1 := soW_b (A := X % 64) (B := X / 64) h10 h.b8
  have w2 := noW_b (A := X % 64) (B := X / 64) h.b8
  refine j_ild1 dX7_isSo_0 ?_
  refine j_bipush (64) dX7_isSo_1 rfl ?_
  refine j_cS2 dX7_isSo_3 kX7_mayBeTold zX7_mayBeTold (Or.inl l7_181) (Nat.le_of_ble_eq_true rfl) (Nat.le_of_ble_eq_true rfl) (by omega) (s_X7_mayBeTold (by decide)) ?_
  refine j_ifeqB 17 dX7_isSo_6 (by decide) (fun c_6 => absurd c_6 (not_not_intro hk.1)) (fun c_6 => ?_)
  refine j_ild2 dX7_isSo_9 ?_
  refine j_iconst (2) dX7_isSo_10 rfl ?_
  refine j_cS2 dX7_isSo_11 kX7_within zX7_within (Or.inl l7_72) (Nat.le_of_ble_eq_true rfl) (Nat.le_of_ble_eq_true rfl) (by omega) (s_X7_within) ?_
  refine j_ifneB 21 dX7_isSo_14 (by decide) (fun c_14 => ?_) (fun c_14 => absurd (hk.2) c_14)
  refine j_ild1 dX7_isSo_21 ?_
  refine j_bipush (64) dX7_isSo_22 rfl ?_
  refine j_irem dX7_isSo_24 (by decide) ?_
  refine j_top (y := nI (X % 64)) (e2) ?_
  refine j_ist3 dX7_isSo_25 rfl (by decide) ?_
  refine j_ild1 dX7_isSo_26 ?_
  refine j_bipush (64) dX7_isSo_27 rfl ?_
  refine j_idiv dX7_isSo_29 (by decide) ?_
  refine j_top (y := nI (X / 64)) (e1) ?_
  refine j_ist4 dX7_isSo_30 rfl (by decide) ?_
  refine j_ald0 dX7_isSo_32 ?_
  refine j_getR (k := 0) (1) dX7_isSo_33 cX7_ok (Or.inl f7_12) rfl (by decide) (by decide) (by decide) rfl ?_
  refine j_getR (k := 0) (15) dX7_isSo_36 cX6_ok (Or.inr ⟨_, f7_107⟩) rfl (by decide) (by decide) (by decide) rfl ?_
  refine j_bipush (10) dX7_isSo_39 rfl ?_
  refine j_aald (n := 10) (26) dX7_isSo_41 (Or.inr rfl) (by decide) rfl (by decide) (by decide) rfl ?_
  refine j_iconst (0) dX7_isSo_42 rfl ?_
  refine j_iald (n := 0) dX7_isSo_43 rfl (by decide) rfl (by omega) (by decide) ?_
  refine j_top (y := nI (v 10 0)) (h.2.2.1 10 (by decide) 0 (by omega)) ?_
  refine j_i2l dX7_isSo_44 ?_
  refine j_topL (y := lN (v 10 0)) (nI_l (by omega)) ?_
  refine j_ald0 dX7_isSo_45 ?_
  refine j_getR (k := 3) (4) dX7_isSo_46 cX7_ok (Or.inl f7_35) rfl (by decide) (by decide) (by decide) rfl ?_
  refine j_ald0 dX7_isSo_49 ?_
  refine j_getR (k := 0) (1) dX7_isSo_50 cX7_ok (Or.inl f7_12) rfl (by decide) (by decide) (by decide) rfl ?_
  refine j_ild3 dX7_isSo_53 ?_
  refine j_ild4 dX7_isSo_54 ?_
  refine j_cV3 dX7_isSo_56 kX3_waysTheySay l7_203 rfl (by decide) rfl (Nat.le_of_ble_eq_true rfl) (Nat.le_of_ble_eq_true rfl) (by omega) (s_X3_waysTheySay h (by omega) (by omega)) ?_
  refine j_lmul dX7_isSo_59 ?_
  refine j_topL (y := lN (soW v (X % 64) (X / 64))) (lN_mul _ _) ?_
  refine j_lst5 dX7_isSo_60 rfl (by decide) ?_
  refine j_bipush (12) dX7_isSo_62 rfl ?_
  refine j_ald0 dX7_isSo_64 ?_
  refine j_getR (k := 0) (1) dX7_isSo_65 cX7_ok (Or.inl f7_12) rfl (by decide) (by decide) (by decide) rfl ?_
  refine j_getR (k := 0) (15) dX7_isSo_68 cX6_ok (Or.inr ⟨_, f7_107⟩) rfl (by decide) (by decide) (by decide) rfl ?_
  refine j_bipush (10) dX7_isSo_71 rfl ?_
  refine j_aald (n := 10) (26) dX7_isSo_73 (Or.inr rfl) (by decide) rfl (by decide) (by decide) rfl ?_
  refine j_iconst (0) dX7_isSo_74 rfl ?_
  refine j_iald (n := 0) dX7_isSo_75 rfl (by decide) rfl (by omega) (by decide) ?_
  refine j_top (y := nI (v 10 0)) (h.2.2.1 10 (by decide) 0 (by omega)) ?_
  refine j_isub dX7_isSo_76 ?_
  refine j_top (y := nI (12 - v 10 0)) (by exact pk_sub (a := 12) h10) ?_
  refine j_i2l dX7_isSo_77 ?_
  refine j_topL (y := lN (12 - v 10 0)) (nI_l (by omega)) ?_
  refine j_ald0 dX7_isSo_78 ?_
  refine j_getR (k := 3) (4) dX7_isSo_79 cX7_ok (Or.inl f7_35) rfl (by decide) (by decide) (by decide) rfl ?_
  refine j_ald0 dX7_isSo_82 ?_
  refine j_getR (k := 0) (1) dX7_isSo_83 cX7_ok (Or.inl f7_12) rfl (by decide) (by decide) (by decide) rfl ?_
  refine j_ild3 dX7_isSo_86 ?_
  refine j_ild3 dX7_isSo_87 ?_
  refine j_ild4 dX7_isSo_88 ?_
  refine j_iconst (-1) dX7_isSo_90 rfl ?_
  refine j_ixor dX7_isSo_91 ?_
  refine j_iand dX7_isSo_92 ?_
  refine j_top (y := nI (anN (X % 64) (X / 64))) (an_I (X % 64) (by omega) (X / 64) (by omega)) ?_
  refine j_cV3 dX7_isSo_93 kX3_waysTheySay l7_203 rfl (by decide) rfl (Nat.le_of_ble_eq_true rfl) (Nat.le_of_ble_eq_true rfl) (by omega) (s_X3_waysTheySay h (by omega) (by have := an_le (X := X % 64) (Y := X / 64); omega)) ?_
  refine j_lmul dX7_isSo_96 ?_
  refine j_topL (y := lN (noW v (X % 64) (X / 64))) (lN_mul _ _) ?_
  refine j_lst7 dX7_isSo_97 rfl (by decide) ?_
  refine j_lld5 dX7_isSo_99 ?_
  refine j_lld5 dX7_isSo_101 ?_
  refine j_lld7 dX7_isSo_103 ?_
  refine j_ladd dX7_isSo_105 ?_
  refine j_topL (y := lN (soW v (X % 64) (X / 64) + noW v (X % 64) (X / 64))) (lN_add _ _) ?_
  refine j_ild2 dX7_isSo_106 ?_
  refine j_cS3 dX7_isSo_107 kX7_lowest zX7_lowest (Or.inl l7_150) (Nat.le_of_ble_eq_true rfl) (Nat.le_of_ble_eq_true rfl) (by omega) (s_X7_lowest (by omega) (by omega)) ?_
  refine j_lret dX7_isSo_110 rfl ?_
  exact ⟨by rw [isV, hcl], rfl⟩

set_option maxRecDepth 20000 in
theorem s_X7_isSo_bad {x p : Int32} (hk : ¬ (tdOk 64 x ∧ prt p)) : Rt a mX7_isSo 3 [.ref (a 0), .int x, .int p] S (some (.long (-9223372036854775808))) S := by
  show J _ _ _ _ 0 [_, _, _, .null, .null, .null, .null, .null, .null] [] _
  refine j_ild1 dX7_isSo_0 ?_
  refine j_bipush (64) dX7_isSo_1 rfl ?_
  refine j_cS2 dX7_isSo_3 kX7_mayBeTold zX7_mayBeTold (Or.inl l7_181) (Nat.le_of_ble_eq_true rfl) (Nat.le_of_ble_eq_true rfl) (by omega) (s_X7_mayBeTold (by decide)) ?_
  refine j_ifeqB 17 dX7_isSo_6 (by decide) (fun c_6 => ?_) (fun c_6 => ?_)
  · refine j_ldc2_w (v := -9223372036854775808) dX7_isSo_17 q7_138 ?_
    refine j_lret dX7_isSo_20 rfl ?_
    exact ⟨rfl, rfl⟩
  refine j_ild2 dX7_isSo_9 ?_
  refine j_iconst (2) dX7_isSo_10 rfl ?_
  refine j_cS2 dX7_isSo_11 kX7_within zX7_within (Or.inl l7_72) (Nat.le_of_ble_eq_true rfl) (Nat.le_of_ble_eq_true rfl) (by omega) (s_X7_within) ?_
  refine j_ifneB 21 dX7_isSo_14 (by decide) (fun c_14 => ?_) (fun c_14 => ?_)
  · exact absurd ⟨c_6, c_14⟩ hk
  refine j_ldc2_w (v := -9223372036854775808) dX7_isSo_17 q7_138 ?_
  refine j_lret dX7_isSo_20 rfl ?_
  exact ⟨rfl, rfl⟩

set_option maxRecDepth 20000 in
theorem s_X7_tooMany_ok {x p : Int32} (h : TC n v S) (hk : tmOk x p) : Rt a mX7_tooMany 2 [.ref (a 0), .int x, .int p] S (some (.long (tmV v x.toNatClampNeg p))) S := by
  show J _ _ _ _ 0 [_, _, _, .null, .null] [] _
  obtain ⟨X, hX, rfl⟩ := in_nI (n := 64) (by decide) hk.1
  have hcl : (nI X).toNatClampNeg = X := nI_clamp (by omega)
  have w1 := saW_b (A := X) (B := X) h.b8
  have w2 := saW_b (A := X) (B := 0) h.b8
  have w3 := allW_b (A := X)
  refine j_ild1 dX7_tooMany_0 ?_
  refine j_bipush (64) dX7_tooMany_1 rfl ?_
  refine j_cS2 dX7_tooMany_3 kX7_within zX7_within (Or.inl l7_72) (Nat.le_of_ble_eq_true rfl) (Nat.le_of_ble_eq_true rfl) (by omega) (s_X7_within) ?_
  refine j_ifeqB 17 dX7_tooMany_6 (by decide) (fun c_6 => absurd c_6 (not_not_intro hk.1)) (fun c_6 => ?_)
  refine j_ild2 dX7_tooMany_9 ?_
  refine j_iconst (2) dX7_tooMany_10 rfl ?_
  refine j_cS2 dX7_tooMany_11 kX7_within zX7_within (Or.inl l7_72) (Nat.le_of_ble_eq_true rfl) (Nat.le_of_ble_eq_true rfl) (by omega) (s_X7_within) ?_
  refine j_ifneB 21 dX7_tooMany_14 (by decide) (fun c_14 => ?_) (fun c_14 => absurd (hk.2) c_14)
  refine j_ild1 dX7_tooMany_21 ?_
  refine j_ifne 27 dX7_tooMany_22 (by decide) (fun c_22 => ?_) (fun c_22 => ?_)
  · refine j_ald0 dX7_tooMany_27 ?_
    refine j_getR (k := 3) (4) dX7_tooMany_28 cX7_ok (Or.inl f7_35) rfl (by decide) (by decide) (by decide) rfl ?_
    refine j_ald0 dX7_tooMany_31 ?_
    refine j_getR (k := 0) (1) dX7_tooMany_32 cX7_ok (Or.inl f7_12) rfl (by decide) (by decide) (by decide) rfl ?_
    refine j_ild1 dX7_tooMany_35 ?_
    refine j_ild1 dX7_tooMany_36 ?_
    refine j_cV3 dX7_tooMany_37 kX3_waysTheySay l7_203 rfl (by decide) rfl (Nat.le_of_ble_eq_true rfl) (Nat.le_of_ble_eq_true rfl) (by omega) (s_X3_waysTheySay h hX hX) ?_
    refine j_ald0 dX7_tooMany_40 ?_
    refine j_getR (k := 3) (4) dX7_tooMany_41 cX7_ok (Or.inl f7_35) rfl (by decide) (by decide) (by decide) rfl ?_
    refine j_ald0 dX7_tooMany_44 ?_
    refine j_getR (k := 0) (1) dX7_tooMany_45 cX7_ok (Or.inl f7_12) rfl (by decide) (by decide) (by decide) rfl ?_
    refine j_ild1 dX7_tooMany_48 ?_
    refine j_iconst (0) dX7_tooMany_49 rfl ?_
    refine j_cV3 dX7_tooMany_50 kX3_waysTheySay l7_203 rfl (by decide) rfl (Nat.le_of_ble_eq_true rfl) (Nat.le_of_ble_eq_true rfl) (by omega) (s_X3_waysTheySay (B := 0) h hX (by decide)) ?_
    refine j_ladd dX7_tooMany_53 ?_
    refine j_topL (y := lN (saW v X X + saW v X 0)) (lN_add _ _) ?_
    refine j_lst3 dX7_tooMany_54 rfl (by decide) ?_
    refine j_lld3 dX7_tooMany_55 ?_
    refine j_ald0 dX7_tooMany_56 ?_
    refine j_getR (k := 3) (4) dX7_tooMany_57 cX7_ok (Or.inl f7_35) rfl (by decide) (by decide) (by decide) rfl ?_
    refine j_ild1 dX7_tooMany_60 ?_
    refine j_cV1 dX7_tooMany_61 kX3_allWays l7_206 rfl (by decide) rfl (Nat.le_of_ble_eq_true rfl) (Nat.le_of_ble_eq_true rfl) (by omega) (s_X3_allWays hX) ?_
    refine j_ild2 dX7_tooMany_64 ?_
    refine j_cS3 dX7_tooMany_65 kX7_lowest zX7_lowest (Or.inl l7_150) (Nat.le_of_ble_eq_true rfl) (Nat.le_of_ble_eq_true rfl) (by omega) (s_X7_lowest (by omega) (by omega)) ?_
    refine j_lret dX7_tooMany_68 rfl ?_
    exact ⟨by rw [tmV, hcl, if_neg (fun z => c_22 (by rw [z]; rfl))], rfl⟩
  refine j_lconst (1) dX7_tooMany_25 rfl ?_
  refine j_lret dX7_tooMany_26 rfl ?_
  exact ⟨by rw [tmV, hcl, if_pos ((nI_eq (a := X) (b := 0) (by omega) (by decide)).mp (Classical.not_not.mp c_22))], rfl⟩

set_option maxRecDepth 20000 in
theorem s_X7_tooMany_bad {x p : Int32} (hk : ¬ tmOk x p) : Rt a mX7_tooMany 2 [.ref (a 0), .int x, .int p] S (some (.long (-9223372036854775808))) S := by
  show J _ _ _ _ 0 [_, _, _, .null, .null] [] _
  refine j_ild1 dX7_tooMany_0 ?_
  refine j_bipush (64) dX7_tooMany_1 rfl ?_
  refine j_cS2 dX7_tooMany_3 kX7_within zX7_within (Or.inl l7_72) (Nat.le_of_ble_eq_true rfl) (Nat.le_of_ble_eq_true rfl) (by omega) (s_X7_within) ?_
  refine j_ifeqB 17 dX7_tooMany_6 (by decide) (fun c_6 => ?_) (fun c_6 => ?_)
  · refine j_ldc2_w (v := -9223372036854775808) dX7_tooMany_17 q7_138 ?_
    refine j_lret dX7_tooMany_20 rfl ?_
    exact ⟨rfl, rfl⟩
  refine j_ild2 dX7_tooMany_9 ?_
  refine j_iconst (2) dX7_tooMany_10 rfl ?_
  refine j_cS2 dX7_tooMany_11 kX7_within zX7_within (Or.inl l7_72) (Nat.le_of_ble_eq_true rfl) (Nat.le_of_ble_eq_true rfl) (by omega) (s_X7_within) ?_
  refine j_ifneB 21 dX7_tooMany_14 (by decide) (fun c_14 => ?_) (fun c_14 => ?_)
  · exact absurd ⟨c_6, c_14⟩ hk
  refine j_ldc2_w (v := -9223372036854775808) dX7_tooMany_17 q7_138 ?_
  refine j_lret dX7_tooMany_20 rfl ?_
  exact ⟨rfl, rfl⟩

set_option maxRecDepth 20000 in
theorem lp_X8_isSo (h : TR n v S) {X : Nat} (hX : X < 4096) {p : Int32} (hp : prt p) : ∀ (fu : Nat) (i : Nat) (w8 : Value), 6 - i < fu → (i ≤ 6) → J a mX8_isSo 2 (gm a fun r S' => r = some (.long (isV v (nI X) p)) ∧ S' = S) 55 [.ref (a 61), .int (nI X), .int p, .long (lN (v 10 0 * prodN (saf (v 8) (X % 64) (X / 64)) i)), .null, .long (lN ((12 - v 10 0) * prodN (saf (v 8) (X % 64) (anN (X % 64) (X / 64))) i)), .null, .int (nI i), w8] [] S := by
  intro fu
  induction fu with
  | zero => intro i w8 hk; exact absurd hk (Nat.not_lt_zero _)
  | succ fu ih =>
    intro i w8 hk hi
    have hm := Nat.mod_lt X (show 0 < 64 by decide)
    have hd := (Nat.div_lt_iff_lt_mul (x := X) (y := 64) (show 0 < 64 by decide)).mpr hX
    have h10 := h.b12 (w := 10) (i := 0) (by omega) (by omega)
    have w1 := soW_b (A := X % 64) (B := X / 64) h10 h.b8
    have w2 := noW_b (A := X % 64) (B := X / 64) h.b8
    refine j_ild7 dX8_isSo_55 ?_
    refine j_bipush (6) dX8_isSo_57 rfl ?_
    refine j_icmpge 162 dX8_isSo_59 (by decide) (fun c_59 => ?_) (fun c_59 => ?_)
    · have q_59 : i = 6 := by have := (nI_leI (a := 6) (b := i) (by decide) (by omega)).mp c_59; omega
      subst q_59
      refine j_lld3 dX8_isSo_162 ?_
      refine j_lld3 dX8_isSo_163 ?_
      refine j_lld5 dX8_isSo_164 ?_
      refine j_ladd dX8_isSo_166 ?_
      refine j_topL (y := lN (soW v (X % 64) (X / 64) + noW v (X % 64) (X / 64))) (lN_add _ _) ?_
      refine j_ild2 dX8_isSo_167 ?_
      refine j_cS3 dX8_isSo_168 kX8_asPart zX8_asPart (Or.inl l8_299) (Nat.le_of_ble_eq_true rfl) (Nat.le_of_ble_eq_true rfl) (by omega) (s_X8_asPart (x := soW v (X % 64) (X / 64)) (by omega) (by omega) (prt_or hp)) ?_
      refine j_lret dX8_isSo_171 rfl ?_
      exact ⟨by rw [isV, nI_clamp (by omega)], rfl⟩
    have q_59 : i < 6 := Nat.not_le.mp (fun z => c_59 ((nI_leI (a := 6) (b := i) (by decide) (by omega)).mpr z))
    have f8 := h.b8 i (by omega)
    have lo := bt_lo64 (X := X) q_59
    have hi64 := bt_hi64 (X := X) q_59
    refine j_ild1 dX8_isSo_62 ?_
    refine j_ild7 dX8_isSo_63 ?_
    refine j_ishr dX8_isSo_65 ?_
    refine j_iconst (1) dX8_isSo_66 rfl ?_
    refine j_iand dX8_isSo_67 ?_
    refine j_top (y := nI (bt (X % 64) i)) ((sh_bit (X := X) (i := i) (by omega) (by omega)).trans (by rw [lo])) ?_
    refine j_ifne 74 dX8_isSo_68 (by decide) (fun c_68 => ?_) (fun c_68 => ?_)
    · have q_68 : bt (X % 64) i = 1 := by
        have := bt_2 (X % 64) i
        have h0 : ¬ bt (X % 64) i = 0 := fun z => c_68 (by rw [z]; rfl)
        omega
      have anb := an_b (X % 64) (by omega) (X / 64) (by omega) i (by omega) q_68
      refine j_ild1 dX8_isSo_74 ?_
      refine j_bipush (6) dX8_isSo_75 rfl ?_
      refine j_ild7 dX8_isSo_77 ?_
      refine j_iadd dX8_isSo_79 ?_
      refine j_top (y := nI (6 + i)) (by exact nI_add 6 i) ?_
      refine j_ishr dX8_isSo_80 ?_
      refine j_iconst (1) dX8_isSo_81 rfl ?_
      refine j_iand dX8_isSo_82 ?_
      refine j_top (y := nI (bt (X / 64) i)) ((sh_bit (X := X) (i := 6 + i) (by omega) (by omega)).trans (by rw [hi64])) ?_
      refine j_iconst (1) dX8_isSo_83 rfl ?_
      refine j_icmpne 91 dX8_isSo_84 (by decide) (fun c_84 => ?_) (fun c_84 => ?_)
      · have q_84 : ¬ bt (X / 64) (i) = 1 := fun z => c_84 (by rw [z]; rfl)
        refine j_iconst (0) dX8_isSo_91 rfl ?_
        refine j_ist8 dX8_isSo_92 rfl (by decide) ?_
        refine j_lld3 dX8_isSo_94 ?_
        refine j_ild8 dX8_isSo_95 ?_
        refine j_ifeq 114 dX8_isSo_97 (by decide) (fun c_97 => ?_) (fun c_97 => absurd (rfl) c_97)
        refine j_ald0 dX8_isSo_114 ?_
        refine j_getR (k := 11) (71) dX8_isSo_115 cX8_ok (Or.inl f8_39) rfl (by decide) (by decide) (by decide) rfl ?_
        refine j_ild7 dX8_isSo_118 ?_
        refine j_iald (n := i) dX8_isSo_120 rfl (by decide) rfl (by omega) (by decide) ?_
        refine j_top (y := nI (v 8 i)) (h.2.2.1 8 (by decide) i (by show _ < 6; omega)) ?_
        refine j_i2l dX8_isSo_121 ?_
        refine j_topL (y := lN (v 8 i)) (nI_l (by omega)) ?_
        refine j_lmul dX8_isSo_122 ?_
        refine j_topL (y := lN (v 10 0 * prodN (saf (v 8) (X % 64) (X / 64)) (i + 1))) (by rw [lN_mul, prodN, Nat.mul_assoc, saf, if_pos q_68, if_neg q_84]) ?_
        refine j_lst3 dX8_isSo_123 rfl (by decide) ?_
        refine j_lld5 dX8_isSo_124 ?_
        refine j_ild8 dX8_isSo_126 ?_
        refine j_ifeq 142 dX8_isSo_128 (by decide) (fun c_128 => ?_) (fun c_128 => absurd (rfl) c_128)
        refine j_bipush (12) dX8_isSo_142 rfl ?_
        refine j_ald0 dX8_isSo_144 ?_
        refine j_getR (k := 11) (71) dX8_isSo_145 cX8_ok (Or.inl f8_39) rfl (by decide) (by decide) (by decide) rfl ?_
        refine j_ild7 dX8_isSo_148 ?_
        refine j_iald (n := i) dX8_isSo_150 rfl (by decide) rfl (by omega) (by decide) ?_
        refine j_top (y := nI (v 8 i)) (h.2.2.1 8 (by decide) i (by show _ < 6; omega)) ?_
        refine j_isub dX8_isSo_151 ?_
        refine j_top (y := nI (12 - v 8 i)) (by exact pk_sub (a := 12) f8) ?_
        refine j_i2l dX8_isSo_152 ?_
        refine j_topL (y := lN (12 - v 8 i)) (nI_l (by omega)) ?_
        refine j_lmul dX8_isSo_153 ?_
        refine j_topL (y := lN ((12 - v 10 0) * prodN (saf (v 8) (X % 64) (anN (X % 64) (X / 64))) (i + 1))) (by rw [lN_mul, prodN, Nat.mul_assoc, saf, if_pos q_68, if_pos (anb.mpr q_84)]) ?_
        refine j_lst5 dX8_isSo_154 rfl (by decide) ?_
        refine j_iinc7 (nI (i + 1)) dX8_isSo_156 (nI_1 i) rfl (by decide) ?_
        refine j_goto 55 dX8_isSo_159 (by decide) ?_
        exact ih (i + 1) _ (by omega) (by omega)
      have q_84 : bt (X / 64) (i) = 1 := (nI_eq (a := bt (X / 64) (i)) (b := 1) (by have := bt_2 (X / 64) (i); omega) (by decide)).mp (Classical.not_not.mp c_84)
      refine j_iconst (1) dX8_isSo_87 rfl ?_
      refine j_goto 92 dX8_isSo_88 (by decide) ?_
      refine j_ist8 dX8_isSo_92 rfl (by decide) ?_
      refine j_lld3 dX8_isSo_94 ?_
      refine j_ild8 dX8_isSo_95 ?_
      refine j_ifeq 114 dX8_isSo_97 (by decide) (fun c_97 => absurd c_97 (by decide)) (fun c_97 => ?_)
      refine j_bipush (12) dX8_isSo_100 rfl ?_
      refine j_ald0 dX8_isSo_102 ?_
      refine j_getR (k := 11) (71) dX8_isSo_103 cX8_ok (Or.inl f8_39) rfl (by decide) (by decide) (by decide) rfl ?_
      refine j_ild7 dX8_isSo_106 ?_
      refine j_iald (n := i) dX8_isSo_108 rfl (by decide) rfl (by omega) (by decide) ?_
      refine j_top (y := nI (v 8 i)) (h.2.2.1 8 (by decide) i (by show _ < 6; omega)) ?_
      refine j_isub dX8_isSo_109 ?_
      refine j_top (y := nI (12 - v 8 i)) (by exact pk_sub (a := 12) f8) ?_
      refine j_i2l dX8_isSo_110 ?_
      refine j_topL (y := lN (12 - v 8 i)) (nI_l (by omega)) ?_
      refine j_goto 122 dX8_isSo_111 (by decide) ?_
      refine j_lmul dX8_isSo_122 ?_
      refine j_topL (y := lN (v 10 0 * prodN (saf (v 8) (X % 64) (X / 64)) (i + 1))) (by rw [lN_mul, prodN, Nat.mul_assoc, saf, if_pos q_68, if_pos q_84]) ?_
      refine j_lst3 dX8_isSo_123 rfl (by decide) ?_
      refine j_lld5 dX8_isSo_124 ?_
      refine j_ild8 dX8_isSo_126 ?_
      refine j_ifeq 142 dX8_isSo_128 (by decide) (fun c_128 => absurd c_128 (by decide)) (fun c_128 => ?_)
      refine j_ald0 dX8_isSo_131 ?_
      refine j_getR (k := 11) (71) dX8_isSo_132 cX8_ok (Or.inl f8_39) rfl (by decide) (by decide) (by decide) rfl ?_
      refine j_ild7 dX8_isSo_135 ?_
      refine j_iald (n := i) dX8_isSo_137 rfl (by decide) rfl (by omega) (by decide) ?_
      refine j_top (y := nI (v 8 i)) (h.2.2.1 8 (by decide) i (by show _ < 6; omega)) ?_
      refine j_i2l dX8_isSo_138 ?_
      refine j_topL (y := lN (v 8 i)) (nI_l (by omega)) ?_
      refine j_goto 153 dX8_isSo_139 (by decide) ?_
      refine j_lmul dX8_isSo_153 ?_
      refine j_topL (y := lN ((12 - v 10 0) * prodN (saf (v 8) (X % 64) (anN (X % 64) (X / 64))) (i + 1))) (by rw [lN_mul, prodN, Nat.mul_assoc, saf, if_pos q_68, if_neg (fun z => anb.mp z q_84)]) ?_
      refine j_lst5 dX8_isSo_154 rfl (by decide) ?_
      refine j_iinc7 (nI (i + 1)) dX8_isSo_156 (nI_1 i) rfl (by decide) ?_
      refine j_goto 55 dX8_isSo_159 (by decide) ?_
      exact ih (i + 1) _ (by omega) (by omega)
    have q_68 : ¬ bt (X % 64) i = 1 := fun z => c_68 (by rw [z]; decide)
    refine j_goto 156 dX8_isSo_71 (by decide) ?_
    refine j_iinc7 (nI (i + 1)) dX8_isSo_156 (nI_1 i) rfl (by decide) ?_
    refine j_goto 55 dX8_isSo_159 (by decide) ?_
    have e1 : prodN (saf (v 8) (X % 64) (X / 64)) (i + 1) = prodN (saf (v 8) (X % 64) (X / 64)) i := by rw [prodN, saf, if_neg q_68, Nat.mul_one]
    have e2 : prodN (saf (v 8) (X % 64) (anN (X % 64) (X / 64))) (i + 1) = prodN (saf (v 8) (X % 64) (anN (X % 64) (X / 64))) i := by rw [prodN, saf, if_neg q_68, Nat.mul_one]
    rw [← e1, ← e2]
    exact ih (i + 1) _ (by omega) (by omega)

set_option maxRecDepth 20000 in
theorem s_X8_isSo_ok {x p : Int32} (h : TR n v S) (hk : tdOk 64 x ∧ prt p) : Rt a mX8_isSo 2 [.ref (a 61), .int x, .int p] S (some (.long (isV v x p))) S := by
  show J _ _ _ _ 0 [_, _, _, .null, .null, .null, .null, .null, .null] [] _
  have hr := (tdR_iff (s := 64) (m := 4096) 6 (Or.inr ⟨rfl, rfl⟩) rfl).mpr hk.1
  obtain ⟨X, hX, rfl, -, -⟩ := td_nat (s := 64) (Or.inr rfl) hk.1
  have h10 := h.b12 (w := 10) (i := 0) (by omega) (by omega)
  refine j_ild1 dX8_isSo_0 ?_
  refine j_iflt 32 dX8_isSo_1 (by decide) (fun c_1 => absurd c_1 (Int32.not_lt.mpr hr.1)) (fun c_1 => ?_)
  refine j_ild1 dX8_isSo_4 ?_
  refine j_sipush (4096) dX8_isSo_5 rfl ?_
  refine j_icmpge 32 dX8_isSo_8 (by decide) (fun c_8 => absurd c_8 (Int32.not_le.mpr hr.2.1)) (fun c_8 => ?_)
  refine j_ild1 dX8_isSo_11 ?_
  refine j_bipush (6) dX8_isSo_12 rfl ?_
  refine j_ishr dX8_isSo_14 ?_
  refine j_ild1 dX8_isSo_15 ?_
  refine j_bipush (63) dX8_isSo_16 rfl ?_
  refine j_iand dX8_isSo_18 ?_
  refine j_iconst (-1) dX8_isSo_19 rfl ?_
  refine j_ixor dX8_isSo_20 ?_
  refine j_iand dX8_isSo_21 ?_
  refine j_ifne 32 dX8_isSo_22 (by decide) (fun c_22 => absurd c_22 (not_not_intro hr.2.2)) (fun c_22 => ?_)
  refine j_ild2 dX8_isSo_25 ?_
  refine j_cS1 dX8_isSo_26 kX8_isPart zX8_isPart (Or.inl l8_291) (Nat.le_of_ble_eq_true rfl) (Nat.le_of_ble_eq_true rfl) (by omega) (s_X8_isPart) ?_
  refine j_ifneB 36 dX8_isSo_29 (by decide) (fun c_29 => ?_) (fun c_29 => absurd (hk.2) c_29)
  refine j_ald0 dX8_isSo_36 ?_
  refine j_getI (k := 13) dX8_isSo_37 cX8_ok (Or.inl f8_46) rfl (by decide) (by decide) (by decide) ?_
  refine j_top (y := nI (v 10 0)) (h.so) ?_
  refine j_i2l dX8_isSo_40 ?_
  refine j_topL (y := lN (v 10 0 * prodN (saf (v 8) (X % 64) (X / 64)) 0)) (by rw [prodN, Nat.mul_one]; exact nI_l (by omega)) ?_
  refine j_lst3 dX8_isSo_41 rfl (by decide) ?_
  refine j_bipush (12) dX8_isSo_42 rfl ?_
  refine j_ald0 dX8_isSo_44 ?_
  refine j_getI (k := 13) dX8_isSo_45 cX8_ok (Or.inl f8_46) rfl (by decide) (by decide) (by decide) ?_
  refine j_top (y := nI (v 10 0)) (h.so) ?_
  refine j_isub dX8_isSo_48 ?_
  refine j_top (y := nI (12 - v 10 0)) (by exact pk_sub (a := 12) (b := v 10 0) (by omega)) ?_
  refine j_i2l dX8_isSo_49 ?_
  refine j_topL (y := lN ((12 - v 10 0) * prodN (saf (v 8) (X % 64) (anN (X % 64) (X / 64))) 0)) (by rw [prodN, Nat.mul_one]; exact nI_l (by omega)) ?_
  refine j_lst5 dX8_isSo_50 rfl (by decide) ?_
  refine j_iconst (0) dX8_isSo_52 rfl ?_
  refine j_ist7 dX8_isSo_53 rfl (by decide) ?_
  exact lp_X8_isSo h hX hk.2 7 0 .null (by omega) (by omega)

set_option maxRecDepth 20000 in
theorem s_X8_isSo_bad {x p : Int32} (hk : ¬ (tdOk 64 x ∧ prt p)) : Rt a mX8_isSo 2 [.ref (a 61), .int x, .int p] S (some (.long (-9223372036854775808))) S := by
  show J _ _ _ _ 0 [_, _, _, .null, .null, .null, .null, .null, .null] [] _
  refine j_ild1 dX8_isSo_0 ?_
  refine j_iflt 32 dX8_isSo_1 (by decide) (fun c_1 => ?_) (fun c_1 => ?_)
  · refine j_ldc2_w (v := -9223372036854775808) dX8_isSo_32 q8_294 ?_
    refine j_lret dX8_isSo_35 rfl ?_
    exact ⟨rfl, rfl⟩
  refine j_ild1 dX8_isSo_4 ?_
  refine j_sipush (4096) dX8_isSo_5 rfl ?_
  refine j_icmpge 32 dX8_isSo_8 (by decide) (fun c_8 => ?_) (fun c_8 => ?_)
  · refine j_ldc2_w (v := -9223372036854775808) dX8_isSo_32 q8_294 ?_
    refine j_lret dX8_isSo_35 rfl ?_
    exact ⟨rfl, rfl⟩
  refine j_ild1 dX8_isSo_11 ?_
  refine j_bipush (6) dX8_isSo_12 rfl ?_
  refine j_ishr dX8_isSo_14 ?_
  refine j_ild1 dX8_isSo_15 ?_
  refine j_bipush (63) dX8_isSo_16 rfl ?_
  refine j_iand dX8_isSo_18 ?_
  refine j_iconst (-1) dX8_isSo_19 rfl ?_
  refine j_ixor dX8_isSo_20 ?_
  refine j_iand dX8_isSo_21 ?_
  refine j_ifne 32 dX8_isSo_22 (by decide) (fun c_22 => ?_) (fun c_22 => ?_)
  · refine j_ldc2_w (v := -9223372036854775808) dX8_isSo_32 q8_294 ?_
    refine j_lret dX8_isSo_35 rfl ?_
    exact ⟨rfl, rfl⟩
  refine j_ild2 dX8_isSo_25 ?_
  refine j_cS1 dX8_isSo_26 kX8_isPart zX8_isPart (Or.inl l8_291) (Nat.le_of_ble_eq_true rfl) (Nat.le_of_ble_eq_true rfl) (by omega) (s_X8_isPart) ?_
  refine j_ifneB 36 dX8_isSo_29 (by decide) (fun c_29 => ?_) (fun c_29 => ?_)
  · exact absurd ⟨(tdR_iff (s := 64) (m := 4096) 6 (Or.inr ⟨rfl, rfl⟩) rfl).mp ⟨Int32.not_lt.mp c_1, Int32.not_le.mp c_8, Classical.not_not.mp c_22⟩, c_29⟩ hk
  refine j_ldc2_w (v := -9223372036854775808) dX8_isSo_32 q8_294 ?_
  refine j_lret dX8_isSo_35 rfl ?_
  exact ⟨rfl, rfl⟩

set_option maxRecDepth 20000 in
theorem lp_X8_tooMany (h : TR n v S) {X : Nat} (hX : X < 64) (hX0 : ¬ X = 0) {p : Int32} (hp : prt p) : ∀ (fu : Nat) (i : Nat), 6 - i < fu → (i ≤ 6) → J a mX8_tooMany 2 (gm a fun r S' => r = some (.long (tmV v X p)) ∧ S' = S) 38 [.ref (a 61), .int (nI X), .int p, .long (lN (prodN (saf (v 8) X X) i)), .null, .long (lN (prodN (saf (v 8) X 0) i)), .null, .long (lN (prodN (twf X) i)), .null, .int (nI i)] [] S := by
  intro fu
  induction fu with
  | zero => intro i hk; exact absurd hk (Nat.not_lt_zero _)
  | succ fu ih =>
    intro i hk hi
    refine j_ild9 dX8_tooMany_38 ?_
    refine j_bipush (6) dX8_tooMany_40 rfl ?_
    refine j_icmpge 98 dX8_tooMany_42 (by decide) (fun c_42 => ?_) (fun c_42 => ?_)
    · have q_42 : i = 6 := by have := (nI_leI (a := 6) (b := i) (by decide) (by omega)).mp c_42; omega
      subst q_42
      refine j_lld3 dX8_tooMany_98 ?_
      refine j_lld5 dX8_tooMany_99 ?_
      refine j_ladd dX8_tooMany_101 ?_
      refine j_topL (y := lN (saW v X X + saW v X 0)) (lN_add _ _) ?_
      refine j_lld7 dX8_tooMany_102 ?_
      refine j_ild2 dX8_tooMany_104 ?_
      refine j_cS3 dX8_tooMany_105 kX8_asPart zX8_asPart (Or.inl l8_299) (Nat.le_of_ble_eq_true rfl) (Nat.le_of_ble_eq_true rfl) (by omega) (s_X8_asPart (x := saW v X X + saW v X 0) (y := allW X) (by have := saW_b (A := X) (B := X) h.b8; have := saW_b (A := X) (B := 0) h.b8; omega) (by have := allW_b (A := X); omega) (prt_or hp)) ?_
      refine j_lret dX8_tooMany_108 rfl ?_
      exact ⟨by rw [tmV, if_neg hX0], rfl⟩
    have q_42 : i < 6 := Nat.not_le.mp (fun z => c_42 ((nI_leI (a := 6) (b := i) (by decide) (by omega)).mpr z))
    have f8 := h.b8 i (by omega)
    refine j_ild1 dX8_tooMany_45 ?_
    refine j_ild9 dX8_tooMany_46 ?_
    refine j_ishr dX8_tooMany_48 ?_
    refine j_iconst (1) dX8_tooMany_49 rfl ?_
    refine j_iand dX8_tooMany_50 ?_
    refine j_top (y := nI (bt (X) (i))) (sh_bit (X := X) (i := i) (by omega) (by omega)) ?_
    refine j_ifne 57 dX8_tooMany_51 (by decide) (fun c_51 => ?_) (fun c_51 => ?_)
    · have q_51 : bt X i = 1 := by
        have := bt_2 X i
        have h0 : ¬ bt X i = 0 := fun z => c_51 (by rw [z]; rfl)
        omega
      refine j_lld3 dX8_tooMany_57 ?_
      refine j_bipush (12) dX8_tooMany_58 rfl ?_
      refine j_ald0 dX8_tooMany_60 ?_
      refine j_getR (k := 11) (71) dX8_tooMany_61 cX8_ok (Or.inl f8_39) rfl (by decide) (by decide) (by decide) rfl ?_
      refine j_ild9 dX8_tooMany_64 ?_
      refine j_iald (n := i) dX8_tooMany_66 rfl (by decide) rfl (by omega) (by decide) ?_
      refine j_top (y := nI (v 8 i)) (h.2.2.1 8 (by decide) i (by show _ < 6; omega)) ?_
      refine j_isub dX8_tooMany_67 ?_
      refine j_top (y := nI (12 - v 8 i)) (by exact pk_sub (a := 12) f8) ?_
      refine j_i2l dX8_tooMany_68 ?_
      refine j_topL (y := lN (12 - v 8 i)) (nI_l (by omega)) ?_
      refine j_lmul dX8_tooMany_69 ?_
      refine j_topL (y := lN (prodN (saf (v 8) X X) (i + 1))) (by rw [lN_mul, prodN, saf, if_pos q_51, if_pos q_51]) ?_
      refine j_lst3 dX8_tooMany_70 rfl (by decide) ?_
      refine j_lld5 dX8_tooMany_71 ?_
      refine j_ald0 dX8_tooMany_73 ?_
      refine j_getR (k := 11) (71) dX8_tooMany_74 cX8_ok (Or.inl f8_39) rfl (by decide) (by decide) (by decide) rfl ?_
      refine j_ild9 dX8_tooMany_77 ?_
      refine j_iald (n := i) dX8_tooMany_79 rfl (by decide) rfl (by omega) (by decide) ?_
      refine j_top (y := nI (v 8 i)) (h.2.2.1 8 (by decide) i (by show _ < 6; omega)) ?_
      refine j_i2l dX8_tooMany_80 ?_
      refine j_topL (y := lN (v 8 i)) (nI_l (by omega)) ?_
      refine j_lmul dX8_tooMany_81 ?_
      refine j_topL (y := lN (prodN (saf (v 8) X 0) (i + 1))) (by rw [lN_mul, prodN, saf, if_pos q_51, if_neg (by rw [bt_0]; decide)]) ?_
      refine j_lst5 dX8_tooMany_82 rfl (by decide) ?_
      refine j_lld7 dX8_tooMany_84 ?_
      refine j_ldc2_w (v := 12) dX8_tooMany_86 q8_320 ?_
      refine j_lmul dX8_tooMany_89 ?_
      refine j_topL (y := lN (prodN (twf X) (i + 1))) (by rw [prodN, twf, if_pos q_51]; exact lN_mul _ 12) ?_
      refine j_lst7 dX8_tooMany_90 rfl (by decide) ?_
      refine j_iinc9 (nI (i + 1)) dX8_tooMany_92 (nI_1 i) rfl (by decide) ?_
      refine j_goto 38 dX8_tooMany_95 (by decide) ?_
      exact ih (i + 1) (by omega) (by omega)
    have q_51 : ¬ bt X i = 1 := fun z => c_51 (by rw [z]; decide)
    refine j_goto 92 dX8_tooMany_54 (by decide) ?_
    refine j_iinc9 (nI (i + 1)) dX8_tooMany_92 (nI_1 i) rfl (by decide) ?_
    refine j_goto 38 dX8_tooMany_95 (by decide) ?_
    have e1 : prodN (saf (v 8) X X) (i + 1) = prodN (saf (v 8) X X) i := by rw [prodN, saf, if_neg q_51, Nat.mul_one]
    have e2 : prodN (saf (v 8) X 0) (i + 1) = prodN (saf (v 8) X 0) i := by rw [prodN, saf, if_neg q_51, Nat.mul_one]
    have e3 : prodN (twf X) (i + 1) = prodN (twf X) i := by rw [prodN, twf, if_neg q_51, Nat.mul_one]
    rw [← e1, ← e2, ← e3]
    exact ih (i + 1) (by omega) (by omega)

set_option maxRecDepth 20000 in
theorem s_X8_tooMany_ok {x p : Int32} (h : TR n v S) (hk : tmOk x p) : Rt a mX8_tooMany 2 [.ref (a 61), .int x, .int p] S (some (.long (tmV v x.toNatClampNeg p))) S := by
  show J _ _ _ _ 0 [_, _, _, .null, .null, .null, .null, .null, .null, .null] [] _
  obtain ⟨X, hX, rfl⟩ := in_nI (n := 64) (by decide) hk.1
  have hcl : (nI X).toNatClampNeg = X := nI_clamp (by omega)
  refine j_ild1 dX8_tooMany_0 ?_
  refine j_iconst (0) dX8_tooMany_1 rfl ?_
  refine j_bipush (63) dX8_tooMany_2 rfl ?_
  refine j_cS3 dX8_tooMany_4 kX8_in zX8_in (Or.inl l8_148) (Nat.le_of_ble_eq_true rfl) (Nat.le_of_ble_eq_true rfl) (by omega) (s_X8_in) ?_
  refine j_ifeqB 17 dX8_tooMany_7 (by decide) (fun c_7 => absurd c_7 (not_not_intro ⟨hk.1.1, (le_lt (c := 63) (by decide)).mpr hk.1.2⟩)) (fun c_7 => ?_)
  refine j_ild2 dX8_tooMany_10 ?_
  refine j_cS1 dX8_tooMany_11 kX8_isPart zX8_isPart (Or.inl l8_291) (Nat.le_of_ble_eq_true rfl) (Nat.le_of_ble_eq_true rfl) (by omega) (s_X8_isPart) ?_
  refine j_ifneB 21 dX8_tooMany_14 (by decide) (fun c_14 => ?_) (fun c_14 => absurd (hk.2) c_14)
  refine j_ild1 dX8_tooMany_21 ?_
  refine j_ifne 27 dX8_tooMany_22 (by decide) (fun c_22 => ?_) (fun c_22 => ?_)
  · refine j_lconst (1) dX8_tooMany_27 rfl ?_
    refine j_lst3 dX8_tooMany_28 rfl (by decide) ?_
    refine j_lconst (1) dX8_tooMany_29 rfl ?_
    refine j_lst5 dX8_tooMany_30 rfl (by decide) ?_
    refine j_lconst (1) dX8_tooMany_32 rfl ?_
    refine j_lst7 dX8_tooMany_33 rfl (by decide) ?_
    refine j_iconst (0) dX8_tooMany_35 rfl ?_
    refine j_ist9 dX8_tooMany_36 rfl (by decide) ?_
    rw [hcl]; exact lp_X8_tooMany h hX (fun z => c_22 (by rw [z]; rfl)) hk.2 7 0 (by omega) (by omega)
  refine j_lconst (1) dX8_tooMany_25 rfl ?_
  refine j_lret dX8_tooMany_26 rfl ?_
  exact ⟨by rw [tmV, hcl, if_pos ((nI_eq (a := X) (b := 0) (by omega) (by decide)).mp (Classical.not_not.mp c_22))], rfl⟩

set_option maxRecDepth 20000 in
theorem s_X8_tooMany_bad {x p : Int32} (hk : ¬ tmOk x p) : Rt a mX8_tooMany 2 [.ref (a 61), .int x, .int p] S (some (.long (-9223372036854775808))) S := by
  show J _ _ _ _ 0 [_, _, _, .null, .null, .null, .null, .null, .null, .null] [] _
  refine j_ild1 dX8_tooMany_0 ?_
  refine j_iconst (0) dX8_tooMany_1 rfl ?_
  refine j_bipush (63) dX8_tooMany_2 rfl ?_
  refine j_cS3 dX8_tooMany_4 kX8_in zX8_in (Or.inl l8_148) (Nat.le_of_ble_eq_true rfl) (Nat.le_of_ble_eq_true rfl) (by omega) (s_X8_in) ?_
  refine j_ifeqB 17 dX8_tooMany_7 (by decide) (fun c_7 => ?_) (fun c_7 => ?_)
  · refine j_ldc2_w (v := -9223372036854775808) dX8_tooMany_17 q8_294 ?_
    refine j_lret dX8_tooMany_20 rfl ?_
    exact ⟨rfl, rfl⟩
  refine j_ild2 dX8_tooMany_10 ?_
  refine j_cS1 dX8_tooMany_11 kX8_isPart zX8_isPart (Or.inl l8_291) (Nat.le_of_ble_eq_true rfl) (Nat.le_of_ble_eq_true rfl) (by omega) (s_X8_isPart) ?_
  refine j_ifneB 21 dX8_tooMany_14 (by decide) (fun c_14 => ?_) (fun c_14 => ?_)
  · exact absurd ⟨⟨c_7.1, (le_lt (c := 63) (by decide)).mp c_7.2⟩, c_14⟩ hk
  refine j_ldc2_w (v := -9223372036854775808) dX8_tooMany_17 q8_294 ?_
  refine j_lret dX8_tooMany_20 rfl ?_
  exact ⟨rfl, rfl⟩

end Say
