/-! what witnesses say: both sides -/
def saf (f : Nat → Nat) (A B i : Nat) : Nat := if bt A i = 1 then (if bt B i = 1 then 12 - f i else f i) else 1
def twf (A i : Nat) : Nat := if bt A i = 1 then 12 else 1
theorem saf_le {f : Nat → Nat} {A B i : Nat} (h : f i ≤ 12) : saf f A B i ≤ 12 := by unfold saf; split <;> (try split) <;> omega
theorem twf_le {A i : Nat} : twf A i ≤ 12 := by unfold twf; split <;> omega
def saW (v : Nat → Nat → Nat) (A B : Nat) : Nat := prodN (saf (v 8) A B) 6
def allW (A : Nat) : Nat := prodN (twf A) 6
def soW (v : Nat → Nat → Nat) (A B : Nat) : Nat := v 10 0 * saW v A B
def noW (v : Nat → Nat → Nat) (A B : Nat) : Nat := (12 - v 10 0) * saW v A (anN A B)
theorem saW_b {v : Nat → Nat → Nat} {A B : Nat} (h : ∀ i, i < 8 → v 8 i ≤ 12) : saW v A B ≤ 12 ^ 6 := prodN_le 6 (fun k hk => saf_le (h k (by omega)))
theorem allW_b {A : Nat} : allW A ≤ 12 ^ 6 := prodN_le 6 (fun k hk => twf_le)
theorem soW_b {v : Nat → Nat → Nat} {A B : Nat} (h0 : v 10 0 ≤ 12) (h : ∀ i, i < 8 → v 8 i ≤ 12) : soW v A B ≤ 12 * 12 ^ 6 := Nat.mul_le_mul h0 (saW_b h)
theorem noW_b {v : Nat → Nat → Nat} {A B : Nat} (h : ∀ i, i < 8 → v 8 i ≤ 12) : noW v A B ≤ 12 * 12 ^ 6 := Nat.mul_le_mul (by omega) (saW_b h)
def isV (v : Nat → Nat → Nat) (x p : Int32) : Int64 := lowV (soW v (x.toNatClampNeg % 64) (x.toNatClampNeg / 64)) (soW v (x.toNatClampNeg % 64) (x.toNatClampNeg / 64) + noW v (x.toNatClampNeg % 64) (x.toNatClampNeg / 64)) p
def tmV (v : Nat → Nat → Nat) (X : Nat) (p : Int32) : Int64 := if X = 0 then 1 else lowV (saW v X X + saW v X 0) (allW X) p
abbrev tmOk (x p : Int32) : Prop := (0 ≤ x ∧ x < 64) ∧ prt p
section Say
variable {a : Nat → Nat} {S : St} {n : Nat} {v : Nat → Nat → Nat}
theorem TC.b8 (h : TC n v S) : ∀ i, i < 8 → v 8 i ≤ 12 := fun i hi => h.b12 (by omega) hi
set_option maxRecDepth 20000 in
theorem lp_X3_waysTheySay (h : TC n v S) {A B : Nat} (hA : A < 64) (hB : B < 64) : ∀ (fu : Nat) (i : Nat) (w7 : Value), 6 - i < fu → (i ≤ 6) → J a mX3_waysTheySay 0 (gm a fun r S' => r = some (.long (lN (saW v A B))) ∧ S' = S) 6 [.ref (a 4), .ref (a 1), .int (nI A), .int (nI B), .long (lN (prodN (saf (v 8) A B) i)), .null, .int (nI i), w7] [] S := by
  intro fu
  induction fu with
  | zero => intro i w7 hk; exact absurd hk (Nat.not_lt_zero _)
  | succ fu ih =>
    intro i w7 hk hi
    refine j_ild6 dX3_waysTheySay_6 ?_
    refine j_bipush (6) dX3_waysTheySay_8 rfl ?_
    refine j_icmpge 68 dX3_waysTheySay_10 (by decide) (fun c_10 => ?_) (fun c_10 => ?_)
    · have q_10 : i = 6 := by have := (nI_leI (a := 6) (b := i) (by decide) (by omega)).mp c_10; omega
      subst q_10
      refine j_lld4 dX3_waysTheySay_68 ?_
      refine j_lret dX3_waysTheySay_70 rfl ?_
      exact ⟨rfl, rfl⟩
    have q_10 : i < 6 := Nat.not_le.mp (fun z => c_10 ((nI_leI (a := 6) (b := i) (by decide) (by omega)).mpr z))
    have f8 := h.b8 i (by omega)
    refine j_ild2 dX3_waysTheySay_13 ?_
    refine j_ild6 dX3_waysTheySay_14 ?_
    refine j_ishr dX3_waysTheySay_16 ?_
    refine j_iconst (1) dX3_waysTheySay_17 rfl ?_
    refine j_iand dX3_waysTheySay_18 ?_
    refine j_top (y := nI (bt (A) (i))) (sh_bit (X := A) (i := i) (by omega) (by omega)) ?_
    refine j_iconst (1) dX3_waysTheySay_19 rfl ?_
    refine j_icmpne 62 dX3_waysTheySay_20 (by decide) (fun c_20 => ?_) (fun c_20 => ?_)
    · have q_20 : ¬ bt (A) (i) = 1 := fun z => c_20 (by rw [z]; rfl)
      refine j_iinc6 (nI (i + 1)) dX3_waysTheySay_62 (nI_1 i) rfl (by decide) ?_
      refine j_goto 6 dX3_waysTheySay_65 (by decide) ?_
      have e : prodN (saf (v 8) A B) (i + 1) = prodN (saf (v 8) A B) i := by rw [prodN, saf, if_neg q_20, Nat.mul_one]
      rw [← e]
      exact ih (i + 1) w7 (by omega) (by omega)
    have q_20 : bt (A) (i) = 1 := (nI_eq (a := bt (A) (i)) (b := 1) (by have := bt_2 (A) (i); omega) (by decide)).mp (Classical.not_not.mp c_20)
    refine j_ald1 dX3_waysTheySay_23 ?_
    refine j_getR (k := 0) (15) dX3_waysTheySay_24 cX6_ok (Or.inr ⟨_, f3_21⟩) rfl (by decide) (by decide) (by decide) rfl ?_
    refine j_bipush (8) dX3_waysTheySay_27 rfl ?_
    refine j_aald (n := 8) (24) dX3_waysTheySay_29 (Or.inr rfl) (by decide) rfl (by decide) (by decide) rfl ?_
    refine j_ild6 dX3_waysTheySay_30 ?_
    refine j_iald (n := i) dX3_waysTheySay_32 rfl (by decide) rfl (by omega) (by decide) ?_
    refine j_top (y := nI (v 8 i)) (h.2.2.1 8 (by decide) i (by omega)) ?_
    refine j_ist7 dX3_waysTheySay_33 rfl (by decide) ?_
    refine j_lld4 dX3_waysTheySay_35 ?_
    refine j_ild3 dX3_waysTheySay_37 ?_
    refine j_ild6 dX3_waysTheySay_38 ?_
    refine j_ishr dX3_waysTheySay_40 ?_
    refine j_iconst (1) dX3_waysTheySay_41 rfl ?_
    refine j_iand dX3_waysTheySay_42 ?_
    refine j_top (y := nI (bt (B) (i))) (sh_bit (X := B) (i := i) (by omega) (by omega)) ?_
    refine j_iconst (1) dX3_waysTheySay_43 rfl ?_
    refine j_icmpne 56 dX3_waysTheySay_44 (by decide) (fun c_44 => ?_) (fun c_44 => ?_)
    · have q_44 : ¬ bt (B) (i) = 1 := fun z => c_44 (by rw [z]; rfl)
      refine j_ild7 dX3_waysTheySay_56 ?_
      refine j_i2l dX3_waysTheySay_58 ?_
      refine j_topL (y := lN (v 8 i)) (nI_l (by omega)) ?_
      refine j_lmul dX3_waysTheySay_59 ?_
      refine j_topL (y := lN (prodN (saf (v 8) A B) (i + 1))) (by rw [lN_mul, prodN, saf, if_pos q_20, if_neg q_44]) ?_
      refine j_lst4 dX3_waysTheySay_60 rfl (by decide) ?_
      refine j_iinc6 (nI (i + 1)) dX3_waysTheySay_62 (nI_1 i) rfl (by decide) ?_
      refine j_goto 6 dX3_waysTheySay_65 (by decide) ?_
      exact ih (i + 1) _ (by omega) (by omega)
    have q_44 : bt (B) (i) = 1 := (nI_eq (a := bt (B) (i)) (b := 1) (by have := bt_2 (B) (i); omega) (by decide)).mp (Classical.not_not.mp c_44)
    refine j_bipush (12) dX3_waysTheySay_47 rfl ?_
    refine j_ild7 dX3_waysTheySay_49 ?_
    refine j_isub dX3_waysTheySay_51 ?_
    refine j_top (y := nI (12 - v 8 i)) (by exact pk_sub (a := 12) f8) ?_
    refine j_i2l dX3_waysTheySay_52 ?_
    refine j_topL (y := lN (12 - v 8 i)) (nI_l (by omega)) ?_
    refine j_goto 59 dX3_waysTheySay_53 (by decide) ?_
    refine j_lmul dX3_waysTheySay_59 ?_
    refine j_topL (y := lN (prodN (saf (v 8) A B) (i + 1))) (by rw [lN_mul, prodN, saf, if_pos q_20, if_pos q_44]) ?_
    refine j_lst4 dX3_waysTheySay_60 rfl (by decide) ?_
    refine j_iinc6 (nI (i + 1)) dX3_waysTheySay_62 (nI_1 i) rfl (by decide) ?_
    refine j_goto 6 dX3_waysTheySay_65 (by decide) ?_
    exact ih (i + 1) _ (by omega) (by omega)

set_option maxRecDepth 20000 in
theorem s_X3_waysTheySay {A B : Nat} (h : TC n v S) (hA : A < 64) (hB : B < 64) : Rt a mX3_waysTheySay 0 [.ref (a 4), .ref (a 1), .int (nI A), .int (nI B)] S (some (.long (lN (saW v A B)))) S := by
  show J _ _ _ _ 0 [_, _, _, _, .null, .null, .null, .null] [] _
  refine j_lconst (1) dX3_waysTheySay_0 rfl ?_
  refine j_lst4 dX3_waysTheySay_1 rfl (by decide) ?_
  refine j_iconst (0) dX3_waysTheySay_3 rfl ?_
  refine j_ist6 dX3_waysTheySay_4 rfl (by decide) ?_
  exact lp_X3_waysTheySay h hA hB 7 0 .null (by omega) (by omega)

set_option maxRecDepth 20000 in
theorem lp_X3_allWays {A : Nat} (hA : A < 64) : ∀ (fu : Nat) (i : Nat), 6 - i < fu → (i ≤ 6) → J a mX3_allWays 0 (gm a fun r S' => r = some (.long (lN (allW A))) ∧ S' = S) 5 [.ref (a 4), .int (nI A), .long (lN (prodN (twf A) i)), .null, .int (nI i)] [] S := by
  intro fu
  induction fu with
  | zero => intro i hk; exact absurd hk (Nat.not_lt_zero _)
  | succ fu ih =>
    intro i hk hi
    refine j_ild4 dX3_allWays_5 ?_
    refine j_bipush (6) dX3_allWays_7 rfl ?_
    refine j_icmpge 38 dX3_allWays_9 (by decide) (fun c_9 => ?_) (fun c_9 => ?_)
    · have q_9 : i = 6 := by have := (nI_leI (a := 6) (b := i) (by decide) (by omega)).mp c_9; omega
      subst q_9
      refine j_lld2 dX3_allWays_38 ?_
      refine j_lret dX3_allWays_39 rfl ?_
      exact ⟨rfl, rfl⟩
    have q_9 : i < 6 := Nat.not_le.mp (fun z => c_9 ((nI_leI (a := 6) (b := i) (by decide) (by omega)).mpr z))
    refine j_lld2 dX3_allWays_12 ?_
    refine j_ild1 dX3_allWays_13 ?_
    refine j_ild4 dX3_allWays_14 ?_
    refine j_ishr dX3_allWays_16 ?_
    refine j_iconst (1) dX3_allWays_17 rfl ?_
    refine j_iand dX3_allWays_18 ?_
    refine j_top (y := nI (bt (A) (i))) (sh_bit (X := A) (i := i) (by omega) (by omega)) ?_
    refine j_iconst (1) dX3_allWays_19 rfl ?_
    refine j_icmpne 29 dX3_allWays_20 (by decide) (fun c_20 => ?_) (fun c_20 => ?_)
    · have q_20 : ¬ bt (A) (i) = 1 := fun z => c_20 (by rw [z]; rfl)
      refine j_lconst (1) dX3_allWays_29 rfl ?_
      refine j_lmul dX3_allWays_30 ?_
      refine j_topL (y := lN (prodN (twf A) (i + 1))) (by rw [prodN, twf, if_neg q_20]; exact lN_mul _ 1) ?_
      refine j_lst2 dX3_allWays_31 rfl (by decide) ?_
      refine j_iinc4 (nI (i + 1)) dX3_allWays_32 (nI_1 i) rfl (by decide) ?_
      refine j_goto 5 dX3_allWays_35 (by decide) ?_
      exact ih (i + 1) (by omega) (by omega)
    have q_20 : bt (A) (i) = 1 := (nI_eq (a := bt (A) (i)) (b := 1) (by have := bt_2 (A) (i); omega) (by decide)).mp (Classical.not_not.mp c_20)
    refine j_ldc2_w (v := 12) dX3_allWays_23 q3_55 ?_
    refine j_goto 30 dX3_allWays_26 (by decide) ?_
    refine j_lmul dX3_allWays_30 ?_
    refine j_topL (y := lN (prodN (twf A) (i + 1))) (by rw [prodN, twf, if_pos q_20]; exact lN_mul _ 12) ?_
    refine j_lst2 dX3_allWays_31 rfl (by decide) ?_
    refine j_iinc4 (nI (i + 1)) dX3_allWays_32 (nI_1 i) rfl (by decide) ?_
    refine j_goto 5 dX3_allWays_35 (by decide) ?_
    exact ih (i + 1) (by omega) (by omega)

set_option maxRecDepth 20000 in
theorem s_X3_allWays {A : Nat} (hA : A < 64) : Rt a mX3_allWays 0 [.ref (a 4), .int (nI A)] S (some (.long (lN (allW A)))) S := by
  show J _ _ _ _ 0 [_, _, .null, .null, .null] [] _
  refine j_lconst (1) dX3_allWays_0 rfl ?_
  refine j_lst2 dX3_allWays_1 rfl (by decide) ?_
  refine j_iconst (0) dX3_allWays_2 rfl ?_
  refine j_ist4 dX3_allWays_3 rfl (by decide) ?_
  exact lp_X3_allWays hA 7 0 (by omega) (by omega)

set_option maxRecDepth 20000 in
theorem s_X7_isSo_ok {x p : Int32} (h : TC n v S) (hk : tdOk 64 x ∧ prt p) : Rt a mX7_isSo 3 [.ref (a 0), .int x, .int p] S (some (.long (isV v x p))) S := by
  show J _ _ _ _ 0 [_, _, _, .null, .null, .null, .null, .null, .null] [] _
  obtain ⟨X, hX, rfl, e1, e2⟩ := td_nat (s := 64) (Or.inr rfl) hk.1
  have hcl : (nI X).toNatClampNeg = X := nI_clamp (by omega)
  have hm := Nat.mod_lt X (show 0 < 64 by decide)
  have hd := (Nat.div_lt_iff_lt_mul (x := X) (y := 64) (show 0 < 64 by decide)).mpr hX
  have h10 := h.b12 (w := 10) (i := 0) (by omega) (by omega)
  have w1 := soW_b (A := X % 64) (B := X / 64) h10 h.b8
  have w2 := noW_b (A := X % 64) (B := X / 64) h.b8
  refine j_ild1 dX7_isSo_0 ?_
  refine j_bipush (64) dX7_isSo_1 rfl ?_
  refine j_cS2 dX7_isSo_3 kX7_mayBeTold zX7_mayBeTold (Or.inl l7_181) (Nat.le_of_ble_eq_true rfl) (Nat.le_of_ble_eq_true rfl) (by omega) (s_X7_mayBeTold (by decide)) ?_
  refine j_ifeqB 17 dX7_isSo_6 (by decide) (fun c_6 => absurd c_6 (not_not_intro hk.1)) (fun c_6 => ?_)
  refine j_ild2 dX7_isSo_9 ?_
  refine j_iconst (2) dX7_isSo_10 rfl ?_
  refine j_cS2 dX7_isSo_11 kX7_within zX7_within (Or.inl l7_72) (Nat.le_of_ble_eq_true rfl) (Nat.le_of_ble_eq_true rfl) (by omega) (s_X7_within) ?_
  refine j_ifneB 21 dX7_isSo_14 (by decide) (fun c_14 => ?_) (fun c_14 => absurd (hk.2) c_14)
  refine j_ild1 dX7_isSo_21 ?_
  refine j_bipush (64) dX7_isSo_22 rfl ?_
  refine j_irem dX7_isSo_24 (by decide) ?_
  refine j_top (y := nI (X % 64)) (e2) ?_
  refine j_ist3 dX7_isSo_25 rfl (by decide) ?_
  refine j_ild1 dX7_isSo_26 ?_
  refine j_bipush (64) dX7_isSo_27 rfl ?_
  refine j_idiv dX7_isSo_29 (by decide) ?_
  refine j_top (y := nI (X / 64)) (e1) ?_
  refine j_ist4 dX7_isSo_30 rfl (by decide) ?_
  refine j_ald0 dX7_isSo_32 ?_
  refine j_getR (k := 0) (1) dX7_isSo_33 cX7_ok (Or.inl f7_12) rfl (by decide) (by decide) (by decide) rfl ?_
  refine j_getR (k := 0) (15) dX7_isSo_36 cX6_ok (Or.inr ⟨_, f7_107⟩) rfl (by decide) (by decide) (by decide) rfl ?_
  refine j_bipush (10) dX7_isSo_39 rfl ?_
  refine j_aald (n := 10) (26) dX7_isSo_41 (Or.inr rfl) (by decide) rfl (by decide) (by decide) rfl ?_
  refine j_iconst (0) dX7_isSo_42 rfl ?_
  refine j_iald (n := 0) dX7_isSo_43 rfl (by decide) rfl (by omega) (by decide) ?_
  refine j_top (y := nI (v 10 0)) (h.2.2.1 10 (by decide) 0 (by omega)) ?_
  refine j_i2l dX7_isSo_44 ?_
  refine j_topL (y := lN (v 10 0)) (nI_l (by omega)) ?_
  refine j_ald0 dX7_isSo_45 ?_
  refine j_getR (k := 3) (4) dX7_isSo_46 cX7_ok (Or.inl f7_35) rfl (by decide) (by decide) (by decide) rfl ?_
  refine j_ald0 dX7_isSo_49 ?_
  refine j_getR (k := 0) (1) dX7_isSo_50 cX7_ok (Or.inl f7_12) rfl (by decide) (by decide) (by decide) rfl ?_
  refine j_ild3 dX7_isSo_53 ?_
  refine j_ild4 dX7_isSo_54 ?_
  refine j_cV3 dX7_isSo_56 kX3_waysTheySay l7_203 rfl (by decide) rfl (Nat.le_of_ble_eq_true rfl) (Nat.le_of_ble_eq_true rfl) (by omega) (s_X3_waysTheySay h (by omega) (by omega)) ?_
  refine j_lmul dX7_isSo_59 ?_
  refine j_topL (y := lN (soW v (X % 64) (X / 64))) (lN_mul _ _) ?_
  refine j_lst5 dX7_isSo_60 rfl (by decide) ?_
  refine j_bipush (12) dX7_isSo_62 rfl ?_
  refine j_ald0 dX7_isSo_64 ?_
  refine j_getR (k := 0) (1) dX7_isSo_65 cX7_ok (Or.inl f7_12) rfl (by decide) (by decide) (by decide) rfl ?_
  refine j_getR (k := 0) (15) dX7_isSo_68 cX6_ok (Or.inr ⟨_, f7_107⟩) rfl (by decide) (by decide) (by decide) rfl ?_
  refine j_bipush (10) dX7_isSo_71 rfl ?_
  refine j_aald (n := 10) (26) dX7_isSo_73 (Or.inr rfl) (by decide) rfl (by decide) (by decide) rfl ?_
  refine j_iconst (0) dX7_isSo_74 rfl ?_
  refine j_iald (n := 0) dX7_isSo_75 rfl (by decide) rfl (by omega) (by decide) ?_
  refine j_top (y := nI (v 10 0)) (h.2.2.1 10 (by decide) 0 (by omega)) ?_
  refine j_isub dX7_isSo_76 ?_
  refine j_top (y := nI (12 - v 10 0)) (by exact pk_sub (a := 12) h10) ?_
  refine j_i2l dX7_isSo_77 ?_
  refine j_topL (y := lN (12 - v 10 0)) (nI_l (by omega)) ?_
  refine j_ald0 dX7_isSo_78 ?_
  refine j_getR (k := 3) (4) dX7_isSo_79 cX7_ok (Or.inl f7_35) rfl (by decide) (by decide) (by decide) rfl ?_
  refine j_ald0 dX7_isSo_82 ?_
  refine j_getR (k := 0) (1) dX7_isSo_83 cX7_ok (Or.inl f7_12) rfl (by decide) (by decide) (by decide) rfl ?_
  refine j_ild3 dX7_isSo_86 ?_
  refine j_ild3 dX7_isSo_87 ?_
  refine j_ild4 dX7_isSo_88 ?_
  refine j_iconst (-1) dX7_isSo_90 rfl ?_
  refine j_ixor dX7_isSo_91 ?_
  refine j_iand dX7_isSo_92 ?_
  refine j_top (y := nI (anN (X % 64) (X / 64))) (an_I (X % 64) (by omega) (X / 64) (by omega)) ?_
  refine j_cV3 dX7_isSo_93 kX3_waysTheySay l7_203 rfl (by decide) rfl (Nat.le_of_ble_eq_true rfl) (Nat.le_of_ble_eq_true rfl) (by omega) (s_X3_waysTheySay h (by omega) (by have := an_le (X := X % 64) (Y := X / 64); omega)) ?_
  refine j_lmul dX7_isSo_96 ?_
  refine j_topL (y := lN (noW v (X % 64) (X / 64))) (lN_mul _ _) ?_
  refine j_lst7 dX7_isSo_97 rfl (by decide) ?_
  refine j_lld5 dX7_isSo_99 ?_
  refine j_lld5 dX7_isSo_101 ?_
  refine j_lld7 dX7_isSo_103 ?_
  refine j_ladd dX7_isSo_105 ?_
  refine j_topL (y := lN (soW v (X % 64) (X / 64) + noW v (X % 64) (X / 64))) (lN_add _ _) ?_
  refine j_ild2 dX7_isSo_106 ?_
  refine j_cS3 dX7_isSo_107 kX7_lowest zX7_lowest (Or.inl l7_150) (Nat.le_of_ble_eq_true rfl) (Nat.le_of_ble_eq_true rfl) (by omega) (s_X7_lowest (by omega) (by omega)) ?_
  refine j_lret dX7_isSo_110 rfl ?_
  exact ⟨by rw [isV, hcl], rfl⟩

set_option maxRecDepth 20000 in
theorem s_X7_tooMany_ok {x p : Int32} (h : TC n v S) (hk : tmOk x p) : Rt a mX7_tooMany 2 [.ref (a 0), .int x, .int p] S (some (.long (tmV v x.toNatClampNeg p))) S := by
  show J _ _ _ _ 0 [_, _, _, .null, .null] [] _
  obtain ⟨X, hX, rfl⟩ := in_nI (n := 64) (by decide) hk.1
  have hcl : (nI X).toNatClampNeg = X := nI_clamp (by omega)
  have w1 := saW_b (A := X) (B := X) h.b8
  have w2 := saW_b (A := X) (B := 0) h.b8
  have w3 := allW_b (A := X)
  refine j_ild1 dX7_tooMany_0 ?_
  refine j_bipush (64) dX7_tooMany_1 rfl ?_
  refine j_cS2 dX7_tooMany_3 kX7_within zX7_within (Or.inl l7_72) (Nat.le_of_ble_eq_true rfl) (Nat.le_of_ble_eq_true rfl) (by omega) (s_X7_within) ?_
  refine j_ifeqB 17 dX7_tooMany_6 (by decide) (fun c_6 => absurd c_6 (not_not_intro hk.1)) (fun c_6 => ?_)
  refine j_ild2 dX7_tooMany_9 ?_
  refine j_iconst (2) dX7_tooMany_10 rfl ?_
  refine j_cS2 dX7_tooMany_11 kX7_within zX7_within (Or.inl l7_72) (Nat.le_of_ble_eq_true rfl) (Nat.le_of_ble_eq_true rfl) (by omega) (s_X7_within) ?_
  refine j_ifneB 21 dX7_tooMany_14 (by decide) (fun c_14 => ?_) (fun c_14 => absurd (hk.2) c_14)
  refine j_ild1 dX7_tooMany_21 ?_
  refine j_ifne 27 dX7_tooMany_22 (by decide) (fun c_22 => ?_) (fun c_22 => ?_)
  · refine j_ald0 dX7_tooMany_27 ?_
    refine j_getR (k := 3) (4) dX7_tooMany_28 cX7_ok (Or.inl f7_35) rfl (by decide) (by decide) (by decide) rfl ?_
    refine j_ald0 dX7_tooMany_31 ?_
    refine j_getR (k := 0) (1) dX7_tooMany_32 cX7_ok (Or.inl f7_12) rfl (by decide) (by decide) (by decide) rfl ?_
    refine j_ild1 dX7_tooMany_35 ?_
    refine j_ild1 dX7_tooMany_36 ?_
    refine j_cV3 dX7_tooMany_37 kX3_waysTheySay l7_203 rfl (by decide) rfl (Nat.le_of_ble_eq_true rfl) (Nat.le_of_ble_eq_true rfl) (by omega) (s_X3_waysTheySay h hX hX) ?_
    refine j_ald0 dX7_tooMany_40 ?_
    refine j_getR (k := 3) (4) dX7_tooMany_41 cX7_ok (Or.inl f7_35) rfl (by decide) (by decide) (by decide) rfl ?_
    refine j_ald0 dX7_tooMany_44 ?_
    refine j_getR (k := 0) (1) dX7_tooMany_45 cX7_ok (Or.inl f7_12) rfl (by decide) (by decide) (by decide) rfl ?_
    refine j_ild1 dX7_tooMany_48 ?_
    refine j_iconst (0) dX7_tooMany_49 rfl ?_
    refine j_cV3 dX7_tooMany_50 kX3_waysTheySay l7_203 rfl (by decide) rfl (Nat.le_of_ble_eq_true rfl) (Nat.le_of_ble_eq_true rfl) (by omega) (s_X3_waysTheySay (B := 0) h hX (by decide)) ?_
    refine j_ladd dX7_tooMany_53 ?_
    refine j_topL (y := lN (saW v X X + saW v X 0)) (lN_add _ _) ?_
    refine j_lst3 dX7_tooMany_54 rfl (by decide) ?_
    refine j_lld3 dX7_tooMany_55 ?_
    refine j_ald0 dX7_tooMany_56 ?_
    refine j_getR (k := 3) (4) dX7_tooMany_57 cX7_ok (Or.inl f7_35) rfl (by decide) (by decide) (by decide) rfl ?_
    refine j_ild1 dX7_tooMany_60 ?_
    refine j_cV1 dX7_tooMany_61 kX3_allWays l7_206 rfl (by decide) rfl (Nat.le_of_ble_eq_true rfl) (Nat.le_of_ble_eq_true rfl) (by omega) (s_X3_allWays hX) ?_
    refine j_ild2 dX7_tooMany_64 ?_
    refine j_cS3 dX7_tooMany_65 kX7_lowest zX7_lowest (Or.inl l7_150) (Nat.le_of_ble_eq_true rfl) (Nat.le_of_ble_eq_true rfl) (by omega) (s_X7_lowest (by omega) (by omega)) ?_
    refine j_lret dX7_tooMany_68 rfl ?_
    exact ⟨by rw [tmV, hcl, if_neg (fun z => c_22 (by rw [z]; rfl))], rfl⟩
  refine j_lconst (1) dX7_tooMany_25 rfl ?_
  refine j_lret dX7_tooMany_26 rfl ?_
  exact ⟨by rw [tmV, hcl, if_pos ((nI_eq (a := X) (b := 0) (by omega) (by decide)).mp (Classical.not_not.mp c_22))], rfl⟩

end Say

