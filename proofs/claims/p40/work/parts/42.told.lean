/-! tests and witnesses told: both sides -/
section Told
variable {a : Nat → Nat} {S : St} {n : Nat} {v : Nat → Nat → Nat}
theorem TC.b12 (h : TC n v S) {w i : Nat} (hw : w = 5 ∨ w = 6 ∨ w = 8 ∨ w = 10) (hi : i < 8) : v w i ≤ 12 := by rcases hw with rfl | rfl | rfl | rfl <;> exact h.2.2.2 _ (by decide) i hi
theorem TC.c99 (h : TC n v S) : v 9 0 ≤ 99 := h.2.2.2 9 (by decide) 0 (by decide)
set_option maxRecDepth 20000 in
theorem lp_X3_waysRight (h : TC n v S) {w : Nat} (hw : w < 12) (hf : ∀ i, i < 4 → v w i ≤ 12) {A B : Nat} (hA : A < 2 ^ 31) (hB : B < 2 ^ 31) : ∀ (fu : Nat) (i : Nat), 4 - i < fu → (i ≤ 4) → J a mX3_waysRight 0 (gm a fun r S' => r = some (.long (lN (prodN (wrf (v w) A B) 4))) ∧ S' = S) 5 [.ref (a (16 + w)), .int (nI A), .int (nI B), .long (lN (prodN (wrf (v w) A B) i)), .null, .int (nI i)] [] S := by
  intro fu
  induction fu with
  | zero => intro i hk; exact absurd hk (Nat.not_lt_zero _)
  | succ fu ih =>
    intro i hk hi
    refine j_ild5 dX3_waysRight_5 ?_
    refine j_iconst (4) dX3_waysRight_7 rfl ?_
    refine j_icmpge 56 dX3_waysRight_8 (by decide) (fun c_8 => ?_) (fun c_8 => ?_)
    · have q_8 : i = 4 := by have := (nI_leI (a := 4) (b := i) (by decide) (by omega)).mp c_8; omega
      subst q_8
      refine j_lld3 dX3_waysRight_56 ?_
      refine j_lret dX3_waysRight_57 rfl ?_
      exact ⟨rfl, rfl⟩
    have q_8 : i < 4 := Nat.not_le.mp (fun z => c_8 ((nI_leI (a := 4) (b := i) (by decide) (by omega)).mpr z))
    have f12 := hf i q_8
    refine j_ild1 dX3_waysRight_11 ?_
    refine j_ild5 dX3_waysRight_12 ?_
    refine j_ishr dX3_waysRight_14 ?_
    refine j_iconst (1) dX3_waysRight_15 rfl ?_
    refine j_iand dX3_waysRight_16 ?_
    refine j_top (y := nI (bt (A) (i))) (sh_bit (X := A) (i := i) (by omega) (by omega)) ?_
    refine j_iconst (1) dX3_waysRight_17 rfl ?_
    refine j_icmpne 50 dX3_waysRight_18 (by decide) (fun c_18 => ?_) (fun c_18 => ?_)
    · have q_18 : ¬ bt (A) (i) = 1 := fun z => c_18 (by rw [z]; rfl)
      refine j_iinc5 (nI (i + 1)) dX3_waysRight_50 (nI_1 i) rfl (by decide) ?_
      refine j_goto 5 dX3_waysRight_53 (by decide) ?_
      have e : prodN (wrf (v w) A B) (i + 1) = prodN (wrf (v w) A B) i := by rw [prodN, wrf, if_neg q_18, Nat.mul_one]
      rw [← e]
      exact ih (i + 1) (by omega) (by omega)
    have q_18 : bt (A) (i) = 1 := (nI_eq (a := bt (A) (i)) (b := 1) (by have := bt_2 (A) (i); omega) (by decide)).mp (Classical.not_not.mp c_18)
    refine j_lld3 dX3_waysRight_21 ?_
    refine j_ild2 dX3_waysRight_22 ?_
    refine j_ild5 dX3_waysRight_23 ?_
    refine j_ishr dX3_waysRight_25 ?_
    refine j_iconst (1) dX3_waysRight_26 rfl ?_
    refine j_iand dX3_waysRight_27 ?_
    refine j_top (y := nI (bt (B) (i))) (sh_bit (X := B) (i := i) (by omega) (by omega)) ?_
    refine j_iconst (1) dX3_waysRight_28 rfl ?_
    refine j_icmpne 40 dX3_waysRight_29 (by decide) (fun c_29 => ?_) (fun c_29 => ?_)
    · have q_29 : ¬ bt (B) (i) = 1 := fun z => c_29 (by rw [z]; rfl)
      refine j_bipush (12) dX3_waysRight_40 rfl ?_
      refine j_ald0 dX3_waysRight_42 ?_
      refine j_ild5 dX3_waysRight_43 ?_
      refine j_iald (n := i) dX3_waysRight_45 (ck_vr hw) (by omega) rfl (by omega) (by decide) ?_
      refine j_top (y := nI (v w i)) (h.2.2.1 w hw i (by omega)) ?_
      refine j_isub dX3_waysRight_46 ?_
      refine j_top (y := nI (12 - v w i)) (by exact pk_sub (a := 12) f12) ?_
      refine j_i2l dX3_waysRight_47 ?_
      refine j_topL (y := lN (12 - v w i)) (nI_l (by omega)) ?_
      refine j_lmul dX3_waysRight_48 ?_
      refine j_topL (y := lN (prodN (wrf (v w) A B) (i + 1))) (by rw [lN_mul, prodN, wrf, if_pos q_18, if_neg q_29]) ?_
      refine j_lst3 dX3_waysRight_49 rfl (by decide) ?_
      refine j_iinc5 (nI (i + 1)) dX3_waysRight_50 (nI_1 i) rfl (by decide) ?_
      refine j_goto 5 dX3_waysRight_53 (by decide) ?_
      exact ih (i + 1) (by omega) (by omega)
    have q_29 : bt (B) (i) = 1 := (nI_eq (a := bt (B) (i)) (b := 1) (by have := bt_2 (B) (i); omega) (by decide)).mp (Classical.not_not.mp c_29)
    refine j_ald0 dX3_waysRight_32 ?_
    refine j_ild5 dX3_waysRight_33 ?_
    refine j_iald (n := i) dX3_waysRight_35 (ck_vr hw) (by omega) rfl (by omega) (by decide) ?_
    refine j_top (y := nI (v w i)) (h.2.2.1 w hw i (by omega)) ?_
    refine j_i2l dX3_waysRight_36 ?_
    refine j_topL (y := lN (v w i)) (nI_l (by omega)) ?_
    refine j_goto 48 dX3_waysRight_37 (by decide) ?_
    refine j_lmul dX3_waysRight_48 ?_
    refine j_topL (y := lN (prodN (wrf (v w) A B) (i + 1))) (by rw [lN_mul, prodN, wrf, if_pos q_18, if_pos q_29]) ?_
    refine j_lst3 dX3_waysRight_49 rfl (by decide) ?_
    refine j_iinc5 (nI (i + 1)) dX3_waysRight_50 (nI_1 i) rfl (by decide) ?_
    refine j_goto 5 dX3_waysRight_53 (by decide) ?_
    exact ih (i + 1) (by omega) (by omega)

set_option maxRecDepth 20000 in
theorem s_X3_waysRight {w A B : Nat} (h : TC n v S) (hw : w < 12) (hf : ∀ i, i < 4 → v w i ≤ 12) (hA : A < 2 ^ 31) (hB : B < 2 ^ 31) : Rt a mX3_waysRight 0 [.ref (a (16 + w)), .int (nI A), .int (nI B)] S (some (.long (lN (prodN (wrf (v w) A B) 4)))) S := by
  show J _ _ _ _ 0 [_, _, _, .null, .null, .null] [] _
  refine j_lconst (1) dX3_waysRight_0 rfl ?_
  refine j_lst3 dX3_waysRight_1 rfl (by decide) ?_
  refine j_iconst (0) dX3_waysRight_2 rfl ?_
  refine j_ist5 dX3_waysRight_3 rfl (by decide) ?_
  exact lp_X3_waysRight h hw hf hA hB 5 0 (by omega) (by omega)

def illW (v : Nat → Nat → Nat) (A B : Nat) : Nat := v 9 0 * prodN (wrf (v 5) A B) 4
def welW (v : Nat → Nat → Nat) (A B : Nat) : Nat := (100 - v 9 0) * prodN (wrf (v 6) A (anN A B)) 4
theorem wr_b {f : Nat → Nat} {A B : Nat} (h : ∀ i, i < 4 → f i ≤ 12) : prodN (wrf f A B) 4 ≤ 12 ^ 4 := prodN_le 4 (fun k hk => wrf_le (h k hk))
theorem illW_b {v : Nat → Nat → Nat} {A B : Nat} (h9 : v 9 0 ≤ 99) (h : ∀ i, i < 4 → v 5 i ≤ 12) : illW v A B ≤ 100 * 12 ^ 4 := Nat.mul_le_mul (by omega) (wr_b h)
theorem welW_b {v : Nat → Nat → Nat} {A B : Nat} (h : ∀ i, i < 4 → v 6 i ≤ 12) : welW v A B ≤ 100 * 12 ^ 4 := Nat.mul_le_mul (by omega) (wr_b h)
set_option maxRecDepth 20000 in
theorem s_X3_waysIll {A B : Nat} (h : TC n v S) (hA : A < 2 ^ 31) (hB : B < 2 ^ 31) : Rt a mX3_waysIll 1 [.ref (a 4), .ref (a 1), .int (nI A), .int (nI B)] S (some (.long (lN (illW v A B)))) S := by
  show J _ _ _ _ 0 [_, _, _, _] [] _
  refine j_ald1 dX3_waysIll_0 ?_
  refine j_getR (k := 0) (15) dX3_waysIll_1 cX6_ok (Or.inr ⟨_, f3_21⟩) rfl (by decide) (by decide) (by decide) rfl ?_
  refine j_bipush (9) dX3_waysIll_4 rfl ?_
  refine j_aald (n := 9) (25) dX3_waysIll_6 (Or.inr rfl) (by decide) rfl (by decide) (by decide) rfl ?_
  refine j_iconst (0) dX3_waysIll_7 rfl ?_
  refine j_iald (n := 0) dX3_waysIll_8 rfl (by decide) rfl (by omega) (by decide) ?_
  refine j_top (y := nI (v 9 0)) (h.2.2.1 9 (by decide) 0 (by omega)) ?_
  refine j_i2l dX3_waysIll_9 ?_
  refine j_topL (y := lN (v 9 0)) (nI_l (by have := h.c99; omega)) ?_
  refine j_ald1 dX3_waysIll_10 ?_
  refine j_getR (k := 0) (15) dX3_waysIll_11 cX6_ok (Or.inr ⟨_, f3_21⟩) rfl (by decide) (by decide) (by decide) rfl ?_
  refine j_iconst (5) dX3_waysIll_14 rfl ?_
  refine j_aald (n := 5) (21) dX3_waysIll_15 (Or.inr rfl) (by decide) rfl (by decide) (by decide) rfl ?_
  refine j_ild2 dX3_waysIll_16 ?_
  refine j_ild3 dX3_waysIll_17 ?_
  refine j_cS3 dX3_waysIll_18 kX3_waysRight zX3_waysRight (Or.inl l3_27) (Nat.le_of_ble_eq_true rfl) (Nat.le_of_ble_eq_true rfl) (by omega) (s_X3_waysRight (w := 5) h (by decide) (fun i hi => h.b12 (by omega) (by omega)) hA hB) ?_
  refine j_lmul dX3_waysIll_21 ?_
  refine j_topL (y := lN (illW v A B)) (lN_mul _ _) ?_
  refine j_lret dX3_waysIll_22 rfl ?_
  exact ⟨rfl, rfl⟩

set_option maxRecDepth 20000 in
theorem s_X3_waysWell {A B : Nat} (h : TC n v S) (hA : A < 64) (hB : B < 64) : Rt a mX3_waysWell 1 [.ref (a 4), .ref (a 1), .int (nI A), .int (nI B)] S (some (.long (lN (welW v A B)))) S := by
  show J _ _ _ _ 0 [_, _, _, _] [] _
  refine j_bipush (100) dX3_waysWell_0 rfl ?_
  refine j_ald1 dX3_waysWell_2 ?_
  refine j_getR (k := 0) (15) dX3_waysWell_3 cX6_ok (Or.inr ⟨_, f3_21⟩) rfl (by decide) (by decide) (by decide) rfl ?_
  refine j_bipush (9) dX3_waysWell_6 rfl ?_
  refine j_aald (n := 9) (25) dX3_waysWell_8 (Or.inr rfl) (by decide) rfl (by decide) (by decide) rfl ?_
  refine j_iconst (0) dX3_waysWell_9 rfl ?_
  refine j_iald (n := 0) dX3_waysWell_10 rfl (by decide) rfl (by omega) (by decide) ?_
  refine j_top (y := nI (v 9 0)) (h.2.2.1 9 (by decide) 0 (by omega)) ?_
  refine j_isub dX3_waysWell_11 ?_
  refine j_top (y := nI (100 - v 9 0)) (by exact pk_sub (a := 100) (b := v 9 0) (by have := h.c99; omega)) ?_
  refine j_i2l dX3_waysWell_12 ?_
  refine j_topL (y := lN (100 - v 9 0)) (nI_l (by omega)) ?_
  refine j_ald1 dX3_waysWell_13 ?_
  refine j_getR (k := 0) (15) dX3_waysWell_14 cX6_ok (Or.inr ⟨_, f3_21⟩) rfl (by decide) (by decide) (by decide) rfl ?_
  refine j_bipush (6) dX3_waysWell_17 rfl ?_
  refine j_aald (n := 6) (22) dX3_waysWell_19 (Or.inr rfl) (by decide) rfl (by decide) (by decide) rfl ?_
  refine j_ild2 dX3_waysWell_20 ?_
  refine j_ild2 dX3_waysWell_21 ?_
  refine j_ild3 dX3_waysWell_22 ?_
  refine j_iconst (-1) dX3_waysWell_23 rfl ?_
  refine j_ixor dX3_waysWell_24 ?_
  refine j_iand dX3_waysWell_25 ?_
  refine j_top (y := nI (anN A B)) (an_I A (by omega) B (by omega)) ?_
  refine j_cS3 dX3_waysWell_26 kX3_waysRight zX3_waysRight (Or.inl l3_27) (Nat.le_of_ble_eq_true rfl) (Nat.le_of_ble_eq_true rfl) (by omega) (s_X3_waysRight (w := 6) h (by decide) (fun i hi => h.b12 (by omega) (by omega)) (by omega) (by have := an_le (X := A) (Y := B); omega)) ?_
  refine j_lmul dX3_waysWell_29 ?_
  refine j_topL (y := lN (welW v A B)) (lN_mul _ _) ?_
  refine j_lret dX3_waysWell_30 rfl ?_
  exact ⟨rfl, rfl⟩

abbrev tdOk (s x : Int32) : Prop := 0 ≤ x ∧ x / s < s ∧ (x / s) &&& ((x - x / s * s) ^^^ (-1)) = 0
set_option maxRecDepth 20000 in
theorem s_X7_mayBeTold {x s : Int32} (hs : ¬ s = 0) : Rt a mX7_mayBeTold 0 [.int x, .int s] S (some (.int (bi (tdOk s x)))) S := by
  show J _ _ _ _ 0 [_, _] [] _
  refine j_ild0 dX7_mayBeTold_0 ?_
  refine j_iflt 27 dX7_mayBeTold_1 (by decide) (fun c_1 => ?_) (fun c_1 => ?_)
  · refine j_iconst (0) dX7_mayBeTold_27 rfl ?_
    refine j_zret dX7_mayBeTold_28 rfl (by decide) ?_
    exact ⟨by rw [bi_f (fun q => absurd c_1 (Int32.not_lt.mpr q.1))], rfl⟩
  refine j_ild0 dX7_mayBeTold_4 ?_
  refine j_ild1 dX7_mayBeTold_5 ?_
  refine j_idiv dX7_mayBeTold_6 hs ?_
  refine j_ild1 dX7_mayBeTold_7 ?_
  refine j_icmpge 27 dX7_mayBeTold_8 (by decide) (fun c_8 => ?_) (fun c_8 => ?_)
  · refine j_iconst (0) dX7_mayBeTold_27 rfl ?_
    refine j_zret dX7_mayBeTold_28 rfl (by decide) ?_
    exact ⟨by rw [bi_f (fun q => absurd c_8 (Int32.not_le.mpr q.2.1))], rfl⟩
  refine j_ild0 dX7_mayBeTold_11 ?_
  refine j_ild1 dX7_mayBeTold_12 ?_
  refine j_idiv dX7_mayBeTold_13 hs ?_
  refine j_ild0 dX7_mayBeTold_14 ?_
  refine j_ild1 dX7_mayBeTold_15 ?_
  refine j_irem dX7_mayBeTold_16 hs ?_
  refine j_iconst (-1) dX7_mayBeTold_17 rfl ?_
  refine j_ixor dX7_mayBeTold_18 ?_
  refine j_iand dX7_mayBeTold_19 ?_
  refine j_ifne 27 dX7_mayBeTold_20 (by decide) (fun c_20 => ?_) (fun c_20 => ?_)
  · refine j_iconst (0) dX7_mayBeTold_27 rfl ?_
    refine j_zret dX7_mayBeTold_28 rfl (by decide) ?_
    exact ⟨by rw [bi_f (fun q => c_20 q.2.2)], rfl⟩
  refine j_iconst (1) dX7_mayBeTold_23 rfl ?_
  refine j_goto 28 dX7_mayBeTold_24 (by decide) ?_
  refine j_zret dX7_mayBeTold_28 rfl (by decide) ?_
  exact ⟨by rw [bi_t ⟨Int32.not_lt.mp c_1, Int32.not_le.mp c_8, Classical.not_not.mp c_20⟩], rfl⟩

theorem td_nat {s : Nat} {x : Int32} (hs : s = 16 ∨ s = 64) (h : tdOk (nI s) x) : ∃ X, X < s * s ∧ x = nI X ∧ x / nI s = nI (X / s) ∧ x - x / nI s * nI s = nI (X % s) := by
  obtain ⟨X, hX, rfl⟩ := nI_ge0 h.1
  have hs0 : 0 < s := by omega
  have e1 := pk_div (a := X) (d := s) hX hs0 (by omega)
  refine ⟨X, ?_, rfl, e1, pk_rem (a := X) (d := s) hX hs0 (by omega)⟩
  have h2 := h.2.1
  rw [e1] at h2
  have h3 := (nI_ltI (a := X / s) (b := s) (Nat.lt_of_le_of_lt (Nat.div_le_self _ _) hX) (by omega)).mp h2
  exact (Nat.div_lt_iff_lt_mul hs0).mp h3
def ilV (v : Nat → Nat → Nat) (x p : Int32) : Int64 := lowV (illW v (x.toNatClampNeg % 16) (x.toNatClampNeg / 16)) (illW v (x.toNatClampNeg % 16) (x.toNatClampNeg / 16) + welW v (x.toNatClampNeg % 16) (x.toNatClampNeg / 16)) p
set_option maxRecDepth 20000 in
theorem s_X7_ill_ok {x p : Int32} (h : TC n v S) (hk : tdOk 16 x ∧ prt p) : Rt a mX7_ill 3 [.ref (a 0), .int x, .int p] S (some (.long (ilV v x p))) S := by
  show J _ _ _ _ 0 [_, _, _, .null, .null, .null, .null] [] _
  obtain ⟨X, hX, rfl, e1, e2⟩ := td_nat (s := 16) (Or.inl rfl) hk.1
  have hcl : (nI X).toNatClampNeg = X := nI_clamp (by omega)
  have hm := Nat.mod_lt X (show 0 < 16 by decide)
  have hd := (Nat.div_lt_iff_lt_mul (x := X) (y := 16) (show 0 < 16 by decide)).mpr hX
  have w1 := illW_b (A := X % 16) (B := X / 16) h.c99 (fun i hi => h.b12 (w := 5) (by omega) (by omega))
  have w2 := welW_b (A := X % 16) (B := X / 16) (fun i hi => h.b12 (w := 6) (by omega) (by omega))
  refine j_ild1 dX7_ill_0 ?_
  refine j_bipush (16) dX7_ill_1 rfl ?_
  refine j_cS2 dX7_ill_3 kX7_mayBeTold zX7_mayBeTold (Or.inl l7_181) (Nat.le_of_ble_eq_true rfl) (Nat.le_of_ble_eq_true rfl) (by omega) (s_X7_mayBeTold (by decide)) ?_
  refine j_ifeqB 17 dX7_ill_6 (by decide) (fun c_6 => absurd c_6 (not_not_intro hk.1)) (fun c_6 => ?_)
  refine j_ild2 dX7_ill_9 ?_
  refine j_iconst (2) dX7_ill_10 rfl ?_
  refine j_cS2 dX7_ill_11 kX7_within zX7_within (Or.inl l7_72) (Nat.le_of_ble_eq_true rfl) (Nat.le_of_ble_eq_true rfl) (by omega) (s_X7_within) ?_
  refine j_ifneB 21 dX7_ill_14 (by decide) (fun c_14 => ?_) (fun c_14 => absurd (hk.2) c_14)
  refine j_ild1 dX7_ill_21 ?_
  refine j_bipush (16) dX7_ill_22 rfl ?_
  refine j_irem dX7_ill_24 (by decide) ?_
  refine j_top (y := nI (X % 16)) (e2) ?_
  refine j_ist3 dX7_ill_25 rfl (by decide) ?_
  refine j_ild1 dX7_ill_26 ?_
  refine j_bipush (16) dX7_ill_27 rfl ?_
  refine j_idiv dX7_ill_29 (by decide) ?_
  refine j_top (y := nI (X / 16)) (e1) ?_
  refine j_ist4 dX7_ill_30 rfl (by decide) ?_
  refine j_ald0 dX7_ill_32 ?_
  refine j_getR (k := 3) (4) dX7_ill_33 cX7_ok (Or.inl f7_35) rfl (by decide) (by decide) (by decide) rfl ?_
  refine j_ald0 dX7_ill_36 ?_
  refine j_getR (k := 0) (1) dX7_ill_37 cX7_ok (Or.inl f7_12) rfl (by decide) (by decide) (by decide) rfl ?_
  refine j_ild3 dX7_ill_40 ?_
  refine j_ild4 dX7_ill_41 ?_
  refine j_cV3 dX7_ill_43 kX3_waysIll l7_184 rfl (by decide) rfl (Nat.le_of_ble_eq_true rfl) (Nat.le_of_ble_eq_true rfl) (by omega) (s_X3_waysIll h (by omega) (by omega)) ?_
  refine j_lst5 dX7_ill_46 rfl (by decide) ?_
  refine j_lld5 dX7_ill_48 ?_
  refine j_lld5 dX7_ill_50 ?_
  refine j_ald0 dX7_ill_52 ?_
  refine j_getR (k := 3) (4) dX7_ill_53 cX7_ok (Or.inl f7_35) rfl (by decide) (by decide) (by decide) rfl ?_
  refine j_ald0 dX7_ill_56 ?_
  refine j_getR (k := 0) (1) dX7_ill_57 cX7_ok (Or.inl f7_12) rfl (by decide) (by decide) (by decide) rfl ?_
  refine j_ild3 dX7_ill_60 ?_
  refine j_ild4 dX7_ill_61 ?_
  refine j_cV3 dX7_ill_63 kX3_waysWell l7_187 rfl (by decide) rfl (Nat.le_of_ble_eq_true rfl) (Nat.le_of_ble_eq_true rfl) (by omega) (s_X3_waysWell h (by omega) (by omega)) ?_
  refine j_ladd dX7_ill_66 ?_
  refine j_topL (y := lN (illW v (X % 16) (X / 16) + welW v (X % 16) (X / 16))) (lN_add _ _) ?_
  refine j_ild2 dX7_ill_67 ?_
  refine j_cS3 dX7_ill_68 kX7_lowest zX7_lowest (Or.inl l7_150) (Nat.le_of_ble_eq_true rfl) (Nat.le_of_ble_eq_true rfl) (by omega) (s_X7_lowest (by omega) (by omega)) ?_
  refine j_lret dX7_ill_71 rfl ?_
  exact ⟨by rw [ilV, hcl], rfl⟩

end Told

