/-! shown, which, again: both sides -/
section Shown
variable {a : Nat → Nat} {S : St} {n : Nat} {v : Nat → Nat → Nat} {b : Option (List Line)}
def hatN (v : Nat → Nat → Nat) (n : Nat) : Nat := sumN (v 0) n
abbrev shOk2 (x p : Int32) : Prop := (0 ≤ x ∧ x < 6) ∧ prt p
def shnV (v : Nat → Nat → Nat) (b : Option (List Line)) (n c : Nat) (p : Int32) : Int64 := lowV (lkA v b n c 1) (60 * hatN v n) p
/-- ten times a colour, and how often -/
abbrev ckOk (x : Int32) : Prop := 0 ≤ x ∧ (x / 10 < 6) ∧ 1 ≤ x - x / 10 * 10 ∧ x - x / 10 * 10 ≤ 4
theorem ck_nat {x : Int32} (h : ckOk x) : ∃ c k, c < 6 ∧ 1 ≤ k ∧ k ≤ 4 ∧ x / 10 = nI c ∧ x - x / 10 * 10 = nI k ∧ x.toNatClampNeg / 10 = c ∧ x.toNatClampNeg % 10 = k := by
  obtain ⟨X, hX, rfl⟩ := nI_ge0 h.1
  have e1 : nI X / 10 = nI (X / 10) := pk_div (a := X) (d := 10) hX (by decide) (by decide)
  have e2 : nI X - nI X / 10 * 10 = nI (X % 10) := pk_rem (a := X) (d := 10) hX (by decide) (by decide)
  have hm := Nat.mod_lt X (show 0 < 10 by decide)
  have h2 := h.2.1
  have h3 := h.2.2.1
  have h4 := h.2.2.2
  rw [e1] at h2
  rw [e2] at h3 h4
  have a2 := (nI_ltI (a := X / 10) (b := 6) (by omega) (by decide)).mp h2
  have a3 := (nI_leI (a := 1) (b := X % 10) (by decide) (by omega)).mp h3
  have a4 := (nI_leI (a := X % 10) (b := 4) (by omega) (by decide)).mp h4
  exact ⟨X / 10, X % 10, a2, a3, a4, e1, e2, by rw [nI_clamp hX], by rw [nI_clamp hX]⟩
def agV (v : Nat → Nat → Nat) (b : Option (List Line)) (n : Nat) (x p : Int32) : Int64 := lowV (lkA v b n (x.toNatClampNeg / 10) (x.toNatClampNeg % 10 + 1)) (lkA v b n (x.toNatClampNeg / 10) (x.toNatClampNeg % 10) * 60) p
def whV (v : Nat → Nat → Nat) (b : Option (List Line)) (n : Nat) (i x p : Int32) : Int64 := lowV (lkO v b i.toNatClampNeg (x.toNatClampNeg / 10) (x.toNatClampNeg % 10)) (lkA v b n (x.toNatClampNeg / 10) (x.toNatClampNeg % 10)) p
theorem lkA_62 {c k : Nat} (h : ∀ w, w < 12 → ∀ i, i < 8 → v w i ≤ mostN w) (hn : n ≤ 8) (hk : k ≤ 5) : lkA v b n c k ≤ 8 * (9 * 60 ^ 5) := Nat.le_trans (lkA_le h hn hk) (Nat.mul_le_mul_right _ hn)

set_option maxRecDepth 20000 in
theorem s_X8_shows {i c : Nat} (h : TR n v S) (hw : WRq v b n S) (hi : i < n) (hc : c < 2 ^ 31) : Rt a mX8_shows 1 [.ref (a 61), .int (nI i), .int (nI c)] S (some (.long (lN (pC v b i c)))) S := by
  show J _ _ _ _ 0 [_, _, _] [] _
  have hn8 := h.2.1
  have hi8 : i < 8 := by omega
  have b1 := h.2.2.2 1 (by decide) i hi8
  have b2 := h.2.2.2 2 (by decide) i hi8
  rw [show mostN 1 = 5 from rfl] at b1
  rw [show mostN 2 = 5 from rfl] at b2
  have w0 := wtN_le v b i 0
  have w1 := wtN_le v b i 1
  have w2 := wtN_sum v b i
  have e60 : ((if v 1 i = c then wtN v b i 0 else 0) + (if v 2 i = c then wtN v b i 1 else 0)) * 60 / (wtN v b i 0 + wtN v b i 1) = pC v b i c := by
    rw [part60 w2 (by omega), Nat.mul_add, pC, pS, pS]
    congr 1 <;> split <;> simp
  have hx6 : (if v 1 i = c then wtN v b i 0 else 0) + (if v 2 i = c then wtN v b i 1 else 0) ≤ 6 := by split <;> split <;> omega
  refine j_ald0 dX8_shows_0 ?_
  refine j_getR (k := 3) (63) dX8_shows_1 cX8_ok (Or.inl f8_15) rfl (by decide) (by decide) (by decide) rfl ?_
  refine j_ild1 dX8_shows_4 ?_
  refine j_iald (n := i) dX8_shows_5 rfl (by decide) rfl (by omega) (by decide) ?_
  refine j_top (y := nI (v 1 i)) (h.first hi8) ?_
  refine j_ild2 dX8_shows_6 ?_
  refine j_icmpne 21 dX8_shows_7 (by decide) (fun c_7 => ?_) (fun c_7 => ?_)
  · have q_7 : ¬ v 1 i = c := fun z => c_7 (by rw [z])
    refine j_iconst (0) dX8_shows_21 rfl ?_
    refine j_ald0 dX8_shows_22 ?_
    refine j_getR (k := 4) (64) dX8_shows_23 cX8_ok (Or.inl f8_18) rfl (by decide) (by decide) (by decide) rfl ?_
    refine j_ild1 dX8_shows_26 ?_
    refine j_iald (n := i) dX8_shows_27 rfl (by decide) rfl (by omega) (by decide) ?_
    refine j_top (y := nI (v 2 i)) (h.second hi8) ?_
    refine j_ild2 dX8_shows_28 ?_
    refine j_icmpne 45 dX8_shows_29 (by decide) (fun c_29 => ?_) (fun c_29 => ?_)
    · have q_29 : ¬ v 2 i = c := fun z => c_29 (by rw [z])
      refine j_iconst (0) dX8_shows_45 rfl ?_
      refine j_iadd dX8_shows_46 ?_
      refine j_top (y := nI ((if v 1 i = c then wtN v b i 0 else 0) + (if v 2 i = c then wtN v b i 1 else 0))) (by rw [if_neg q_7, if_neg q_29]; exact nI_add 0 0) ?_
      refine j_i2l dX8_shows_47 ?_
      refine j_topL (y := lN ((if v 1 i = c then wtN v b i 0 else 0) + (if v 2 i = c then wtN v b i 1 else 0))) (nI_l (by omega)) ?_
      refine j_ldc2_w (v := 60) dX8_shows_48 q8_278 ?_
      refine j_lmul dX8_shows_51 ?_
      refine j_topL (y := lN (((if v 1 i = c then wtN v b i 0 else 0) + (if v 2 i = c then wtN v b i 1 else 0)) * 60)) (lN_mul _ 60) ?_
      refine j_ald0 dX8_shows_52 ?_
      refine j_ild1 dX8_shows_53 ?_
      refine j_cV1 dX8_shows_54 kX8_sumOf l8_280 rfl (by decide) rfl (Nat.le_of_ble_eq_true rfl) (Nat.le_of_ble_eq_true rfl) (by omega) (s_X8_sumOf hw hn8 hi) ?_
      refine j_i2l dX8_shows_57 ?_
      refine j_topL (y := lN (wtN v b i 0 + wtN v b i 1)) (nI_l (by omega)) ?_
      refine j_ldiv dX8_shows_58 (fun z => absurd ((lN_eq0 (by omega)).mp z) (by omega)) ?_
      refine j_topL (y := lN (pC v b i c)) (by rw [pk_lDiv (by omega) (by omega) (by omega), e60]) ?_
      refine j_lret dX8_shows_59 rfl ?_
      exact ⟨rfl, rfl⟩
    have q_29 : v 2 i = c := (nI_eq (by omega) (by omega)).mp (Classical.not_not.mp c_29)
    refine j_ald0 dX8_shows_32 ?_
    refine j_getR (k := 37) (86) dX8_shows_33 cX8_ok (Or.inl f8_96) rfl (by decide) (by decide) (by decide) rfl ?_
    refine j_iconst (2) dX8_shows_36 rfl ?_
    refine j_ild1 dX8_shows_37 ?_
    refine j_imul dX8_shows_38 ?_
    refine j_top (y := nI (2 * i)) (by exact pk_mul 2 i) ?_
    refine j_iconst (1) dX8_shows_39 rfl ?_
    refine j_iadd dX8_shows_40 ?_
    refine j_top (y := nI (2 * i + 1)) (nI_1 _) ?_
    refine j_iald (n := (2 * i + 1)) dX8_shows_41 rfl (by decide) rfl (by omega) (by decide) ?_
    refine j_top (y := nI (wtN v b i 1)) (hw i hi).2 ?_
    refine j_goto 46 dX8_shows_42 (by decide) ?_
    refine j_iadd dX8_shows_46 ?_
    refine j_top (y := nI ((if v 1 i = c then wtN v b i 0 else 0) + (if v 2 i = c then wtN v b i 1 else 0))) (by rw [if_neg q_7, if_pos q_29]; exact nI_add 0 (wtN v b i 1)) ?_
    refine j_i2l dX8_shows_47 ?_
    refine j_topL (y := lN ((if v 1 i = c then wtN v b i 0 else 0) + (if v 2 i = c then wtN v b i 1 else 0))) (nI_l (by omega)) ?_
    refine j_ldc2_w (v := 60) dX8_shows_48 q8_278 ?_
    refine j_lmul dX8_shows_51 ?_
    refine j_topL (y := lN (((if v 1 i = c then wtN v b i 0 else 0) + (if v 2 i = c then wtN v b i 1 else 0)) * 60)) (lN_mul _ 60) ?_
    refine j_ald0 dX8_shows_52 ?_
    refine j_ild1 dX8_shows_53 ?_
    refine j_cV1 dX8_shows_54 kX8_sumOf l8_280 rfl (by decide) rfl (Nat.le_of_ble_eq_true rfl) (Nat.le_of_ble_eq_true rfl) (by omega) (s_X8_sumOf hw hn8 hi) ?_
    refine j_i2l dX8_shows_57 ?_
    refine j_topL (y := lN (wtN v b i 0 + wtN v b i 1)) (nI_l (by omega)) ?_
    refine j_ldiv dX8_shows_58 (fun z => absurd ((lN_eq0 (by omega)).mp z) (by omega)) ?_
    refine j_topL (y := lN (pC v b i c)) (by rw [pk_lDiv (by omega) (by omega) (by omega), e60]) ?_
    refine j_lret dX8_shows_59 rfl ?_
    exact ⟨rfl, rfl⟩
  have q_7 : v 1 i = c := (nI_eq (by omega) (by omega)).mp (Classical.not_not.mp c_7)
  refine j_ald0 dX8_shows_10 ?_
  refine j_getR (k := 37) (86) dX8_shows_11 cX8_ok (Or.inl f8_96) rfl (by decide) (by decide) (by decide) rfl ?_
  refine j_iconst (2) dX8_shows_14 rfl ?_
  refine j_ild1 dX8_shows_15 ?_
  refine j_imul dX8_shows_16 ?_
  refine j_top (y := nI (2 * i)) (by exact pk_mul 2 i) ?_
  refine j_iald (n := (2 * i)) dX8_shows_17 rfl (by decide) rfl (by omega) (by decide) ?_
  refine j_top (y := nI (wtN v b i 0)) (hw i hi).1 ?_
  refine j_goto 22 dX8_shows_18 (by decide) ?_
  refine j_ald0 dX8_shows_22 ?_
  refine j_getR (k := 4) (64) dX8_shows_23 cX8_ok (Or.inl f8_18) rfl (by decide) (by decide) (by decide) rfl ?_
  refine j_ild1 dX8_shows_26 ?_
  refine j_iald (n := i) dX8_shows_27 rfl (by decide) rfl (by omega) (by decide) ?_
  refine j_top (y := nI (v 2 i)) (h.second hi8) ?_
  refine j_ild2 dX8_shows_28 ?_
  refine j_icmpne 45 dX8_shows_29 (by decide) (fun c_29 => ?_) (fun c_29 => ?_)
  · have q_29 : ¬ v 2 i = c := fun z => c_29 (by rw [z])
    refine j_iconst (0) dX8_shows_45 rfl ?_
    refine j_iadd dX8_shows_46 ?_
    refine j_top (y := nI ((if v 1 i = c then wtN v b i 0 else 0) + (if v 2 i = c then wtN v b i 1 else 0))) (by rw [if_pos q_7, if_neg q_29]; exact nI_add (wtN v b i 0) 0) ?_
    refine j_i2l dX8_shows_47 ?_
    refine j_topL (y := lN ((if v 1 i = c then wtN v b i 0 else 0) + (if v 2 i = c then wtN v b i 1 else 0))) (nI_l (by omega)) ?_
    refine j_ldc2_w (v := 60) dX8_shows_48 q8_278 ?_
    refine j_lmul dX8_shows_51 ?_
    refine j_topL (y := lN (((if v 1 i = c then wtN v b i 0 else 0) + (if v 2 i = c then wtN v b i 1 else 0)) * 60)) (lN_mul _ 60) ?_
    refine j_ald0 dX8_shows_52 ?_
    refine j_ild1 dX8_shows_53 ?_
    refine j_cV1 dX8_shows_54 kX8_sumOf l8_280 rfl (by decide) rfl (Nat.le_of_ble_eq_true rfl) (Nat.le_of_ble_eq_true rfl) (by omega) (s_X8_sumOf hw hn8 hi) ?_
    refine j_i2l dX8_shows_57 ?_
    refine j_topL (y := lN (wtN v b i 0 + wtN v b i 1)) (nI_l (by omega)) ?_
    refine j_ldiv dX8_shows_58 (fun z => absurd ((lN_eq0 (by omega)).mp z) (by omega)) ?_
    refine j_topL (y := lN (pC v b i c)) (by rw [pk_lDiv (by omega) (by omega) (by omega), e60]) ?_
    refine j_lret dX8_shows_59 rfl ?_
    exact ⟨rfl, rfl⟩
  have q_29 : v 2 i = c := (nI_eq (by omega) (by omega)).mp (Classical.not_not.mp c_29)
  refine j_ald0 dX8_shows_32 ?_
  refine j_getR (k := 37) (86) dX8_shows_33 cX8_ok (Or.inl f8_96) rfl (by decide) (by decide) (by decide) rfl ?_
  refine j_iconst (2) dX8_shows_36 rfl ?_
  refine j_ild1 dX8_shows_37 ?_
  refine j_imul dX8_shows_38 ?_
  refine j_top (y := nI (2 * i)) (by exact pk_mul 2 i) ?_
  refine j_iconst (1) dX8_shows_39 rfl ?_
  refine j_iadd dX8_shows_40 ?_
  refine j_top (y := nI (2 * i + 1)) (nI_1 _) ?_
  refine j_iald (n := (2 * i + 1)) dX8_shows_41 rfl (by decide) rfl (by omega) (by decide) ?_
  refine j_top (y := nI (wtN v b i 1)) (hw i hi).2 ?_
  refine j_goto 46 dX8_shows_42 (by decide) ?_
  refine j_iadd dX8_shows_46 ?_
  refine j_top (y := nI ((if v 1 i = c then wtN v b i 0 else 0) + (if v 2 i = c then wtN v b i 1 else 0))) (by rw [if_pos q_7, if_pos q_29]; exact nI_add (wtN v b i 0) (wtN v b i 1)) ?_
  refine j_i2l dX8_shows_47 ?_
  refine j_topL (y := lN ((if v 1 i = c then wtN v b i 0 else 0) + (if v 2 i = c then wtN v b i 1 else 0))) (nI_l (by omega)) ?_
  refine j_ldc2_w (v := 60) dX8_shows_48 q8_278 ?_
  refine j_lmul dX8_shows_51 ?_
  refine j_topL (y := lN (((if v 1 i = c then wtN v b i 0 else 0) + (if v 2 i = c then wtN v b i 1 else 0)) * 60)) (lN_mul _ 60) ?_
  refine j_ald0 dX8_shows_52 ?_
  refine j_ild1 dX8_shows_53 ?_
  refine j_cV1 dX8_shows_54 kX8_sumOf l8_280 rfl (by decide) rfl (Nat.le_of_ble_eq_true rfl) (Nat.le_of_ble_eq_true rfl) (by omega) (s_X8_sumOf hw hn8 hi) ?_
  refine j_i2l dX8_shows_57 ?_
  refine j_topL (y := lN (wtN v b i 0 + wtN v b i 1)) (nI_l (by omega)) ?_
  refine j_ldiv dX8_shows_58 (fun z => absurd ((lN_eq0 (by omega)).mp z) (by omega)) ?_
  refine j_topL (y := lN (pC v b i c)) (by rw [pk_lDiv (by omega) (by omega) (by omega), e60]) ?_
  refine j_lret dX8_shows_59 rfl ?_
  exact ⟨rfl, rfl⟩

set_option maxRecDepth 20000 in
theorem lp_X8_allShow (h : TR n v S) (hw : WRq v b n S) {c k : Nat} (hc : c < 2 ^ 31) (hk5 : k < 2 ^ 31) : ∀ (fu : Nat) (i : Nat), n - i < fu → (i ≤ n) → J a mX8_allShow 2 (gm a fun r S' => r = some (.long (lN (lkA v b n c k))) ∧ S' = S) 5 [.ref (a 61), .int (nI c), .int (nI k), .long (lN (lkA v b i c k)), .null, .int (nI i)] [] S := by
  intro fu
  induction fu with
  | zero => intro i hk; exact absurd hk (Nat.not_lt_zero _)
  | succ fu ih =>
    intro i hk hi
    have hn8 := h.2.1
    refine j_ild5 dX8_allShow_5 ?_
    refine j_ald0 dX8_allShow_7 ?_
    refine j_getI (k := 1) dX8_allShow_8 cX8_ok (Or.inl f8_145) rfl (by decide) (by decide) (by decide) ?_
    refine j_top (y := nI n) (h.1) ?_
    refine j_icmpge 43 dX8_allShow_11 (by decide) (fun c_11 => ?_) (fun c_11 => ?_)
    · have q_11 : i = n := by have := (nI_leI (a := n) (b := i) (by omega) (by omega)).mp c_11; omega
      subst q_11
      refine j_lld3 dX8_allShow_43 ?_
      refine j_lret dX8_allShow_44 rfl ?_
      exact ⟨rfl, rfl⟩
    have q_11 : i < n := Nat.not_le.mp (fun z => c_11 ((nI_leI (a := n) (b := i) (by omega) (by omega)).mpr z))
    refine j_lld3 dX8_allShow_14 ?_
    refine j_ald0 dX8_allShow_15 ?_
    refine j_getR (k := 2) (62) dX8_allShow_16 cX8_ok (Or.inl f8_9) rfl (by decide) (by decide) (by decide) rfl ?_
    refine j_ild5 dX8_allShow_19 ?_
    refine j_iald (n := i) dX8_allShow_21 rfl (by decide) rfl (by omega) (by decide) ?_
    refine j_top (y := nI (v 0 i)) (h.many (by omega)) ?_
    refine j_i2l dX8_allShow_22 ?_
    refine j_topL (y := lN (v 0 i)) (nI_l (by have := h.2.2.2 0 (by decide) i (by omega); rw [show mostN 0 = 9 from rfl] at this; omega)) ?_
    refine j_ald0 dX8_allShow_23 ?_
    refine j_ild5 dX8_allShow_24 ?_
    refine j_ild1 dX8_allShow_26 ?_
    refine j_cV2 dX8_allShow_27 kX8_shows l8_283 rfl (by decide) rfl (Nat.le_of_ble_eq_true rfl) (Nat.le_of_ble_eq_true rfl) (by omega) (s_X8_shows h hw q_11 hc) ?_
    refine j_ild2 dX8_allShow_30 ?_
    refine j_cS2 dX8_allShow_31 kX8_power zX8_power (Or.inl l8_287) (Nat.le_of_ble_eq_true rfl) (Nat.le_of_ble_eq_true rfl) (by omega) (s_X8_power hk5) ?_
    refine j_lmul dX8_allShow_34 ?_
    refine j_topL (y := lN (lkO v b i c k)) (lN_mul _ _) ?_
    refine j_ladd dX8_allShow_35 ?_
    refine j_topL (y := lN (lkA v b (i + 1) c k)) (lN_add _ _) ?_
    refine j_lst3 dX8_allShow_36 rfl (by decide) ?_
    refine j_iinc5 (nI (i + 1)) dX8_allShow_37 (nI_1 i) rfl (by decide) ?_
    refine j_goto 5 dX8_allShow_40 (by decide) ?_
    exact ih (i + 1) (by omega) (by omega)

set_option maxRecDepth 20000 in
theorem s_X8_allShow {c k : Nat} (h : TR n v S) (hw : WRq v b n S) (hc : c < 2 ^ 31) (hk : k < 2 ^ 31) : Rt a mX8_allShow 2 [.ref (a 61), .int (nI c), .int (nI k)] S (some (.long (lN (lkA v b n c k)))) S := by
  show J _ _ _ _ 0 [_, _, _, .null, .null, .null] [] _
  refine j_lconst (0) dX8_allShow_0 rfl ?_
  refine j_lst3 dX8_allShow_1 rfl (by decide) ?_
  refine j_iconst (0) dX8_allShow_2 rfl ?_
  refine j_ist5 dX8_allShow_3 rfl (by decide) ?_
  exact lp_X8_allShow h hw hc hk (n + 1) 0 (by omega) (by omega)

theorem ck_div0 {x : Int32} (h : 0 ≤ x) : 0 ≤ x / 10 := by
  obtain ⟨X, hX, rfl⟩ := nI_ge0 h
  rw [show nI X / 10 = nI (X / 10) from pk_div (a := X) (d := 10) hX (by decide) (by decide)]
  exact nI_pos' (by omega)
set_option maxRecDepth 20000 in
theorem s_X7_mayBeTimes {x : Int32} : Rt a mX7_mayBeTimes 1 [.int x] S (some (.int (bi (ckOk x)))) S := by
  show J _ _ _ _ 0 [_] [] _
  refine j_ild0 dX7_mayBeTimes_0 ?_
  refine j_iflt 36 dX7_mayBeTimes_1 (by decide) (fun c_1 => ?_) (fun c_1 => ?_)
  · refine j_iconst (0) dX7_mayBeTimes_36 rfl ?_
    refine j_zret dX7_mayBeTimes_37 rfl (by decide) ?_
    exact ⟨by rw [bi_f (fun z => absurd c_1 (Int32.not_lt.mpr z.1))], rfl⟩
  refine j_ild0 dX7_mayBeTimes_4 ?_
  refine j_bipush (10) dX7_mayBeTimes_5 rfl ?_
  refine j_idiv dX7_mayBeTimes_7 (by decide) ?_
  refine j_bipush (6) dX7_mayBeTimes_8 rfl ?_
  refine j_cS2 dX7_mayBeTimes_10 kX7_within zX7_within (Or.inl l7_72) (Nat.le_of_ble_eq_true rfl) (Nat.le_of_ble_eq_true rfl) (by omega) (s_X7_within) ?_
  refine j_ifeqB 36 dX7_mayBeTimes_13 (by decide) (fun c_13 => ?_) (fun c_13 => ?_)
  · refine j_iconst (0) dX7_mayBeTimes_36 rfl ?_
    refine j_zret dX7_mayBeTimes_37 rfl (by decide) ?_
    exact ⟨by rw [bi_f (fun z => c_13 ⟨ck_div0 z.1, z.2.1⟩)], rfl⟩
  refine j_ild0 dX7_mayBeTimes_16 ?_
  refine j_bipush (10) dX7_mayBeTimes_17 rfl ?_
  refine j_irem dX7_mayBeTimes_19 (by decide) ?_
  refine j_iconst (1) dX7_mayBeTimes_20 rfl ?_
  refine j_icmplt 36 dX7_mayBeTimes_21 (by decide) (fun c_21 => ?_) (fun c_21 => ?_)
  · refine j_iconst (0) dX7_mayBeTimes_36 rfl ?_
    refine j_zret dX7_mayBeTimes_37 rfl (by decide) ?_
    exact ⟨by rw [bi_f (fun z => absurd c_21 (Int32.not_lt.mpr z.2.2.1))], rfl⟩
  refine j_ild0 dX7_mayBeTimes_24 ?_
  refine j_bipush (10) dX7_mayBeTimes_25 rfl ?_
  refine j_irem dX7_mayBeTimes_27 (by decide) ?_
  refine j_iconst (4) dX7_mayBeTimes_28 rfl ?_
  refine j_icmpgt 36 dX7_mayBeTimes_29 (by decide) (fun c_29 => ?_) (fun c_29 => ?_)
  · refine j_iconst (0) dX7_mayBeTimes_36 rfl ?_
    refine j_zret dX7_mayBeTimes_37 rfl (by decide) ?_
    exact ⟨by rw [bi_f (fun z => absurd c_29 (Int32.not_lt.mpr z.2.2.2))], rfl⟩
  refine j_iconst (1) dX7_mayBeTimes_32 rfl ?_
  refine j_goto 37 dX7_mayBeTimes_33 (by decide) ?_
  refine j_zret dX7_mayBeTimes_37 rfl (by decide) ?_
  exact ⟨by rw [bi_t ⟨Int32.not_lt.mp c_1, c_13.2, Int32.not_lt.mp c_21, Int32.not_lt.mp c_29⟩], rfl⟩

end Shown
