/-! drawings: what they hold, the lots, the class -/
section CardsR
variable {a : Nat → Nat} {S : St} {b n k u : Nat} {v h : Nat → Nat → Nat} {sh : Nat → Nat → Nat} {el : Nat → Nat → Int64}

end CardsR
theorem rn_u (x : Int32) : (x.toUInt32 >>> (Int32.toUInt32 8 &&& Int32.toUInt32 31)).toInt32 = nI (x.toBitVec.toNat / 256) := by
  have h := pk_ushr x 8 8 (by decide)
  apply Int32.toBitVec_inj.mp
  apply BitVec.eq_of_toNat_eq
  have hl := x.toBitVec.isLt
  rw [h, pk_tn (by omega)]
def rnd (s : Int32) : Int32 := s * 1103515245 + 12345
def upr (s : Int32) : Nat := s.toBitVec.toNat / 256
theorem upr_lt (s : Int32) : upr s < 2 ^ 24 := by
  have hl := s.toBitVec.isLt
  unfold upr; omega
/-- of m numbers from i on the first one behind which the sum passes L -/
def pkN (f : Nat → Nat) (L : Nat) : Nat → Nat → Nat
  | 0, _ => 0
  | m + 1, i => if L < sumN f (i + 1) then i else pkN f L m (i + 1)
theorem pkN_ok {f : Nat → Nat} {L n : Nat} (hL : L < sumN f n) : ∀ m i, i + m = n → sumN f i ≤ L → pkN f L m i < n ∧ sumN f (pkN f L m i) ≤ L ∧ L < sumN f (pkN f L m i + 1)
  | 0, i, h, h2 => by
    rw [Nat.add_zero] at h
    subst h
    omega
  | m + 1, i, h, h2 => by
    rw [pkN]
    split
    · next c => exact ⟨by omega, h2, c⟩
    · next c => exact pkN_ok hL m (i + 1) (by omega) (by omega)
theorem sb_ge {x y : Nat} (hx : x < 2 ^ 30) (hy : y < 2 ^ 30) : 0 ≤ nI x - nI y ↔ y ≤ x := by
  rw [Int32.le_iff_toInt_le, Int32.toInt_zero, Int32.toInt_sub, nI_toInt (by omega), nI_toInt (by omega), Int.bmod_eq_of_le (by omega) (by omega)]
  omega
/-- the card, and the side, that a lot says -/
def dcd (v : Nat → Nat → Nat) (n : Nat) (s : Int32) : Nat := pkN (v 0) (upr (rnd s) % sumN (v 0) n) n 0
def dsd (v : Nat → Nat → Nat) (b : Option (List Line)) (c : Nat) (s : Int32) : Nat := if upr (rnd s) % (wtN v b c 0 + wtN v b c 1) < wtN v b c 0 then 0 else 1
theorem dsd_2 (v : Nat → Nat → Nat) (b : Option (List Line)) (c : Nat) (s : Int32) : dsd v b c s < 2 := by unfold dsd; split <;> decide
theorem dcd_ok {v : Nat → Nat → Nat} {n : Nat} {s : Int32} (h : 0 < sumN (v 0) n) : dcd v n s < n ∧ 0 < v 0 (dcd v n s) := by
  have h2 := pkN_ok (f := v 0) (L := upr (rnd s) % sumN (v 0) n) (n := n) (Nat.mod_lt _ h) n 0 (by omega) (Nat.zero_le _)
  refine ⟨h2.1, ?_⟩
  have h3 := h2.2.2
  rw [sumN] at h3
  have h4 := h2.2.1
  show 0 < v 0 (pkN (v 0) _ n 0)
  omega
section DrawC
variable {a : Nat → Nat} {S : St} {n : Nat} {v : Nat → Nat → Nat} {b : Option (List Line)}

set_option maxRecDepth 20000 in
theorem s_X1_lot {m : Nat} (hm : 1 ≤ m) (hm2 : m < 2 ^ 31) : Rt a mX1_lot 0 [.ref (a 5), .int (nI m)] S (some (.int (nI (upr (rnd (S.1 5 0)) % m)))) (uI S 5 0 (rnd (S.1 5 0))) := by
  have hu := upr_lt (rnd (S.1 5 0))
  show J _ _ _ _ 0 [_, _] [] _
  refine j_ald0 dX1_lot_0 ?_
  refine j_ald0 dX1_lot_1 ?_
  refine j_getI (k := 0) dX1_lot_2 cX1_ok (Or.inl f1_34) rfl (by decide) (by decide) (by decide) ?_
  refine j_ldc (v := 1103515245) dX1_lot_5 q1_37 ?_
  refine j_imul dX1_lot_7 ?_
  refine j_sipush (12345) dX1_lot_8 rfl ?_
  refine j_iadd dX1_lot_11 ?_
  refine j_top (y := rnd (S.1 5 0)) (rfl) ?_
  refine j_putI (k := 0) dX1_lot_12 cX1_ok (Or.inl f1_34) rfl (by decide) (by decide) (by decide) rfl ?_
  refine j_ild1 dX1_lot_15 ?_
  refine j_iconst (1) dX1_lot_16 rfl ?_
  refine j_icmpge 24 dX1_lot_17 (by decide) (fun c_17 => ?_) (fun c_17 => absurd (nI_le (a := 1) hm (by omega)) c_17)
  refine j_ald0 dX1_lot_24 ?_
  refine j_getI (k := 0) dX1_lot_25 cX1_ok (Or.inl f1_34) rfl (by decide) (by decide) (by decide) ?_
  refine j_top (y := rnd (S.1 5 0)) (by simp [uI_at]) ?_
  refine j_bipush (8) dX1_lot_28 rfl ?_
  refine j_iushr dX1_lot_30 ?_
  refine j_top (y := nI (upr (rnd (S.1 5 0)))) (rn_u _) ?_
  refine j_ild1 dX1_lot_31 ?_
  refine j_irem dX1_lot_32 (nI_ne0 (by omega) (by omega)) ?_
  refine j_top (y := nI (upr (rnd (S.1 5 0)) % m)) (by exact pk_rem (a := upr (rnd (S.1 5 0))) (d := m) (by omega) (by omega) (by omega)) ?_
  refine j_iret dX1_lot_33 rfl ?_
  exact ⟨rfl, rfl⟩

set_option maxRecDepth 20000 in
theorem lp_X1_pickCard (h : TC n v S) {L : Nat} (hL : L < 2 ^ 30) : ∀ (fu : Nat) (m i : Nat) (l : Int32), m < fu → (i + m = n) → (sumN (v 0) i ≤ L) → (l = nI (L - sumN (v 0) i)) → J a mX1_pickCard 2 (gm a fun r S' => r = some (.int (nI (pkN (v 0) L m i))) ∧ S' = S) 11 [.ref (a 5), .ref (a 1), .int l, .int (nI i)] [] S := by
  intro fu
  induction fu with
  | zero => intro m i l hk; exact absurd hk (Nat.not_lt_zero _)
  | succ fu ih =>
    intro m i l hk hm hs hl
    have hn8 := h.2.1
    refine j_ild3 dX1_pickCard_11 ?_
    refine j_ald1 dX1_pickCard_12 ?_
    refine j_getI (k := 1) dX1_pickCard_13 cX6_ok (Or.inr ⟨_, f1_48⟩) rfl (by decide) (by decide) (by decide) ?_
    refine j_top (y := nI n) (h.1) ?_
    refine j_icmpge 42 dX1_pickCard_16 (by decide) (fun c_16 => ?_) (fun c_16 => ?_)
    · have q_16 : m = 0 := by have := (nI_leI (a := n) (b := i) (by omega) (by omega)).mp c_16; omega
      subst q_16
      refine j_iconst (0) dX1_pickCard_42 rfl ?_
      refine j_iret dX1_pickCard_43 rfl ?_
      exact ⟨rfl, rfl⟩
    have q_16 : i < n := Nat.not_le.mp (fun z => c_16 ((nI_leI (a := n) (b := i) (by omega) (by omega)).mpr z))
    obtain ⟨m, rfl⟩ : ∃ c, m = c + 1 := ⟨m - 1, by omega⟩
    have h9 := h.many9 (i := i) (by omega)
    refine j_ild2 dX1_pickCard_19 ?_
    refine j_ald1 dX1_pickCard_20 ?_
    refine j_getR (k := 0) (15) dX1_pickCard_21 cX6_ok (Or.inr ⟨_, f1_51⟩) rfl (by decide) (by decide) (by decide) rfl ?_
    refine j_iconst (0) dX1_pickCard_24 rfl ?_
    refine j_aald (n := 0) (16) dX1_pickCard_25 (Or.inr rfl) (by decide) rfl (by decide) (by decide) rfl ?_
    refine j_ild3 dX1_pickCard_26 ?_
    refine j_iald (n := i) dX1_pickCard_27 rfl (by decide) rfl (by omega) (by decide) ?_
    refine j_top (y := nI (v 0 i)) (h.2.2.1 0 (by decide) i (by omega)) ?_
    refine j_isub dX1_pickCard_28 ?_
    refine j_ist2 dX1_pickCard_29 rfl (by decide) ?_
    refine j_ild2 dX1_pickCard_30 ?_
    refine j_ifge 36 dX1_pickCard_31 (by decide) (fun c_31 => ?_) (fun c_31 => ?_)
    · rw [hl] at c_31
      have q_31 : v 0 i ≤ L - sumN (v 0) i := (sb_ge (by omega) (by omega)).mp c_31
      refine j_iinc3 (nI (i + 1)) dX1_pickCard_36 (nI_1 i) rfl (by decide) ?_
      refine j_goto 11 dX1_pickCard_39 (by decide) ?_
      have e1 : sumN (v 0) (i + 1) = sumN (v 0) i + v 0 i := rfl
      rw [pkN, if_neg (by omega)]
      exact ih m (i + 1) _ (by omega) (by omega) (by omega) (by rw [hl, pk_sub q_31, e1, Nat.sub_add_eq])
    rw [hl] at c_31
    have q_31 : ¬ v 0 i ≤ L - sumN (v 0) i := fun z => c_31 ((sb_ge (by omega) (by omega)).mpr z)
    refine j_ild3 dX1_pickCard_34 ?_
    refine j_iret dX1_pickCard_35 rfl ?_
    have e1 : sumN (v 0) (i + 1) = sumN (v 0) i + v 0 i := rfl
    exact ⟨by rw [pkN, if_pos (by omega)], rfl⟩

theorem pc_11 {s : Int32} {S1 : St} (h : TC n v S) (h0 : 0 < sumN (v 0) n) (e1 : S1 = uI S 5 0 (rnd s)) {l : Int32} (el : l = nI (upr (rnd s) % sumN (v 0) n)) : J a mX1_pickCard 2 (gm a fun r S' => r = some (.int (nI (dcd v n s))) ∧ S' = S1) 11 [.ref (a 5), .ref (a 1), .int l, .int (nI 0)] [] S1 := by
  have hs := h.sum h.2.1
  have ht1 : TC n v S1 := by rw [e1]; exact h.kp (Kp_uI (rs := [4]) Kp.rf (by decide)) (by decide)
  have hLt := Nat.mod_lt (upr (rnd s)) h0
  exact lp_X1_pickCard ht1 (L := upr (rnd s) % sumN (v 0) n) (by omega) (n + 1) n 0 l (by omega) (by omega) (Nat.zero_le _) (by rw [show sumN (v 0) 0 = 0 from rfl, Nat.sub_zero]; exact el)
set_option maxRecDepth 20000 in
theorem s_X1_pickCard (h : TC n v S) (h0 : 0 < sumN (v 0) n) : Rt a mX1_pickCard 2 [.ref (a 5), .ref (a 1)] S (some (.int (nI (dcd v n (S.1 5 0))))) (uI S 5 0 (rnd (S.1 5 0))) := by
  have hs := h.sum h.2.1
  show J _ _ _ _ 0 [_, _, .null, .null] [] _
  refine j_ald0 dX1_pickCard_0 ?_
  refine j_ald1 dX1_pickCard_1 ?_
  refine j_cV0 dX1_pickCard_2 kX6_inHat l1_38 rfl (by decide) rfl (Nat.le_of_ble_eq_true rfl) (Nat.le_of_ble_eq_true rfl) (by omega) (s_X6_inHat h) ?_
  refine j_cV1 dX1_pickCard_5 kX1_lot l1_44 rfl (by decide) rfl (Nat.le_of_ble_eq_true rfl) (Nat.le_of_ble_eq_true rfl) (by omega) (s_X1_lot h0 (by omega)) ?_
  refine j_ist2 dX1_pickCard_8 rfl (by decide) ?_
  refine j_iconst (0) dX1_pickCard_9 rfl ?_
  refine j_ist3 dX1_pickCard_10 rfl (by decide) ?_
  exact pc_11 h h0 rfl rfl

set_option maxRecDepth 20000 in
theorem s_X1_pickSide {c : Nat} (hw : WCq v b n S) (hc : c < 8) (hcn : c < n) : Rt a mX1_pickSide 1 [.ref (a 5), .ref (a (37 + c))] S (some (.int (nI (dsd v b c (S.1 5 0))))) (uI S 5 0 (rnd (S.1 5 0))) := by
  have w0 := wtN_le v b c 0
  have w1 := wtN_le v b c 1
  have w2 := wtN_sum v b c
  have hu := Nat.mod_lt (upr (rnd (S.1 5 0))) (show 0 < wtN v b c 0 + wtN v b c 1 by omega)
  show J _ _ _ _ 0 [_, _] [] _
  refine j_ald0 dX1_pickSide_0 ?_
  refine j_ald1 dX1_pickSide_1 ?_
  refine j_iconst (0) dX1_pickSide_2 rfl ?_
  refine j_iald (n := 0) dX1_pickSide_3 (ck_wr hc) (by omega) rfl (by decide) (by decide) ?_
  refine j_top (y := nI (wtN v b c 0)) (hw c hcn).1 ?_
  refine j_ald1 dX1_pickSide_4 ?_
  refine j_iconst (1) dX1_pickSide_5 rfl ?_
  refine j_iald (n := 1) dX1_pickSide_6 (ck_wr hc) (by omega) rfl (by decide) (by decide) ?_
  refine j_top (y := nI (wtN v b c 1)) (hw c hcn).2 ?_
  refine j_iadd dX1_pickSide_7 ?_
  refine j_top (y := nI (wtN v b c 0 + wtN v b c 1)) (nI_add _ _) ?_
  refine j_cV1 dX1_pickSide_8 kX1_lot l1_44 rfl (by decide) rfl (Nat.le_of_ble_eq_true rfl) (Nat.le_of_ble_eq_true rfl) (by omega) (s_X1_lot (by omega) (by omega)) ?_
  refine j_ald1 dX1_pickSide_11 ?_
  refine j_iconst (0) dX1_pickSide_12 rfl ?_
  refine j_iald (n := 0) dX1_pickSide_13 (ck_wr hc) (by omega) rfl (by decide) (by decide) ?_
  refine j_top (y := nI (wtN v b c 0)) (by rw [uI_at, if_neg (by omega)]; exact (hw c hcn).1) ?_
  refine j_icmpge 21 dX1_pickSide_14 (by decide) (fun c_14 => ?_) (fun c_14 => ?_)
  · have q_14 := (nI_leI (by omega) (by omega)).mp c_14
    refine j_iconst (1) dX1_pickSide_21 rfl ?_
    refine j_iret dX1_pickSide_22 rfl ?_
    exact ⟨by rw [dsd, if_neg (by omega)]; rfl, rfl⟩
  have q_14 := mt (nI_leI (a := wtN v b c 0) (b := upr (rnd (S.1 5 0)) % (wtN v b c 0 + wtN v b c 1)) (by omega) (by omega)).mpr c_14
  refine j_iconst (0) dX1_pickSide_17 rfl ?_
  refine j_goto 22 dX1_pickSide_18 (by decide) ?_
  refine j_iret dX1_pickSide_22 rfl ?_
  exact ⟨by rw [dsd, if_pos (by omega)]; rfl, rfl⟩

/-- the seed before the lots of drawing j -/
def sdS (s : Int32) : Nat → Int32
  | 0 => s
  | j + 1 => rnd (rnd (sdS s j))
abbrev hitP (v : Nat → Nat → Nat) (b : Option (List Line)) (n X : Nat) (s : Int32) : Prop := v (1 + dsd v b (dcd v n s) (rnd s)) (dcd v n s) = X / 100 ∧ (X % 10 = 0 ∨ v (2 - dsd v b (dcd v n s) (rnd s)) (dcd v n s) = X / 10 % 10)
def dnF (v : Nat → Nat → Nat) (b : Option (List Line)) (n X : Nat) (s : Int32) (k : Nat) : Nat := sumN (fun j => if hitP v b n X (sdS s j) then 1 else 0) k
theorem dnF_le (v : Nat → Nat → Nat) (b : Option (List Line)) (n X : Nat) (s : Int32) (k : Nat) : dnF v b n X s k ≤ k * 1 := sumN_le k (fun j _ => by show (if _ then 1 else 0) ≤ 1; split <;> decide)
theorem dnF_1 {v : Nat → Nat → Nat} {b : Option (List Line)} {n X : Nat} {s : Int32} {k : Nat} (h : hitP v b n X (sdS s k)) : dnF v b n X s (k + 1) = dnF v b n X s k + 1 := by rw [dnF, sumN, if_pos h]; rfl
theorem dnF_0 {v : Nat → Nat → Nat} {b : Option (List Line)} {n X : Nat} {s : Int32} {k : Nat} (h : ¬ hitP v b n X (sdS s k)) : dnF v b n X s (k + 1) = dnF v b n X s k := by rw [dnF, sumN, if_neg h]; rfl
abbrev dnOk (y z : Int32) : Prop := (1 ≤ y ∧ y ≤ 60) ∧ 0 ≤ z ∧ (0 ≤ z / 100 ∧ z / 100 < 6) ∧ (0 ≤ z / 10 - z / 10 / 10 * 10 ∧ z / 10 - z / 10 / 10 * 10 < 6) ∧ z - z / 10 * 10 < 2
theorem dn_nat {y z : Int32} (h : dnOk y z) : ∃ N X, N ≤ 60 ∧ X < 2 ^ 31 ∧ y = nI N ∧ z = nI X ∧ z / 100 = nI (X / 100) ∧ z / 10 - z / 10 / 10 * 10 = nI (X / 10 % 10) ∧ z - z / 10 * 10 = nI (X % 10) ∧ X / 100 < 6 ∧ X / 10 % 10 < 6 ∧ X % 10 < 2 ∧ y.toNatClampNeg = N ∧ z.toNatClampNeg = X := by
  obtain ⟨⟨h1, h2⟩, h3, h4, h5, h6⟩ := h
  obtain ⟨N, hN, rfl⟩ := nI_ge0 (Int32.le_trans (by decide) h1)
  obtain ⟨X, hX, rfl⟩ := nI_ge0 h3
  have e1 : nI X / 100 = nI (X / 100) := pk_div (a := X) (d := 100) hX (by decide) (by decide)
  have e0 : nI X / 10 = nI (X / 10) := pk_div (a := X) (d := 10) hX (by decide) (by decide)
  have e2 : nI X / 10 - nI X / 10 / 10 * 10 = nI (X / 10 % 10) := by rw [e0]; exact pk_rem (a := X / 10) (d := 10) (by omega) (by decide) (by decide)
  have e3 : nI X - nI X / 10 * 10 = nI (X % 10) := pk_rem (a := X) (d := 10) hX (by decide) (by decide)
  rw [e1] at h4
  rw [e2] at h5
  rw [e3] at h6
  exact ⟨N, X, (nI_leI (a := N) (b := 60) hN (by decide)).mp h2, hX, rfl, rfl, e1, e2, e3, (nI_ltI (a := X / 100) (b := 6) (by omega) (by decide)).mp h4.2, (nI_ltI (a := X / 10 % 10) (b := 6) (by omega) (by decide)).mp h5.2, (nI_ltI (a := X % 10) (b := 2) (by omega) (by decide)).mp h6, nI_clamp hN, nI_clamp hX⟩
/-- how often, or that the hat is empty -/
def dnV (v : Nat → Nat → Nat) (b : Option (List Line)) (n : Nat) (s y z : Int32) : Int32 := if sumN (v 0) n = 0 then -5 else nI (dnF v b n z.toNatClampNeg s y.toNatClampNeg)
set_option maxRecDepth 20000 in
theorem lp_X7_drawn {w1 : Value} {s : Int32} {N X : Nat} (h : TC n v S) (h0 : 0 < sumN (v 0) n) (hN : N ≤ 60) (hX : X < 2 ^ 31) (hX1 : X / 100 < 6) (hX2 : X / 10 % 10 < 6) : ∀ (fu : Nat) (i : Nat) (S1 : St) (w7 w8 : Value), N - i < fu → (i ≤ N) → (Kp [4, 8] S S1) → (WCq v b n S1) → (S1.1 5 0 = sdS s i) → J a mX7_drawn 6 (gm a fun r S' => ∃ z, r = some (.int z) ∧ z = nI (dnF v b n X s N) ∧ Kp [4, 8] S S') 101 [.ref (a 0), w1, .int (nI N), .int (nI X), .int (nI (X / 10 % 10)), .int (nI (dnF v b n X s i)), .int (nI i), w7, w8] [] S1 := by
  intro fu
  induction fu with
  | zero => intro i S1 w7 w8 hk; exact absurd hk (Nat.not_lt_zero _)
  | succ fu ih =>
    intro i S1 w7 w8 hk hi hkp hw hsd
    have hn8 := h.2.1
    refine j_ild6 dX7_drawn_101 ?_
    refine j_ild2 dX7_drawn_103 ?_
    refine j_icmpge 191 dX7_drawn_104 (by decide) (fun c_104 => ?_) (fun c_104 => ?_)
    · have q_104 : i = N := by have := (nI_leI (a := N) (b := i) (by omega) (by omega)).mp c_104; omega
      subst q_104
      refine j_ild5 dX7_drawn_191 ?_
      refine j_iret dX7_drawn_193 rfl ?_
      exact ⟨_, rfl, rfl, hkp⟩
    have q_104 : i < N := Nat.not_le.mp (fun z => c_104 ((nI_leI (a := N) (b := i) (by omega) (by omega)).mpr z))
    have ht1 := h.kp hkp (by decide)
    have hdl := dnF_le v b n X s i
    refine j_ald0 dX7_drawn_107 ?_
    refine j_getR (k := 4) (5) dX7_drawn_108 cX7_ok (Or.inl f7_42) rfl (by decide) (by decide) (by decide) rfl ?_
    refine j_ald0 dX7_drawn_111 ?_
    refine j_getR (k := 0) (1) dX7_drawn_112 cX7_ok (Or.inl f7_12) rfl (by decide) (by decide) (by decide) rfl ?_
    refine j_cV1 dX7_drawn_115 kX1_pickCard l7_221 rfl (by decide) rfl (Nat.le_of_ble_eq_true rfl) (Nat.le_of_ble_eq_true rfl) (by omega) (s_X1_pickCard ht1 h0) ?_
    rw [hsd]
    have hdc := dcd_ok (s := sdS s i) h0
    have hk2 : Kp [4, 8] S (uI S1 5 0 (rnd (sdS s i))) := Kp_uI hkp (by decide)
    have hw2 : WCq v b n (uI S1 5 0 (rnd (sdS s i))) := fun j hj => by rw [uI_at, if_neg (by omega), uI_at, if_neg (by omega)]; exact hw j hj
    have hsd2 : (uI S1 5 0 (rnd (sdS s i))).1 5 0 = rnd (sdS s i) := by simp [uI_at]
    generalize uI S1 5 0 (rnd (sdS s i)) = S2 at *
    generalize hcd : dcd v n (sdS s i) = c at *
    have hc8 : c < 8 := by omega
    refine j_ist7 dX7_drawn_118 rfl (by decide) ?_
    refine j_ald0 dX7_drawn_120 ?_
    refine j_getR (k := 4) (5) dX7_drawn_121 cX7_ok (Or.inl f7_42) rfl (by decide) (by decide) (by decide) rfl ?_
    refine j_ald0 dX7_drawn_124 ?_
    refine j_getR (k := 2) (3) dX7_drawn_125 cX7_ok (Or.inl f7_28) rfl (by decide) (by decide) (by decide) rfl ?_
    refine j_getR (k := 0) (36) dX7_drawn_128 cX5_ok (Or.inr ⟨_, f7_135⟩) rfl (by decide) (by decide) (by decide) rfl ?_
    refine j_ild7 dX7_drawn_131 ?_
    refine j_aald (n := c) (37 + c) dX7_drawn_133 (Or.inr rfl) (by decide) rfl (by omega) (by decide) (fr_wr hc8) ?_
    refine j_cV1 dX7_drawn_134 kX1_pickSide l7_224 rfl (by decide) rfl (Nat.le_of_ble_eq_true rfl) (Nat.le_of_ble_eq_true rfl) (by omega) (s_X1_pickSide hw2 hc8 hdc.1) ?_
    rw [hsd2]
    have hds := dsd_2 v b c (rnd (sdS s i))
    have hk3 : Kp [4, 8] S (uI S2 5 0 (rnd (rnd (sdS s i)))) := Kp_uI hk2 (by decide)
    have hw3 : WCq v b n (uI S2 5 0 (rnd (rnd (sdS s i)))) := fun j hj => by rw [uI_at, if_neg (by omega), uI_at, if_neg (by omega)]; exact hw2 j hj
    have hsd3 : (uI S2 5 0 (rnd (rnd (sdS s i)))).1 5 0 = sdS s (i + 1) := by simp [uI_at]; rfl
    generalize uI S2 5 0 (rnd (rnd (sdS s i))) = S3 at *
    generalize hsi : dsd v b c (rnd (sdS s i)) = e at *
    have hv1 := h.2.2.2 (1 + e) (by omega) c hc8
    have hv2 := h.2.2.2 (2 - e) (by omega) c hc8
    have hm1 := mostN_le (1 + e)
    have hm2 := mostN_le (2 - e)
    refine j_ist8 dX7_drawn_137 rfl (by decide) ?_
    refine j_ald0 dX7_drawn_139 ?_
    refine j_getR (k := 0) (1) dX7_drawn_140 cX7_ok (Or.inl f7_12) rfl (by decide) (by decide) (by decide) rfl ?_
    refine j_ild7 dX7_drawn_143 ?_
    refine j_ild8 dX7_drawn_145 ?_
    refine j_cV2 dX7_drawn_147 kX6_colour l7_228 rfl (by decide) rfl (Nat.le_of_ble_eq_true rfl) (Nat.le_of_ble_eq_true rfl) (by omega) (sC_colour (i := c) (s := e) (h.kp hk3 (by decide)) hc8 hds) ?_
    refine j_ild3 dX7_drawn_150 ?_
    refine j_bipush (100) dX7_drawn_151 rfl ?_
    refine j_idiv dX7_drawn_153 (by decide) ?_
    refine j_top (y := nI (X / 100)) (pk_div (a := X) (d := 100) hX (by decide) (by decide)) ?_
    refine j_icmpne 185 dX7_drawn_154 (by decide) (fun c_154 => ?_) (fun c_154 => ?_)
    · have q_154 : ¬ v (1 + e) c = X / 100 := fun z => c_154 (by rw [z])
      have q_h : ¬ hitP v b n X (sdS s i) := fun z => q_154 (by have := z.1; rw [hcd, hsi] at this; exact this)
      refine j_iinc6 (nI (i + 1)) dX7_drawn_185 (nI_1 i) rfl (by decide) ?_
      refine j_goto 101 dX7_drawn_188 (by decide) ?_
      rw [← dnF_0 q_h]
      exact ih (i + 1) S3 _ _ (by omega) (by omega) hk3 hw3 hsd3
    have q_154 : v (1 + e) c = X / 100 := (nI_eq (by omega) (by omega)).mp (Classical.not_not.mp c_154)
    refine j_ild3 dX7_drawn_157 ?_
    refine j_bipush (10) dX7_drawn_158 rfl ?_
    refine j_irem dX7_drawn_160 (by decide) ?_
    refine j_top (y := nI (X % 10)) (pk_rem (a := X) (d := 10) hX (by decide) (by decide)) ?_
    refine j_ifeq 182 dX7_drawn_161 (by decide) (fun c_161 => ?_) (fun c_161 => ?_)
    · have q_161 : X % 10 = 0 := (nI_eq (a := X % 10) (b := 0) (by omega) (by decide)).mp c_161
      have q_h : hitP v b n X (sdS s i) := by rw [hitP, hcd, hsi]; exact ⟨q_154, Or.inl q_161⟩
      refine j_iinc5 (nI (dnF v b n X s i + 1)) dX7_drawn_182 (nI_1 _) rfl (by decide) ?_
      refine j_iinc6 (nI (i + 1)) dX7_drawn_185 (nI_1 i) rfl (by decide) ?_
      refine j_goto 101 dX7_drawn_188 (by decide) ?_
      rw [← dnF_1 q_h]
      exact ih (i + 1) S3 _ _ (by omega) (by omega) hk3 hw3 hsd3
    have q_161 : ¬ X % 10 = 0 := fun z => c_161 (by rw [z]; rfl)
    refine j_ald0 dX7_drawn_164 ?_
    refine j_getR (k := 0) (1) dX7_drawn_165 cX7_ok (Or.inl f7_12) rfl (by decide) (by decide) (by decide) rfl ?_
    refine j_ild7 dX7_drawn_168 ?_
    refine j_iconst (1) dX7_drawn_170 rfl ?_
    refine j_ild8 dX7_drawn_171 ?_
    refine j_isub dX7_drawn_173 ?_
    refine j_top (y := nI (1 - e)) (by exact pk_sub (a := 1) (b := e) (by omega)) ?_
    refine j_cV2 dX7_drawn_174 kX6_colour l7_228 rfl (by decide) rfl (Nat.le_of_ble_eq_true rfl) (Nat.le_of_ble_eq_true rfl) (by omega) (sC_colour (i := c) (s := 1 - e) (h.kp hk3 (by decide)) hc8 (by omega)) ?_
    refine j_top (y := nI (v (2 - e) c)) (by rw [show 1 + (1 - e) = 2 - e by omega]) ?_
    refine j_ild4 dX7_drawn_177 ?_
    refine j_icmpne 185 dX7_drawn_179 (by decide) (fun c_179 => ?_) (fun c_179 => ?_)
    · have q_179 : ¬ v (2 - e) c = X / 10 % 10 := fun z => c_179 (by rw [z])
      have q_h : ¬ hitP v b n X (sdS s i) := fun z => z.2.elim q_161 (by rw [hcd, hsi]; exact q_179)
      refine j_iinc6 (nI (i + 1)) dX7_drawn_185 (nI_1 i) rfl (by decide) ?_
      refine j_goto 101 dX7_drawn_188 (by decide) ?_
      rw [← dnF_0 q_h]
      exact ih (i + 1) S3 _ _ (by omega) (by omega) hk3 hw3 hsd3
    have q_179 : v (2 - e) c = X / 10 % 10 := (nI_eq (by omega) (by omega)).mp (Classical.not_not.mp c_179)
    have q_h : hitP v b n X (sdS s i) := by rw [hitP, hcd, hsi]; exact ⟨q_154, Or.inr q_179⟩
    refine j_iinc5 (nI (dnF v b n X s i + 1)) dX7_drawn_182 (nI_1 _) rfl (by decide) ?_
    refine j_iinc6 (nI (i + 1)) dX7_drawn_185 (nI_1 i) rfl (by decide) ?_
    refine j_goto 101 dX7_drawn_188 (by decide) ?_
    rw [← dnF_1 q_h]
    exact ih (i + 1) S3 _ _ (by omega) (by omega) hk3 hw3 hsd3

set_option maxRecDepth 20000 in
theorem s_X7_drawn_ok {x y z : Int32} (h : TC n v S) (hb : LawC b S) (hg : GoodB b) (hk : dnOk y z) : Rqi a mX7_drawn 6 [.ref (a 0), .int x, .int y, .int z] S fun r S' => r = dnV v b n x y z ∧ Kp [4, 8] S S' := by
  show J _ _ _ _ 0 [_, _, _, _, .null, .null, .null, .null, .null] [] _
  obtain ⟨N, X, hN, hX, rfl, rfl, e1, e2, e3, b1, b2, b3, f1, f2⟩ := dn_nat hk
  have hs := h.sum h.2.1
  refine j_ild3 dX7_drawn_0 ?_
  refine j_bipush (10) dX7_drawn_1 rfl ?_
  refine j_idiv dX7_drawn_3 (by decide) ?_
  refine j_bipush (10) dX7_drawn_4 rfl ?_
  refine j_irem dX7_drawn_6 (by decide) ?_
  refine j_top (y := nI (X / 10 % 10)) (e2) ?_
  refine j_ist4 dX7_drawn_7 rfl (by decide) ?_
  refine j_ild2 dX7_drawn_9 ?_
  refine j_iconst (1) dX7_drawn_10 rfl ?_
  refine j_icmplt 57 dX7_drawn_11 (by decide) (fun c_11 => absurd c_11 (Int32.not_lt.mpr hk.1.1)) (fun c_11 => ?_)
  refine j_ild2 dX7_drawn_14 ?_
  refine j_bipush (60) dX7_drawn_15 rfl ?_
  refine j_icmpgt 57 dX7_drawn_17 (by decide) (fun c_17 => absurd c_17 (Int32.not_lt.mpr hk.1.2)) (fun c_17 => ?_)
  refine j_ild3 dX7_drawn_20 ?_
  refine j_iflt 57 dX7_drawn_21 (by decide) (fun c_21 => absurd c_21 (Int32.not_lt.mpr hk.2.1)) (fun c_21 => ?_)
  refine j_ild3 dX7_drawn_24 ?_
  refine j_bipush (100) dX7_drawn_25 rfl ?_
  refine j_idiv dX7_drawn_27 (by decide) ?_
  refine j_bipush (6) dX7_drawn_28 rfl ?_
  refine j_cS2 dX7_drawn_30 kX7_within zX7_within (Or.inl l7_72) (Nat.le_of_ble_eq_true rfl) (Nat.le_of_ble_eq_true rfl) (by omega) (s_X7_within) ?_
  refine j_ifeqB 57 dX7_drawn_33 (by decide) (fun c_33 => absurd c_33 (not_not_intro hk.2.2.1)) (fun c_33 => ?_)
  refine j_ild4 dX7_drawn_36 ?_
  refine j_bipush (6) dX7_drawn_38 rfl ?_
  refine j_cS2 dX7_drawn_40 kX7_within zX7_within (Or.inl l7_72) (Nat.le_of_ble_eq_true rfl) (Nat.le_of_ble_eq_true rfl) (by omega) (s_X7_within) ?_
  refine j_ifeqB 57 dX7_drawn_43 (by decide) (fun c_43 => absurd c_43 (not_not_intro (nI_in' b2 (by decide)))) (fun c_43 => ?_)
  refine j_ild3 dX7_drawn_46 ?_
  refine j_bipush (10) dX7_drawn_47 rfl ?_
  refine j_irem dX7_drawn_49 (by decide) ?_
  refine j_iconst (2) dX7_drawn_50 rfl ?_
  refine j_cS2 dX7_drawn_51 kX7_within zX7_within (Or.inl l7_72) (Nat.le_of_ble_eq_true rfl) (Nat.le_of_ble_eq_true rfl) (by omega) (s_X7_within) ?_
  refine j_ifneB 59 dX7_drawn_54 (by decide) (fun c_54 => ?_) (fun c_54 => absurd (by rw [e3]; exact nI_in' b3 (by decide)) c_54)
  refine j_ald0 dX7_drawn_59 ?_
  refine j_getR (k := 0) (1) dX7_drawn_60 cX7_ok (Or.inl f7_12) rfl (by decide) (by decide) (by decide) rfl ?_
  refine j_cV0 dX7_drawn_63 kX6_inHat l7_120 rfl (by decide) rfl (Nat.le_of_ble_eq_true rfl) (Nat.le_of_ble_eq_true rfl) (by omega) (s_X6_inHat h) ?_
  refine j_ifne 72 dX7_drawn_66 (by decide) (fun c_66 => ?_) (fun c_66 => ?_)
  · have q_66 : ¬ sumN (v 0) n = 0 := fun z => c_66 (by rw [z]; rfl)
    refine j_ald0 dX7_drawn_72 ?_
    refine j_getR (k := 2) (3) dX7_drawn_73 cX7_ok (Or.inl f7_28) rfl (by decide) (by decide) (by decide) rfl ?_
    refine j_ald0 dX7_drawn_76 ?_
    refine j_getR (k := 0) (1) dX7_drawn_77 cX7_ok (Or.inl f7_12) rfl (by decide) (by decide) (by decide) rfl ?_
    refine j_ald0 dX7_drawn_80 ?_
    refine j_getR (k := 1) (2) dX7_drawn_81 cX7_ok (Or.inl f7_21) rfl (by decide) (by decide) (by decide) rfl ?_
    refine j_qvV2 dX7_drawn_84 kX5_weighAll l7_140 rfl (by decide) rfl (Nat.le_of_ble_eq_true rfl) (Nat.le_of_ble_eq_true rfl) (by omega) (s_X5_weighAll h hb hg) (fun S1 h1 => ?_)
    obtain ⟨hkp, hw⟩ := h1
    refine j_ald0 dX7_drawn_87 ?_
    refine j_getR (k := 4) (5) dX7_drawn_88 cX7_ok (Or.inl f7_42) rfl (by decide) (by decide) (by decide) rfl ?_
    refine j_ild1 dX7_drawn_91 ?_
    refine j_putI (k := 0) dX7_drawn_92 cX1_ok (Or.inr ⟨_, f7_218⟩) rfl (by decide) (by decide) (by decide) rfl ?_
    refine j_iconst (0) dX7_drawn_95 rfl ?_
    refine j_ist5 dX7_drawn_96 rfl (by decide) ?_
    refine j_iconst (0) dX7_drawn_98 rfl ?_
    refine j_ist6 dX7_drawn_99 rfl (by decide) ?_
    rw [dnV, if_neg q_66, f1, f2]
    refine lp_X7_drawn (w1 := .int x) (s := x) (h) (Nat.pos_of_ne_zero q_66) hN hX b1 b2 (N + 1) 0 (uI S1 5 0 x) _ _ (by omega) (by omega) (Kp_uI hkp (by decide)) (fun j hj => ?_) (by simp [uI_at]; rfl)
    have hn8 := h.2.1
    rw [uI_at, if_neg (by omega), uI_at, if_neg (by omega)]; exact hw j hj
  have q_66 : sumN (v 0) n = 0 := (nI_eq (a := sumN (v 0) n) (b := 0) (by omega) (by decide)).mp (Classical.not_not.mp c_66)
  refine j_bipush (-5) dX7_drawn_69 rfl ?_
  refine j_iret dX7_drawn_71 rfl ?_
  exact ⟨_, rfl, by rw [dnV, if_pos q_66], Kp.rf⟩

end DrawC

