/-! cards from a row, count: both sides -/
def zN (x : Int64) : Nat := x.toInt32.toNatClampNeg
/-- at most j cards from place t on of a row e of ln: how many came, how many there are, what they are -/
def cdF : Nat → Nat → (Nat → Int64) → Nat → Nat → (Nat → Nat → Nat) → Nat × Nat × (Nat → Nat → Nat)
  | 0, _, _, _, n, v => (0, n, v)
  | j + 1, ln, e, t, n, v => if t + 3 ≤ ln ∧ n < 8 ∧ CardOk (e t).toInt32 (e (t + 1)).toInt32 (e (t + 2)).toInt32 then
      ((cdF j ln e (t + 3) (n + 1) (addV v n (zN (e t)) (zN (e (t + 1))) (zN (e (t + 2))))).1 + 1, (cdF j ln e (t + 3) (n + 1) (addV v n (zN (e t)) (zN (e (t + 1))) (zN (e (t + 2))))).2) else (0, n, v)
theorem CardOk.nat {x y z : Int32} (h : CardOk x y z) : ∃ p q r, p < 6 ∧ q < 6 ∧ r < 10 ∧ x = nI p ∧ y = nI q ∧ z = nI r := by
  obtain ⟨p, hp, rfl⟩ := in_nI (n := 6) (by decide) h.1
  obtain ⟨q, hq, rfl⟩ := in_nI (n := 6) (by decide) h.2.1
  obtain ⟨r, hr, rfl⟩ := in_nI (n := 10) (by decide) h.2.2
  exact ⟨p, q, r, hp, hq, hr, rfl, rfl, rfl⟩
theorem len3 {ln t : Nat} (hl : ln ≤ 60) (ht : t < 2 ^ 31) : nI ln - 3 < nI t ↔ ¬ t + 3 ≤ ln := by
  have e : (nI ln - 3).toInt = (ln : Int) - 3 := by
    rw [Int32.toInt_sub, nI_toInt (by omega)]
    exact Int.bmod_eq_of_le (by show _ ≤ (ln : Int) - 3; omega) (by show (ln : Int) - 3 < _; omega)
  rw [Int32.lt_iff_toInt_lt, e, nI_toInt ht]
  omega
section Cards
variable {a : Nat → Nat} {S : St} {b n k u : Nat} {v h : Nat → Nat → Nat} {sh : Nat → Nat → Nat} {el : Nat → Nat → Int64}
/-- what cards() answers where it isn't by the row -/
def cdV (sh : Nat → Nat → Nat) (x m : Int32) : Int32 := if ¬ ((0 ≤ x ∧ x < 6) ∧ (1 ≤ m ∧ m ≤ 8)) then -1 else if sh x.toNatClampNeg 0 = 0 then 0 else if ¬ (sh x.toNatClampNeg 0 = 2 ∧ sh x.toNatClampNeg 2 = 0) then -12 else 0
def cdOk (sh : Nat → Nat → Nat) (x i m : Int32) : Prop := ((0 ≤ x ∧ x < 6) ∧ (1 ≤ m ∧ m ≤ 8)) ∧ (sh x.toNatClampNeg 0 = 2 ∧ sh x.toNatClampNeg 2 = 0) ∧ 0 ≤ i

set_option maxRecDepth 20000 in
theorem s_X7_cards_bad {x y m : Int32} (h : SC sh el S) (hs : SOk b sh) (hb : ¬ cdOk sh x y m) : Rt a mX7_cards 5 [.ref (a 0), .int x, .int y, .int m] S (some (.int (cdV sh x m))) S := by
  show J _ _ _ _ 0 [_, _, _, _, .null] [] _
  refine j_ild1 dX7_cards_0 ?_
  refine j_bipush (6) dX7_cards_1 rfl ?_
  refine j_cS2 dX7_cards_3 kX7_within zX7_within (Or.inl l7_72) (Nat.le_of_ble_eq_true rfl) (Nat.le_of_ble_eq_true rfl) (by omega) (s_X7_within) ?_
  refine j_ifeqB 20 dX7_cards_6 (by decide) (fun c_6 => ?_) (fun c_6 => ?_)
  · refine j_iconst (-1) dX7_cards_20 rfl ?_
    refine j_iret dX7_cards_21 rfl ?_
    exact ⟨by rw [cdV, if_pos (fun q => c_6 q.1)], rfl⟩
  obtain ⟨i, hi, rfl⟩ := in_nI (n := 6) (by decide) c_6
  have hcl : (nI i).toNatClampNeg = i := nI_clamp (by omega)
  obtain ⟨e0, e1, e2, e3, e4⟩ := h i hi
  obtain ⟨s0, s1, s2, s3⟩ := hs.2 i hi
  refine j_ild3 dX7_cards_9 ?_
  refine j_iconst (1) dX7_cards_10 rfl ?_
  refine j_icmplt 20 dX7_cards_11 (by decide) (fun c_11 => ?_) (fun c_11 => ?_)
  · refine j_iconst (-1) dX7_cards_20 rfl ?_
    refine j_iret dX7_cards_21 rfl ?_
    exact ⟨by rw [cdV, if_pos (fun q => absurd c_11 (Int32.not_lt.mpr q.2.1))], rfl⟩
  refine j_ild3 dX7_cards_14 ?_
  refine j_bipush (8) dX7_cards_15 rfl ?_
  refine j_icmple 22 dX7_cards_17 (by decide) (fun c_17 => ?_) (fun c_17 => ?_)
  · refine j_ald0 dX7_cards_22 ?_
    refine j_getR (k := 6) (7) dX7_cards_23 cX7_ok (Or.inl f7_55) rfl (by decide) (by decide) (by decide) rfl ?_
    refine j_ild1 dX7_cards_26 ?_
    refine j_aald (n := i) (8 + i) dX7_cards_27 (Or.inl rfl) (by decide) rfl hi (by decide) (fr_sh hi) ?_
    refine j_ast4 dX7_cards_28 rfl (by decide) ?_
    refine j_ald4 dX7_cards_30 ?_
    refine j_getI (k := 0) dX7_cards_32 cX4_ok (Or.inr ⟨_, f7_76⟩) (ck_sh hi) (by omega) (by decide) (by decide) ?_
    refine j_top (y := nI (sh i 0)) (e0) ?_
    refine j_ifne 40 dX7_cards_35 (by decide) (fun c_35 => ?_) (fun c_35 => ?_)
    · have q_35 : ¬ sh i 0 = 0 := fun z => c_35 (by rw [z]; rfl)
      refine j_ald4 dX7_cards_40 ?_
      refine j_iconst (0) dX7_cards_42 rfl ?_
      refine j_cV1 dX7_cards_43 kX4_isRowOf l7_80 (ck_sh hi) (by omega) rfl (Nat.le_of_ble_eq_true rfl) (Nat.le_of_ble_eq_true rfl) (by omega) (s_X4_isRowOf hi (s := 0) (by decide) h hs) ?_
      refine j_ifneB 52 dX7_cards_46 (by decide) (fun c_46 => ?_) (fun c_46 => ?_)
      · refine j_ild2 dX7_cards_52 ?_
        refine j_ifge 60 dX7_cards_53 (by decide) (fun c_53 => ?_) (fun c_53 => ?_)
        · exact absurd ⟨⟨c_6, Int32.not_lt.mp c_11, c_17⟩, by rw [hcl]; exact c_46, c_53⟩ hb
        refine j_iconst (0) dX7_cards_56 rfl ?_
        refine j_goto 68 dX7_cards_57 (by decide) ?_
        refine j_iret dX7_cards_68 rfl ?_
        exact ⟨by rw [cdV, if_neg (not_not_intro ⟨c_6, Int32.not_lt.mp c_11, c_17⟩), hcl, if_neg q_35, if_neg (not_not_intro c_46)], rfl⟩
      refine j_bipush (-12) dX7_cards_49 rfl ?_
      refine j_iret dX7_cards_51 rfl ?_
      exact ⟨by rw [cdV, if_neg (not_not_intro ⟨c_6, Int32.not_lt.mp c_11, c_17⟩), hcl, if_neg q_35, if_pos c_46], rfl⟩
    have q_35 : sh i 0 = 0 := (nI_eq (a := sh i 0) (b := 0) (by omega) (by decide)).mp (Classical.not_not.mp c_35)
    refine j_iconst (0) dX7_cards_38 rfl ?_
    refine j_iret dX7_cards_39 rfl ?_
    exact ⟨by rw [cdV, if_neg (not_not_intro ⟨c_6, Int32.not_lt.mp c_11, c_17⟩), hcl, if_pos q_35], rfl⟩
  refine j_iconst (-1) dX7_cards_20 rfl ?_
  refine j_iret dX7_cards_21 rfl ?_
  exact ⟨by rw [cdV, if_pos (fun q => c_17 q.2.2)], rfl⟩

theorem rh_m2 (hs : SOk b sh) {i : Nat} (hi : i < 6) : rh (sh i) = -2 ↔ sh i 0 = 2 ∧ sh i 2 = 0 := by
  obtain ⟨hb, hs⟩ := hs
  obtain ⟨h0, h1, h2, -⟩ := hs i hi
  unfold rh
  rcases (show sh i 0 = 0 ∨ sh i 0 = 1 ∨ sh i 0 = 2 by omega) with e | e | e
  · simp [e]
  · simp only [e]
    have := h1 e
    simp
    intro z
    rw [← Int32.toInt_inj, nI_toInt (by omega)] at z
    have z2 : ((sh i 1 : Nat) : Int) = -2 := z
    omega
  · have := h2 e
    simp only [e]
    simp
    rcases keptV_cases this with q | q | q | q | q <;> rw [q] <;> decide
theorem long_neg {x : Int32} (h : x < 0) : (x.toInt64 + ((3 : Int32) * 0).toInt64) < 0 := by
  rw [show ((3 : Int32) * 0).toInt64 = 0 from rfl, Int64.add_zero, Int64.lt_iff_toInt_lt, Int32.toInt_toInt64, Int64.toInt_zero]
  rw [Int32.lt_iff_toInt_lt, Int32.toInt_zero] at h
  exact h
set_option maxRecDepth 20000 in
theorem cd_neg {w1 w5 w6 w7 : Value} {y m : Int32} (hw6 : w5.category = 1) (hm : 1 ≤ m) (hy : y < 0) : J a mX8_cards 6 (gm a fun r S' => r = some (.int 0) ∧ S' = S) 58 [.ref (a 61), w1, .int y, .int m, .int 0, w5, w6, w7] [] S := by
  refine j_ild4 dX8_cards_58 ?_
  refine j_ild3 dX8_cards_60 ?_
  refine j_icmpge 196 dX8_cards_61 (by decide) (fun c_61 => absurd c_61 (fun z => absurd (Int32.le_trans hm z) (by decide))) (fun c_61 => ?_)
  refine j_ild2 dX8_cards_64 ?_
  refine j_i2l dX8_cards_65 ?_
  refine j_iconst (3) dX8_cards_66 rfl ?_
  refine j_ild4 dX8_cards_67 ?_
  refine j_imul dX8_cards_69 ?_
  refine j_i2l dX8_cards_70 ?_
  refine j_ladd dX8_cards_71 ?_
  refine j_lst5 dX8_cards_72 rfl (by decide) ?_
  refine j_lld5 dX8_cards_74 ?_
  refine j_lconst (0) dX8_cards_76 rfl ?_
  refine j_lcmp dX8_cards_77 ?_
  refine j_iflt 107 dX8_cards_78 (by decide) (fun c_78 => ?_) (fun c_78 => absurd ((lg_cmp_lt _ _).mpr (long_neg hy)) c_78)
  refine j_ild4 dX8_cards_107 ?_
  refine j_iret dX8_cards_109 rfl ?_
  exact ⟨rfl, rfl⟩

set_option maxRecDepth 20000 in
theorem s_X8_cards_bad {x y m : Int32} (h : SR sh el S) (hs : SOk b sh) (hb : ¬ cdOk sh x y m) : Rt a mX8_cards 6 [.ref (a 61), .int x, .int y, .int m] S (some (.int (cdV sh x m))) S := by
  show J _ _ _ _ 0 [_, _, _, _, .null, .null, .null, .null] [] _
  refine j_ild1 dX8_cards_0 ?_
  refine j_cS1 dX8_cards_1 kX8_isShelf zX8_isShelf (Or.inl l8_163) (Nat.le_of_ble_eq_true rfl) (Nat.le_of_ble_eq_true rfl) (by omega) (s_X8_isShelf) ?_
  refine j_ifeqB 17 dX8_cards_4 (by decide) (fun c_4 => ?_) (fun c_4 => ?_)
  · refine j_iconst (-1) dX8_cards_17 rfl ?_
    refine j_iret dX8_cards_18 rfl ?_
    exact ⟨by rw [cdV, if_pos (fun q => c_4 q.1)], rfl⟩
  obtain ⟨i, hi, rfl⟩ := in_nI (n := 6) (by decide) c_4
  have hcl : (nI i).toNatClampNeg = i := nI_clamp (by omega)
  obtain ⟨e0, e3, e4⟩ := h i hi
  obtain ⟨s0, s1, s2, s3⟩ := hs.2 i hi
  refine j_ild3 dX8_cards_7 ?_
  refine j_iconst (1) dX8_cards_8 rfl ?_
  refine j_bipush (8) dX8_cards_9 rfl ?_
  refine j_cS3 dX8_cards_11 kX8_in zX8_in (Or.inl l8_148) (Nat.le_of_ble_eq_true rfl) (Nat.le_of_ble_eq_true rfl) (by omega) (s_X8_in) ?_
  refine j_ifneB 19 dX8_cards_14 (by decide) (fun c_14 => ?_) (fun c_14 => ?_)
  · refine j_ald0 dX8_cards_19 ?_
    refine j_getR (k := 54) (96) dX8_cards_20 cX8_ok (Or.inl f8_129) rfl (by decide) (by decide) (by decide) rfl ?_
    refine j_ild1 dX8_cards_23 ?_
    refine j_iald (n := i) dX8_cards_24 rfl (by decide) rfl hi (by decide) ?_
    refine j_top (y := rh (sh i)) e0 ?_
    refine j_iconst (-1) dX8_cards_25 rfl ?_
    refine j_icmpeq 43 dX8_cards_26 (by decide) (fun c_26 => ?_) (fun c_26 => ?_)
    · have q_26 : sh i 0 = 0 := (rh_m1 hs hi).mp c_26
      refine j_ald0 dX8_cards_43 ?_
      refine j_getR (k := 54) (96) dX8_cards_44 cX8_ok (Or.inl f8_129) rfl (by decide) (by decide) (by decide) rfl ?_
      refine j_ild1 dX8_cards_47 ?_
      refine j_iald (n := i) dX8_cards_48 rfl (by decide) rfl hi (by decide) ?_
      refine j_top (y := rh (sh i)) e0 ?_
      refine j_iconst (-1) dX8_cards_49 rfl ?_
      refine j_icmpne 55 dX8_cards_50 (by decide) (fun c_50 => ?_) (fun c_50 => ?_)
      · have q_50 : ¬ sh i 0 = 0 := fun z => c_50 ((rh_m1 hs hi).mpr z)
        exact absurd q_26 q_50
      have q_50 : sh i 0 = 0 := (rh_m1 hs hi).mp (Classical.not_not.mp c_50)
      refine j_iconst (0) dX8_cards_53 rfl ?_
      refine j_iret dX8_cards_54 rfl ?_
      exact ⟨by rw [cdV, if_neg (not_not_intro ⟨c_4, c_14⟩), hcl, if_pos q_26], rfl⟩
    have q_26 : ¬ sh i 0 = 0 := fun z => c_26 ((rh_m1 hs hi).mpr z)
    refine j_ald0 dX8_cards_29 ?_
    refine j_getR (k := 54) (96) dX8_cards_30 cX8_ok (Or.inl f8_129) rfl (by decide) (by decide) (by decide) rfl ?_
    refine j_ild1 dX8_cards_33 ?_
    refine j_iald (n := i) dX8_cards_34 rfl (by decide) rfl hi (by decide) ?_
    refine j_top (y := rh (sh i)) e0 ?_
    refine j_bipush (-2) dX8_cards_35 rfl ?_
    refine j_icmpeq 43 dX8_cards_37 (by decide) (fun c_37 => ?_) (fun c_37 => ?_)
    · have q_37 : sh i 0 = 2 ∧ sh i 2 = 0 := (rh_m2 hs hi).mp c_37
      have q_26 : ¬ sh i 0 = 0 := by omega
      refine j_ald0 dX8_cards_43 ?_
      refine j_getR (k := 54) (96) dX8_cards_44 cX8_ok (Or.inl f8_129) rfl (by decide) (by decide) (by decide) rfl ?_
      refine j_ild1 dX8_cards_47 ?_
      refine j_iald (n := i) dX8_cards_48 rfl (by decide) rfl hi (by decide) ?_
      refine j_top (y := rh (sh i)) e0 ?_
      refine j_iconst (-1) dX8_cards_49 rfl ?_
      refine j_icmpne 55 dX8_cards_50 (by decide) (fun c_50 => ?_) (fun c_50 => ?_)
      · have q_50 : ¬ sh i 0 = 0 := fun z => c_50 ((rh_m1 hs hi).mpr z)
        have q_y : y < 0 := Int32.not_le.mp (fun z => hb ⟨⟨c_4, c_14⟩, by rw [hcl]; exact q_37, z⟩)
        rw [show cdV sh (nI i) m = 0 by rw [cdV, if_neg (not_not_intro ⟨c_4, c_14⟩), hcl, if_neg q_26, if_neg (not_not_intro q_37)]]
        refine j_iconst (0) dX8_cards_55 rfl ?_
        refine j_ist4 dX8_cards_56 rfl (by decide) ?_
        exact cd_neg rfl c_14.1 q_y
      have q_50 : sh i 0 = 0 := (rh_m1 hs hi).mp (Classical.not_not.mp c_50)
      refine j_iconst (0) dX8_cards_53 rfl ?_
      refine j_iret dX8_cards_54 rfl ?_
      exact absurd q_50 q_26
    have q_37 : ¬ (sh i 0 = 2 ∧ sh i 2 = 0) := fun z => c_37 ((rh_m2 hs hi).mpr z)
    refine j_bipush (-12) dX8_cards_40 rfl ?_
    refine j_iret dX8_cards_42 rfl ?_
    exact ⟨by rw [cdV, if_neg (not_not_intro ⟨c_4, c_14⟩), hcl, if_neg q_26, if_pos q_37], rfl⟩
  refine j_iconst (-1) dX8_cards_17 rfl ?_
  refine j_iret dX8_cards_18 rfl ?_
  exact ⟨by rw [cdV, if_pos (fun q => c_14 q.2)], rfl⟩

theorem cdF_step {j ln t n : Nat} {e : Nat → Int64} {v : Nat → Nat → Nat} (h1 : t + 3 ≤ ln) (h2 : n < 8) (h3 : CardOk (e t).toInt32 (e (t + 1)).toInt32 (e (t + 2)).toInt32) : cdF (j + 1) ln e t n v = ((cdF j ln e (t + 3) (n + 1) (addV v n (zN (e t)) (zN (e (t + 1))) (zN (e (t + 2))))).1 + 1, (cdF j ln e (t + 3) (n + 1) (addV v n (zN (e t)) (zN (e (t + 1))) (zN (e (t + 2))))).2) := by
  rw [cdF, if_pos ⟨h1, h2, h3⟩]
theorem cdF_no {j ln t n : Nat} {e : Nat → Int64} {v : Nat → Nat → Nat} (h : ¬ (t + 3 ≤ ln ∧ n < 8 ∧ CardOk (e t).toInt32 (e (t + 1)).toInt32 (e (t + 2)).toInt32)) : cdF j ln e t n v = (0, n, v) := by
  cases j with
  | zero => rfl
  | succ j => rw [cdF, if_neg h]
set_option maxRecDepth 20000 in
theorem lp_X7_cardsFrom {i : Nat} (hi : i < 6) (hs : SOk b sh) : ∀ (fu : Nat) (n : Nat) (v : Nat → Nat → Nat) (c j t : Nat) (S : St) (w0 w6 w7 w8 : Value), j < fu → (TC n v S) → (HC k u h S) → (SC sh el S) → (c + j ≤ 8) → (t < 2 ^ 31) → J a mX7_cardsFrom 4 (gm a fun r S' => ∃ r', r = some (.int r') ∧ r' = nI (c + (cdF j (sh i 3) (el i) t n v).1) ∧ Kp [1] S S' ∧ TC (cdF j (sh i 3) (el i) t n v).2.1 (cdF j (sh i 3) (el i) t n v).2.2 S' ∧ HC k u h S') 6 [.ref (a 0), .ref (a (8 + i)), w0, .int (nI (c + j)), .int (nI c), .int (nI t), w6, w7, w8] [] S := by
  intro fu
  induction fu with
  | zero => intro n v c j t S w0 w6 w7 w8 hk; exact absurd hk (Nat.not_lt_zero _)
  | succ fu ih =>
    intro n v c j t S w0 w6 w7 w8 hk ht hh hsc hcj htt
    have s3 := (hs.2 i hi).2.2.2
    have h8 := ht.2.1
    refine j_ild4 dX7_cardsFrom_6 ?_
    refine j_ild3 dX7_cardsFrom_8 ?_
    refine j_icmpge 107 dX7_cardsFrom_9 (by decide) (fun c_9 => ?_) (fun c_9 => ?_)
    · have q_9 : j = 0 := by have := (nI_leI (a := c + j) (b := c) (by omega) (by omega)).mp c_9; omega
      subst q_9
      refine j_ild4 dX7_cardsFrom_107 ?_
      refine j_iret dX7_cardsFrom_109 rfl ?_
      rw [cdF]
      exact ⟨_, rfl, rfl, Kp.rf, ht, hh⟩
    have q_9 : 0 < j := by have := mt (nI_leI (a := c + j) (b := c) (by omega) (by omega)).mpr c_9; omega
    obtain ⟨j, rfl⟩ : ∃ q, j = q + 1 := ⟨j - 1, by omega⟩
    refine j_ild5 dX7_cardsFrom_12 ?_
    refine j_ald1 dX7_cardsFrom_14 ?_
    refine j_getI (k := 3) dX7_cardsFrom_15 cX4_ok (Or.inr ⟨_, f7_88⟩) (ck_sh hi) (by omega) (by decide) (by decide) ?_
    refine j_top (y := nI (sh i 3)) ((hsc i hi).2.2.2.1) ?_
    refine j_iconst (3) dX7_cardsFrom_18 rfl ?_
    refine j_isub dX7_cardsFrom_19 ?_
    refine j_icmpgt 107 dX7_cardsFrom_20 (by decide) (fun c_20 => ?_) (fun c_20 => ?_)
    · have q_20 := (len3 s3 (by omega)).mp c_20
      refine j_ild4 dX7_cardsFrom_107 ?_
      refine j_iret dX7_cardsFrom_109 rfl ?_
      rw [cdF_no (fun z => q_20 z.1)]
      exact ⟨_, rfl, rfl, Kp.rf, ht, hh⟩
    have q_20 : t + 3 ≤ sh i 3 := Classical.not_not.mp (mt (len3 s3 (by omega)).mpr c_20)
    refine j_ald0 dX7_cardsFrom_23 ?_
    refine j_getR (k := 0) (1) dX7_cardsFrom_24 cX7_ok (Or.inl f7_12) rfl (by decide) (by decide) (by decide) rfl ?_
    refine j_getI (k := 1) dX7_cardsFrom_27 cX6_ok (Or.inr ⟨_, f7_91⟩) rfl (by decide) (by decide) (by decide) ?_
    refine j_top (y := nI n) (ht.1) ?_
    refine j_bipush (8) dX7_cardsFrom_30 rfl ?_
    refine j_icmpge 107 dX7_cardsFrom_32 (by decide) (fun c_32 => ?_) (fun c_32 => ?_)
    · have q_32 : ¬ n < 8 := fun z => absurd ((nI_leI (a := 8) (b := n) (by decide) (by omega)).mp c_32) (by omega)
      refine j_ild4 dX7_cardsFrom_107 ?_
      refine j_iret dX7_cardsFrom_109 rfl ?_
      rw [cdF_no (fun z => q_32 z.2.1)]
      exact ⟨_, rfl, rfl, Kp.rf, ht, hh⟩
    have q_32 : n < 8 := Nat.not_le.mp (fun z => c_32 ((nI_leI (a := 8) (b := n) (by decide) (by omega)).mpr z))
    refine j_ald1 dX7_cardsFrom_35 ?_
    refine j_getR (k := 4) (55 + i) dX7_cardsFrom_36 cX4_ok (Or.inr ⟨_, f7_94⟩) (ck_sh hi) (by omega) (by decide) (by decide) (fr_el hi) ?_
    refine j_ild5 dX7_cardsFrom_39 ?_
    refine j_lald (n := t) dX7_cardsFrom_41 (ck_el hi) (by omega) rfl (by omega) (by decide) ?_
    refine j_topL (y := el i t) ((hsc i hi).2.2.2.2 t (by omega)) ?_
    refine j_l2i dX7_cardsFrom_42 ?_
    refine j_ist6 dX7_cardsFrom_43 rfl (by decide) ?_
    refine j_ald1 dX7_cardsFrom_45 ?_
    refine j_getR (k := 4) (55 + i) dX7_cardsFrom_46 cX4_ok (Or.inr ⟨_, f7_94⟩) (ck_sh hi) (by omega) (by decide) (by decide) (fr_el hi) ?_
    refine j_ild5 dX7_cardsFrom_49 ?_
    refine j_iconst (1) dX7_cardsFrom_51 rfl ?_
    refine j_iadd dX7_cardsFrom_52 ?_
    refine j_top (y := nI (t + 1)) (nI_1 t) ?_
    refine j_lald (n := t + 1) dX7_cardsFrom_53 (ck_el hi) (by omega) rfl (by omega) (by decide) ?_
    refine j_topL (y := el i (t + 1)) ((hsc i hi).2.2.2.2 (t + 1) (by omega)) ?_
    refine j_l2i dX7_cardsFrom_54 ?_
    refine j_ist7 dX7_cardsFrom_55 rfl (by decide) ?_
    refine j_ald1 dX7_cardsFrom_57 ?_
    refine j_getR (k := 4) (55 + i) dX7_cardsFrom_58 cX4_ok (Or.inr ⟨_, f7_94⟩) (ck_sh hi) (by omega) (by decide) (by decide) (fr_el hi) ?_
    refine j_ild5 dX7_cardsFrom_61 ?_
    refine j_iconst (2) dX7_cardsFrom_63 rfl ?_
    refine j_iadd dX7_cardsFrom_64 ?_
    refine j_top (y := nI (t + 2)) (nI_add t 2) ?_
    refine j_lald (n := t + 2) dX7_cardsFrom_65 (ck_el hi) (by omega) rfl (by omega) (by decide) ?_
    refine j_topL (y := el i (t + 2)) ((hsc i hi).2.2.2.2 (t + 2) (by omega)) ?_
    refine j_l2i dX7_cardsFrom_66 ?_
    refine j_ist8 dX7_cardsFrom_67 rfl (by decide) ?_
    refine j_ild6 dX7_cardsFrom_69 ?_
    refine j_ild7 dX7_cardsFrom_71 ?_
    refine j_ild8 dX7_cardsFrom_73 ?_
    refine j_cS3 dX7_cardsFrom_75 kX6_mayBeCard zX6_mayBeCard (Or.inl l7_64) (Nat.le_of_ble_eq_true rfl) (Nat.le_of_ble_eq_true rfl) (by omega) (s_X6_mayBeCard) ?_
    refine j_ifneB 84 dX7_cardsFrom_78 (by decide) (fun c_78 => ?_) (fun c_78 => ?_)
    · refine j_ald0 dX7_cardsFrom_84 ?_
      refine j_getR (k := 0) (1) dX7_cardsFrom_85 cX7_ok (Or.inl f7_12) rfl (by decide) (by decide) (by decide) rfl ?_
      refine j_ild6 dX7_cardsFrom_88 ?_
      refine j_ild7 dX7_cardsFrom_90 ?_
      refine j_ild8 dX7_cardsFrom_92 ?_
      obtain ⟨p, q, r, hp, hq, hr, ep, eq, er⟩ := CardOk.nat c_78
      refine j_cV3 dX7_cardsFrom_94 kX6_addCard l7_68 rfl (by decide) rfl (Nat.le_of_ble_eq_true rfl) (Nat.le_of_ble_eq_true rfl) (by omega) (s_X6_addCard ht.1 q_32) ?_
      refine j_pop dX7_cardsFrom_97 rfl ?_
      refine j_iinc4 (nI (c + 1)) dX7_cardsFrom_98 (nI_1 c) rfl (by decide) ?_
      refine j_iinc5 (nI (t + 3)) dX7_cardsFrom_101 (nI_add t 3) rfl (by decide) ?_
      refine j_goto 6 dX7_cardsFrom_104 (by decide) ?_
      have ez : zN (el i t) = p ∧ zN (el i (t + 1)) = q ∧ zN (el i (t + 2)) = r := by unfold zN; rw [ep, eq, er]; exact ⟨nI_clamp (by omega), nI_clamp (by omega), nI_clamp (by omega)⟩
      rw [ep, eq, er]
      have ht2 := TC.add ht q_32 hp hq hr
      have hh2 : HC k u h _ := hh.add (n := n) (x := nI p) (y := nI q) (z := nI r) (t := nI (n + 1))
      have hk2 : Kp [1] S (uI (uI (uI (uI S 17 n (nI p)) 18 n (nI q)) 16 n (nI r)) 1 1 (nI (n + 1))) := Kp_uI (Kp_uI (Kp_uI (Kp_uI Kp.rf (by exact List.mem_singleton.mpr rfl)) (by exact List.mem_singleton.mpr rfl)) (by exact List.mem_singleton.mpr rfl)) (by exact List.mem_singleton.mpr rfl)
      rw [cdF_step q_20 q_32 c_78, ez.1, ez.2.1, ez.2.2]
      have e3 : nI (c + 1 + j) = nI (c + (j + 1)) := by rw [show c + 1 + j = c + (j + 1) by omega]
      rw [← e3]
      refine J.post (ih (n + 1) (addV v n p q r) (c + 1) j (t + 3) _ _ _ _ _ (by omega) ht2 hh2 (hsc.kp hk2 (by decide)) (by omega) (by omega)) (fun r' S' hq => ?_)
      obtain ⟨r2, e1, e2, k1, t1, h1⟩ := hq
      exact ⟨r2, e1, by rw [e2, show c + 1 + (cdF j (sh i 3) (el i) (t + 3) (n + 1) (addV v n p q r)).1 = c + ((cdF j (sh i 3) (el i) (t + 3) (n + 1) (addV v n p q r)).1 + 1) by omega], hk2.tr k1, t1, h1⟩
    refine j_ild4 dX7_cardsFrom_81 ?_
    refine j_iret dX7_cardsFrom_83 rfl ?_
    rw [cdF_no (fun z => c_78 z.2.2)]
    exact ⟨_, rfl, rfl, Kp.rf, ht, hh⟩

set_option maxRecDepth 20000 in
theorem s_X7_cardsFrom {i t m : Nat} (hi : i < 6) (hs : SOk b sh) (ht : TC n v S) (hh : HC k u h S) (hsc : SC sh el S) (hm : m ≤ 8) (htt : t < 2 ^ 31) : Rqi a mX7_cardsFrom 4 [.ref (a 0), .ref (a (8 + i)), .int (nI t), .int (nI m)] S (fun r S' => r = nI (cdF m (sh i 3) (el i) t n v).1 ∧ Kp [1] S S' ∧ TC (cdF m (sh i 3) (el i) t n v).2.1 (cdF m (sh i 3) (el i) t n v).2.2 S' ∧ HC k u h S') := by
  show J _ _ _ _ 0 [_, _, _, _, .null, .null, .null, .null, .null] [] _
  refine j_iconst (0) dX7_cardsFrom_0 rfl ?_
  refine j_ist4 dX7_cardsFrom_1 rfl (by decide) ?_
  refine j_ild2 dX7_cardsFrom_3 ?_
  refine j_ist5 dX7_cardsFrom_4 rfl (by decide) ?_
  have hl := lp_X7_cardsFrom (a := a) (h := h) (k := k) (u := u) hi hs (m + 1) n v 0 m t S (.int (nI t)) .null .null .null (by omega) ht hh hsc (by omega) htt
  simp only [Nat.zero_add, Nat.mul_zero, Nat.add_zero] at hl
  refine J.post hl (fun r S' hq => ?_)
  obtain ⟨r2, e1, e2, hq⟩ := hq
  exact ⟨r2, e1, e2, hq⟩

set_option maxRecDepth 20000 in
theorem s_X7_cards {i t m : Nat} (hi : i < 6) (hs : SOk b sh) (ht : TC n v S) (hh : HC k u h S) (hsc : SC sh el S) (hi2 : sh i 0 = 2) (hi0 : sh i 2 = 0) (hm1 : 1 ≤ m) (hm8 : m ≤ 8) (htt : t < 2 ^ 31) : Rqi a mX7_cards 5 [.ref (a 0), .int (nI i), .int (nI t), .int (nI m)] S (fun r S' => r = nI (cdF m (sh i 3) (el i) t n v).1 ∧ Kp [1] S S' ∧ TC (cdF m (sh i 3) (el i) t n v).2.1 (cdF m (sh i 3) (el i) t n v).2.2 S' ∧ HC k u h S') := by
  show J _ _ _ _ 0 [_, _, _, _, .null] [] _
  refine j_ild1 dX7_cards_0 ?_
  refine j_bipush (6) dX7_cards_1 rfl ?_
  refine j_cS2 dX7_cards_3 kX7_within zX7_within (Or.inl l7_72) (Nat.le_of_ble_eq_true rfl) (Nat.le_of_ble_eq_true rfl) (by omega) (s_X7_within) ?_
  refine j_ifeqB 20 dX7_cards_6 (by decide) (fun c_6 => absurd c_6 (not_not_intro (nI_in' hi (by decide)))) (fun c_6 => ?_)
  refine j_ild3 dX7_cards_9 ?_
  refine j_iconst (1) dX7_cards_10 rfl ?_
  refine j_icmplt 20 dX7_cards_11 (by decide) (fun c_11 => absurd c_11 (Int32.not_lt.mpr (nI_le (a := 1) (b := m) (by omega) (by omega)))) (fun c_11 => ?_)
  refine j_ild3 dX7_cards_14 ?_
  refine j_bipush (8) dX7_cards_15 rfl ?_
  refine j_icmple 22 dX7_cards_17 (by decide) (fun c_17 => ?_) (fun c_17 => absurd (nI_le (a := m) (b := 8) (by omega) (by decide)) c_17)
  refine j_ald0 dX7_cards_22 ?_
  refine j_getR (k := 6) (7) dX7_cards_23 cX7_ok (Or.inl f7_55) rfl (by decide) (by decide) (by decide) rfl ?_
  refine j_ild1 dX7_cards_26 ?_
  refine j_aald (n := i) (8 + i) dX7_cards_27 (Or.inl rfl) (by decide) rfl hi (by decide) (fr_sh hi) ?_
  refine j_ast4 dX7_cards_28 rfl (by decide) ?_
  refine j_ald4 dX7_cards_30 ?_
  refine j_getI (k := 0) dX7_cards_32 cX4_ok (Or.inr ⟨_, f7_76⟩) (ck_sh hi) (by omega) (by decide) (by decide) ?_
  refine j_top (y := nI 2) ((hsc i hi).1.trans (by rw [hi2])) ?_
  refine j_ifne 40 dX7_cards_35 (by decide) (fun c_35 => ?_) (fun c_35 => absurd (by decide) c_35)
  refine j_ald4 dX7_cards_40 ?_
  refine j_iconst (0) dX7_cards_42 rfl ?_
  refine j_cV1 dX7_cards_43 kX4_isRowOf l7_80 (ck_sh hi) (by omega) rfl (Nat.le_of_ble_eq_true rfl) (Nat.le_of_ble_eq_true rfl) (by omega) (s_X4_isRowOf hi (s := 0) (by decide) hsc hs) ?_
  refine j_ifneB 52 dX7_cards_46 (by decide) (fun c_46 => ?_) (fun c_46 => absurd (⟨hi2, hi0⟩) c_46)
  refine j_ild2 dX7_cards_52 ?_
  refine j_ifge 60 dX7_cards_53 (by decide) (fun c_53 => ?_) (fun c_53 => absurd (nI_pos' (by omega)) c_53)
  refine j_ald0 dX7_cards_60 ?_
  refine j_ald4 dX7_cards_61 ?_
  refine j_ild2 dX7_cards_63 ?_
  refine j_ild3 dX7_cards_64 ?_
  refine j_qiV3 dX7_cards_65 kX7_cardsFrom l7_84 rfl (by decide) rfl (Nat.le_of_ble_eq_true rfl) (Nat.le_of_ble_eq_true rfl) (by omega) (s_X7_cardsFrom hi hs ht hh hsc hm8 htt) (fun r1 S1 h1 => ?_)
  refine j_iret dX7_cards_68 rfl ?_
  exact ⟨_, rfl, h1⟩

theorem less8 {v0 v1 v2 v3 v4 v5 v6 v7 : Value} {q : Nat} {w : Value} (h1 : [v0, v1, v2, v3, v4, .null, .null, .null][q]? = some w) (h2 : w ≠ .null) : [v0, v1, v2, v3, v4, v5, v6, v7][q]? = some w := by
  rcases (show q = 0 ∨ q = 1 ∨ q = 2 ∨ q = 3 ∨ q = 4 ∨ q = 5 ∨ q = 6 ∨ q = 7 ∨ 8 ≤ q by omega) with rfl | rfl | rfl | rfl | rfl | rfl | rfl | rfl | h
  · exact h1
  · exact h1
  · exact h1
  · exact h1
  · exact h1
  · simp at h1; exact absurd h1.symm h2
  · simp at h1; exact absurd h1.symm h2
  · simp at h1; exact absurd h1.symm h2
  · rw [List.getElem?_eq_none (by simpa using h)] at h1; cases h1
set_option maxRecDepth 20000 in
theorem lp_X8_cards {i t : Nat} (hi : i < 6) (hs : SOk b sh) (htt : t < 2 ^ 31) : ∀ (fu : Nat) (n : Nat) (v : Nat → Nat → Nat) (c j : Nat) (S : St) (w5 w6 w7 : Value), j < fu → (TR n v S) → (HR k u h S) → (SR sh el S) → (c + j ≤ 8) → (w5.category = 1) → J a mX8_cards 6 (gm a fun r S' => ∃ r', r = some (.int r') ∧ r' = nI (c + (cdF j (sh i 3) (el i) (t + 3 * c) n v).1) ∧ Kp [11, 15] S S' ∧ TR (cdF j (sh i 3) (el i) (t + 3 * c) n v).2.1 (cdF j (sh i 3) (el i) (t + 3 * c) n v).2.2 S' ∧ HR k u h S') 58 [.ref (a 61), .int (nI i), .int (nI t), .int (nI (c + j)), .int (nI c), w5, w6, w7] [] S := by
  intro fu
  induction fu with
  | zero => intro n v c j S w5 w6 w7 hk; exact absurd hk (Nat.not_lt_zero _)
  | succ fu ih =>
    intro n v c j S w5 w6 w7 hk ht hh hsc hcj hw5
    have s3 := (hs.2 i hi).2.2.2
    have h8 := ht.2.1
    refine j_ild4 dX8_cards_58 ?_
    refine j_ild3 dX8_cards_60 ?_
    refine j_icmpge 196 dX8_cards_61 (by decide) (fun c_61 => ?_) (fun c_61 => ?_)
    · have q_61 : j = 0 := by have := (nI_leI (a := c + j) (b := c) (by omega) (by omega)).mp c_61; omega
      subst q_61
      refine j_ild3 dX8_cards_196 ?_
      refine j_iret dX8_cards_197 rfl ?_
      rw [cdF]
      exact ⟨_, rfl, rfl, Kp.rf, ht, hh⟩
    have q_61 : 0 < j := by have := mt (nI_leI (a := c + j) (b := c) (by omega) (by omega)).mpr c_61; omega
    obtain ⟨j, rfl⟩ : ∃ q, j = q + 1 := ⟨j - 1, by omega⟩
    refine j_ild2 dX8_cards_64 ?_
    refine j_i2l dX8_cards_65 ?_
    refine j_iconst (3) dX8_cards_66 rfl ?_
    refine j_ild4 dX8_cards_67 ?_
    refine j_imul dX8_cards_69 ?_
    refine j_top (y := nI (3 * c)) (by exact pk_mul 3 c) ?_
    refine j_i2l dX8_cards_70 ?_
    refine j_ladd dX8_cards_71 ?_
    refine j_topL (y := lN (t + 3 * c)) (by rw [nI_l htt, nI_l (by omega), lN_add]) ?_
    refine j_lst5 dX8_cards_72 rfl (by decide) ?_
    refine j_lld5 dX8_cards_74 ?_
    refine j_lconst (0) dX8_cards_76 rfl ?_
    refine j_lcmp dX8_cards_77 ?_
    refine j_iflt 107 dX8_cards_78 (by decide) (fun c_78 => absurd c_78 (fun z => absurd ((lg_cmp_lt _ _).mp z) (fun z2 => absurd ((pk_lLT (a := t + 3 * c) (b := 0) (by omega) (by decide)).mp z2) (by omega)))) (fun c_78 => ?_)
    refine j_lld5 dX8_cards_81 ?_
    refine j_ldc2_w (v := 2) dX8_cards_83 q8_166 ?_
    refine j_ladd dX8_cards_86 ?_
    refine j_topL (y := lN (t + 3 * c + 2)) (by exact lN_add (t + 3 * c) 2) ?_
    refine j_ald0 dX8_cards_87 ?_
    refine j_getR (k := 55) (97) dX8_cards_88 cX8_ok (Or.inl f8_132) rfl (by decide) (by decide) (by decide) rfl ?_
    refine j_ild1 dX8_cards_91 ?_
    refine j_iald (n := i) dX8_cards_92 rfl (by decide) rfl hi (by decide) ?_
    refine j_top (y := nI (sh i 3)) (hsc i hi).2.1 ?_
    refine j_i2l dX8_cards_93 ?_
    refine j_topL (y := lN (sh i 3)) (nI_l (by omega)) ?_
    refine j_lcmp dX8_cards_94 ?_
    refine j_ifge 107 dX8_cards_95 (by decide) (fun c_95 => ?_) (fun c_95 => ?_)
    · have q_95 : sh i 3 ≤ t + 3 * c + 2 := (pk_lLE (by omega) (by omega)).mp ((lg_cmp_ge _ _).mp c_95)
      refine j_ild4 dX8_cards_107 ?_
      refine j_iret dX8_cards_109 rfl ?_
      rw [cdF_no (fun z => absurd z.1 (by omega))]
      exact ⟨_, rfl, rfl, Kp.rf, ht, hh⟩
    have q_95 : t + 3 * c + 3 ≤ sh i 3 := by
      have := mt (fun z => (lg_cmp_ge (lN (t + 3 * c + 2)) (lN (sh i 3))).mpr ((pk_lLE (by omega) (by omega)).mpr z)) c_95
      omega
    refine j_ald0 dX8_cards_98 ?_
    refine j_getI (k := 1) dX8_cards_99 cX8_ok (Or.inl f8_145) rfl (by decide) (by decide) (by decide) ?_
    refine j_top (y := nI n) (ht.1) ?_
    refine j_bipush (8) dX8_cards_102 rfl ?_
    refine j_icmpne 110 dX8_cards_104 (by decide) (fun c_104 => ?_) (fun c_104 => ?_)
    · have q_104 : n < 8 := by
        have : ¬ n = 8 := fun z => c_104 (by rw [z]; rfl)
        omega
      refine j_bipush (60) dX8_cards_110 rfl ?_
      refine j_ild1 dX8_cards_112 ?_
      refine j_imul dX8_cards_113 ?_
      refine j_top (y := nI (60 * i)) (by exact pk_mul 60 i) ?_
      refine j_lld5 dX8_cards_114 ?_
      refine j_l2i dX8_cards_116 ?_
      refine j_top (y := nI (t + 3 * c)) (lN_i _) ?_
      refine j_iadd dX8_cards_117 ?_
      refine j_top (y := nI (60 * i + (t + 3 * c))) (nI_add _ _) ?_
      refine j_ist7 dX8_cards_118 rfl (by decide) ?_
      refine j_ald0 dX8_cards_120 ?_
      refine j_getR (k := 56) (98) dX8_cards_121 cX8_ok (Or.inl f8_135) rfl (by decide) (by decide) (by decide) rfl ?_
      refine j_ild7 dX8_cards_124 ?_
      refine j_lald (n := 60 * i + (t + 3 * c)) dX8_cards_126 rfl (by decide) rfl (by show _ < 360; omega) (by decide) ?_
      refine j_topL (y := el i (t + 3 * c)) (by rw [show 60 * i + (t + 3 * c) = 60 * i + (t + 3 * c) by omega]; exact (hsc i hi).2.2 _ (by omega)) ?_
      refine j_l2i dX8_cards_127 ?_
      refine j_ald0 dX8_cards_128 ?_
      refine j_getR (k := 56) (98) dX8_cards_129 cX8_ok (Or.inl f8_135) rfl (by decide) (by decide) (by decide) rfl ?_
      refine j_ild7 dX8_cards_132 ?_
      refine j_iconst (1) dX8_cards_134 rfl ?_
      refine j_iadd dX8_cards_135 ?_
      refine j_top (y := nI (60 * i + (t + 3 * c) + 1)) (nI_1 _) ?_
      refine j_lald (n := 60 * i + (t + 3 * c) + 1) dX8_cards_136 rfl (by decide) rfl (by show _ < 360; omega) (by decide) ?_
      refine j_topL (y := el i (t + 3 * c + 1)) (by rw [show 60 * i + (t + 3 * c) + 1 = 60 * i + (t + 3 * c + 1) by omega]; exact (hsc i hi).2.2 _ (by omega)) ?_
      refine j_l2i dX8_cards_137 ?_
      refine j_ald0 dX8_cards_138 ?_
      refine j_getR (k := 56) (98) dX8_cards_139 cX8_ok (Or.inl f8_135) rfl (by decide) (by decide) (by decide) rfl ?_
      refine j_ild7 dX8_cards_142 ?_
      refine j_iconst (2) dX8_cards_144 rfl ?_
      refine j_iadd dX8_cards_145 ?_
      refine j_top (y := nI (60 * i + (t + 3 * c) + 2)) (by exact nI_add _ 2) ?_
      refine j_lald (n := 60 * i + (t + 3 * c) + 2) dX8_cards_146 rfl (by decide) rfl (by show _ < 360; omega) (by decide) ?_
      refine j_topL (y := el i (t + 3 * c + 2)) (by rw [show 60 * i + (t + 3 * c) + 2 = 60 * i + (t + 3 * c + 2) by omega]; exact (hsc i hi).2.2 _ (by omega)) ?_
      refine j_l2i dX8_cards_147 ?_
      refine j_cS3 dX8_cards_148 kX8_isCardSo zX8_isCardSo (Or.inl l8_156) (Nat.le_of_ble_eq_true rfl) (Nat.le_of_ble_eq_true rfl) (by omega) (s_X8_isCardSo) ?_
      refine j_ifneB 157 dX8_cards_151 (by decide) (fun c_151 => ?_) (fun c_151 => ?_)
      · refine j_ald0 dX8_cards_157 ?_
        refine j_ald0 dX8_cards_158 ?_
        refine j_getR (k := 56) (98) dX8_cards_159 cX8_ok (Or.inl f8_135) rfl (by decide) (by decide) (by decide) rfl ?_
        refine j_ild7 dX8_cards_162 ?_
        refine j_lald (n := 60 * i + (t + 3 * c)) dX8_cards_164 rfl (by decide) rfl (by show _ < 360; omega) (by decide) ?_
        refine j_topL (y := el i (t + 3 * c)) (by rw [show 60 * i + (t + 3 * c) = 60 * i + (t + 3 * c) by omega]; exact (hsc i hi).2.2 _ (by omega)) ?_
        refine j_l2i dX8_cards_165 ?_
        refine j_ald0 dX8_cards_166 ?_
        refine j_getR (k := 56) (98) dX8_cards_167 cX8_ok (Or.inl f8_135) rfl (by decide) (by decide) (by decide) rfl ?_
        refine j_ild7 dX8_cards_170 ?_
        refine j_iconst (1) dX8_cards_172 rfl ?_
        refine j_iadd dX8_cards_173 ?_
        refine j_top (y := nI (60 * i + (t + 3 * c) + 1)) (nI_1 _) ?_
        refine j_lald (n := 60 * i + (t + 3 * c) + 1) dX8_cards_174 rfl (by decide) rfl (by show _ < 360; omega) (by decide) ?_
        refine j_topL (y := el i (t + 3 * c + 1)) (by rw [show 60 * i + (t + 3 * c) + 1 = 60 * i + (t + 3 * c + 1) by omega]; exact (hsc i hi).2.2 _ (by omega)) ?_
        refine j_l2i dX8_cards_175 ?_
        refine j_ald0 dX8_cards_176 ?_
        refine j_getR (k := 56) (98) dX8_cards_177 cX8_ok (Or.inl f8_135) rfl (by decide) (by decide) (by decide) rfl ?_
        refine j_ild7 dX8_cards_180 ?_
        refine j_iconst (2) dX8_cards_182 rfl ?_
        refine j_iadd dX8_cards_183 ?_
        refine j_top (y := nI (60 * i + (t + 3 * c) + 2)) (by exact nI_add _ 2) ?_
        refine j_lald (n := 60 * i + (t + 3 * c) + 2) dX8_cards_184 rfl (by decide) rfl (by show _ < 360; omega) (by decide) ?_
        refine j_topL (y := el i (t + 3 * c + 2)) (by rw [show 60 * i + (t + 3 * c) + 2 = 60 * i + (t + 3 * c + 2) by omega]; exact (hsc i hi).2.2 _ (by omega)) ?_
        refine j_l2i dX8_cards_185 ?_
        obtain ⟨p, q, r, hp, hq, hr, ep, eq, er⟩ := CardOk.nat c_151
        refine j_cV3 dX8_cards_186 kX8_addCard l8_159 rfl (by decide) rfl (Nat.le_of_ble_eq_true rfl) (Nat.le_of_ble_eq_true rfl) (by omega) (s_X8_addCard ht.1 q_104) ?_
        refine j_pop dX8_cards_189 rfl ?_
        refine j_iinc4 (nI (c + 1)) dX8_cards_190 (nI_1 c) rfl (by decide) ?_
        refine j_goto 58 dX8_cards_193 (by decide) ?_
        refine j_less (L1 := [.ref (a 61), .int (nI i), .int (nI t), .int (nI (c + (j + 1))), .int (nI (c + 1)), .null, .null, .null]) (fun q v h1 h2 => less8 h1 h2) ?_
        have ez : zN (el i (t + 3 * c)) = p ∧ zN (el i (t + 3 * c + 1)) = q ∧ zN (el i (t + 3 * c + 2)) = r := by unfold zN; rw [ep, eq, er]; exact ⟨nI_clamp (by omega), nI_clamp (by omega), nI_clamp (by omega)⟩
        rw [ep, eq, er]
        have ht2 := TR.add ht q_104 hp hq hr
        have hh2 : HR k u h _ := hh.add (n := n) (x := nI p) (y := nI q) (z := nI r) (t := nI (n + 1)) (s := 0)
        have hk2 : Kp [11, 15] S (uI (uI (uI (uI (uI S 63 n (nI p)) 64 n (nI q)) 62 n (nI r)) 65 n 0) 61 1 (nI (n + 1))) := Kp_uI (Kp_uI (Kp_uI (Kp_uI (Kp_uI Kp.rf (by exact List.mem_cons_self)) (by exact List.mem_cons_self)) (by exact List.mem_cons_self)) (by exact List.mem_cons_of_mem _ (List.mem_singleton.mpr rfl))) (by exact List.mem_cons_self)
        rw [cdF_step q_95 q_104 c_151, ez.1, ez.2.1, ez.2.2]
        have e3 : nI (c + 1 + j) = nI (c + (j + 1)) := by rw [show c + 1 + j = c + (j + 1) by omega]
        rw [← e3]
        refine J.post (ih (n + 1) (addV v n p q r) (c + 1) j _ _ _ _ (by omega) ht2 hh2 (hsc.kp hk2 (by decide)) (by omega) rfl) (fun r' S' hq => ?_)
        obtain ⟨r2, e1, e2, k1, t1, h1⟩ := hq
        rw [show t + 3 * (c + 1) = t + 3 * c + 3 by omega] at e2 t1
        exact ⟨r2, e1, by rw [e2, show c + 1 + (cdF j (sh i 3) (el i) (t + 3 * c + 3) (n + 1) (addV v n p q r)).1 = c + ((cdF j (sh i 3) (el i) (t + 3 * c + 3) (n + 1) (addV v n p q r)).1 + 1) by omega], hk2.tr k1, t1, h1⟩
      refine j_ild4 dX8_cards_154 ?_
      refine j_iret dX8_cards_156 rfl ?_
      rw [cdF_no (fun z => c_151 z.2.2)]
      exact ⟨_, rfl, rfl, Kp.rf, ht, hh⟩
    have q_104 : ¬ n < 8 := fun z => absurd ((nI_eq (a := n) (b := 8) (by omega) (by decide)).mp (Classical.not_not.mp c_104)) (by omega)
    refine j_ild4 dX8_cards_107 ?_
    refine j_iret dX8_cards_109 rfl ?_
    rw [cdF_no (fun z => q_104 z.2.1)]
    exact ⟨_, rfl, rfl, Kp.rf, ht, hh⟩

set_option maxRecDepth 20000 in
theorem s_X8_cards {i t m : Nat} (hi : i < 6) (hs : SOk b sh) (ht : TR n v S) (hh : HR k u h S) (hsc : SR sh el S) (hi2 : sh i 0 = 2) (hi0 : sh i 2 = 0) (hm1 : 1 ≤ m) (hm8 : m ≤ 8) (htt : t < 2 ^ 31) : Rqi a mX8_cards 6 [.ref (a 61), .int (nI i), .int (nI t), .int (nI m)] S (fun r S' => r = nI (cdF m (sh i 3) (el i) t n v).1 ∧ Kp [11, 15] S S' ∧ TR (cdF m (sh i 3) (el i) t n v).2.1 (cdF m (sh i 3) (el i) t n v).2.2 S' ∧ HR k u h S') := by
  show J _ _ _ _ 0 [_, _, _, _, .null, .null, .null, .null] [] _
  refine j_ild1 dX8_cards_0 ?_
  refine j_cS1 dX8_cards_1 kX8_isShelf zX8_isShelf (Or.inl l8_163) (Nat.le_of_ble_eq_true rfl) (Nat.le_of_ble_eq_true rfl) (by omega) (s_X8_isShelf) ?_
  refine j_ifeqB 17 dX8_cards_4 (by decide) (fun c_4 => absurd c_4 (not_not_intro (nI_in' hi (by decide)))) (fun c_4 => ?_)
  refine j_ild3 dX8_cards_7 ?_
  refine j_iconst (1) dX8_cards_8 rfl ?_
  refine j_bipush (8) dX8_cards_9 rfl ?_
  refine j_cS3 dX8_cards_11 kX8_in zX8_in (Or.inl l8_148) (Nat.le_of_ble_eq_true rfl) (Nat.le_of_ble_eq_true rfl) (by omega) (s_X8_in) ?_
  refine j_ifneB 19 dX8_cards_14 (by decide) (fun c_14 => ?_) (fun c_14 => absurd (⟨nI_le (a := 1) (b := m) (by omega) (by omega), nI_le (a := m) (b := 8) (by omega) (by decide)⟩) c_14)
  refine j_ald0 dX8_cards_19 ?_
  refine j_getR (k := 54) (96) dX8_cards_20 cX8_ok (Or.inl f8_129) rfl (by decide) (by decide) (by decide) rfl ?_
  refine j_ild1 dX8_cards_23 ?_
  refine j_iald (n := i) dX8_cards_24 rfl (by decide) rfl hi (by decide) ?_
  refine j_top (y := rh (sh i)) (hsc i hi).1 ?_
  refine j_iconst (-1) dX8_cards_25 rfl ?_
  refine j_icmpeq 43 dX8_cards_26 (by decide) (fun c_26 => absurd c_26 (fun z => absurd ((rh_m1 hs hi).mp z) (by omega))) (fun c_26 => ?_)
  refine j_ald0 dX8_cards_29 ?_
  refine j_getR (k := 54) (96) dX8_cards_30 cX8_ok (Or.inl f8_129) rfl (by decide) (by decide) (by decide) rfl ?_
  refine j_ild1 dX8_cards_33 ?_
  refine j_iald (n := i) dX8_cards_34 rfl (by decide) rfl hi (by decide) ?_
  refine j_top (y := rh (sh i)) (hsc i hi).1 ?_
  refine j_bipush (-2) dX8_cards_35 rfl ?_
  refine j_icmpeq 43 dX8_cards_37 (by decide) (fun c_37 => ?_) (fun c_37 => absurd ((rh_m2 hs hi).mpr ⟨hi2, hi0⟩) c_37)
  refine j_ald0 dX8_cards_43 ?_
  refine j_getR (k := 54) (96) dX8_cards_44 cX8_ok (Or.inl f8_129) rfl (by decide) (by decide) (by decide) rfl ?_
  refine j_ild1 dX8_cards_47 ?_
  refine j_iald (n := i) dX8_cards_48 rfl (by decide) rfl hi (by decide) ?_
  refine j_top (y := rh (sh i)) (hsc i hi).1 ?_
  refine j_iconst (-1) dX8_cards_49 rfl ?_
  refine j_icmpne 55 dX8_cards_50 (by decide) (fun c_50 => ?_) (fun c_50 => absurd (fun z => absurd ((rh_m1 hs hi).mp z) (by omega)) c_50)
  refine j_iconst (0) dX8_cards_55 rfl ?_
  refine j_ist4 dX8_cards_56 rfl (by decide) ?_
  have hl := lp_X8_cards (a := a) (h := h) (k := k) (u := u) hi hs htt (m + 1) n v 0 m S .null .null .null (by omega) ht hh hsc (by omega) rfl
  simp only [Nat.zero_add, Nat.mul_zero, Nat.add_zero] at hl
  refine J.post hl (fun r S' hq => ?_)
  obtain ⟨r2, e1, e2, hq⟩ := hq
  exact ⟨r2, e1, e2, hq⟩

end Cards
