/-! shift, cards, feed: both sides -/
def spN (L : Nat) (x z : Int32) : Prop := 0 ≤ x ∧ 0 ≤ z ∧ z ≤ nI L ∧ x ≤ nI L - z
theorem sub_toInt {L : Nat} {z : Int32} (hL : L ≤ 60) (hz : 0 ≤ z) : (nI L - z).toInt = (L : Int) - z.toInt := by
  obtain ⟨q, hq, rfl⟩ := nI_ge0 hz
  rw [nI_toInt hq]
  rw [Int32.toInt_sub, nI_toInt (by omega), nI_toInt hq]
  exact Int.bmod_eq_of_le (by omega) (by omega)
theorem spN_iff {L : Nat} {x z : Int32} (hL : L ≤ 60) : spN L x z ↔ ∃ p q, x = nI p ∧ z = nI q ∧ p + q ≤ L := by
  constructor
  · rintro ⟨h1, h2, h3, h4⟩
    have e := sub_toInt hL h2
    obtain ⟨p, hp, rfl⟩ := nI_ge0 h1
    obtain ⟨q, hq, rfl⟩ := nI_ge0 h2
    refine ⟨p, q, rfl, rfl, ?_⟩
    rw [Int32.le_iff_toInt_le, e, nI_toInt hp, nI_toInt hq] at h4
    omega
  · rintro ⟨p, q, rfl, rfl, h⟩
    refine ⟨nI_pos' (by omega), nI_pos' (by omega), nI_le (by omega) (by omega), ?_⟩
    rw [pk_sub (by omega)]
    exact nI_le (by omega) (by omega)
theorem spR_iff {L : Nat} {x z : Int32} (hL : L ≤ 60) (hz : 0 ≤ z) (hx : 0 ≤ x) : x ≤ nI L - z ↔ spN L x z := by
  constructor
  · intro h4
    have e := sub_toInt hL hz
    refine ⟨hx, hz, ?_, h4⟩
    rw [Int32.le_iff_toInt_le, e] at h4
    rw [Int32.le_iff_toInt_le, Int32.toInt_zero] at hx
    rw [Int32.le_iff_toInt_le, nI_toInt (by omega)]
    omega
  · exact fun h => h.2.2.2
section Shift
variable {a : Nat → Nat} {S : St} {b : Nat} {sh : Nat → Nat → Nat} {el : Nat → Nat → Int64}
def shV (sh : Nat → Nat → Nat) (x i o j n : Int32) : Int32 := if ¬ ((0 ≤ x ∧ x < 6) ∧ (0 ≤ o ∧ o < 6)) then -1 else if sh x.toNatClampNeg 0 = 0 ∨ sh o.toNatClampNeg 0 = 0 then -11 else if ¬ (sh x.toNatClampNeg 0 = 2 ∧ sh o.toNatClampNeg 0 = 2 ∧ sh o.toNatClampNeg 2 = sh x.toNatClampNeg 2) then -12 else -13
def shOk (sh : Nat → Nat → Nat) (x i o j n : Int32) : Prop := ((0 ≤ x ∧ x < 6) ∧ (0 ≤ o ∧ o < 6)) ∧ (sh x.toNatClampNeg 0 = 2 ∧ sh o.toNatClampNeg 0 = 2 ∧ sh o.toNatClampNeg 2 = sh x.toNatClampNeg 2) ∧ spN (sh x.toNatClampNeg 3) i n ∧ spN (sh o.toNatClampNeg 3) j n
theorem shOk_iff (hs : SOk b sh) {x i o j n : Int32} (h : shOk sh x i o j n) : ∃ x' i' o' j' n', x = nI x' ∧ i = nI i' ∧ o = nI o' ∧ j = nI j' ∧ n = nI n' ∧ x' < 6 ∧ o' < 6 ∧ sh x' 0 = 2 ∧ sh o' 0 = 2 ∧ sh o' 2 = sh x' 2 ∧ i' + n' ≤ sh x' 3 ∧ j' + n' ≤ sh o' 3 := by
  obtain ⟨⟨h1, h2⟩, ⟨h3, h4, h5⟩, h6, h7⟩ := h
  obtain ⟨x', hx, rfl⟩ := in_nI (n := 6) (by decide) h1
  obtain ⟨o', ho, rfl⟩ := in_nI (n := 6) (by decide) h2
  have e1 : (nI x').toNatClampNeg = x' := nI_clamp (by omega)
  have e2 : (nI o').toNatClampNeg = o' := nI_clamp (by omega)
  rw [e1] at h3 h5 h6
  rw [e2] at h4 h5 h7
  obtain ⟨i', n', rfl, rfl, hi⟩ := (spN_iff (hs.2 x' hx).2.2.2).mp h6
  obtain ⟨j', n2, rfl, e, hj⟩ := (spN_iff (hs.2 o' ho).2.2.2).mp h7
  have b1 := (hs.2 x' hx).2.2.2
  have b2 := (hs.2 o' ho).2.2.2
  have : n2 = n' := (nI_eq (by omega) (by omega)).mp e.symm
  subst this
  exact ⟨x', i', o', j', n2, rfl, rfl, rfl, rfl, rfl, hx, ho, h3, h4, h5, hi, hj⟩

set_option maxRecDepth 20000 in
theorem s_X4_isRowOf {i s : Nat} (hi : i < 6) (hs5 : s < 5) (h : SC sh el S) (hs : SOk b sh) : Rt a mX4_isRowOf 0 [.ref (a (8 + i)), .int (nI s)] S (some (.int (bi (sh i 0 = 2 ∧ sh i 2 = s)))) S := by
  have hs0 := (hs.2 i hi).1
  show J _ _ _ _ 0 [_, _] [] _
  refine j_ald0 dX4_isRowOf_0 ?_
  refine j_getI (k := 0) dX4_isRowOf_1 cX4_ok (Or.inl f4_15) (ck_sh hi) (by omega) (by decide) (by decide) ?_
  refine j_top (y := nI (sh i 0)) ((h i hi).1) ?_
  refine j_iconst (2) dX4_isRowOf_4 rfl ?_
  refine j_icmpne 20 dX4_isRowOf_5 (by decide) (fun c_5 => ?_) (fun c_5 => ?_)
  · have q_5 : ¬ sh i 0 = 2 := fun z => c_5 (by rw [z]; rfl)
    refine j_iconst (0) dX4_isRowOf_20 rfl ?_
    refine j_zret dX4_isRowOf_21 rfl (by decide) ?_
    exact ⟨by rw [bi_f (fun q => q_5 q.1)], rfl⟩
  have q_5 : sh i 0 = 2 := (nI_eq (a := sh i 0) (b := 2) (by omega) (by decide)).mp (Classical.not_not.mp c_5)
  refine j_ald0 dX4_isRowOf_8 ?_
  refine j_getI (k := 2) dX4_isRowOf_9 cX4_ok (Or.inl f4_19) (ck_sh hi) (by omega) (by decide) (by decide) ?_
  refine j_ild1 dX4_isRowOf_12 ?_
  refine j_icmpne 20 dX4_isRowOf_13 (by decide) (fun c_13 => ?_) (fun c_13 => ?_)
  · refine j_iconst (0) dX4_isRowOf_20 rfl ?_
    refine j_zret dX4_isRowOf_21 rfl (by decide) ?_
    exact ⟨by rw [bi_f (fun q => c_13 (by rw [(h i hi).2.2.1 q.1, q.2]))], rfl⟩
  refine j_iconst (1) dX4_isRowOf_16 rfl ?_
  refine j_goto 21 dX4_isRowOf_17 (by decide) ?_
  refine j_zret dX4_isRowOf_21 rfl (by decide) ?_
  exact ⟨by rw [bi_t ⟨q_5, (nI_eq (by have := (hs.2 i hi).2.2.1 q_5; omega) (by omega)).mp (((h i hi).2.2.1 q_5).symm.trans (Classical.not_not.mp c_13))⟩], rfl⟩

abbrev spP (L : Nat) (x z : Int32) : Prop := 0 ≤ x ∧ 0 ≤ z ∧ z ≤ nI L ∧ x ≤ nI L - z
set_option maxRecDepth 20000 in
theorem s_X4_spans {i : Nat} {x z : Int32} (hi : i < 6) (h : SC sh el S) : Rt a mX4_spans 0 [.ref (a (8 + i)), .int x, .int z] S (some (.int (bi (spP (sh i 3) x z)))) S := by
  show J _ _ _ _ 0 [_, _, _] [] _
  refine j_ild1 dX4_spans_0 ?_
  refine j_iflt 30 dX4_spans_1 (by decide) (fun c_1 => ?_) (fun c_1 => ?_)
  · refine j_iconst (0) dX4_spans_30 rfl ?_
    refine j_zret dX4_spans_31 rfl (by decide) ?_
    exact ⟨by rw [bi_f (fun q => absurd c_1 (Int32.not_lt.mpr q.1))], rfl⟩
  refine j_ild2 dX4_spans_4 ?_
  refine j_iflt 30 dX4_spans_5 (by decide) (fun c_5 => ?_) (fun c_5 => ?_)
  · refine j_iconst (0) dX4_spans_30 rfl ?_
    refine j_zret dX4_spans_31 rfl (by decide) ?_
    exact ⟨by rw [bi_f (fun q => absurd c_5 (Int32.not_lt.mpr q.2.1))], rfl⟩
  refine j_ild2 dX4_spans_8 ?_
  refine j_ald0 dX4_spans_9 ?_
  refine j_getI (k := 3) dX4_spans_10 cX4_ok (Or.inl f4_22) (ck_sh hi) (by omega) (by decide) (by decide) ?_
  refine j_top (y := nI (sh i 3)) ((h i hi).2.2.2.1) ?_
  refine j_icmpgt 30 dX4_spans_13 (by decide) (fun c_13 => ?_) (fun c_13 => ?_)
  · refine j_iconst (0) dX4_spans_30 rfl ?_
    refine j_zret dX4_spans_31 rfl (by decide) ?_
    exact ⟨by rw [bi_f (fun q => absurd c_13 (Int32.not_lt.mpr q.2.2.1))], rfl⟩
  refine j_ild1 dX4_spans_16 ?_
  refine j_ald0 dX4_spans_17 ?_
  refine j_getI (k := 3) dX4_spans_18 cX4_ok (Or.inl f4_22) (ck_sh hi) (by omega) (by decide) (by decide) ?_
  refine j_top (y := nI (sh i 3)) ((h i hi).2.2.2.1) ?_
  refine j_ild2 dX4_spans_21 ?_
  refine j_isub dX4_spans_22 ?_
  refine j_icmpgt 30 dX4_spans_23 (by decide) (fun c_23 => ?_) (fun c_23 => ?_)
  · refine j_iconst (0) dX4_spans_30 rfl ?_
    refine j_zret dX4_spans_31 rfl (by decide) ?_
    exact ⟨by rw [bi_f (fun q => absurd c_23 (Int32.not_lt.mpr q.2.2.2))], rfl⟩
  refine j_iconst (1) dX4_spans_26 rfl ?_
  refine j_goto 31 dX4_spans_27 (by decide) ?_
  refine j_zret dX4_spans_31 rfl (by decide) ?_
  exact ⟨by rw [bi_t ⟨Int32.not_lt.mp c_1, Int32.not_lt.mp c_5, Int32.not_lt.mp c_13, Int32.not_lt.mp c_23⟩], rfl⟩

set_option maxRecDepth 20000 in
theorem s_X7_shift_bad {x i o j n : Int32} (h : SC sh el S) (hs : SOk b sh) (hb : ¬ shOk sh x i o j n) : Rt a mX7_shift 2 [.ref (a 0), .int x, .int i, .int o, .int j, .int n] S (some (.int (shV sh x i o j n))) S := by
  show J _ _ _ _ 0 [_, _, _, _, _, _, .null, .null] [] _
  refine j_ild1 dX7_shift_0 ?_
  refine j_bipush (6) dX7_shift_1 rfl ?_
  refine j_cS2 dX7_shift_3 kX7_within zX7_within (Or.inl l7_72) (Nat.le_of_ble_eq_true rfl) (Nat.le_of_ble_eq_true rfl) (by omega) (s_X7_within) ?_
  refine j_ifeqB 18 dX7_shift_6 (by decide) (fun c_6 => ?_) (fun c_6 => ?_)
  · refine j_iconst (-1) dX7_shift_18 rfl ?_
    refine j_iret dX7_shift_19 rfl ?_
    exact ⟨by rw [shV, if_pos (fun q => c_6 q.1)], rfl⟩
  refine j_ild3 dX7_shift_9 ?_
  refine j_bipush (6) dX7_shift_10 rfl ?_
  refine j_cS2 dX7_shift_12 kX7_within zX7_within (Or.inl l7_72) (Nat.le_of_ble_eq_true rfl) (Nat.le_of_ble_eq_true rfl) (by omega) (s_X7_within) ?_
  refine j_ifneB 20 dX7_shift_15 (by decide) (fun c_15 => ?_) (fun c_15 => ?_)
  · obtain ⟨p, hp, rfl⟩ := in_nI (n := 6) (by decide) c_6
    have hcl : (nI p).toNatClampNeg = p := nI_clamp (by omega)
    obtain ⟨s0, s1, s2, s3⟩ := hs.2 p hp
    obtain ⟨q, hq, rfl⟩ := in_nI (n := 6) (by decide) c_15
    have hcl2 : (nI q).toNatClampNeg = q := nI_clamp (by omega)
    obtain ⟨t0, t1, t2, t3⟩ := hs.2 q hq
    refine j_ald0 dX7_shift_20 ?_
    refine j_getR (k := 6) (7) dX7_shift_21 cX7_ok (Or.inl f7_55) rfl (by decide) (by decide) (by decide) rfl ?_
    refine j_ild1 dX7_shift_24 ?_
    refine j_aald (n := p) (8 + p) dX7_shift_25 (Or.inl rfl) (by decide) rfl hp (by decide) (fr_sh hp) ?_
    refine j_ast6 dX7_shift_26 rfl (by decide) ?_
    refine j_ald0 dX7_shift_28 ?_
    refine j_getR (k := 6) (7) dX7_shift_29 cX7_ok (Or.inl f7_55) rfl (by decide) (by decide) (by decide) rfl ?_
    refine j_ild3 dX7_shift_32 ?_
    refine j_aald (n := q) (8 + q) dX7_shift_33 (Or.inl rfl) (by decide) rfl hq (by decide) (fr_sh hq) ?_
    refine j_ast7 dX7_shift_34 rfl (by decide) ?_
    refine j_ald6 dX7_shift_36 ?_
    refine j_getI (k := 0) dX7_shift_38 cX4_ok (Or.inr ⟨_, f7_76⟩) (ck_sh hp) (by omega) (by decide) (by decide) ?_
    refine j_top (y := nI (sh p 0)) ((h p hp).1) ?_
    refine j_ifeq 52 dX7_shift_41 (by decide) (fun c_41 => ?_) (fun c_41 => ?_)
    · have q_41 : sh p 0 = 0 := (nI_eq (a := sh p 0) (b := 0) (by omega) (by decide)).mp c_41
      refine j_bipush (-11) dX7_shift_52 rfl ?_
      refine j_iret dX7_shift_54 rfl ?_
      exact ⟨by rw [shV, if_neg (not_not_intro ⟨c_6, c_15⟩), hcl, hcl2, if_pos (Or.inl q_41)], rfl⟩
    have q_41 : ¬ sh p 0 = 0 := fun z => c_41 (by rw [z]; rfl)
    refine j_ald7 dX7_shift_44 ?_
    refine j_getI (k := 0) dX7_shift_46 cX4_ok (Or.inr ⟨_, f7_76⟩) (ck_sh hq) (by omega) (by decide) (by decide) ?_
    refine j_top (y := nI (sh q 0)) ((h q hq).1) ?_
    refine j_ifne 55 dX7_shift_49 (by decide) (fun c_49 => ?_) (fun c_49 => ?_)
    · have q_49 : ¬ sh q 0 = 0 := fun z => c_49 (by rw [z]; rfl)
      refine j_ald6 dX7_shift_55 ?_
      refine j_getI (k := 0) dX7_shift_57 cX4_ok (Or.inr ⟨_, f7_76⟩) (ck_sh hp) (by omega) (by decide) (by decide) ?_
      refine j_top (y := nI (sh p 0)) ((h p hp).1) ?_
      refine j_iconst (2) dX7_shift_60 rfl ?_
      refine j_icmpne 77 dX7_shift_61 (by decide) (fun c_61 => ?_) (fun c_61 => ?_)
      · have q_61 : ¬ sh p 0 = 2 := fun z => c_61 (by rw [z]; rfl)
        refine j_bipush (-12) dX7_shift_77 rfl ?_
        refine j_iret dX7_shift_79 rfl ?_
        exact ⟨by rw [shV, if_neg (not_not_intro ⟨c_6, c_15⟩), hcl, hcl2, if_neg (fun z => z.elim q_41 q_49), if_pos (fun z => q_61 z.1)], rfl⟩
      have q_61 : sh p 0 = 2 := (nI_eq (a := sh p 0) (b := 2) (by omega) (by decide)).mp (Classical.not_not.mp c_61)
      refine j_ald7 dX7_shift_64 ?_
      refine j_ald6 dX7_shift_66 ?_
      refine j_getI (k := 2) dX7_shift_68 cX4_ok (Or.inr ⟨_, f7_291⟩) (ck_sh hp) (by omega) (by decide) (by decide) ?_
      refine j_top (y := nI (sh p 2)) ((h p hp).2.2.1 q_61) ?_
      refine j_cV1 dX7_shift_71 kX4_isRowOf l7_80 (ck_sh hq) (by omega) rfl (Nat.le_of_ble_eq_true rfl) (Nat.le_of_ble_eq_true rfl) (by omega) (s_X4_isRowOf hq (s2 q_61) h hs) ?_
      refine j_ifneB 80 dX7_shift_74 (by decide) (fun c_74 => ?_) (fun c_74 => ?_)
      · refine j_ald6 dX7_shift_80 ?_
        refine j_ild2 dX7_shift_82 ?_
        refine j_ild5 dX7_shift_83 ?_
        refine j_cV2 dX7_shift_85 kX4_spans l7_298 (ck_sh hp) (by omega) rfl (Nat.le_of_ble_eq_true rfl) (Nat.le_of_ble_eq_true rfl) (by omega) (s_X4_spans hp h) ?_
        refine j_ifeqB 103 dX7_shift_88 (by decide) (fun c_88 => ?_) (fun c_88 => ?_)
        · refine j_bipush (-13) dX7_shift_103 rfl ?_
          refine j_iret dX7_shift_105 rfl ?_
          exact ⟨by rw [shV, if_neg (not_not_intro ⟨c_6, c_15⟩), hcl, hcl2, if_neg (fun z => z.elim q_41 q_49), if_neg (not_not_intro ⟨q_61, c_74⟩)], rfl⟩
        refine j_ald7 dX7_shift_91 ?_
        refine j_ild4 dX7_shift_93 ?_
        refine j_ild5 dX7_shift_95 ?_
        refine j_cV2 dX7_shift_97 kX4_spans l7_298 (ck_sh hq) (by omega) rfl (Nat.le_of_ble_eq_true rfl) (Nat.le_of_ble_eq_true rfl) (by omega) (s_X4_spans hq h) ?_
        refine j_ifneB 106 dX7_shift_100 (by decide) (fun c_100 => ?_) (fun c_100 => ?_)
        · refine absurd ⟨⟨c_6, c_15⟩, ?_, ?_, ?_⟩ hb
          · rw [hcl, hcl2]; exact ⟨q_61, c_74⟩
          · rw [hcl]; exact c_88
          · rw [hcl2]; exact c_100
        refine j_bipush (-13) dX7_shift_103 rfl ?_
        refine j_iret dX7_shift_105 rfl ?_
        exact ⟨by rw [shV, if_neg (not_not_intro ⟨c_6, c_15⟩), hcl, hcl2, if_neg (fun z => z.elim q_41 q_49), if_neg (not_not_intro ⟨q_61, c_74⟩)], rfl⟩
      refine j_bipush (-12) dX7_shift_77 rfl ?_
      refine j_iret dX7_shift_79 rfl ?_
      exact ⟨by rw [shV, if_neg (not_not_intro ⟨c_6, c_15⟩), hcl, hcl2, if_neg (fun z => z.elim q_41 q_49), if_pos (fun z => c_74 ⟨z.2.1, z.2.2⟩)], rfl⟩
    have q_49 : sh q 0 = 0 := (nI_eq (a := sh q 0) (b := 0) (by omega) (by decide)).mp (Classical.not_not.mp c_49)
    refine j_bipush (-11) dX7_shift_52 rfl ?_
    refine j_iret dX7_shift_54 rfl ?_
    exact ⟨by rw [shV, if_neg (not_not_intro ⟨c_6, c_15⟩), hcl, hcl2, if_pos (Or.inr q_49)], rfl⟩
  refine j_iconst (-1) dX7_shift_18 rfl ?_
  refine j_iret dX7_shift_19 rfl ?_
  exact ⟨by rw [shV, if_pos (fun q => c_15 q.2)], rfl⟩

set_option maxRecDepth 20000 in
theorem s_X7_shift {x i o j n : Nat} (h : SC sh el S) (hs : SOk b sh) (hx : x < 6) (ho : o < 6) (hx2 : sh x 0 = 2) (ho2 : sh o 0 = 2) (hso : sh o 2 = sh x 2) (hi : i + n ≤ sh x 3) (hj : j + n ≤ sh o 3) : Rt a mX7_shift 2 [.ref (a 0), .int (nI x), .int (nI i), .int (nI o), .int (nI j), .int (nI n)] S (some (.int (nI n))) (sL S (55 + o) (va_cpy (S.2.1 (55 + x)) (S.2.1 (55 + o)) i j n)) := by
  obtain ⟨s0, s1, s2, s3⟩ := hs.2 x hx
  obtain ⟨t0, t1, t2, t3⟩ := hs.2 o ho
  show J _ _ _ _ 0 [_, _, _, _, _, _, .null, .null] [] _
  refine j_ild1 dX7_shift_0 ?_
  refine j_bipush (6) dX7_shift_1 rfl ?_
  refine j_cS2 dX7_shift_3 kX7_within zX7_within (Or.inl l7_72) (Nat.le_of_ble_eq_true rfl) (Nat.le_of_ble_eq_true rfl) (by omega) (s_X7_within) ?_
  refine j_ifeqB 18 dX7_shift_6 (by decide) (fun c_6 => absurd c_6 (not_not_intro (nI_in' hx (by decide)))) (fun c_6 => ?_)
  refine j_ild3 dX7_shift_9 ?_
  refine j_bipush (6) dX7_shift_10 rfl ?_
  refine j_cS2 dX7_shift_12 kX7_within zX7_within (Or.inl l7_72) (Nat.le_of_ble_eq_true rfl) (Nat.le_of_ble_eq_true rfl) (by omega) (s_X7_within) ?_
  refine j_ifneB 20 dX7_shift_15 (by decide) (fun c_15 => ?_) (fun c_15 => absurd (nI_in' ho (by decide)) c_15)
  refine j_ald0 dX7_shift_20 ?_
  refine j_getR (k := 6) (7) dX7_shift_21 cX7_ok (Or.inl f7_55) rfl (by decide) (by decide) (by decide) rfl ?_
  refine j_ild1 dX7_shift_24 ?_
  refine j_aald (n := x) (8 + x) dX7_shift_25 (Or.inl rfl) (by decide) rfl hx (by decide) (fr_sh hx) ?_
  refine j_ast6 dX7_shift_26 rfl (by decide) ?_
  refine j_ald0 dX7_shift_28 ?_
  refine j_getR (k := 6) (7) dX7_shift_29 cX7_ok (Or.inl f7_55) rfl (by decide) (by decide) (by decide) rfl ?_
  refine j_ild3 dX7_shift_32 ?_
  refine j_aald (n := o) (8 + o) dX7_shift_33 (Or.inl rfl) (by decide) rfl ho (by decide) (fr_sh ho) ?_
  refine j_ast7 dX7_shift_34 rfl (by decide) ?_
  refine j_ald6 dX7_shift_36 ?_
  refine j_getI (k := 0) dX7_shift_38 cX4_ok (Or.inr ⟨_, f7_76⟩) (ck_sh hx) (by omega) (by decide) (by decide) ?_
  refine j_top (y := nI 2) ((h x hx).1.trans (by rw [hx2])) ?_
  refine j_ifeq 52 dX7_shift_41 (by decide) (fun c_41 => absurd c_41 (by decide)) (fun c_41 => ?_)
  refine j_ald7 dX7_shift_44 ?_
  refine j_getI (k := 0) dX7_shift_46 cX4_ok (Or.inr ⟨_, f7_76⟩) (ck_sh ho) (by omega) (by decide) (by decide) ?_
  refine j_top (y := nI 2) ((h o ho).1.trans (by rw [ho2])) ?_
  refine j_ifne 55 dX7_shift_49 (by decide) (fun c_49 => ?_) (fun c_49 => absurd (by decide) c_49)
  refine j_ald6 dX7_shift_55 ?_
  refine j_getI (k := 0) dX7_shift_57 cX4_ok (Or.inr ⟨_, f7_76⟩) (ck_sh hx) (by omega) (by decide) (by decide) ?_
  refine j_top (y := nI 2) ((h x hx).1.trans (by rw [hx2])) ?_
  refine j_iconst (2) dX7_shift_60 rfl ?_
  refine j_icmpne 77 dX7_shift_61 (by decide) (fun c_61 => absurd c_61 (not_not_intro rfl)) (fun c_61 => ?_)
  refine j_ald7 dX7_shift_64 ?_
  refine j_ald6 dX7_shift_66 ?_
  refine j_getI (k := 2) dX7_shift_68 cX4_ok (Or.inr ⟨_, f7_291⟩) (ck_sh hx) (by omega) (by decide) (by decide) ?_
  refine j_top (y := nI (sh x 2)) ((h x hx).2.2.1 hx2) ?_
  refine j_cV1 dX7_shift_71 kX4_isRowOf l7_80 (ck_sh ho) (by omega) rfl (Nat.le_of_ble_eq_true rfl) (Nat.le_of_ble_eq_true rfl) (by omega) (s_X4_isRowOf ho (s2 hx2) h hs) ?_
  refine j_ifneB 80 dX7_shift_74 (by decide) (fun c_74 => ?_) (fun c_74 => absurd (⟨ho2, hso⟩) c_74)
  refine j_ald6 dX7_shift_80 ?_
  refine j_ild2 dX7_shift_82 ?_
  refine j_ild5 dX7_shift_83 ?_
  refine j_cV2 dX7_shift_85 kX4_spans l7_298 (ck_sh hx) (by omega) rfl (Nat.le_of_ble_eq_true rfl) (Nat.le_of_ble_eq_true rfl) (by omega) (s_X4_spans hx h) ?_
  refine j_ifeqB 103 dX7_shift_88 (by decide) (fun c_88 => absurd c_88 (not_not_intro ((spN_iff s3).mpr ⟨i, n, rfl, rfl, hi⟩))) (fun c_88 => ?_)
  refine j_ald7 dX7_shift_91 ?_
  refine j_ild4 dX7_shift_93 ?_
  refine j_ild5 dX7_shift_95 ?_
  refine j_cV2 dX7_shift_97 kX4_spans l7_298 (ck_sh ho) (by omega) rfl (Nat.le_of_ble_eq_true rfl) (Nat.le_of_ble_eq_true rfl) (by omega) (s_X4_spans ho h) ?_
  refine j_ifneB 106 dX7_shift_100 (by decide) (fun c_100 => ?_) (fun c_100 => absurd ((spN_iff t3).mpr ⟨j, n, rfl, rfl, hj⟩) c_100)
  refine j_ald6 dX7_shift_106 ?_
  refine j_getR (k := 4) (55 + x) dX7_shift_108 cX4_ok (Or.inr ⟨_, f7_94⟩) (ck_sh hx) (by omega) (by decide) (by decide) (fr_el hx) ?_
  refine j_ild2 dX7_shift_111 ?_
  refine j_ald7 dX7_shift_112 ?_
  refine j_getR (k := 4) (55 + o) dX7_shift_114 cX4_ok (Or.inr ⟨_, f7_94⟩) (ck_sh ho) (by omega) (by decide) (by decide) (fr_el ho) ?_
  refine j_ild4 dX7_shift_117 ?_
  refine j_ild5 dX7_shift_119 ?_
  refine j_copyl (sp := i) (dp := j) (n := n) dX7_shift_121 l7_301 t_cp_n t_cp_s t_sysini (ck_el hx) (ck_el ho) (by omega) (by omega) rfl rfl rfl (by omega) (by omega) (by decide) (by decide) (Nat.le_of_ble_eq_true rfl) (by omega) ?_
  refine j_ild5 dX7_shift_124 ?_
  refine j_iret dX7_shift_126 rfl ?_
  exact ⟨rfl, rfl⟩

theorem rh_eq2 (hs : SOk b sh) {p q : Nat} (hp : p < 6) (hq : q < 6) (h2 : sh p 0 = 2) (h0 : ¬ sh q 0 = 0) : rh (sh p) = rh (sh q) ↔ sh q 0 = 2 ∧ sh q 2 = sh p 2 := by
  have s2 := (hs.2 p hp).2.2.1 h2
  have b50 := hs.1
  rw [rh_2 h2]
  rcases (show sh q 0 = 1 ∨ sh q 0 = 2 by have := (hs.2 q hq).1; omega) with e | e
  · have := (hs.2 q hq).2.1 e
    rw [rh_1 e]
    constructor
    · intro z
      exfalso
      have : (0 : Int32) ≤ -2 - nI (sh p 2) := by rw [z]; exact nI_pos' (by omega)
      revert this
      rcases keptV_cases s2 with q | q | q | q | q <;> rw [q] <;> decide
    · intro z; omega
  · have t2 := (hs.2 q hq).2.2.1 e
    rw [rh_2 e]
    constructor
    · intro z
      refine ⟨e, ?_⟩
      revert z
      rcases keptV_cases s2 with q | q | q | q | q <;> rcases keptV_cases t2 with r | r | r | r | r <;> rw [q, r] <;> decide
    · intro z; rw [z.2]
set_option maxRecDepth 20000 in
theorem s_X8_shift_bad {x i o j n : Int32} (h : SR sh el S) (hs : SOk b sh) (hb : ¬ shOk sh x i o j n) : Rt a mX8_shift 2 [.ref (a 61), .int x, .int i, .int o, .int j, .int n] S (some (.int (shV sh x i o j n))) S := by
  show J _ _ _ _ 0 [_, _, _, _, _, _, .null] [] _
  refine j_ild1 dX8_shift_0 ?_
  refine j_cS1 dX8_shift_1 kX8_isShelf zX8_isShelf (Or.inl l8_163) (Nat.le_of_ble_eq_true rfl) (Nat.le_of_ble_eq_true rfl) (by omega) (s_X8_isShelf) ?_
  refine j_ifeqB 14 dX8_shift_4 (by decide) (fun c_4 => ?_) (fun c_4 => ?_)
  · refine j_iconst (-1) dX8_shift_14 rfl ?_
    refine j_iret dX8_shift_15 rfl ?_
    exact ⟨by rw [shV, if_pos (fun q => c_4 q.1)], rfl⟩
  refine j_ild3 dX8_shift_7 ?_
  refine j_cS1 dX8_shift_8 kX8_isShelf zX8_isShelf (Or.inl l8_163) (Nat.le_of_ble_eq_true rfl) (Nat.le_of_ble_eq_true rfl) (by omega) (s_X8_isShelf) ?_
  refine j_ifneB 16 dX8_shift_11 (by decide) (fun c_11 => ?_) (fun c_11 => ?_)
  · obtain ⟨p, hp, rfl⟩ := in_nI (n := 6) (by decide) c_4
    have hcl : (nI p).toNatClampNeg = p := nI_clamp (by omega)
    obtain ⟨s0, s1, s2, s3⟩ := hs.2 p hp
    obtain ⟨q, hq, rfl⟩ := in_nI (n := 6) (by decide) c_11
    have hcl2 : (nI q).toNatClampNeg = q := nI_clamp (by omega)
    obtain ⟨t0, t1, t2, t3⟩ := hs.2 q hq
    refine j_ald0 dX8_shift_16 ?_
    refine j_getR (k := 54) (96) dX8_shift_17 cX8_ok (Or.inl f8_129) rfl (by decide) (by decide) (by decide) rfl ?_
    refine j_ild1 dX8_shift_20 ?_
    refine j_iald (n := p) dX8_shift_21 rfl (by decide) rfl hp (by decide) ?_
    refine j_top (y := rh (sh p)) (h p hp).1 ?_
    refine j_iconst (-1) dX8_shift_22 rfl ?_
    refine j_icmpeq 36 dX8_shift_23 (by decide) (fun c_23 => ?_) (fun c_23 => ?_)
    · have q_23 : sh p 0 = 0 := (rh_m1 hs hp).mp c_23
      refine j_bipush (-11) dX8_shift_36 rfl ?_
      refine j_iret dX8_shift_38 rfl ?_
      exact ⟨by rw [shV, if_neg (not_not_intro ⟨c_4, c_11⟩), hcl, hcl2, if_pos (Or.inl q_23)], rfl⟩
    have q_23 : ¬ sh p 0 = 0 := fun z => c_23 ((rh_m1 hs hp).mpr z)
    refine j_ald0 dX8_shift_26 ?_
    refine j_getR (k := 54) (96) dX8_shift_27 cX8_ok (Or.inl f8_129) rfl (by decide) (by decide) (by decide) rfl ?_
    refine j_ild3 dX8_shift_30 ?_
    refine j_iald (n := q) dX8_shift_31 rfl (by decide) rfl hq (by decide) ?_
    refine j_top (y := rh (sh q)) (h q hq).1 ?_
    refine j_iconst (-1) dX8_shift_32 rfl ?_
    refine j_icmpne 39 dX8_shift_33 (by decide) (fun c_33 => ?_) (fun c_33 => ?_)
    · have q_33 : ¬ sh q 0 = 0 := fun z => c_33 ((rh_m1 hs hq).mpr z)
      refine j_ald0 dX8_shift_39 ?_
      refine j_getR (k := 54) (96) dX8_shift_40 cX8_ok (Or.inl f8_129) rfl (by decide) (by decide) (by decide) rfl ?_
      refine j_ild1 dX8_shift_43 ?_
      refine j_iald (n := p) dX8_shift_44 rfl (by decide) rfl hp (by decide) ?_
      refine j_top (y := rh (sh p)) (h p hp).1 ?_
      refine j_ifge 63 dX8_shift_45 (by decide) (fun c_45 => ?_) (fun c_45 => ?_)
      · have q_45 : ¬ sh p 0 = 2 := fun z => by
          have := (rh_ge hs hp).mp c_45
          omega
        refine j_bipush (-12) dX8_shift_63 rfl ?_
        refine j_iret dX8_shift_65 rfl ?_
        exact ⟨by rw [shV, if_neg (not_not_intro ⟨c_4, c_11⟩), hcl, hcl2, if_neg (fun z => z.elim q_23 q_33), if_pos (fun z => q_45 z.1)], rfl⟩
      have q_45 : sh p 0 = 2 := h012 s0 q_23 (fun z => c_45 ((rh_ge hs hp).mpr z))
      refine j_ald0 dX8_shift_48 ?_
      refine j_getR (k := 54) (96) dX8_shift_49 cX8_ok (Or.inl f8_129) rfl (by decide) (by decide) (by decide) rfl ?_
      refine j_ild1 dX8_shift_52 ?_
      refine j_iald (n := p) dX8_shift_53 rfl (by decide) rfl hp (by decide) ?_
      refine j_top (y := rh (sh p)) (h p hp).1 ?_
      refine j_ald0 dX8_shift_54 ?_
      refine j_getR (k := 54) (96) dX8_shift_55 cX8_ok (Or.inl f8_129) rfl (by decide) (by decide) (by decide) rfl ?_
      refine j_ild3 dX8_shift_58 ?_
      refine j_iald (n := q) dX8_shift_59 rfl (by decide) rfl hq (by decide) ?_
      refine j_top (y := rh (sh q)) (h q hq).1 ?_
      refine j_icmpeq 66 dX8_shift_60 (by decide) (fun c_60 => ?_) (fun c_60 => ?_)
      · have q_60 : sh q 0 = 2 ∧ sh q 2 = sh p 2 := (rh_eq2 hs hp hq q_45 q_33).mp c_60
        refine j_ild5 dX8_shift_66 ?_
        refine j_iflt 107 dX8_shift_68 (by decide) (fun c_68 => ?_) (fun c_68 => ?_)
        · refine j_bipush (-13) dX8_shift_107 rfl ?_
          refine j_iret dX8_shift_109 rfl ?_
          exact ⟨by rw [shV, if_neg (not_not_intro ⟨c_4, c_11⟩), hcl, hcl2, if_neg (fun z => z.elim q_23 q_33), if_neg (not_not_intro ⟨q_45, q_60⟩)], rfl⟩
        refine j_ild2 dX8_shift_71 ?_
        refine j_iflt 107 dX8_shift_72 (by decide) (fun c_72 => ?_) (fun c_72 => ?_)
        · refine j_bipush (-13) dX8_shift_107 rfl ?_
          refine j_iret dX8_shift_109 rfl ?_
          exact ⟨by rw [shV, if_neg (not_not_intro ⟨c_4, c_11⟩), hcl, hcl2, if_neg (fun z => z.elim q_23 q_33), if_neg (not_not_intro ⟨q_45, q_60⟩)], rfl⟩
        refine j_ild4 dX8_shift_75 ?_
        refine j_iflt 107 dX8_shift_77 (by decide) (fun c_77 => ?_) (fun c_77 => ?_)
        · refine j_bipush (-13) dX8_shift_107 rfl ?_
          refine j_iret dX8_shift_109 rfl ?_
          exact ⟨by rw [shV, if_neg (not_not_intro ⟨c_4, c_11⟩), hcl, hcl2, if_neg (fun z => z.elim q_23 q_33), if_neg (not_not_intro ⟨q_45, q_60⟩)], rfl⟩
        refine j_ild2 dX8_shift_80 ?_
        refine j_ald0 dX8_shift_81 ?_
        refine j_getR (k := 55) (97) dX8_shift_82 cX8_ok (Or.inl f8_132) rfl (by decide) (by decide) (by decide) rfl ?_
        refine j_ild1 dX8_shift_85 ?_
        refine j_iald (n := p) dX8_shift_86 rfl (by decide) rfl hp (by decide) ?_
        refine j_top (y := nI (sh p 3)) (h p hp).2.1 ?_
        refine j_ild5 dX8_shift_87 ?_
        refine j_isub dX8_shift_89 ?_
        refine j_icmpgt 107 dX8_shift_90 (by decide) (fun c_90 => ?_) (fun c_90 => ?_)
        · refine j_bipush (-13) dX8_shift_107 rfl ?_
          refine j_iret dX8_shift_109 rfl ?_
          exact ⟨by rw [shV, if_neg (not_not_intro ⟨c_4, c_11⟩), hcl, hcl2, if_neg (fun z => z.elim q_23 q_33), if_neg (not_not_intro ⟨q_45, q_60⟩)], rfl⟩
        refine j_ild4 dX8_shift_93 ?_
        refine j_ald0 dX8_shift_95 ?_
        refine j_getR (k := 55) (97) dX8_shift_96 cX8_ok (Or.inl f8_132) rfl (by decide) (by decide) (by decide) rfl ?_
        refine j_ild3 dX8_shift_99 ?_
        refine j_iald (n := q) dX8_shift_100 rfl (by decide) rfl hq (by decide) ?_
        refine j_top (y := nI (sh q 3)) (h q hq).2.1 ?_
        refine j_ild5 dX8_shift_101 ?_
        refine j_isub dX8_shift_103 ?_
        refine j_icmple 110 dX8_shift_104 (by decide) (fun c_104 => ?_) (fun c_104 => ?_)
        · refine absurd ⟨⟨c_4, c_11⟩, ?_, ?_, ?_⟩ hb
          · rw [hcl, hcl2]; exact ⟨q_45, q_60⟩
          · rw [hcl]; exact (spR_iff s3 (Int32.not_lt.mp c_68) (Int32.not_lt.mp c_72)).mp (Int32.not_lt.mp c_90)
          · rw [hcl2]; exact (spR_iff t3 (Int32.not_lt.mp c_68) (Int32.not_lt.mp c_77)).mp c_104
        refine j_bipush (-13) dX8_shift_107 rfl ?_
        refine j_iret dX8_shift_109 rfl ?_
        exact ⟨by rw [shV, if_neg (not_not_intro ⟨c_4, c_11⟩), hcl, hcl2, if_neg (fun z => z.elim q_23 q_33), if_neg (not_not_intro ⟨q_45, q_60⟩)], rfl⟩
      have q_60 : ¬ (sh q 0 = 2 ∧ sh q 2 = sh p 2) := fun z => c_60 ((rh_eq2 hs hp hq q_45 q_33).mpr z)
      refine j_bipush (-12) dX8_shift_63 rfl ?_
      refine j_iret dX8_shift_65 rfl ?_
      exact ⟨by rw [shV, if_neg (not_not_intro ⟨c_4, c_11⟩), hcl, hcl2, if_neg (fun z => z.elim q_23 q_33), if_pos (fun z => q_60 ⟨z.2.1, z.2.2⟩)], rfl⟩
    have q_33 : sh q 0 = 0 := (rh_m1 hs hq).mp (Classical.not_not.mp c_33)
    refine j_bipush (-11) dX8_shift_36 rfl ?_
    refine j_iret dX8_shift_38 rfl ?_
    exact ⟨by rw [shV, if_neg (not_not_intro ⟨c_4, c_11⟩), hcl, hcl2, if_pos (Or.inr q_33)], rfl⟩
  refine j_iconst (-1) dX8_shift_14 rfl ?_
  refine j_iret dX8_shift_15 rfl ?_
  exact ⟨by rw [shV, if_pos (fun q => c_11 q.2)], rfl⟩

/-- c elements of row j0 from p on come to row j1 from q on, as they are in S -/
def mL (S : St) (j0 j1 p q c : Nat) : St := (S.1, fun j t => if j = j1 ∧ q ≤ t ∧ t < q + c then S.2.1 j0 (p + (t - q)) else S.2.1 j t, S.2.2)
theorem mL_0 (S : St) (j0 j1 p q : Nat) : mL S j0 j1 p q 0 = S := by
  refine Prod.ext rfl (Prod.ext ?_ rfl)
  funext j t
  show (if _ then _ else _) = _
  rw [if_neg (by omega)]
theorem mL_step (S : St) {j0 j1 p q c : Nat} : uL (mL S j0 j1 p q c) j1 (q + c) (S.2.1 j0 (p + c)) = mL S j0 j1 p q (c + 1) := by
  refine Prod.ext rfl (Prod.ext ?_ rfl)
  funext j t
  rw [uL_at]
  show (if _ then _ else (if _ then _ else _)) = (if _ then _ else _)
  by_cases h1 : j = j1 ∧ t = q + c
  · rw [if_pos h1, if_pos (by omega), h1.2, show p + (q + c - q) = p + c by omega]
  · rw [if_neg h1]
    by_cases h2 : j = j1 ∧ q ≤ t ∧ t < q + c
    · rw [if_pos h2, if_pos (by omega)]
    · rw [if_neg h2, if_neg (by omega)]
theorem mL_at (S : St) (j0 j1 p q c j t : Nat) : (mL S j0 j1 p q c).2.1 j t = if j = j1 ∧ q ≤ t ∧ t < q + c then S.2.1 j0 (p + (t - q)) else S.2.1 j t := rfl
theorem mL_other (S : St) {j0 j1 p q c j t : Nat} (h : j ≠ j1) : (mL S j0 j1 p q c).2.1 j t = S.2.1 j t := by
  show (if _ then _ else _) = _
  rw [if_neg (by omega)]
set_option maxRecDepth 20000 in
theorem lp_X8_shift1 {g : GG} {x i o j n : Nat} (hx : x < 6) (hin : i + n ≤ 60) (kk : J a mX8_shift 2 g 147 [.ref (a 61), .int (nI x), .int (nI i), .int (nI o), .int (nI j), .int (nI n), .int (nI n)] [] (mL S 98 99 (60 * x + i) 0 n)) : ∀ (k : Nat) (c : Nat), n - c < k → (c ≤ n) → J a mX8_shift 2 g 113 [.ref (a 61), .int (nI x), .int (nI i), .int (nI o), .int (nI j), .int (nI n), .int (nI c)] [] (mL S 98 99 (60 * x + i) 0 c) := by
  intro k
  induction k with
  | zero => intro c hk; exact absurd hk (Nat.not_lt_zero _)
  | succ k ih =>
    intro c hk hc
    refine j_ild6 dX8_shift_113 ?_
    refine j_ild5 dX8_shift_115 ?_
    refine j_icmpge 147 dX8_shift_117 (by decide) (fun c_117 => ?_) (fun c_117 => ?_)
    · have q_117 : c = n := by have := (nI_leI (a := n) (b := c) (by omega) (by omega)).mp c_117; omega
      subst q_117
      exact kk
    have q_117 : c < n := Nat.not_le.mp (fun z => c_117 ((nI_leI (a := n) (b := c) (by omega) (by omega)).mpr z))
    refine j_ald0 dX8_shift_120 ?_
    refine j_getR (k := 57) (99) dX8_shift_121 cX8_ok (Or.inl f8_139) rfl (by decide) (by decide) (by decide) rfl ?_
    refine j_ild6 dX8_shift_124 ?_
    refine j_ald0 dX8_shift_126 ?_
    refine j_getR (k := 56) (98) dX8_shift_127 cX8_ok (Or.inl f8_135) rfl (by decide) (by decide) (by decide) rfl ?_
    refine j_bipush (60) dX8_shift_130 rfl ?_
    refine j_ild1 dX8_shift_132 ?_
    refine j_imul dX8_shift_133 ?_
    refine j_top (y := nI (60 * x)) (by exact pk_mul 60 x) ?_
    refine j_ild2 dX8_shift_134 ?_
    refine j_iadd dX8_shift_135 ?_
    refine j_top (y := nI (60 * x + i)) (nI_add _ _) ?_
    refine j_ild6 dX8_shift_136 ?_
    refine j_iadd dX8_shift_138 ?_
    refine j_top (y := nI (60 * x + i + c)) (nI_add _ _) ?_
    refine j_lald (n := 60 * x + i + c) dX8_shift_139 rfl (by decide) rfl (by show _ < 360; omega) (by decide) ?_
    refine j_topL (y := S.2.1 98 (60 * x + i + c)) (mL_other S (by decide)) ?_
    refine j_last (n := c) dX8_shift_140 rfl (by decide) rfl (by show _ < 60; omega) (by decide) ?_
    refine j_iinc6 (nI (c + 1)) dX8_shift_141 (nI_1 c) rfl (by decide) ?_
    refine j_goto 113 dX8_shift_144 (by decide) ?_
    refine j_S (S' := mL S 98 99 (60 * x + i) 0 (c + 1)) (by have := mL_step S (j0 := 98) (j1 := 99) (p := 60 * x + i) (q := 0) (c := c); rw [Nat.zero_add] at this; exact this) ?_
    exact ih (c + 1) (by omega) (by omega)

set_option maxRecDepth 20000 in
theorem lp_X8_shift2 {x i o j n : Nat} (ho : o < 6) (hjn : j + n ≤ 60) : ∀ (k : Nat) (c : Nat), n - c < k → (c ≤ n) → J a mX8_shift 2 (gm a fun r S' => r = some (.int (nI n)) ∧ S' = mL S 99 98 0 (60 * o + j) n) 150 [.ref (a 61), .int (nI x), .int (nI i), .int (nI o), .int (nI j), .int (nI n), .int (nI c)] [] (mL S 99 98 0 (60 * o + j) c) := by
  intro k
  induction k with
  | zero => intro c hk; exact absurd hk (Nat.not_lt_zero _)
  | succ k ih =>
    intro c hk hc
    refine j_ild6 dX8_shift_150 ?_
    refine j_ild5 dX8_shift_152 ?_
    refine j_icmpge 185 dX8_shift_154 (by decide) (fun c_154 => ?_) (fun c_154 => ?_)
    · have q_154 : c = n := by have := (nI_leI (a := n) (b := c) (by omega) (by omega)).mp c_154; omega
      subst q_154
      refine j_ild5 dX8_shift_185 ?_
      refine j_iret dX8_shift_187 rfl ?_
      exact ⟨rfl, rfl⟩
    have q_154 : c < n := Nat.not_le.mp (fun z => c_154 ((nI_leI (a := n) (b := c) (by omega) (by omega)).mpr z))
    refine j_ald0 dX8_shift_157 ?_
    refine j_getR (k := 56) (98) dX8_shift_158 cX8_ok (Or.inl f8_135) rfl (by decide) (by decide) (by decide) rfl ?_
    refine j_bipush (60) dX8_shift_161 rfl ?_
    refine j_ild3 dX8_shift_163 ?_
    refine j_imul dX8_shift_164 ?_
    refine j_top (y := nI (60 * o)) (by exact pk_mul 60 o) ?_
    refine j_ild4 dX8_shift_165 ?_
    refine j_iadd dX8_shift_167 ?_
    refine j_top (y := nI (60 * o + j)) (nI_add _ _) ?_
    refine j_ild6 dX8_shift_168 ?_
    refine j_iadd dX8_shift_170 ?_
    refine j_top (y := nI (60 * o + j + c)) (nI_add _ _) ?_
    refine j_ald0 dX8_shift_171 ?_
    refine j_getR (k := 57) (99) dX8_shift_172 cX8_ok (Or.inl f8_139) rfl (by decide) (by decide) (by decide) rfl ?_
    refine j_ild6 dX8_shift_175 ?_
    refine j_lald (n := c) dX8_shift_177 rfl (by decide) rfl (by show _ < 60; omega) (by decide) ?_
    refine j_topL (y := S.2.1 99 c) (mL_other S (by decide)) ?_
    refine j_last (n := 60 * o + j + c) dX8_shift_178 rfl (by decide) rfl (by show _ < 360; omega) (by decide) ?_
    refine j_iinc6 (nI (c + 1)) dX8_shift_179 (nI_1 c) rfl (by decide) ?_
    refine j_goto 150 dX8_shift_182 (by decide) ?_
    refine j_S (S' := mL S 99 98 0 (60 * o + j) (c + 1)) (by have := mL_step S (j0 := 99) (j1 := 98) (p := 0) (q := 60 * o + j) (c := c); rw [Nat.zero_add] at this; exact this) ?_
    exact ih (c + 1) (by omega) (by omega)

set_option maxRecDepth 20000 in
theorem shift_147 {x i o j n c : Nat} (ho : o < 6) (hjn : j + n ≤ 60) : J a mX8_shift 2 (gm a fun r S' => r = some (.int (nI n)) ∧ S' = mL S 99 98 0 (60 * o + j) n) 147 [.ref (a 61), .int (nI x), .int (nI i), .int (nI o), .int (nI j), .int (nI n), .int (nI c)] [] S := by
  refine j_iconst (0) dX8_shift_147 rfl ?_
  refine j_ist6 dX8_shift_148 rfl (by decide) ?_
  refine j_S (S' := mL S 99 98 0 (60 * o + j) 0) (mL_0 _ _ _ _ _).symm ?_
  exact lp_X8_shift2 ho hjn (n + 1) 0 (by omega) (by omega)

set_option maxRecDepth 20000 in
theorem s_X8_shift {x i o j n : Nat} (h : SR sh el S) (hs : SOk b sh) (hx : x < 6) (ho : o < 6) (hx2 : sh x 0 = 2) (ho2 : sh o 0 = 2) (hso : sh o 2 = sh x 2) (hi : i + n ≤ sh x 3) (hj : j + n ≤ sh o 3) : Rt a mX8_shift 2 [.ref (a 61), .int (nI x), .int (nI i), .int (nI o), .int (nI j), .int (nI n)] S (some (.int (nI n))) (mL (mL S 98 99 (60 * x + i) 0 n) 99 98 0 (60 * o + j) n) := by
  obtain ⟨s0, s1, s2, s3⟩ := hs.2 x hx
  obtain ⟨t0, t1, t2, t3⟩ := hs.2 o ho
  show J _ _ _ _ 0 [_, _, _, _, _, _, .null] [] _
  refine j_ild1 dX8_shift_0 ?_
  refine j_cS1 dX8_shift_1 kX8_isShelf zX8_isShelf (Or.inl l8_163) (Nat.le_of_ble_eq_true rfl) (Nat.le_of_ble_eq_true rfl) (by omega) (s_X8_isShelf) ?_
  refine j_ifeqB 14 dX8_shift_4 (by decide) (fun c_4 => absurd c_4 (not_not_intro (nI_in' hx (by decide)))) (fun c_4 => ?_)
  refine j_ild3 dX8_shift_7 ?_
  refine j_cS1 dX8_shift_8 kX8_isShelf zX8_isShelf (Or.inl l8_163) (Nat.le_of_ble_eq_true rfl) (Nat.le_of_ble_eq_true rfl) (by omega) (s_X8_isShelf) ?_
  refine j_ifneB 16 dX8_shift_11 (by decide) (fun c_11 => ?_) (fun c_11 => absurd (nI_in' ho (by decide)) c_11)
  refine j_ald0 dX8_shift_16 ?_
  refine j_getR (k := 54) (96) dX8_shift_17 cX8_ok (Or.inl f8_129) rfl (by decide) (by decide) (by decide) rfl ?_
  refine j_ild1 dX8_shift_20 ?_
  refine j_iald (n := x) dX8_shift_21 rfl (by decide) rfl hx (by decide) ?_
  refine j_top (y := rh (sh x)) (h x hx).1 ?_
  refine j_iconst (-1) dX8_shift_22 rfl ?_
  refine j_icmpeq 36 dX8_shift_23 (by decide) (fun c_23 => absurd c_23 (fun z => absurd ((rh_m1 hs hx).mp z) (by omega))) (fun c_23 => ?_)
  refine j_ald0 dX8_shift_26 ?_
  refine j_getR (k := 54) (96) dX8_shift_27 cX8_ok (Or.inl f8_129) rfl (by decide) (by decide) (by decide) rfl ?_
  refine j_ild3 dX8_shift_30 ?_
  refine j_iald (n := o) dX8_shift_31 rfl (by decide) rfl ho (by decide) ?_
  refine j_top (y := rh (sh o)) (h o ho).1 ?_
  refine j_iconst (-1) dX8_shift_32 rfl ?_
  refine j_icmpne 39 dX8_shift_33 (by decide) (fun c_33 => ?_) (fun c_33 => absurd (fun z => absurd ((rh_m1 hs ho).mp z) (by omega)) c_33)
  refine j_ald0 dX8_shift_39 ?_
  refine j_getR (k := 54) (96) dX8_shift_40 cX8_ok (Or.inl f8_129) rfl (by decide) (by decide) (by decide) rfl ?_
  refine j_ild1 dX8_shift_43 ?_
  refine j_iald (n := x) dX8_shift_44 rfl (by decide) rfl hx (by decide) ?_
  refine j_top (y := rh (sh x)) (h x hx).1 ?_
  refine j_ifge 63 dX8_shift_45 (by decide) (fun c_45 => absurd c_45 (fun z => absurd ((rh_ge hs hx).mp z) (by omega))) (fun c_45 => ?_)
  refine j_ald0 dX8_shift_48 ?_
  refine j_getR (k := 54) (96) dX8_shift_49 cX8_ok (Or.inl f8_129) rfl (by decide) (by decide) (by decide) rfl ?_
  refine j_ild1 dX8_shift_52 ?_
  refine j_iald (n := x) dX8_shift_53 rfl (by decide) rfl hx (by decide) ?_
  refine j_top (y := rh (sh x)) (h x hx).1 ?_
  refine j_ald0 dX8_shift_54 ?_
  refine j_getR (k := 54) (96) dX8_shift_55 cX8_ok (Or.inl f8_129) rfl (by decide) (by decide) (by decide) rfl ?_
  refine j_ild3 dX8_shift_58 ?_
  refine j_iald (n := o) dX8_shift_59 rfl (by decide) rfl ho (by decide) ?_
  refine j_top (y := rh (sh o)) (h o ho).1 ?_
  refine j_icmpeq 66 dX8_shift_60 (by decide) (fun c_60 => ?_) (fun c_60 => absurd ((rh_eq2 hs hx ho hx2 (by omega)).mpr ⟨ho2, hso⟩) c_60)
  refine j_ild5 dX8_shift_66 ?_
  refine j_iflt 107 dX8_shift_68 (by decide) (fun c_68 => absurd c_68 (nI_pos (by omega))) (fun c_68 => ?_)
  refine j_ild2 dX8_shift_71 ?_
  refine j_iflt 107 dX8_shift_72 (by decide) (fun c_72 => absurd c_72 (nI_pos (by omega))) (fun c_72 => ?_)
  refine j_ild4 dX8_shift_75 ?_
  refine j_iflt 107 dX8_shift_77 (by decide) (fun c_77 => absurd c_77 (nI_pos (by omega))) (fun c_77 => ?_)
  refine j_ild2 dX8_shift_80 ?_
  refine j_ald0 dX8_shift_81 ?_
  refine j_getR (k := 55) (97) dX8_shift_82 cX8_ok (Or.inl f8_132) rfl (by decide) (by decide) (by decide) rfl ?_
  refine j_ild1 dX8_shift_85 ?_
  refine j_iald (n := x) dX8_shift_86 rfl (by decide) rfl hx (by decide) ?_
  refine j_top (y := nI (sh x 3)) (h x hx).2.1 ?_
  refine j_ild5 dX8_shift_87 ?_
  refine j_isub dX8_shift_89 ?_
  refine j_top (y := nI (sh x 3 - n)) (pk_sub (by omega)) ?_
  refine j_icmpgt 107 dX8_shift_90 (by decide) (fun c_90 => absurd c_90 (Int32.not_lt.mpr (nI_le (by omega) (by omega)))) (fun c_90 => ?_)
  refine j_ild4 dX8_shift_93 ?_
  refine j_ald0 dX8_shift_95 ?_
  refine j_getR (k := 55) (97) dX8_shift_96 cX8_ok (Or.inl f8_132) rfl (by decide) (by decide) (by decide) rfl ?_
  refine j_ild3 dX8_shift_99 ?_
  refine j_iald (n := o) dX8_shift_100 rfl (by decide) rfl ho (by decide) ?_
  refine j_top (y := nI (sh o 3)) (h o ho).2.1 ?_
  refine j_ild5 dX8_shift_101 ?_
  refine j_isub dX8_shift_103 ?_
  refine j_top (y := nI (sh o 3 - n)) (pk_sub (by omega)) ?_
  refine j_icmple 110 dX8_shift_104 (by decide) (fun c_104 => ?_) (fun c_104 => absurd (nI_le (by omega) (by omega)) c_104)
  refine j_iconst (0) dX8_shift_110 rfl ?_
  refine j_ist6 dX8_shift_111 rfl (by decide) ?_
  refine j_S (S' := mL S 98 99 (60 * x + i) 0 0) (mL_0 _ _ _ _ _).symm ?_
  exact lp_X8_shift1 hx (by omega) (shift_147 ho (by omega)) (n + 1) 0 (by omega) (by omega)

def shE (el : Nat → Nat → Int64) (x i o j n : Nat) : Nat → Nat → Int64 := fun i' k => if i' = o ∧ j ≤ k ∧ k < j + n then el x (i + (k - j)) else el i' k
theorem SC.shift (h : SC sh el S) {x i o j n : Nat} (hx : x < 6) (ho : o < 6) (hi : i + n ≤ 60) (hj : j + n ≤ 60) : SC sh (shE el x i o j n) (sL S (55 + o) (va_cpy (S.2.1 (55 + x)) (S.2.1 (55 + o)) i j n)) := by
  intro i' hi'
  obtain ⟨h1, h2, h3, h4, h5⟩ := h i' hi'
  refine ⟨h1, h2, h3, h4, fun k hk => ?_⟩
  rw [sL_at]
  unfold shE
  by_cases e : i' = o
  · subst e
    rw [if_pos rfl]
    unfold va_cpy
    by_cases q : j ≤ k ∧ k < j + n
    · rw [if_pos q, if_pos ⟨rfl, q⟩]; exact (h x hx).2.2.2.2 _ (by omega)
    · rw [if_neg q, if_neg (fun z => q z.2)]; exact h5 k hk
  · rw [if_neg (by omega), if_neg (fun z => e z.1)]; exact h5 k hk
theorem SR.shift (h : SR sh el S) {x i o j n : Nat} (hx : x < 6) (ho : o < 6) (hi : i + n ≤ 60) (hj : j + n ≤ 60) : SR sh (shE el x i o j n) (mL (mL S 98 99 (60 * x + i) 0 n) 99 98 0 (60 * o + j) n) := by
  intro i' hi'
  obtain ⟨h1, h2, h3⟩ := h i' hi'
  refine ⟨h1, h2, fun k hk => ?_⟩
  unfold shE
  rw [mL_at]
  by_cases e : i' = o ∧ j ≤ k ∧ k < j + n
  · rw [if_pos (by omega), mL_at, if_pos (by omega), if_pos e, show 60 * x + i + (0 + (60 * i' + k - (60 * o + j)) - 0) = 60 * x + (i + (k - j)) by omega]
    exact (h x hx).2.2 _ (by omega)
  · rw [if_neg (by omega), mL_at, if_neg (by omega), if_neg e]
    exact h3 k hk
def FC (len : Nat) (t : Nat → Nat) (S : St) : Prop := S.1 0 8 = nI len ∧ len ≤ 120 ∧ ∀ i, i < len → S.1 14 i = nI (t i) ∧ t i < 256
def FR (len : Nat) (t : Nat → Nat) (S : St) : Prop := S.1 61 24 = nI len ∧ len ≤ 120 ∧ ∀ i, i < len → S.1 78 i = (nI (t i)).toInt8.toInt32 ∧ t i < 256
theorem FC.kp {S' : St} {rs : List Nat} {len : Nat} {t : Nat → Nat} (h : FC len t S) (hk : Kp rs S S') (hr : 2 ∉ rs) : FC len t S' := ⟨by rw [hk.i (show rg 0 8 ∉ rs from hr)]; exact h.1, h.2.1, fun i hi => by rw [hk.i (show rg 14 i ∉ rs from hr)]; exact h.2.2 i hi⟩
theorem FR.kp {S' : St} {rs : List Nat} {len : Nat} {t : Nat → Nat} (h : FR len t S) (hk : Kp rs S S') (hr : 12 ∉ rs) : FR len t S' := ⟨by rw [hk.i (show rg 61 24 ∉ rs from hr)]; exact h.1, h.2.1, fun i hi => by rw [hk.i (show rg 78 i ∉ rs from hr)]; exact h.2.2 i hi⟩
theorem FC.feed {len : Nat} {t : Nat → Nat} (h : FC len t S) {x : Nat} (hl : len < 120) (hx : x < 256) : FC (len + 1) (fun i => if i = len then x else t i) (uI (uI S 14 len (nI x)) 0 8 (nI (len + 1))) := by
  refine ⟨by simp [uI_at], by omega, fun i hi => ?_⟩
  by_cases e : i = len
  · subst e; simp [uI_at, hx]
  · have := h.2.2 i (by omega)
    simp [uI_at, e, this]
theorem FR.feed {len : Nat} {t : Nat → Nat} (h : FR len t S) {x : Nat} (hl : len < 120) (hx : x < 256) : FR (len + 1) (fun i => if i = len then x else t i) (uI (uI S 78 len (nI x).toInt8.toInt32) 61 24 (nI (len + 1))) := by
  refine ⟨by simp [uI_at], by omega, fun i hi => ?_⟩
  by_cases e : i = len
  · subst e; simp [uI_at, hx]
  · have := h.2.2 i (by omega)
    simp [uI_at, e, this]
theorem i8_i8 (x : Int32) : x.toInt8.toInt32.toInt8.toInt32 = x.toInt8.toInt32 := by simp
set_option maxRecDepth 20000 in
theorem s_X7_feed_bad {x : Int32} (hb : ¬ (0 ≤ x ∧ x < 256)) : Rt a mX7_feed 1 [.ref (a 0), .int x] S (some (.int (-1))) S := by
  show J _ _ _ _ 0 [_, _] [] _
  refine j_ild1 dX7_feed_0 ?_
  refine j_sipush (256) dX7_feed_1 rfl ?_
  refine j_cS2 dX7_feed_4 kX7_within zX7_within (Or.inl l7_72) (Nat.le_of_ble_eq_true rfl) (Nat.le_of_ble_eq_true rfl) (by omega) (s_X7_within) ?_
  refine j_ifneB 12 dX7_feed_7 (by decide) (fun c_7 => absurd c_7 (hb)) (fun c_7 => ?_)
  refine j_iconst (-1) dX7_feed_10 rfl ?_
  refine j_iret dX7_feed_11 rfl ?_
  exact ⟨rfl, rfl⟩

set_option maxRecDepth 20000 in
theorem s_X7_feed_full {x : Int32} {t : Nat → Nat} (hb : 0 ≤ x ∧ x < 256) (h : FC 120 t S) : Rt a mX7_feed 1 [.ref (a 0), .int x] S (some (.int (-3))) S := by
  show J _ _ _ _ 0 [_, _] [] _
  refine j_ild1 dX7_feed_0 ?_
  refine j_sipush (256) dX7_feed_1 rfl ?_
  refine j_cS2 dX7_feed_4 kX7_within zX7_within (Or.inl l7_72) (Nat.le_of_ble_eq_true rfl) (Nat.le_of_ble_eq_true rfl) (by omega) (s_X7_within) ?_
  refine j_ifneB 12 dX7_feed_7 (by decide) (fun c_7 => ?_) (fun c_7 => absurd (hb) c_7)
  refine j_ald0 dX7_feed_12 ?_
  refine j_getI (k := 8) dX7_feed_13 cX7_ok (Or.inl f7_124) rfl (by decide) (by decide) (by decide) ?_
  refine j_top (y := nI 120) (h.1) ?_
  refine j_bipush (120) dX7_feed_16 rfl ?_
  refine j_icmplt 24 dX7_feed_18 (by decide) (fun c_18 => absurd c_18 (by decide)) (fun c_18 => ?_)
  refine j_bipush (-3) dX7_feed_21 rfl ?_
  refine j_iret dX7_feed_23 rfl ?_
  exact ⟨rfl, rfl⟩

set_option maxRecDepth 20000 in
theorem s_X7_feed {len x : Nat} {t : Nat → Nat} (h : FC len t S) (hl : len < 120) (hx : x < 256) : Rt a mX7_feed 1 [.ref (a 0), .int (nI x)] S (some (.int (nI (len + 1)))) (uI (uI S 14 len (nI x)) 0 8 (nI (len + 1))) := by
  show J _ _ _ _ 0 [_, _] [] _
  refine j_ild1 dX7_feed_0 ?_
  refine j_sipush (256) dX7_feed_1 rfl ?_
  refine j_cS2 dX7_feed_4 kX7_within zX7_within (Or.inl l7_72) (Nat.le_of_ble_eq_true rfl) (Nat.le_of_ble_eq_true rfl) (by omega) (s_X7_within) ?_
  refine j_ifneB 12 dX7_feed_7 (by decide) (fun c_7 => ?_) (fun c_7 => absurd (nI_in' hx (by decide)) c_7)
  refine j_ald0 dX7_feed_12 ?_
  refine j_getI (k := 8) dX7_feed_13 cX7_ok (Or.inl f7_124) rfl (by decide) (by decide) (by decide) ?_
  refine j_top (y := nI len) (h.1) ?_
  refine j_bipush (120) dX7_feed_16 rfl ?_
  refine j_icmplt 24 dX7_feed_18 (by decide) (fun c_18 => ?_) (fun c_18 => absurd ((nI_ltI (a := len) (b := 120) (by omega) (by decide)).mpr hl) c_18)
  refine j_ald0 dX7_feed_24 ?_
  refine j_getR (k := 7) (14) dX7_feed_25 cX7_ok (Or.inl f7_59) rfl (by decide) (by decide) (by decide) rfl ?_
  refine j_ald0 dX7_feed_28 ?_
  refine j_getI (k := 8) dX7_feed_29 cX7_ok (Or.inl f7_124) rfl (by decide) (by decide) (by decide) ?_
  refine j_top (y := nI len) (h.1) ?_
  refine j_ild1 dX7_feed_32 ?_
  refine j_iast dX7_feed_33 rfl (by decide) rfl hl (by decide) ?_
  refine j_ald0 dX7_feed_34 ?_
  refine j_dup dX7_feed_35 rfl ?_
  refine j_getI (k := 8) dX7_feed_36 cX7_ok (Or.inl f7_124) rfl (by decide) (by decide) (by decide) ?_
  refine j_top (y := nI len) (by simp [uI_at, h.1]) ?_
  refine j_iconst (1) dX7_feed_39 rfl ?_
  refine j_iadd dX7_feed_40 ?_
  refine j_top (y := nI (len + 1)) (nI_1 len) ?_
  refine j_putI (k := 8) dX7_feed_41 cX7_ok (Or.inl f7_124) rfl (by decide) (by decide) (by decide) rfl ?_
  refine j_ald0 dX7_feed_44 ?_
  refine j_getI (k := 8) dX7_feed_45 cX7_ok (Or.inl f7_124) rfl (by decide) (by decide) (by decide) ?_
  refine j_top (y := nI (len + 1)) (by simp [uI_at]) ?_
  refine j_iret dX7_feed_48 rfl ?_
  exact ⟨rfl, rfl⟩

set_option maxRecDepth 20000 in
theorem s_X8_feed_bad {x : Int32} (hb : ¬ (0 ≤ x ∧ x < 256)) : Rt a mX8_feed 1 [.ref (a 61), .int x] S (some (.int (-1))) S := by
  show J _ _ _ _ 0 [_, _] [] _
  refine j_ild1 dX8_feed_0 ?_
  refine j_iconst (0) dX8_feed_1 rfl ?_
  refine j_sipush (255) dX8_feed_2 rfl ?_
  refine j_cS3 dX8_feed_5 kX8_in zX8_in (Or.inl l8_148) (Nat.le_of_ble_eq_true rfl) (Nat.le_of_ble_eq_true rfl) (by omega) (s_X8_in) ?_
  refine j_ifneB 13 dX8_feed_8 (by decide) (fun c_8 => absurd c_8 (fun q => hb ⟨q.1, (le_lt (c := 255) (by decide)).mp q.2⟩)) (fun c_8 => ?_)
  refine j_iconst (-1) dX8_feed_11 rfl ?_
  refine j_iret dX8_feed_12 rfl ?_
  exact ⟨rfl, rfl⟩

set_option maxRecDepth 20000 in
theorem s_X8_feed_full {x : Int32} {t : Nat → Nat} (hb : 0 ≤ x ∧ x < 256) (h : FR 120 t S) : Rt a mX8_feed 1 [.ref (a 61), .int x] S (some (.int (-3))) S := by
  show J _ _ _ _ 0 [_, _] [] _
  refine j_ild1 dX8_feed_0 ?_
  refine j_iconst (0) dX8_feed_1 rfl ?_
  refine j_sipush (255) dX8_feed_2 rfl ?_
  refine j_cS3 dX8_feed_5 kX8_in zX8_in (Or.inl l8_148) (Nat.le_of_ble_eq_true rfl) (Nat.le_of_ble_eq_true rfl) (by omega) (s_X8_in) ?_
  refine j_ifneB 13 dX8_feed_8 (by decide) (fun c_8 => ?_) (fun c_8 => absurd (⟨hb.1, (le_lt (c := 255) (by decide)).mpr hb.2⟩) c_8)
  refine j_ald0 dX8_feed_13 ?_
  refine j_getI (k := 24) dX8_feed_14 cX8_ok (Or.inl f8_200) rfl (by decide) (by decide) (by decide) ?_
  refine j_top (y := nI 120) (h.1) ?_
  refine j_bipush (120) dX8_feed_17 rfl ?_
  refine j_icmpne 25 dX8_feed_19 (by decide) (fun c_19 => absurd c_19 (fun z => z rfl)) (fun c_19 => ?_)
  refine j_bipush (-3) dX8_feed_22 rfl ?_
  refine j_iret dX8_feed_24 rfl ?_
  exact ⟨rfl, rfl⟩

set_option maxRecDepth 20000 in
theorem s_X8_feed {len x : Nat} {t : Nat → Nat} (h : FR len t S) (hl : len < 120) (hx : x < 256) : Rt a mX8_feed 1 [.ref (a 61), .int (nI x)] S (some (.int (nI (len + 1)))) (uI (uI S 78 len (nI x).toInt8.toInt32) 61 24 (nI (len + 1))) := by
  show J _ _ _ _ 0 [_, _] [] _
  refine j_ild1 dX8_feed_0 ?_
  refine j_iconst (0) dX8_feed_1 rfl ?_
  refine j_sipush (255) dX8_feed_2 rfl ?_
  refine j_cS3 dX8_feed_5 kX8_in zX8_in (Or.inl l8_148) (Nat.le_of_ble_eq_true rfl) (Nat.le_of_ble_eq_true rfl) (by omega) (s_X8_in) ?_
  refine j_ifneB 13 dX8_feed_8 (by decide) (fun c_8 => ?_) (fun c_8 => absurd (⟨nI_pos' (by omega), nI_le (a := x) (b := 255) (by omega) (by decide)⟩) c_8)
  refine j_ald0 dX8_feed_13 ?_
  refine j_getI (k := 24) dX8_feed_14 cX8_ok (Or.inl f8_200) rfl (by decide) (by decide) (by decide) ?_
  refine j_top (y := nI len) (h.1) ?_
  refine j_bipush (120) dX8_feed_17 rfl ?_
  refine j_icmpne 25 dX8_feed_19 (by decide) (fun c_19 => ?_) (fun c_19 => absurd (fun z => absurd ((nI_eq (a := len) (b := 120) (by omega) (by decide)).mp z) (by omega)) c_19)
  refine j_ald0 dX8_feed_25 ?_
  refine j_getR (k := 23) (78) dX8_feed_26 cX8_ok (Or.inl f8_70) rfl (by decide) (by decide) (by decide) rfl ?_
  refine j_ald0 dX8_feed_29 ?_
  refine j_getI (k := 24) dX8_feed_30 cX8_ok (Or.inl f8_200) rfl (by decide) (by decide) (by decide) ?_
  refine j_top (y := nI len) (h.1) ?_
  refine j_ild1 dX8_feed_33 ?_
  refine j_i2b dX8_feed_34 ?_
  refine j_bast dX8_feed_35 rfl (by decide) rfl hl (by decide) ?_
  rw [i8_i8]
  refine j_ald0 dX8_feed_36 ?_
  refine j_dup dX8_feed_37 rfl ?_
  refine j_getI (k := 24) dX8_feed_38 cX8_ok (Or.inl f8_200) rfl (by decide) (by decide) (by decide) ?_
  refine j_top (y := nI len) (by simp [uI_at, h.1]) ?_
  refine j_iconst (1) dX8_feed_41 rfl ?_
  refine j_iadd dX8_feed_42 ?_
  refine j_top (y := nI (len + 1)) (nI_1 len) ?_
  refine j_putI (k := 24) dX8_feed_43 cX8_ok (Or.inl f8_200) rfl (by decide) (by decide) (by decide) rfl ?_
  refine j_ald0 dX8_feed_46 ?_
  refine j_getI (k := 24) dX8_feed_47 cX8_ok (Or.inl f8_200) rfl (by decide) (by decide) (by decide) ?_
  refine j_top (y := nI (len + 1)) (by simp [uI_at]) ?_
  refine j_iret dX8_feed_50 rfl ?_
  exact ⟨rfl, rfl⟩

end Shift
