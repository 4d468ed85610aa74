/-! judge, cheated: the class -/
/-- below 0: why a shelf is no row of bytes -/
def refB (sh : Nat → Nat → Nat) (x : Int32) : Int32 := if ¬ (0 ≤ x ∧ x < 6) then -1 else if sh x.toNatClampNeg 0 = 0 then -11 else if sh x.toNatClampNeg 0 = 2 ∧ sh x.toNatClampNeg 2 = 0 then 0 else -12
/-- a row of bytes holds such ints -/
def BOk (sh : Nat → Nat → Nat) (el : Nat → Nat → Int64) : Prop := ∀ i, i < 6 → sh i 0 = 2 → sh i 2 = 0 → ∀ k, k < 60 → el i k = (el i k).toInt32.toInt64
def jd (el : Nat → Nat → Int64) (q k : Nat) : Int32 := (el q k).toInt32
theorem refB_ok {sh : Nat → Nat → Nat} {x : Int32} (h : ¬ refB sh x < 0) : ∃ q, q < 6 ∧ x = nI q ∧ (nI q).toNatClampNeg = q ∧ sh q 0 = 2 ∧ sh q 2 = 0 := by
  unfold refB at h
  split at h
  · exact absurd (by decide) h
  · next h1 =>
    split at h
    · exact absurd (by decide) h
    · next h2 =>
      split at h
      · next h3 =>
        obtain ⟨q, hq, rfl⟩ := in_nI (n := 6) (by decide) (Classical.not_not.mp h1)
        have hcl : (nI q).toNatClampNeg = q := nI_clamp (by omega)
        rw [hcl] at h3
        exact ⟨q, hq, rfl, hcl, h3.1, h3.2⟩
      · exact absurd (by decide) h
theorem jd64 (x : Int32) : x.toInt64.toInt32 = x := by simp
theorem i64_0 (x : Int32) : x.toInt64 < 0 ↔ x < 0 := by
  rw [Int64.lt_iff_toInt_lt, Int32.lt_iff_toInt_lt, Int32.toInt_toInt64, Int64.toInt_zero, Int32.toInt_zero]
theorem i64_6 (x : Int32) : x.toInt64 < 6 ↔ x < 6 := by
  rw [Int64.lt_iff_toInt_lt, Int32.lt_iff_toInt_lt, Int32.toInt_toInt64, show (6 : Int64).toInt = 6 from rfl, show (6 : Int32).toInt = 6 from rfl]
/-- the first of the m colours from place k on that cannot be shown -/
def fstJ (v : Nat → Nat → Nat) (b : Option (List Line)) (n : Nat) (e : Nat → Int32) : Nat → Nat → Int32
  | 0, _ => -2
  | m + 1, k => if 0 ≤ e k ∧ e k < 6 ∧ ¬ lkA v b n (e k).toNatClampNeg 1 = 0 then fstJ v b n e m (k + 1) else nI k
def jgV (v : Nat → Nat → Nat) (b : Option (List Line)) (n : Nat) (sh : Nat → Nat → Nat) (el : Nat → Nat → Int64) (x : Int32) : Int32 := if refB sh x < 0 then refB sh x else fstJ v b n (jd el x.toNatClampNeg) (sh x.toNatClampNeg 3) 0
abbrev okC (el : Nat → Nat → Int64) (q k : Nat) : Prop := 0 ≤ jd el q k ∧ jd el q k < 6
def chV (v : Nat → Nat → Nat) (b : Option (List Line)) (n : Nat) (sh : Nat → Nat → Nat) (el : Nat → Nat → Int64) (x : Int32) : Int32 := if refB sh x < 0 then refB sh x else if 3 < sh x.toNatClampNeg 3 then -1 else if ∀ k, k < sh x.toNatClampNeg 3 → okC el x.toNatClampNeg k then (mlA v b n (fun k => (jd el x.toNatClampNeg k).toNatClampNeg) (sh x.toNatClampNeg 3) n).1 else -1
theorem cols_of {sh : Nat → Nat → Nat} {el : Nat → Nat → Int64} {q : Nat} (hb : BOk sh el) (hq : q < 6) (h2 : sh q 0 = 2) (h0 : sh q 2 = 0) (hL : sh q 3 ≤ 60) (h : ∀ k, k < sh q 3 → okC el q k) : Cols sh el q (fun k => (jd el q k).toNatClampNeg) := fun k hk => by
  obtain ⟨c, hc, e⟩ := in_nI (n := 6) (by decide) (h k hk)
  have e2 := hb q hq h2 h0 k (by omega)
  rw [show (el q k).toInt32 = nI c from e, nI_l (by omega)] at e2
  show (jd el q k).toNatClampNeg < 6 ∧ _ = lN (jd el q k).toNatClampNeg
  rw [e, nI_clamp (by omega)]
  exact ⟨hc, e2⟩
section Judge
variable {a : Nat → Nat} {S : St} {n q bb : Nat} {v : Nat → Nat → Nat} {b : Option (List Line)} {sh : Nat → Nat → Nat} {el : Nat → Nat → Int64}

set_option maxRecDepth 20000 in
theorem s_X7_refusedBytes {x : Int32} (hsc : SC sh el S) (hs : SOk bb sh) : Rt a mX7_refusedBytes 1 [.ref (a 0), .int x] S (some (.int (refB sh x))) S := by
  show J _ _ _ _ 0 [_, _] [] _
  refine j_ild1 dX7_refusedBytes_0 ?_
  refine j_bipush (6) dX7_refusedBytes_1 rfl ?_
  refine j_cS2 dX7_refusedBytes_3 kX7_within zX7_within (Or.inl l7_72) (Nat.le_of_ble_eq_true rfl) (Nat.le_of_ble_eq_true rfl) (by omega) (s_X7_within) ?_
  refine j_ifneB 11 dX7_refusedBytes_6 (by decide) (fun c_6 => ?_) (fun c_6 => ?_)
  · obtain ⟨q, hq, rfl⟩ := in_nI (n := 6) (by decide) c_6
    have hcl : (nI q).toNatClampNeg = q := nI_clamp (by omega)
    obtain ⟨e0, e1, e2, e3, e4⟩ := hsc q hq
    obtain ⟨s0, s1, s2, s3⟩ := hs.2 q hq
    refine j_ald0 dX7_refusedBytes_11 ?_
    refine j_getR (k := 6) (7) dX7_refusedBytes_12 cX7_ok (Or.inl f7_55) rfl (by decide) (by decide) (by decide) rfl ?_
    refine j_ild1 dX7_refusedBytes_15 ?_
    refine j_aald (n := q) (8 + q) dX7_refusedBytes_16 (Or.inl rfl) (by decide) rfl hq (by decide) (fr_sh hq) ?_
    refine j_getI (k := 0) dX7_refusedBytes_17 cX4_ok (Or.inr ⟨_, f7_76⟩) (ck_sh hq) (by omega) (by decide) (by decide) ?_
    refine j_top (y := nI (sh q 0)) (e0) ?_
    refine j_ifne 26 dX7_refusedBytes_20 (by decide) (fun c_20 => ?_) (fun c_20 => ?_)
    · have q_20 : ¬ sh q 0 = 0 := fun z => c_20 (by rw [z]; rfl)
      refine j_ald0 dX7_refusedBytes_26 ?_
      refine j_getR (k := 6) (7) dX7_refusedBytes_27 cX7_ok (Or.inl f7_55) rfl (by decide) (by decide) (by decide) rfl ?_
      refine j_ild1 dX7_refusedBytes_30 ?_
      refine j_aald (n := q) (8 + q) dX7_refusedBytes_31 (Or.inl rfl) (by decide) rfl hq (by decide) (fr_sh hq) ?_
      refine j_iconst (0) dX7_refusedBytes_32 rfl ?_
      refine j_cV1 dX7_refusedBytes_33 kX4_isRowOf l7_80 (ck_sh hq) (by omega) rfl (Nat.le_of_ble_eq_true rfl) (Nat.le_of_ble_eq_true rfl) (by omega) (s_X4_isRowOf hq (s := 0) (by decide) hsc hs) ?_
      refine j_ifeqB 43 dX7_refusedBytes_36 (by decide) (fun c_36 => ?_) (fun c_36 => ?_)
      · refine j_bipush (-12) dX7_refusedBytes_43 rfl ?_
        refine j_iret dX7_refusedBytes_45 rfl ?_
        exact ⟨by rw [refB, if_neg (not_not_intro c_6), hcl, if_neg q_20, if_neg c_36], rfl⟩
      refine j_iconst (0) dX7_refusedBytes_39 rfl ?_
      refine j_goto 45 dX7_refusedBytes_40 (by decide) ?_
      refine j_iret dX7_refusedBytes_45 rfl ?_
      exact ⟨by rw [refB, if_neg (not_not_intro c_6), hcl, if_neg q_20, if_pos c_36], rfl⟩
    have q_20 : sh q 0 = 0 := (nI_eq (a := sh q 0) (b := 0) (by omega) (by decide)).mp (Classical.not_not.mp c_20)
    refine j_bipush (-11) dX7_refusedBytes_23 rfl ?_
    refine j_iret dX7_refusedBytes_25 rfl ?_
    exact ⟨by rw [refB, if_neg (not_not_intro c_6), hcl, if_pos q_20], rfl⟩
  refine j_iconst (-1) dX7_refusedBytes_9 rfl ?_
  refine j_iret dX7_refusedBytes_10 rfl ?_
  exact ⟨by rw [refB, if_pos c_6], rfl⟩

set_option maxRecDepth 20000 in
theorem lp_X7_judge {x y : Int32} {S0 : St} (hkp : Kp [4, 8] S0 S) (h : TC n v S) (hw : WCq v b n S) (hsc : SC sh el S) (hbo : BOk sh el) (hq : q < 6) (h2 : sh q 0 = 2) (h0 : sh q 2 = 0) (hL : sh q 3 ≤ 60) : ∀ (fu : Nat) (m k : Nat) (w5 : Value), m < fu → (k + m = sh q 3) → J a mX7_judge 6 (gm a fun r S' => ∃ z, r = some (.int z) ∧ z = fstJ v b n (jd el q) m k ∧ Kp [4, 8] S0 S') 37 [.ref (a 0), .int x, .int y, .ref (a (8 + q)), .int (nI k), w5, .null] [] S := by
  intro fu
  induction fu with
  | zero => intro m k w5 hk; exact absurd hk (Nat.not_lt_zero _)
  | succ fu ih =>
    intro m k w5 hk hm
    refine j_ild4 dX7_judge_37 ?_
    refine j_ald3 dX7_judge_39 ?_
    refine j_getI (k := 3) dX7_judge_40 cX4_ok (Or.inr ⟨_, f7_88⟩) (ck_sh hq) (by omega) (by decide) (by decide) ?_
    refine j_top (y := nI (sh q 3)) ((hsc q hq).2.2.2.1) ?_
    refine j_icmpge 100 dX7_judge_43 (by decide) (fun c_43 => ?_) (fun c_43 => ?_)
    · have q_43 : m = 0 := by have := (nI_leI (a := sh q 3) (b := k) (by omega) (by omega)).mp c_43; omega
      subst q_43
      refine j_bipush (-2) dX7_judge_100 rfl ?_
      refine j_iret dX7_judge_102 rfl ?_
      exact ⟨_, rfl, rfl, hkp⟩
    have q_43 : k < sh q 3 := Nat.not_le.mp (fun z => c_43 ((nI_leI (a := sh q 3) (b := k) (by omega) (by omega)).mpr z))
    obtain ⟨m, rfl⟩ : ∃ c, m = c + 1 := ⟨m - 1, by omega⟩
    refine j_ald3 dX7_judge_46 ?_
    refine j_getR (k := 4) (55 + q) dX7_judge_47 cX4_ok (Or.inr ⟨_, f7_94⟩) (ck_sh hq) (by omega) (by decide) (by decide) (fr_el hq) ?_
    refine j_ild4 dX7_judge_50 ?_
    refine j_lald (n := k) dX7_judge_52 (ck_el hq) (by omega) rfl (by omega) (by decide) ?_
    refine j_topL (y := (jd el q k).toInt64) (((hsc q hq).2.2.2.2 k (by omega)).trans (hbo q hq h2 h0 k (by omega))) ?_
    refine j_lst5 dX7_judge_53 rfl (by decide) ?_
    refine j_lld5 dX7_judge_55 ?_
    refine j_lconst (0) dX7_judge_57 rfl ?_
    refine j_lcmp dX7_judge_58 ?_
    refine j_iflt 91 dX7_judge_59 (by decide) (fun c_59 => ?_) (fun c_59 => ?_)
    · have q_59 : jd el q k < 0 := (i64_0 _).mp ((lg_cmp_lt _ _).mp c_59)
      refine j_ild4 dX7_judge_91 ?_
      refine j_iret dX7_judge_93 rfl ?_
      exact ⟨_, rfl, by rw [fstJ, if_neg (fun z => absurd q_59 (Int32.not_lt.mpr z.1))], hkp⟩
    have q_59 : 0 ≤ jd el q k := Int32.not_lt.mp (fun z => c_59 ((lg_cmp_lt _ _).mpr ((i64_0 _).mpr z)))
    refine j_lld5 dX7_judge_62 ?_
    refine j_ldc2_w (v := 6) dX7_judge_64 q7_168 ?_
    refine j_lcmp dX7_judge_67 ?_
    refine j_ifge 91 dX7_judge_68 (by decide) (fun c_68 => ?_) (fun c_68 => ?_)
    · have q_68 : ¬ jd el q k < 6 := fun z => absurd ((i64_6 _).mpr z) (Int64.not_lt.mpr ((lg_cmp_ge _ _).mp c_68))
      refine j_ild4 dX7_judge_91 ?_
      refine j_iret dX7_judge_93 rfl ?_
      exact ⟨_, rfl, by rw [fstJ, if_neg (fun z => q_68 z.2.1)], hkp⟩
    have q_68 : jd el q k < 6 := (i64_6 _).mp (Int64.not_le.mp (fun z => c_68 ((lg_cmp_ge _ _).mpr z)))
    obtain ⟨c, hc6, ec⟩ := in_nI (n := 6) (by decide) ⟨q_59, q_68⟩
    have cc : (jd el q k).toNatClampNeg = c := by rw [ec]; exact nI_clamp (by omega)
    have l1 := lkA_62 (b := b) (c := c) (k := 1) h.2.2.2 h.2.1 (by decide)
    refine j_ald0 dX7_judge_71 ?_
    refine j_getR (k := 2) (3) dX7_judge_72 cX7_ok (Or.inl f7_28) rfl (by decide) (by decide) (by decide) rfl ?_
    refine j_ald0 dX7_judge_75 ?_
    refine j_getR (k := 0) (1) dX7_judge_76 cX7_ok (Or.inl f7_12) rfl (by decide) (by decide) (by decide) rfl ?_
    refine j_lld5 dX7_judge_79 ?_
    refine j_l2i dX7_judge_81 ?_
    refine j_top (y := nI c) ((jd64 _).trans ec) ?_
    refine j_iconst (1) dX7_judge_82 rfl ?_
    refine j_cV3 dX7_judge_83 kX5_likely l7_144 rfl (by decide) rfl (Nat.le_of_ble_eq_true rfl) (Nat.le_of_ble_eq_true rfl) (by omega) (s_X5_likely (c := c) (k := 1) h hw (by omega) (by decide)) ?_
    refine j_lconst (0) dX7_judge_86 rfl ?_
    refine j_lcmp dX7_judge_87 ?_
    refine j_ifne 94 dX7_judge_88 (by decide) (fun c_88 => ?_) (fun c_88 => ?_)
    · have q_88 : ¬ lkA v b n c 1 = 0 := fun z => c_88 (lg_cmp0.mpr (by rw [z]; rfl))
      refine j_iinc4 (nI (k + 1)) dX7_judge_94 (nI_1 k) rfl (by decide) ?_
      refine j_goto 37 dX7_judge_97 (by decide) ?_
      rw [fstJ, if_pos ⟨q_59, q_68, by rw [cc]; exact q_88⟩]
      exact ih m (k + 1) _ (by omega) (by omega)
    have q_88 : lkA v b n c 1 = 0 := (lN_eq0 (by omega)).mp (lg_cmp0.mp (Classical.not_not.mp c_88))
    refine j_ild4 dX7_judge_91 ?_
    refine j_iret dX7_judge_93 rfl ?_
    exact ⟨_, rfl, by rw [fstJ, if_neg (fun z => absurd q_88 (by have := z.2.2; rw [cc] at this; exact this))], hkp⟩

set_option maxRecDepth 20000 in
theorem s_X7_judge {x : Int32} (h : TC n v S) (hb : LawC b S) (hg : GoodB b) (hsc : SC sh el S) (hs : SOk bb sh) (hbo : BOk sh el) : Rqi a mX7_judge 6 [.ref (a 0), .int x] S fun z S' => z = jgV v b n sh el x ∧ Kp [4, 8] S S' := by
  show J _ _ _ _ 0 [_, _, .null, .null, .null, .null, .null] [] _
  refine j_ald0 dX7_judge_0 ?_
  refine j_ild1 dX7_judge_1 ?_
  refine j_cV1 dX7_judge_2 kX7_refusedBytes l7_164 rfl (by decide) rfl (Nat.le_of_ble_eq_true rfl) (Nat.le_of_ble_eq_true rfl) (by omega) (s_X7_refusedBytes hsc hs) ?_
  refine j_ist2 dX7_judge_5 rfl (by decide) ?_
  refine j_ild2 dX7_judge_6 ?_
  refine j_ifge 12 dX7_judge_7 (by decide) (fun c_7 => ?_) (fun c_7 => ?_)
  · obtain ⟨q, hq, rfl, hcl, h2, h0⟩ := refB_ok (Int32.not_lt.mpr c_7)
    have hL := (hs.2 q hq).2.2.2
    refine j_ald0 dX7_judge_12 ?_
    refine j_getR (k := 6) (7) dX7_judge_13 cX7_ok (Or.inl f7_55) rfl (by decide) (by decide) (by decide) rfl ?_
    refine j_ild1 dX7_judge_16 ?_
    refine j_aald (n := q) (8 + q) dX7_judge_17 (Or.inl rfl) (by decide) rfl hq (by decide) (fr_sh hq) ?_
    refine j_ast3 dX7_judge_18 rfl (by decide) ?_
    refine j_ald0 dX7_judge_19 ?_
    refine j_getR (k := 2) (3) dX7_judge_20 cX7_ok (Or.inl f7_28) rfl (by decide) (by decide) (by decide) rfl ?_
    refine j_ald0 dX7_judge_23 ?_
    refine j_getR (k := 0) (1) dX7_judge_24 cX7_ok (Or.inl f7_12) rfl (by decide) (by decide) (by decide) rfl ?_
    refine j_ald0 dX7_judge_27 ?_
    refine j_getR (k := 1) (2) dX7_judge_28 cX7_ok (Or.inl f7_21) rfl (by decide) (by decide) (by decide) rfl ?_
    refine j_qvV2 dX7_judge_31 kX5_weighAll l7_140 rfl (by decide) rfl (Nat.le_of_ble_eq_true rfl) (Nat.le_of_ble_eq_true rfl) (by omega) (s_X5_weighAll h hb hg) (fun S1 h1 => ?_)
    obtain ⟨hkp, hw⟩ := h1
    refine j_iconst (0) dX7_judge_34 rfl ?_
    refine j_ist4 dX7_judge_35 rfl (by decide) ?_
    rw [jgV, if_neg (Int32.not_lt.mpr c_7), hcl]
    exact lp_X7_judge hkp (h.kp hkp (by decide)) hw (hsc.kp hkp (by decide)) hbo hq h2 h0 hL (sh q 3 + 1) (sh q 3) 0 _ (by omega) (by omega)
  refine j_ild2 dX7_judge_10 ?_
  refine j_iret dX7_judge_11 rfl ?_
  exact ⟨_, rfl, by rw [jgV, if_pos (Int32.not_le.mp c_7)], Kp.rf⟩

set_option maxRecDepth 20000 in
theorem lp_X7_cheated {x y : Int32} {Q : Option Value → St → Prop} (hsc : SC sh el S) (hbo : BOk sh el) (hq : q < 6) (h2 : sh q 0 = 2) (h0 : sh q 2 = 0) (hL : sh q 3 ≤ 3) (ka : (∀ j, j < sh q 3 → okC el q j) → ∀ w4, J a mX7_cheated 6 (gm a Q) 75 [.ref (a 0), .int x, .int y, .ref (a (8 + q)), .int w4] [] S) (kb : ¬ (∀ j, j < sh q 3 → okC el q j) → Q (some (.int (-1))) S) : ∀ (fu : Nat) (k : Nat), sh q 3 - k < fu → (k ≤ sh q 3) → (∀ j, j < k → okC el q j) → J a mX7_cheated 6 (gm a Q) 32 [.ref (a 0), .int x, .int y, .ref (a (8 + q)), .int (nI k)] [] S := by
  intro fu
  induction fu with
  | zero => intro k hk; exact absurd hk (Nat.not_lt_zero _)
  | succ fu ih =>
    intro k hk hj hok
    refine j_ild4 dX7_cheated_32 ?_
    refine j_ald3 dX7_cheated_34 ?_
    refine j_getI (k := 3) dX7_cheated_35 cX4_ok (Or.inr ⟨_, f7_88⟩) (ck_sh hq) (by omega) (by decide) (by decide) ?_
    refine j_top (y := nI (sh q 3)) ((hsc q hq).2.2.2.1) ?_
    refine j_icmpge 75 dX7_cheated_38 (by decide) (fun c_38 => ?_) (fun c_38 => ?_)
    · have q_38 : k = sh q 3 := by have := (nI_leI (a := sh q 3) (b := k) (by omega) (by omega)).mp c_38; omega
      exact ka (fun j hj => hok j (by omega)) _
    have q_38 : k < sh q 3 := Nat.not_le.mp (fun z => c_38 ((nI_leI (a := sh q 3) (b := k) (by omega) (by omega)).mpr z))
    refine j_ald3 dX7_cheated_41 ?_
    refine j_getR (k := 4) (55 + q) dX7_cheated_42 cX4_ok (Or.inr ⟨_, f7_94⟩) (ck_sh hq) (by omega) (by decide) (by decide) (fr_el hq) ?_
    refine j_ild4 dX7_cheated_45 ?_
    refine j_lald (n := k) dX7_cheated_47 (ck_el hq) (by omega) rfl (by omega) (by decide) ?_
    refine j_topL (y := (jd el q k).toInt64) (((hsc q hq).2.2.2.2 k (by omega)).trans (hbo q hq h2 h0 k (by omega))) ?_
    refine j_lconst (0) dX7_cheated_48 rfl ?_
    refine j_lcmp dX7_cheated_49 ?_
    refine j_iflt 67 dX7_cheated_50 (by decide) (fun c_50 => ?_) (fun c_50 => ?_)
    · have q_50 : ¬ okC el q k := fun z => absurd ((i64_0 _).mp ((lg_cmp_lt _ _).mp c_50)) (Int32.not_lt.mpr z.1)
      refine j_iconst (-1) dX7_cheated_67 rfl ?_
      refine j_iret dX7_cheated_68 rfl ?_
      exact kb (fun z => q_50 (z k q_38))
    have q_50 : 0 ≤ jd el q k := Int32.not_lt.mp (fun z => c_50 ((lg_cmp_lt _ _).mpr ((i64_0 _).mpr z)))
    refine j_ald3 dX7_cheated_53 ?_
    refine j_getR (k := 4) (55 + q) dX7_cheated_54 cX4_ok (Or.inr ⟨_, f7_94⟩) (ck_sh hq) (by omega) (by decide) (by decide) (fr_el hq) ?_
    refine j_ild4 dX7_cheated_57 ?_
    refine j_lald (n := k) dX7_cheated_59 (ck_el hq) (by omega) rfl (by omega) (by decide) ?_
    refine j_topL (y := (jd el q k).toInt64) (((hsc q hq).2.2.2.2 k (by omega)).trans (hbo q hq h2 h0 k (by omega))) ?_
    refine j_ldc2_w (v := 6) dX7_cheated_60 q7_168 ?_
    refine j_lcmp dX7_cheated_63 ?_
    refine j_iflt 69 dX7_cheated_64 (by decide) (fun c_64 => ?_) (fun c_64 => ?_)
    · have q_64 : okC el q k := ⟨q_50, (i64_6 _).mp ((lg_cmp_lt _ _).mp c_64)⟩
      refine j_iinc4 (nI (k + 1)) dX7_cheated_69 (nI_1 k) rfl (by decide) ?_
      refine j_goto 32 dX7_cheated_72 (by decide) ?_
      refine ih (k + 1) (by omega) (by omega) (fun j hj => ?_)
      by_cases c : j = k
      · rw [c]; exact q_64
      · exact hok j (by omega)
    have q_64 : ¬ okC el q k := fun z => c_64 ((lg_cmp_lt _ _).mpr ((i64_6 _).mpr z.2))
    refine j_iconst (-1) dX7_cheated_67 rfl ?_
    refine j_iret dX7_cheated_68 rfl ?_
    exact kb (fun z => q_64 (z k q_38))

set_option maxRecDepth 20000 in
theorem ch_75 {x y w : Int32} {cl : Nat → Nat} (h : TC n v S) (hb : LawC b S) (hg : GoodB b) (hsc : SC sh el S) (hq : q < 6) (hL : sh q 3 ≤ 3) (hcl : Cols sh el q cl) : J a mX7_cheated 6 (gm a fun r S' => ∃ z, r = some (.int z) ∧ z = (mlA v b n cl (sh q 3) n).1 ∧ Kp [4, 8] S S') 75 [.ref (a 0), .int x, .int y, .ref (a (8 + q)), .int w] [] S := by
  refine j_ald0 dX7_cheated_75 ?_
  refine j_getR (k := 2) (3) dX7_cheated_76 cX7_ok (Or.inl f7_28) rfl (by decide) (by decide) (by decide) rfl ?_
  refine j_ald0 dX7_cheated_79 ?_
  refine j_getR (k := 0) (1) dX7_cheated_80 cX7_ok (Or.inl f7_12) rfl (by decide) (by decide) (by decide) rfl ?_
  refine j_ald0 dX7_cheated_83 ?_
  refine j_getR (k := 1) (2) dX7_cheated_84 cX7_ok (Or.inl f7_21) rfl (by decide) (by decide) (by decide) rfl ?_
  refine j_qvV2 dX7_cheated_87 kX5_weighAll l7_140 rfl (by decide) rfl (Nat.le_of_ble_eq_true rfl) (Nat.le_of_ble_eq_true rfl) (by omega) (s_X5_weighAll h hb hg) (fun S1 h1 => ?_)
  obtain ⟨hkp, hw⟩ := h1
  refine j_ald0 dX7_cheated_90 ?_
  refine j_getR (k := 2) (3) dX7_cheated_91 cX7_ok (Or.inl f7_28) rfl (by decide) (by decide) (by decide) rfl ?_
  refine j_ald0 dX7_cheated_94 ?_
  refine j_getR (k := 0) (1) dX7_cheated_95 cX7_ok (Or.inl f7_12) rfl (by decide) (by decide) (by decide) rfl ?_
  refine j_ald0 dX7_cheated_98 ?_
  refine j_getR (k := 1) (2) dX7_cheated_99 cX7_ok (Or.inl f7_21) rfl (by decide) (by decide) (by decide) rfl ?_
  refine j_ald3 dX7_cheated_102 ?_
  refine j_qiV3 dX7_cheated_103 kX5_mostLikelyMore l7_170 rfl (by decide) rfl (Nat.le_of_ble_eq_true rfl) (Nat.le_of_ble_eq_true rfl) (by omega) (s_X5_mostLikelyMore hq (hsc.kp hkp (by decide)) hL hcl (h.kp hkp (by decide)) (hb.kp hkp (by decide)) hg hw) (fun z S2 h2 => ?_)
  obtain ⟨rfl, hk2⟩ := h2
  refine j_iret dX7_cheated_106 rfl ?_
  exact ⟨_, rfl, rfl, hkp.tr hk2⟩

set_option maxRecDepth 20000 in
theorem s_X7_cheated {x : Int32} (h : TC n v S) (hb : LawC b S) (hg : GoodB b) (hsc : SC sh el S) (hs : SOk bb sh) (hbo : BOk sh el) : Rqi a mX7_cheated 6 [.ref (a 0), .int x] S fun z S' => z = chV v b n sh el x ∧ Kp [4, 8] S S' := by
  show J _ _ _ _ 0 [_, _, .null, .null, .null] [] _
  refine j_ald0 dX7_cheated_0 ?_
  refine j_ild1 dX7_cheated_1 ?_
  refine j_cV1 dX7_cheated_2 kX7_refusedBytes l7_164 rfl (by decide) rfl (Nat.le_of_ble_eq_true rfl) (Nat.le_of_ble_eq_true rfl) (by omega) (s_X7_refusedBytes hsc hs) ?_
  refine j_ist2 dX7_cheated_5 rfl (by decide) ?_
  refine j_ild2 dX7_cheated_6 ?_
  refine j_ifge 12 dX7_cheated_7 (by decide) (fun c_7 => ?_) (fun c_7 => ?_)
  · obtain ⟨q, hq, rfl, hcl, h2, h0⟩ := refB_ok (Int32.not_lt.mpr c_7)
    have hL := (hs.2 q hq).2.2.2
    refine j_ald0 dX7_cheated_12 ?_
    refine j_getR (k := 6) (7) dX7_cheated_13 cX7_ok (Or.inl f7_55) rfl (by decide) (by decide) (by decide) rfl ?_
    refine j_ild1 dX7_cheated_16 ?_
    refine j_aald (n := q) (8 + q) dX7_cheated_17 (Or.inl rfl) (by decide) rfl hq (by decide) (fr_sh hq) ?_
    refine j_ast3 dX7_cheated_18 rfl (by decide) ?_
    refine j_ald3 dX7_cheated_19 ?_
    refine j_getI (k := 3) dX7_cheated_20 cX4_ok (Or.inr ⟨_, f7_88⟩) (ck_sh hq) (by omega) (by decide) (by decide) ?_
    refine j_top (y := nI (sh q 3)) ((hsc q hq).2.2.2.1) ?_
    refine j_iconst (3) dX7_cheated_23 rfl ?_
    refine j_icmple 29 dX7_cheated_24 (by decide) (fun c_24 => ?_) (fun c_24 => ?_)
    · have q_24 : sh q 3 ≤ 3 := (nI_leI (a := sh q 3) (b := 3) (by omega) (by decide)).mp c_24
      refine j_iconst (0) dX7_cheated_29 rfl ?_
      refine j_ist4 dX7_cheated_30 rfl (by decide) ?_
      refine lp_X7_cheated hsc hbo hq h2 h0 q_24 (fun hok w4 => ?_) (fun hno => ?_) (sh q 3 + 1) 0 (by omega) (by omega) (fun j hj => absurd hj (Nat.not_lt_zero _))
      · rw [chV, if_neg (Int32.not_lt.mpr c_7), hcl, if_neg (by omega), if_pos hok]
        exact ch_75 h hb hg hsc hq q_24 (cols_of hbo hq h2 h0 hL hok)
      · exact ⟨_, rfl, by rw [chV, if_neg (Int32.not_lt.mpr c_7), hcl, if_neg (by omega), if_neg hno], Kp.rf⟩
    have q_24 : 3 < sh q 3 := Nat.not_le.mp (fun z => c_24 ((nI_leI (a := sh q 3) (b := 3) (by omega) (by decide)).mpr z))
    refine j_iconst (-1) dX7_cheated_27 rfl ?_
    refine j_iret dX7_cheated_28 rfl ?_
    exact ⟨_, rfl, by rw [chV, if_neg (Int32.not_lt.mpr c_7), hcl, if_pos q_24], Kp.rf⟩
  refine j_ild2 dX7_cheated_10 ?_
  refine j_iret dX7_cheated_11 rfl ?_
  exact ⟨_, rfl, by rw [chV, if_pos (Int32.not_le.mp c_7)], Kp.rf⟩

end Judge

