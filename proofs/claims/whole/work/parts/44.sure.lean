/-! sure stakes: both sides -/
def sg (i : Nat) : Int32 := nI i - 5
theorem sg_0 : (-5 : Int32) = sg 0 := by decide
theorem sg_1 : ∀ {i}, i < 11 → sg i + 1 = sg (i + 1) := by decide +kernel
theorem sg_gt : ∀ {i}, i < 12 → ((5 : Int32) < sg i ↔ i = 11) := by decide +kernel
def mnI (x y : Int32) : Int32 := if y < x then y else x
def lossI (q : Nat → Int32) (f s t : Int32) : Int32 := 12 * mnI f (mnI s t) - (f * q 0 + s * q 1 + t * q 2)
def qI (v : Nat → Nat → Nat) (i : Nat) : Int32 := nI (v 11 i)
theorem bm32 {x : Int} (h1 : -2147483648 ≤ x) (h2 : x < 2147483648) : x.bmod (2 ^ 32) = x := by
  show (if x % ((2 ^ 32 : Nat) : Int) < (((2 ^ 32 : Nat) : Int) + 1) / 2 then x % ((2 ^ 32 : Nat) : Int) else x % ((2 ^ 32 : Nat) : Int) - ((2 ^ 32 : Nat) : Int)) = x
  rw [show ((2 ^ 32 : Nat) : Int) = 4294967296 from rfl]
  split <;> omega
theorem sg_q : ∀ i, i < 11 → ∀ q, q < 13 → -60 ≤ (sg i * nI q).toInt ∧ (sg i * nI q).toInt ≤ 60 := by decide +kernel
theorem sg_12 : ∀ i, i < 11 → (12 * sg i).toInt = 12 * (i : Int) - 60 := by decide +kernel
theorem sg_lt : ∀ i, i < 11 → ∀ j, j < 11 → (sg i < sg j ↔ i < j) := by decide +kernel
theorem mn_as : ∀ i, i < 11 → ∀ j, j < 11 → ∀ k, k < 11 → mnI (mnI (sg i) (sg j)) (sg k) = mnI (sg i) (mnI (sg j) (sg k)) := by decide +kernel
theorem mn_cmp {p : Int32} (h1 : -1000 ≤ p.toInt) (h2 : p.toInt ≤ 1000) {i j : Nat} (hi : i < 11) (hj : j < 11) : 12 * sg i - p < 12 * sg j - p ↔ sg i < sg j := by
  rw [sg_lt i hi j hj, Int32.lt_iff_toInt_lt, Int32.toInt_sub, Int32.toInt_sub, sg_12 i hi, sg_12 j hj, bm32 (by omega) (by omega), bm32 (by omega) (by omega)]
  omega
theorem paid_b {i j k q0 q1 q2 : Nat} (hi : i < 11) (hj : j < 11) (hk : k < 11) (h0 : q0 < 13) (h1 : q1 < 13) (h2 : q2 < 13) : -1000 ≤ (sg i * nI q0 + sg j * nI q1 + sg k * nI q2).toInt ∧ (sg i * nI q0 + sg j * nI q1 + sg k * nI q2).toInt ≤ 1000 := by
  have a0 := sg_q i hi q0 h0
  have a1 := sg_q j hj q1 h1
  have a2 := sg_q k hk q2 h2
  rw [Int32.toInt_add, Int32.toInt_add, bm32 (x := (sg i * nI q0).toInt + _) (by omega) (by omega), bm32 (by omega) (by omega)]
  omega
abbrev P4 : Type := Int32 × Int32 × Int32 × Int32
def stp (q : Nat → Int32) (i j k : Nat) (P : P4) : P4 := if P.1 < lossI q (sg i) (sg j) (sg k) then (lossI q (sg i) (sg j) (sg k), sg i, sg j, sg k) else P
def l3 (q : Nat → Int32) (i j : Nat) : Nat → P4 → P4
  | 0, P => P
  | k + 1, P => stp q i j k (l3 q i j k P)
def l2 (q : Nat → Int32) (i : Nat) : Nat → P4 → P4
  | 0, P => P
  | j + 1, P => l3 q i j 11 (l2 q i j P)
def l1 (q : Nat → Int32) : Nat → P4 → P4
  | 0, P => P
  | i + 1, P => l2 q i 11 (l1 q i P)
theorem stp_0 {q : Nat → Int32} {i j k : Nat} {P : P4} (h : 0 ≤ P.1) : 0 ≤ (stp q i j k P).1 := by
  unfold stp
  split
  · next c => exact Int32.le_of_lt (Int32.lt_of_le_of_lt h c)
  · exact h
theorem l3_0 {q : Nat → Int32} {i j : Nat} {P : P4} (h : 0 ≤ P.1) : ∀ k, 0 ≤ (l3 q i j k P).1
  | 0 => h
  | k + 1 => stp_0 (l3_0 h k)
theorem l2_0 {q : Nat → Int32} {i : Nat} {P : P4} (h : 0 ≤ P.1) : ∀ k, 0 ≤ (l2 q i k P).1
  | 0 => h
  | k + 1 => l3_0 (l2_0 h k) 11
theorem l1_0 {q : Nat → Int32} {P : P4} (h : 0 ≤ P.1) : ∀ k, 0 ≤ (l1 q k P).1
  | 0 => h
  | k + 1 => l2_0 (l1_0 h k) 11
def sureP (v : Nat → Nat → Nat) : P4 := l1 (qI v) 11 (0, 0, 0, 0)
def pick4 (P : P4) (k : Int32) : Int32 := if k = 0 then P.2.1 else if k = 1 then P.2.2.1 else P.2.2.2
abbrev suOk (x : Int32) : Prop := -1 ≤ x ∧ x < 3
def sureV (v : Nat → Nat → Nat) (x : Int32) : Int32 := if x < 0 then (if 0 < (sureP v).1 then (sureP v).1 else -2) else pick4 (sureP v) x
def stA (c : Nat) (P : P4) (S : St) : Prop := S.1 c 0 = P.2.1 ∧ S.1 c 1 = P.2.2.1 ∧ S.1 c 2 = P.2.2.2
theorem stA_pick {c : Nat} {P : P4} {S : St} (h : stA c P S) {k : Nat} (hk : k < 3) : S.1 c k = pick4 P (nI k) := by
  rcases (show k = 0 ∨ k = 1 ∨ k = 2 by omega) with rfl | rfl | rfl
  · exact h.1
  · exact h.2.1
  · exact h.2.2
section Sure
variable {a : Nat → Nat} {S : St} {n : Nat} {v : Nat → Nat → Nat}
theorem TC.b11 (h : TC n v S) {i : Nat} (hi : i < 8) : v 11 i ≤ 12 := h.2.2.2 11 (by decide) i hi
theorem TR.b11 (h : TR n v S) {i : Nat} (hi : i < 8) : v 11 i ≤ 12 := h.2.2.2 11 (by decide) i hi

set_option maxRecDepth 20000 in
theorem s_X3_leastLoss {x y z : Int32} (h : TC n v S) : Rt a mX3_leastLoss 1 [.ref (a 27), .int x, .int y, .int z] S (some (.int (lossI (qI v) x y z))) S := by
  show J _ _ _ _ 0 [_, _, _, _, .null] [] _
  refine j_ild1 dX3_leastLoss_0 ?_
  refine j_ald0 dX3_leastLoss_1 ?_
  refine j_iconst (0) dX3_leastLoss_2 rfl ?_
  refine j_iald (n := 0) dX3_leastLoss_3 rfl (by decide) rfl (by omega) (by decide) ?_
  refine j_top (y := nI (v 11 0)) (h.2.2.1 11 (by decide) 0 (by omega)) ?_
  refine j_imul dX3_leastLoss_4 ?_
  refine j_ild2 dX3_leastLoss_5 ?_
  refine j_ald0 dX3_leastLoss_6 ?_
  refine j_iconst (1) dX3_leastLoss_7 rfl ?_
  refine j_iald (n := 1) dX3_leastLoss_8 rfl (by decide) rfl (by omega) (by decide) ?_
  refine j_top (y := nI (v 11 1)) (h.2.2.1 11 (by decide) 1 (by omega)) ?_
  refine j_imul dX3_leastLoss_9 ?_
  refine j_iadd dX3_leastLoss_10 ?_
  refine j_ild3 dX3_leastLoss_11 ?_
  refine j_ald0 dX3_leastLoss_12 ?_
  refine j_iconst (2) dX3_leastLoss_13 rfl ?_
  refine j_iald (n := 2) dX3_leastLoss_14 rfl (by decide) rfl (by omega) (by decide) ?_
  refine j_top (y := nI (v 11 2)) (h.2.2.1 11 (by decide) 2 (by omega)) ?_
  refine j_imul dX3_leastLoss_15 ?_
  refine j_iadd dX3_leastLoss_16 ?_
  refine j_ist4 dX3_leastLoss_17 rfl (by decide) ?_
  refine j_bipush (12) dX3_leastLoss_19 rfl ?_
  refine j_ild1 dX3_leastLoss_21 ?_
  refine j_ild2 dX3_leastLoss_22 ?_
  refine j_ild3 dX3_leastLoss_23 ?_
  refine j_min dX3_leastLoss_24 l3_61 t_min_s t_mini t_min_c (Nat.le_of_ble_eq_true rfl) (by omega) ?_
  refine j_min dX3_leastLoss_27 l3_61 t_min_s t_mini t_min_c (Nat.le_of_ble_eq_true rfl) (by omega) ?_
  refine j_imul dX3_leastLoss_30 ?_
  refine j_ild4 dX3_leastLoss_31 ?_
  refine j_isub dX3_leastLoss_33 ?_
  refine j_iret dX3_leastLoss_34 rfl ?_
  exact ⟨rfl, rfl⟩

set_option maxRecDepth 20000 in
theorem lp3_findStakes (h : TC n v S) {g : GG} {i j : Nat} (hi : i < 11) (hj : j < 11) {P : P4} (kk : ∀ (S1 : St) (w5 w6 : Value), Kp [4] S S1 → stA 47 (l3 (qI v) i j 11 P) S1 → J a mX3_findStakes 2 g 106 [.ref (a 4), .ref (a 1), .int (l3 (qI v) i j 11 P).1, .int (sg i), .int (sg j), w5, w6] [] S1) : ∀ (fu : Nat) (k : Nat) (S1 : St) (w6 : Value), 11 - k < fu → (k ≤ 11) → (Kp [4] S S1) → (stA 47 (l3 (qI v) i j k P) S1) → J a mX3_findStakes 2 g 45 [.ref (a 4), .ref (a 1), .int (l3 (qI v) i j k P).1, .int (sg i), .int (sg j), .int (sg k), w6] [] S1 := by
  intro fu
  induction fu with
  | zero => intro k S1 w6 hk; exact absurd hk (Nat.not_lt_zero _)
  | succ fu ih =>
    intro k S1 w6 hk hk11 hkp hst
    refine j_ild5 dX3_findStakes_45 ?_
    refine j_iconst (5) dX3_findStakes_47 rfl ?_
    refine j_icmpgt 106 dX3_findStakes_48 (by decide) (fun c_48 => ?_) (fun c_48 => ?_)
    · have q_48 : k = 11 := (sg_gt (by omega)).mp c_48
      subst q_48
      exact kk _ _ _ hkp hst
    have q_48 : k < 11 := by
      have := mt (sg_gt (i := k) (by omega)).mpr c_48
      omega
    refine j_ald1 dX3_findStakes_51 ?_
    refine j_getR (k := 0) (15) dX3_findStakes_52 cX6_ok (Or.inr ⟨_, f3_21⟩) rfl (by decide) (by decide) (by decide) rfl ?_
    refine j_bipush (11) dX3_findStakes_55 rfl ?_
    refine j_aald (n := 11) (27) dX3_findStakes_57 (Or.inr rfl) (by decide) rfl (by decide) (by decide) rfl ?_
    refine j_ild3 dX3_findStakes_58 ?_
    refine j_ild4 dX3_findStakes_59 ?_
    refine j_ild5 dX3_findStakes_61 ?_
    refine j_cS4 dX3_findStakes_63 kX3_leastLoss zX3_leastLoss (Or.inl l3_57) (Nat.le_of_ble_eq_true rfl) (Nat.le_of_ble_eq_true rfl) (by omega) (s_X3_leastLoss (h.kp hkp (by decide))) ?_
    refine j_ist6 dX3_findStakes_66 rfl (by decide) ?_
    refine j_ild6 dX3_findStakes_68 ?_
    refine j_ild2 dX3_findStakes_70 ?_
    refine j_icmple 100 dX3_findStakes_71 (by decide) (fun c_71 => ?_) (fun c_71 => ?_)
    · refine j_iinc5 (sg (k + 1)) dX3_findStakes_100 (sg_1 q_48) rfl (by decide) ?_
      refine j_goto 45 dX3_findStakes_103 (by decide) ?_
      have e : l3 (qI v) i j (k + 1) P = l3 (qI v) i j k P := by rw [l3, stp, if_neg (Int32.not_lt.mpr c_71)]
      have := ih (k + 1) S1 (.int (lossI (qI v) (sg i) (sg j) (sg k))) (by omega) (by omega) hkp (by rw [e]; exact hst)
      rw [e] at this
      exact this
    refine j_ild6 dX3_findStakes_74 ?_
    refine j_ist2 dX3_findStakes_76 rfl (by decide) ?_
    refine j_ald0 dX3_findStakes_77 ?_
    refine j_getR (k := 2) (47) dX3_findStakes_78 cX3_ok (Or.inl f3_18) rfl (by decide) (by decide) (by decide) rfl ?_
    refine j_iconst (0) dX3_findStakes_81 rfl ?_
    refine j_ild3 dX3_findStakes_82 ?_
    refine j_iast (n := 0) dX3_findStakes_83 rfl (by decide) rfl (by decide) (by decide) ?_
    refine j_ald0 dX3_findStakes_84 ?_
    refine j_getR (k := 2) (47) dX3_findStakes_85 cX3_ok (Or.inl f3_18) rfl (by decide) (by decide) (by decide) rfl ?_
    refine j_iconst (1) dX3_findStakes_88 rfl ?_
    refine j_ild4 dX3_findStakes_89 ?_
    refine j_iast (n := 1) dX3_findStakes_91 rfl (by decide) rfl (by decide) (by decide) ?_
    refine j_ald0 dX3_findStakes_92 ?_
    refine j_getR (k := 2) (47) dX3_findStakes_93 cX3_ok (Or.inl f3_18) rfl (by decide) (by decide) (by decide) rfl ?_
    refine j_iconst (2) dX3_findStakes_96 rfl ?_
    refine j_ild5 dX3_findStakes_97 ?_
    refine j_iast (n := 2) dX3_findStakes_99 rfl (by decide) rfl (by decide) (by decide) ?_
    refine j_iinc5 (sg (k + 1)) dX3_findStakes_100 (sg_1 q_48) rfl (by decide) ?_
    refine j_goto 45 dX3_findStakes_103 (by decide) ?_
    have e : l3 (qI v) i j (k + 1) P = (lossI (qI v) (sg i) (sg j) (sg k), sg i, sg j, sg k) := by rw [l3, stp, if_pos (Int32.not_le.mp c_71)]
    have := ih (k + 1) (uI (uI (uI S1 47 0 (sg i)) 47 1 (sg j)) 47 2 (sg k)) (.int (lossI (qI v) (sg i) (sg j) (sg k))) (by omega) (by omega) (Kp_uI (Kp_uI (Kp_uI hkp (List.mem_singleton.mpr rfl)) (List.mem_singleton.mpr rfl)) (List.mem_singleton.mpr rfl)) (by rw [e]; simp [stA, uI_at])
    rw [e] at this
    exact this

set_option maxRecDepth 20000 in
theorem lp2_findStakes (h : TC n v S) {g : GG} {i : Nat} (hi : i < 11) {P : P4} (kk : ∀ (S1 : St) (w4 w5 w6 : Value), Kp [4] S S1 → stA 47 (l2 (qI v) i 11 P) S1 → J a mX3_findStakes 2 g 112 [.ref (a 4), .ref (a 1), .int (l2 (qI v) i 11 P).1, .int (sg i), w4, w5, w6] [] S1) : ∀ (fu : Nat) (j : Nat) (S1 : St) (w5 w6 : Value), 11 - j < fu → (j ≤ 11) → (Kp [4] S S1) → (stA 47 (l2 (qI v) i j P) S1) → J a mX3_findStakes 2 g 35 [.ref (a 4), .ref (a 1), .int (l2 (qI v) i j P).1, .int (sg i), .int (sg j), w5, w6] [] S1 := by
  intro fu
  induction fu with
  | zero => intro j S1 w5 w6 hk; exact absurd hk (Nat.not_lt_zero _)
  | succ fu ih =>
    intro j S1 w5 w6 hk hj11 hkp hst
    refine j_ild4 dX3_findStakes_35 ?_
    refine j_iconst (5) dX3_findStakes_37 rfl ?_
    refine j_icmpgt 112 dX3_findStakes_38 (by decide) (fun c_38 => ?_) (fun c_38 => ?_)
    · have q_38 : j = 11 := (sg_gt (by omega)).mp c_38
      subst q_38
      exact kk _ _ _ _ hkp hst
    have q_38 : j < 11 := by
      have := mt (sg_gt (i := j) (by omega)).mpr c_38
      omega
    refine j_bipush (-5) dX3_findStakes_41 rfl ?_
    refine j_top (y := sg 0) (sg_0) ?_
    refine j_ist5 dX3_findStakes_43 rfl (by decide) ?_
    refine lp3_findStakes h hi q_38 (P := l2 (qI v) i j P) (fun S2 w5 w6 hkp2 hst2 => ?_) 12 0 S1 _ (by omega) (by omega) hkp hst
    refine j_iinc4 (sg (j + 1)) dX3_findStakes_106 (sg_1 q_38) rfl (by decide) ?_
    refine j_goto 35 dX3_findStakes_109 (by decide) ?_
    exact ih (j + 1) S2 _ _ (by omega) (by omega) hkp2 hst2

set_option maxRecDepth 20000 in
theorem lp1_findStakes (h : TC n v S) {g : GG} {P : P4} (kk : ∀ (S1 : St) (w3 w4 w5 w6 : Value), Kp [4] S S1 → stA 47 (l1 (qI v) 11 P) S1 → J a mX3_findStakes 2 g 118 [.ref (a 4), .ref (a 1), .int (l1 (qI v) 11 P).1, w3, w4, w5, w6] [] S1) : ∀ (fu : Nat) (i : Nat) (S1 : St) (w4 w5 w6 : Value), 11 - i < fu → (i ≤ 11) → (Kp [4] S S1) → (stA 47 (l1 (qI v) i P) S1) → J a mX3_findStakes 2 g 26 [.ref (a 4), .ref (a 1), .int (l1 (qI v) i P).1, .int (sg i), w4, w5, w6] [] S1 := by
  intro fu
  induction fu with
  | zero => intro i S1 w4 w5 w6 hk; exact absurd hk (Nat.not_lt_zero _)
  | succ fu ih =>
    intro i S1 w4 w5 w6 hk hi11 hkp hst
    refine j_ild3 dX3_findStakes_26 ?_
    refine j_iconst (5) dX3_findStakes_27 rfl ?_
    refine j_icmpgt 118 dX3_findStakes_28 (by decide) (fun c_28 => ?_) (fun c_28 => ?_)
    · have q_28 : i = 11 := (sg_gt (by omega)).mp c_28
      subst q_28
      exact kk _ _ _ _ _ hkp hst
    have q_28 : i < 11 := by
      have := mt (sg_gt (i := i) (by omega)).mpr c_28
      omega
    refine j_bipush (-5) dX3_findStakes_31 rfl ?_
    refine j_top (y := sg 0) (sg_0) ?_
    refine j_ist4 dX3_findStakes_33 rfl (by decide) ?_
    refine lp2_findStakes h q_28 (P := l1 (qI v) i P) (fun S2 w4 w5 w6 hkp2 hst2 => ?_) 12 0 S1 _ _ (by omega) (by omega) hkp hst
    refine j_iinc3 (sg (i + 1)) dX3_findStakes_112 (sg_1 q_28) rfl (by decide) ?_
    refine j_goto 26 dX3_findStakes_115 (by decide) ?_
    exact ih (i + 1) S2 _ _ _ (by omega) (by omega) hkp2 hst2

set_option maxRecDepth 20000 in
theorem s_X3_findStakes (h : TC n v S) : Rqi a mX3_findStakes 2 [.ref (a 4), .ref (a 1)] S fun x S' => x = (sureP v).1 ∧ Kp [4] S S' ∧ stA 47 (sureP v) S' := by
  show J _ _ _ _ 0 [_, _, .null, .null, .null, .null, .null] [] _
  refine j_iconst (0) dX3_findStakes_0 rfl ?_
  refine j_ist2 dX3_findStakes_1 rfl (by decide) ?_
  refine j_ald0 dX3_findStakes_2 ?_
  refine j_getR (k := 2) (47) dX3_findStakes_3 cX3_ok (Or.inl f3_18) rfl (by decide) (by decide) (by decide) rfl ?_
  refine j_iconst (0) dX3_findStakes_6 rfl ?_
  refine j_iconst (0) dX3_findStakes_7 rfl ?_
  refine j_iast (n := 0) dX3_findStakes_8 rfl (by decide) rfl (by decide) (by decide) ?_
  refine j_ald0 dX3_findStakes_9 ?_
  refine j_getR (k := 2) (47) dX3_findStakes_10 cX3_ok (Or.inl f3_18) rfl (by decide) (by decide) (by decide) rfl ?_
  refine j_iconst (1) dX3_findStakes_13 rfl ?_
  refine j_iconst (0) dX3_findStakes_14 rfl ?_
  refine j_iast (n := 1) dX3_findStakes_15 rfl (by decide) rfl (by decide) (by decide) ?_
  refine j_ald0 dX3_findStakes_16 ?_
  refine j_getR (k := 2) (47) dX3_findStakes_17 cX3_ok (Or.inl f3_18) rfl (by decide) (by decide) (by decide) rfl ?_
  refine j_iconst (2) dX3_findStakes_20 rfl ?_
  refine j_iconst (0) dX3_findStakes_21 rfl ?_
  refine j_iast (n := 2) dX3_findStakes_22 rfl (by decide) rfl (by decide) (by decide) ?_
  refine j_bipush (-5) dX3_findStakes_23 rfl ?_
  refine j_top (y := sg 0) (sg_0) ?_
  refine j_ist3 dX3_findStakes_25 rfl (by decide) ?_
  refine lp1_findStakes h (P := (0, 0, 0, 0)) (fun S2 w3 w4 w5 w6 hkp2 hst2 => ?_) 12 0 _ _ _ _ (by omega) (by omega) (Kp_uI (Kp_uI (Kp_uI Kp.rf (List.mem_singleton.mpr rfl)) (List.mem_singleton.mpr rfl)) (List.mem_singleton.mpr rfl)) (by simp [stA, uI_at, l1])
  refine j_ild2 dX3_findStakes_118 ?_
  refine j_iret dX3_findStakes_119 rfl ?_
  exact ⟨_, rfl, rfl, hkp2, hst2⟩

theorem su_k {x : Int32} (h : suOk x) (h0 : ¬ x < 0) : ∃ k, k < 3 ∧ x = nI k := in_nI (n := 3) (by decide) ⟨Int32.not_lt.mp h0, h.2⟩
set_option maxRecDepth 20000 in
theorem s_X7_sure_ok {x : Int32} (h : TC n v S) (hk : suOk x) : Rqi a mX7_sure 3 [.ref (a 0), .int x] S fun y S' => y = sureV v x ∧ Kp [4] S S' := by
  show J _ _ _ _ 0 [_, _, .null] [] _
  refine j_ild1 dX7_sure_0 ?_
  refine j_iconst (-1) dX7_sure_1 rfl ?_
  refine j_icmplt 10 dX7_sure_2 (by decide) (fun c_2 => absurd c_2 (Int32.not_lt.mpr hk.1)) (fun c_2 => ?_)
  refine j_ild1 dX7_sure_5 ?_
  refine j_iconst (3) dX7_sure_6 rfl ?_
  refine j_icmplt 13 dX7_sure_7 (by decide) (fun c_7 => ?_) (fun c_7 => absurd (hk.2) c_7)
  refine j_ald0 dX7_sure_13 ?_
  refine j_getR (k := 3) (4) dX7_sure_14 cX7_ok (Or.inl f7_35) rfl (by decide) (by decide) (by decide) rfl ?_
  refine j_ald0 dX7_sure_17 ?_
  refine j_getR (k := 0) (1) dX7_sure_18 cX7_ok (Or.inl f7_12) rfl (by decide) (by decide) (by decide) rfl ?_
  refine j_qiV1 dX7_sure_21 kX3_findStakes l7_211 rfl (by decide) rfl (Nat.le_of_ble_eq_true rfl) (Nat.le_of_ble_eq_true rfl) (by omega) (s_X3_findStakes h) (fun l_21 S_21 h_21 => ?_)
  obtain ⟨rfl, hkp, hst⟩ := h_21
  refine j_ist2 dX7_sure_24 rfl (by decide) ?_
  refine j_ild1 dX7_sure_25 ?_
  refine j_iflt 39 dX7_sure_26 (by decide) (fun c_26 => ?_) (fun c_26 => ?_)
  · refine j_ild2 dX7_sure_39 ?_
    refine j_ifle 47 dX7_sure_40 (by decide) (fun c_40 => ?_) (fun c_40 => ?_)
    · refine j_bipush (-2) dX7_sure_47 rfl ?_
      refine j_iret dX7_sure_49 rfl ?_
      exact ⟨_, rfl, by rw [sureV, if_pos c_26, if_neg (Int32.not_lt.mpr c_40)], hkp⟩
    refine j_ild2 dX7_sure_43 ?_
    refine j_goto 49 dX7_sure_44 (by decide) ?_
    refine j_iret dX7_sure_49 rfl ?_
    exact ⟨_, rfl, by rw [sureV, if_pos c_26, if_pos (Int32.not_le.mp c_40)], hkp⟩
  have q_26 := su_k hk c_26
  obtain ⟨k, hk3, rfl⟩ := q_26
  refine j_ald0 dX7_sure_29 ?_
  refine j_getR (k := 3) (4) dX7_sure_30 cX7_ok (Or.inl f7_35) rfl (by decide) (by decide) (by decide) rfl ?_
  refine j_getR (k := 2) (47) dX7_sure_33 cX3_ok (Or.inr ⟨_, f7_215⟩) rfl (by decide) (by decide) (by decide) rfl ?_
  refine j_ild1 dX7_sure_36 ?_
  refine j_iald dX7_sure_37 rfl (by decide) rfl (by omega) (by decide) ?_
  refine j_iret dX7_sure_38 rfl ?_
  exact ⟨_, rfl, by rw [sureV, if_neg c_26, stA_pick hst hk3], hkp⟩

set_option maxRecDepth 20000 in
theorem s_X7_sure_bad {x : Int32} (hk : ¬ suOk x) : Rt a mX7_sure 3 [.ref (a 0), .int x] S (some (.int (-2000000000))) S := by
  show J _ _ _ _ 0 [_, _, .null] [] _
  refine j_ild1 dX7_sure_0 ?_
  refine j_iconst (-1) dX7_sure_1 rfl ?_
  refine j_icmplt 10 dX7_sure_2 (by decide) (fun c_2 => ?_) (fun c_2 => ?_)
  · refine j_ldc (v := -2000000000) dX7_sure_10 q7_210 ?_
    refine j_iret dX7_sure_12 rfl ?_
    exact ⟨rfl, rfl⟩
  refine j_ild1 dX7_sure_5 ?_
  refine j_iconst (3) dX7_sure_6 rfl ?_
  refine j_icmplt 13 dX7_sure_7 (by decide) (fun c_7 => ?_) (fun c_7 => ?_)
  · exact absurd ⟨Int32.not_lt.mp c_2, c_7⟩ hk
  refine j_ldc (v := -2000000000) dX7_sure_10 q7_210 ?_
  refine j_iret dX7_sure_12 rfl ?_
  exact ⟨rfl, rfl⟩

def rL (p f s t : Int32) : Int32 := if 12 * t - p < (if 12 * s - p < 12 * f - p then 12 * s - p else 12 * f - p) then 12 * t - p else if 12 * s - p < 12 * f - p then 12 * s - p else 12 * f - p
theorem rL_eq {i j k q0 q1 q2 : Nat} (hi : i < 11) (hj : j < 11) (hk : k < 11) (h0 : q0 < 13) (h1 : q1 < 13) (h2 : q2 < 13) : rL (0 + sg i * nI q0 + sg j * nI q1 + sg k * nI q2) (sg i) (sg j) (sg k) = 12 * mnI (sg i) (mnI (sg j) (sg k)) - (sg i * nI q0 + sg j * nI q1 + sg k * nI q2) := by
  rw [Int32.zero_add, ← mn_as i hi j hj k hk]
  obtain ⟨b1, b2⟩ := paid_b hi hj hk h0 h1 h2
  generalize sg i * nI q0 + sg j * nI q1 + sg k * nI q2 = p at *
  have c1 := mn_cmp b1 b2 hj hi
  have c2 := mn_cmp b1 b2 hk hj
  have c3 := mn_cmp b1 b2 hk hi
  unfold rL mnI
  by_cases x1 : sg j < sg i
  · rw [if_pos (c1.mpr x1), if_pos x1]
    by_cases x2 : sg k < sg j
    · rw [if_pos (c2.mpr x2), if_pos x2]
    · rw [if_neg (mt c2.mp x2), if_neg x2]
  · rw [if_neg (mt c1.mp x1), if_neg x1]
    by_cases x2 : sg k < sg i
    · rw [if_pos (c3.mpr x2), if_pos x2]
    · rw [if_neg (mt c3.mp x2), if_neg x2]
set_option maxRecDepth 20000 in
theorem s_X8_leastLoss {i j k : Nat} (h : TR n v S) (hi : i < 11) (hj : j < 11) (hk : k < 11) (e0 : S.1 89 0 = sg i) (e1 : S.1 89 1 = sg j) (e2 : S.1 89 2 = sg k) : Rt a mX8_leastLoss 0 [.ref (a 61)] S (some (.int (lossI (qI v) (sg i) (sg j) (sg k)))) S := by
  show J _ _ _ _ 0 [_, .null, .null, .null] [] _
  refine j_iconst (0) dX8_leastLoss_0 rfl ?_
  refine j_ist1 dX8_leastLoss_1 rfl (by decide) ?_
  refine j_iconst (0) dX8_leastLoss_2 rfl ?_
  refine j_ist2 dX8_leastLoss_3 rfl (by decide) ?_
  refine j_ild2 dX8_leastLoss_4 ?_
  refine j_iconst (3) dX8_leastLoss_5 rfl ?_
  refine j_icmpge 31 dX8_leastLoss_6 (by decide) (fun c_6 => absurd c_6 (by decide)) (fun c_6 => ?_)
  refine j_ild1 dX8_leastLoss_9 ?_
  refine j_ald0 dX8_leastLoss_10 ?_
  refine j_getR (k := 41) (89) dX8_leastLoss_11 cX8_ok (Or.inl f8_105) rfl (by decide) (by decide) (by decide) rfl ?_
  refine j_ild2 dX8_leastLoss_14 ?_
  refine j_iald (n := 0) dX8_leastLoss_15 rfl (by decide) rfl (by decide) (by decide) ?_
  refine j_top (y := sg i) e0 ?_
  refine j_ald0 dX8_leastLoss_16 ?_
  refine j_getR (k := 14) (72) dX8_leastLoss_17 cX8_ok (Or.inl f8_49) rfl (by decide) (by decide) (by decide) rfl ?_
  refine j_ild2 dX8_leastLoss_20 ?_
  refine j_iald (n := 0) dX8_leastLoss_21 rfl (by decide) rfl (by decide) (by decide) ?_
  refine j_top (y := nI (v 11 0)) (h.2.2.1 11 (by decide) 0 (by decide)) ?_
  refine j_imul dX8_leastLoss_22 ?_
  refine j_iadd dX8_leastLoss_23 ?_
  refine j_ist1 dX8_leastLoss_24 rfl (by decide) ?_
  refine j_iinc2 (1) dX8_leastLoss_25 rfl rfl (by decide) ?_
  refine j_goto 4 dX8_leastLoss_28 (by decide) ?_
  refine j_ild2 dX8_leastLoss_4 ?_
  refine j_iconst (3) dX8_leastLoss_5 rfl ?_
  refine j_icmpge 31 dX8_leastLoss_6 (by decide) (fun c_6 => absurd c_6 (by decide)) (fun c_6 => ?_)
  refine j_ild1 dX8_leastLoss_9 ?_
  refine j_ald0 dX8_leastLoss_10 ?_
  refine j_getR (k := 41) (89) dX8_leastLoss_11 cX8_ok (Or.inl f8_105) rfl (by decide) (by decide) (by decide) rfl ?_
  refine j_ild2 dX8_leastLoss_14 ?_
  refine j_iald (n := 1) dX8_leastLoss_15 rfl (by decide) rfl (by omega) (by decide) ?_
  refine j_top (y := sg j) e1 ?_
  refine j_ald0 dX8_leastLoss_16 ?_
  refine j_getR (k := 14) (72) dX8_leastLoss_17 cX8_ok (Or.inl f8_49) rfl (by decide) (by decide) (by decide) rfl ?_
  refine j_ild2 dX8_leastLoss_20 ?_
  refine j_iald (n := 1) dX8_leastLoss_21 rfl (by decide) rfl (by omega) (by decide) ?_
  refine j_top (y := nI (v 11 1)) (h.2.2.1 11 (by decide) 1 (by decide)) ?_
  refine j_imul dX8_leastLoss_22 ?_
  refine j_iadd dX8_leastLoss_23 ?_
  refine j_ist1 dX8_leastLoss_24 rfl (by decide) ?_
  refine j_iinc2 (2) dX8_leastLoss_25 rfl rfl (by decide) ?_
  refine j_goto 4 dX8_leastLoss_28 (by decide) ?_
  refine j_ild2 dX8_leastLoss_4 ?_
  refine j_iconst (3) dX8_leastLoss_5 rfl ?_
  refine j_icmpge 31 dX8_leastLoss_6 (by decide) (fun c_6 => absurd c_6 (by decide)) (fun c_6 => ?_)
  refine j_ild1 dX8_leastLoss_9 ?_
  refine j_ald0 dX8_leastLoss_10 ?_
  refine j_getR (k := 41) (89) dX8_leastLoss_11 cX8_ok (Or.inl f8_105) rfl (by decide) (by decide) (by decide) rfl ?_
  refine j_ild2 dX8_leastLoss_14 ?_
  refine j_iald (n := 2) dX8_leastLoss_15 rfl (by decide) rfl (by omega) (by decide) ?_
  refine j_top (y := sg k) e2 ?_
  refine j_ald0 dX8_leastLoss_16 ?_
  refine j_getR (k := 14) (72) dX8_leastLoss_17 cX8_ok (Or.inl f8_49) rfl (by decide) (by decide) (by decide) rfl ?_
  refine j_ild2 dX8_leastLoss_20 ?_
  refine j_iald (n := 2) dX8_leastLoss_21 rfl (by decide) rfl (by omega) (by decide) ?_
  refine j_top (y := nI (v 11 2)) (h.2.2.1 11 (by decide) 2 (by decide)) ?_
  refine j_imul dX8_leastLoss_22 ?_
  refine j_iadd dX8_leastLoss_23 ?_
  refine j_ist1 dX8_leastLoss_24 rfl (by decide) ?_
  refine j_iinc2 (3) dX8_leastLoss_25 rfl rfl (by decide) ?_
  refine j_goto 4 dX8_leastLoss_28 (by decide) ?_
  refine j_ild2 dX8_leastLoss_4 ?_
  refine j_iconst (3) dX8_leastLoss_5 rfl ?_
  refine j_icmpge 31 dX8_leastLoss_6 (by decide) (fun c_6 => ?_) (fun c_6 => absurd (by decide) c_6)
  refine j_bipush (12) dX8_leastLoss_31 rfl ?_
  refine j_ald0 dX8_leastLoss_33 ?_
  refine j_getR (k := 41) (89) dX8_leastLoss_34 cX8_ok (Or.inl f8_105) rfl (by decide) (by decide) (by decide) rfl ?_
  refine j_iconst (0) dX8_leastLoss_37 rfl ?_
  refine j_iald (n := 0) dX8_leastLoss_38 rfl (by decide) rfl (by decide) (by decide) ?_
  refine j_top (y := sg i) e0 ?_
  refine j_imul dX8_leastLoss_39 ?_
  refine j_ild1 dX8_leastLoss_40 ?_
  refine j_isub dX8_leastLoss_41 ?_
  refine j_ist2 dX8_leastLoss_42 rfl (by decide) ?_
  refine j_iconst (1) dX8_leastLoss_43 rfl ?_
  refine j_ist3 dX8_leastLoss_44 rfl (by decide) ?_
  refine j_ild3 dX8_leastLoss_45 ?_
  refine j_iconst (3) dX8_leastLoss_46 rfl ?_
  refine j_icmpge 83 dX8_leastLoss_47 (by decide) (fun c_47 => absurd c_47 (by decide)) (fun c_47 => ?_)
  refine j_bipush (12) dX8_leastLoss_50 rfl ?_
  refine j_ald0 dX8_leastLoss_52 ?_
  refine j_getR (k := 41) (89) dX8_leastLoss_53 cX8_ok (Or.inl f8_105) rfl (by decide) (by decide) (by decide) rfl ?_
  refine j_ild3 dX8_leastLoss_56 ?_
  refine j_iald (n := 1) dX8_leastLoss_57 rfl (by decide) rfl (by decide) (by decide) ?_
  refine j_top (y := sg j) e1 ?_
  refine j_imul dX8_leastLoss_58 ?_
  refine j_ild1 dX8_leastLoss_59 ?_
  refine j_isub dX8_leastLoss_60 ?_
  refine j_ild2 dX8_leastLoss_61 ?_
  refine j_icmpge 77 dX8_leastLoss_62 (by decide) (fun c_1 => ?_) (fun c_1 => ?_)
  · refine j_iinc3 (2) dX8_leastLoss_77 rfl rfl (by decide) ?_
    refine j_goto 45 dX8_leastLoss_80 (by decide) ?_
    refine j_ild3 dX8_leastLoss_45 ?_
    refine j_iconst (3) dX8_leastLoss_46 rfl ?_
    refine j_icmpge 83 dX8_leastLoss_47 (by decide) (fun c_47 => absurd c_47 (by decide)) (fun c_47 => ?_)
    refine j_bipush (12) dX8_leastLoss_50 rfl ?_
    refine j_ald0 dX8_leastLoss_52 ?_
    refine j_getR (k := 41) (89) dX8_leastLoss_53 cX8_ok (Or.inl f8_105) rfl (by decide) (by decide) (by decide) rfl ?_
    refine j_ild3 dX8_leastLoss_56 ?_
    refine j_iald (n := 2) dX8_leastLoss_57 rfl (by decide) rfl (by omega) (by decide) ?_
    refine j_top (y := sg k) e2 ?_
    refine j_imul dX8_leastLoss_58 ?_
    refine j_ild1 dX8_leastLoss_59 ?_
    refine j_isub dX8_leastLoss_60 ?_
    refine j_ild2 dX8_leastLoss_61 ?_
    refine j_icmpge 77 dX8_leastLoss_62 (by decide) (fun c_2 => ?_) (fun c_2 => ?_)
    · refine j_iinc3 (3) dX8_leastLoss_77 rfl rfl (by decide) ?_
      refine j_goto 45 dX8_leastLoss_80 (by decide) ?_
      refine j_ild3 dX8_leastLoss_45 ?_
      refine j_iconst (3) dX8_leastLoss_46 rfl ?_
      refine j_icmpge 83 dX8_leastLoss_47 (by decide) (fun c_47 => ?_) (fun c_47 => absurd (by decide) c_47)
      refine j_ild2 dX8_leastLoss_83 ?_
      refine j_iret dX8_leastLoss_84 rfl ?_
      exact ⟨by rw [lossI, qI, qI, qI, ← rL_eq hi hj hk (by have := h.b11 (i := 0) (by decide); omega) (by have := h.b11 (i := 1) (by decide); omega) (by have := h.b11 (i := 2) (by decide); omega), rL, if_neg (Int32.not_lt.mpr c_1), if_neg (Int32.not_lt.mpr c_2)], rfl⟩
    refine j_bipush (12) dX8_leastLoss_65 rfl ?_
    refine j_ald0 dX8_leastLoss_67 ?_
    refine j_getR (k := 41) (89) dX8_leastLoss_68 cX8_ok (Or.inl f8_105) rfl (by decide) (by decide) (by decide) rfl ?_
    refine j_ild3 dX8_leastLoss_71 ?_
    refine j_iald (n := 2) dX8_leastLoss_72 rfl (by decide) rfl (by omega) (by decide) ?_
    refine j_top (y := sg k) e2 ?_
    refine j_imul dX8_leastLoss_73 ?_
    refine j_ild1 dX8_leastLoss_74 ?_
    refine j_isub dX8_leastLoss_75 ?_
    refine j_ist2 dX8_leastLoss_76 rfl (by decide) ?_
    refine j_iinc3 (3) dX8_leastLoss_77 rfl rfl (by decide) ?_
    refine j_goto 45 dX8_leastLoss_80 (by decide) ?_
    refine j_ild3 dX8_leastLoss_45 ?_
    refine j_iconst (3) dX8_leastLoss_46 rfl ?_
    refine j_icmpge 83 dX8_leastLoss_47 (by decide) (fun c_47 => ?_) (fun c_47 => absurd (by decide) c_47)
    refine j_ild2 dX8_leastLoss_83 ?_
    refine j_iret dX8_leastLoss_84 rfl ?_
    exact ⟨by rw [lossI, qI, qI, qI, ← rL_eq hi hj hk (by have := h.b11 (i := 0) (by decide); omega) (by have := h.b11 (i := 1) (by decide); omega) (by have := h.b11 (i := 2) (by decide); omega), rL, if_neg (Int32.not_lt.mpr c_1), if_pos (Int32.not_le.mp c_2)], rfl⟩
  refine j_bipush (12) dX8_leastLoss_65 rfl ?_
  refine j_ald0 dX8_leastLoss_67 ?_
  refine j_getR (k := 41) (89) dX8_leastLoss_68 cX8_ok (Or.inl f8_105) rfl (by decide) (by decide) (by decide) rfl ?_
  refine j_ild3 dX8_leastLoss_71 ?_
  refine j_iald (n := 1) dX8_leastLoss_72 rfl (by decide) rfl (by decide) (by decide) ?_
  refine j_top (y := sg j) e1 ?_
  refine j_imul dX8_leastLoss_73 ?_
  refine j_ild1 dX8_leastLoss_74 ?_
  refine j_isub dX8_leastLoss_75 ?_
  refine j_ist2 dX8_leastLoss_76 rfl (by decide) ?_
  refine j_iinc3 (2) dX8_leastLoss_77 rfl rfl (by decide) ?_
  refine j_goto 45 dX8_leastLoss_80 (by decide) ?_
  refine j_ild3 dX8_leastLoss_45 ?_
  refine j_iconst (3) dX8_leastLoss_46 rfl ?_
  refine j_icmpge 83 dX8_leastLoss_47 (by decide) (fun c_47 => absurd c_47 (by decide)) (fun c_47 => ?_)
  refine j_bipush (12) dX8_leastLoss_50 rfl ?_
  refine j_ald0 dX8_leastLoss_52 ?_
  refine j_getR (k := 41) (89) dX8_leastLoss_53 cX8_ok (Or.inl f8_105) rfl (by decide) (by decide) (by decide) rfl ?_
  refine j_ild3 dX8_leastLoss_56 ?_
  refine j_iald (n := 2) dX8_leastLoss_57 rfl (by decide) rfl (by omega) (by decide) ?_
  refine j_top (y := sg k) e2 ?_
  refine j_imul dX8_leastLoss_58 ?_
  refine j_ild1 dX8_leastLoss_59 ?_
  refine j_isub dX8_leastLoss_60 ?_
  refine j_ild2 dX8_leastLoss_61 ?_
  refine j_icmpge 77 dX8_leastLoss_62 (by decide) (fun c_2 => ?_) (fun c_2 => ?_)
  · refine j_iinc3 (3) dX8_leastLoss_77 rfl rfl (by decide) ?_
    refine j_goto 45 dX8_leastLoss_80 (by decide) ?_
    refine j_ild3 dX8_leastLoss_45 ?_
    refine j_iconst (3) dX8_leastLoss_46 rfl ?_
    refine j_icmpge 83 dX8_leastLoss_47 (by decide) (fun c_47 => ?_) (fun c_47 => absurd (by decide) c_47)
    refine j_ild2 dX8_leastLoss_83 ?_
    refine j_iret dX8_leastLoss_84 rfl ?_
    exact ⟨by rw [lossI, qI, qI, qI, ← rL_eq hi hj hk (by have := h.b11 (i := 0) (by decide); omega) (by have := h.b11 (i := 1) (by decide); omega) (by have := h.b11 (i := 2) (by decide); omega), rL, if_pos (Int32.not_le.mp c_1), if_neg (Int32.not_lt.mpr c_2)], rfl⟩
  refine j_bipush (12) dX8_leastLoss_65 rfl ?_
  refine j_ald0 dX8_leastLoss_67 ?_
  refine j_getR (k := 41) (89) dX8_leastLoss_68 cX8_ok (Or.inl f8_105) rfl (by decide) (by decide) (by decide) rfl ?_
  refine j_ild3 dX8_leastLoss_71 ?_
  refine j_iald (n := 2) dX8_leastLoss_72 rfl (by decide) rfl (by omega) (by decide) ?_
  refine j_top (y := sg k) e2 ?_
  refine j_imul dX8_leastLoss_73 ?_
  refine j_ild1 dX8_leastLoss_74 ?_
  refine j_isub dX8_leastLoss_75 ?_
  refine j_ist2 dX8_leastLoss_76 rfl (by decide) ?_
  refine j_iinc3 (3) dX8_leastLoss_77 rfl rfl (by decide) ?_
  refine j_goto 45 dX8_leastLoss_80 (by decide) ?_
  refine j_ild3 dX8_leastLoss_45 ?_
  refine j_iconst (3) dX8_leastLoss_46 rfl ?_
  refine j_icmpge 83 dX8_leastLoss_47 (by decide) (fun c_47 => ?_) (fun c_47 => absurd (by decide) c_47)
  refine j_ild2 dX8_leastLoss_83 ?_
  refine j_iret dX8_leastLoss_84 rfl ?_
  exact ⟨by rw [lossI, qI, qI, qI, ← rL_eq hi hj hk (by have := h.b11 (i := 0) (by decide); omega) (by have := h.b11 (i := 1) (by decide); omega) (by have := h.b11 (i := 2) (by decide); omega), rL, if_pos (Int32.not_le.mp c_1), if_pos (Int32.not_le.mp c_2)], rfl⟩

set_option maxRecDepth 20000 in
theorem lp3_X8_sure (h : TR n v S) {g : GG} {x : Int32} {i j : Nat} (hi : i < 11) (hj : j < 11) {P : P4} (kk : ∀ (S1 : St) (w3 w4 : Value), Kp [14] S S1 → stA 90 (l3 (qI v) i j 11 P) S1 → S1.1 89 0 = sg i → S1.1 89 1 = sg j → J a mX8_sure 1 g 146 [.ref (a 61), .int x, .int (l3 (qI v) i j 11 P).1, w3, w4] [] S1) : ∀ (fu : Nat) (k : Nat) (S1 : St) (w3 w4 : Value), 11 - k < fu → (k ≤ 11) → (Kp [14] S S1) → (stA 90 (l3 (qI v) i j k P) S1) → (S1.1 89 0 = sg i) → (S1.1 89 1 = sg j) → (S1.1 89 2 = sg k) → J a mX8_sure 1 g 79 [.ref (a 61), .int x, .int (l3 (qI v) i j k P).1, w3, w4] [] S1 := by
  intro fu
  induction fu with
  | zero => intro k S1 w3 w4 hk; exact absurd hk (Nat.not_lt_zero _)
  | succ fu ih =>
    intro k S1 w3 w4 hk hk11 hkp hst e0 e1 e2
    refine j_ald0 dX8_sure_79 ?_
    refine j_getR (k := 41) (89) dX8_sure_80 cX8_ok (Or.inl f8_105) rfl (by decide) (by decide) (by decide) rfl ?_
    refine j_iconst (2) dX8_sure_83 rfl ?_
    refine j_iald (n := 2) dX8_sure_84 rfl (by decide) rfl (by decide) (by decide) ?_
    refine j_top (y := sg k) e2 ?_
    refine j_iconst (5) dX8_sure_85 rfl ?_
    refine j_icmpgt 146 dX8_sure_86 (by decide) (fun c_86 => ?_) (fun c_86 => ?_)
    · have q_86 : k = 11 := (sg_gt (by omega)).mp c_86
      subst q_86
      exact kk _ _ _ hkp hst e0 e1
    have q_86 : k < 11 := by
      have := mt (sg_gt (i := k) (by omega)).mpr c_86
      omega
    refine j_ald0 dX8_sure_89 ?_
    refine j_cV0 dX8_sure_90 kX8_leastLoss l8_338 rfl (by decide) rfl (Nat.le_of_ble_eq_true rfl) (Nat.le_of_ble_eq_true rfl) (by omega) (s_X8_leastLoss (h.kp hkp (by decide)) hi hj q_86 e0 e1 e2) ?_
    refine j_ist3 dX8_sure_93 rfl (by decide) ?_
    refine j_ild3 dX8_sure_94 ?_
    refine j_ild2 dX8_sure_95 ?_
    refine j_icmpgt 102 dX8_sure_96 (by decide) (fun c_96 => ?_) (fun c_96 => ?_)
    · refine j_ild3 dX8_sure_102 ?_
      refine j_ist2 dX8_sure_103 rfl (by decide) ?_
      refine j_iconst (0) dX8_sure_104 rfl ?_
      refine j_ist4 dX8_sure_105 rfl (by decide) ?_
      refine j_ild4 dX8_sure_107 ?_
      refine j_iconst (3) dX8_sure_109 rfl ?_
      refine j_icmpge 133 dX8_sure_110 (by decide) (fun c_110 => absurd c_110 (by decide)) (fun c_110 => ?_)
      refine j_ald0 dX8_sure_113 ?_
      refine j_getR (k := 42) (90) dX8_sure_114 cX8_ok (Or.inl f8_108) rfl (by decide) (by decide) (by decide) rfl ?_
      refine j_ild4 dX8_sure_117 ?_
      refine j_ald0 dX8_sure_119 ?_
      refine j_getR (k := 41) (89) dX8_sure_120 cX8_ok (Or.inl f8_105) rfl (by decide) (by decide) (by decide) rfl ?_
      refine j_ild4 dX8_sure_123 ?_
      refine j_iald (n := 0) dX8_sure_125 rfl (by decide) rfl (by decide) (by decide) ?_
      refine j_top (y := sg i) e0 ?_
      refine j_iast (n := 0) dX8_sure_126 rfl (by decide) rfl (by decide) (by decide) ?_
      refine j_iinc4 (1) dX8_sure_127 rfl rfl (by decide) ?_
      refine j_goto 107 dX8_sure_130 (by decide) ?_
      refine j_ild4 dX8_sure_107 ?_
      refine j_iconst (3) dX8_sure_109 rfl ?_
      refine j_icmpge 133 dX8_sure_110 (by decide) (fun c_110 => absurd c_110 (by decide)) (fun c_110 => ?_)
      refine j_ald0 dX8_sure_113 ?_
      refine j_getR (k := 42) (90) dX8_sure_114 cX8_ok (Or.inl f8_108) rfl (by decide) (by decide) (by decide) rfl ?_
      refine j_ild4 dX8_sure_117 ?_
      refine j_ald0 dX8_sure_119 ?_
      refine j_getR (k := 41) (89) dX8_sure_120 cX8_ok (Or.inl f8_105) rfl (by decide) (by decide) (by decide) rfl ?_
      refine j_ild4 dX8_sure_123 ?_
      refine j_iald (n := 1) dX8_sure_125 rfl (by decide) rfl (by omega) (by decide) ?_
      refine j_top (y := sg j) (by simp [uI_at]; exact e1) ?_
      refine j_iast (n := 1) dX8_sure_126 rfl (by decide) rfl (by decide) (by decide) ?_
      refine j_iinc4 (2) dX8_sure_127 rfl rfl (by decide) ?_
      refine j_goto 107 dX8_sure_130 (by decide) ?_
      refine j_ild4 dX8_sure_107 ?_
      refine j_iconst (3) dX8_sure_109 rfl ?_
      refine j_icmpge 133 dX8_sure_110 (by decide) (fun c_110 => absurd c_110 (by decide)) (fun c_110 => ?_)
      refine j_ald0 dX8_sure_113 ?_
      refine j_getR (k := 42) (90) dX8_sure_114 cX8_ok (Or.inl f8_108) rfl (by decide) (by decide) (by decide) rfl ?_
      refine j_ild4 dX8_sure_117 ?_
      refine j_ald0 dX8_sure_119 ?_
      refine j_getR (k := 41) (89) dX8_sure_120 cX8_ok (Or.inl f8_105) rfl (by decide) (by decide) (by decide) rfl ?_
      refine j_ild4 dX8_sure_123 ?_
      refine j_iald (n := 2) dX8_sure_125 rfl (by decide) rfl (by omega) (by decide) ?_
      refine j_top (y := sg k) (by simp [uI_at]; exact e2) ?_
      refine j_iast (n := 2) dX8_sure_126 rfl (by decide) rfl (by decide) (by decide) ?_
      refine j_iinc4 (3) dX8_sure_127 rfl rfl (by decide) ?_
      refine j_goto 107 dX8_sure_130 (by decide) ?_
      refine j_ild4 dX8_sure_107 ?_
      refine j_iconst (3) dX8_sure_109 rfl ?_
      refine j_icmpge 133 dX8_sure_110 (by decide) (fun c_110 => ?_) (fun c_110 => absurd (by decide) c_110)
      refine j_ald0 dX8_sure_133 ?_
      refine j_getR (k := 41) (89) dX8_sure_134 cX8_ok (Or.inl f8_105) rfl (by decide) (by decide) (by decide) rfl ?_
      refine j_iconst (2) dX8_sure_137 rfl ?_
      refine j_dup2 dX8_sure_138 rfl rfl ?_
      refine j_iald (n := 2) dX8_sure_139 rfl (by decide) rfl (by decide) (by decide) ?_
      refine j_top (y := sg k) (by simp [uI_at]; exact e2) ?_
      refine j_iconst (1) dX8_sure_140 rfl ?_
      refine j_iadd dX8_sure_141 ?_
      refine j_top (y := sg (k + 1)) (sg_1 q_86) ?_
      refine j_iast (n := 2) dX8_sure_142 rfl (by decide) rfl (by decide) (by decide) ?_
      refine j_goto 79 dX8_sure_143 (by decide) ?_
      have e : l3 (qI v) i j (k + 1) P = (lossI (qI v) (sg i) (sg j) (sg k), sg i, sg j, sg k) := by rw [l3, stp, if_pos c_96]
      have := ih (k + 1) (uI (uI (uI (uI S1 90 0 (sg i)) 90 1 (sg j)) 90 2 (sg k)) 89 2 (sg (k + 1))) (.int (lossI (qI v) (sg i) (sg j) (sg k))) (.int 3) (by omega) (by omega) (Kp_uI (Kp_uI (Kp_uI (Kp_uI (hkp) (List.mem_singleton.mpr rfl)) (List.mem_singleton.mpr rfl)) (List.mem_singleton.mpr rfl)) (List.mem_singleton.mpr rfl)) (by rw [e]; simp [stA, uI_at]) (by simp [uI_at]; exact e0) (by simp [uI_at]; exact e1) (by simp [uI_at])
      rw [e] at this
      exact this
    refine j_goto 133 dX8_sure_99 (by decide) ?_
    refine j_ald0 dX8_sure_133 ?_
    refine j_getR (k := 41) (89) dX8_sure_134 cX8_ok (Or.inl f8_105) rfl (by decide) (by decide) (by decide) rfl ?_
    refine j_iconst (2) dX8_sure_137 rfl ?_
    refine j_dup2 dX8_sure_138 rfl rfl ?_
    refine j_iald (n := 2) dX8_sure_139 rfl (by decide) rfl (by decide) (by decide) ?_
    refine j_top (y := sg k) e2 ?_
    refine j_iconst (1) dX8_sure_140 rfl ?_
    refine j_iadd dX8_sure_141 ?_
    refine j_top (y := sg (k + 1)) (sg_1 q_86) ?_
    refine j_iast (n := 2) dX8_sure_142 rfl (by decide) rfl (by decide) (by decide) ?_
    refine j_goto 79 dX8_sure_143 (by decide) ?_
    have e : l3 (qI v) i j (k + 1) P = l3 (qI v) i j k P := by rw [l3, stp, if_neg c_96]
    have := ih (k + 1) (uI S1 89 2 (sg (k + 1))) (.int (lossI (qI v) (sg i) (sg j) (sg k))) w4 (by omega) (by omega) (Kp_uI (hkp) (List.mem_singleton.mpr rfl)) (by rw [e]; simpa [stA, uI_at] using hst) (by rw [uI_at, if_neg (by decide)]; exact e0) (by rw [uI_at, if_neg (by decide)]; exact e1) (by rw [uI_at, if_pos ⟨rfl, rfl⟩])
    rw [e] at this
    exact this

set_option maxRecDepth 20000 in
theorem lp2_X8_sure (h : TR n v S) {g : GG} {x : Int32} {i : Nat} (hi : i < 11) {P : P4} (kk : ∀ (S1 : St) (w3 w4 : Value), Kp [14] S S1 → stA 90 (l2 (qI v) i 11 P) S1 → S1.1 89 0 = sg i → J a mX8_sure 1 g 159 [.ref (a 61), .int x, .int (l2 (qI v) i 11 P).1, w3, w4] [] S1) : ∀ (fu : Nat) (j : Nat) (S1 : St) (w3 w4 : Value), 11 - j < fu → (j ≤ 11) → (Kp [14] S S1) → (stA 90 (l2 (qI v) i j P) S1) → (S1.1 89 0 = sg i) → (S1.1 89 1 = sg j) → J a mX8_sure 1 g 61 [.ref (a 61), .int x, .int (l2 (qI v) i j P).1, w3, w4] [] S1 := by
  intro fu
  induction fu with
  | zero => intro j S1 w3 w4 hk; exact absurd hk (Nat.not_lt_zero _)
  | succ fu ih =>
    intro j S1 w3 w4 hk hj11 hkp hst e0 e1
    refine j_ald0 dX8_sure_61 ?_
    refine j_getR (k := 41) (89) dX8_sure_62 cX8_ok (Or.inl f8_105) rfl (by decide) (by decide) (by decide) rfl ?_
    refine j_iconst (1) dX8_sure_65 rfl ?_
    refine j_iald (n := 1) dX8_sure_66 rfl (by decide) rfl (by decide) (by decide) ?_
    refine j_top (y := sg j) e1 ?_
    refine j_iconst (5) dX8_sure_67 rfl ?_
    refine j_icmpgt 159 dX8_sure_68 (by decide) (fun c_68 => ?_) (fun c_68 => ?_)
    · have q_68 : j = 11 := (sg_gt (by omega)).mp c_68
      subst q_68
      exact kk _ _ _ hkp hst e0
    have q_68 : j < 11 := by
      have := mt (sg_gt (i := j) (by omega)).mpr c_68
      omega
    refine j_ald0 dX8_sure_71 ?_
    refine j_getR (k := 41) (89) dX8_sure_72 cX8_ok (Or.inl f8_105) rfl (by decide) (by decide) (by decide) rfl ?_
    refine j_iconst (2) dX8_sure_75 rfl ?_
    refine j_bipush (-5) dX8_sure_76 rfl ?_
    refine j_top (y := sg 0) (sg_0) ?_
    refine j_iast (n := 2) dX8_sure_78 rfl (by decide) rfl (by decide) (by decide) ?_
    refine lp3_X8_sure h hi q_68 (P := l2 (qI v) i j P) (fun S2 w3 w4 hkp2 hst2 f0 f1 => ?_) 12 0 _ _ _ (by omega) (by omega) (Kp_uI (hkp) (List.mem_singleton.mpr rfl)) (by simpa [stA, uI_at, l3] using hst) (by rw [uI_at, if_neg (by decide)]; exact e0) (by rw [uI_at, if_neg (by decide)]; exact e1) (by rw [uI_at, if_pos ⟨rfl, rfl⟩])
    refine j_ald0 dX8_sure_146 ?_
    refine j_getR (k := 41) (89) dX8_sure_147 cX8_ok (Or.inl f8_105) rfl (by decide) (by decide) (by decide) rfl ?_
    refine j_iconst (1) dX8_sure_150 rfl ?_
    refine j_dup2 dX8_sure_151 rfl rfl ?_
    refine j_iald (n := 1) dX8_sure_152 rfl (by decide) rfl (by decide) (by decide) ?_
    refine j_top (y := sg j) f1 ?_
    refine j_iconst (1) dX8_sure_153 rfl ?_
    refine j_iadd dX8_sure_154 ?_
    refine j_top (y := sg (j + 1)) (sg_1 q_68) ?_
    refine j_iast (n := 1) dX8_sure_155 rfl (by decide) rfl (by decide) (by decide) ?_
    refine j_goto 61 dX8_sure_156 (by decide) ?_
    exact ih (j + 1) (uI S2 89 1 (sg (j + 1))) _ _ (by omega) (by omega) (Kp_uI (hkp2) (List.mem_singleton.mpr rfl)) (by simpa [stA, uI_at, l2] using hst2) (by rw [uI_at, if_neg (by decide)]; exact f0) (by rw [uI_at, if_pos ⟨rfl, rfl⟩])

set_option maxRecDepth 20000 in
theorem lp1_X8_sure (h : TR n v S) {g : GG} {x : Int32} {P : P4} (kk : ∀ (S1 : St) (w3 w4 : Value), Kp [14] S S1 → stA 90 (l1 (qI v) 11 P) S1 → J a mX8_sure 1 g 172 [.ref (a 61), .int x, .int (l1 (qI v) 11 P).1, w3, w4] [] S1) : ∀ (fu : Nat) (i : Nat) (S1 : St) (w3 w4 : Value), 11 - i < fu → (i ≤ 11) → (Kp [14] S S1) → (stA 90 (l1 (qI v) i P) S1) → (S1.1 89 0 = sg i) → J a mX8_sure 1 g 43 [.ref (a 61), .int x, .int (l1 (qI v) i P).1, w3, w4] [] S1 := by
  intro fu
  induction fu with
  | zero => intro i S1 w3 w4 hk; exact absurd hk (Nat.not_lt_zero _)
  | succ fu ih =>
    intro i S1 w3 w4 hk hi11 hkp hst e0
    refine j_ald0 dX8_sure_43 ?_
    refine j_getR (k := 41) (89) dX8_sure_44 cX8_ok (Or.inl f8_105) rfl (by decide) (by decide) (by decide) rfl ?_
    refine j_iconst (0) dX8_sure_47 rfl ?_
    refine j_iald (n := 0) dX8_sure_48 rfl (by decide) rfl (by decide) (by decide) ?_
    refine j_top (y := sg i) e0 ?_
    refine j_iconst (5) dX8_sure_49 rfl ?_
    refine j_icmpgt 172 dX8_sure_50 (by decide) (fun c_50 => ?_) (fun c_50 => ?_)
    · have q_50 : i = 11 := (sg_gt (by omega)).mp c_50
      subst q_50
      exact kk _ _ _ hkp hst
    have q_50 : i < 11 := by
      have := mt (sg_gt (i := i) (by omega)).mpr c_50
      omega
    refine j_ald0 dX8_sure_53 ?_
    refine j_getR (k := 41) (89) dX8_sure_54 cX8_ok (Or.inl f8_105) rfl (by decide) (by decide) (by decide) rfl ?_
    refine j_iconst (1) dX8_sure_57 rfl ?_
    refine j_bipush (-5) dX8_sure_58 rfl ?_
    refine j_top (y := sg 0) (sg_0) ?_
    refine j_iast (n := 1) dX8_sure_60 rfl (by decide) rfl (by decide) (by decide) ?_
    refine lp2_X8_sure h q_50 (P := l1 (qI v) i P) (fun S2 w3 w4 hkp2 hst2 f0 => ?_) 12 0 _ _ _ (by omega) (by omega) (Kp_uI (hkp) (List.mem_singleton.mpr rfl)) (by simpa [stA, uI_at, l2] using hst) (by rw [uI_at, if_neg (by decide)]; exact e0) (by rw [uI_at, if_pos ⟨rfl, rfl⟩])
    refine j_ald0 dX8_sure_159 ?_
    refine j_getR (k := 41) (89) dX8_sure_160 cX8_ok (Or.inl f8_105) rfl (by decide) (by decide) (by decide) rfl ?_
    refine j_iconst (0) dX8_sure_163 rfl ?_
    refine j_dup2 dX8_sure_164 rfl rfl ?_
    refine j_iald (n := 0) dX8_sure_165 rfl (by decide) rfl (by decide) (by decide) ?_
    refine j_top (y := sg i) f0 ?_
    refine j_iconst (1) dX8_sure_166 rfl ?_
    refine j_iadd dX8_sure_167 ?_
    refine j_top (y := sg (i + 1)) (sg_1 q_50) ?_
    refine j_iast (n := 0) dX8_sure_168 rfl (by decide) rfl (by decide) (by decide) ?_
    refine j_goto 43 dX8_sure_169 (by decide) ?_
    exact ih (i + 1) (uI S2 89 0 (sg (i + 1))) _ _ (by omega) (by omega) (Kp_uI (hkp2) (List.mem_singleton.mpr rfl)) (by simpa [stA, uI_at, l1] using hst2) (by rw [uI_at, if_pos ⟨rfl, rfl⟩])

set_option maxRecDepth 20000 in
theorem s_X8_sure_ok {x : Int32} (h : TR n v S) (hk : suOk x) : Rqi a mX8_sure 1 [.ref (a 61), .int x] S fun y S' => y = sureV v x ∧ Kp [14] S S' := by
  show J _ _ _ _ 0 [_, _, .null, .null, .null] [] _
  refine j_ild1 dX8_sure_0 ?_
  refine j_iconst (-1) dX8_sure_1 rfl ?_
  refine j_iconst (2) dX8_sure_2 rfl ?_
  refine j_cS3 dX8_sure_3 kX8_in zX8_in (Or.inl l8_148) (Nat.le_of_ble_eq_true rfl) (Nat.le_of_ble_eq_true rfl) (by omega) (s_X8_in) ?_
  refine j_ifneB 13 dX8_sure_6 (by decide) (fun c_6 => ?_) (fun c_6 => absurd (⟨hk.1, (le_lt (c := 2) (by decide)).mpr hk.2⟩) c_6)
  refine j_iconst (0) dX8_sure_13 rfl ?_
  refine j_ist2 dX8_sure_14 rfl (by decide) ?_
  refine j_iconst (0) dX8_sure_15 rfl ?_
  refine j_ist3 dX8_sure_16 rfl (by decide) ?_
  refine j_ild3 dX8_sure_17 ?_
  refine j_iconst (3) dX8_sure_18 rfl ?_
  refine j_icmpge 35 dX8_sure_19 (by decide) (fun c_19 => absurd c_19 (by decide)) (fun c_19 => ?_)
  refine j_ald0 dX8_sure_22 ?_
  refine j_getR (k := 42) (90) dX8_sure_23 cX8_ok (Or.inl f8_108) rfl (by decide) (by decide) (by decide) rfl ?_
  refine j_ild3 dX8_sure_26 ?_
  refine j_iconst (0) dX8_sure_27 rfl ?_
  refine j_iast (n := 0) dX8_sure_28 rfl (by decide) rfl (by decide) (by decide) ?_
  refine j_iinc3 (1) dX8_sure_29 rfl rfl (by decide) ?_
  refine j_goto 17 dX8_sure_32 (by decide) ?_
  refine j_ild3 dX8_sure_17 ?_
  refine j_iconst (3) dX8_sure_18 rfl ?_
  refine j_icmpge 35 dX8_sure_19 (by decide) (fun c_19 => absurd c_19 (by decide)) (fun c_19 => ?_)
  refine j_ald0 dX8_sure_22 ?_
  refine j_getR (k := 42) (90) dX8_sure_23 cX8_ok (Or.inl f8_108) rfl (by decide) (by decide) (by decide) rfl ?_
  refine j_ild3 dX8_sure_26 ?_
  refine j_iconst (0) dX8_sure_27 rfl ?_
  refine j_iast (n := 1) dX8_sure_28 rfl (by decide) rfl (by decide) (by decide) ?_
  refine j_iinc3 (2) dX8_sure_29 rfl rfl (by decide) ?_
  refine j_goto 17 dX8_sure_32 (by decide) ?_
  refine j_ild3 dX8_sure_17 ?_
  refine j_iconst (3) dX8_sure_18 rfl ?_
  refine j_icmpge 35 dX8_sure_19 (by decide) (fun c_19 => absurd c_19 (by decide)) (fun c_19 => ?_)
  refine j_ald0 dX8_sure_22 ?_
  refine j_getR (k := 42) (90) dX8_sure_23 cX8_ok (Or.inl f8_108) rfl (by decide) (by decide) (by decide) rfl ?_
  refine j_ild3 dX8_sure_26 ?_
  refine j_iconst (0) dX8_sure_27 rfl ?_
  refine j_iast (n := 2) dX8_sure_28 rfl (by decide) rfl (by decide) (by decide) ?_
  refine j_iinc3 (3) dX8_sure_29 rfl rfl (by decide) ?_
  refine j_goto 17 dX8_sure_32 (by decide) ?_
  refine j_ild3 dX8_sure_17 ?_
  refine j_iconst (3) dX8_sure_18 rfl ?_
  refine j_icmpge 35 dX8_sure_19 (by decide) (fun c_19 => ?_) (fun c_19 => absurd (by decide) c_19)
  refine j_ald0 dX8_sure_35 ?_
  refine j_getR (k := 41) (89) dX8_sure_36 cX8_ok (Or.inl f8_105) rfl (by decide) (by decide) (by decide) rfl ?_
  refine j_iconst (0) dX8_sure_39 rfl ?_
  refine j_bipush (-5) dX8_sure_40 rfl ?_
  refine j_top (y := sg 0) (sg_0) ?_
  refine j_iast (n := 0) dX8_sure_42 rfl (by decide) rfl (by decide) (by decide) ?_
  refine lp1_X8_sure h (P := (0, 0, 0, 0)) (fun S2 w3 w4 hkp hst => ?_) 12 0 _ _ _ (by omega) (by omega) (Kp_uI (Kp_uI (Kp_uI (Kp_uI (Kp.rf) (List.mem_singleton.mpr rfl)) (List.mem_singleton.mpr rfl)) (List.mem_singleton.mpr rfl)) (List.mem_singleton.mpr rfl)) (by simp [stA, uI_at, l1]) (by rw [uI_at, if_pos ⟨rfl, rfl⟩])
  refine j_ild1 dX8_sure_172 ?_
  refine j_iflt 183 dX8_sure_173 (by decide) (fun c_173 => ?_) (fun c_173 => ?_)
  · refine j_ild2 dX8_sure_183 ?_
    refine j_ifne 192 dX8_sure_184 (by decide) (fun c_184 => ?_) (fun c_184 => ?_)
    · refine j_ild2 dX8_sure_192 ?_
      refine j_iret dX8_sure_193 rfl ?_
      exact ⟨_, rfl, by rw [sureV, if_pos c_173, if_pos (show 0 < (sureP v).1 from Int32.lt_of_le_of_ne (l1_0 (by decide) 11) (fun z => c_184 z.symm))]; rfl, hkp⟩
    refine j_bipush (-2) dX8_sure_187 rfl ?_
    refine j_goto 193 dX8_sure_189 (by decide) ?_
    refine j_iret dX8_sure_193 rfl ?_
    exact ⟨_, rfl, by rw [sureV, if_pos c_173, if_neg (fun z => Int32.lt_irrefl (Int32.lt_of_lt_of_le z (by rw [show (sureP v).1 = 0 from Classical.not_not.mp c_184]; exact Int32.le_refl _)))], hkp⟩
  have q_26 := su_k hk (Int32.not_lt.mpr (Int32.not_lt.mp c_173))
  obtain ⟨k, hk3, rfl⟩ := q_26
  refine j_ald0 dX8_sure_176 ?_
  refine j_getR (k := 42) (90) dX8_sure_177 cX8_ok (Or.inl f8_108) rfl (by decide) (by decide) (by decide) rfl ?_
  refine j_ild1 dX8_sure_180 ?_
  refine j_iald (n := k) dX8_sure_181 rfl (by decide) rfl (by omega) (by decide) ?_
  refine j_iret dX8_sure_182 rfl ?_
  exact ⟨_, rfl, by rw [sureV, if_neg c_173, stA_pick hst hk3]; rfl, hkp⟩

set_option maxRecDepth 20000 in
theorem s_X8_sure_bad {x : Int32} (hk : ¬ suOk x) : Rt a mX8_sure 1 [.ref (a 61), .int x] S (some (.int (-2000000000))) S := by
  show J _ _ _ _ 0 [_, _, .null, .null, .null] [] _
  refine j_ild1 dX8_sure_0 ?_
  refine j_iconst (-1) dX8_sure_1 rfl ?_
  refine j_iconst (2) dX8_sure_2 rfl ?_
  refine j_cS3 dX8_sure_3 kX8_in zX8_in (Or.inl l8_148) (Nat.le_of_ble_eq_true rfl) (Nat.le_of_ble_eq_true rfl) (by omega) (s_X8_in) ?_
  refine j_ifneB 13 dX8_sure_6 (by decide) (fun c_6 => ?_) (fun c_6 => ?_)
  · exact absurd ⟨c_6.1, (le_lt (c := 2) (by decide)).mp c_6.2⟩ hk
  refine j_ldc_w (v := -2000000000) dX8_sure_9 q8_337 ?_
  refine j_iret dX8_sure_12 rfl ?_
  exact ⟨rfl, rfl⟩

end Sure
