/-! sure stakes: both sides -/
def sg (i : Nat) : Int32 := nI i - 5
theorem sg_0 : (-5 : Int32) = sg 0 := by decide
theorem sg_1 : ∀ {i}, i < 11 → sg i + 1 = sg (i + 1) := by decide +kernel
theorem sg_gt : ∀ {i}, i < 12 → ((5 : Int32) < sg i ↔ i = 11) := by decide +kernel
def mnI (x y : Int32) : Int32 := if y < x then y else x
def lossI (q : Nat → Int32) (f s t : Int32) : Int32 := 12 * mnI f (mnI s t) - (f * q 0 + s * q 1 + t * q 2)
def qI (v : Nat → Nat → Nat) (i : Nat) : Int32 := nI (v 11 i)
abbrev P4 : Type := Int32 × Int32 × Int32 × Int32
def stp (q : Nat → Int32) (i j k : Nat) (P : P4) : P4 := if P.1 < lossI q (sg i) (sg j) (sg k) then (lossI q (sg i) (sg j) (sg k), sg i, sg j, sg k) else P
def l3 (q : Nat → Int32) (i j : Nat) : Nat → P4 → P4
  | 0, P => P
  | k + 1, P => stp q i j k (l3 q i j k P)
def l2 (q : Nat → Int32) (i : Nat) : Nat → P4 → P4
  | 0, P => P
  | j + 1, P => l3 q i j 11 (l2 q i j P)
def l1 (q : Nat → Int32) : Nat → P4 → P4
  | 0, P => P
  | i + 1, P => l2 q i 11 (l1 q i P)
def sureP (v : Nat → Nat → Nat) : P4 := l1 (qI v) 11 (0, 0, 0, 0)
def pick4 (P : P4) (k : Int32) : Int32 := if k = 0 then P.2.1 else if k = 1 then P.2.2.1 else P.2.2.2
abbrev suOk (x : Int32) : Prop := -1 ≤ x ∧ x < 3
def sureV (v : Nat → Nat → Nat) (x : Int32) : Int32 := if x < 0 then (if 0 < (sureP v).1 then (sureP v).1 else -2) else pick4 (sureP v) x
def stA (c : Nat) (P : P4) (S : St) : Prop := S.1 c 0 = P.2.1 ∧ S.1 c 1 = P.2.2.1 ∧ S.1 c 2 = P.2.2.2
theorem stA_pick {c : Nat} {P : P4} {S : St} (h : stA c P S) {k : Nat} (hk : k < 3) : S.1 c k = pick4 P (nI k) := by
  rcases (show k = 0 ∨ k = 1 ∨ k = 2 by omega) with rfl | rfl | rfl
  · exact h.1
  · exact h.2.1
  · exact h.2.2
section Sure
variable {a : Nat → Nat} {S : St} {n : Nat} {v : Nat → Nat → Nat}
set_option maxRecDepth 20000 in
theorem s_X3_leastLoss {x y z : Int32} (h : TC n v S) : Rt a mX3_leastLoss 1 [.ref (a 27), .int x, .int y, .int z] S (some (.int (lossI (qI v) x y z))) S := by
  show J _ _ _ _ 0 [_, _, _, _, .null] [] _
  refine j_ild1 dX3_leastLoss_0 ?_
  refine j_ald0 dX3_leastLoss_1 ?_
  refine j_iconst (0) dX3_leastLoss_2 rfl ?_
  refine j_iald (n := 0) dX3_leastLoss_3 rfl (by decide) rfl (by omega) (by decide) ?_
  refine j_top (y := nI (v 11 0)) (h.2.2.1 11 (by decide) 0 (by omega)) ?_
  refine j_imul dX3_leastLoss_4 ?_
  refine j_ild2 dX3_leastLoss_5 ?_
  refine j_ald0 dX3_leastLoss_6 ?_
  refine j_iconst (1) dX3_leastLoss_7 rfl ?_
  refine j_iald (n := 1) dX3_leastLoss_8 rfl (by decide) rfl (by omega) (by decide) ?_
  refine j_top (y := nI (v 11 1)) (h.2.2.1 11 (by decide) 1 (by omega)) ?_
  refine j_imul dX3_leastLoss_9 ?_
  refine j_iadd dX3_leastLoss_10 ?_
  refine j_ild3 dX3_leastLoss_11 ?_
  refine j_ald0 dX3_leastLoss_12 ?_
  refine j_iconst (2) dX3_leastLoss_13 rfl ?_
  refine j_iald (n := 2) dX3_leastLoss_14 rfl (by decide) rfl (by omega) (by decide) ?_
  refine j_top (y := nI (v 11 2)) (h.2.2.1 11 (by decide) 2 (by omega)) ?_
  refine j_imul dX3_leastLoss_15 ?_
  refine j_iadd dX3_leastLoss_16 ?_
  refine j_ist4 dX3_leastLoss_17 rfl (by decide) ?_
  refine j_bipush (12) dX3_leastLoss_19 rfl ?_
  refine j_ild1 dX3_leastLoss_21 ?_
  refine j_ild2 dX3_leastLoss_22 ?_
  refine j_ild3 dX3_leastLoss_23 ?_
  refine j_min dX3_leastLoss_24 l3_61 t_min_s t_mini t_min_c (Nat.le_of_ble_eq_true rfl) (by omega) ?_
  refine j_min dX3_leastLoss_27 l3_61 t_min_s t_mini t_min_c (Nat.le_of_ble_eq_true rfl) (by omega) ?_
  refine j_imul dX3_leastLoss_30 ?_
  refine j_ild4 dX3_leastLoss_31 ?_
  refine j_isub dX3_leastLoss_33 ?_
  refine j_iret dX3_leastLoss_34 rfl ?_
  exact ⟨rfl, rfl⟩

set_option maxRecDepth 20000 in
theorem lp3_findStakes (h : TC n v S) {g : GG} {i j : Nat} (hi : i < 11) (hj : j < 11) {P : P4} (kk : ∀ (S1 : St) (w5 w6 : Value), Kp [4] S S1 → stA 47 (l3 (qI v) i j 11 P) S1 → J a mX3_findStakes 2 g 106 [.ref (a 4), .ref (a 1), .int (l3 (qI v) i j 11 P).1, .int (sg i), .int (sg j), w5, w6] [] S1) : ∀ (fu : Nat) (k : Nat) (S1 : St) (w6 : Value), 11 - k < fu → (k ≤ 11) → (Kp [4] S S1) → (stA 47 (l3 (qI v) i j k P) S1) → J a mX3_findStakes 2 g 45 [.ref (a 4), .ref (a 1), .int (l3 (qI v) i j k P).1, .int (sg i), .int (sg j), .int (sg k), w6] [] S1 := by
  intro fu
  induction fu with
  | zero => intro k S1 w6 hk; exact absurd hk (Nat.not_lt_zero _)
  | succ fu ih =>
    intro k S1 w6 hk hk11 hkp hst
    refine j_ild5 dX3_findStakes_45 ?_
    refine j_iconst (5) dX3_findStakes_47 rfl ?_
    refine j_icmpgt 106 dX3_findStakes_48 (by decide) (fun c_48 => ?_) (fun c_48 => ?_)
    · have q_48 : k = 11 := (sg_gt (by omega)).mp c_48
      subst q_48
      exact kk _ _ _ hkp hst
    have q_48 : k < 11 := by
      have := mt (sg_gt (i := k) (by omega)).mpr c_48
      omega
    refine j_ald1 dX3_findStakes_51 ?_
    refine j_getR (k := 0) (15) dX3_findStakes_52 cX6_ok (Or.inr ⟨_, f3_21⟩) rfl (by decide) (by decide) (by decide) rfl ?_
    refine j_bipush (11) dX3_findStakes_55 rfl ?_
    refine j_aald (n := 11) (27) dX3_findStakes_57 (Or.inr rfl) (by decide) rfl (by decide) (by decide) rfl ?_
    refine j_ild3 dX3_findStakes_58 ?_
    refine j_ild4 dX3_findStakes_59 ?_
    refine j_ild5 dX3_findStakes_61 ?_
    refine j_cS4 dX3_findStakes_63 kX3_leastLoss zX3_leastLoss (Or.inl l3_57) (Nat.le_of_ble_eq_true rfl) (Nat.le_of_ble_eq_true rfl) (by omega) (s_X3_leastLoss (h.kp hkp (by decide))) ?_
    refine j_ist6 dX3_findStakes_66 rfl (by decide) ?_
    refine j_ild6 dX3_findStakes_68 ?_
    refine j_ild2 dX3_findStakes_70 ?_
    refine j_icmple 100 dX3_findStakes_71 (by decide) (fun c_71 => ?_) (fun c_71 => ?_)
    · refine j_iinc5 (sg (k + 1)) dX3_findStakes_100 (sg_1 q_48) rfl (by decide) ?_
      refine j_goto 45 dX3_findStakes_103 (by decide) ?_
      have e : l3 (qI v) i j (k + 1) P = l3 (qI v) i j k P := by rw [l3, stp, if_neg (Int32.not_lt.mpr c_71)]
      have := ih (k + 1) S1 (.int (lossI (qI v) (sg i) (sg j) (sg k))) (by omega) (by omega) hkp (by rw [e]; exact hst)
      rw [e] at this
      exact this
    refine j_ild6 dX3_findStakes_74 ?_
    refine j_ist2 dX3_findStakes_76 rfl (by decide) ?_
    refine j_ald0 dX3_findStakes_77 ?_
    refine j_getR (k := 2) (47) dX3_findStakes_78 cX3_ok (Or.inl f3_18) rfl (by decide) (by decide) (by decide) rfl ?_
    refine j_iconst (0) dX3_findStakes_81 rfl ?_
    refine j_ild3 dX3_findStakes_82 ?_
    refine j_iast (n := 0) dX3_findStakes_83 rfl (by decide) rfl (by decide) (by decide) ?_
    refine j_ald0 dX3_findStakes_84 ?_
    refine j_getR (k := 2) (47) dX3_findStakes_85 cX3_ok (Or.inl f3_18) rfl (by decide) (by decide) (by decide) rfl ?_
    refine j_iconst (1) dX3_findStakes_88 rfl ?_
    refine j_ild4 dX3_findStakes_89 ?_
    refine j_iast (n := 1) dX3_findStakes_91 rfl (by decide) rfl (by decide) (by decide) ?_
    refine j_ald0 dX3_findStakes_92 ?_
    refine j_getR (k := 2) (47) dX3_findStakes_93 cX3_ok (Or.inl f3_18) rfl (by decide) (by decide) (by decide) rfl ?_
    refine j_iconst (2) dX3_findStakes_96 rfl ?_
    refine j_ild5 dX3_findStakes_97 ?_
    refine j_iast (n := 2) dX3_findStakes_99 rfl (by decide) rfl (by decide) (by decide) ?_
    refine j_iinc5 (sg (k + 1)) dX3_findStakes_100 (sg_1 q_48) rfl (by decide) ?_
    refine j_goto 45 dX3_findStakes_103 (by decide) ?_
    have e : l3 (qI v) i j (k + 1) P = (lossI (qI v) (sg i) (sg j) (sg k), sg i, sg j, sg k) := by rw [l3, stp, if_pos (Int32.not_le.mp c_71)]
    have := ih (k + 1) (uI (uI (uI S1 47 0 (sg i)) 47 1 (sg j)) 47 2 (sg k)) (.int (lossI (qI v) (sg i) (sg j) (sg k))) (by omega) (by omega) (Kp_uI (Kp_uI (Kp_uI hkp (List.mem_singleton.mpr rfl)) (List.mem_singleton.mpr rfl)) (List.mem_singleton.mpr rfl)) (by rw [e]; simp [stA, uI_at])
    rw [e] at this
    exact this

set_option maxRecDepth 20000 in
theorem lp2_findStakes (h : TC n v S) {g : GG} {i : Nat} (hi : i < 11) {P : P4} (kk : ∀ (S1 : St) (w4 w5 w6 : Value), Kp [4] S S1 → stA 47 (l2 (qI v) i 11 P) S1 → J a mX3_findStakes 2 g 112 [.ref (a 4), .ref (a 1), .int (l2 (qI v) i 11 P).1, .int (sg i), w4, w5, w6] [] S1) : ∀ (fu : Nat) (j : Nat) (S1 : St) (w5 w6 : Value), 11 - j < fu → (j ≤ 11) → (Kp [4] S S1) → (stA 47 (l2 (qI v) i j P) S1) → J a mX3_findStakes 2 g 35 [.ref (a 4), .ref (a 1), .int (l2 (qI v) i j P).1, .int (sg i), .int (sg j), w5, w6] [] S1 := by
  intro fu
  induction fu with
  | zero => intro j S1 w5 w6 hk; exact absurd hk (Nat.not_lt_zero _)
  | succ fu ih =>
    intro j S1 w5 w6 hk hj11 hkp hst
    refine j_ild4 dX3_findStakes_35 ?_
    refine j_iconst (5) dX3_findStakes_37 rfl ?_
    refine j_icmpgt 112 dX3_findStakes_38 (by decide) (fun c_38 => ?_) (fun c_38 => ?_)
    · have q_38 : j = 11 := (sg_gt (by omega)).mp c_38
      subst q_38
      exact kk _ _ _ _ hkp hst
    have q_38 : j < 11 := by
      have := mt (sg_gt (i := j) (by omega)).mpr c_38
      omega
    refine j_bipush (-5) dX3_findStakes_41 rfl ?_
    refine j_top (y := sg 0) (sg_0) ?_
    refine j_ist5 dX3_findStakes_43 rfl (by decide) ?_
    refine lp3_findStakes h hi q_38 (P := l2 (qI v) i j P) (fun S2 w5 w6 hkp2 hst2 => ?_) 12 0 S1 _ (by omega) (by omega) hkp hst
    refine j_iinc4 (sg (j + 1)) dX3_findStakes_106 (sg_1 q_38) rfl (by decide) ?_
    refine j_goto 35 dX3_findStakes_109 (by decide) ?_
    exact ih (j + 1) S2 _ _ (by omega) (by omega) hkp2 hst2

set_option maxRecDepth 20000 in
theorem lp1_findStakes (h : TC n v S) {g : GG} {P : P4} (kk : ∀ (S1 : St) (w3 w4 w5 w6 : Value), Kp [4] S S1 → stA 47 (l1 (qI v) 11 P) S1 → J a mX3_findStakes 2 g 118 [.ref (a 4), .ref (a 1), .int (l1 (qI v) 11 P).1, w3, w4, w5, w6] [] S1) : ∀ (fu : Nat) (i : Nat) (S1 : St) (w4 w5 w6 : Value), 11 - i < fu → (i ≤ 11) → (Kp [4] S S1) → (stA 47 (l1 (qI v) i P) S1) → J a mX3_findStakes 2 g 26 [.ref (a 4), .ref (a 1), .int (l1 (qI v) i P).1, .int (sg i), w4, w5, w6] [] S1 := by
  intro fu
  induction fu with
  | zero => intro i S1 w4 w5 w6 hk; exact absurd hk (Nat.not_lt_zero _)
  | succ fu ih =>
    intro i S1 w4 w5 w6 hk hi11 hkp hst
    refine j_ild3 dX3_findStakes_26 ?_
    refine j_iconst (5) dX3_findStakes_27 rfl ?_
    refine j_icmpgt 118 dX3_findStakes_28 (by decide) (fun c_28 => ?_) (fun c_28 => ?_)
    · have q_28 : i = 11 := (sg_gt (by omega)).mp c_28
      subst q_28
      exact kk _ _ _ _ _ hkp hst
    have q_28 : i < 11 := by
      have := mt (sg_gt (i := i) (by omega)).mpr c_28
      omega
    refine j_bipush (-5) dX3_findStakes_31 rfl ?_
    refine j_top (y := sg 0) (sg_0) ?_
    refine j_ist4 dX3_findStakes_33 rfl (by decide) ?_
    refine lp2_findStakes h q_28 (P := l1 (qI v) i P) (fun S2 w4 w5 w6 hkp2 hst2 => ?_) 12 0 S1 _ _ (by omega) (by omega) hkp hst
    refine j_iinc3 (sg (i + 1)) dX3_findStakes_112 (sg_1 q_28) rfl (by decide) ?_
    refine j_goto 26 dX3_findStakes_115 (by decide) ?_
    exact ih (i + 1) S2 _ _ _ (by omega) (by omega) hkp2 hst2

set_option maxRecDepth 20000 in
theorem s_X3_findStakes (h : TC n v S) : Rqi a mX3_findStakes 2 [.ref (a 4), .ref (a 1)] S fun x S' => x = (sureP v).1 ∧ Kp [4] S S' ∧ stA 47 (sureP v) S' := by
  show J _ _ _ _ 0 [_, _, .null, .null, .null, .null, .null] [] _
  refine j_iconst (0) dX3_findStakes_0 rfl ?_
  refine j_ist2 dX3_findStakes_1 rfl (by decide) ?_
  refine j_ald0 dX3_findStakes_2 ?_
  refine j_getR (k := 2) (47) dX3_findStakes_3 cX3_ok (Or.inl f3_18) rfl (by decide) (by decide) (by decide) rfl ?_
  refine j_iconst (0) dX3_findStakes_6 rfl ?_
  refine j_iconst (0) dX3_findStakes_7 rfl ?_
  refine j_iast (n := 0) dX3_findStakes_8 rfl (by decide) rfl (by decide) (by decide) ?_
  refine j_ald0 dX3_findStakes_9 ?_
  refine j_getR (k := 2) (47) dX3_findStakes_10 cX3_ok (Or.inl f3_18) rfl (by decide) (by decide) (by decide) rfl ?_
  refine j_iconst (1) dX3_findStakes_13 rfl ?_
  refine j_iconst (0) dX3_findStakes_14 rfl ?_
  refine j_iast (n := 1) dX3_findStakes_15 rfl (by decide) rfl (by decide) (by decide) ?_
  refine j_ald0 dX3_findStakes_16 ?_
  refine j_getR (k := 2) (47) dX3_findStakes_17 cX3_ok (Or.inl f3_18) rfl (by decide) (by decide) (by decide) rfl ?_
  refine j_iconst (2) dX3_findStakes_20 rfl ?_
  refine j_iconst (0) dX3_findStakes_21 rfl ?_
  refine j_iast (n := 2) dX3_findStakes_22 rfl (by decide) rfl (by decide) (by decide) ?_
  refine j_bipush (-5) dX3_findStakes_23 rfl ?_
  refine j_top (y := sg 0) (sg_0) ?_
  refine j_ist3 dX3_findStakes_25 rfl (by decide) ?_
  refine lp1_findStakes h (P := (0, 0, 0, 0)) (fun S2 w3 w4 w5 w6 hkp2 hst2 => ?_) 12 0 _ _ _ _ (by omega) (by omega) (Kp_uI (Kp_uI (Kp_uI Kp.rf (List.mem_singleton.mpr rfl)) (List.mem_singleton.mpr rfl)) (List.mem_singleton.mpr rfl)) (by simp [stA, uI_at, l1])
  refine j_ild2 dX3_findStakes_118 ?_
  refine j_iret dX3_findStakes_119 rfl ?_
  exact ⟨_, rfl, rfl, hkp2, hst2⟩

theorem su_k {x : Int32} (h : suOk x) (h0 : ¬ x < 0) : ∃ k, k < 3 ∧ x = nI k := in_nI (n := 3) (by decide) ⟨Int32.not_lt.mp h0, h.2⟩
set_option maxRecDepth 20000 in
theorem s_X7_sure_ok {x : Int32} (h : TC n v S) (hk : suOk x) : Rqi a mX7_sure 3 [.ref (a 0), .int x] S fun y S' => y = sureV v x ∧ Kp [4] S S' := by
  show J _ _ _ _ 0 [_, _, .null] [] _
  refine j_ild1 dX7_sure_0 ?_
  refine j_iconst (-1) dX7_sure_1 rfl ?_
  refine j_icmplt 10 dX7_sure_2 (by decide) (fun c_2 => absurd c_2 (Int32.not_lt.mpr hk.1)) (fun c_2 => ?_)
  refine j_ild1 dX7_sure_5 ?_
  refine j_iconst (3) dX7_sure_6 rfl ?_
  refine j_icmplt 13 dX7_sure_7 (by decide) (fun c_7 => ?_) (fun c_7 => absurd (hk.2) c_7)
  refine j_ald0 dX7_sure_13 ?_
  refine j_getR (k := 3) (4) dX7_sure_14 cX7_ok (Or.inl f7_35) rfl (by decide) (by decide) (by decide) rfl ?_
  refine j_ald0 dX7_sure_17 ?_
  refine j_getR (k := 0) (1) dX7_sure_18 cX7_ok (Or.inl f7_12) rfl (by decide) (by decide) (by decide) rfl ?_
  refine j_qiV1 dX7_sure_21 kX3_findStakes l7_211 rfl (by decide) rfl (Nat.le_of_ble_eq_true rfl) (Nat.le_of_ble_eq_true rfl) (by omega) (s_X3_findStakes h) (fun l_21 S_21 h_21 => ?_)
  obtain ⟨rfl, hkp, hst⟩ := h_21
  refine j_ist2 dX7_sure_24 rfl (by decide) ?_
  refine j_ild1 dX7_sure_25 ?_
  refine j_iflt 39 dX7_sure_26 (by decide) (fun c_26 => ?_) (fun c_26 => ?_)
  · refine j_ild2 dX7_sure_39 ?_
    refine j_ifle 47 dX7_sure_40 (by decide) (fun c_40 => ?_) (fun c_40 => ?_)
    · refine j_bipush (-2) dX7_sure_47 rfl ?_
      refine j_iret dX7_sure_49 rfl ?_
      exact ⟨_, rfl, by rw [sureV, if_pos c_26, if_neg (Int32.not_lt.mpr c_40)], hkp⟩
    refine j_ild2 dX7_sure_43 ?_
    refine j_goto 49 dX7_sure_44 (by decide) ?_
    refine j_iret dX7_sure_49 rfl ?_
    exact ⟨_, rfl, by rw [sureV, if_pos c_26, if_pos (Int32.not_le.mp c_40)], hkp⟩
  have q_26 := su_k hk c_26
  obtain ⟨k, hk3, rfl⟩ := q_26
  refine j_ald0 dX7_sure_29 ?_
  refine j_getR (k := 3) (4) dX7_sure_30 cX7_ok (Or.inl f7_35) rfl (by decide) (by decide) (by decide) rfl ?_
  refine j_getR (k := 2) (47) dX7_sure_33 cX3_ok (Or.inr ⟨_, f7_215⟩) rfl (by decide) (by decide) (by decide) rfl ?_
  refine j_ild1 dX7_sure_36 ?_
  refine j_iald dX7_sure_37 rfl (by decide) rfl (by omega) (by decide) ?_
  refine j_iret dX7_sure_38 rfl ?_
  exact ⟨_, rfl, by rw [sureV, if_neg c_26, stA_pick hst hk3], hkp⟩

end Sure

