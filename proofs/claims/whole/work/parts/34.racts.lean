/-! acts: the reference, and the class's face -/
def AR (b : Nat) (kd : Nat → Nat) (T : List Nat) (S : St) : Prop := S.1 61 50 = nI b ∧ b ≤ 50 ∧ (∀ i, i < b → S.1 94 i = nI (kd i) ∧ kd i < 8) ∧ S.1 61 52 = nI T.length ∧ ∀ i, i < T.length → i < 24 → S.1 95 i = nI (T.getD i 0)
def a_pS (N : Nat) (x : Int32) : Int32 × List Nat := (x + nI N, [1])
def a_tS (N : Nat) (x : Int32) : Int32 × List Nat := ((a_pS N x).1 * 2, 70 :: (a_pS N x).2)
def a_S (K N : Nat) (x : Int32) : Int32 × List Nat := if undN K 1 = true then ((a_pS N x).1 + 3, 20 :: (a_pS N x).2) else if K = 7 then ((a_tS N x).1 - 1, 81 :: (a_tS N x).2) else if K = 6 then a_tS N x else a_pS N x
def a_pD (K N : Nat) (x : Int32) : Int32 × List Nat := ((a_S K N x).1 * 2, 10 :: (a_S K N x).2)
def a_uD (K N : Nat) (x : Int32) : Int32 × List Nat := (-(a_pD K N x).1, 30 :: (a_pD K N x).2)
def a_pL (N : Nat) (x : Int32) : Int32 × List Nat := (x ^^^ nI N, [11])
def a_tL (N : Nat) (x : Int32) : Int32 × List Nat := ((a_pL N x).1 * 3, 40 :: (a_pL N x).2)
def a_L (K N : Nat) (x : Int32) : Int32 × List Nat := if K = 5 then ((a_tL N x).1 - (a_S K N 2).1, 60 :: ((a_tL N x).2 ++ (a_S K N 2).2)) else if K = 3 then a_tL N x else a_pL N x
def a_D (K N : Nat) (x : Int32) : Int32 × List Nat := if undN K 3 = true then ((a_uD K N (x + 1)).1, 41 :: (a_uD K N (x + 1)).2) else if K = 7 then ((a_pD K N x).1 + (a_L K N 2).1, 80 :: ((a_pD K N x).2 ++ (a_L K N 2).2)) else if K = 2 then a_uD K N x else a_pD K N x
def a_pT (K N : Nat) (x : Int32) : Int32 × List Nat := ((a_D K N x).1 - (a_L K N 1).1, 2 :: ((a_D K N x).2 ++ (a_L K N 1).2))
def a_T (K N : Nat) (x : Int32) : Int32 × List Nat := if K = 4 then ((a_pT K N x).1 ^^^ 5, 50 :: (a_pT K N x).2) else if K = 5 then ((a_pT K N x).1 + 1, 61 :: (a_pT K N x).2) else a_pT K N x
def a_act (K N ac : Nat) (x : Int32) : Int32 × List Nat := if ac = 0 then a_S K N x else if ac = 1 then a_D K N x else if ac = 2 then a_L K N x else a_T K N x
theorem a_Sl {K N : Nat} {x : Int32} : (a_S K N x).2.length ≤ 3 := by unfold a_S; repeat' split
                                                                      all_goals simp [a_tS, a_pS]
theorem a_Ll {K N : Nat} {x : Int32} : (a_L K N x).2.length ≤ 6 := by
  have := a_Sl (K := K) (N := N) (x := 2)
  unfold a_L
  repeat' split
  all_goals simp [a_tL, a_pL]
  all_goals omega
theorem a_pDl {K N : Nat} {x : Int32} : (a_pD K N x).2.length ≤ 4 := by
  have := a_Sl (K := K) (N := N) (x := x)
  simp [a_pD]; omega
theorem a_uDl {K N : Nat} {x : Int32} : (a_uD K N x).2.length ≤ 5 := by
  have := a_pDl (K := K) (N := N) (x := x)
  simp [a_uD]; omega
theorem a_Dl {K N : Nat} {x : Int32} : (a_D K N x).2.length ≤ 11 := by
  have h1 := a_pDl (K := K) (N := N) (x := x)
  have h2 := a_uDl (K := K) (N := N) (x := x)
  have h3 := a_uDl (K := K) (N := N) (x := x + 1)
  have h4 := a_Ll (K := K) (N := N) (x := 2)
  unfold a_D
  repeat' split
  all_goals (try simp only [List.length_cons, List.length_append])
  all_goals omega
theorem rv_act {K N ac : Nat} {x : Int32} (hK : K < 8) (ha : ac < 4) : rv K N 21 K ac x = a_act K N ac x := by
  rcases k8 hK with rfl | rfl | rfl | rfl | rfl | rfl | rfl | rfl <;> rcases f4 ha with rfl | rfl | rfl | rfl <;> rfl
section RActs
variable {a : Nat → Nat} {S : St} {b : Nat} {kd : Nat → Nat} {T : List Nat}
theorem AR.kp {rs : List Nat} {S' : St} (h : AR b kd T S) (hk : Kp rs S S') (hr : 16 ∉ rs) : AR b kd T S' := ⟨by rw [hk.i (show rg 61 50 ∉ rs from hr)]; exact h.1, h.2.1, fun i hi => by rw [hk.i (show rg 94 i ∉ rs from hr)]; exact h.2.2.1 i hi, by rw [hk.i (show rg 61 52 ∉ rs from hr)]; exact h.2.2.2.1, fun i hi hj => by rw [hk.i (show rg 95 i ∉ rs from hr)]; exact h.2.2.2.2 i hi hj⟩

set_option maxRecDepth 20000 in
theorem s_X8_ran {x : Nat} (h : AR b kd T S) (hT : T.length < 2000) : Rqv a mX8_ran 0 [.ref (a 61), .int (nI x)] S (fun S' => AR b kd (T ++ [x]) S' ∧ Kp [16] S S') := by
  show J _ _ _ _ 0 [_, _] [] _
  refine j_ald0 dX8_ran_0 ?_
  refine j_getI (k := 52) dX8_ran_1 cX8_ok (Or.inl f8_363) rfl (by decide) (by decide) (by decide) ?_
  refine j_top (y := nI T.length) (h.2.2.2.1) ?_
  refine j_bipush (24) dX8_ran_4 rfl ?_
  refine j_icmpge 19 dX8_ran_6 (by decide) (fun c_6 => ?_) (fun c_6 => ?_)
  · have q_6 : 24 ≤ T.length := (nI_leI (a := 24) (by decide) (by omega)).mp c_6
    refine j_ald0 dX8_ran_19 ?_
    refine j_dup dX8_ran_20 rfl ?_
    refine j_getI (k := 52) dX8_ran_21 cX8_ok (Or.inl f8_363) rfl (by decide) (by decide) (by decide) ?_
    refine j_top (y := nI T.length) (h.2.2.2.1) ?_
    refine j_iconst (1) dX8_ran_24 rfl ?_
    refine j_iadd dX8_ran_25 ?_
    refine j_top (y := nI (T.length + 1)) (nI_1 _) ?_
    refine j_putI (k := 52) dX8_ran_26 cX8_ok (Or.inl f8_363) rfl (by decide) (by decide) (by decide) rfl ?_
    refine j_vret dX8_ran_29 rfl ?_
    refine ⟨rfl, ⟨?_, h.2.1, fun i hi => ?_, ?_, fun i hi hj => ?_⟩, Kp_uI Kp.rf (List.mem_singleton.mpr rfl)⟩
    · simp [uI_at, h.1]
    · refine ⟨?_, (h.2.2.1 i hi).2⟩; simp [uI_at, (h.2.2.1 i hi).1]
    · simp [uI_at]
    · rw [getD_snoc hi]
      simp only [uI_at]
      rw [if_neg (by omega), if_pos (by omega)]
      exact h.2.2.2.2 i (by omega) hj
  have q_6 : T.length < 24 := Nat.not_le.mp (fun z => c_6 ((nI_leI (a := 24) (by decide) (by omega)).mpr z))
  refine j_ald0 dX8_ran_9 ?_
  refine j_getR (k := 53) (95) dX8_ran_10 cX8_ok (Or.inl f8_126) rfl (by decide) (by decide) (by decide) rfl ?_
  refine j_ald0 dX8_ran_13 ?_
  refine j_getI (k := 52) dX8_ran_14 cX8_ok (Or.inl f8_363) rfl (by decide) (by decide) (by decide) ?_
  refine j_top (y := nI T.length) (h.2.2.2.1) ?_
  refine j_ild1 dX8_ran_17 ?_
  refine j_iast dX8_ran_18 rfl (by decide) rfl (by omega) (by decide) ?_
  refine j_ald0 dX8_ran_19 ?_
  refine j_dup dX8_ran_20 rfl ?_
  refine j_getI (k := 52) dX8_ran_21 cX8_ok (Or.inl f8_363) rfl (by decide) (by decide) (by decide) ?_
  refine j_top (y := nI T.length) (by rw [uI_at, if_neg (by omega)]; exact h.2.2.2.1) ?_
  refine j_iconst (1) dX8_ran_24 rfl ?_
  refine j_iadd dX8_ran_25 ?_
  refine j_top (y := nI (T.length + 1)) (nI_1 _) ?_
  refine j_putI (k := 52) dX8_ran_26 cX8_ok (Or.inl f8_363) rfl (by decide) (by decide) (by decide) rfl ?_
  refine j_vret dX8_ran_29 rfl ?_
  refine ⟨rfl, ⟨?_, h.2.1, fun i hi => ?_, ?_, fun i hi hj => ?_⟩, Kp_uI (Kp_uI Kp.rf (List.mem_singleton.mpr rfl)) (List.mem_singleton.mpr rfl)⟩
  · simp [uI_at, h.1]
  · refine ⟨?_, (h.2.2.1 i hi).2⟩; simp [uI_at, (h.2.2.1 i hi).1]
  · simp [uI_at]
  · rw [getD_snoc hi]
    simp only [uI_at]
    rw [if_neg (by omega)]
    by_cases e : i < T.length
    · rw [if_neg (by omega), if_pos e]; exact h.2.2.2.2 i e hj
    · have : i = T.length := by simp at hi; omega
      rw [if_pos (by simpa using this), if_neg e]

set_option maxRecDepth 20000 in
set_option maxHeartbeats 4000000 in
theorem s_X8_isUnder {c t : Nat} (hc : c < 8) (ht : t < 8) : Rt a mX8_isUnder 0 [.int (nI c), .int (nI t)] S (some (.int (bi (undN c t = true)))) S := by
  show J _ _ _ _ 0 [_, _] [] _
  refine j_ild1 dX8_isUnder_0 ?_
  refine j_ifeq 56 dX8_isUnder_1 (by decide) (fun c_1 => ?_) (fun c_1 => ?_)
  · refine j_iconst (1) dX8_isUnder_56 rfl ?_
    refine j_goto 61 dX8_isUnder_57 (by decide) ?_
    refine j_zret dX8_isUnder_61 rfl (by decide) ?_
    exact ⟨by
      rcases k8 hc with rfl | rfl | rfl | rfl | rfl | rfl | rfl | rfl <;> rcases k8 ht with rfl | rfl | rfl | rfl | rfl | rfl | rfl | rfl <;> first | rfl | (exfalso; first | exact c_1 (by decide) | exact absurd c_1 (by decide)), rfl⟩
  refine j_ild0 dX8_isUnder_4 ?_
  refine j_ild1 dX8_isUnder_5 ?_
  refine j_icmpeq 56 dX8_isUnder_6 (by decide) (fun c_6 => ?_) (fun c_6 => ?_)
  · refine j_iconst (1) dX8_isUnder_56 rfl ?_
    refine j_goto 61 dX8_isUnder_57 (by decide) ?_
    refine j_zret dX8_isUnder_61 rfl (by decide) ?_
    exact ⟨by
      rcases k8 hc with rfl | rfl | rfl | rfl | rfl | rfl | rfl | rfl <;> rcases k8 ht with rfl | rfl | rfl | rfl | rfl | rfl | rfl | rfl <;> first | rfl | (exfalso; first | exact c_1 (by decide) | exact absurd c_1 (by decide) | exact c_6 (by decide) | exact absurd c_6 (by decide)), rfl⟩
  refine j_ild1 dX8_isUnder_9 ?_
  refine j_iconst (1) dX8_isUnder_10 rfl ?_
  refine j_icmpne 19 dX8_isUnder_11 (by decide) (fun c_11 => ?_) (fun c_11 => ?_)
  · refine j_ild1 dX8_isUnder_19 ?_
    refine j_iconst (2) dX8_isUnder_20 rfl ?_
    refine j_icmpne 34 dX8_isUnder_21 (by decide) (fun c_21 => ?_) (fun c_21 => ?_)
    · refine j_ild1 dX8_isUnder_34 ?_
      refine j_iconst (3) dX8_isUnder_35 rfl ?_
      refine j_icmpne 44 dX8_isUnder_36 (by decide) (fun c_36 => ?_) (fun c_36 => ?_)
      · refine j_ild1 dX8_isUnder_44 ?_
        refine j_bipush (6) dX8_isUnder_45 rfl ?_
        refine j_icmpne 60 dX8_isUnder_47 (by decide) (fun c_47 => ?_) (fun c_47 => ?_)
        · refine j_iconst (0) dX8_isUnder_60 rfl ?_
          refine j_zret dX8_isUnder_61 rfl (by decide) ?_
          exact ⟨by
            rcases k8 hc with rfl | rfl | rfl | rfl | rfl | rfl | rfl | rfl <;> rcases k8 ht with rfl | rfl | rfl | rfl | rfl | rfl | rfl | rfl <;> first | rfl | (exfalso; first | exact c_1 (by decide) | exact absurd c_1 (by decide) | exact c_6 (by decide) | exact absurd c_6 (by decide) | exact c_11 (by decide) | exact absurd c_11 (by decide) | exact c_21 (by decide) | exact absurd c_21 (by decide) | exact c_36 (by decide) | exact absurd c_36 (by decide) | exact c_47 (by decide) | exact absurd c_47 (by decide)), rfl⟩
        refine j_ild0 dX8_isUnder_50 ?_
        refine j_bipush (7) dX8_isUnder_51 rfl ?_
        refine j_icmpne 60 dX8_isUnder_53 (by decide) (fun c_53 => ?_) (fun c_53 => ?_)
        · refine j_iconst (0) dX8_isUnder_60 rfl ?_
          refine j_zret dX8_isUnder_61 rfl (by decide) ?_
          exact ⟨by
            rcases k8 hc with rfl | rfl | rfl | rfl | rfl | rfl | rfl | rfl <;> rcases k8 ht with rfl | rfl | rfl | rfl | rfl | rfl | rfl | rfl <;> first | rfl | (exfalso; first | exact c_1 (by decide) | exact absurd c_1 (by decide) | exact c_6 (by decide) | exact absurd c_6 (by decide) | exact c_11 (by decide) | exact absurd c_11 (by decide) | exact c_21 (by decide) | exact absurd c_21 (by decide) | exact c_36 (by decide) | exact absurd c_36 (by decide) | exact c_47 (by decide) | exact absurd c_47 (by decide) | exact c_53 (by decide) | exact absurd c_53 (by decide)), rfl⟩
        refine j_iconst (1) dX8_isUnder_56 rfl ?_
        refine j_goto 61 dX8_isUnder_57 (by decide) ?_
        refine j_zret dX8_isUnder_61 rfl (by decide) ?_
        exact ⟨by
          rcases k8 hc with rfl | rfl | rfl | rfl | rfl | rfl | rfl | rfl <;> rcases k8 ht with rfl | rfl | rfl | rfl | rfl | rfl | rfl | rfl <;> first | rfl | (exfalso; first | exact c_1 (by decide) | exact absurd c_1 (by decide) | exact c_6 (by decide) | exact absurd c_6 (by decide) | exact c_11 (by decide) | exact absurd c_11 (by decide) | exact c_21 (by decide) | exact absurd c_21 (by decide) | exact c_36 (by decide) | exact absurd c_36 (by decide) | exact c_47 (by decide) | exact absurd c_47 (by decide) | exact c_53 (by decide) | exact absurd c_53 (by decide)), rfl⟩
      refine j_ild0 dX8_isUnder_39 ?_
      refine j_iconst (5) dX8_isUnder_40 rfl ?_
      refine j_icmpeq 56 dX8_isUnder_41 (by decide) (fun c_41 => ?_) (fun c_41 => ?_)
      · refine j_iconst (1) dX8_isUnder_56 rfl ?_
        refine j_goto 61 dX8_isUnder_57 (by decide) ?_
        refine j_zret dX8_isUnder_61 rfl (by decide) ?_
        exact ⟨by
          rcases k8 hc with rfl | rfl | rfl | rfl | rfl | rfl | rfl | rfl <;> rcases k8 ht with rfl | rfl | rfl | rfl | rfl | rfl | rfl | rfl <;> first | rfl | (exfalso; first | exact c_1 (by decide) | exact absurd c_1 (by decide) | exact c_6 (by decide) | exact absurd c_6 (by decide) | exact c_11 (by decide) | exact absurd c_11 (by decide) | exact c_21 (by decide) | exact absurd c_21 (by decide) | exact c_36 (by decide) | exact absurd c_36 (by decide) | exact c_41 (by decide) | exact absurd c_41 (by decide)), rfl⟩
      refine j_ild1 dX8_isUnder_44 ?_
      refine j_bipush (6) dX8_isUnder_45 rfl ?_
      refine j_icmpne 60 dX8_isUnder_47 (by decide) (fun c_47 => ?_) (fun c_47 => ?_)
      · refine j_iconst (0) dX8_isUnder_60 rfl ?_
        refine j_zret dX8_isUnder_61 rfl (by decide) ?_
        exact ⟨by
          rcases k8 hc with rfl | rfl | rfl | rfl | rfl | rfl | rfl | rfl <;> rcases k8 ht with rfl | rfl | rfl | rfl | rfl | rfl | rfl | rfl <;> first | rfl | (exfalso; first | exact c_1 (by decide) | exact absurd c_1 (by decide) | exact c_6 (by decide) | exact absurd c_6 (by decide) | exact c_11 (by decide) | exact absurd c_11 (by decide) | exact c_21 (by decide) | exact absurd c_21 (by decide) | exact c_36 (by decide) | exact absurd c_36 (by decide) | exact c_41 (by decide) | exact absurd c_41 (by decide) | exact c_47 (by decide) | exact absurd c_47 (by decide)), rfl⟩
      refine j_ild0 dX8_isUnder_50 ?_
      refine j_bipush (7) dX8_isUnder_51 rfl ?_
      refine j_icmpne 60 dX8_isUnder_53 (by decide) (fun c_53 => ?_) (fun c_53 => ?_)
      · refine j_iconst (0) dX8_isUnder_60 rfl ?_
        refine j_zret dX8_isUnder_61 rfl (by decide) ?_
        exact ⟨by
          rcases k8 hc with rfl | rfl | rfl | rfl | rfl | rfl | rfl | rfl <;> rcases k8 ht with rfl | rfl | rfl | rfl | rfl | rfl | rfl | rfl <;> first | rfl | (exfalso; first | exact c_1 (by decide) | exact absurd c_1 (by decide) | exact c_6 (by decide) | exact absurd c_6 (by decide) | exact c_11 (by decide) | exact absurd c_11 (by decide) | exact c_21 (by decide) | exact absurd c_21 (by decide) | exact c_36 (by decide) | exact absurd c_36 (by decide) | exact c_41 (by decide) | exact absurd c_41 (by decide) | exact c_47 (by decide) | exact absurd c_47 (by decide) | exact c_53 (by decide) | exact absurd c_53 (by decide)), rfl⟩
      refine j_iconst (1) dX8_isUnder_56 rfl ?_
      refine j_goto 61 dX8_isUnder_57 (by decide) ?_
      refine j_zret dX8_isUnder_61 rfl (by decide) ?_
      exact ⟨by
        rcases k8 hc with rfl | rfl | rfl | rfl | rfl | rfl | rfl | rfl <;> rcases k8 ht with rfl | rfl | rfl | rfl | rfl | rfl | rfl | rfl <;> first | rfl | (exfalso; first | exact c_1 (by decide) | exact absurd c_1 (by decide) | exact c_6 (by decide) | exact absurd c_6 (by decide) | exact c_11 (by decide) | exact absurd c_11 (by decide) | exact c_21 (by decide) | exact absurd c_21 (by decide) | exact c_36 (by decide) | exact absurd c_36 (by decide) | exact c_41 (by decide) | exact absurd c_41 (by decide) | exact c_47 (by decide) | exact absurd c_47 (by decide) | exact c_53 (by decide) | exact absurd c_53 (by decide)), rfl⟩
    refine j_ild0 dX8_isUnder_24 ?_
    refine j_iconst (3) dX8_isUnder_25 rfl ?_
    refine j_icmpeq 56 dX8_isUnder_26 (by decide) (fun c_26 => ?_) (fun c_26 => ?_)
    · refine j_iconst (1) dX8_isUnder_56 rfl ?_
      refine j_goto 61 dX8_isUnder_57 (by decide) ?_
      refine j_zret dX8_isUnder_61 rfl (by decide) ?_
      exact ⟨by
        rcases k8 hc with rfl | rfl | rfl | rfl | rfl | rfl | rfl | rfl <;> rcases k8 ht with rfl | rfl | rfl | rfl | rfl | rfl | rfl | rfl <;> first | rfl | (exfalso; first | exact c_1 (by decide) | exact absurd c_1 (by decide) | exact c_6 (by decide) | exact absurd c_6 (by decide) | exact c_11 (by decide) | exact absurd c_11 (by decide) | exact c_21 (by decide) | exact absurd c_21 (by decide) | exact c_26 (by decide) | exact absurd c_26 (by decide)), rfl⟩
    refine j_ild0 dX8_isUnder_29 ?_
    refine j_iconst (5) dX8_isUnder_30 rfl ?_
    refine j_icmpeq 56 dX8_isUnder_31 (by decide) (fun c_31 => ?_) (fun c_31 => ?_)
    · refine j_iconst (1) dX8_isUnder_56 rfl ?_
      refine j_goto 61 dX8_isUnder_57 (by decide) ?_
      refine j_zret dX8_isUnder_61 rfl (by decide) ?_
      exact ⟨by
        rcases k8 hc with rfl | rfl | rfl | rfl | rfl | rfl | rfl | rfl <;> rcases k8 ht with rfl | rfl | rfl | rfl | rfl | rfl | rfl | rfl <;> first | rfl | (exfalso; first | exact c_1 (by decide) | exact absurd c_1 (by decide) | exact c_6 (by decide) | exact absurd c_6 (by decide) | exact c_11 (by decide) | exact absurd c_11 (by decide) | exact c_21 (by decide) | exact absurd c_21 (by decide) | exact c_26 (by decide) | exact absurd c_26 (by decide) | exact c_31 (by decide) | exact absurd c_31 (by decide)), rfl⟩
    refine j_ild1 dX8_isUnder_34 ?_
    refine j_iconst (3) dX8_isUnder_35 rfl ?_
    refine j_icmpne 44 dX8_isUnder_36 (by decide) (fun c_36 => ?_) (fun c_36 => ?_)
    · refine j_ild1 dX8_isUnder_44 ?_
      refine j_bipush (6) dX8_isUnder_45 rfl ?_
      refine j_icmpne 60 dX8_isUnder_47 (by decide) (fun c_47 => ?_) (fun c_47 => ?_)
      · refine j_iconst (0) dX8_isUnder_60 rfl ?_
        refine j_zret dX8_isUnder_61 rfl (by decide) ?_
        exact ⟨by
          rcases k8 hc with rfl | rfl | rfl | rfl | rfl | rfl | rfl | rfl <;> rcases k8 ht with rfl | rfl | rfl | rfl | rfl | rfl | rfl | rfl <;> first | rfl | (exfalso; first | exact c_1 (by decide) | exact absurd c_1 (by decide) | exact c_6 (by decide) | exact absurd c_6 (by decide) | exact c_11 (by decide) | exact absurd c_11 (by decide) | exact c_21 (by decide) | exact absurd c_21 (by decide) | exact c_26 (by decide) | exact absurd c_26 (by decide) | exact c_31 (by decide) | exact absurd c_31 (by decide) | exact c_36 (by decide) | exact absurd c_36 (by decide) | exact c_47 (by decide) | exact absurd c_47 (by decide)), rfl⟩
      refine j_ild0 dX8_isUnder_50 ?_
      refine j_bipush (7) dX8_isUnder_51 rfl ?_
      refine j_icmpne 60 dX8_isUnder_53 (by decide) (fun c_53 => ?_) (fun c_53 => ?_)
      · refine j_iconst (0) dX8_isUnder_60 rfl ?_
        refine j_zret dX8_isUnder_61 rfl (by decide) ?_
        exact ⟨by
          rcases k8 hc with rfl | rfl | rfl | rfl | rfl | rfl | rfl | rfl <;> rcases k8 ht with rfl | rfl | rfl | rfl | rfl | rfl | rfl | rfl <;> first | rfl | (exfalso; first | exact c_1 (by decide) | exact absurd c_1 (by decide) | exact c_6 (by decide) | exact absurd c_6 (by decide) | exact c_11 (by decide) | exact absurd c_11 (by decide) | exact c_21 (by decide) | exact absurd c_21 (by decide) | exact c_26 (by decide) | exact absurd c_26 (by decide) | exact c_31 (by decide) | exact absurd c_31 (by decide) | exact c_36 (by decide) | exact absurd c_36 (by decide) | exact c_47 (by decide) | exact absurd c_47 (by decide) | exact c_53 (by decide) | exact absurd c_53 (by decide)), rfl⟩
      refine j_iconst (1) dX8_isUnder_56 rfl ?_
      refine j_goto 61 dX8_isUnder_57 (by decide) ?_
      refine j_zret dX8_isUnder_61 rfl (by decide) ?_
      exact ⟨by
        rcases k8 hc with rfl | rfl | rfl | rfl | rfl | rfl | rfl | rfl <;> rcases k8 ht with rfl | rfl | rfl | rfl | rfl | rfl | rfl | rfl <;> first | rfl | (exfalso; first | exact c_1 (by decide) | exact absurd c_1 (by decide) | exact c_6 (by decide) | exact absurd c_6 (by decide) | exact c_11 (by decide) | exact absurd c_11 (by decide) | exact c_21 (by decide) | exact absurd c_21 (by decide) | exact c_26 (by decide) | exact absurd c_26 (by decide) | exact c_31 (by decide) | exact absurd c_31 (by decide) | exact c_36 (by decide) | exact absurd c_36 (by decide) | exact c_47 (by decide) | exact absurd c_47 (by decide) | exact c_53 (by decide) | exact absurd c_53 (by decide)), rfl⟩
    refine j_ild0 dX8_isUnder_39 ?_
    refine j_iconst (5) dX8_isUnder_40 rfl ?_
    refine j_icmpeq 56 dX8_isUnder_41 (by decide) (fun c_41 => ?_) (fun c_41 => ?_)
    · refine j_iconst (1) dX8_isUnder_56 rfl ?_
      refine j_goto 61 dX8_isUnder_57 (by decide) ?_
      refine j_zret dX8_isUnder_61 rfl (by decide) ?_
      exact ⟨by
        rcases k8 hc with rfl | rfl | rfl | rfl | rfl | rfl | rfl | rfl <;> rcases k8 ht with rfl | rfl | rfl | rfl | rfl | rfl | rfl | rfl <;> first | rfl | (exfalso; first | exact c_1 (by decide) | exact absurd c_1 (by decide) | exact c_6 (by decide) | exact absurd c_6 (by decide) | exact c_11 (by decide) | exact absurd c_11 (by decide) | exact c_21 (by decide) | exact absurd c_21 (by decide) | exact c_26 (by decide) | exact absurd c_26 (by decide) | exact c_31 (by decide) | exact absurd c_31 (by decide) | exact c_36 (by decide) | exact absurd c_36 (by decide) | exact c_41 (by decide) | exact absurd c_41 (by decide)), rfl⟩
    refine j_ild1 dX8_isUnder_44 ?_
    refine j_bipush (6) dX8_isUnder_45 rfl ?_
    refine j_icmpne 60 dX8_isUnder_47 (by decide) (fun c_47 => ?_) (fun c_47 => ?_)
    · refine j_iconst (0) dX8_isUnder_60 rfl ?_
      refine j_zret dX8_isUnder_61 rfl (by decide) ?_
      exact ⟨by
        rcases k8 hc with rfl | rfl | rfl | rfl | rfl | rfl | rfl | rfl <;> rcases k8 ht with rfl | rfl | rfl | rfl | rfl | rfl | rfl | rfl <;> first | rfl | (exfalso; first | exact c_1 (by decide) | exact absurd c_1 (by decide) | exact c_6 (by decide) | exact absurd c_6 (by decide) | exact c_11 (by decide) | exact absurd c_11 (by decide) | exact c_21 (by decide) | exact absurd c_21 (by decide) | exact c_26 (by decide) | exact absurd c_26 (by decide) | exact c_31 (by decide) | exact absurd c_31 (by decide) | exact c_36 (by decide) | exact absurd c_36 (by decide) | exact c_41 (by decide) | exact absurd c_41 (by decide) | exact c_47 (by decide) | exact absurd c_47 (by decide)), rfl⟩
    refine j_ild0 dX8_isUnder_50 ?_
    refine j_bipush (7) dX8_isUnder_51 rfl ?_
    refine j_icmpne 60 dX8_isUnder_53 (by decide) (fun c_53 => ?_) (fun c_53 => ?_)
    · refine j_iconst (0) dX8_isUnder_60 rfl ?_
      refine j_zret dX8_isUnder_61 rfl (by decide) ?_
      exact ⟨by
        rcases k8 hc with rfl | rfl | rfl | rfl | rfl | rfl | rfl | rfl <;> rcases k8 ht with rfl | rfl | rfl | rfl | rfl | rfl | rfl | rfl <;> first | rfl | (exfalso; first | exact c_1 (by decide) | exact absurd c_1 (by decide) | exact c_6 (by decide) | exact absurd c_6 (by decide) | exact c_11 (by decide) | exact absurd c_11 (by decide) | exact c_21 (by decide) | exact absurd c_21 (by decide) | exact c_26 (by decide) | exact absurd c_26 (by decide) | exact c_31 (by decide) | exact absurd c_31 (by decide) | exact c_36 (by decide) | exact absurd c_36 (by decide) | exact c_41 (by decide) | exact absurd c_41 (by decide) | exact c_47 (by decide) | exact absurd c_47 (by decide) | exact c_53 (by decide) | exact absurd c_53 (by decide)), rfl⟩
    refine j_iconst (1) dX8_isUnder_56 rfl ?_
    refine j_goto 61 dX8_isUnder_57 (by decide) ?_
    refine j_zret dX8_isUnder_61 rfl (by decide) ?_
    exact ⟨by
      rcases k8 hc with rfl | rfl | rfl | rfl | rfl | rfl | rfl | rfl <;> rcases k8 ht with rfl | rfl | rfl | rfl | rfl | rfl | rfl | rfl <;> first | rfl | (exfalso; first | exact c_1 (by decide) | exact absurd c_1 (by decide) | exact c_6 (by decide) | exact absurd c_6 (by decide) | exact c_11 (by decide) | exact absurd c_11 (by decide) | exact c_21 (by decide) | exact absurd c_21 (by decide) | exact c_26 (by decide) | exact absurd c_26 (by decide) | exact c_31 (by decide) | exact absurd c_31 (by decide) | exact c_36 (by decide) | exact absurd c_36 (by decide) | exact c_41 (by decide) | exact absurd c_41 (by decide) | exact c_47 (by decide) | exact absurd c_47 (by decide) | exact c_53 (by decide) | exact absurd c_53 (by decide)), rfl⟩
  refine j_ild0 dX8_isUnder_14 ?_
  refine j_iconst (4) dX8_isUnder_15 rfl ?_
  refine j_icmpeq 56 dX8_isUnder_16 (by decide) (fun c_16 => ?_) (fun c_16 => ?_)
  · refine j_iconst (1) dX8_isUnder_56 rfl ?_
    refine j_goto 61 dX8_isUnder_57 (by decide) ?_
    refine j_zret dX8_isUnder_61 rfl (by decide) ?_
    exact ⟨by
      rcases k8 hc with rfl | rfl | rfl | rfl | rfl | rfl | rfl | rfl <;> rcases k8 ht with rfl | rfl | rfl | rfl | rfl | rfl | rfl | rfl <;> first | rfl | (exfalso; first | exact c_1 (by decide) | exact absurd c_1 (by decide) | exact c_6 (by decide) | exact absurd c_6 (by decide) | exact c_11 (by decide) | exact absurd c_11 (by decide) | exact c_16 (by decide) | exact absurd c_16 (by decide)), rfl⟩
  refine j_ild1 dX8_isUnder_19 ?_
  refine j_iconst (2) dX8_isUnder_20 rfl ?_
  refine j_icmpne 34 dX8_isUnder_21 (by decide) (fun c_21 => ?_) (fun c_21 => ?_)
  · refine j_ild1 dX8_isUnder_34 ?_
    refine j_iconst (3) dX8_isUnder_35 rfl ?_
    refine j_icmpne 44 dX8_isUnder_36 (by decide) (fun c_36 => ?_) (fun c_36 => ?_)
    · refine j_ild1 dX8_isUnder_44 ?_
      refine j_bipush (6) dX8_isUnder_45 rfl ?_
      refine j_icmpne 60 dX8_isUnder_47 (by decide) (fun c_47 => ?_) (fun c_47 => ?_)
      · refine j_iconst (0) dX8_isUnder_60 rfl ?_
        refine j_zret dX8_isUnder_61 rfl (by decide) ?_
        exact ⟨by
          rcases k8 hc with rfl | rfl | rfl | rfl | rfl | rfl | rfl | rfl <;> rcases k8 ht with rfl | rfl | rfl | rfl | rfl | rfl | rfl | rfl <;> first | rfl | (exfalso; first | exact c_1 (by decide) | exact absurd c_1 (by decide) | exact c_6 (by decide) | exact absurd c_6 (by decide) | exact c_11 (by decide) | exact absurd c_11 (by decide) | exact c_16 (by decide) | exact absurd c_16 (by decide) | exact c_21 (by decide) | exact absurd c_21 (by decide) | exact c_36 (by decide) | exact absurd c_36 (by decide) | exact c_47 (by decide) | exact absurd c_47 (by decide)), rfl⟩
      refine j_ild0 dX8_isUnder_50 ?_
      refine j_bipush (7) dX8_isUnder_51 rfl ?_
      refine j_icmpne 60 dX8_isUnder_53 (by decide) (fun c_53 => ?_) (fun c_53 => ?_)
      · refine j_iconst (0) dX8_isUnder_60 rfl ?_
        refine j_zret dX8_isUnder_61 rfl (by decide) ?_
        exact ⟨by
          rcases k8 hc with rfl | rfl | rfl | rfl | rfl | rfl | rfl | rfl <;> rcases k8 ht with rfl | rfl | rfl | rfl | rfl | rfl | rfl | rfl <;> first | rfl | (exfalso; first | exact c_1 (by decide) | exact absurd c_1 (by decide) | exact c_6 (by decide) | exact absurd c_6 (by decide) | exact c_11 (by decide) | exact absurd c_11 (by decide) | exact c_16 (by decide) | exact absurd c_16 (by decide) | exact c_21 (by decide) | exact absurd c_21 (by decide) | exact c_36 (by decide) | exact absurd c_36 (by decide) | exact c_47 (by decide) | exact absurd c_47 (by decide) | exact c_53 (by decide) | exact absurd c_53 (by decide)), rfl⟩
      refine j_iconst (1) dX8_isUnder_56 rfl ?_
      refine j_goto 61 dX8_isUnder_57 (by decide) ?_
      refine j_zret dX8_isUnder_61 rfl (by decide) ?_
      exact ⟨by
        rcases k8 hc with rfl | rfl | rfl | rfl | rfl | rfl | rfl | rfl <;> rcases k8 ht with rfl | rfl | rfl | rfl | rfl | rfl | rfl | rfl <;> first | rfl | (exfalso; first | exact c_1 (by decide) | exact absurd c_1 (by decide) | exact c_6 (by decide) | exact absurd c_6 (by decide) | exact c_11 (by decide) | exact absurd c_11 (by decide) | exact c_16 (by decide) | exact absurd c_16 (by decide) | exact c_21 (by decide) | exact absurd c_21 (by decide) | exact c_36 (by decide) | exact absurd c_36 (by decide) | exact c_47 (by decide) | exact absurd c_47 (by decide) | exact c_53 (by decide) | exact absurd c_53 (by decide)), rfl⟩
    refine j_ild0 dX8_isUnder_39 ?_
    refine j_iconst (5) dX8_isUnder_40 rfl ?_
    refine j_icmpeq 56 dX8_isUnder_41 (by decide) (fun c_41 => ?_) (fun c_41 => ?_)
    · refine j_iconst (1) dX8_isUnder_56 rfl ?_
      refine j_goto 61 dX8_isUnder_57 (by decide) ?_
      refine j_zret dX8_isUnder_61 rfl (by decide) ?_
      exact ⟨by
        rcases k8 hc with rfl | rfl | rfl | rfl | rfl | rfl | rfl | rfl <;> rcases k8 ht with rfl | rfl | rfl | rfl | rfl | rfl | rfl | rfl <;> first | rfl | (exfalso; first | exact c_1 (by decide) | exact absurd c_1 (by decide) | exact c_6 (by decide) | exact absurd c_6 (by decide) | exact c_11 (by decide) | exact absurd c_11 (by decide) | exact c_16 (by decide) | exact absurd c_16 (by decide) | exact c_21 (by decide) | exact absurd c_21 (by decide) | exact c_36 (by decide) | exact absurd c_36 (by decide) | exact c_41 (by decide) | exact absurd c_41 (by decide)), rfl⟩
    refine j_ild1 dX8_isUnder_44 ?_
    refine j_bipush (6) dX8_isUnder_45 rfl ?_
    refine j_icmpne 60 dX8_isUnder_47 (by decide) (fun c_47 => ?_) (fun c_47 => ?_)
    · refine j_iconst (0) dX8_isUnder_60 rfl ?_
      refine j_zret dX8_isUnder_61 rfl (by decide) ?_
      exact ⟨by
        rcases k8 hc with rfl | rfl | rfl | rfl | rfl | rfl | rfl | rfl <;> rcases k8 ht with rfl | rfl | rfl | rfl | rfl | rfl | rfl | rfl <;> first | rfl | (exfalso; first | exact c_1 (by decide) | exact absurd c_1 (by decide) | exact c_6 (by decide) | exact absurd c_6 (by decide) | exact c_11 (by decide) | exact absurd c_11 (by decide) | exact c_16 (by decide) | exact absurd c_16 (by decide) | exact c_21 (by decide) | exact absurd c_21 (by decide) | exact c_36 (by decide) | exact absurd c_36 (by decide) | exact c_41 (by decide) | exact absurd c_41 (by decide) | exact c_47 (by decide) | exact absurd c_47 (by decide)), rfl⟩
    refine j_ild0 dX8_isUnder_50 ?_
    refine j_bipush (7) dX8_isUnder_51 rfl ?_
    refine j_icmpne 60 dX8_isUnder_53 (by decide) (fun c_53 => ?_) (fun c_53 => ?_)
    · refine j_iconst (0) dX8_isUnder_60 rfl ?_
      refine j_zret dX8_isUnder_61 rfl (by decide) ?_
      exact ⟨by
        rcases k8 hc with rfl | rfl | rfl | rfl | rfl | rfl | rfl | rfl <;> rcases k8 ht with rfl | rfl | rfl | rfl | rfl | rfl | rfl | rfl <;> first | rfl | (exfalso; first | exact c_1 (by decide) | exact absurd c_1 (by decide) | exact c_6 (by decide) | exact absurd c_6 (by decide) | exact c_11 (by decide) | exact absurd c_11 (by decide) | exact c_16 (by decide) | exact absurd c_16 (by decide) | exact c_21 (by decide) | exact absurd c_21 (by decide) | exact c_36 (by decide) | exact absurd c_36 (by decide) | exact c_41 (by decide) | exact absurd c_41 (by decide) | exact c_47 (by decide) | exact absurd c_47 (by decide) | exact c_53 (by decide) | exact absurd c_53 (by decide)), rfl⟩
    refine j_iconst (1) dX8_isUnder_56 rfl ?_
    refine j_goto 61 dX8_isUnder_57 (by decide) ?_
    refine j_zret dX8_isUnder_61 rfl (by decide) ?_
    exact ⟨by
      rcases k8 hc with rfl | rfl | rfl | rfl | rfl | rfl | rfl | rfl <;> rcases k8 ht with rfl | rfl | rfl | rfl | rfl | rfl | rfl | rfl <;> first | rfl | (exfalso; first | exact c_1 (by decide) | exact absurd c_1 (by decide) | exact c_6 (by decide) | exact absurd c_6 (by decide) | exact c_11 (by decide) | exact absurd c_11 (by decide) | exact c_16 (by decide) | exact absurd c_16 (by decide) | exact c_21 (by decide) | exact absurd c_21 (by decide) | exact c_36 (by decide) | exact absurd c_36 (by decide) | exact c_41 (by decide) | exact absurd c_41 (by decide) | exact c_47 (by decide) | exact absurd c_47 (by decide) | exact c_53 (by decide) | exact absurd c_53 (by decide)), rfl⟩
  refine j_ild0 dX8_isUnder_24 ?_
  refine j_iconst (3) dX8_isUnder_25 rfl ?_
  refine j_icmpeq 56 dX8_isUnder_26 (by decide) (fun c_26 => ?_) (fun c_26 => ?_)
  · refine j_iconst (1) dX8_isUnder_56 rfl ?_
    refine j_goto 61 dX8_isUnder_57 (by decide) ?_
    refine j_zret dX8_isUnder_61 rfl (by decide) ?_
    exact ⟨by
      rcases k8 hc with rfl | rfl | rfl | rfl | rfl | rfl | rfl | rfl <;> rcases k8 ht with rfl | rfl | rfl | rfl | rfl | rfl | rfl | rfl <;> first | rfl | (exfalso; first | exact c_1 (by decide) | exact absurd c_1 (by decide) | exact c_6 (by decide) | exact absurd c_6 (by decide) | exact c_11 (by decide) | exact absurd c_11 (by decide) | exact c_16 (by decide) | exact absurd c_16 (by decide) | exact c_21 (by decide) | exact absurd c_21 (by decide) | exact c_26 (by decide) | exact absurd c_26 (by decide)), rfl⟩
  refine j_ild0 dX8_isUnder_29 ?_
  refine j_iconst (5) dX8_isUnder_30 rfl ?_
  refine j_icmpeq 56 dX8_isUnder_31 (by decide) (fun c_31 => ?_) (fun c_31 => ?_)
  · refine j_iconst (1) dX8_isUnder_56 rfl ?_
    refine j_goto 61 dX8_isUnder_57 (by decide) ?_
    refine j_zret dX8_isUnder_61 rfl (by decide) ?_
    exact ⟨by
      rcases k8 hc with rfl | rfl | rfl | rfl | rfl | rfl | rfl | rfl <;> rcases k8 ht with rfl | rfl | rfl | rfl | rfl | rfl | rfl | rfl <;> first | rfl | (exfalso; first | exact c_1 (by decide) | exact absurd c_1 (by decide) | exact c_6 (by decide) | exact absurd c_6 (by decide) | exact c_11 (by decide) | exact absurd c_11 (by decide) | exact c_16 (by decide) | exact absurd c_16 (by decide) | exact c_21 (by decide) | exact absurd c_21 (by decide) | exact c_26 (by decide) | exact absurd c_26 (by decide) | exact c_31 (by decide) | exact absurd c_31 (by decide)), rfl⟩
  refine j_ild1 dX8_isUnder_34 ?_
  refine j_iconst (3) dX8_isUnder_35 rfl ?_
  refine j_icmpne 44 dX8_isUnder_36 (by decide) (fun c_36 => ?_) (fun c_36 => ?_)
  · refine j_ild1 dX8_isUnder_44 ?_
    refine j_bipush (6) dX8_isUnder_45 rfl ?_
    refine j_icmpne 60 dX8_isUnder_47 (by decide) (fun c_47 => ?_) (fun c_47 => ?_)
    · refine j_iconst (0) dX8_isUnder_60 rfl ?_
      refine j_zret dX8_isUnder_61 rfl (by decide) ?_
      exact ⟨by
        rcases k8 hc with rfl | rfl | rfl | rfl | rfl | rfl | rfl | rfl <;> rcases k8 ht with rfl | rfl | rfl | rfl | rfl | rfl | rfl | rfl <;> first | rfl | (exfalso; first | exact c_1 (by decide) | exact absurd c_1 (by decide) | exact c_6 (by decide) | exact absurd c_6 (by decide) | exact c_11 (by decide) | exact absurd c_11 (by decide) | exact c_16 (by decide) | exact absurd c_16 (by decide) | exact c_21 (by decide) | exact absurd c_21 (by decide) | exact c_26 (by decide) | exact absurd c_26 (by decide) | exact c_31 (by decide) | exact absurd c_31 (by decide) | exact c_36 (by decide) | exact absurd c_36 (by decide) | exact c_47 (by decide) | exact absurd c_47 (by decide)), rfl⟩
    refine j_ild0 dX8_isUnder_50 ?_
    refine j_bipush (7) dX8_isUnder_51 rfl ?_
    refine j_icmpne 60 dX8_isUnder_53 (by decide) (fun c_53 => ?_) (fun c_53 => ?_)
    · refine j_iconst (0) dX8_isUnder_60 rfl ?_
      refine j_zret dX8_isUnder_61 rfl (by decide) ?_
      exact ⟨by
        rcases k8 hc with rfl | rfl | rfl | rfl | rfl | rfl | rfl | rfl <;> rcases k8 ht with rfl | rfl | rfl | rfl | rfl | rfl | rfl | rfl <;> first | rfl | (exfalso; first | exact c_1 (by decide) | exact absurd c_1 (by decide) | exact c_6 (by decide) | exact absurd c_6 (by decide) | exact c_11 (by decide) | exact absurd c_11 (by decide) | exact c_16 (by decide) | exact absurd c_16 (by decide) | exact c_21 (by decide) | exact absurd c_21 (by decide) | exact c_26 (by decide) | exact absurd c_26 (by decide) | exact c_31 (by decide) | exact absurd c_31 (by decide) | exact c_36 (by decide) | exact absurd c_36 (by decide) | exact c_47 (by decide) | exact absurd c_47 (by decide) | exact c_53 (by decide) | exact absurd c_53 (by decide)), rfl⟩
    refine j_iconst (1) dX8_isUnder_56 rfl ?_
    refine j_goto 61 dX8_isUnder_57 (by decide) ?_
    refine j_zret dX8_isUnder_61 rfl (by decide) ?_
    exact ⟨by
      rcases k8 hc with rfl | rfl | rfl | rfl | rfl | rfl | rfl | rfl <;> rcases k8 ht with rfl | rfl | rfl | rfl | rfl | rfl | rfl | rfl <;> first | rfl | (exfalso; first | exact c_1 (by decide) | exact absurd c_1 (by decide) | exact c_6 (by decide) | exact absurd c_6 (by decide) | exact c_11 (by decide) | exact absurd c_11 (by decide) | exact c_16 (by decide) | exact absurd c_16 (by decide) | exact c_21 (by decide) | exact absurd c_21 (by decide) | exact c_26 (by decide) | exact absurd c_26 (by decide) | exact c_31 (by decide) | exact absurd c_31 (by decide) | exact c_36 (by decide) | exact absurd c_36 (by decide) | exact c_47 (by decide) | exact absurd c_47 (by decide) | exact c_53 (by decide) | exact absurd c_53 (by decide)), rfl⟩
  refine j_ild0 dX8_isUnder_39 ?_
  refine j_iconst (5) dX8_isUnder_40 rfl ?_
  refine j_icmpeq 56 dX8_isUnder_41 (by decide) (fun c_41 => ?_) (fun c_41 => ?_)
  · refine j_iconst (1) dX8_isUnder_56 rfl ?_
    refine j_goto 61 dX8_isUnder_57 (by decide) ?_
    refine j_zret dX8_isUnder_61 rfl (by decide) ?_
    exact ⟨by
      rcases k8 hc with rfl | rfl | rfl | rfl | rfl | rfl | rfl | rfl <;> rcases k8 ht with rfl | rfl | rfl | rfl | rfl | rfl | rfl | rfl <;> first | rfl | (exfalso; first | exact c_1 (by decide) | exact absurd c_1 (by decide) | exact c_6 (by decide) | exact absurd c_6 (by decide) | exact c_11 (by decide) | exact absurd c_11 (by decide) | exact c_16 (by decide) | exact absurd c_16 (by decide) | exact c_21 (by decide) | exact absurd c_21 (by decide) | exact c_26 (by decide) | exact absurd c_26 (by decide) | exact c_31 (by decide) | exact absurd c_31 (by decide) | exact c_36 (by decide) | exact absurd c_36 (by decide) | exact c_41 (by decide) | exact absurd c_41 (by decide)), rfl⟩
  refine j_ild1 dX8_isUnder_44 ?_
  refine j_bipush (6) dX8_isUnder_45 rfl ?_
  refine j_icmpne 60 dX8_isUnder_47 (by decide) (fun c_47 => ?_) (fun c_47 => ?_)
  · refine j_iconst (0) dX8_isUnder_60 rfl ?_
    refine j_zret dX8_isUnder_61 rfl (by decide) ?_
    exact ⟨by
      rcases k8 hc with rfl | rfl | rfl | rfl | rfl | rfl | rfl | rfl <;> rcases k8 ht with rfl | rfl | rfl | rfl | rfl | rfl | rfl | rfl <;> first | rfl | (exfalso; first | exact c_1 (by decide) | exact absurd c_1 (by decide) | exact c_6 (by decide) | exact absurd c_6 (by decide) | exact c_11 (by decide) | exact absurd c_11 (by decide) | exact c_16 (by decide) | exact absurd c_16 (by decide) | exact c_21 (by decide) | exact absurd c_21 (by decide) | exact c_26 (by decide) | exact absurd c_26 (by decide) | exact c_31 (by decide) | exact absurd c_31 (by decide) | exact c_36 (by decide) | exact absurd c_36 (by decide) | exact c_41 (by decide) | exact absurd c_41 (by decide) | exact c_47 (by decide) | exact absurd c_47 (by decide)), rfl⟩
  refine j_ild0 dX8_isUnder_50 ?_
  refine j_bipush (7) dX8_isUnder_51 rfl ?_
  refine j_icmpne 60 dX8_isUnder_53 (by decide) (fun c_53 => ?_) (fun c_53 => ?_)
  · refine j_iconst (0) dX8_isUnder_60 rfl ?_
    refine j_zret dX8_isUnder_61 rfl (by decide) ?_
    exact ⟨by
      rcases k8 hc with rfl | rfl | rfl | rfl | rfl | rfl | rfl | rfl <;> rcases k8 ht with rfl | rfl | rfl | rfl | rfl | rfl | rfl | rfl <;> first | rfl | (exfalso; first | exact c_1 (by decide) | exact absurd c_1 (by decide) | exact c_6 (by decide) | exact absurd c_6 (by decide) | exact c_11 (by decide) | exact absurd c_11 (by decide) | exact c_16 (by decide) | exact absurd c_16 (by decide) | exact c_21 (by decide) | exact absurd c_21 (by decide) | exact c_26 (by decide) | exact absurd c_26 (by decide) | exact c_31 (by decide) | exact absurd c_31 (by decide) | exact c_36 (by decide) | exact absurd c_36 (by decide) | exact c_41 (by decide) | exact absurd c_41 (by decide) | exact c_47 (by decide) | exact absurd c_47 (by decide) | exact c_53 (by decide) | exact absurd c_53 (by decide)), rfl⟩
  refine j_iconst (1) dX8_isUnder_56 rfl ?_
  refine j_goto 61 dX8_isUnder_57 (by decide) ?_
  refine j_zret dX8_isUnder_61 rfl (by decide) ?_
  exact ⟨by
    rcases k8 hc with rfl | rfl | rfl | rfl | rfl | rfl | rfl | rfl <;> rcases k8 ht with rfl | rfl | rfl | rfl | rfl | rfl | rfl | rfl <;> first | rfl | (exfalso; first | exact c_1 (by decide) | exact absurd c_1 (by decide) | exact c_6 (by decide) | exact absurd c_6 (by decide) | exact c_11 (by decide) | exact absurd c_11 (by decide) | exact c_16 (by decide) | exact absurd c_16 (by decide) | exact c_21 (by decide) | exact absurd c_21 (by decide) | exact c_26 (by decide) | exact absurd c_26 (by decide) | exact c_31 (by decide) | exact absurd c_31 (by decide) | exact c_36 (by decide) | exact absurd c_36 (by decide) | exact c_41 (by decide) | exact absurd c_41 (by decide) | exact c_47 (by decide) | exact absurd c_47 (by decide) | exact c_53 (by decide) | exact absurd c_53 (by decide)), rfl⟩

set_option maxRecDepth 20000 in
theorem s_X8_plainShows {i : Nat} {x : Int32} (h : AR b kd T S) (hT : T.length < 1900) : Rqi a mX8_plainShows 1 [.ref (a 61), .int (nI i), .int x] S (fun r S' => r = (a_pS i x).1 ∧ AR b kd (T ++ (a_pS i x).2) S' ∧ Kp [16] S S') := by
  show J _ _ _ _ 0 [_, _, _] [] _
  refine j_ald0 dX8_plainShows_0 ?_
  refine j_iconst (1) dX8_plainShows_1 rfl ?_
  refine j_qvV1 dX8_plainShows_2 kX8_ran l8_366 rfl (by decide) rfl (Nat.le_of_ble_eq_true rfl) (Nat.le_of_ble_eq_true rfl) (by omega) (s_X8_ran (x := 1) h (by omega)) (fun S0 h0 => ?_)
  obtain ⟨hA0, hk0⟩ := h0
  have hl0 : (T ++ [1]).length = T.length + 1 := by simp
  refine j_ild2 dX8_plainShows_5 ?_
  refine j_ild1 dX8_plainShows_6 ?_
  refine j_iadd dX8_plainShows_7 ?_
  refine j_iret dX8_plainShows_8 rfl ?_
  exact ⟨_, rfl, rfl, hA0, hk0⟩

set_option maxRecDepth 20000 in
theorem s_X8_toldShows {i : Nat} {x : Int32} (h : AR b kd T S) (hT : T.length < 1800) : Rqi a mX8_toldShows 2 [.ref (a 61), .int (nI i), .int x] S (fun r S' => r = (a_tS i x).1 ∧ AR b kd (T ++ (a_tS i x).2) S' ∧ Kp [16] S S') := by
  show J _ _ _ _ 0 [_, _, _] [] _
  refine j_ald0 dX8_toldShows_0 ?_
  refine j_bipush (70) dX8_toldShows_1 rfl ?_
  refine j_qvV1 dX8_toldShows_3 kX8_ran l8_366 rfl (by decide) rfl (Nat.le_of_ble_eq_true rfl) (Nat.le_of_ble_eq_true rfl) (by omega) (s_X8_ran (x := 70) h (by omega)) (fun S0 h0 => ?_)
  obtain ⟨hA0, hk0⟩ := h0
  have hl0 : (T ++ [70]).length = T.length + 1 := by simp
  refine j_ald0 dX8_toldShows_6 ?_
  refine j_ild1 dX8_toldShows_7 ?_
  refine j_ild2 dX8_toldShows_8 ?_
  refine j_qiV2 dX8_toldShows_9 kX8_plainShows l8_370 rfl (by decide) rfl (Nat.le_of_ble_eq_true rfl) (Nat.le_of_ble_eq_true rfl) (by omega) (s_X8_plainShows hA0 (by omega)) (fun r1 S1 h1 => ?_)
  obtain ⟨rfl, hA1, hk1⟩ := h1
  refine j_iconst (2) dX8_toldShows_12 rfl ?_
  refine j_imul dX8_toldShows_13 ?_
  refine j_iret dX8_toldShows_14 rfl ?_
  exact ⟨_, rfl, rfl, by simpa [a_tS] using hA1, hk0.tr hk1⟩

set_option maxRecDepth 20000 in
theorem s_X8_showing {i : Nat} {x : Int32} (hi : i < b) (h : AR b kd T S) (hT : T.length < 1700) : Rqi a mX8_showing 3 [.ref (a 61), .int (nI i), .int x] S (fun r S' => r = (a_S (kd i) i x).1 ∧ AR b kd (T ++ (a_S (kd i) i x).2) S' ∧ Kp [16] S S') := by
  have hb50 := h.2.1
  obtain ⟨hki, hk8⟩ := h.2.2.1 i hi
  show J _ _ _ _ 0 [_, _, _] [] _
  refine j_ald0 dX8_showing_0 ?_
  refine j_getR (k := 51) (94) dX8_showing_1 cX8_ok (Or.inl f8_123) rfl (by decide) (by decide) (by decide) rfl ?_
  refine j_ild1 dX8_showing_4 ?_
  refine j_iald (n := i) dX8_showing_5 rfl (by decide) rfl (by omega) (by decide) ?_
  refine j_top (y := nI (kd i)) hki ?_
  refine j_iconst (1) dX8_showing_6 rfl ?_
  refine j_cS2 dX8_showing_7 kX8_isUnder zX8_isUnder (Or.inl l8_373) (Nat.le_of_ble_eq_true rfl) (Nat.le_of_ble_eq_true rfl) (by omega) (s_X8_isUnder hk8 (t := 1) (by decide)) ?_
  refine j_ifeqB 28 dX8_showing_10 (by decide) (fun c_10 => ?_) (fun c_10 => ?_)
  · refine j_ald0 dX8_showing_28 ?_
    refine j_getR (k := 51) (94) dX8_showing_29 cX8_ok (Or.inl f8_123) rfl (by decide) (by decide) (by decide) rfl ?_
    refine j_ild1 dX8_showing_32 ?_
    refine j_iald (n := i) dX8_showing_33 rfl (by decide) rfl (by omega) (by decide) ?_
    refine j_top (y := nI (kd i)) hki ?_
    refine j_bipush (7) dX8_showing_34 rfl ?_
    refine j_icmpne 54 dX8_showing_36 (by decide) (fun c_36 => ?_) (fun c_36 => ?_)
    · have q_36 : ¬ kd i = 7 := fun z => c_36 (by rw [z]; rfl)
      refine j_ald0 dX8_showing_54 ?_
      refine j_getR (k := 51) (94) dX8_showing_55 cX8_ok (Or.inl f8_123) rfl (by decide) (by decide) (by decide) rfl ?_
      refine j_ild1 dX8_showing_58 ?_
      refine j_iald (n := i) dX8_showing_59 rfl (by decide) rfl (by omega) (by decide) ?_
      refine j_top (y := nI (kd i)) hki ?_
      refine j_bipush (6) dX8_showing_60 rfl ?_
      refine j_icmpne 74 dX8_showing_62 (by decide) (fun c_62 => ?_) (fun c_62 => ?_)
      · have q_62 : ¬ kd i = 6 := fun z => c_62 (by rw [z]; rfl)
        refine j_ald0 dX8_showing_74 ?_
        refine j_ild1 dX8_showing_75 ?_
        refine j_ild2 dX8_showing_76 ?_
        refine j_qiV2 dX8_showing_77 kX8_plainShows l8_370 rfl (by decide) rfl (Nat.le_of_ble_eq_true rfl) (Nat.le_of_ble_eq_true rfl) (by omega) (s_X8_plainShows h (by omega)) (fun r1 S1 h1 => ?_)
        obtain ⟨rfl, hA1, hk1⟩ := h1
        refine j_iret dX8_showing_80 rfl ?_
        exact ⟨_, rfl, by rw [a_S, if_neg c_10, if_neg q_36, if_neg q_62], by rw [a_S, if_neg c_10, if_neg q_36, if_neg q_62]; exact hA1, hk1⟩
      have q_62 : kd i = 6 := (nI_eq (a := kd i) (b := 6) (by omega) (by decide)).mp (Classical.not_not.mp c_62)
      refine j_ald0 dX8_showing_65 ?_
      refine j_ild1 dX8_showing_66 ?_
      refine j_ild2 dX8_showing_67 ?_
      refine j_qiV2 dX8_showing_68 kX8_toldShows l8_376 rfl (by decide) rfl (Nat.le_of_ble_eq_true rfl) (Nat.le_of_ble_eq_true rfl) (by omega) (s_X8_toldShows h (by omega)) (fun r1 S1 h1 => ?_)
      obtain ⟨rfl, hA1, hk1⟩ := h1
      refine j_goto 80 dX8_showing_71 (by decide) ?_
      refine j_iret dX8_showing_80 rfl ?_
      exact ⟨_, rfl, by rw [a_S, if_neg c_10, if_neg q_36, if_pos q_62], by rw [a_S, if_neg c_10, if_neg q_36, if_pos q_62]; exact hA1, hk1⟩
    have q_36 : kd i = 7 := (nI_eq (a := kd i) (b := 7) (by omega) (by decide)).mp (Classical.not_not.mp c_36)
    refine j_ald0 dX8_showing_39 ?_
    refine j_bipush (81) dX8_showing_40 rfl ?_
    refine j_qvV1 dX8_showing_42 kX8_ran l8_366 rfl (by decide) rfl (Nat.le_of_ble_eq_true rfl) (Nat.le_of_ble_eq_true rfl) (by omega) (s_X8_ran (x := 81) h (by omega)) (fun S0 h0 => ?_)
    obtain ⟨hA0, hk0⟩ := h0
    have hl0 : (T ++ [81]).length = T.length + 1 := by simp
    refine j_ald0 dX8_showing_45 ?_
    refine j_ild1 dX8_showing_46 ?_
    refine j_ild2 dX8_showing_47 ?_
    refine j_qiV2 dX8_showing_48 kX8_toldShows l8_376 rfl (by decide) rfl (Nat.le_of_ble_eq_true rfl) (Nat.le_of_ble_eq_true rfl) (by omega) (s_X8_toldShows hA0 (by omega)) (fun r1 S1 h1 => ?_)
    obtain ⟨rfl, hA1, hk1⟩ := h1
    refine j_iconst (1) dX8_showing_51 rfl ?_
    refine j_isub dX8_showing_52 ?_
    refine j_iret dX8_showing_53 rfl ?_
    exact ⟨_, rfl, by rw [a_S, if_neg c_10, if_pos q_36], by rw [a_S, if_neg c_10, if_pos q_36]; simpa using hA1, hk0.tr hk1⟩
  refine j_ald0 dX8_showing_13 ?_
  refine j_bipush (20) dX8_showing_14 rfl ?_
  refine j_qvV1 dX8_showing_16 kX8_ran l8_366 rfl (by decide) rfl (Nat.le_of_ble_eq_true rfl) (Nat.le_of_ble_eq_true rfl) (by omega) (s_X8_ran (x := 20) h (by omega)) (fun S0 h0 => ?_)
  obtain ⟨hA0, hk0⟩ := h0
  have hl0 : (T ++ [20]).length = T.length + 1 := by simp
  refine j_ald0 dX8_showing_19 ?_
  refine j_ild1 dX8_showing_20 ?_
  refine j_ild2 dX8_showing_21 ?_
  refine j_qiV2 dX8_showing_22 kX8_plainShows l8_370 rfl (by decide) rfl (Nat.le_of_ble_eq_true rfl) (Nat.le_of_ble_eq_true rfl) (by omega) (s_X8_plainShows hA0 (by omega)) (fun r1 S1 h1 => ?_)
  obtain ⟨rfl, hA1, hk1⟩ := h1
  refine j_iconst (3) dX8_showing_25 rfl ?_
  refine j_iadd dX8_showing_26 ?_
  refine j_iret dX8_showing_27 rfl ?_
  exact ⟨_, rfl, by rw [a_S, if_pos c_10], by rw [a_S, if_pos c_10]; simpa using hA1, hk0.tr hk1⟩

set_option maxRecDepth 20000 in
theorem s_X8_plainDraws {i : Nat} {x : Int32} (hi : i < b) (h : AR b kd T S) (hT : T.length < 1600) : Rqi a mX8_plainDraws 4 [.ref (a 61), .int (nI i), .int x] S (fun r S' => r = (a_pD (kd i) i x).1 ∧ AR b kd (T ++ (a_pD (kd i) i x).2) S' ∧ Kp [16] S S') := by
  show J _ _ _ _ 0 [_, _, _] [] _
  refine j_ald0 dX8_plainDraws_0 ?_
  refine j_bipush (10) dX8_plainDraws_1 rfl ?_
  refine j_qvV1 dX8_plainDraws_3 kX8_ran l8_366 rfl (by decide) rfl (Nat.le_of_ble_eq_true rfl) (Nat.le_of_ble_eq_true rfl) (by omega) (s_X8_ran (x := 10) h (by omega)) (fun S0 h0 => ?_)
  obtain ⟨hA0, hk0⟩ := h0
  have hl0 : (T ++ [10]).length = T.length + 1 := by simp
  refine j_ald0 dX8_plainDraws_6 ?_
  refine j_ild1 dX8_plainDraws_7 ?_
  refine j_ild2 dX8_plainDraws_8 ?_
  refine j_qiV2 dX8_plainDraws_9 kX8_showing l8_379 rfl (by decide) rfl (Nat.le_of_ble_eq_true rfl) (Nat.le_of_ble_eq_true rfl) (by omega) (s_X8_showing hi hA0 (by omega)) (fun r1 S1 h1 => ?_)
  obtain ⟨rfl, hA1, hk1⟩ := h1
  refine j_iconst (2) dX8_plainDraws_12 rfl ?_
  refine j_imul dX8_plainDraws_13 ?_
  refine j_iret dX8_plainDraws_14 rfl ?_
  exact ⟨_, rfl, rfl, by simpa [a_pD] using hA1, hk0.tr hk1⟩

set_option maxRecDepth 20000 in
theorem s_X8_urnDraws {i : Nat} {x : Int32} (hi : i < b) (h : AR b kd T S) (hT : T.length < 1500) : Rqi a mX8_urnDraws 5 [.ref (a 61), .int (nI i), .int x] S (fun r S' => r = (a_uD (kd i) i x).1 ∧ AR b kd (T ++ (a_uD (kd i) i x).2) S' ∧ Kp [16] S S') := by
  show J _ _ _ _ 0 [_, _, _] [] _
  refine j_ald0 dX8_urnDraws_0 ?_
  refine j_bipush (30) dX8_urnDraws_1 rfl ?_
  refine j_qvV1 dX8_urnDraws_3 kX8_ran l8_366 rfl (by decide) rfl (Nat.le_of_ble_eq_true rfl) (Nat.le_of_ble_eq_true rfl) (by omega) (s_X8_ran (x := 30) h (by omega)) (fun S0 h0 => ?_)
  obtain ⟨hA0, hk0⟩ := h0
  have hl0 : (T ++ [30]).length = T.length + 1 := by simp
  refine j_ald0 dX8_urnDraws_6 ?_
  refine j_ild1 dX8_urnDraws_7 ?_
  refine j_ild2 dX8_urnDraws_8 ?_
  refine j_qiV2 dX8_urnDraws_9 kX8_plainDraws l8_382 rfl (by decide) rfl (Nat.le_of_ble_eq_true rfl) (Nat.le_of_ble_eq_true rfl) (by omega) (s_X8_plainDraws hi hA0 (by omega)) (fun r1 S1 h1 => ?_)
  obtain ⟨rfl, hA1, hk1⟩ := h1
  refine j_ineg dX8_urnDraws_12 ?_
  refine j_iret dX8_urnDraws_13 rfl ?_
  exact ⟨_, rfl, rfl, by simpa [a_uD] using hA1, hk0.tr hk1⟩

set_option maxRecDepth 20000 in
theorem s_X8_plainLeaves {i : Nat} {x : Int32} (h : AR b kd T S) (hT : T.length < 1900) : Rqi a mX8_plainLeaves 1 [.ref (a 61), .int (nI i), .int x] S (fun r S' => r = (a_pL i x).1 ∧ AR b kd (T ++ (a_pL i x).2) S' ∧ Kp [16] S S') := by
  show J _ _ _ _ 0 [_, _, _] [] _
  refine j_ald0 dX8_plainLeaves_0 ?_
  refine j_bipush (11) dX8_plainLeaves_1 rfl ?_
  refine j_qvV1 dX8_plainLeaves_3 kX8_ran l8_366 rfl (by decide) rfl (Nat.le_of_ble_eq_true rfl) (Nat.le_of_ble_eq_true rfl) (by omega) (s_X8_ran (x := 11) h (by omega)) (fun S0 h0 => ?_)
  obtain ⟨hA0, hk0⟩ := h0
  have hl0 : (T ++ [11]).length = T.length + 1 := by simp
  refine j_ild2 dX8_plainLeaves_6 ?_
  refine j_ild1 dX8_plainLeaves_7 ?_
  refine j_ixor dX8_plainLeaves_8 ?_
  refine j_iret dX8_plainLeaves_9 rfl ?_
  exact ⟨_, rfl, rfl, hA0, hk0⟩

set_option maxRecDepth 20000 in
theorem s_X8_testLeaves {i : Nat} {x : Int32} (h : AR b kd T S) (hT : T.length < 1800) : Rqi a mX8_testLeaves 2 [.ref (a 61), .int (nI i), .int x] S (fun r S' => r = (a_tL i x).1 ∧ AR b kd (T ++ (a_tL i x).2) S' ∧ Kp [16] S S') := by
  show J _ _ _ _ 0 [_, _, _] [] _
  refine j_ald0 dX8_testLeaves_0 ?_
  refine j_bipush (40) dX8_testLeaves_1 rfl ?_
  refine j_qvV1 dX8_testLeaves_3 kX8_ran l8_366 rfl (by decide) rfl (Nat.le_of_ble_eq_true rfl) (Nat.le_of_ble_eq_true rfl) (by omega) (s_X8_ran (x := 40) h (by omega)) (fun S0 h0 => ?_)
  obtain ⟨hA0, hk0⟩ := h0
  have hl0 : (T ++ [40]).length = T.length + 1 := by simp
  refine j_ald0 dX8_testLeaves_6 ?_
  refine j_ild1 dX8_testLeaves_7 ?_
  refine j_ild2 dX8_testLeaves_8 ?_
  refine j_qiV2 dX8_testLeaves_9 kX8_plainLeaves l8_391 rfl (by decide) rfl (Nat.le_of_ble_eq_true rfl) (Nat.le_of_ble_eq_true rfl) (by omega) (s_X8_plainLeaves hA0 (by omega)) (fun r1 S1 h1 => ?_)
  obtain ⟨rfl, hA1, hk1⟩ := h1
  refine j_iconst (3) dX8_testLeaves_12 rfl ?_
  refine j_imul dX8_testLeaves_13 ?_
  refine j_iret dX8_testLeaves_14 rfl ?_
  exact ⟨_, rfl, rfl, by simpa [a_tL] using hA1, hk0.tr hk1⟩

set_option maxRecDepth 20000 in
theorem s_X8_leaving {i : Nat} {x : Int32} (hi : i < b) (h : AR b kd T S) (hT : T.length < 1450) : Rqi a mX8_leaving 4 [.ref (a 61), .int (nI i), .int x] S (fun r S' => r = (a_L (kd i) i x).1 ∧ AR b kd (T ++ (a_L (kd i) i x).2) S' ∧ Kp [16] S S') := by
  have hb50 := h.2.1
  obtain ⟨hki, hk8⟩ := h.2.2.1 i hi
  show J _ _ _ _ 0 [_, _, _, .null] [] _
  refine j_ald0 dX8_leaving_0 ?_
  refine j_getR (k := 51) (94) dX8_leaving_1 cX8_ok (Or.inl f8_123) rfl (by decide) (by decide) (by decide) rfl ?_
  refine j_ild1 dX8_leaving_4 ?_
  refine j_iald (n := i) dX8_leaving_5 rfl (by decide) rfl (by omega) (by decide) ?_
  refine j_top (y := nI (kd i)) hki ?_
  refine j_iconst (5) dX8_leaving_6 rfl ?_
  refine j_icmpne 32 dX8_leaving_7 (by decide) (fun c_7 => ?_) (fun c_7 => ?_)
  · have q_7 : ¬ kd i = 5 := fun z => c_7 (by rw [z]; rfl)
    refine j_ald0 dX8_leaving_32 ?_
    refine j_getR (k := 51) (94) dX8_leaving_33 cX8_ok (Or.inl f8_123) rfl (by decide) (by decide) (by decide) rfl ?_
    refine j_ild1 dX8_leaving_36 ?_
    refine j_iald (n := i) dX8_leaving_37 rfl (by decide) rfl (by omega) (by decide) ?_
    refine j_top (y := nI (kd i)) hki ?_
    refine j_iconst (3) dX8_leaving_38 rfl ?_
    refine j_icmpne 51 dX8_leaving_39 (by decide) (fun c_39 => ?_) (fun c_39 => ?_)
    · have q_39 : ¬ kd i = 3 := fun z => c_39 (by rw [z]; rfl)
      refine j_ald0 dX8_leaving_51 ?_
      refine j_ild1 dX8_leaving_52 ?_
      refine j_ild2 dX8_leaving_53 ?_
      refine j_qiV2 dX8_leaving_54 kX8_plainLeaves l8_391 rfl (by decide) rfl (Nat.le_of_ble_eq_true rfl) (Nat.le_of_ble_eq_true rfl) (by omega) (s_X8_plainLeaves h (by omega)) (fun r1 S1 h1 => ?_)
      obtain ⟨rfl, hA1, hk1⟩ := h1
      refine j_iret dX8_leaving_57 rfl ?_
      exact ⟨_, rfl, by simp [a_L, q_7, q_39], by simpa [a_L, q_7, q_39] using hA1, hk1⟩
    have q_39 : kd i = 3 := (nI_eq (a := kd i) (b := 3) (by omega) (by decide)).mp (Classical.not_not.mp c_39)
    refine j_ald0 dX8_leaving_42 ?_
    refine j_ild1 dX8_leaving_43 ?_
    refine j_ild2 dX8_leaving_44 ?_
    refine j_qiV2 dX8_leaving_45 kX8_testLeaves l8_394 rfl (by decide) rfl (Nat.le_of_ble_eq_true rfl) (Nat.le_of_ble_eq_true rfl) (by omega) (s_X8_testLeaves h (by omega)) (fun r1 S1 h1 => ?_)
    obtain ⟨rfl, hA1, hk1⟩ := h1
    refine j_goto 57 dX8_leaving_48 (by decide) ?_
    refine j_iret dX8_leaving_57 rfl ?_
    exact ⟨_, rfl, by simp [a_L, q_7, q_39], by simpa [a_L, q_7, q_39] using hA1, hk1⟩
  have q_7 : kd i = 5 := (nI_eq (a := kd i) (b := 5) (by omega) (by decide)).mp (Classical.not_not.mp c_7)
  refine j_ald0 dX8_leaving_10 ?_
  refine j_bipush (60) dX8_leaving_11 rfl ?_
  refine j_qvV1 dX8_leaving_13 kX8_ran l8_366 rfl (by decide) rfl (Nat.le_of_ble_eq_true rfl) (Nat.le_of_ble_eq_true rfl) (by omega) (s_X8_ran (x := 60) h (by omega)) (fun S0 h0 => ?_)
  obtain ⟨hA0, hk0⟩ := h0
  have hl0 : (T ++ [60]).length = T.length + 1 := by simp
  refine j_ald0 dX8_leaving_16 ?_
  refine j_ild1 dX8_leaving_17 ?_
  refine j_ild2 dX8_leaving_18 ?_
  refine j_qiV2 dX8_leaving_19 kX8_testLeaves l8_394 rfl (by decide) rfl (Nat.le_of_ble_eq_true rfl) (Nat.le_of_ble_eq_true rfl) (by omega) (s_X8_testLeaves hA0 (by omega)) (fun r1 S1 h1 => ?_)
  obtain ⟨rfl, hA1, hk1⟩ := h1
  refine j_ist3 dX8_leaving_22 rfl (by decide) ?_
  refine j_ild3 dX8_leaving_23 ?_
  refine j_ald0 dX8_leaving_24 ?_
  refine j_ild1 dX8_leaving_25 ?_
  refine j_iconst (2) dX8_leaving_26 rfl ?_
  refine j_qiV2 dX8_leaving_27 kX8_showing l8_379 rfl (by decide) rfl (Nat.le_of_ble_eq_true rfl) (Nat.le_of_ble_eq_true rfl) (by omega) (s_X8_showing hi hA1 (by simp [a_tL, a_pL]; omega)) (fun r2 S2 h2 => ?_)
  obtain ⟨rfl, hA2, hk2⟩ := h2
  refine j_isub dX8_leaving_30 ?_
  refine j_iret dX8_leaving_31 rfl ?_
  exact ⟨_, rfl, by rw [a_L, if_pos q_7], by rw [a_L, if_pos q_7]; simpa using hA2, (hk0.tr hk1).tr hk2⟩

set_option maxRecDepth 20000 in
theorem s_X8_drawing {i : Nat} {x : Int32} (hi : i < b) (h : AR b kd T S) (hT : T.length < 1400) : Rqi a mX8_drawing 6 [.ref (a 61), .int (nI i), .int x] S (fun r S' => r = (a_D (kd i) i x).1 ∧ AR b kd (T ++ (a_D (kd i) i x).2) S' ∧ Kp [16] S S') := by
  have hb50 := h.2.1
  obtain ⟨hki, hk8⟩ := h.2.2.1 i hi
  show J _ _ _ _ 0 [_, _, _, .null] [] _
  refine j_ald0 dX8_drawing_0 ?_
  refine j_getR (k := 51) (94) dX8_drawing_1 cX8_ok (Or.inl f8_123) rfl (by decide) (by decide) (by decide) rfl ?_
  refine j_ild1 dX8_drawing_4 ?_
  refine j_iald (n := i) dX8_drawing_5 rfl (by decide) rfl (by omega) (by decide) ?_
  refine j_top (y := nI (kd i)) hki ?_
  refine j_iconst (3) dX8_drawing_6 rfl ?_
  refine j_cS2 dX8_drawing_7 kX8_isUnder zX8_isUnder (Or.inl l8_373) (Nat.le_of_ble_eq_true rfl) (Nat.le_of_ble_eq_true rfl) (by omega) (s_X8_isUnder hk8 (t := 3) (by decide)) ?_
  refine j_ifeqB 28 dX8_drawing_10 (by decide) (fun c_10 => ?_) (fun c_10 => ?_)
  · refine j_ald0 dX8_drawing_28 ?_
    refine j_getR (k := 51) (94) dX8_drawing_29 cX8_ok (Or.inl f8_123) rfl (by decide) (by decide) (by decide) rfl ?_
    refine j_ild1 dX8_drawing_32 ?_
    refine j_iald (n := i) dX8_drawing_33 rfl (by decide) rfl (by omega) (by decide) ?_
    refine j_top (y := nI (kd i)) hki ?_
    refine j_bipush (7) dX8_drawing_34 rfl ?_
    refine j_icmpne 61 dX8_drawing_36 (by decide) (fun c_36 => ?_) (fun c_36 => ?_)
    · have q_36 : ¬ kd i = 7 := fun z => c_36 (by rw [z]; rfl)
      refine j_ald0 dX8_drawing_61 ?_
      refine j_getR (k := 51) (94) dX8_drawing_62 cX8_ok (Or.inl f8_123) rfl (by decide) (by decide) (by decide) rfl ?_
      refine j_ild1 dX8_drawing_65 ?_
      refine j_iald (n := i) dX8_drawing_66 rfl (by decide) rfl (by omega) (by decide) ?_
      refine j_top (y := nI (kd i)) hki ?_
      refine j_iconst (2) dX8_drawing_67 rfl ?_
      refine j_icmpne 80 dX8_drawing_68 (by decide) (fun c_68 => ?_) (fun c_68 => ?_)
      · have q_68 : ¬ kd i = 2 := fun z => c_68 (by rw [z]; rfl)
        refine j_ald0 dX8_drawing_80 ?_
        refine j_ild1 dX8_drawing_81 ?_
        refine j_ild2 dX8_drawing_82 ?_
        refine j_qiV2 dX8_drawing_83 kX8_plainDraws l8_382 rfl (by decide) rfl (Nat.le_of_ble_eq_true rfl) (Nat.le_of_ble_eq_true rfl) (by omega) (s_X8_plainDraws hi h (by omega)) (fun r1 S1 h1 => ?_)
        obtain ⟨rfl, hA1, hk1⟩ := h1
        refine j_iret dX8_drawing_86 rfl ?_
        exact ⟨_, rfl, by rw [a_D, if_neg c_10, if_neg q_36, if_neg q_68], by rw [a_D, if_neg c_10, if_neg q_36, if_neg q_68]; exact hA1, hk1⟩
      have q_68 : kd i = 2 := (nI_eq (a := kd i) (b := 2) (by omega) (by decide)).mp (Classical.not_not.mp c_68)
      refine j_ald0 dX8_drawing_71 ?_
      refine j_ild1 dX8_drawing_72 ?_
      refine j_ild2 dX8_drawing_73 ?_
      refine j_qiV2 dX8_drawing_74 kX8_urnDraws l8_385 rfl (by decide) rfl (Nat.le_of_ble_eq_true rfl) (Nat.le_of_ble_eq_true rfl) (by omega) (s_X8_urnDraws hi h (by omega)) (fun r1 S1 h1 => ?_)
      obtain ⟨rfl, hA1, hk1⟩ := h1
      refine j_goto 86 dX8_drawing_77 (by decide) ?_
      refine j_iret dX8_drawing_86 rfl ?_
      exact ⟨_, rfl, by rw [a_D, if_neg c_10, if_neg q_36, if_pos q_68], by rw [a_D, if_neg c_10, if_neg q_36, if_pos q_68]; exact hA1, hk1⟩
    have q_36 : kd i = 7 := (nI_eq (a := kd i) (b := 7) (by omega) (by decide)).mp (Classical.not_not.mp c_36)
    refine j_ald0 dX8_drawing_39 ?_
    refine j_bipush (80) dX8_drawing_40 rfl ?_
    refine j_qvV1 dX8_drawing_42 kX8_ran l8_366 rfl (by decide) rfl (Nat.le_of_ble_eq_true rfl) (Nat.le_of_ble_eq_true rfl) (by omega) (s_X8_ran (x := 80) h (by omega)) (fun S0 h0 => ?_)
    obtain ⟨hA0, hk0⟩ := h0
    have hl0 : (T ++ [80]).length = T.length + 1 := by simp
    refine j_ald0 dX8_drawing_45 ?_
    refine j_ild1 dX8_drawing_46 ?_
    refine j_ild2 dX8_drawing_47 ?_
    refine j_qiV2 dX8_drawing_48 kX8_plainDraws l8_382 rfl (by decide) rfl (Nat.le_of_ble_eq_true rfl) (Nat.le_of_ble_eq_true rfl) (by omega) (s_X8_plainDraws hi hA0 (by omega)) (fun r1 S1 h1 => ?_)
    obtain ⟨rfl, hA1, hk1⟩ := h1
    refine j_ist3 dX8_drawing_51 rfl (by decide) ?_
    refine j_ild3 dX8_drawing_52 ?_
    refine j_ald0 dX8_drawing_53 ?_
    refine j_ild1 dX8_drawing_54 ?_
    refine j_iconst (2) dX8_drawing_55 rfl ?_
    refine j_qiV2 dX8_drawing_56 kX8_leaving l8_388 rfl (by decide) rfl (Nat.le_of_ble_eq_true rfl) (Nat.le_of_ble_eq_true rfl) (by omega) (s_X8_leaving hi hA1 (by have := a_pDl (K := kd i) (N := i) (x := x); rw [List.length_append]; omega)) (fun r2 S2 h2 => ?_)
    obtain ⟨rfl, hA2, hk2⟩ := h2
    refine j_iadd dX8_drawing_59 ?_
    refine j_iret dX8_drawing_60 rfl ?_
    exact ⟨_, rfl, by rw [a_D, if_neg c_10, if_pos q_36], by rw [a_D, if_neg c_10, if_pos q_36]; simpa using hA2, (hk0.tr hk1).tr hk2⟩
  refine j_ald0 dX8_drawing_13 ?_
  refine j_bipush (41) dX8_drawing_14 rfl ?_
  refine j_qvV1 dX8_drawing_16 kX8_ran l8_366 rfl (by decide) rfl (Nat.le_of_ble_eq_true rfl) (Nat.le_of_ble_eq_true rfl) (by omega) (s_X8_ran (x := 41) h (by omega)) (fun S0 h0 => ?_)
  obtain ⟨hA0, hk0⟩ := h0
  have hl0 : (T ++ [41]).length = T.length + 1 := by simp
  refine j_ald0 dX8_drawing_19 ?_
  refine j_ild1 dX8_drawing_20 ?_
  refine j_ild2 dX8_drawing_21 ?_
  refine j_iconst (1) dX8_drawing_22 rfl ?_
  refine j_iadd dX8_drawing_23 ?_
  refine j_qiV2 dX8_drawing_24 kX8_urnDraws l8_385 rfl (by decide) rfl (Nat.le_of_ble_eq_true rfl) (Nat.le_of_ble_eq_true rfl) (by omega) (s_X8_urnDraws hi hA0 (by omega)) (fun r1 S1 h1 => ?_)
  obtain ⟨rfl, hA1, hk1⟩ := h1
  refine j_iret dX8_drawing_27 rfl ?_
  exact ⟨_, rfl, by simp [a_D, c_10], by simpa [a_D, c_10] using hA1, hk0.tr hk1⟩

set_option maxRecDepth 20000 in
theorem s_X8_plainTells {i : Nat} {x : Int32} (hi : i < b) (h : AR b kd T S) (hT : T.length < 1300) : Rqi a mX8_plainTells 7 [.ref (a 61), .int (nI i), .int x] S (fun r S' => r = (a_pT (kd i) i x).1 ∧ AR b kd (T ++ (a_pT (kd i) i x).2) S' ∧ Kp [16] S S') := by
  show J _ _ _ _ 0 [_, _, _, .null] [] _
  refine j_ald0 dX8_plainTells_0 ?_
  refine j_iconst (2) dX8_plainTells_1 rfl ?_
  refine j_qvV1 dX8_plainTells_2 kX8_ran l8_366 rfl (by decide) rfl (Nat.le_of_ble_eq_true rfl) (Nat.le_of_ble_eq_true rfl) (by omega) (s_X8_ran (x := 2) h (by omega)) (fun S0 h0 => ?_)
  obtain ⟨hA0, hk0⟩ := h0
  have hl0 : (T ++ [2]).length = T.length + 1 := by simp
  refine j_ald0 dX8_plainTells_5 ?_
  refine j_ild1 dX8_plainTells_6 ?_
  refine j_ild2 dX8_plainTells_7 ?_
  refine j_qiV2 dX8_plainTells_8 kX8_drawing l8_397 rfl (by decide) rfl (Nat.le_of_ble_eq_true rfl) (Nat.le_of_ble_eq_true rfl) (by omega) (s_X8_drawing hi hA0 (by omega)) (fun r1 S1 h1 => ?_)
  obtain ⟨rfl, hA1, hk1⟩ := h1
  refine j_ist3 dX8_plainTells_11 rfl (by decide) ?_
  refine j_ild3 dX8_plainTells_12 ?_
  refine j_ald0 dX8_plainTells_13 ?_
  refine j_ild1 dX8_plainTells_14 ?_
  refine j_iconst (1) dX8_plainTells_15 rfl ?_
  refine j_qiV2 dX8_plainTells_16 kX8_leaving l8_388 rfl (by decide) rfl (Nat.le_of_ble_eq_true rfl) (Nat.le_of_ble_eq_true rfl) (by omega) (s_X8_leaving hi hA1 (by have := a_Dl (K := kd i) (N := i) (x := x); rw [List.length_append]; omega)) (fun r2 S2 h2 => ?_)
  obtain ⟨rfl, hA2, hk2⟩ := h2
  refine j_isub dX8_plainTells_19 ?_
  refine j_iret dX8_plainTells_20 rfl ?_
  exact ⟨_, rfl, rfl, by simpa [a_pT] using hA2, (hk0.tr hk1).tr hk2⟩

set_option maxRecDepth 20000 in
theorem s_X8_telling {i : Nat} {x : Int32} (hi : i < b) (h : AR b kd T S) (hT : T.length < 1200) : Rqi a mX8_telling 8 [.ref (a 61), .int (nI i), .int x] S (fun r S' => r = (a_T (kd i) i x).1 ∧ AR b kd (T ++ (a_T (kd i) i x).2) S' ∧ Kp [16] S S') := by
  have hb50 := h.2.1
  obtain ⟨hki, hk8⟩ := h.2.2.1 i hi
  show J _ _ _ _ 0 [_, _, _] [] _
  refine j_ald0 dX8_telling_0 ?_
  refine j_getR (k := 51) (94) dX8_telling_1 cX8_ok (Or.inl f8_123) rfl (by decide) (by decide) (by decide) rfl ?_
  refine j_ild1 dX8_telling_4 ?_
  refine j_iald (n := i) dX8_telling_5 rfl (by decide) rfl (by omega) (by decide) ?_
  refine j_top (y := nI (kd i)) hki ?_
  refine j_iconst (4) dX8_telling_6 rfl ?_
  refine j_icmpne 25 dX8_telling_7 (by decide) (fun c_7 => ?_) (fun c_7 => ?_)
  · have q_7 : ¬ kd i = 4 := fun z => c_7 (by rw [z]; rfl)
    refine j_ald0 dX8_telling_25 ?_
    refine j_getR (k := 51) (94) dX8_telling_26 cX8_ok (Or.inl f8_123) rfl (by decide) (by decide) (by decide) rfl ?_
    refine j_ild1 dX8_telling_29 ?_
    refine j_iald (n := i) dX8_telling_30 rfl (by decide) rfl (by omega) (by decide) ?_
    refine j_top (y := nI (kd i)) hki ?_
    refine j_iconst (5) dX8_telling_31 rfl ?_
    refine j_icmpne 50 dX8_telling_32 (by decide) (fun c_32 => ?_) (fun c_32 => ?_)
    · have q_32 : ¬ kd i = 5 := fun z => c_32 (by rw [z]; rfl)
      refine j_ald0 dX8_telling_50 ?_
      refine j_ild1 dX8_telling_51 ?_
      refine j_ild2 dX8_telling_52 ?_
      refine j_qiV2 dX8_telling_53 kX8_plainTells l8_400 rfl (by decide) rfl (Nat.le_of_ble_eq_true rfl) (Nat.le_of_ble_eq_true rfl) (by omega) (s_X8_plainTells hi h (by omega)) (fun r1 S1 h1 => ?_)
      obtain ⟨rfl, hA1, hk1⟩ := h1
      refine j_iret dX8_telling_56 rfl ?_
      exact ⟨_, rfl, by rw [a_T, if_neg q_7, if_neg q_32], by rw [a_T, if_neg q_7, if_neg q_32]; exact hA1, hk1⟩
    have q_32 : kd i = 5 := (nI_eq (a := kd i) (b := 5) (by omega) (by decide)).mp (Classical.not_not.mp c_32)
    refine j_ald0 dX8_telling_35 ?_
    refine j_bipush (61) dX8_telling_36 rfl ?_
    refine j_qvV1 dX8_telling_38 kX8_ran l8_366 rfl (by decide) rfl (Nat.le_of_ble_eq_true rfl) (Nat.le_of_ble_eq_true rfl) (by omega) (s_X8_ran (x := 61) h (by omega)) (fun S0 h0 => ?_)
    obtain ⟨hA0, hk0⟩ := h0
    have hl0 : (T ++ [61]).length = T.length + 1 := by simp
    refine j_ald0 dX8_telling_41 ?_
    refine j_ild1 dX8_telling_42 ?_
    refine j_ild2 dX8_telling_43 ?_
    refine j_qiV2 dX8_telling_44 kX8_plainTells l8_400 rfl (by decide) rfl (Nat.le_of_ble_eq_true rfl) (Nat.le_of_ble_eq_true rfl) (by omega) (s_X8_plainTells hi hA0 (by omega)) (fun r1 S1 h1 => ?_)
    obtain ⟨rfl, hA1, hk1⟩ := h1
    refine j_iconst (1) dX8_telling_47 rfl ?_
    refine j_iadd dX8_telling_48 ?_
    refine j_iret dX8_telling_49 rfl ?_
    exact ⟨_, rfl, by rw [a_T, if_neg q_7, if_pos q_32], by rw [a_T, if_neg q_7, if_pos q_32]; simpa using hA1, hk0.tr hk1⟩
  have q_7 : kd i = 4 := (nI_eq (a := kd i) (b := 4) (by omega) (by decide)).mp (Classical.not_not.mp c_7)
  refine j_ald0 dX8_telling_10 ?_
  refine j_bipush (50) dX8_telling_11 rfl ?_
  refine j_qvV1 dX8_telling_13 kX8_ran l8_366 rfl (by decide) rfl (Nat.le_of_ble_eq_true rfl) (Nat.le_of_ble_eq_true rfl) (by omega) (s_X8_ran (x := 50) h (by omega)) (fun S0 h0 => ?_)
  obtain ⟨hA0, hk0⟩ := h0
  have hl0 : (T ++ [50]).length = T.length + 1 := by simp
  refine j_ald0 dX8_telling_16 ?_
  refine j_ild1 dX8_telling_17 ?_
  refine j_ild2 dX8_telling_18 ?_
  refine j_qiV2 dX8_telling_19 kX8_plainTells l8_400 rfl (by decide) rfl (Nat.le_of_ble_eq_true rfl) (Nat.le_of_ble_eq_true rfl) (by omega) (s_X8_plainTells hi hA0 (by omega)) (fun r1 S1 h1 => ?_)
  obtain ⟨rfl, hA1, hk1⟩ := h1
  refine j_iconst (5) dX8_telling_22 rfl ?_
  refine j_ixor dX8_telling_23 ?_
  refine j_iret dX8_telling_24 rfl ?_
  exact ⟨_, rfl, by rw [a_T, if_pos q_7], by rw [a_T, if_pos q_7]; simpa using hA1, hk0.tr hk1⟩

set_option maxRecDepth 20000 in
theorem s_X8_isBody {x : Int32} {n : Nat} (hn : S.1 61 50 = nI n) (h8 : n ≤ 50) : Rt a mX8_isBody 1 [.ref (a 61), .int x] S (some (.int (bi (0 ≤ x ∧ x < nI n)))) S := by
  show J _ _ _ _ 0 [_, _] [] _
  refine j_ild1 dX8_isBody_0 ?_
  refine j_iconst (0) dX8_isBody_1 rfl ?_
  refine j_ald0 dX8_isBody_2 ?_
  refine j_getI (k := 50) dX8_isBody_3 cX8_ok (Or.inl f8_360) rfl (by decide) (by decide) (by decide) ?_
  refine j_top (y := nI n) (hn) ?_
  refine j_iconst (1) dX8_isBody_6 rfl ?_
  refine j_isub dX8_isBody_7 ?_
  refine j_cS3 dX8_isBody_8 kX8_in zX8_in (Or.inl l8_148) (Nat.le_of_ble_eq_true rfl) (Nat.le_of_ble_eq_true rfl) (by omega) (s_X8_in) ?_
  refine j_zret dX8_isBody_11 rfl (bi_01 _) ?_
  exact ⟨by
    rw [bi_iff (P := 0 ≤ x ∧ x ≤ nI n - 1) (Q := 0 ≤ x ∧ x < nI n)]
    rcases Nat.eq_zero_or_pos n with rfl | q
    · rw [show nI 0 - 1 = -1 from rfl, show nI 0 = 0 from rfl]
      constructor
      · intro z; exact absurd z.2 (by rw [Int32.not_le]; exact Int32.lt_of_lt_of_le (by decide) z.1)
      · intro z; exact absurd z.2 (Int32.not_lt.mpr z.1)
    · obtain ⟨c, rfl⟩ : ∃ c, n = c + 1 := ⟨n - 1, by omega⟩
      rw [nI_pred, le_lt (by omega)], rfl⟩

theorem AR.zero (h : AR b kd T S) : AR b kd [] (uI S 61 52 0) := ⟨by simp [uI_at, h.1], h.2.1, fun i hi => ⟨by simp [uI_at, (h.2.2.1 i hi).1], (h.2.2.1 i hi).2⟩, by simp [uI_at]; rfl, fun i hi => by simp at hi⟩
theorem AC.zero (h : AC b kd T S) : AC b kd [] (uI S 6 3 0) := ⟨by simp [uI_at, h.1], h.2.1, fun i hi => ⟨by simp [uI_at, (h.2.2.1 i hi).1], (h.2.2.1 i hi).2⟩, by simp [uI_at]; rfl, fun i hi => by simp at hi⟩
/-- an act: what it answers, what ran -/
def actV (b : Nat) (kd : Nat → Nat) (i y x : Int32) : Int32 × List Nat := if (0 ≤ i ∧ i < nI b) ∧ (0 ≤ y ∧ y < 4) then a_act (kd i.toNatClampNeg) i.toNatClampNeg y.toNatClampNeg x else (0, [])
set_option maxRecDepth 20000 in
theorem s_X8_act {i y x : Int32} (h : AR b kd T S) : Rqi a mX8_act 9 [.ref (a 61), .int i, .int y, .int x] S (fun r S' => r = (actV b kd i y x).1 ∧ AR b kd (actV b kd i y x).2 S' ∧ Kp [16] S S') := by
  show J _ _ _ _ 0 [_, _, _, _] [] _
  refine j_ald0 dX8_act_0 ?_
  refine j_iconst (0) dX8_act_1 rfl ?_
  refine j_putI (k := 52) dX8_act_2 cX8_ok (Or.inl f8_363) rfl (by decide) (by decide) (by decide) rfl ?_
  refine j_ald0 dX8_act_5 ?_
  refine j_ild1 dX8_act_6 ?_
  refine j_cV1 dX8_act_7 kX8_isBody l8_403 rfl (by decide) rfl (Nat.le_of_ble_eq_true rfl) (Nat.le_of_ble_eq_true rfl) (by omega) (s_X8_isBody (S := uI S 61 52 0) (n := b) h.zero.1 h.2.1) ?_
  refine j_ifeqB 22 dX8_act_10 (by decide) (fun c_10 => ?_) (fun c_10 => ?_)
  · refine j_iconst (0) dX8_act_22 rfl ?_
    refine j_iret dX8_act_23 rfl ?_
    exact ⟨_, rfl, by rw [actV, if_neg (fun q => c_10 q.1)], by rw [actV, if_neg (fun q => c_10 q.1)]; exact h.zero, Kp_uI Kp.rf (List.mem_singleton.mpr rfl)⟩
  have hb50 := h.2.1
  obtain ⟨j, hj, rfl⟩ := in_nI (by omega) c_10
  have hcl : (nI j).toNatClampNeg = j := nI_clamp (by omega)
  refine j_ild2 dX8_act_13 ?_
  refine j_iconst (0) dX8_act_14 rfl ?_
  refine j_iconst (3) dX8_act_15 rfl ?_
  refine j_cS3 dX8_act_16 kX8_in zX8_in (Or.inl l8_148) (Nat.le_of_ble_eq_true rfl) (Nat.le_of_ble_eq_true rfl) (by omega) (s_X8_in) ?_
  refine j_ifneB 24 dX8_act_19 (by decide) (fun c_19 => ?_) (fun c_19 => ?_)
  · have c_19' : 0 ≤ y ∧ y < 4 := ⟨c_19.1, (le_lt (c := 3) (by decide)).mp c_19.2⟩
    obtain ⟨c, hc, rfl⟩ := in_nI (n := 4) (by decide) c_19'
    have hcl2 : (nI c).toNatClampNeg = c := nI_clamp (by omega)
    refine j_ild2 dX8_act_24 ?_
    refine j_ifne 37 dX8_act_25 (by decide) (fun c_25 => ?_) (fun c_25 => ?_)
    · have q_25 : ¬ c = 0 := fun z => c_25 (by rw [z]; rfl)
      refine j_ild2 dX8_act_37 ?_
      refine j_iconst (1) dX8_act_38 rfl ?_
      refine j_icmpne 51 dX8_act_39 (by decide) (fun c_39 => ?_) (fun c_39 => ?_)
      · have q_39 : ¬ c = 1 := fun z => c_39 (by rw [z]; rfl)
        refine j_ild2 dX8_act_51 ?_
        refine j_iconst (2) dX8_act_52 rfl ?_
        refine j_icmpne 65 dX8_act_53 (by decide) (fun c_53 => ?_) (fun c_53 => ?_)
        · have q_53 : ¬ c = 2 := fun z => c_53 (by rw [z]; rfl)
          refine j_ald0 dX8_act_65 ?_
          refine j_ild1 dX8_act_66 ?_
          refine j_ild3 dX8_act_67 ?_
          refine j_qiV2 dX8_act_68 kX8_telling l8_406 rfl (by decide) rfl (Nat.le_of_ble_eq_true rfl) (Nat.le_of_ble_eq_true rfl) (by omega) (s_X8_telling hj h.zero (by simp)) (fun r1 S1 h1 => ?_)
          obtain ⟨rfl, hA1, hk1⟩ := h1
          refine j_iret dX8_act_71 rfl ?_
          have e : (0 ≤ nI j ∧ nI j < nI b) ∧ (0 ≤ nI c ∧ nI c < 4) := ⟨c_10, c_19'⟩
          exact ⟨_, rfl, by rw [actV, if_pos e, hcl, hcl2, a_act, if_neg q_25, if_neg q_39, if_neg q_53], by rw [actV, if_pos e, hcl, hcl2, a_act, if_neg q_25, if_neg q_39, if_neg q_53]; simpa using hA1, Kp.tr (rs := [16]) (Kp_uI Kp.rf (by exact List.mem_singleton.mpr rfl)) hk1⟩
        have q_53 : c = 2 := (nI_eq (a := c) (b := 2) (by omega) (by decide)).mp (Classical.not_not.mp c_53)
        subst q_53
        refine j_ald0 dX8_act_56 ?_
        refine j_ild1 dX8_act_57 ?_
        refine j_ild3 dX8_act_58 ?_
        refine j_qiV2 dX8_act_59 kX8_leaving l8_388 rfl (by decide) rfl (Nat.le_of_ble_eq_true rfl) (Nat.le_of_ble_eq_true rfl) (by omega) (s_X8_leaving hj h.zero (by simp)) (fun r1 S1 h1 => ?_)
        obtain ⟨rfl, hA1, hk1⟩ := h1
        refine j_goto 71 dX8_act_62 (by decide) ?_
        refine j_iret dX8_act_71 rfl ?_
        have e : (0 ≤ nI j ∧ nI j < nI b) ∧ (0 ≤ nI 2 ∧ nI 2 < 4) := ⟨c_10, c_19'⟩
        exact ⟨_, rfl, by rw [actV, if_pos e, hcl, hcl2, a_act, if_neg (by decide), if_neg (by decide), if_pos rfl], by rw [actV, if_pos e, hcl, hcl2, a_act, if_neg (by decide), if_neg (by decide), if_pos rfl]; simpa using hA1, Kp.tr (rs := [16]) (Kp_uI Kp.rf (by exact List.mem_singleton.mpr rfl)) hk1⟩
      have q_39 : c = 1 := (nI_eq (a := c) (b := 1) (by omega) (by decide)).mp (Classical.not_not.mp c_39)
      subst q_39
      refine j_ald0 dX8_act_42 ?_
      refine j_ild1 dX8_act_43 ?_
      refine j_ild3 dX8_act_44 ?_
      refine j_qiV2 dX8_act_45 kX8_drawing l8_397 rfl (by decide) rfl (Nat.le_of_ble_eq_true rfl) (Nat.le_of_ble_eq_true rfl) (by omega) (s_X8_drawing hj h.zero (by simp)) (fun r1 S1 h1 => ?_)
      obtain ⟨rfl, hA1, hk1⟩ := h1
      refine j_goto 71 dX8_act_48 (by decide) ?_
      refine j_iret dX8_act_71 rfl ?_
      have e : (0 ≤ nI j ∧ nI j < nI b) ∧ (0 ≤ nI 1 ∧ nI 1 < 4) := ⟨c_10, c_19'⟩
      exact ⟨_, rfl, by rw [actV, if_pos e, hcl, hcl2, a_act, if_neg (by decide), if_pos rfl], by rw [actV, if_pos e, hcl, hcl2, a_act, if_neg (by decide), if_pos rfl]; simpa using hA1, Kp.tr (rs := [16]) (Kp_uI Kp.rf (by exact List.mem_singleton.mpr rfl)) hk1⟩
    have q_25 : c = 0 := (nI_eq (a := c) (b := 0) (by omega) (by decide)).mp (Classical.not_not.mp c_25)
    subst q_25
    refine j_ald0 dX8_act_28 ?_
    refine j_ild1 dX8_act_29 ?_
    refine j_ild3 dX8_act_30 ?_
    refine j_qiV2 dX8_act_31 kX8_showing l8_379 rfl (by decide) rfl (Nat.le_of_ble_eq_true rfl) (Nat.le_of_ble_eq_true rfl) (by omega) (s_X8_showing hj h.zero (by simp)) (fun r1 S1 h1 => ?_)
    obtain ⟨rfl, hA1, hk1⟩ := h1
    refine j_goto 71 dX8_act_34 (by decide) ?_
    refine j_iret dX8_act_71 rfl ?_
    have e : (0 ≤ nI j ∧ nI j < nI b) ∧ (0 ≤ nI 0 ∧ nI 0 < 4) := ⟨c_10, c_19'⟩
    exact ⟨_, rfl, by rw [actV, if_pos e, hcl, hcl2, a_act, if_pos rfl], by rw [actV, if_pos e, hcl, hcl2, a_act, if_pos rfl]; simpa using hA1, Kp.tr (rs := [16]) (Kp_uI Kp.rf (by exact List.mem_singleton.mpr rfl)) hk1⟩
  refine j_iconst (0) dX8_act_22 rfl ?_
  refine j_iret dX8_act_23 rfl ?_
  have e : ¬ ((0 ≤ nI j ∧ nI j < nI b) ∧ (0 ≤ y ∧ y < 4)) := fun q => c_19 ⟨q.2.1, (le_lt (c := 3) (by decide)).mpr q.2.2⟩
  exact ⟨_, rfl, by rw [actV, if_neg e], by rw [actV, if_neg e]; exact h.zero, Kp_uI Kp.rf (List.mem_singleton.mpr rfl)⟩

set_option maxRecDepth 20000 in
theorem s_X0_perform {i y x : Int32} (h : AC b kd T S) : Rqi a mX0_perform 46 [.ref (a 6), .int i, .int y, .int x] S (fun r S' => r = (actV b kd i y x).1 ∧ AC b kd (actV b kd i y x).2 S' ∧ Kp [6] S S') := by
  have hz : ∀ (p q : Int32), AC b kd [] (uI (uI (uI S 6 3 0) 6 4 p) 6 5 q) := fun p q => ⟨by simp [uI_at, h.1], h.2.1, fun i hi => ⟨by simp [uI_at, (h.2.2.1 i hi).1], (h.2.2.1 i hi).2⟩, by simp [uI_at]; rfl, fun i hi => by simp at hi⟩
  show J _ _ _ _ 0 [_, _, _, _] [] _
  refine j_ald0 dX0_perform_0 ?_
  refine j_iconst (0) dX0_perform_1 rfl ?_
  refine j_putI (k := 3) dX0_perform_2 cX0_ok (Or.inl f0_29) rfl (by decide) (by decide) (by decide) rfl ?_
  refine j_ild1 dX0_perform_5 ?_
  refine j_ald0 dX0_perform_6 ?_
  refine j_getI (k := 1) dX0_perform_7 cX0_ok (Or.inl f0_18) rfl (by decide) (by decide) (by decide) ?_
  refine j_top (y := nI b) (h.zero.1) ?_
  refine j_cS2 dX0_perform_10 kX7_within zX7_within (Or.inr ⟨_, l0_22⟩) (Nat.le_of_ble_eq_true rfl) (Nat.le_of_ble_eq_true rfl) (by omega) (s_X7_within) ?_
  refine j_ifeqB 24 dX0_perform_13 (by decide) (fun c_13 => ?_) (fun c_13 => ?_)
  · refine j_iconst (0) dX0_perform_24 rfl ?_
    refine j_iret dX0_perform_25 rfl ?_
    exact ⟨_, rfl, by rw [actV, if_neg (fun q => c_13 q.1)], by rw [actV, if_neg (fun q => c_13 q.1)]; exact h.zero, Kp_uI Kp.rf (List.mem_singleton.mpr rfl)⟩
  have hb50 := h.2.1
  obtain ⟨j, hj, rfl⟩ := in_nI (by omega) c_13
  have hcl : (nI j).toNatClampNeg = j := nI_clamp (by omega)
  obtain ⟨hkj, hk8⟩ := h.zero.2.2.1 j hj
  refine j_ild2 dX0_perform_16 ?_
  refine j_iconst (4) dX0_perform_17 rfl ?_
  refine j_cS2 dX0_perform_18 kX7_within zX7_within (Or.inr ⟨_, l0_22⟩) (Nat.le_of_ble_eq_true rfl) (Nat.le_of_ble_eq_true rfl) (by omega) (s_X7_within) ?_
  refine j_ifneB 26 dX0_perform_21 (by decide) (fun c_21 => ?_) (fun c_21 => ?_)
  · obtain ⟨c, hc, rfl⟩ := in_nI (n := 4) (by decide) c_21
    have hcl2 : (nI c).toNatClampNeg = c := nI_clamp (by omega)
    refine j_ald0 dX0_perform_26 ?_
    refine j_ald0 dX0_perform_27 ?_
    refine j_getR (k := 0) (53) dX0_perform_28 cX0_ok (Or.inl f0_11) rfl (by decide) (by decide) (by decide) rfl ?_
    refine j_ild1 dX0_perform_31 ?_
    refine j_iald (n := j) dX0_perform_32 rfl (by decide) rfl (by omega) (by decide) ?_
    refine j_top (y := nI (kd j)) hkj ?_
    refine j_putI (k := 4) dX0_perform_33 cX0_ok (Or.inl f0_32) rfl (by decide) (by decide) (by decide) rfl ?_
    refine j_ald0 dX0_perform_36 ?_
    refine j_ild1 dX0_perform_37 ?_
    refine j_putI (k := 5) dX0_perform_38 cX0_ok (Or.inl f0_35) rfl (by decide) (by decide) (by decide) rfl ?_
    refine j_ald0 dX0_perform_41 ?_
    refine j_ald0 dX0_perform_42 ?_
    refine j_getI (k := 4) dX0_perform_43 cX0_ok (Or.inl f0_32) rfl (by decide) (by decide) (by decide) ?_
    refine j_top (y := nI (kd j)) (by simp [uI_at]) ?_
    refine j_ild2 dX0_perform_46 ?_
    refine j_ild3 dX0_perform_47 ?_
    refine j_iconst (0) dX0_perform_48 rfl ?_
    refine j_qiV4 dX0_perform_49 kX0_run l0_38 rfl (by decide) rfl (Nat.le_of_ble_eq_true rfl) (Nat.le_of_ble_eq_true rfl) (by omega) (s_X0_run (K := kd j) (N := j) hk8 21 _ [] (kd j) c 0 x hk8 hc (by omega) (hz (nI (kd j)) (nI j)) (by simp [uI_at]) (by simp [uI_at]) (by decide)) (fun r1 S1 h1 => ?_)
    obtain ⟨rfl, hA1, hk1, -, -⟩ := h1
    refine j_iret dX0_perform_52 rfl ?_
    have e : (0 ≤ nI j ∧ nI j < nI b) ∧ (0 ≤ nI c ∧ nI c < 4) := ⟨c_13, c_21⟩
    exact ⟨_, rfl, by rw [actV, if_pos e, hcl, hcl2, rv_act hk8 hc], by rw [actV, if_pos e, hcl, hcl2, ← rv_act hk8 hc]; simpa using hA1, Kp.tr (rs := [6]) (Kp_uI (Kp_uI (Kp_uI Kp.rf (by exact List.mem_singleton.mpr rfl)) (by exact List.mem_singleton.mpr rfl)) (by exact List.mem_singleton.mpr rfl)) hk1⟩
  refine j_iconst (0) dX0_perform_24 rfl ?_
  refine j_iret dX0_perform_25 rfl ?_
  have e : ¬ ((0 ≤ nI j ∧ nI j < nI b) ∧ (0 ≤ y ∧ y < 4)) := fun q => c_21 q.2
  exact ⟨_, rfl, by rw [actV, if_neg e], by rw [actV, if_neg e]; exact h.zero, Kp_uI Kp.rf (List.mem_singleton.mpr rfl)⟩

set_option maxRecDepth 20000 in
theorem s_X7_act {i y x : Int32} (h : AC b kd T S) : Rqi a mX7_act 47 [.ref (a 0), .int i, .int y, .int x] S (fun r S' => r = (actV b kd i y x).1 ∧ AC b kd (actV b kd i y x).2 S' ∧ Kp [6] S S') := by
  show J _ _ _ _ 0 [_, _, _, _] [] _
  refine j_ald0 dX7_act_0 ?_
  refine j_getR (k := 5) (6) dX7_act_1 cX7_ok (Or.inl f7_49) rfl (by decide) (by decide) (by decide) rfl ?_
  refine j_ild1 dX7_act_4 ?_
  refine j_ild2 dX7_act_5 ?_
  refine j_ild3 dX7_act_6 ?_
  refine j_qiV3 dX7_act_7 kX0_perform l7_264 rfl (by decide) rfl (Nat.le_of_ble_eq_true rfl) (Nat.le_of_ble_eq_true rfl) (by omega) (s_X0_perform h) (fun r1 S1 h1 => ?_)
  refine j_iret dX7_act_10 rfl ?_
  exact ⟨_, rfl, h1⟩

theorem min24 {n : Nat} (hn : n < 2 ^ 30) : (if (24 : Int32) < nI n then 24 else nI n) = nI (min n 24) := by
  by_cases q : 24 < n
  · rw [if_pos (show (24 : Int32) < nI n from (nI_ltI (a := 24) (b := n) (by decide) (by omega)).mpr q), Nat.min_eq_right (by omega)]; rfl
  · rw [if_neg (show ¬ (24 : Int32) < nI n from fun z => q ((nI_ltI (a := 24) (b := n) (by decide) (by omega)).mp z)), Nat.min_eq_left (by omega)]
def trV (T : List Nat) (i : Int32) : Int32 := if 0 ≤ i ∧ i < nI (min T.length 24) then nI (T.getD i.toNatClampNeg 0) else -1
set_option maxRecDepth 20000 in
theorem s_X7_trace {i : Int32} (h : AC b kd T S) (hT : T.length < 2 ^ 30) : Rt a mX7_trace 1 [.ref (a 0), .int i] S (some (.int (trV T i))) S := by
  show J _ _ _ _ 0 [_, _] [] _
  refine j_ild1 dX7_trace_0 ?_
  refine j_ald0 dX7_trace_1 ?_
  refine j_getR (k := 5) (6) dX7_trace_2 cX7_ok (Or.inl f7_49) rfl (by decide) (by decide) (by decide) rfl ?_
  refine j_getI (k := 3) dX7_trace_5 cX0_ok (Or.inr ⟨_, f7_267⟩) rfl (by decide) (by decide) (by decide) ?_
  refine j_top (y := nI T.length) (h.2.2.2.1) ?_
  refine j_bipush (24) dX7_trace_8 rfl ?_
  refine j_min dX7_trace_10 l7_270 t_min_s t_mini t_min_c (Nat.le_of_ble_eq_true rfl) (by omega) ?_
  refine j_top (y := nI (min T.length 24)) (min24 hT) ?_
  refine j_cS2 dX7_trace_13 kX7_within zX7_within (Or.inl l7_72) (Nat.le_of_ble_eq_true rfl) (Nat.le_of_ble_eq_true rfl) (by omega) (s_X7_within) ?_
  refine j_ifeqB 31 dX7_trace_16 (by decide) (fun c_16 => ?_) (fun c_16 => ?_)
  · refine j_iconst (-1) dX7_trace_31 rfl ?_
    refine j_iret dX7_trace_32 rfl ?_
    exact ⟨by rw [trV, if_neg c_16], rfl⟩
  obtain ⟨j, hj, rfl⟩ := in_nI (by omega) c_16
  have hcl : (nI j).toNatClampNeg = j := nI_clamp (by omega)
  refine j_ald0 dX7_trace_19 ?_
  refine j_getR (k := 5) (6) dX7_trace_20 cX7_ok (Or.inl f7_49) rfl (by decide) (by decide) (by decide) rfl ?_
  refine j_getR (k := 2) (54) dX7_trace_23 cX0_ok (Or.inr ⟨_, f7_275⟩) rfl (by decide) (by decide) (by decide) rfl ?_
  refine j_ild1 dX7_trace_26 ?_
  refine j_iald (n := j) dX7_trace_27 rfl (by decide) rfl (by omega) (by decide) ?_
  refine j_top (y := nI (T.getD j 0)) (h.2.2.2.2 j (by omega) (by omega)) ?_
  refine j_goto 32 dX7_trace_28 (by decide) ?_
  refine j_iret dX7_trace_32 rfl ?_
  exact ⟨by rw [trV, if_pos c_16, hcl], rfl⟩

set_option maxRecDepth 20000 in
theorem s_X8_trace {i : Int32} (h : AR b kd T S) (hT : T.length < 2 ^ 30) : Rt a mX8_trace 0 [.ref (a 61), .int i] S (some (.int (trV T i))) S := by
  show J _ _ _ _ 0 [_, _] [] _
  refine j_ild1 dX8_trace_0 ?_
  refine j_iflt 27 dX8_trace_1 (by decide) (fun c_1 => ?_) (fun c_1 => ?_)
  · refine j_iconst (-1) dX8_trace_27 rfl ?_
    refine j_iret dX8_trace_28 rfl ?_
    exact ⟨by rw [trV, if_neg (fun q => absurd c_1 (Int32.not_lt.mpr q.1))], rfl⟩
  refine j_ild1 dX8_trace_4 ?_
  refine j_ald0 dX8_trace_5 ?_
  refine j_getI (k := 52) dX8_trace_6 cX8_ok (Or.inl f8_363) rfl (by decide) (by decide) (by decide) ?_
  refine j_top (y := nI T.length) (h.2.2.2.1) ?_
  refine j_icmpge 27 dX8_trace_9 (by decide) (fun c_9 => ?_) (fun c_9 => ?_)
  · refine j_iconst (-1) dX8_trace_27 rfl ?_
    refine j_iret dX8_trace_28 rfl ?_
    exact ⟨by rw [trV, if_neg (fun q => by
      obtain ⟨j, hj, rfl⟩ := in_nI (by omega) q
      have := (nI_leI (a := T.length) (b := j) (by omega) (by omega)).mp c_9
      omega)], rfl⟩
  refine j_ild1 dX8_trace_12 ?_
  refine j_bipush (24) dX8_trace_13 rfl ?_
  refine j_icmpge 27 dX8_trace_15 (by decide) (fun c_15 => ?_) (fun c_15 => ?_)
  · refine j_iconst (-1) dX8_trace_27 rfl ?_
    refine j_iret dX8_trace_28 rfl ?_
    exact ⟨by rw [trV, if_neg (fun q => by
      obtain ⟨j, hj, rfl⟩ := in_nI (by omega) q
      have := (nI_leI (a := 24) (b := j) (by decide) (by omega)).mp c_15
      omega)], rfl⟩
  obtain ⟨j, hj0, rfl⟩ := nI_ge0 (Int32.not_lt.mp c_1)
  have hcl : (nI j).toNatClampNeg = j := nI_clamp (by omega)
  have q_9 : j < T.length := (nI_ltI (by omega) (by omega)).mp (Int32.not_le.mp c_9)
  have q_15 : j < 24 := (nI_ltI (a := j) (b := 24) (by omega) (by decide)).mp (Int32.not_le.mp c_15)
  refine j_ald0 dX8_trace_18 ?_
  refine j_getR (k := 53) (95) dX8_trace_19 cX8_ok (Or.inl f8_126) rfl (by decide) (by decide) (by decide) rfl ?_
  refine j_ild1 dX8_trace_22 ?_
  refine j_iald (n := j) dX8_trace_23 rfl (by decide) rfl (by omega) (by decide) ?_
  refine j_top (y := nI (T.getD j 0)) (h.2.2.2.2 j (by omega) (by omega)) ?_
  refine j_goto 28 dX8_trace_24 (by decide) ?_
  refine j_iret dX8_trace_28 rfl ?_
  exact ⟨by rw [trV, if_pos (nI_in' (by omega) (by omega)), hcl], rfl⟩

def upk (kd : Nat → Nat) (b x : Nat) : Nat → Nat := fun i => if i = b then x else kd i
theorem AC.body (h : AC b kd T S) {x : Nat} (hb : b < 50) (hx : x < 8) : AC (b + 1) (upk kd b x) T (uI (uI S 53 b (nI x)) 6 1 (nI (b + 1))) := by
  refine ⟨by simp [uI_at], by omega, fun i hi => ?_, by simp [uI_at, h.2.2.2.1], fun i hi hj => by simp [uI_at, h.2.2.2.2 i hi hj]⟩
  unfold upk
  by_cases e : i = b
  · subst e; simp [uI_at, hx]
  · simp only [e, if_false]
    have := h.2.2.1 i (by omega)
    exact ⟨by simp [uI_at, e, this.1], this.2⟩
theorem AR.body (h : AR b kd T S) {x : Nat} (hb : b < 50) (hx : x < 8) : AR (b + 1) (upk kd b x) T (uI (uI S 94 b (nI x)) 61 50 (nI (b + 1))) := by
  refine ⟨by simp [uI_at], by omega, fun i hi => ?_, by simp [uI_at, h.2.2.2.1], fun i hi hj => by simp [uI_at, h.2.2.2.2 i hi hj]⟩
  unfold upk
  by_cases e : i = b
  · subst e; simp [uI_at, hx]
  · simp only [e, if_false]
    have := h.2.2.1 i (by omega)
    exact ⟨by simp [uI_at, e, this.1], this.2⟩
set_option maxRecDepth 20000 in
theorem s_X0_addBody {x : Nat} (h : AC b kd T S) (hb : b < 50) : Rt a mX0_addBody 0 [.ref (a 6), .int (nI x)] S (some (.int (nI b))) (uI (uI S 53 b (nI x)) 6 1 (nI (b + 1))) := by
  show J _ _ _ _ 0 [_, _] [] _
  refine j_ald0 dX0_addBody_0 ?_
  refine j_getI (k := 1) dX0_addBody_1 cX0_ok (Or.inl f0_18) rfl (by decide) (by decide) (by decide) ?_
  refine j_top (y := nI b) (h.1) ?_
  refine j_bipush (50) dX0_addBody_4 rfl ?_
  refine j_icmplt 12 dX0_addBody_6 (by decide) (fun c_6 => ?_) (fun c_6 => absurd ((nI_ltI (a := b) (b := 50) (by omega) (by decide)).mpr hb) c_6)
  refine j_ald0 dX0_addBody_12 ?_
  refine j_getR (k := 0) (53) dX0_addBody_13 cX0_ok (Or.inl f0_11) rfl (by decide) (by decide) (by decide) rfl ?_
  refine j_ald0 dX0_addBody_16 ?_
  refine j_getI (k := 1) dX0_addBody_17 cX0_ok (Or.inl f0_18) rfl (by decide) (by decide) (by decide) ?_
  refine j_top (y := nI b) (h.1) ?_
  refine j_ild1 dX0_addBody_20 ?_
  refine j_iast dX0_addBody_21 rfl (by decide) rfl hb (by decide) ?_
  refine j_ald0 dX0_addBody_22 ?_
  refine j_dup dX0_addBody_23 rfl ?_
  refine j_getI (k := 1) dX0_addBody_24 cX0_ok (Or.inl f0_18) rfl (by decide) (by decide) (by decide) ?_
  refine j_top (y := nI b) (by simp [uI_at, h.1]) ?_
  refine j_iconst (1) dX0_addBody_27 rfl ?_
  refine j_iadd dX0_addBody_28 ?_
  refine j_top (y := nI (b + 1)) (nI_1 b) ?_
  refine j_putI (k := 1) dX0_addBody_29 cX0_ok (Or.inl f0_18) rfl (by decide) (by decide) (by decide) rfl ?_
  refine j_ald0 dX0_addBody_32 ?_
  refine j_getI (k := 1) dX0_addBody_33 cX0_ok (Or.inl f0_18) rfl (by decide) (by decide) (by decide) ?_
  refine j_top (y := nI (b + 1)) (by simp [uI_at]) ?_
  refine j_iconst (1) dX0_addBody_36 rfl ?_
  refine j_isub dX0_addBody_37 ?_
  refine j_top (y := nI b) (by exact nI_pred b) ?_
  refine j_iret dX0_addBody_38 rfl ?_
  exact ⟨rfl, rfl⟩

set_option maxRecDepth 20000 in
theorem s_X0_addBody_full {x : Int32} (h : AC 50 kd T S) : Rt a mX0_addBody 0 [.ref (a 6), .int x] S (some (.int (-3))) S := by
  show J _ _ _ _ 0 [_, _] [] _
  refine j_ald0 dX0_addBody_0 ?_
  refine j_getI (k := 1) dX0_addBody_1 cX0_ok (Or.inl f0_18) rfl (by decide) (by decide) (by decide) ?_
  refine j_top (y := nI 50) (h.1) ?_
  refine j_bipush (50) dX0_addBody_4 rfl ?_
  refine j_icmplt 12 dX0_addBody_6 (by decide) (fun c_6 => absurd c_6 (by decide)) (fun c_6 => ?_)
  refine j_bipush (-3) dX0_addBody_9 rfl ?_
  refine j_iret dX0_addBody_11 rfl ?_
  exact ⟨rfl, rfl⟩

set_option maxRecDepth 20000 in
theorem s_X7_body_bad {x : Int32} (hb : ¬ (0 ≤ x ∧ x < 8)) : Rt a mX7_body 1 [.ref (a 0), .int x] S (some (.int (-1))) S := by
  show J _ _ _ _ 0 [_, _] [] _
  refine j_ild1 dX7_body_0 ?_
  refine j_bipush (8) dX7_body_1 rfl ?_
  refine j_cS2 dX7_body_3 kX7_within zX7_within (Or.inl l7_72) (Nat.le_of_ble_eq_true rfl) (Nat.le_of_ble_eq_true rfl) (by omega) (s_X7_within) ?_
  refine j_ifneB 11 dX7_body_6 (by decide) (fun c_6 => absurd c_6 (hb)) (fun c_6 => ?_)
  refine j_iconst (-1) dX7_body_9 rfl ?_
  refine j_iret dX7_body_10 rfl ?_
  exact ⟨rfl, rfl⟩

set_option maxRecDepth 20000 in
theorem s_X7_body_full {x : Int32} (hb : 0 ≤ x ∧ x < 8) (h : AC 50 kd T S) : Rt a mX7_body 1 [.ref (a 0), .int x] S (some (.int (-3))) S := by
  show J _ _ _ _ 0 [_, _] [] _
  refine j_ild1 dX7_body_0 ?_
  refine j_bipush (8) dX7_body_1 rfl ?_
  refine j_cS2 dX7_body_3 kX7_within zX7_within (Or.inl l7_72) (Nat.le_of_ble_eq_true rfl) (Nat.le_of_ble_eq_true rfl) (by omega) (s_X7_within) ?_
  refine j_ifneB 11 dX7_body_6 (by decide) (fun c_6 => ?_) (fun c_6 => absurd (hb) c_6)
  refine j_ald0 dX7_body_11 ?_
  refine j_getR (k := 5) (6) dX7_body_12 cX7_ok (Or.inl f7_49) rfl (by decide) (by decide) (by decide) rfl ?_
  refine j_ild1 dX7_body_15 ?_
  refine j_cV1 dX7_body_16 kX0_addBody l7_261 rfl (by decide) rfl (Nat.le_of_ble_eq_true rfl) (Nat.le_of_ble_eq_true rfl) (by omega) (s_X0_addBody_full h) ?_
  refine j_iret dX7_body_19 rfl ?_
  exact ⟨rfl, rfl⟩

set_option maxRecDepth 20000 in
theorem s_X7_body {x : Nat} (hx : x < 8) (h : AC b kd T S) (hb : b < 50) : Rt a mX7_body 1 [.ref (a 0), .int (nI x)] S (some (.int (nI b))) (uI (uI S 53 b (nI x)) 6 1 (nI (b + 1))) := by
  show J _ _ _ _ 0 [_, _] [] _
  refine j_ild1 dX7_body_0 ?_
  refine j_bipush (8) dX7_body_1 rfl ?_
  refine j_cS2 dX7_body_3 kX7_within zX7_within (Or.inl l7_72) (Nat.le_of_ble_eq_true rfl) (Nat.le_of_ble_eq_true rfl) (by omega) (s_X7_within) ?_
  refine j_ifneB 11 dX7_body_6 (by decide) (fun c_6 => ?_) (fun c_6 => absurd (nI_in' hx (by decide)) c_6)
  refine j_ald0 dX7_body_11 ?_
  refine j_getR (k := 5) (6) dX7_body_12 cX7_ok (Or.inl f7_49) rfl (by decide) (by decide) (by decide) rfl ?_
  refine j_ild1 dX7_body_15 ?_
  refine j_cV1 dX7_body_16 kX0_addBody l7_261 rfl (by decide) rfl (Nat.le_of_ble_eq_true rfl) (Nat.le_of_ble_eq_true rfl) (by omega) (s_X0_addBody h hb) ?_
  refine j_iret dX7_body_19 rfl ?_
  exact ⟨rfl, rfl⟩

set_option maxRecDepth 20000 in
theorem s_X8_body_bad {x : Int32} (hb : ¬ (0 ≤ x ∧ x < 8)) : Rt a mX8_body 1 [.ref (a 61), .int x] S (some (.int (-1))) S := by
  show J _ _ _ _ 0 [_, _] [] _
  refine j_ild1 dX8_body_0 ?_
  refine j_iconst (0) dX8_body_1 rfl ?_
  refine j_bipush (7) dX8_body_2 rfl ?_
  refine j_cS3 dX8_body_4 kX8_in zX8_in (Or.inl l8_148) (Nat.le_of_ble_eq_true rfl) (Nat.le_of_ble_eq_true rfl) (by omega) (s_X8_in) ?_
  refine j_ifneB 12 dX8_body_7 (by decide) (fun c_7 => absurd c_7 (fun q => hb ⟨q.1, (le_lt (c := 7) (by decide)).mp q.2⟩)) (fun c_7 => ?_)
  refine j_iconst (-1) dX8_body_10 rfl ?_
  refine j_iret dX8_body_11 rfl ?_
  exact ⟨rfl, rfl⟩

set_option maxRecDepth 20000 in
theorem s_X8_body_full {x : Int32} (hb : 0 ≤ x ∧ x < 8) (h : AR 50 kd T S) : Rt a mX8_body 1 [.ref (a 61), .int x] S (some (.int (-3))) S := by
  show J _ _ _ _ 0 [_, _] [] _
  refine j_ild1 dX8_body_0 ?_
  refine j_iconst (0) dX8_body_1 rfl ?_
  refine j_bipush (7) dX8_body_2 rfl ?_
  refine j_cS3 dX8_body_4 kX8_in zX8_in (Or.inl l8_148) (Nat.le_of_ble_eq_true rfl) (Nat.le_of_ble_eq_true rfl) (by omega) (s_X8_in) ?_
  refine j_ifneB 12 dX8_body_7 (by decide) (fun c_7 => ?_) (fun c_7 => absurd (⟨hb.1, (le_lt (c := 7) (by decide)).mpr hb.2⟩) c_7)
  refine j_ald0 dX8_body_12 ?_
  refine j_getI (k := 50) dX8_body_13 cX8_ok (Or.inl f8_360) rfl (by decide) (by decide) (by decide) ?_
  refine j_top (y := nI 50) (h.1) ?_
  refine j_bipush (50) dX8_body_16 rfl ?_
  refine j_icmpne 24 dX8_body_18 (by decide) (fun c_18 => absurd c_18 (fun z => z rfl)) (fun c_18 => ?_)
  refine j_bipush (-3) dX8_body_21 rfl ?_
  refine j_iret dX8_body_23 rfl ?_
  exact ⟨rfl, rfl⟩

set_option maxRecDepth 20000 in
theorem s_X8_body {x : Nat} (hx : x < 8) (h : AR b kd T S) (hb : b < 50) : Rt a mX8_body 1 [.ref (a 61), .int (nI x)] S (some (.int (nI b))) (uI (uI S 94 b (nI x)) 61 50 (nI (b + 1))) := by
  show J _ _ _ _ 0 [_, _] [] _
  refine j_ild1 dX8_body_0 ?_
  refine j_iconst (0) dX8_body_1 rfl ?_
  refine j_bipush (7) dX8_body_2 rfl ?_
  refine j_cS3 dX8_body_4 kX8_in zX8_in (Or.inl l8_148) (Nat.le_of_ble_eq_true rfl) (Nat.le_of_ble_eq_true rfl) (by omega) (s_X8_in) ?_
  refine j_ifneB 12 dX8_body_7 (by decide) (fun c_7 => ?_) (fun c_7 => absurd (⟨nI_pos' (by omega), nI_le (a := x) (b := 7) (by omega) (by decide)⟩) c_7)
  refine j_ald0 dX8_body_12 ?_
  refine j_getI (k := 50) dX8_body_13 cX8_ok (Or.inl f8_360) rfl (by decide) (by decide) (by decide) ?_
  refine j_top (y := nI b) (h.1) ?_
  refine j_bipush (50) dX8_body_16 rfl ?_
  refine j_icmpne 24 dX8_body_18 (by decide) (fun c_18 => ?_) (fun c_18 => absurd (fun z => absurd ((nI_eq (a := b) (b := 50) (by omega) (by decide)).mp z) (by omega)) c_18)
  refine j_ald0 dX8_body_24 ?_
  refine j_getR (k := 51) (94) dX8_body_25 cX8_ok (Or.inl f8_123) rfl (by decide) (by decide) (by decide) rfl ?_
  refine j_ald0 dX8_body_28 ?_
  refine j_getI (k := 50) dX8_body_29 cX8_ok (Or.inl f8_360) rfl (by decide) (by decide) (by decide) ?_
  refine j_top (y := nI b) (h.1) ?_
  refine j_ild1 dX8_body_32 ?_
  refine j_iast dX8_body_33 rfl (by decide) rfl hb (by decide) ?_
  refine j_ald0 dX8_body_34 ?_
  refine j_dup dX8_body_35 rfl ?_
  refine j_getI (k := 50) dX8_body_36 cX8_ok (Or.inl f8_360) rfl (by decide) (by decide) (by decide) ?_
  refine j_top (y := nI b) (by simp [uI_at, h.1]) ?_
  refine j_iconst (1) dX8_body_39 rfl ?_
  refine j_iadd dX8_body_40 ?_
  refine j_top (y := nI (b + 1)) (nI_1 b) ?_
  refine j_putI (k := 50) dX8_body_41 cX8_ok (Or.inl f8_360) rfl (by decide) (by decide) (by decide) rfl ?_
  refine j_ald0 dX8_body_44 ?_
  refine j_getI (k := 50) dX8_body_45 cX8_ok (Or.inl f8_360) rfl (by decide) (by decide) (by decide) ?_
  refine j_top (y := nI (b + 1)) (by simp [uI_at]) ?_
  refine j_iconst (1) dX8_body_48 rfl ?_
  refine j_isub dX8_body_49 ?_
  refine j_top (y := nI b) (by exact nI_pred b) ?_
  refine j_iret dX8_body_50 rfl ?_
  exact ⟨rfl, rfl⟩

end RActs
