/-! the card that was cheated in: the class -/
def mlF (W : Nat → Nat) (A w0 b0 : Nat) : Nat → Int32 × Nat × Nat
  | 0 => (-2, w0, b0)
  | i + 1 => if (mlF W A w0 b0 i).2.1 * A < W i * (mlF W A w0 b0 i).2.2 then (nI i, W i, A) else mlF W A w0 b0 i
def bAll (N L : Nat) : Nat := if (60 * N) ^ L < 1 then 1 else (60 * N) ^ L
theorem bAll_pos (N L : Nat) : 0 < bAll N L := by unfold bAll; split <;> omega
theorem bAll_le {N L : Nat} (hN : N ≤ 73) (hL : L ≤ 3) : (60 * N) ^ L ≤ 4380 ^ 3 ∧ bAll N L ≤ 4380 ^ 3 := by
  have h1 : (60 * N) ^ L ≤ 4380 ^ L := Nat.pow_le_pow_left (by omega) L
  have h2 : 4380 ^ L ≤ 4380 ^ 3 := Nat.pow_le_pow_right (by decide) hL
  refine ⟨by omega, ?_⟩
  unfold bAll; split <;> omega
theorem mlF_ok {W : Nat → Nat} {A w0 b0 B : Nat} (hW : ∀ i, W i ≤ B) (h0 : w0 ≤ B) (hA : 0 < A ∧ A ≤ B) (hb : 0 < b0 ∧ b0 ≤ B) : ∀ i, (mlF W A w0 b0 i).2.1 ≤ B ∧ 0 < (mlF W A w0 b0 i).2.2 ∧ (mlF W A w0 b0 i).2.2 ≤ B
  | 0 => ⟨h0, hb.1, hb.2⟩
  | i + 1 => by
    rw [mlF]
    split
    · exact ⟨hW i, hA.1, hA.2⟩
    · exact mlF_ok hW h0 hA hb i
/-- a row of colours -/
def Cols (sh : Nat → Nat → Nat) (el : Nat → Nat → Int64) (q : Nat) (cl : Nat → Nat) : Prop := ∀ k, k < sh q 3 → cl k < 6 ∧ el q k = lN (cl k)
def wy0 (v : Nat → Nat → Nat) (b : Option (List Line)) (n : Nat) (cl : Nat → Nat) (L : Nat) : Nat := prodN (fun k => lkA v b n (cl k) 1) L
def wy1 (v : Nat → Nat → Nat) (b : Option (List Line)) (n : Nat) (cl : Nat → Nat) (L i : Nat) : Nat := prodN (fun k => lkA (mo1 v i) b n (cl k) 1) L
theorem lN_I6 {c : Nat} (h : c < 6) : (lN c).toInt32 = nI c := by
  rcases (show c = 0 ∨ c = 1 ∨ c = 2 ∨ c = 3 ∨ c = 4 ∨ c = 5 by omega) with rfl | rfl | rfl | rfl | rfl | rfl <;> rfl
theorem lk1_le {u : Nat → Nat → Nat} {b : Option (List Line)} {n c : Nat} (h : ∀ j, j < 8 → u 0 j ≤ 10) (hn : n ≤ 8) : lkA u b n c 1 ≤ 4800 := by
  have h1 := sumN_le (f := fun i => lkO u b i c 1) (b := 600) n (fun i hi => by
    show u 0 i * pC u b i c ^ 1 ≤ 600
    rw [Nat.pow_one]
    exact Nat.mul_le_mul (h i (by omega)) (pC_le u b i c))
  have h2 : n * 600 ≤ 8 * 600 := Nat.mul_le_mul_right _ hn
  show sumN _ n ≤ 4800
  omega
theorem pw48 {L : Nat} (h : L ≤ 3) : 4800 ^ L ≤ 4800 ^ 3 := Nat.pow_le_pow_right (by decide) h
theorem wy0_le {v : Nat → Nat → Nat} {b : Option (List Line)} {n L : Nat} {cl : Nat → Nat} (h : ∀ j, j < 8 → v 0 j ≤ 9) (hn : n ≤ 8) (hL : L ≤ 3) : wy0 v b n cl L ≤ 4800 ^ 3 := Nat.le_trans (prodN_le L (fun k _ => lk1_le (fun j hj => Nat.le_trans (h j hj) (by decide)) hn)) (pw48 hL)
theorem wy1_le {v : Nat → Nat → Nat} {b : Option (List Line)} {n L : Nat} {cl : Nat → Nat} (h : ∀ j, j < 8 → v 0 j ≤ 9) (hn : n ≤ 8) (hL : L ≤ 3) (i : Nat) : wy1 v b n cl L i ≤ 4800 ^ 3 := Nat.le_trans (prodN_le L (fun k _ => lk1_le (fun j hj => by
  rw [mo1_0]
  have := h j hj
  split <;> omega) hn)) (pw48 hL)
section Cheat
variable {a : Nat → Nat} {S : St} {n q : Nat} {v u : Nat → Nat → Nat} {b : Option (List Line)} {sh : Nat → Nat → Nat} {el : Nat → Nat → Int64} {cl : Nat → Nat}

set_option maxRecDepth 20000 in
theorem lp_X5_allWaysOf (hq : q < 6) (hsc : SC sh el S) (hL : sh q 3 ≤ 3) {x : Nat} (hx : x ≤ 73) : ∀ (fu : Nat) (j : Nat), sh q 3 - j < fu → (j ≤ sh q 3) → J a mX5_allWaysOf 0 (gm a fun r S' => r = some (.long (lN (bAll x (sh q 3)))) ∧ S' = S) 5 [.int (nI x), .ref (a (8 + q)), .long (lN ((60 * x) ^ j)), .null, .int (nI j)] [] S := by
  intro fu
  induction fu with
  | zero => intro j hk; exact absurd hk (Nat.not_lt_zero _)
  | succ fu ih =>
    intro j hk hj
    have hb2 := (bAll_le hx hL).1
    refine j_ild4 dX5_allWaysOf_5 ?_
    refine j_ald1 dX5_allWaysOf_7 ?_
    refine j_getI (k := 3) dX5_allWaysOf_8 cX4_ok (Or.inr ⟨_, f5_86⟩) (ck_sh hq) (by omega) (by decide) (by decide) ?_
    refine j_top (y := nI (sh q 3)) ((hsc q hq).2.2.2.1) ?_
    refine j_icmpge 29 dX5_allWaysOf_11 (by decide) (fun c_11 => ?_) (fun c_11 => ?_)
    · have q_11 : j = sh q 3 := by have := (nI_leI (a := sh q 3) (b := j) (by omega) (by omega)).mp c_11; omega
      rw [q_11]
      refine j_lld2 dX5_allWaysOf_29 ?_
      refine j_lconst (1) dX5_allWaysOf_30 rfl ?_
      refine j_lcmp dX5_allWaysOf_31 ?_
      refine j_ifge 39 dX5_allWaysOf_32 (by decide) (fun c_32 => ?_) (fun c_32 => ?_)
      · have q_32 : ¬ (60 * x) ^ sh q 3 < 1 := by
          have := (pk_lLE (a := 1) (b := (60 * x) ^ sh q 3) (by decide) (by omega)).mp ((lg_cmp_ge _ _).mp c_32)
          omega
        refine j_lld2 dX5_allWaysOf_39 ?_
        refine j_lret dX5_allWaysOf_40 rfl ?_
        exact ⟨by rw [bAll, if_neg q_32], rfl⟩
      have q_32 : (60 * x) ^ sh q 3 < 1 := Nat.not_le.mp (fun z => c_32 ((lg_cmp_ge _ _).mpr ((pk_lLE (a := 1) (b := (60 * x) ^ sh q 3) (by decide) (by omega)).mpr z)))
      refine j_lconst (1) dX5_allWaysOf_35 rfl ?_
      refine j_goto 40 dX5_allWaysOf_36 (by decide) ?_
      refine j_lret dX5_allWaysOf_40 rfl ?_
      exact ⟨by rw [bAll, if_pos q_32]; rfl, rfl⟩
    have q_11 : j < sh q 3 := Nat.not_le.mp (fun z => c_11 ((nI_leI (a := sh q 3) (b := j) (by omega) (by omega)).mpr z))
    refine j_lld2 dX5_allWaysOf_14 ?_
    refine j_ldc2_w (v := 60) dX5_allWaysOf_15 q5_99 ?_
    refine j_topL (y := lN 60) (rfl) ?_
    refine j_ild0 dX5_allWaysOf_18 ?_
    refine j_i2l dX5_allWaysOf_19 ?_
    refine j_topL (y := lN x) (nI_l (by omega)) ?_
    refine j_lmul dX5_allWaysOf_20 ?_
    refine j_topL (y := lN (60 * x)) (lN_mul _ _) ?_
    refine j_lmul dX5_allWaysOf_21 ?_
    refine j_topL (y := lN ((60 * x) ^ (j + 1))) (by rw [Nat.pow_succ]; exact lN_mul _ _) ?_
    refine j_lst2 dX5_allWaysOf_22 rfl (by decide) ?_
    refine j_iinc4 (nI (j + 1)) dX5_allWaysOf_23 (nI_1 j) rfl (by decide) ?_
    refine j_goto 5 dX5_allWaysOf_26 (by decide) ?_
    exact ih (j + 1) (by omega) (by omega)

set_option maxRecDepth 20000 in
theorem s_X5_allWaysOf (hq : q < 6) (hsc : SC sh el S) (hL : sh q 3 ≤ 3) {x : Nat} (hx : x ≤ 73) : Rt a mX5_allWaysOf 0 [.int (nI x), .ref (a (8 + q))] S (some (.long (lN (bAll x (sh q 3))))) S := by
  show J _ _ _ _ 0 [_, _, .null, .null, .null] [] _
  refine j_lconst (1) dX5_allWaysOf_0 rfl ?_
  refine j_lst2 dX5_allWaysOf_1 rfl (by decide) ?_
  refine j_iconst (0) dX5_allWaysOf_2 rfl ?_
  refine j_ist4 dX5_allWaysOf_3 rfl (by decide) ?_
  exact lp_X5_allWaysOf hq hsc hL hx (sh q 3 + 1) 0 (by omega) (by omega)

set_option maxRecDepth 20000 in
theorem lp_X5_waysWith_n (hq : q < 6) (hsc : SC sh el S) (hL : sh q 3 ≤ 3) (hcl : Cols sh el q cl) (h : TC n v S) (hc0 : TCc n u S) (hw : WCq u b n S) : ∀ (fu : Nat) (k : Nat) (w7 w8 : Value), sh q 3 - k < fu → (k ≤ sh q 3) → J a mX5_waysWith 4 (gm a fun r S' => r = some (.long (lN (prodN (fun k => lkH v u b n (cl k) 1) (sh q 3)))) ∧ S' = S) 6 [.ref (a 3), .ref (a 1), .int (-1), .ref (a (8 + q)), .long (lN (prodN (fun k => lkH v u b n (cl k) 1) k)), .null, .int (nI k), w7, w8, .null] [] S := by
  intro fu
  induction fu with
  | zero => intro k w7 w8 hk; exact absurd hk (Nat.not_lt_zero _)
  | succ fu ih =>
    intro k w7 w8 hk hj
    refine j_ild6 dX5_waysWith_6 ?_
    refine j_ald3 dX5_waysWith_8 ?_
    refine j_getI (k := 3) dX5_waysWith_9 cX4_ok (Or.inr ⟨_, f5_86⟩) (ck_sh hq) (by omega) (by decide) (by decide) ?_
    refine j_top (y := nI (sh q 3)) ((hsc q hq).2.2.2.1) ?_
    refine j_icmpge 67 dX5_waysWith_12 (by decide) (fun c_12 => ?_) (fun c_12 => ?_)
    · have q_12 : k = sh q 3 := by have := (nI_leI (a := sh q 3) (b := k) (by omega) (by omega)).mp c_12; omega
      rw [q_12]
      refine j_lld4 dX5_waysWith_67 ?_
      refine j_lret dX5_waysWith_69 rfl ?_
      exact ⟨rfl, rfl⟩
    have q_12 : k < sh q 3 := Nat.not_le.mp (fun z => c_12 ((nI_leI (a := sh q 3) (b := k) (by omega) (by omega)).mpr z))
    obtain ⟨hc6, hek⟩ := hcl k q_12
    refine j_ald3 dX5_waysWith_15 ?_
    refine j_getR (k := 4) (55 + q) dX5_waysWith_16 cX4_ok (Or.inr ⟨_, f5_91⟩) (ck_sh hq) (by omega) (by decide) (by decide) (fr_el hq) ?_
    refine j_ild6 dX5_waysWith_19 ?_
    refine j_lald (n := k) dX5_waysWith_21 (ck_el hq) (by omega) rfl (by omega) (by decide) ?_
    refine j_topL (y := lN (cl k)) (((hsc q hq).2.2.2.2 k (by omega)).trans hek) ?_
    refine j_l2i dX5_waysWith_22 ?_
    refine j_top (y := nI (cl k)) (lN_I6 hc6) ?_
    refine j_ist7 dX5_waysWith_23 rfl (by decide) ?_
    refine j_ald0 dX5_waysWith_25 ?_
    refine j_ald1 dX5_waysWith_26 ?_
    refine j_ild7 dX5_waysWith_27 ?_
    refine j_iconst (1) dX5_waysWith_29 rfl ?_
    refine j_cV3 dX5_waysWith_30 kX5_likely l5_95 rfl (by decide) rfl (Nat.le_of_ble_eq_true rfl) (Nat.le_of_ble_eq_true rfl) (by omega) (g_X5_likely (c := cl k) (k := 1) h hc0 hw (by omega) (by decide)) ?_
    refine j_lst8 dX5_waysWith_33 rfl (by decide) ?_
    refine j_lld4 dX5_waysWith_35 ?_
    refine j_ild2 dX5_waysWith_37 ?_
    refine j_ifge 46 dX5_waysWith_38 (by decide) (fun c_38 => absurd c_38 (by decide)) (fun c_38 => ?_)
    refine j_lld8 dX5_waysWith_41 ?_
    refine j_goto 58 dX5_waysWith_43 (by decide) ?_
    refine j_lmul dX5_waysWith_58 ?_
    refine j_topL (y := lN (prodN (fun k => lkH v u b n (cl k) 1) (k + 1))) (lN_mul _ _) ?_
    refine j_lst4 dX5_waysWith_59 rfl (by decide) ?_
    refine j_iinc6 (nI (k + 1)) dX5_waysWith_61 (nI_1 k) rfl (by decide) ?_
    refine j_goto 6 dX5_waysWith_64 (by decide) ?_
    exact ih (k + 1) _ _ (by omega) (by omega)

set_option maxRecDepth 20000 in
theorem s_X5_waysWith_n (hq : q < 6) (hsc : SC sh el S) (hL : sh q 3 ≤ 3) (hcl : Cols sh el q cl) (h : TC n v S) (hc0 : TCc n u S) (hw : WCq u b n S) : Rt a mX5_waysWith 4 [.ref (a 3), .ref (a 1), .int (-1), .ref (a (8 + q))] S (some (.long (lN (prodN (fun k => lkH v u b n (cl k) 1) (sh q 3))))) S := by
  show J _ _ _ _ 0 [_, _, _, _, .null, .null, .null, .null, .null, .null] [] _
  refine j_lconst (1) dX5_waysWith_0 rfl ?_
  refine j_lst4 dX5_waysWith_1 rfl (by decide) ?_
  refine j_iconst (0) dX5_waysWith_3 rfl ?_
  refine j_ist6 dX5_waysWith_4 rfl (by decide) ?_
  exact lp_X5_waysWith_n hq hsc hL hcl h hc0 hw (sh q 3 + 1) 0 _ _ (by omega) (by omega)

set_option maxRecDepth 20000 in
theorem lp_X5_waysWith_i (hq : q < 6) (hsc : SC sh el S) (hL : sh q 3 ≤ 3) (hcl : Cols sh el q cl) (h : TC n v S) (hc0 : TCc n u S) (hw : WCq u b n S) {i : Nat} (hin : i < n) : ∀ (fu : Nat) (k : Nat) (w7 w8 : Value), sh q 3 - k < fu → (k ≤ sh q 3) → J a mX5_waysWith 4 (gm a fun r S' => r = some (.long (lN (prodN (fun k => lkH v u b n (cl k) 1 + pC u b i (cl k)) (sh q 3)))) ∧ S' = S) 6 [.ref (a 3), .ref (a 1), .int (nI i), .ref (a (8 + q)), .long (lN (prodN (fun k => lkH v u b n (cl k) 1 + pC u b i (cl k)) k)), .null, .int (nI k), w7, w8, .null] [] S := by
  intro fu
  induction fu with
  | zero => intro k w7 w8 hk; exact absurd hk (Nat.not_lt_zero _)
  | succ fu ih =>
    intro k w7 w8 hk hj
    refine j_ild6 dX5_waysWith_6 ?_
    refine j_ald3 dX5_waysWith_8 ?_
    refine j_getI (k := 3) dX5_waysWith_9 cX4_ok (Or.inr ⟨_, f5_86⟩) (ck_sh hq) (by omega) (by decide) (by decide) ?_
    refine j_top (y := nI (sh q 3)) ((hsc q hq).2.2.2.1) ?_
    refine j_icmpge 67 dX5_waysWith_12 (by decide) (fun c_12 => ?_) (fun c_12 => ?_)
    · have q_12 : k = sh q 3 := by have := (nI_leI (a := sh q 3) (b := k) (by omega) (by omega)).mp c_12; omega
      rw [q_12]
      refine j_lld4 dX5_waysWith_67 ?_
      refine j_lret dX5_waysWith_69 rfl ?_
      exact ⟨rfl, rfl⟩
    have q_12 : k < sh q 3 := Nat.not_le.mp (fun z => c_12 ((nI_leI (a := sh q 3) (b := k) (by omega) (by omega)).mpr z))
    obtain ⟨hc6, hek⟩ := hcl k q_12
    refine j_ald3 dX5_waysWith_15 ?_
    refine j_getR (k := 4) (55 + q) dX5_waysWith_16 cX4_ok (Or.inr ⟨_, f5_91⟩) (ck_sh hq) (by omega) (by decide) (by decide) (fr_el hq) ?_
    refine j_ild6 dX5_waysWith_19 ?_
    refine j_lald (n := k) dX5_waysWith_21 (ck_el hq) (by omega) rfl (by omega) (by decide) ?_
    refine j_topL (y := lN (cl k)) (((hsc q hq).2.2.2.2 k (by omega)).trans hek) ?_
    refine j_l2i dX5_waysWith_22 ?_
    refine j_top (y := nI (cl k)) (lN_I6 hc6) ?_
    refine j_ist7 dX5_waysWith_23 rfl (by decide) ?_
    refine j_ald0 dX5_waysWith_25 ?_
    refine j_ald1 dX5_waysWith_26 ?_
    refine j_ild7 dX5_waysWith_27 ?_
    refine j_iconst (1) dX5_waysWith_29 rfl ?_
    refine j_cV3 dX5_waysWith_30 kX5_likely l5_95 rfl (by decide) rfl (Nat.le_of_ble_eq_true rfl) (Nat.le_of_ble_eq_true rfl) (by omega) (g_X5_likely (c := cl k) (k := 1) h hc0 hw (by omega) (by decide)) ?_
    refine j_lst8 dX5_waysWith_33 rfl (by decide) ?_
    refine j_lld4 dX5_waysWith_35 ?_
    refine j_ild2 dX5_waysWith_37 ?_
    refine j_ifge 46 dX5_waysWith_38 (by decide) (fun c_38 => ?_) (fun c_38 => absurd (nI_pos' (by have := h.2.1; omega)) c_38)
    refine j_lld8 dX5_waysWith_46 ?_
    refine j_ald0 dX5_waysWith_48 ?_
    refine j_ald1 dX5_waysWith_49 ?_
    refine j_ild2 dX5_waysWith_50 ?_
    refine j_ild7 dX5_waysWith_51 ?_
    refine j_cV3 dX5_waysWith_53 kX5_ofColour l5_62 rfl (by decide) rfl (Nat.le_of_ble_eq_true rfl) (Nat.le_of_ble_eq_true rfl) (by omega) (g_X5_ofColour hc0 hw hin (by omega)) ?_
    refine j_i2l dX5_waysWith_56 ?_
    refine j_topL (y := lN (pC u b i (cl k))) (nI_l (by have := pC_le u b i (cl k); omega)) ?_
    refine j_ladd dX5_waysWith_57 ?_
    refine j_topL (y := lN (lkH v u b n (cl k) 1 + pC u b i (cl k))) (lN_add _ _) ?_
    refine j_lmul dX5_waysWith_58 ?_
    refine j_topL (y := lN (prodN (fun k => lkH v u b n (cl k) 1 + pC u b i (cl k)) (k + 1))) (lN_mul _ _) ?_
    refine j_lst4 dX5_waysWith_59 rfl (by decide) ?_
    refine j_iinc6 (nI (k + 1)) dX5_waysWith_61 (nI_1 k) rfl (by decide) ?_
    refine j_goto 6 dX5_waysWith_64 (by decide) ?_
    exact ih (k + 1) _ _ (by omega) (by omega)

set_option maxRecDepth 20000 in
theorem s_X5_waysWith_i (hq : q < 6) (hsc : SC sh el S) (hL : sh q 3 ≤ 3) (hcl : Cols sh el q cl) (h : TC n v S) (hc0 : TCc n u S) (hw : WCq u b n S) {i : Nat} (hin : i < n) : Rt a mX5_waysWith 4 [.ref (a 3), .ref (a 1), .int (nI i), .ref (a (8 + q))] S (some (.long (lN (prodN (fun k => lkH v u b n (cl k) 1 + pC u b i (cl k)) (sh q 3))))) S := by
  show J _ _ _ _ 0 [_, _, _, _, .null, .null, .null, .null, .null, .null] [] _
  refine j_lconst (1) dX5_waysWith_0 rfl ?_
  refine j_lst4 dX5_waysWith_1 rfl (by decide) ?_
  refine j_iconst (0) dX5_waysWith_3 rfl ?_
  refine j_ist6 dX5_waysWith_4 rfl (by decide) ?_
  exact lp_X5_waysWith_i hq hsc hL hcl h hc0 hw hin (sh q 3 + 1) 0 _ _ (by omega) (by omega)

abbrev mlA (v : Nat → Nat → Nat) (b : Option (List Line)) (n : Nat) (cl : Nat → Nat) (L : Nat) : Nat → Int32 × Nat × Nat := mlF (wy1 v b n cl L) (bAll (sumN (v 0) n + 1) L) (wy0 v b n cl L) (bAll (sumN (v 0) n) L)
set_option maxRecDepth 20000 in
theorem lp_X5_mostLikelyMore (hq : q < 6) (hsc : SC sh el S) (hL : sh q 3 ≤ 3) (hcl : Cols sh el q cl) (h : TC n v S) (hb : LawC b S) (hg : GoodB b) : ∀ (fu : Nat) (i : Nat) (S1 : St) (w12 : Value), n - i < fu → (i ≤ n) → (Kp [4, 8] S S1) → (WCq v b n S1) → J a mX5_mostLikelyMore 5 (gm a fun r S' => ∃ z, r = some (.int z) ∧ z = (mlA v b n cl (sh q 3) n).1 ∧ Kp [4, 8] S S') 38 [.ref (a 3), .ref (a 1), .ref (a 2), .ref (a (8 + q)), .int (mlA v b n cl (sh q 3) i).1, .long (lN (mlA v b n cl (sh q 3) i).2.1), .null, .long (lN (mlA v b n cl (sh q 3) i).2.2), .null, .long (lN (bAll (sumN (v 0) n + 1) (sh q 3))), .null, .int (nI i), w12, .null] [] S1 := by
  intro fu
  induction fu with
  | zero => intro i S1 w12 hk; exact absurd hk (Nat.not_lt_zero _)
  | succ fu ih =>
    intro i S1 w12 hk hi hkp hw
    have hn8 := h.2.1
    have hs := h.sum hn8
    have h9 := fun j hj => h.many9 (i := j) hj
    have hA := bAll_le (N := sumN (v 0) n + 1) (L := sh q 3) (by omega) hL
    have hB := bAll_le (N := sumN (v 0) n) (L := sh q 3) (by omega) hL
    have hA0 := bAll_pos (sumN (v 0) n + 1) (sh q 3)
    have hB0 := bAll_pos (sumN (v 0) n) (sh q 3)
    have hmo := mlF_ok (W := wy1 v b n cl (sh q 3)) (A := bAll (sumN (v 0) n + 1) (sh q 3)) (w0 := wy0 v b n cl (sh q 3)) (b0 := bAll (sumN (v 0) n) (sh q 3)) (B := 4800 ^ 3) (wy1_le h9 hn8 hL) (wy0_le h9 hn8 hL) ⟨hA0, by omega⟩ ⟨hB0, by omega⟩ i
    have hwi := wy1_le (b := b) (cl := cl) h9 hn8 hL i
    change (mlA v b n cl (sh q 3) i).2.1 ≤ 4800 ^ 3 ∧ 0 < (mlA v b n cl (sh q 3) i).2.2 ∧ (mlA v b n cl (sh q 3) i).2.2 ≤ 4800 ^ 3 at hmo
    refine j_ild11 dX5_mostLikelyMore_38 ?_
    refine j_ald1 dX5_mostLikelyMore_40 ?_
    refine j_getI (k := 1) dX5_mostLikelyMore_41 cX6_ok (Or.inr ⟨_, f5_16⟩) rfl (by decide) (by decide) (by decide) ?_
    refine j_top (y := nI n) ((h.kp hkp (by decide)).1) ?_
    refine j_icmpge 116 dX5_mostLikelyMore_44 (by decide) (fun c_44 => ?_) (fun c_44 => ?_)
    · have q_44 : i = n := by have := (nI_leI (a := n) (b := i) (by omega) (by omega)).mp c_44; omega
      subst q_44
      refine j_ild4 dX5_mostLikelyMore_116 ?_
      refine j_iret dX5_mostLikelyMore_118 rfl ?_
      exact ⟨_, rfl, rfl, hkp⟩
    have q_44 : i < n := Nat.not_le.mp (fun z => c_44 ((nI_leI (a := n) (b := i) (by omega) (by omega)).mpr z))
    have ht1 := h.kp hkp (by decide)
    refine j_ald0 dX5_mostLikelyMore_47 ?_
    refine j_ald1 dX5_mostLikelyMore_48 ?_
    refine j_ald2 dX5_mostLikelyMore_49 ?_
    refine j_ild11 dX5_mostLikelyMore_50 ?_
    refine j_ald1 dX5_mostLikelyMore_52 ?_
    refine j_getR (k := 0) (15) dX5_mostLikelyMore_53 cX6_ok (Or.inr ⟨_, f5_26⟩) rfl (by decide) (by decide) (by decide) rfl ?_
    refine j_iconst (0) dX5_mostLikelyMore_56 rfl ?_
    refine j_aald (n := 0) (16) dX5_mostLikelyMore_57 (Or.inr rfl) (by decide) rfl (by decide) (by decide) rfl ?_
    refine j_ild11 dX5_mostLikelyMore_58 ?_
    refine j_iald (n := i) dX5_mostLikelyMore_60 rfl (by decide) rfl (by omega) (by decide) ?_
    refine j_top (y := nI (v 0 i)) (ht1.2.2.1 0 (by decide) i (by omega)) ?_
    refine j_iconst (1) dX5_mostLikelyMore_61 rfl ?_
    refine j_iadd dX5_mostLikelyMore_62 ?_
    refine j_top (y := nI (mo1 v i 0 i)) (by rw [mo1_0, if_pos rfl]; exact nI_1 _) ?_
    refine j_qvV4 dX5_mostLikelyMore_63 kX5_weighAmong l5_29 rfl (by decide) rfl (Nat.le_of_ble_eq_true rfl) (Nat.le_of_ble_eq_true rfl) (by omega) (g_X5_weighAmong (u := mo1 v i) (i := i) (ht1.col (mo1_w (by decide)) (mo1_w (by decide))) (hb.kp hkp (by decide)) hg (by omega)) (fun S2 h2 => ?_)
    have hk2 := hkp.tr h2.1
    have ht2 := h.kp hk2 (by decide)
    have hw2 : WCq (mo1 v i) b n S2 := fun j hj => by
      by_cases c : j = i
      · subst c; exact ⟨h2.2.1, h2.2.2.1⟩
      · rw [h2.2.2.2 j (by omega) c, h2.2.2.2 j (by omega) c, wt_mo1 c, wt_mo1 c]; exact hw j hj
    refine j_ald0 dX5_mostLikelyMore_66 ?_
    refine j_ald1 dX5_mostLikelyMore_67 ?_
    refine j_ild11 dX5_mostLikelyMore_68 ?_
    refine j_ald3 dX5_mostLikelyMore_70 ?_
    refine j_cV3 dX5_mostLikelyMore_71 kX5_waysWith l5_70 rfl (by decide) rfl (Nat.le_of_ble_eq_true rfl) (Nat.le_of_ble_eq_true rfl) (by omega) (s_X5_waysWith_i (u := mo1 v i) (b := b) hq (hsc.kp hk2 (by decide)) hL hcl ht2 (ht2.col (mo1_w (by decide)) (mo1_w (by decide))) hw2 q_44) ?_
    refine j_topL (y := lN (wy1 v b n cl (sh q 3) i)) (by rw [wy1, prodN_congr (fun k _ => lk_mo1 q_44)]) ?_
    refine j_lst12 dX5_mostLikelyMore_74 rfl (by decide) ?_
    refine j_ald0 dX5_mostLikelyMore_76 ?_
    refine j_ald1 dX5_mostLikelyMore_77 ?_
    refine j_ald2 dX5_mostLikelyMore_78 ?_
    refine j_ild11 dX5_mostLikelyMore_79 ?_
    refine j_qvV3 dX5_mostLikelyMore_81 kX5_weigh l5_22 rfl (by decide) rfl (Nat.le_of_ble_eq_true rfl) (Nat.le_of_ble_eq_true rfl) (by omega) (s_X5_weigh ht2 (hb.kp hk2 (by decide)) hg (show i < 8 by omega)) (fun S3 h3 => ?_)
    have hk3 := hk2.tr h3.1
    have hw3 : WCq v b n S3 := fun j hj => by
      by_cases c : j = i
      · subst c; exact ⟨h3.2.1, h3.2.2.1⟩
      · rw [h3.2.2.2 j (by omega) c, h3.2.2.2 j (by omega) c, ← wt_mo1 (i := i) c 0, ← wt_mo1 (i := i) c 1]; exact hw2 j hj
    refine j_lld12 dX5_mostLikelyMore_84 ?_
    refine j_lld9 dX5_mostLikelyMore_86 ?_
    refine j_lld5 dX5_mostLikelyMore_88 ?_
    refine j_lld7 dX5_mostLikelyMore_90 ?_
    refine j_cS4 dX5_mostLikelyMore_92 kX5_isMore zX5_isMore (Or.inl l5_82) (Nat.le_of_ble_eq_true rfl) (Nat.le_of_ble_eq_true rfl) (by omega) (s_X5_isMore hA0 hmo.2.1 (by omega) (by omega) (by omega) (by omega)) ?_
    refine j_ifeqB 110 dX5_mostLikelyMore_95 (by decide) (fun c_95 => ?_) (fun c_95 => ?_)
    · refine j_iinc11 (nI (i + 1)) dX5_mostLikelyMore_110 (nI_1 i) rfl (by decide) ?_
      refine j_goto 38 dX5_mostLikelyMore_113 (by decide) ?_
      have e : mlA v b n cl (sh q 3) (i + 1) = mlA v b n cl (sh q 3) i := if_neg c_95
      have := ih (i + 1) S3 (.long (lN (wy1 v b n cl (sh q 3) i))) (by omega) (by omega) hk3 hw3
      rw [e] at this
      exact this
    refine j_ild11 dX5_mostLikelyMore_98 ?_
    refine j_ist4 dX5_mostLikelyMore_100 rfl (by decide) ?_
    refine j_lld12 dX5_mostLikelyMore_102 ?_
    refine j_lst5 dX5_mostLikelyMore_104 rfl (by decide) ?_
    refine j_lld9 dX5_mostLikelyMore_106 ?_
    refine j_lst7 dX5_mostLikelyMore_108 rfl (by decide) ?_
    refine j_iinc11 (nI (i + 1)) dX5_mostLikelyMore_110 (nI_1 i) rfl (by decide) ?_
    refine j_goto 38 dX5_mostLikelyMore_113 (by decide) ?_
    have e : mlA v b n cl (sh q 3) (i + 1) = (nI i, wy1 v b n cl (sh q 3) i, bAll (sumN (v 0) n + 1) (sh q 3)) := if_pos c_95
    have := ih (i + 1) S3 (.long (lN (wy1 v b n cl (sh q 3) i))) (by omega) (by omega) hk3 hw3
    rw [e] at this
    exact this

set_option maxRecDepth 20000 in
theorem s_X5_mostLikelyMore (hq : q < 6) (hsc : SC sh el S) (hL : sh q 3 ≤ 3) (hcl : Cols sh el q cl) (h : TC n v S) (hb : LawC b S) (hg : GoodB b) (hw : WCq v b n S) : Rqi a mX5_mostLikelyMore 5 [.ref (a 3), .ref (a 1), .ref (a 2), .ref (a (8 + q))] S fun z S' => z = (mlA v b n cl (sh q 3) n).1 ∧ Kp [4, 8] S S' := by
  have hs := h.sum h.2.1
  show J _ _ _ _ 0 [_, _, _, _, .null, .null, .null, .null, .null, .null, .null, .null, .null, .null] [] _
  refine j_bipush (-2) dX5_mostLikelyMore_0 rfl ?_
  refine j_ist4 dX5_mostLikelyMore_2 rfl (by decide) ?_
  refine j_ald0 dX5_mostLikelyMore_4 ?_
  refine j_ald1 dX5_mostLikelyMore_5 ?_
  refine j_iconst (-1) dX5_mostLikelyMore_6 rfl ?_
  refine j_ald3 dX5_mostLikelyMore_7 ?_
  refine j_cV3 dX5_mostLikelyMore_8 kX5_waysWith l5_70 rfl (by decide) rfl (Nat.le_of_ble_eq_true rfl) (Nat.le_of_ble_eq_true rfl) (by omega) (s_X5_waysWith_n (u := v) (b := b) hq hsc hL hcl h (h.col rfl rfl) hw) ?_
  refine j_topL (y := lN (wy0 v b n cl (sh q 3))) rfl ?_
  refine j_lst5 dX5_mostLikelyMore_11 rfl (by decide) ?_
  refine j_ald1 dX5_mostLikelyMore_13 ?_
  refine j_cV0 dX5_mostLikelyMore_14 kX6_inHat l5_74 rfl (by decide) rfl (Nat.le_of_ble_eq_true rfl) (Nat.le_of_ble_eq_true rfl) (by omega) (s_X6_inHat h) ?_
  refine j_ald3 dX5_mostLikelyMore_17 ?_
  refine j_cS2 dX5_mostLikelyMore_18 kX5_allWaysOf zX5_allWaysOf (Or.inl l5_78) (Nat.le_of_ble_eq_true rfl) (Nat.le_of_ble_eq_true rfl) (by omega) (s_X5_allWaysOf hq hsc hL (by omega)) ?_
  refine j_lst7 dX5_mostLikelyMore_21 rfl (by decide) ?_
  refine j_ald1 dX5_mostLikelyMore_23 ?_
  refine j_cV0 dX5_mostLikelyMore_24 kX6_inHat l5_74 rfl (by decide) rfl (Nat.le_of_ble_eq_true rfl) (Nat.le_of_ble_eq_true rfl) (by omega) (s_X6_inHat h) ?_
  refine j_iconst (1) dX5_mostLikelyMore_27 rfl ?_
  refine j_iadd dX5_mostLikelyMore_28 ?_
  refine j_top (y := nI (sumN (v 0) n + 1)) (nI_1 _) ?_
  refine j_ald3 dX5_mostLikelyMore_29 ?_
  refine j_cS2 dX5_mostLikelyMore_30 kX5_allWaysOf zX5_allWaysOf (Or.inl l5_78) (Nat.le_of_ble_eq_true rfl) (Nat.le_of_ble_eq_true rfl) (by omega) (s_X5_allWaysOf hq hsc hL (by omega)) ?_
  refine j_lst9 dX5_mostLikelyMore_33 rfl (by decide) ?_
  refine j_iconst (0) dX5_mostLikelyMore_35 rfl ?_
  refine j_ist11 dX5_mostLikelyMore_36 rfl (by decide) ?_
  exact lp_X5_mostLikelyMore hq hsc hL hcl h hb hg (n + 1) 0 S _ (by omega) (by omega) Kp.rf hw

end Cheat

