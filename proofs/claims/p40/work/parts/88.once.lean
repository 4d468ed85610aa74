/-! what the law does once: isOne, hat, tell, manys, built, laid -/

section Once
variable {a : Nat → Nat} {S : St} {b Ls : Nat} {xs : Nat → Int32}

set_option maxRecDepth 20000 in
theorem s_L_isOne {x : UInt64} (hx : DF x) (h1 : zv x ≤ oneU + 1000 * uu) (h2 : oneU ≤ zv x + 1000 * uu) : Rt a mL_isOne 1 [.double x] S (some (.int 1)) S := by
  have hu := uu_pos
  have d1 := sub_near hx d1_DF.1 (by rw [d1_DF.2]; omega) (by rw [d1_DF.2]; omega)
  rw [d1_DF.2] at d1
  have a1 := abs_DF d1.1
  have c1 := c9_DF.2.1
  have hlt : zv (FP.dsub x FP.dconst1 &&& 0x7fffffffffffffff) < zv c9 := by
    rw [a1.2]
    split <;> omega
  show J _ _ _ _ 0 [_, .null] [] _
  refine j_dld0 dL_isOne_0 ?_
  refine j_dconst1 dL_isOne_1 ?_
  refine j_dsub dL_isOne_2 (d1.1) ?_
  refine j_absD (d1.1) dL_isOne_3 lL_109 (by decide) (by omega) ?_
  refine j_ldc2_wD (v := 4472406533629990549) dL_isOne_6 qL_113 ?_
  refine j_dcmp dL_isOne_9 (a1.1) (c9_DF.1) ?_
  refine j_ifge 17 dL_isOne_10 (by decide) (fun c_10 => absurd c_10 (Int32.not_le.mpr (cz_lt.mpr hlt))) (fun c_10 => ?_)
  refine j_iconst (1) dL_isOne_13 rfl ?_
  refine j_goto 18 dL_isOne_14 (by decide) ?_
  refine j_zret dL_isOne_18 rfl (by decide) ?_
  exact ⟨rfl, rfl⟩

set_option maxRecDepth 20000 in
theorem lp_L_hat (hN : 61 < NC a) {n : Nat} (hl : xl a 61 = n) (hn : n ≤ 8) {m : Nat → Nat} (hm : ∀ i, i < n → S.1 61 i = nI (m i)) : ∀ (fu : Nat) (i : Nat) (w5 : Value), n - i < fu → (i ≤ n) → J a mL_hat 0 (gm a fun r S' => r = some (.int (nI (sumN m n))) ∧ S' = S) 10 [.ref (a 61), .int (nI (sumN m i)), .ref (a 61), .int (nI n), .int (nI i), w5] [] S := by
  intro fu
  induction fu with
  | zero => intro i w5 hk; exact absurd hk (Nat.not_lt_zero _)
  | succ fu ih =>
    intro i w5 hk hi
    refine j_ild4 dL_hat_10 ?_
    refine j_ild3 dL_hat_12 ?_
    refine j_icmpge 33 dL_hat_13 (by decide) (fun c_13 => ?_) (fun c_13 => ?_)
    · have q_13 : i = n := by have := (nI_leI (a := n) (b := i) (by omega) (by omega)).mp c_13; omega
      subst q_13
      refine j_ild1 dL_hat_33 ?_
      refine j_iret dL_hat_34 rfl ?_
      exact ⟨rfl, rfl⟩
    have q_13 : i < n := Nat.not_le.mp (fun z => c_13 ((nI_leI (by omega) (by omega)).mpr z))
    refine j_ald2 dL_hat_16 ?_
    refine j_ild4 dL_hat_17 ?_
    refine j_xald (n := i) hN hl dL_hat_19 rfl q_13 (by omega) ?_
    refine j_top (y := nI (m i)) (hm i q_13) ?_
    refine j_ist5 dL_hat_20 rfl (by decide) ?_
    refine j_ild1 dL_hat_22 ?_
    refine j_ild5 dL_hat_23 ?_
    refine j_iadd dL_hat_25 ?_
    refine j_top (y := nI (sumN m (i + 1))) (nI_add _ _) ?_
    refine j_ist1 dL_hat_26 rfl (by decide) ?_
    refine j_iinc4 (nI (i + 1)) dL_hat_27 (nI_1 i) rfl (by decide) ?_
    refine j_goto 10 dL_hat_30 (by decide) ?_
    exact ih (i + 1) _ (by omega) (by omega)

set_option maxRecDepth 20000 in
theorem s_L_hat (hN : 61 < NC a) {n : Nat} (hl : xl a 61 = n) (hn : n ≤ 8) {m : Nat → Nat} (hm : ∀ i, i < n → S.1 61 i = nI (m i)) : Rt a mL_hat 0 [.ref (a 61)] S (some (.int (nI (sumN m n)))) S := by
  show J _ _ _ _ 0 [_, .null, .null, .null, .null, .null] [] _
  refine j_iconst (0) dL_hat_0 rfl ?_
  refine j_ist1 dL_hat_1 rfl (by decide) ?_
  refine j_ald0 dL_hat_2 ?_
  refine j_ast2 dL_hat_3 rfl (by decide) ?_
  refine j_ald2 dL_hat_4 ?_
  refine j_xlen hN hl dL_hat_5 rfl ?_
  refine j_ist3 dL_hat_6 rfl (by decide) ?_
  refine j_iconst (0) dL_hat_7 rfl ?_
  refine j_ist4 dL_hat_8 rfl (by decide) ?_
  exact lp_L_hat hN hl hn hm (n + 1) 0 _ (by omega) (by omega)

theorem FC.kp0 {S S1 S2 : St} {i : Nat} {t : Nat → Nat} (hk : Kp [2] S S1) (e : S2 = uI (uI S1 14 i (nI (t i))) 0 8 (nI (i + 1))) : Kp [2] S S2 := by
  rw [e]
  exact Kp_uI (Kp_uI hk (by show 2 ∈ [2]; decide)) (by show 2 ∈ [2]; decide)
theorem FC.feedT {S1 : St} {i : Nat} {t : Nat → Nat} (h : FC i t S1) (hl : i < 120) (hx : t i < 256) : FC (i + 1) t (uI (uI S1 14 i (nI (t i))) 0 8 (nI (i + 1))) := by
  have := FC.feed h hl hx
  have e : (fun k => if k = i then t i else t k) = t := by
    funext k
    by_cases hk : k = i
    · rw [if_pos hk, hk]
    · rw [if_neg hk]
  rw [e] at this
  exact this
set_option maxRecDepth 20000 in
theorem lp_L_tell (hN : 61 < NC a) {n : Nat} (hl : xl a 61 = n) (hn : n ≤ 120) {t : Nat → Nat} (hm : ∀ i, i < n → S.1 61 i = nI (t i)) (ht : ∀ i, t i < 256) {as : Nat → Nat} {ld : Nat → Int32} {l : Nat} (hd : DCb as ld l S) (ha : ∀ i, i < 8 → as i ≤ 2 ^ 20) : ∀ (fu : Nat) (i : Nat) (S1 : St), n - i < fu → (i ≤ n) → (FC i t S1) → (Kp [2] S S1) → J a mL_tell 3 (gm a fun r S' => ∃ v, r = some (.int v) ∧ v = 1 ∧ FC n t S' ∧ Kp [2] S S') 2 [.ref (a 0), .ref (a 61), .int (nI n), .int (nI i)] [] S1 := by
  intro fu
  induction fu with
  | zero => intro i S1 hk; exact absurd hk (Nat.not_lt_zero _)
  | succ fu ih =>
    intro i S1 hk hi hF hK
    refine j_ild3 dL_tell_2 ?_
    refine j_ild2 dL_tell_3 ?_
    refine j_icmpge 28 dL_tell_4 (by decide) (fun c_4 => ?_) (fun c_4 => ?_)
    · have q_4 : i = n := by have := (nI_leI (a := n) (b := i) (by omega) (by omega)).mp c_4; omega
      subst q_4
      refine j_ald0 dL_tell_28 ?_
      refine j_iconst (2) dL_tell_29 rfl ?_
      refine j_cV1 dL_tell_30 kX7_count lL_13 rfl (by decide) rfl (Nat.le_of_ble_eq_true rfl) (Nat.le_of_ble_eq_true rfl) (by omega) (s_X7_count (x := 2) (hd.kp hK (by decide)) ha) ?_
      refine j_top (y := nI i) hF.1 ?_
      refine j_ild2 dL_tell_33 ?_
      refine j_icmpne 41 dL_tell_34 (by decide) (fun c_34 => absurd c_34 (not_not_intro rfl)) (fun c_34 => ?_)
      refine j_iconst (1) dL_tell_37 rfl ?_
      refine j_goto 42 dL_tell_38 (by decide) ?_
      refine j_zret dL_tell_42 rfl (by decide) ?_
      exact ⟨1, rfl, rfl, hF, hK⟩
    have q_4 : i < n := Nat.not_le.mp (fun z => c_4 ((nI_leI (by omega) (by omega)).mpr z))
    refine j_ald0 dL_tell_7 ?_
    refine j_ald1 dL_tell_8 ?_
    refine j_ild3 dL_tell_9 ?_
    refine j_xald (n := i) hN hl dL_tell_10 rfl q_4 (by omega) ?_
    refine j_top (y := nI (t i)) ((hK.i (show rg 61 i ∉ [2] from (by show ¬ (0 ∈ [2]); decide))).trans (hm i q_4)) ?_
    refine j_cV1 dL_tell_11 kX7_feed lL_7 rfl (by decide) rfl (Nat.le_of_ble_eq_true rfl) (Nat.le_of_ble_eq_true rfl) (by omega) (s_X7_feed hF (by omega) (ht i)) ?_
    refine j_ild3 dL_tell_14 ?_
    refine j_iconst (1) dL_tell_15 rfl ?_
    refine j_iadd dL_tell_16 ?_
    refine j_top (y := nI (i + 1)) (nI_1 i) ?_
    refine j_icmpeq 22 dL_tell_17 (by decide) (fun c_17 => ?_) (fun c_17 => absurd (rfl) c_17)
    refine j_iinc3 (nI (i + 1)) dL_tell_22 (nI_1 i) rfl (by decide) ?_
    refine j_goto 2 dL_tell_25 (by decide) ?_
    exact ih (i + 1) _ (by omega) (by omega) (hF.feedT (by omega) (ht i)) (FC.kp0 hK rfl)

set_option maxRecDepth 20000 in
theorem s_L_tell (hN : 61 < NC a) {n : Nat} (hl : xl a 61 = n) (hn : n ≤ 120) {t : Nat → Nat} (hm : ∀ i, i < n → S.1 61 i = nI (t i)) (ht : ∀ i, t i < 256) {as : Nat → Nat} {ld : Nat → Int32} {l : Nat} (hd : DCb as ld l S) (ha : ∀ i, i < 8 → as i ≤ 2 ^ 20) (hF : FC 0 t S) : Rqi a mL_tell 3 [.ref (a 0), .ref (a 61), .int (nI n)] S (fun v S' => v = 1 ∧ FC n t S' ∧ Kp [2] S S') := by
  show J _ _ _ _ 0 [_, _, _, .null] [] _
  refine j_iconst (0) dL_tell_0 rfl ?_
  refine j_ist3 dL_tell_1 rfl (by decide) ?_
  exact lp_L_tell hN hl hn hm ht hd ha (n + 1) 0 S (by omega) (by omega) hF Kp.rf

abbrev gA (a : Nat → Nat) (b Ls : Nat) (xs : Nat → Int32) (q n : Nat) (Q : St → Prop) : GG := (0 + 1, 0 + n, (fun R s => (EX a b Ls xs s ∧ 1 ≤ R.cells ∧ n ≤ R.slots) ∧ EX (aX a q n) b Ls xs s ∧ s.heap.size ≤ q), fun below args s D => MQ below (PQA D a n Q) args s 1 n (AA a))
theorem hE_N {a : Nat → Nat} {b Ls : Nat} {xs : Nat → Int32} {mc ms : Nat} {Qc : DD → Array Value → State → Outcome → State → Prop} : HE (gN a b Ls xs mc ms Qc) a b Ls xs := fun _ _ h => h.1
theorem hE_A {a : Nat → Nat} {b Ls : Nat} {xs : Nat → Int32} {q n : Nat} {Q : St → Prop} : HE (gA a b Ls xs q n Q) (aX a q n) b Ls xs := fun _ _ h => h.2.1
def mnP (Ls : Nat) (xs : Nat → Int32) (n : Nat) (S S1 : St) : Prop := Kp [0] S S1 ∧ ∀ i, i < n → S1.1 61 i = nI (mnyF Ls xs i)
theorem mnP_step {Ls : Nat} {xs : Nat → Int32} {i : Nat} {S S1 : St} (h : mnP Ls xs i S S1) : mnP Ls xs (i + 1) S (uI S1 61 i (nI (mnyF Ls xs i))) := by
  refine ⟨Kp_uI h.1 (by show 0 ∈ [0]; decide), fun k hk => ?_⟩
  rw [uI_at]
  by_cases e : k = i
  · rw [if_pos ⟨rfl, e⟩, e]
  · rw [if_neg (fun z => e z.2)]
    exact h.2 k (by omega)
set_option maxRecDepth 20000 in
theorem lp_L_manys (hL : Ls ≤ 260) {q n : Nat} (hn : n ≤ 7) : ∀ (fu : Nat) (i : Nat) (S1 : St), n - i < fu → (i ≤ n) → (mnP Ls xs i S S1) → J (aX a q n) mL_manys 3 (gA a b Ls xs q n (mnP Ls xs n S)) 9 [.ref b, .ref (aX a q n 61), .int (nI i)] [] S1 := by
  intro fu
  induction fu with
  | zero => intro i S1 hk; exact absurd hk (Nat.not_lt_zero _)
  | succ fu ih =>
    intro i S1 hk hi hM
    refine j_ild2 dL_manys_9 ?_
    refine j_ald1 dL_manys_10 ?_
    refine j_xlen (by rw [aX_NC]; decide) aX_xl dL_manys_11 rfl ?_
    refine j_icmpge 29 dL_manys_12 (by decide) (fun c_12 => ?_) (fun c_12 => ?_)
    · have q_12 : i = n := by have := (nI_leI (a := n) (b := i) (by omega) (by omega)).mp c_12; omega
      subst q_12
      refine j_ald1 dL_manys_29 ?_
      exact j_aretN (fun R s h => h.2.2) (Nat.le_refl _) (by omega) dL_manys_30 rfl hM
    have q_12 : i < n := Nat.not_le.mp (fun z => c_12 ((nI_leI (by omega) (by omega)).mpr z))
    refine j_ald1 dL_manys_15 ?_
    refine j_ild2 dL_manys_16 ?_
    refine j_ald0 dL_manys_17 ?_
    refine j_ild2 dL_manys_18 ?_
    refine j_xcS2 hE_A dL_manys_19 kL_many zL_many lL_55 (Nat.le_of_ble_eq_true rfl) (Nat.le_of_ble_eq_true rfl) (by omega) (s_L_many hL (n := i) (by omega)) ?_
    refine j_xast (n := i) (by rw [aX_NC]; decide) aX_xl dL_manys_22 rfl q_12 (by omega) ?_
    refine j_iinc2 (nI (i + 1)) dL_manys_23 (nI_1 i) rfl (by decide) ?_
    refine j_goto 9 dL_manys_26 (by decide) ?_
    exact ih (i + 1) _ (by omega) (by omega) (mnP_step hM)

theorem s_L_manys (hL : Ls ≤ 260) (h0 : a 300 = 0) (hc : S.2.2.1 < 61 ∧ S.2.2.2 < 61) : J a mL_manys 3 (gN a b Ls xs 1 (ncF Ls xs) (fun D => PQA D a (ncF Ls xs) (mnP Ls xs (ncF Ls xs) S))) 0 [.ref b, .null, .null] [] S := by
  have hn := ncF_lt Ls xs
  refine j_ald0 dL_manys_0 ?_
  refine j_xcS1 hE_N dL_manys_1 kL_cards zL_cards lL_47 (Nat.le_of_ble_eq_true rfl) (Nat.le_of_ble_eq_true rfl) (by omega) (s_L_cards hL) ?_
  refine j_newI (len := ncF Ls xs) h0 hc (fun _ _ h => h.1) (fun R s h => ⟨by have := h.2.1; show 0 + 1 ≤ _; omega, by have := h.2.2; show 0 + _ ≤ _; omega⟩) dL_manys_4 (nI_clamp (by omega)) (nI_pos (by omega)) (by omega) (fun q => ?_)
  refine j_ast1 dL_manys_6 rfl (by decide) ?_
  refine j_iconst (0) dL_manys_7 rfl ?_
  refine j_ist2 dL_manys_8 rfl (by decide) ?_
  refine lp_L_manys hL (by omega) (ncF Ls xs + 1) 0 _ (by omega) (by omega) ⟨?_, fun i hi => absurd hi (Nat.not_lt_zero _)⟩
  exact Kp_sI Kp.rf (fun k => by show 0 ∈ [0]; decide)

end Once
