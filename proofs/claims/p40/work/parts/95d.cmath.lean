/-! a colour's chances as numbers -/
def Dn (B : Nat) : Nat := if B = 0 then 1 else B
theorem Dn_pos (B : Nat) : 0 < Dn B := by
  unfold Dn
  split <;> omega
theorem Dn_le (B : Nat) : B ≤ Dn B := by
  unfold Dn
  split <;> omega
theorem dqs {A B : Nat} (hA : A ≤ B) (hB : B < 2 ^ 53) : Sp (dq A B) A (Dn B) 1 := by
  unfold Dn
  by_cases h : B = 0
  · have hA0 : A = 0 := by omega
    subst hA0
    rw [if_pos h]
    exact q_sp (dq_0 (Or.inl rfl)) (by decide) (Nat.zero_le _)
  · rw [if_neg h]
    exact q_sp (dq_Qd (by omega) hB (Nat.pos_of_ne_zero h)) (Nat.pos_of_ne_zero h) (Nat.le_trans hA (Nat.le_mul_of_pos_left _ (by decide)))
theorem sps {f : Nat → Nat} {B k : Nat} {x y : UInt64} (hx : Sp x (sumN f k) (Dn B) (2 * k)) (hy : Sp y (f k) (Dn B) 1) (hf : ∀ i, i < k → f i ≤ B) (hfk : f k ≤ B) (hk : k ≤ 8) : Sp (FP.dadd x y) (sumN f (k + 1)) (Dn B) (2 * (k + 1)) := by
  have hd := Dn_le B
  have h1 : sumN f k ≤ k * B := sumN_le k hf
  have h2 : k * B ≤ 8 * Dn B := Nat.mul_le_mul hk hd
  have := sp_add hx hy (Dn_pos B) (by omega) (by omega) (by omega)
  rw [show 2 * (k + 1) = 2 * k + 1 + 1 by omega]
  exact this
theorem sp_is0 {x : UInt64} {A B e : Nat} (h : Sp x A (Dn B) e) (h0 : A = 0) : zv x = 0 := h.2 h0
theorem sp_is1 {x : UInt64} {B e : Nat} (h : Sp x B (Dn B) e) (h0 : 0 < B) (he : e ≤ 1000) : zv x ≤ oneU + 1000 * uu ∧ oneU ≤ zv x + 1000 * uu := by
  have hu := uu_pos
  have e1 : Dn B = B := by
    unfold Dn
    rw [if_neg (by omega)]
  rw [e1] at h
  have h1 := ap_1 h.1 h0
  have e2 : (e : Int) * uu ≤ 1000 * uu := Int.mul_le_mul_of_nonneg_right (by omega) (by omega)
  constructor <;> omega
theorem p_gt {A B : Nat} (hA : A ≤ B) (hB : B ≤ 2 ^ 42) (h : 0 < A) : 0 < zv (dq A B) := q_pos' (dq_Qd (by omega) (by omega) (by omega)) h (by omega) hB
theorem p_z {A B : Nat} (h : A = 0) : zv (dq A B) = 0 := q_zero (dq_0 (Or.inl h)) (by decide)
theorem p_c0 {A B : Nat} (hA : A ≤ B) (hB : B ≤ 2 ^ 42) : cz (dq A B) 0 ≤ 0 ↔ A = 0 := by
  rw [← Int32.not_lt, cz_gt, d0_DF.2]
  constructor
  · intro h
    exact Nat.eq_zero_of_not_pos (fun q => h (p_gt hA hB q))
  · intro h
    rw [p_z h]
    exact Int.lt_irrefl _
/-- one more of a card makes the colour likelier -/
theorem pp_lt {A W H : Nat} (hH : H ≤ 63) (hA : A ≤ 60 * H) (hW : W ≤ 60 * (H + 1)) (h : A * (60 * (H + 1)) < W * (if H = 0 then 1 else 60 * H)) : zv (dq A (60 * H)) < zv (dq W (60 * (H + 1))) := by
  by_cases h0 : H = 0
  · rw [p_z (by omega)]
    refine p_gt hW (by omega) (Nat.pos_of_ne_zero (fun z => ?_))
    rw [z, Nat.zero_mul] at h
    omega
  · rw [if_neg h0] at h
    have h4 : 60 * H * (60 * (H + 1)) ≤ 3780 * 3840 := Nat.mul_le_mul (by omega) (by omega)
    exact ap_lt (dq_Ap (by omega) (by omega) (by omega) (by omega)) (dq_Ap (by omega) (by omega) (by omega) (by omega)) (by omega) (by omega) h (by omega)
theorem p_lt1 {A W H : Nat} (hH : H ≤ 63) (hA : A ≤ 60 * H) (hW : W ≤ 60 * (H + 1)) (h : A * (60 * (H + 1)) < W * (if H = 0 then 1 else 60 * H)) : zv (dq A (60 * H)) < oneU := by
  have hu := uu_pos
  have ho : 0 < oneU := Int.mul_pos (by decide) uu_pos
  by_cases h0 : H = 0
  · rw [p_z (by omega)]
    exact ho
  · rw [if_neg h0] at h
    have h5 : W * (60 * H) ≤ 60 * (H + 1) * (60 * H) := Nat.mul_le_mul_right _ hW
    have h6 : A < 60 * H := by
      refine Nat.lt_of_mul_lt_mul_right (a := 60 * (H + 1)) ?_
      rw [Nat.mul_comm (60 * H)]
      omega
    have h7 : Ap FP.dconst1 1 1 0 := ⟨d1_DF.1, by rw [d1_DF.2]; simp, by rw [d1_DF.2]; simp⟩
    have := ap_lt (dq_Ap (A := A) (B := 60 * H) (by omega) (by omega) (by omega) (by omega)) h7 (by omega) (by omega) (by omega) (by omega)
    rw [d1_DF.2] at this
    exact this
section Cm
variable {v : Nat → Nat → Nat} {bb : Option (List Line)} {n c : Nat}
theorem lk_b (hh : hatN v n ≤ 63) : ∀ k, lkA v bb n c k ≤ 63 * 60 ^ k
  | 0 => by
    rw [lk_0]
    omega
  | k + 1 => by
    have := lk_b hh k
    have h2 := lk_le (v := v) (b := bb) (n := n) c k
    rw [Nat.pow_succ]
    omega
theorem lk_b6 (hh : hatN v n ≤ 63) {k : Nat} (hk : k ≤ 6) : lkA v bb n c k ≤ 63 * 60 ^ 6 := Nat.le_trans (lk_b hh k) (Nat.mul_le_mul_left _ (Nat.pow_le_pow_right (by decide) hk))
abbrev agD (v : Nat → Nat → Nat) (bb : Option (List Line)) (n c k : Nat) : UInt64 := dq (lkA v bb n c (k + 1)) (lkA v bb n c k * 60)
theorem ag_in (hh : hatN v n ≤ 63) {k : Nat} (hk : k ≤ 5) : DF (agD v bb n c k) ∧ 0 ≤ zv (agD v bb n c k) ∧ zv (agD v bb n c k) ≤ oneU := by
  have h1 := lk_b6 (bb := bb) (c := c) hh (show k ≤ 6 by omega)
  have h2 := lk_b6 (bb := bb) (c := c) hh (show k + 1 ≤ 6 by omega)
  have h := dq_in (A := lkA v bb n c (k + 1)) (B := lkA v bb n c k * 60) (by omega) (by omega) (lk_le c k)
  exact ⟨h.1, h.2.1, h.2.2.1⟩
theorem ag_p (hh : hatN v n ≤ 63) (hM : 0 < lkA v bb n c 1) {k : Nat} (hk : k ≤ 5) : zv (dq (lkA v bb n c 1) (60 * hatN v n)) ≤ zv (agD v bb n c k) + 2 * uu := by
  have h1 := lk_b6 (bb := bb) (c := c) hh (show k ≤ 6 by omega)
  have h2 := lk_b6 (bb := bb) (c := c) hh (show k + 1 ≤ 6 by omega)
  have h3 := lk1_hat (v := v) (b := bb) (n := n) c
  have h4 := lk_pos (k := k) hM
  have h5 := lk_chain hM k
  have h6 := lk_le (v := v) (b := bb) (n := n) c k
  refine dq_le (by omega) (by omega) (by omega) (by omega) (by omega) (by omega) (by omega) (by omega) ?_
  rw [← Nat.mul_assoc, Nat.mul_comm 60, ← Nat.mul_assoc]
  exact Nat.mul_le_mul_right 60 h5
theorem ag_was (hh : hatN v n ≤ 63) (hM : 0 < lkA v bb n c 1) {k : Nat} (hk : k ≤ 4) : zv (agD v bb n c k) ≤ zv (agD v bb n c (k + 1)) + 2 * uu := by
  have h1 := lk_b6 (bb := bb) (c := c) hh (show k ≤ 6 by omega)
  have h2 := lk_b6 (bb := bb) (c := c) hh (show k + 1 ≤ 6 by omega)
  have h3 := lk_b6 (bb := bb) (c := c) hh (show k + 1 + 1 ≤ 6 by omega)
  have h4 := lk_pos (k := k) hM
  have h5 := lk_pos (k := k + 1) hM
  have h6 := lk_le (v := v) (b := bb) (n := n) c k
  have h7 := lk_le (v := v) (b := bb) (n := n) c (k + 1)
  have h8 := lk_cs (v := v) (b := bb) (n := n) c k
  refine dq_le (by omega) (by omega) (by omega) (by omega) (by omega) (by omega) (by omega) (by omega) ?_
  rw [← Nat.mul_assoc, ← Nat.mul_assoc]
  refine Nat.mul_le_mul_right 60 ?_
  rw [Nat.mul_comm (lkA v bb n c (k + 1 + 1))]
  exact h8
/-- the chance before, at the next showing -/
def WI (v : Nat → Nat → Nat) (bb : Option (List Line)) (n c k : Nat) (x : UInt64) : Prop := DF x ∧ 0 ≤ zv x ∧ zv x ≤ oneU ∧ (0 < lkA v bb n c 1 → zv x ≤ zv (agD v bb n c k) + 2 * uu)
theorem WI_0 (hh : hatN v n ≤ 63) : WI v bb n c 1 0 := by
  have ho : 0 < oneU := Int.mul_pos (by decide) uu_pos
  have hu := uu_pos
  have h := ag_in (bb := bb) (c := c) hh (show 1 ≤ 5 by decide)
  refine ⟨d0_DF.1, by rw [d0_DF.2]; exact Int.le_refl _, by rw [d0_DF.2]; omega, fun _ => ?_⟩
  rw [d0_DF.2]
  omega
theorem WI_s (hh : hatN v n ≤ 63) {k : Nat} (hk : k ≤ 4) : WI v bb n c (k + 1) (agD v bb n c k) := by
  have h := ag_in (bb := bb) (c := c) hh (show k ≤ 5 by omega)
  exact ⟨h.1, h.2.1, h.2.2, fun hM => ag_was hh hM hk⟩
theorem neg2_lt {n : Nat} (hn : n ≤ 8) : (-2 : Int32) < nI n := Int32.lt_of_lt_of_le (by decide) (nI_pos' (by omega))
theorem up2_back {i x : Nat} : up2 (up2 v 0 i x) 0 i (v 0 i) = v := by
  funext w j
  unfold up2
  split
  · next h => rw [h.1, h.2]
  · rfl
theorem up2_at {i x : Nat} : up2 v 0 i x 0 i = x := by
  unfold up2
  rw [if_pos ⟨rfl, rfl⟩]
end Cm
