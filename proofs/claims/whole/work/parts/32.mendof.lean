/-! mend, of, card: both sides -/
abbrev CardOk (x y z : Int32) : Prop := (0 ≤ x ∧ x < 6) ∧ (0 ≤ y ∧ y < 6) ∧ (0 ≤ z ∧ z < 10)
def cX (m : Int32) : Int32 := m / 100
def cY (m : Int32) : Int32 := m / 10 - m / 10 / 10 * 10
def cZ (m : Int32) : Int32 := m - m / 10 * 10
abbrev ThOk (n : Nat) (x y : Int32) : Prop := (0 ≤ y ∧ y < 12) ∧ (0 ≤ x ∧ x < nI (numN n y.toNatClampNeg))
def addV (v : Nat → Nat → Nat) (n x y z : Nat) : Nat → Nat → Nat := fun w i => if i = n then (if w = 0 then z else if w = 1 then x else if w = 2 then y else v w i) else v w i
theorem th_iff {x : Int32} {w n c : Nat} (hw : w < 12) (e : numN n w = c) : (0 ≤ x ∧ x < nI c) ↔ ThOk n x (nI w) := by
  unfold ThOk
  rw [nI_clamp (by omega), e]
  exact ⟨fun q => ⟨nI_in' hw (by decide), q⟩, fun q => q.2⟩
theorem rng {x : Int32} {l t : Nat} (hl : l ≤ t) (ht : t < 2 ^ 30) (h : nI l ≤ x ∧ x ≤ nI t) : ∃ w, l ≤ w ∧ w ≤ t ∧ x = nI w := by
  have h0 : 0 ≤ x := by
    have h1 := h.1
    rw [Int32.le_iff_toInt_le, nI_toInt (by omega)] at h1
    rw [Int32.le_iff_toInt_le, Int32.toInt_zero]
    omega
  obtain ⟨w, hw, rfl⟩ := nI_ge0 h0
  exact ⟨w, (nI_leI (by omega) hw).mp h.1, (nI_leI hw (by omega)).mp h.2, rfl⟩
theorem addV_bound {n x y z : Nat} {v : Nat → Nat → Nat} (h : ∀ w, w < 12 → ∀ i, i < 8 → v w i ≤ mostN w) (hx : x < 6) (hy : y < 6) (hz : z < 10) : ∀ w, w < 12 → ∀ i, i < 8 → addV v n x y z w i ≤ mostN w := by
  intro w hw i hi
  unfold addV
  split
  · by_cases e0 : w = 0
    · subst e0; simp [mostN]; omega
    · by_cases e1 : w = 1
      · subst e1; simp [mostN]; omega
      · by_cases e2 : w = 2
        · subst e2; simp [mostN]; omega
        · simp only [e0, e1, e2, if_false]; exact h w hw i hi
  · exact h w hw i hi
theorem TC.add {n x y z : Nat} {v : Nat → Nat → Nat} {S : St} (h : TC n v S) (h8 : n < 8) (hx : x < 6) (hy : y < 6) (hz : z < 10) : TC (n + 1) (addV v n x y z) (uI (uI (uI (uI S 17 n (nI x)) 18 n (nI y)) 16 n (nI z)) 1 1 (nI (n + 1))) := by
  refine ⟨by simp [uI_at], by omega, fun w hw i hi => ?_, addV_bound h.2.2.2 hx hy hz⟩
  simp only [uI_at]
  rw [if_neg (by omega)]
  unfold addV
  have := h.2.2.1 w hw i hi
  rcases w12 hw with rfl | rfl | rfl | rfl | rfl | rfl | rfl | rfl | rfl | rfl | rfl | rfl <;> by_cases e : i = n <;> simp [e] at this ⊢ <;> exact this
theorem HC.add {n k u : Nat} {h : Nat → Nat → Nat} {S : St} {x y z t : Int32} (hh : HC k u h S) : HC k u h (uI (uI (uI (uI S 17 n x) 18 n y) 16 n z) 1 1 t) := by
  obtain ⟨q, h1, h2, h3, h4, h5, h6⟩ := hh
  refine ⟨q, h1, by simp [uI_at, h2], by simp [uI_at, h3], by simp [uI_at, h4], h5, fun i hi f hf => ?_⟩
  simp only [uI_at]
  repeat rw [if_neg (by omega)]
  exact h6 i hi f hf
theorem TR.add {n x y z : Nat} {v : Nat → Nat → Nat} {S : St} (h : TR n v S) (h8 : n < 8) (hx : x < 6) (hy : y < 6) (hz : z < 10) : TR (n + 1) (addV v n x y z) (uI (uI (uI (uI (uI S 63 n (nI x)) 64 n (nI y)) 62 n (nI z)) 65 n 0) 61 1 (nI (n + 1))) := by
  refine ⟨by simp [uI_at], by omega, fun w hw i hi => ?_, addV_bound h.2.2.2 hx hy hz⟩
  have := h.2.2.1 w hw i hi
  unfold addV
  rcases w12 hw with rfl | rfl | rfl | rfl | rfl | rfl | rfl | rfl | rfl | rfl | rfl | rfl <;> by_cases e : i = n <;> simp [e, uI_at, rj, rk] at this ⊢ <;> exact this
theorem HR.add {n k u : Nat} {h : Nat → Nat → Nat} {S : St} {x y z t s : Int32} (hh : HR k u h S) : HR k u h (uI (uI (uI (uI (uI S 63 n x) 64 n y) 62 n z) 65 n s) 61 1 t) := by
  refine ⟨by simp [uI_at, hh.1], by simp [uI_at, hh.2.1], hh.2.2.1, fun i hi f hf => ?_⟩
  simp only [uI_at]
  have := hj_in hf
  repeat rw [if_neg (by omega)]
  exact hh.2.2.2 i hi f hf
def ofV (n : Nat) (v : Nat → Nat → Nat) (as led : Nat → Int32) (lat x y : Int32) : Int32 :=
  if 0 ≤ y ∧ y < 12 then (if 0 ≤ x ∧ x < nI (numN n y.toNatClampNeg) then nI (v y.toNatClampNeg x.toNatClampNeg) else -1)
  else if y = 12 then (if 0 ≤ x ∧ x < nI n then as x.toNatClampNeg else -1)
  else if y = 13 then (if 0 ≤ x ∧ x < 6 then led x.toNatClampNeg else -1)
  else if y = 14 then (if x = 0 then lat else -1)
  else if y = 15 then (if x = 0 then nI (sumN (v 0) n) else -1)
  else -1
section MendOf
variable {a : Nat → Nat} {S : St} {n k u : Nat} {v h : Nat → Nat → Nat}

set_option maxRecDepth 20000 in
theorem s_X8_isThing {x y : Int32} (h : TR n v S) : Rt a mX8_isThing 2 [.ref (a 61), .int x, .int y] S (some (.int (bi (ThOk n x y)))) S := by
  show J _ _ _ _ 0 [_, _, _] [] _
  refine j_ild2 dX8_isThing_0 ?_
  refine j_iconst (0) dX8_isThing_1 rfl ?_
  refine j_iconst (2) dX8_isThing_2 rfl ?_
  refine j_cS3 dX8_isThing_3 kX8_in zX8_in (Or.inl l8_148) (Nat.le_of_ble_eq_true rfl) (Nat.le_of_ble_eq_true rfl) (by omega) (s_X8_in) ?_
  refine j_ifeqB 15 dX8_isThing_6 (by decide) (fun c_6 => ?_) (fun c_6 => ?_)
  · refine j_ild2 dX8_isThing_15 ?_
    refine j_iconst (3) dX8_isThing_16 rfl ?_
    refine j_iconst (4) dX8_isThing_17 rfl ?_
    refine j_cS3 dX8_isThing_18 kX8_in zX8_in (Or.inl l8_148) (Nat.le_of_ble_eq_true rfl) (Nat.le_of_ble_eq_true rfl) (by omega) (s_X8_in) ?_
    refine j_ifeqB 31 dX8_isThing_21 (by decide) (fun c_21 => ?_) (fun c_21 => ?_)
    · refine j_ild2 dX8_isThing_31 ?_
      refine j_iconst (5) dX8_isThing_32 rfl ?_
      refine j_bipush (7) dX8_isThing_33 rfl ?_
      refine j_cS3 dX8_isThing_35 kX8_in zX8_in (Or.inl l8_148) (Nat.le_of_ble_eq_true rfl) (Nat.le_of_ble_eq_true rfl) (by omega) (s_X8_in) ?_
      refine j_ifeqB 48 dX8_isThing_38 (by decide) (fun c_38 => ?_) (fun c_38 => ?_)
      · refine j_ild2 dX8_isThing_48 ?_
        refine j_bipush (8) dX8_isThing_49 rfl ?_
        refine j_icmpne 61 dX8_isThing_51 (by decide) (fun c_51 => ?_) (fun c_51 => ?_)
        · refine j_ild2 dX8_isThing_61 ?_
          refine j_bipush (11) dX8_isThing_62 rfl ?_
          refine j_icmpne 74 dX8_isThing_64 (by decide) (fun c_64 => ?_) (fun c_64 => ?_)
          · refine j_ild2 dX8_isThing_74 ?_
            refine j_bipush (9) dX8_isThing_75 rfl ?_
            refine j_bipush (10) dX8_isThing_77 rfl ?_
            refine j_cS3 dX8_isThing_79 kX8_in zX8_in (Or.inl l8_148) (Nat.le_of_ble_eq_true rfl) (Nat.le_of_ble_eq_true rfl) (by omega) (s_X8_in) ?_
            refine j_ifeqB 93 dX8_isThing_82 (by decide) (fun c_82 => ?_) (fun c_82 => ?_)
            · refine j_iconst (0) dX8_isThing_93 rfl ?_
              refine j_zret dX8_isThing_94 rfl (by decide) ?_
              exact ⟨by
                rw [bi_f (fun q => by
                  obtain ⟨w, hw, rfl⟩ := in_nI (n := 12) (by decide) q.1
                  rcases w12 hw with rfl | rfl | rfl | rfl | rfl | rfl | rfl | rfl | rfl | rfl | rfl | rfl
                  · exact c_6 (by decide)
                  · exact c_6 (by decide)
                  · exact c_6 (by decide)
                  · exact c_21 (by decide)
                  · exact c_21 (by decide)
                  · exact c_38 (by decide)
                  · exact c_38 (by decide)
                  · exact c_38 (by decide)
                  · exact c_51 (by decide)
                  · exact c_82 (by decide)
                  · exact c_82 (by decide)
                  · exact c_64 (by decide))], rfl⟩
            refine j_ild1 dX8_isThing_85 ?_
            refine j_ifne 93 dX8_isThing_86 (by decide) (fun c_86 => ?_) (fun c_86 => ?_)
            · refine j_iconst (0) dX8_isThing_93 rfl ?_
              refine j_zret dX8_isThing_94 rfl (by decide) ?_
              exact ⟨by
                obtain ⟨w, hl, hr, rfl⟩ := rng (l := 9) (t := 10) (by decide) (by decide) c_82
                have e : numN n w = 1 := by rcases (show w = 9 ∨ w = 10 by omega) with rfl | rfl <;> rfl
                rw [bi_f (fun q => c_86 (by
                  have q2 := (th_iff (n := n) (w := w) (by omega) e).mpr q
                  obtain ⟨j, hj, rfl⟩ := in_nI (n := 1) (by decide) q2
                  rw [show j = 0 by omega]; rfl))], rfl⟩
            refine j_iconst (1) dX8_isThing_89 rfl ?_
            refine j_goto 94 dX8_isThing_90 (by decide) ?_
            refine j_zret dX8_isThing_94 rfl (by decide) ?_
            exact ⟨by
              obtain ⟨w, hl, hr, rfl⟩ := rng (l := 9) (t := 10) (by decide) (by decide) c_82
              have e : numN n w = 1 := by rcases (show w = 9 ∨ w = 10 by omega) with rfl | rfl <;> rfl
              rw [bi_t ((th_iff (n := n) (w := w) (by omega) e).mp (by rw [Classical.not_not.mp c_86]; decide))], rfl⟩
          refine j_ild1 dX8_isThing_67 ?_
          refine j_iconst (0) dX8_isThing_68 rfl ?_
          refine j_iconst (2) dX8_isThing_69 rfl ?_
          refine j_cS3 dX8_isThing_70 kX8_in zX8_in (Or.inl l8_148) (Nat.le_of_ble_eq_true rfl) (Nat.le_of_ble_eq_true rfl) (by omega) (s_X8_in) ?_
          refine j_zret dX8_isThing_73 rfl (bi_01 _) ?_
          exact ⟨by
            rw [Classical.not_not.mp c_64]
            exact congrArg (fun q => some (Value.int q)) (bi_iff ((and_congr Iff.rfl (le_lt (c := 2) (by decide))).trans (th_iff (n := n) (w := 11) (c := 2 + 1) (by decide) rfl))), rfl⟩
        refine j_ild1 dX8_isThing_54 ?_
        refine j_iconst (0) dX8_isThing_55 rfl ?_
        refine j_iconst (5) dX8_isThing_56 rfl ?_
        refine j_cS3 dX8_isThing_57 kX8_in zX8_in (Or.inl l8_148) (Nat.le_of_ble_eq_true rfl) (Nat.le_of_ble_eq_true rfl) (by omega) (s_X8_in) ?_
        refine j_zret dX8_isThing_60 rfl (bi_01 _) ?_
        exact ⟨by
          rw [Classical.not_not.mp c_51]
          exact congrArg (fun q => some (Value.int q)) (bi_iff ((and_congr Iff.rfl (le_lt (c := 5) (by decide))).trans (th_iff (n := n) (w := 8) (c := 5 + 1) (by decide) rfl))), rfl⟩
      refine j_ild1 dX8_isThing_41 ?_
      refine j_iconst (0) dX8_isThing_42 rfl ?_
      refine j_iconst (3) dX8_isThing_43 rfl ?_
      refine j_cS3 dX8_isThing_44 kX8_in zX8_in (Or.inl l8_148) (Nat.le_of_ble_eq_true rfl) (Nat.le_of_ble_eq_true rfl) (by omega) (s_X8_in) ?_
      refine j_zret dX8_isThing_47 rfl (bi_01 _) ?_
      exact ⟨by
        obtain ⟨w, hl, hr, rfl⟩ := rng (l := 5) (t := 7) (by decide) (by decide) c_38
        exact congrArg (fun q => some (Value.int q)) (bi_iff ((and_congr Iff.rfl (le_lt (c := 3) (by decide))).trans (th_iff (n := n) (w := w) (c := 3 + 1) (by omega) (by rcases (show w = 5 ∨ w = 6 ∨ w = 7 by omega) with rfl | rfl | rfl <;> rfl)))), rfl⟩
    refine j_ild1 dX8_isThing_24 ?_
    refine j_iconst (0) dX8_isThing_25 rfl ?_
    refine j_iconst (3) dX8_isThing_26 rfl ?_
    refine j_cS3 dX8_isThing_27 kX8_in zX8_in (Or.inl l8_148) (Nat.le_of_ble_eq_true rfl) (Nat.le_of_ble_eq_true rfl) (by omega) (s_X8_in) ?_
    refine j_zret dX8_isThing_30 rfl (bi_01 _) ?_
    exact ⟨by
      obtain ⟨w, hl, hr, rfl⟩ := rng (l := 3) (t := 4) (by decide) (by decide) c_21
      exact congrArg (fun q => some (Value.int q)) (bi_iff ((and_congr Iff.rfl (le_lt (c := 3) (by decide))).trans (th_iff (n := n) (w := w) (c := 3 + 1) (by omega) (by rcases (show w = 3 ∨ w = 4 by omega) with rfl | rfl <;> rfl)))), rfl⟩
  refine j_ald0 dX8_isThing_9 ?_
  refine j_ild1 dX8_isThing_10 ?_
  refine j_cV1 dX8_isThing_11 kX8_isCard l8_182 rfl (by decide) rfl (Nat.le_of_ble_eq_true rfl) (Nat.le_of_ble_eq_true rfl) (by omega) (s_X8_isCard h.1 h.2.1) ?_
  refine j_zret dX8_isThing_14 rfl (bi_01 _) ?_
  exact ⟨by
    obtain ⟨w, hl, hr, rfl⟩ := rng (l := 0) (t := 2) (by decide) (by decide) c_6
    exact congrArg (fun q => some (Value.int q)) (bi_iff ((th_iff (n := n) (w := w) (c := n) (by omega) (by rw [numN, if_pos hr])))), rfl⟩

set_option maxRecDepth 20000 in
theorem s_X8_mostOf {w : Nat} (hw : w < 12) : Rt a mX8_mostOf 0 [.int (nI w)] S (some (.int (nI (mostN w)))) S := by
  show J _ _ _ _ 0 [_] [] _
  refine j_ild0 dX8_mostOf_0 ?_
  refine j_iconst (1) dX8_mostOf_1 rfl ?_
  refine j_icmpeq 10 dX8_mostOf_2 (by decide) (fun c_2 => ?_) (fun c_2 => ?_)
  · refine j_iconst (5) dX8_mostOf_10 rfl ?_
    refine j_iret dX8_mostOf_11 rfl ?_
    exact ⟨by
      rcases w12 hw with rfl | rfl | rfl | rfl | rfl | rfl | rfl | rfl | rfl | rfl | rfl | rfl <;> first | rfl | (exfalso; first | exact c_2 (by decide) | exact absurd c_2 (by decide)), rfl⟩
  refine j_ild0 dX8_mostOf_5 ?_
  refine j_iconst (2) dX8_mostOf_6 rfl ?_
  refine j_icmpne 12 dX8_mostOf_7 (by decide) (fun c_7 => ?_) (fun c_7 => ?_)
  · refine j_ild0 dX8_mostOf_12 ?_
    refine j_bipush (7) dX8_mostOf_13 rfl ?_
    refine j_icmpeq 24 dX8_mostOf_15 (by decide) (fun c_15 => ?_) (fun c_15 => ?_)
    · refine j_bipush (99) dX8_mostOf_24 rfl ?_
      refine j_iret dX8_mostOf_26 rfl ?_
      exact ⟨by
        rcases w12 hw with rfl | rfl | rfl | rfl | rfl | rfl | rfl | rfl | rfl | rfl | rfl | rfl <;> first | rfl | (exfalso; first | exact c_2 (by decide) | exact absurd c_2 (by decide) | exact c_7 (by decide) | exact absurd c_7 (by decide) | exact c_15 (by decide) | exact absurd c_15 (by decide)), rfl⟩
    refine j_ild0 dX8_mostOf_18 ?_
    refine j_bipush (9) dX8_mostOf_19 rfl ?_
    refine j_icmpne 27 dX8_mostOf_21 (by decide) (fun c_21 => ?_) (fun c_21 => ?_)
    · refine j_ild0 dX8_mostOf_27 ?_
      refine j_ifeq 41 dX8_mostOf_28 (by decide) (fun c_28 => ?_) (fun c_28 => ?_)
      · refine j_bipush (9) dX8_mostOf_41 rfl ?_
        refine j_goto 48 dX8_mostOf_43 (by decide) ?_
        refine j_iret dX8_mostOf_48 rfl ?_
        exact ⟨by
          rcases w12 hw with rfl | rfl | rfl | rfl | rfl | rfl | rfl | rfl | rfl | rfl | rfl | rfl <;> first | rfl | (exfalso; first | exact c_2 (by decide) | exact absurd c_2 (by decide) | exact c_7 (by decide) | exact absurd c_7 (by decide) | exact c_15 (by decide) | exact absurd c_15 (by decide) | exact c_21 (by decide) | exact absurd c_21 (by decide) | exact c_28 (by decide) | exact absurd c_28 (by decide)), rfl⟩
      refine j_ild0 dX8_mostOf_31 ?_
      refine j_iconst (3) dX8_mostOf_32 rfl ?_
      refine j_icmpeq 41 dX8_mostOf_33 (by decide) (fun c_33 => ?_) (fun c_33 => ?_)
      · refine j_bipush (9) dX8_mostOf_41 rfl ?_
        refine j_goto 48 dX8_mostOf_43 (by decide) ?_
        refine j_iret dX8_mostOf_48 rfl ?_
        exact ⟨by
          rcases w12 hw with rfl | rfl | rfl | rfl | rfl | rfl | rfl | rfl | rfl | rfl | rfl | rfl <;> first | rfl | (exfalso; first | exact c_2 (by decide) | exact absurd c_2 (by decide) | exact c_7 (by decide) | exact absurd c_7 (by decide) | exact c_15 (by decide) | exact absurd c_15 (by decide) | exact c_21 (by decide) | exact absurd c_21 (by decide) | exact c_28 (by decide) | exact absurd c_28 (by decide) | exact c_33 (by decide) | exact absurd c_33 (by decide)), rfl⟩
      refine j_ild0 dX8_mostOf_36 ?_
      refine j_iconst (4) dX8_mostOf_37 rfl ?_
      refine j_icmpne 46 dX8_mostOf_38 (by decide) (fun c_38 => ?_) (fun c_38 => ?_)
      · refine j_bipush (12) dX8_mostOf_46 rfl ?_
        refine j_iret dX8_mostOf_48 rfl ?_
        exact ⟨by
          rcases w12 hw with rfl | rfl | rfl | rfl | rfl | rfl | rfl | rfl | rfl | rfl | rfl | rfl <;> first | rfl | (exfalso; first | exact c_2 (by decide) | exact absurd c_2 (by decide) | exact c_7 (by decide) | exact absurd c_7 (by decide) | exact c_15 (by decide) | exact absurd c_15 (by decide) | exact c_21 (by decide) | exact absurd c_21 (by decide) | exact c_28 (by decide) | exact absurd c_28 (by decide) | exact c_33 (by decide) | exact absurd c_33 (by decide) | exact c_38 (by decide) | exact absurd c_38 (by decide)), rfl⟩
      refine j_bipush (9) dX8_mostOf_41 rfl ?_
      refine j_goto 48 dX8_mostOf_43 (by decide) ?_
      refine j_iret dX8_mostOf_48 rfl ?_
      exact ⟨by
        rcases w12 hw with rfl | rfl | rfl | rfl | rfl | rfl | rfl | rfl | rfl | rfl | rfl | rfl <;> first | rfl | (exfalso; first | exact c_2 (by decide) | exact absurd c_2 (by decide) | exact c_7 (by decide) | exact absurd c_7 (by decide) | exact c_15 (by decide) | exact absurd c_15 (by decide) | exact c_21 (by decide) | exact absurd c_21 (by decide) | exact c_28 (by decide) | exact absurd c_28 (by decide) | exact c_33 (by decide) | exact absurd c_33 (by decide) | exact c_38 (by decide) | exact absurd c_38 (by decide)), rfl⟩
    refine j_bipush (99) dX8_mostOf_24 rfl ?_
    refine j_iret dX8_mostOf_26 rfl ?_
    exact ⟨by
      rcases w12 hw with rfl | rfl | rfl | rfl | rfl | rfl | rfl | rfl | rfl | rfl | rfl | rfl <;> first | rfl | (exfalso; first | exact c_2 (by decide) | exact absurd c_2 (by decide) | exact c_7 (by decide) | exact absurd c_7 (by decide) | exact c_15 (by decide) | exact absurd c_15 (by decide) | exact c_21 (by decide) | exact absurd c_21 (by decide)), rfl⟩
  refine j_iconst (5) dX8_mostOf_10 rfl ?_
  refine j_iret dX8_mostOf_11 rfl ?_
  exact ⟨by
    rcases w12 hw with rfl | rfl | rfl | rfl | rfl | rfl | rfl | rfl | rfl | rfl | rfl | rfl <;> first | rfl | (exfalso; first | exact c_2 (by decide) | exact absurd c_2 (by decide) | exact c_7 (by decide) | exact absurd c_7 (by decide)), rfl⟩

set_option maxRecDepth 20000 in
theorem s_X8_mend_ok {i w x : Nat} (ht : TR n v S) (hh : HR k u h S) (hw : w < 12) (hi : i < numN n w) (hx : x ≤ mostN w) : Rqi a mX8_mend 3 [.ref (a 61), .int (nI i), .int (nI w), .int (nI x)] S (fun r S' => r = nI (v w i) ∧ Kp [11] S S' ∧ TR n (up2 v w i x) S' ∧ (if x = v w i then HR k u h S' else HR (pushK k) 0 (pushH k h (mk4 i w (v w i) x)) S')) := by
  show J _ _ _ _ 0 [_, _, _, _] [] _
  refine j_ald0 dX8_mend_0 ?_
  refine j_ild1 dX8_mend_1 ?_
  refine j_ild2 dX8_mend_2 ?_
  refine j_cV2 dX8_mend_3 kX8_isThing l8_185 rfl (by decide) rfl (Nat.le_of_ble_eq_true rfl) (Nat.le_of_ble_eq_true rfl) (by omega) (s_X8_isThing ht) ?_
  refine j_ifeqB 31 dX8_mend_6 (by decide) (fun c_6 => absurd c_6 (not_not_intro ((th_iff (n := n) hw rfl).mp (nI_in' hi (by have := numN_le (w := w) ht.2.1; omega))))) (fun c_6 => ?_)
  refine j_ild3 dX8_mend_9 ?_
  refine j_iconst (0) dX8_mend_10 rfl ?_
  refine j_ild2 dX8_mend_11 ?_
  refine j_cS1 dX8_mend_12 kX8_mostOf zX8_mostOf (Or.inl l8_189) (Nat.le_of_ble_eq_true rfl) (Nat.le_of_ble_eq_true rfl) (by omega) (s_X8_mostOf hw) ?_
  refine j_cS3 dX8_mend_15 kX8_in zX8_in (Or.inl l8_148) (Nat.le_of_ble_eq_true rfl) (Nat.le_of_ble_eq_true rfl) (by omega) (s_X8_in) ?_
  refine j_ifeqB 31 dX8_mend_18 (by decide) (fun c_18 => absurd c_18 (not_not_intro ⟨nI_pos' (by have := mostN_le w; omega), nI_le hx (by have := mostN_le w; omega)⟩)) (fun c_18 => ?_)
  refine j_ald0 dX8_mend_21 ?_
  refine j_ild2 dX8_mend_22 ?_
  refine j_ild1 dX8_mend_23 ?_
  refine j_ild3 dX8_mend_24 ?_
  refine j_qiV3 dX8_mend_25 kX8_changes l8_193 rfl (by decide) rfl (Nat.le_of_ble_eq_true rfl) (Nat.le_of_ble_eq_true rfl) (by omega) (s_X8_changes ht hh hw (Nat.lt_of_lt_of_le hi (numN_cap ht.2.1 hw)) hx) (fun r1 S1 h1 => ?_)
  refine j_goto 32 dX8_mend_28 (by decide) ?_
  refine j_iret dX8_mend_32 rfl ?_
  exact ⟨_, rfl, h1⟩

set_option maxRecDepth 20000 in
theorem s_X8_mend_bad {x y z : Int32} (ht : TR n v S) (hb : ¬ (ThOk n x y ∧ (0 ≤ z ∧ z ≤ nI (mostN y.toNatClampNeg)))) : Rt a mX8_mend 3 [.ref (a 61), .int x, .int y, .int z] S (some (.int (-1))) S := by
  show J _ _ _ _ 0 [_, _, _, _] [] _
  refine j_ald0 dX8_mend_0 ?_
  refine j_ild1 dX8_mend_1 ?_
  refine j_ild2 dX8_mend_2 ?_
  refine j_cV2 dX8_mend_3 kX8_isThing l8_185 rfl (by decide) rfl (Nat.le_of_ble_eq_true rfl) (Nat.le_of_ble_eq_true rfl) (by omega) (s_X8_isThing ht) ?_
  refine j_ifeqB 31 dX8_mend_6 (by decide) (fun c_6 => ?_) (fun c_6 => ?_)
  · refine j_iconst (-1) dX8_mend_31 rfl ?_
    refine j_iret dX8_mend_32 rfl ?_
    exact ⟨rfl, rfl⟩
  obtain ⟨w, hw, rfl⟩ := in_nI (n := 12) (by decide) c_6.1
  refine j_ild3 dX8_mend_9 ?_
  refine j_iconst (0) dX8_mend_10 rfl ?_
  refine j_ild2 dX8_mend_11 ?_
  refine j_cS1 dX8_mend_12 kX8_mostOf zX8_mostOf (Or.inl l8_189) (Nat.le_of_ble_eq_true rfl) (Nat.le_of_ble_eq_true rfl) (by omega) (s_X8_mostOf hw) ?_
  refine j_cS3 dX8_mend_15 kX8_in zX8_in (Or.inl l8_148) (Nat.le_of_ble_eq_true rfl) (Nat.le_of_ble_eq_true rfl) (by omega) (s_X8_in) ?_
  refine j_ifeqB 31 dX8_mend_18 (by decide) (fun c_18 => ?_) (fun c_18 => ?_)
  · refine j_iconst (-1) dX8_mend_31 rfl ?_
    refine j_iret dX8_mend_32 rfl ?_
    exact ⟨rfl, rfl⟩
  exact absurd ⟨c_6, by rw [nI_clamp (by omega)]; exact c_18⟩ hb

set_option maxRecDepth 20000 in
theorem s_X8_of {x y : Int32} (h : TR n v S) : Rt a mX8_of 3 [.ref (a 61), .int x, .int y] S (some (.int (ofV n v (S.1 65) (S.1 77) (S.1 61 22) x y))) S := by
  show J _ _ _ _ 0 [_, _, _] [] _
  refine j_ild2 dX8_of_0 ?_
  refine j_iconst (0) dX8_of_1 rfl ?_
  refine j_bipush (11) dX8_of_2 rfl ?_
  refine j_cS3 dX8_of_4 kX8_in zX8_in (Or.inl l8_148) (Nat.le_of_ble_eq_true rfl) (Nat.le_of_ble_eq_true rfl) (by omega) (s_X8_in) ?_
  refine j_ifeqB 30 dX8_of_7 (by decide) (fun c_7 => ?_) (fun c_7 => ?_)
  · have c_7' : ¬ (0 ≤ y ∧ y < 12) := fun q => c_7 ⟨q.1, (le_lt (c := 11) (by decide)).mpr q.2⟩
    refine j_ild2 dX8_of_30 ?_
    refine j_topi (fun y_31 e_31 => ?_)
    by_cases h_31_12 : y_31 = 12
    · rw [h_31_12] at e_31 ⊢
      refine j_tblIn (29) 60 dX8_of_31 (by decide) (by decide) rfl (by decide) ?_
      refine j_ald0 dX8_of_60 ?_
      refine j_ild1 dX8_of_61 ?_
      refine j_cV1 dX8_of_62 kX8_isCard l8_182 rfl (by decide) rfl (Nat.le_of_ble_eq_true rfl) (Nat.le_of_ble_eq_true rfl) (by omega) (s_X8_isCard h.1 h.2.1) ?_
      refine j_ifeqB 77 dX8_of_65 (by decide) (fun c_65 => ?_) (fun c_65 => ?_)
      · refine j_iconst (-1) dX8_of_77 rfl ?_
        refine j_iret dX8_of_78 rfl ?_
        exact ⟨by unfold ofV; rw [← e_31, if_neg (by decide), if_pos rfl, if_neg c_65], rfl⟩
      have h8 := h.2.1
      obtain ⟨i, hi, rfl⟩ := in_nI (by omega) c_65
      have hcl2 : (nI i).toNatClampNeg = i := nI_clamp (by omega)
      refine j_ald0 dX8_of_68 ?_
      refine j_getR (k := 5) (65) dX8_of_69 cX8_ok (Or.inl f8_21) rfl (by decide) (by decide) (by decide) rfl ?_
      refine j_ild1 dX8_of_72 ?_
      refine j_iald (n := i) dX8_of_73 rfl (by decide) rfl (by omega) (by decide) ?_
      refine j_goto 78 dX8_of_74 (by decide) ?_
      refine j_iret dX8_of_78 rfl ?_
      exact ⟨by unfold ofV; rw [← e_31, if_neg (by decide), if_pos rfl, if_pos c_65, hcl2], rfl⟩
    by_cases h_31_13 : y_31 = 13
    · rw [h_31_13] at e_31 ⊢
      refine j_tblIn (48) 79 dX8_of_31 (by decide) (by decide) rfl (by decide) ?_
      refine j_ild1 dX8_of_79 ?_
      refine j_cS1 dX8_of_80 kX8_isColour zX8_isColour (Or.inl l8_152) (Nat.le_of_ble_eq_true rfl) (Nat.le_of_ble_eq_true rfl) (by omega) (s_X8_isColour) ?_
      refine j_ifeqB 95 dX8_of_83 (by decide) (fun c_83 => ?_) (fun c_83 => ?_)
      · refine j_iconst (-1) dX8_of_95 rfl ?_
        refine j_iret dX8_of_96 rfl ?_
        exact ⟨by unfold ofV; rw [← e_31, if_neg (by decide), if_neg (by decide), if_pos rfl, if_neg c_83], rfl⟩
      obtain ⟨i, hi, rfl⟩ := in_nI (n := 6) (by decide) c_83
      have hcl2 : (nI i).toNatClampNeg = i := nI_clamp (by omega)
      refine j_ald0 dX8_of_86 ?_
      refine j_getR (k := 21) (77) dX8_of_87 cX8_ok (Or.inl f8_64) rfl (by decide) (by decide) (by decide) rfl ?_
      refine j_ild1 dX8_of_90 ?_
      refine j_iald (n := i) dX8_of_91 rfl (by decide) rfl (by omega) (by decide) ?_
      refine j_goto 96 dX8_of_92 (by decide) ?_
      refine j_iret dX8_of_96 rfl ?_
      exact ⟨by unfold ofV; rw [← e_31, if_neg (by decide), if_neg (by decide), if_pos rfl, if_pos c_83, hcl2], rfl⟩
    by_cases h_31_14 : y_31 = 14
    · rw [h_31_14] at e_31 ⊢
      refine j_tblIn (66) 97 dX8_of_31 (by decide) (by decide) rfl (by decide) ?_
      refine j_ild1 dX8_of_97 ?_
      refine j_ifne 108 dX8_of_98 (by decide) (fun c_98 => ?_) (fun c_98 => ?_)
      · refine j_iconst (-1) dX8_of_108 rfl ?_
        refine j_iret dX8_of_109 rfl ?_
        exact ⟨by unfold ofV; rw [← e_31, if_neg (by decide), if_neg (by decide), if_neg (by decide), if_pos rfl, if_neg c_98], rfl⟩
      refine j_ald0 dX8_of_101 ?_
      refine j_getI (k := 22) dX8_of_102 cX8_ok (Or.inl f8_67) rfl (by decide) (by decide) (by decide) ?_
      refine j_goto 109 dX8_of_105 (by decide) ?_
      refine j_iret dX8_of_109 rfl ?_
      exact ⟨by unfold ofV; rw [← e_31, if_neg (by decide), if_neg (by decide), if_neg (by decide), if_pos rfl, if_pos (Classical.not_not.mp c_98)], rfl⟩
    by_cases h_31_15 : y_31 = 15
    · rw [h_31_15] at e_31 ⊢
      refine j_tblIn (79) 110 dX8_of_31 (by decide) (by decide) rfl (by decide) ?_
      refine j_ild1 dX8_of_110 ?_
      refine j_ifne 121 dX8_of_111 (by decide) (fun c_111 => ?_) (fun c_111 => ?_)
      · refine j_iconst (-1) dX8_of_121 rfl ?_
        refine j_iret dX8_of_122 rfl ?_
        exact ⟨by unfold ofV; rw [← e_31, if_neg (by decide), if_neg (by decide), if_neg (by decide), if_neg (by decide), if_pos rfl, if_neg c_111], rfl⟩
      refine j_ald0 dX8_of_114 ?_
      refine j_cV0 dX8_of_115 kX8_allCards l8_196 rfl (by decide) rfl (Nat.le_of_ble_eq_true rfl) (Nat.le_of_ble_eq_true rfl) (by omega) (s_X8_allCards h) ?_
      refine j_goto 122 dX8_of_118 (by decide) ?_
      refine j_iret dX8_of_122 rfl ?_
      exact ⟨by unfold ofV; rw [← e_31, if_neg (by decide), if_neg (by decide), if_neg (by decide), if_neg (by decide), if_pos rfl, if_pos (Classical.not_not.mp c_111)], rfl⟩
    refine j_tblOut 123 dX8_of_31 (tbl_out (fun k h1 h2 => by
      have hk : k = 12 ∨ k = 13 ∨ k = 14 ∨ k = 15 := by omega
      rcases hk with rfl | rfl | rfl | rfl
      · exact h_31_12
      · exact h_31_13
      · exact h_31_14
      · exact h_31_15)) (by decide) ?_
    refine j_iconst (-1) dX8_of_123 rfl ?_
    refine j_iret dX8_of_124 rfl ?_
    exact ⟨by unfold ofV; rw [← e_31, if_neg (by rw [e_31]; exact c_7'), if_neg h_31_12, if_neg h_31_13, if_neg h_31_14, if_neg h_31_15], rfl⟩
  have c_7' : 0 ≤ y ∧ y < 12 := ⟨c_7.1, (le_lt (c := 11) (by decide)).mp c_7.2⟩
  refine j_ald0 dX8_of_10 ?_
  refine j_ild1 dX8_of_11 ?_
  refine j_ild2 dX8_of_12 ?_
  refine j_cV2 dX8_of_13 kX8_isThing l8_185 rfl (by decide) rfl (Nat.le_of_ble_eq_true rfl) (Nat.le_of_ble_eq_true rfl) (by omega) (s_X8_isThing h) ?_
  refine j_ifeqB 28 dX8_of_16 (by decide) (fun c_16 => ?_) (fun c_16 => ?_)
  · refine j_iconst (-1) dX8_of_28 rfl ?_
    refine j_iret dX8_of_29 rfl ?_
    exact ⟨by unfold ofV; rw [if_pos c_7', if_neg (fun q => c_16 ⟨c_7', q⟩)], rfl⟩
  obtain ⟨w, hw, rfl⟩ := in_nI (n := 12) (by decide) c_16.1
  have hcl : (nI w).toNatClampNeg = w := nI_clamp (by omega)
  have c_16' := c_16.2
  rw [hcl] at c_16'
  have hnl := numN_le (w := w) h.2.1
  obtain ⟨i, hi, rfl⟩ := in_nI (by omega) c_16'
  have hcl2 : (nI i).toNatClampNeg = i := nI_clamp (by omega)
  refine j_ald0 dX8_of_19 ?_
  refine j_ild2 dX8_of_20 ?_
  refine j_ild1 dX8_of_21 ?_
  refine j_cV2 dX8_of_22 kX8_valueAt l8_168 rfl (by decide) rfl (Nat.le_of_ble_eq_true rfl) (Nat.le_of_ble_eq_true rfl) (by omega) (s_X8_valueAt h hw (Nat.lt_of_lt_of_le hi (numN_cap h.2.1 hw))) ?_
  refine j_goto 29 dX8_of_25 (by decide) ?_
  refine j_iret dX8_of_29 rfl ?_
  exact ⟨by unfold ofV; rw [if_pos c_7', hcl, if_pos c_16', hcl2], rfl⟩

set_option maxRecDepth 20000 in
theorem s_X8_card_bad {m : Int32} (hb : ¬ (0 ≤ m ∧ CardOk (cX m) (cY m) (cZ m))) : Rt a mX8_card 3 [.ref (a 61), .int m] S (some (.int (-1))) S := by
  show J _ _ _ _ 0 [_, _] [] _
  refine j_ild1 dX8_card_0 ?_
  refine j_iflt 25 dX8_card_1 (by decide) (fun c_1 => ?_) (fun c_1 => ?_)
  · refine j_iconst (-1) dX8_card_25 rfl ?_
    refine j_iret dX8_card_26 rfl ?_
    exact ⟨rfl, rfl⟩
  refine j_ild1 dX8_card_4 ?_
  refine j_bipush (100) dX8_card_5 rfl ?_
  refine j_idiv dX8_card_7 (by decide) ?_
  refine j_ild1 dX8_card_8 ?_
  refine j_bipush (10) dX8_card_9 rfl ?_
  refine j_idiv dX8_card_11 (by decide) ?_
  refine j_bipush (10) dX8_card_12 rfl ?_
  refine j_irem dX8_card_14 (by decide) ?_
  refine j_ild1 dX8_card_15 ?_
  refine j_bipush (10) dX8_card_16 rfl ?_
  refine j_irem dX8_card_18 (by decide) ?_
  refine j_cS3 dX8_card_19 kX8_isCardSo zX8_isCardSo (Or.inl l8_156) (Nat.le_of_ble_eq_true rfl) (Nat.le_of_ble_eq_true rfl) (by omega) (s_X8_isCardSo) ?_
  refine j_ifneB 27 dX8_card_22 (by decide) (fun c_22 => ?_) (fun c_22 => ?_)
  · exact absurd ⟨Int32.not_lt.mp c_1, c_22⟩ hb
  refine j_iconst (-1) dX8_card_25 rfl ?_
  refine j_iret dX8_card_26 rfl ?_
  exact ⟨rfl, rfl⟩

set_option maxRecDepth 20000 in
theorem s_X8_card_full {m : Int32} (hb : 0 ≤ m ∧ CardOk (cX m) (cY m) (cZ m)) (hn : S.1 61 1 = nI 8) : Rt a mX8_card 3 [.ref (a 61), .int m] S (some (.int (-3))) S := by
  show J _ _ _ _ 0 [_, _] [] _
  refine j_ild1 dX8_card_0 ?_
  refine j_iflt 25 dX8_card_1 (by decide) (fun c_1 => absurd c_1 (Int32.not_lt.mpr hb.1)) (fun c_1 => ?_)
  refine j_ild1 dX8_card_4 ?_
  refine j_bipush (100) dX8_card_5 rfl ?_
  refine j_idiv dX8_card_7 (by decide) ?_
  refine j_ild1 dX8_card_8 ?_
  refine j_bipush (10) dX8_card_9 rfl ?_
  refine j_idiv dX8_card_11 (by decide) ?_
  refine j_bipush (10) dX8_card_12 rfl ?_
  refine j_irem dX8_card_14 (by decide) ?_
  refine j_ild1 dX8_card_15 ?_
  refine j_bipush (10) dX8_card_16 rfl ?_
  refine j_irem dX8_card_18 (by decide) ?_
  refine j_cS3 dX8_card_19 kX8_isCardSo zX8_isCardSo (Or.inl l8_156) (Nat.le_of_ble_eq_true rfl) (Nat.le_of_ble_eq_true rfl) (by omega) (s_X8_isCardSo) ?_
  refine j_ifneB 27 dX8_card_22 (by decide) (fun c_22 => ?_) (fun c_22 => absurd (hb.2) c_22)
  refine j_ald0 dX8_card_27 ?_
  refine j_getI (k := 1) dX8_card_28 cX8_ok (Or.inl f8_145) rfl (by decide) (by decide) (by decide) ?_
  refine j_bipush (8) dX8_card_31 rfl ?_
  refine j_icmpne 41 dX8_card_33 (by decide) (fun c_33 => absurd c_33 (not_not_intro (by rw [hn]; rfl))) (fun c_33 => ?_)
  refine j_bipush (-3) dX8_card_36 rfl ?_
  refine j_goto 60 dX8_card_38 (by decide) ?_
  refine j_iret dX8_card_60 rfl ?_
  exact ⟨rfl, rfl⟩

set_option maxRecDepth 20000 in
theorem s_X8_card {m : Int32} (hb : 0 ≤ m ∧ CardOk (cX m) (cY m) (cZ m)) (hn : S.1 61 1 = nI n) (h8 : n < 8) : Rt a mX8_card 3 [.ref (a 61), .int m] S (some (.int (nI n))) (uI (uI (uI (uI (uI S 63 n (cX m)) 64 n (cY m)) 62 n (cZ m)) 65 n 0) 61 1 (nI (n + 1))) := by
  show J _ _ _ _ 0 [_, _] [] _
  refine j_ild1 dX8_card_0 ?_
  refine j_iflt 25 dX8_card_1 (by decide) (fun c_1 => absurd c_1 (Int32.not_lt.mpr hb.1)) (fun c_1 => ?_)
  refine j_ild1 dX8_card_4 ?_
  refine j_bipush (100) dX8_card_5 rfl ?_
  refine j_idiv dX8_card_7 (by decide) ?_
  refine j_ild1 dX8_card_8 ?_
  refine j_bipush (10) dX8_card_9 rfl ?_
  refine j_idiv dX8_card_11 (by decide) ?_
  refine j_bipush (10) dX8_card_12 rfl ?_
  refine j_irem dX8_card_14 (by decide) ?_
  refine j_ild1 dX8_card_15 ?_
  refine j_bipush (10) dX8_card_16 rfl ?_
  refine j_irem dX8_card_18 (by decide) ?_
  refine j_cS3 dX8_card_19 kX8_isCardSo zX8_isCardSo (Or.inl l8_156) (Nat.le_of_ble_eq_true rfl) (Nat.le_of_ble_eq_true rfl) (by omega) (s_X8_isCardSo) ?_
  refine j_ifneB 27 dX8_card_22 (by decide) (fun c_22 => ?_) (fun c_22 => absurd (hb.2) c_22)
  refine j_ald0 dX8_card_27 ?_
  refine j_getI (k := 1) dX8_card_28 cX8_ok (Or.inl f8_145) rfl (by decide) (by decide) (by decide) ?_
  refine j_bipush (8) dX8_card_31 rfl ?_
  refine j_icmpne 41 dX8_card_33 (by decide) (fun c_33 => ?_) (fun c_33 => absurd (fun z => absurd ((nI_eq (a := n) (b := 8) (by omega) (by decide)).mp (by rw [← hn]; exact z)) (by omega)) c_33)
  refine j_ald0 dX8_card_41 ?_
  refine j_ild1 dX8_card_42 ?_
  refine j_bipush (100) dX8_card_43 rfl ?_
  refine j_idiv dX8_card_45 (by decide) ?_
  refine j_ild1 dX8_card_46 ?_
  refine j_bipush (10) dX8_card_47 rfl ?_
  refine j_idiv dX8_card_49 (by decide) ?_
  refine j_bipush (10) dX8_card_50 rfl ?_
  refine j_irem dX8_card_52 (by decide) ?_
  refine j_ild1 dX8_card_53 ?_
  refine j_bipush (10) dX8_card_54 rfl ?_
  refine j_irem dX8_card_56 (by decide) ?_
  refine j_cV3 dX8_card_57 kX8_addCard l8_159 rfl (by decide) rfl (Nat.le_of_ble_eq_true rfl) (Nat.le_of_ble_eq_true rfl) (by omega) (s_X8_addCard hn h8) ?_
  refine j_iret dX8_card_60 rfl ?_
  exact ⟨rfl, rfl⟩

set_option maxRecDepth 20000 in
theorem s_X7_card_bad {m : Int32} (hb : ¬ (0 ≤ m ∧ CardOk (cX m) (cY m) (cZ m))) : Rt a mX7_card 2 [.ref (a 0), .int m] S (some (.int (-1))) S := by
  show J _ _ _ _ 0 [_, _] [] _
  refine j_ild1 dX7_card_0 ?_
  refine j_iflt 25 dX7_card_1 (by decide) (fun c_1 => ?_) (fun c_1 => ?_)
  · refine j_iconst (-1) dX7_card_25 rfl ?_
    refine j_iret dX7_card_26 rfl ?_
    exact ⟨rfl, rfl⟩
  refine j_ild1 dX7_card_4 ?_
  refine j_bipush (100) dX7_card_5 rfl ?_
  refine j_idiv dX7_card_7 (by decide) ?_
  refine j_ild1 dX7_card_8 ?_
  refine j_bipush (10) dX7_card_9 rfl ?_
  refine j_idiv dX7_card_11 (by decide) ?_
  refine j_bipush (10) dX7_card_12 rfl ?_
  refine j_irem dX7_card_14 (by decide) ?_
  refine j_ild1 dX7_card_15 ?_
  refine j_bipush (10) dX7_card_16 rfl ?_
  refine j_irem dX7_card_18 (by decide) ?_
  refine j_cS3 dX7_card_19 kX6_mayBeCard zX6_mayBeCard (Or.inl l7_64) (Nat.le_of_ble_eq_true rfl) (Nat.le_of_ble_eq_true rfl) (by omega) (s_X6_mayBeCard) ?_
  refine j_ifneB 27 dX7_card_22 (by decide) (fun c_22 => ?_) (fun c_22 => ?_)
  · exact absurd ⟨Int32.not_lt.mp c_1, c_22⟩ hb
  refine j_iconst (-1) dX7_card_25 rfl ?_
  refine j_iret dX7_card_26 rfl ?_
  exact ⟨rfl, rfl⟩

set_option maxRecDepth 20000 in
theorem s_X7_card_full {m : Int32} (hb : 0 ≤ m ∧ CardOk (cX m) (cY m) (cZ m)) (hn : S.1 1 1 = nI 8) : Rt a mX7_card 2 [.ref (a 0), .int m] S (some (.int (-3))) S := by
  show J _ _ _ _ 0 [_, _] [] _
  refine j_ild1 dX7_card_0 ?_
  refine j_iflt 25 dX7_card_1 (by decide) (fun c_1 => absurd c_1 (Int32.not_lt.mpr hb.1)) (fun c_1 => ?_)
  refine j_ild1 dX7_card_4 ?_
  refine j_bipush (100) dX7_card_5 rfl ?_
  refine j_idiv dX7_card_7 (by decide) ?_
  refine j_ild1 dX7_card_8 ?_
  refine j_bipush (10) dX7_card_9 rfl ?_
  refine j_idiv dX7_card_11 (by decide) ?_
  refine j_bipush (10) dX7_card_12 rfl ?_
  refine j_irem dX7_card_14 (by decide) ?_
  refine j_ild1 dX7_card_15 ?_
  refine j_bipush (10) dX7_card_16 rfl ?_
  refine j_irem dX7_card_18 (by decide) ?_
  refine j_cS3 dX7_card_19 kX6_mayBeCard zX6_mayBeCard (Or.inl l7_64) (Nat.le_of_ble_eq_true rfl) (Nat.le_of_ble_eq_true rfl) (by omega) (s_X6_mayBeCard) ?_
  refine j_ifneB 27 dX7_card_22 (by decide) (fun c_22 => ?_) (fun c_22 => absurd (hb.2) c_22)
  refine j_ald0 dX7_card_27 ?_
  refine j_getR (k := 0) (1) dX7_card_28 cX7_ok (Or.inl f7_12) rfl (by decide) (by decide) (by decide) rfl ?_
  refine j_ild1 dX7_card_31 ?_
  refine j_bipush (100) dX7_card_32 rfl ?_
  refine j_idiv dX7_card_34 (by decide) ?_
  refine j_ild1 dX7_card_35 ?_
  refine j_bipush (10) dX7_card_36 rfl ?_
  refine j_idiv dX7_card_38 (by decide) ?_
  refine j_bipush (10) dX7_card_39 rfl ?_
  refine j_irem dX7_card_41 (by decide) ?_
  refine j_ild1 dX7_card_42 ?_
  refine j_bipush (10) dX7_card_43 rfl ?_
  refine j_irem dX7_card_45 (by decide) ?_
  refine j_cV3 dX7_card_46 kX6_addCard l7_68 rfl (by decide) rfl (Nat.le_of_ble_eq_true rfl) (Nat.le_of_ble_eq_true rfl) (by omega) (s_X6_addCard_full hn) ?_
  refine j_iret dX7_card_49 rfl ?_
  exact ⟨rfl, rfl⟩

set_option maxRecDepth 20000 in
theorem s_X7_card {m : Int32} (hb : 0 ≤ m ∧ CardOk (cX m) (cY m) (cZ m)) (hn : S.1 1 1 = nI n) (h8 : n < 8) : Rt a mX7_card 2 [.ref (a 0), .int m] S (some (.int (nI n))) (uI (uI (uI (uI S 17 n (cX m)) 18 n (cY m)) 16 n (cZ m)) 1 1 (nI (n + 1))) := by
  show J _ _ _ _ 0 [_, _] [] _
  refine j_ild1 dX7_card_0 ?_
  refine j_iflt 25 dX7_card_1 (by decide) (fun c_1 => absurd c_1 (Int32.not_lt.mpr hb.1)) (fun c_1 => ?_)
  refine j_ild1 dX7_card_4 ?_
  refine j_bipush (100) dX7_card_5 rfl ?_
  refine j_idiv dX7_card_7 (by decide) ?_
  refine j_ild1 dX7_card_8 ?_
  refine j_bipush (10) dX7_card_9 rfl ?_
  refine j_idiv dX7_card_11 (by decide) ?_
  refine j_bipush (10) dX7_card_12 rfl ?_
  refine j_irem dX7_card_14 (by decide) ?_
  refine j_ild1 dX7_card_15 ?_
  refine j_bipush (10) dX7_card_16 rfl ?_
  refine j_irem dX7_card_18 (by decide) ?_
  refine j_cS3 dX7_card_19 kX6_mayBeCard zX6_mayBeCard (Or.inl l7_64) (Nat.le_of_ble_eq_true rfl) (Nat.le_of_ble_eq_true rfl) (by omega) (s_X6_mayBeCard) ?_
  refine j_ifneB 27 dX7_card_22 (by decide) (fun c_22 => ?_) (fun c_22 => absurd (hb.2) c_22)
  refine j_ald0 dX7_card_27 ?_
  refine j_getR (k := 0) (1) dX7_card_28 cX7_ok (Or.inl f7_12) rfl (by decide) (by decide) (by decide) rfl ?_
  refine j_ild1 dX7_card_31 ?_
  refine j_bipush (100) dX7_card_32 rfl ?_
  refine j_idiv dX7_card_34 (by decide) ?_
  refine j_ild1 dX7_card_35 ?_
  refine j_bipush (10) dX7_card_36 rfl ?_
  refine j_idiv dX7_card_38 (by decide) ?_
  refine j_bipush (10) dX7_card_39 rfl ?_
  refine j_irem dX7_card_41 (by decide) ?_
  refine j_ild1 dX7_card_42 ?_
  refine j_bipush (10) dX7_card_43 rfl ?_
  refine j_irem dX7_card_45 (by decide) ?_
  refine j_cV3 dX7_card_46 kX6_addCard l7_68 rfl (by decide) rfl (Nat.le_of_ble_eq_true rfl) (Nat.le_of_ble_eq_true rfl) (by omega) (s_X6_addCard hn h8) ?_
  refine j_iret dX7_card_49 rfl ?_
  exact ⟨rfl, rfl⟩

set_option maxRecDepth 20000 in
theorem s_X7_mend_ok {i w x : Nat} (ht : TC n v S) (hh : HC k u h S) (hw : w < 12) (hi : i < numN n w) (hx : x ≤ mostN w) : Rqi a mX7_mend 3 [.ref (a 0), .int (nI i), .int (nI w), .int (nI x)] S (fun r S' => r = nI (v w i) ∧ Kp [1] S S' ∧ TC n (up2 v w i x) S' ∧ (if x = v w i then HC k u h S' else HC (pushK k) 0 (pushH k h (mk4 i w (v w i) x)) S')) := by
  show J _ _ _ _ 0 [_, _, _, _] [] _
  refine j_ald0 dX7_mend_0 ?_
  refine j_getR (k := 0) (1) dX7_mend_1 cX7_ok (Or.inl f7_12) rfl (by decide) (by decide) (by decide) rfl ?_
  refine j_ild1 dX7_mend_4 ?_
  refine j_ild2 dX7_mend_5 ?_
  refine j_cV2 dX7_mend_6 kX6_known l7_98 rfl (by decide) rfl (Nat.le_of_ble_eq_true rfl) (Nat.le_of_ble_eq_true rfl) (by omega) (s_X6_known ht) ?_
  refine j_ifeqB 25 dX7_mend_9 (by decide) (fun c_9 => absurd c_9 (not_not_intro ((th_iff (n := n) hw rfl).mp (nI_in' hi (by have := numN_le (w := w) ht.2.1; omega))))) (fun c_9 => ?_)
  refine j_ild3 dX7_mend_12 ?_
  refine j_iflt 25 dX7_mend_13 (by decide) (fun c_13 => absurd c_13 (nI_pos (by have := mostN_le w; omega))) (fun c_13 => ?_)
  refine j_ild3 dX7_mend_16 ?_
  refine j_gets (i := 1) dX7_mend_17 rfl (Or.inr ⟨_, f7_101⟩) ?_
  refine j_ild2 dX7_mend_20 ?_
  refine j_tald (i := 1) (k := w) dX7_mend_21 rfl rfl hw (by decide) ?_
  refine j_top (y := nI (mostN w)) (by rcases w12 hw with rfl | rfl | rfl | rfl | rfl | rfl | rfl | rfl | rfl | rfl | rfl | rfl <;> rfl) ?_
  refine j_icmple 27 dX7_mend_22 (by decide) (fun c_22 => ?_) (fun c_22 => absurd (nI_le hx (by have := mostN_le w; omega)) c_22)
  refine j_ald0 dX7_mend_27 ?_
  refine j_getR (k := 0) (1) dX7_mend_28 cX7_ok (Or.inl f7_12) rfl (by decide) (by decide) (by decide) rfl ?_
  refine j_ild1 dX7_mend_31 ?_
  refine j_ild2 dX7_mend_32 ?_
  refine j_ild3 dX7_mend_33 ?_
  refine j_qiV3 dX7_mend_34 kX6_change l7_104 rfl (by decide) rfl (Nat.le_of_ble_eq_true rfl) (Nat.le_of_ble_eq_true rfl) (by omega) (s_X6_change ht hh hw (Nat.lt_of_lt_of_le hi (numN_le ht.2.1)) hx) (fun r1 S1 h1 => ?_)
  refine j_iret dX7_mend_37 rfl ?_
  exact ⟨_, rfl, h1⟩

set_option maxRecDepth 20000 in
theorem s_X7_mend_bad {x y z : Int32} (ht : TC n v S) (hb : ¬ (ThOk n x y ∧ (0 ≤ z ∧ z ≤ nI (mostN y.toNatClampNeg)))) : Rt a mX7_mend 3 [.ref (a 0), .int x, .int y, .int z] S (some (.int (-1))) S := by
  show J _ _ _ _ 0 [_, _, _, _] [] _
  refine j_ald0 dX7_mend_0 ?_
  refine j_getR (k := 0) (1) dX7_mend_1 cX7_ok (Or.inl f7_12) rfl (by decide) (by decide) (by decide) rfl ?_
  refine j_ild1 dX7_mend_4 ?_
  refine j_ild2 dX7_mend_5 ?_
  refine j_cV2 dX7_mend_6 kX6_known l7_98 rfl (by decide) rfl (Nat.le_of_ble_eq_true rfl) (Nat.le_of_ble_eq_true rfl) (by omega) (s_X6_known ht) ?_
  refine j_ifeqB 25 dX7_mend_9 (by decide) (fun c_9 => ?_) (fun c_9 => ?_)
  · refine j_iconst (-1) dX7_mend_25 rfl ?_
    refine j_iret dX7_mend_26 rfl ?_
    exact ⟨rfl, rfl⟩
  obtain ⟨w, hw, rfl⟩ := in_nI (n := 12) (by decide) c_9.1
  refine j_ild3 dX7_mend_12 ?_
  refine j_iflt 25 dX7_mend_13 (by decide) (fun c_13 => ?_) (fun c_13 => ?_)
  · refine j_iconst (-1) dX7_mend_25 rfl ?_
    refine j_iret dX7_mend_26 rfl ?_
    exact ⟨rfl, rfl⟩
  refine j_ild3 dX7_mend_16 ?_
  refine j_gets (i := 1) dX7_mend_17 rfl (Or.inr ⟨_, f7_101⟩) ?_
  refine j_ild2 dX7_mend_20 ?_
  refine j_tald (i := 1) (k := w) dX7_mend_21 rfl rfl hw (by decide) ?_
  refine j_top (y := nI (mostN w)) (by rcases w12 hw with rfl | rfl | rfl | rfl | rfl | rfl | rfl | rfl | rfl | rfl | rfl | rfl <;> rfl) ?_
  refine j_icmple 27 dX7_mend_22 (by decide) (fun c_22 => ?_) (fun c_22 => ?_)
  · exact absurd ⟨c_9, Int32.not_lt.mp c_13, by rw [nI_clamp (by omega)]; exact c_22⟩ hb
  refine j_iconst (-1) dX7_mend_25 rfl ?_
  refine j_iret dX7_mend_26 rfl ?_
  exact ⟨rfl, rfl⟩

set_option maxRecDepth 20000 in
theorem s_X7_of {x y : Int32} (h : TC n v S) : Rt a mX7_of 2 [.ref (a 0), .int x, .int y] S (some (.int (ofV n v (S.1 48) (S.1 49) (if S.1 5 3 < 0 then -2 else S.1 5 3) x y))) S := by
  show J _ _ _ _ 0 [_, _, _] [] _
  refine j_ald0 dX7_of_0 ?_
  refine j_getR (k := 0) (1) dX7_of_1 cX7_ok (Or.inl f7_12) rfl (by decide) (by decide) (by decide) rfl ?_
  refine j_ild1 dX7_of_4 ?_
  refine j_ild2 dX7_of_5 ?_
  refine j_cV2 dX7_of_6 kX6_known l7_98 rfl (by decide) rfl (Nat.le_of_ble_eq_true rfl) (Nat.le_of_ble_eq_true rfl) (by omega) (s_X6_known h) ?_
  refine j_ifeqB 24 dX7_of_9 (by decide) (fun c_9 => ?_) (fun c_9 => ?_)
  · refine j_ild2 dX7_of_24 ?_
    refine j_bipush (12) dX7_of_25 rfl ?_
    refine j_icmpne 58 dX7_of_27 (by decide) (fun c_27 => ?_) (fun c_27 => ?_)
    · refine j_ild2 dX7_of_58 ?_
      refine j_bipush (13) dX7_of_59 rfl ?_
      refine j_icmpne 87 dX7_of_61 (by decide) (fun c_61 => ?_) (fun c_61 => ?_)
      · refine j_ild2 dX7_of_87 ?_
        refine j_bipush (14) dX7_of_88 rfl ?_
        refine j_icmpne 120 dX7_of_90 (by decide) (fun c_90 => ?_) (fun c_90 => ?_)
        · refine j_ild2 dX7_of_120 ?_
          refine j_bipush (15) dX7_of_121 rfl ?_
          refine j_icmpne 140 dX7_of_123 (by decide) (fun c_123 => ?_) (fun c_123 => ?_)
          · refine j_iconst (-1) dX7_of_140 rfl ?_
            refine j_iret dX7_of_141 rfl ?_
            exact ⟨by
              unfold ofV
              by_cases h0 : 0 ≤ y ∧ y < 12
              · rw [if_pos h0, if_neg (fun q => c_9 ⟨h0, q⟩)]
              · rw [if_neg h0, if_neg c_27, if_neg c_61, if_neg c_90, if_neg c_123], rfl⟩
          refine j_ild1 dX7_of_126 ?_
          refine j_ifne 140 dX7_of_127 (by decide) (fun c_127 => ?_) (fun c_127 => ?_)
          · refine j_iconst (-1) dX7_of_140 rfl ?_
            refine j_iret dX7_of_141 rfl ?_
            exact ⟨by
              unfold ofV
              rw [Classical.not_not.mp c_123, if_neg (by decide), if_neg (by decide), if_neg (by decide), if_neg (by decide), if_pos rfl, if_neg c_127], rfl⟩
          refine j_ald0 dX7_of_130 ?_
          refine j_getR (k := 0) (1) dX7_of_131 cX7_ok (Or.inl f7_12) rfl (by decide) (by decide) (by decide) rfl ?_
          refine j_cV0 dX7_of_134 kX6_inHat l7_120 rfl (by decide) rfl (Nat.le_of_ble_eq_true rfl) (Nat.le_of_ble_eq_true rfl) (by omega) (s_X6_inHat h) ?_
          refine j_goto 141 dX7_of_137 (by decide) ?_
          refine j_iret dX7_of_141 rfl ?_
          exact ⟨by
            unfold ofV
            rw [Classical.not_not.mp c_123, if_neg (by decide), if_neg (by decide), if_neg (by decide), if_neg (by decide), if_pos rfl, if_pos (Classical.not_not.mp c_127)], rfl⟩
        refine j_ild1 dX7_of_93 ?_
        refine j_ifne 120 dX7_of_94 (by decide) (fun c_94 => ?_) (fun c_94 => ?_)
        · refine j_ild2 dX7_of_120 ?_
          refine j_bipush (15) dX7_of_121 rfl ?_
          refine j_icmpne 140 dX7_of_123 (by decide) (fun c_123 => ?_) (fun c_123 => ?_)
          · refine j_iconst (-1) dX7_of_140 rfl ?_
            refine j_iret dX7_of_141 rfl ?_
            exact ⟨by
              unfold ofV
              rw [Classical.not_not.mp c_90, if_neg (by decide), if_neg (by decide), if_neg (by decide), if_pos rfl, if_neg c_94], rfl⟩
          refine j_ild1 dX7_of_126 ?_
          refine j_ifne 140 dX7_of_127 (by decide) (fun c_127 => ?_) (fun c_127 => ?_)
          · refine j_iconst (-1) dX7_of_140 rfl ?_
            refine j_iret dX7_of_141 rfl ?_
            exact absurd ((Classical.not_not.mp c_90).symm.trans (Classical.not_not.mp c_123)) (by decide)
          refine j_ald0 dX7_of_130 ?_
          refine j_getR (k := 0) (1) dX7_of_131 cX7_ok (Or.inl f7_12) rfl (by decide) (by decide) (by decide) rfl ?_
          refine j_cV0 dX7_of_134 kX6_inHat l7_120 rfl (by decide) rfl (Nat.le_of_ble_eq_true rfl) (Nat.le_of_ble_eq_true rfl) (by omega) (s_X6_inHat h) ?_
          refine j_goto 141 dX7_of_137 (by decide) ?_
          refine j_iret dX7_of_141 rfl ?_
          exact absurd ((Classical.not_not.mp c_90).symm.trans (Classical.not_not.mp c_123)) (by decide)
        refine j_ald0 dX7_of_97 ?_
        refine j_getR (k := 4) (5) dX7_of_98 cX7_ok (Or.inl f7_42) rfl (by decide) (by decide) (by decide) rfl ?_
        refine j_getI (k := 3) dX7_of_101 cX1_ok (Or.inr ⟨_, f7_117⟩) rfl (by decide) (by decide) (by decide) ?_
        refine j_ifge 112 dX7_of_104 (by decide) (fun c_104 => ?_) (fun c_104 => ?_)
        · refine j_ald0 dX7_of_112 ?_
          refine j_getR (k := 4) (5) dX7_of_113 cX7_ok (Or.inl f7_42) rfl (by decide) (by decide) (by decide) rfl ?_
          refine j_getI (k := 3) dX7_of_116 cX1_ok (Or.inr ⟨_, f7_117⟩) rfl (by decide) (by decide) (by decide) ?_
          refine j_iret dX7_of_119 rfl ?_
          exact ⟨by
            unfold ofV
            rw [Classical.not_not.mp c_90, if_neg (by decide), if_neg (by decide), if_neg (by decide), if_pos rfl, if_pos (Classical.not_not.mp c_94), if_neg (Int32.not_lt.mpr c_104)], rfl⟩
        refine j_bipush (-2) dX7_of_107 rfl ?_
        refine j_goto 119 dX7_of_109 (by decide) ?_
        refine j_iret dX7_of_119 rfl ?_
        exact ⟨by
          unfold ofV
          rw [Classical.not_not.mp c_90, if_neg (by decide), if_neg (by decide), if_neg (by decide), if_pos rfl, if_pos (Classical.not_not.mp c_94), if_pos (Int32.not_le.mp c_104)], rfl⟩
      refine j_ild1 dX7_of_64 ?_
      refine j_bipush (6) dX7_of_65 rfl ?_
      refine j_cS2 dX7_of_67 kX7_within zX7_within (Or.inl l7_72) (Nat.le_of_ble_eq_true rfl) (Nat.le_of_ble_eq_true rfl) (by omega) (s_X7_within) ?_
      refine j_ifeqB 85 dX7_of_70 (by decide) (fun c_70 => ?_) (fun c_70 => ?_)
      · refine j_iconst (-1) dX7_of_85 rfl ?_
        refine j_iret dX7_of_86 rfl ?_
        exact ⟨by
          unfold ofV
          rw [Classical.not_not.mp c_61, if_neg (by decide), if_neg (by decide), if_pos rfl, if_neg c_70], rfl⟩
      obtain ⟨i, hi, rfl⟩ := in_nI (n := 6) (by decide) c_70
      have hcl2 : (nI i).toNatClampNeg = i := nI_clamp (by omega)
      refine j_ald0 dX7_of_73 ?_
      refine j_getR (k := 4) (5) dX7_of_74 cX7_ok (Or.inl f7_42) rfl (by decide) (by decide) (by decide) rfl ?_
      refine j_getR (k := 2) (49) dX7_of_77 cX1_ok (Or.inr ⟨_, f7_114⟩) rfl (by decide) (by decide) (by decide) rfl ?_
      refine j_ild1 dX7_of_80 ?_
      refine j_iald (n := i) dX7_of_81 rfl (by decide) rfl (by omega) (by decide) ?_
      refine j_goto 86 dX7_of_82 (by decide) ?_
      refine j_iret dX7_of_86 rfl ?_
      exact ⟨by
        unfold ofV
        rw [Classical.not_not.mp c_61, if_neg (by decide), if_neg (by decide), if_pos rfl, if_pos c_70, hcl2], rfl⟩
    refine j_ild1 dX7_of_30 ?_
    refine j_ald0 dX7_of_31 ?_
    refine j_getR (k := 0) (1) dX7_of_32 cX7_ok (Or.inl f7_12) rfl (by decide) (by decide) (by decide) rfl ?_
    refine j_getI (k := 1) dX7_of_35 cX6_ok (Or.inr ⟨_, f7_91⟩) rfl (by decide) (by decide) (by decide) ?_
    refine j_top (y := nI n) (h.1) ?_
    refine j_cS2 dX7_of_38 kX7_within zX7_within (Or.inl l7_72) (Nat.le_of_ble_eq_true rfl) (Nat.le_of_ble_eq_true rfl) (by omega) (s_X7_within) ?_
    refine j_ifeqB 56 dX7_of_41 (by decide) (fun c_41 => ?_) (fun c_41 => ?_)
    · refine j_iconst (-1) dX7_of_56 rfl ?_
      refine j_iret dX7_of_57 rfl ?_
      exact ⟨by
        unfold ofV
        rw [Classical.not_not.mp c_27, if_neg (by decide), if_pos rfl, if_neg c_41], rfl⟩
    have h8 := h.2.1
    obtain ⟨i, hi, rfl⟩ := in_nI (by omega) c_41
    have hcl2 : (nI i).toNatClampNeg = i := nI_clamp (by omega)
    refine j_ald0 dX7_of_44 ?_
    refine j_getR (k := 4) (5) dX7_of_45 cX7_ok (Or.inl f7_42) rfl (by decide) (by decide) (by decide) rfl ?_
    refine j_getR (k := 1) (48) dX7_of_48 cX1_ok (Or.inr ⟨_, f7_111⟩) rfl (by decide) (by decide) (by decide) rfl ?_
    refine j_ild1 dX7_of_51 ?_
    refine j_iald (n := i) dX7_of_52 rfl (by decide) rfl (by omega) (by decide) ?_
    refine j_goto 57 dX7_of_53 (by decide) ?_
    refine j_iret dX7_of_57 rfl ?_
    exact ⟨by
      unfold ofV
      rw [Classical.not_not.mp c_27, if_neg (by decide), if_pos rfl, if_pos c_41, hcl2], rfl⟩
  obtain ⟨w, hw, rfl⟩ := in_nI (n := 12) (by decide) c_9.1
  have hcl : (nI w).toNatClampNeg = w := nI_clamp (by omega)
  have c_9' := c_9.2
  rw [hcl] at c_9'
  have hnl := numN_le (w := w) h.2.1
  obtain ⟨i, hi, rfl⟩ := in_nI (by omega) c_9'
  have hcl2 : (nI i).toNatClampNeg = i := nI_clamp (by omega)
  refine j_ald0 dX7_of_12 ?_
  refine j_getR (k := 0) (1) dX7_of_13 cX7_ok (Or.inl f7_12) rfl (by decide) (by decide) (by decide) rfl ?_
  refine j_getR (k := 0) (15) dX7_of_16 cX6_ok (Or.inr ⟨_, f7_107⟩) rfl (by decide) (by decide) (by decide) rfl ?_
  refine j_ild2 dX7_of_19 ?_
  refine j_aald (n := w) (16 + w) dX7_of_20 (Or.inr rfl) (by decide) rfl hw (by decide) (fr_vr hw) ?_
  refine j_ild1 dX7_of_21 ?_
  refine j_iald (n := i) dX7_of_22 (ck_vr hw) (by omega) rfl (by omega) (by decide) ?_
  refine j_top (y := nI (v w i)) (h.2.2.1 w hw i (by omega)) ?_
  refine j_iret dX7_of_23 rfl ?_
  exact ⟨by unfold ofV; rw [if_pos c_9.1, hcl, if_pos c_9', hcl2], rfl⟩

set_option maxRecDepth 20000 in
theorem s_X7_undo0 (hh : HC 0 u h S) : Rt a mX7_undo 1 [.ref (a 0)] S (some (.int (-5))) S := by
  show J _ _ _ _ 0 [_] [] _
  refine j_ald0 dX7_undo_0 ?_
  refine j_getR (k := 0) (1) dX7_undo_1 cX7_ok (Or.inl f7_12) rfl (by decide) (by decide) (by decide) rfl ?_
  refine j_qiV0 dX7_undo_4 kX6_takeChangeBack l7_249 rfl (by decide) rfl (Nat.le_of_ble_eq_true rfl) (Nat.le_of_ble_eq_true rfl) (by omega) (s_X6_tcb0 hh) (fun r1 S1 h1 => ?_)
  obtain ⟨rfl, rfl⟩ := h1
  refine j_ifeq 20 dX7_undo_7 (by decide) (fun c_7 => ?_) (fun c_7 => absurd (rfl) c_7)
  refine j_bipush (-5) dX7_undo_20 rfl ?_
  refine j_iret dX7_undo_22 rfl ?_
  exact ⟨rfl, rfl⟩

set_option maxRecDepth 20000 in
theorem s_X7_undo (ht : TC n v S) (hh : HC (k + 1) u h S) (hok : Hok n (k + 1) u h) : Rqi a mX7_undo 1 [.ref (a 0)] S (fun r S' => r = nI k ∧ Kp [1] S S' ∧ TC n (up2 v (h k 1) (h k 0) (h k 2)) S' ∧ HC k (u + 1) h S') := by
  show J _ _ _ _ 0 [_] [] _
  refine j_ald0 dX7_undo_0 ?_
  refine j_getR (k := 0) (1) dX7_undo_1 cX7_ok (Or.inl f7_12) rfl (by decide) (by decide) (by decide) rfl ?_
  refine j_qiV0 dX7_undo_4 kX6_takeChangeBack l7_249 rfl (by decide) rfl (Nat.le_of_ble_eq_true rfl) (Nat.le_of_ble_eq_true rfl) (by omega) (s_X6_tcb ht hh hok) (fun r1 S1 h1 => ?_)
  obtain ⟨rfl, h1⟩ := h1
  refine j_ifeq 20 dX7_undo_7 (by decide) (fun c_7 => absurd c_7 (by decide)) (fun c_7 => ?_)
  refine j_ald0 dX7_undo_10 ?_
  refine j_getR (k := 0) (1) dX7_undo_11 cX7_ok (Or.inl f7_12) rfl (by decide) (by decide) (by decide) rfl ?_
  refine j_getI (k := 7) dX7_undo_14 cX6_ok (Or.inr ⟨_, f7_252⟩) rfl (by decide) (by decide) (by decide) ?_
  refine j_top (y := nI k) (h1.2.2.choose_spec.2.2.1) ?_
  refine j_goto 22 dX7_undo_17 (by decide) ?_
  refine j_iret dX7_undo_22 rfl ?_
  exact ⟨_, rfl, rfl, h1⟩

set_option maxRecDepth 20000 in
theorem s_X7_redo0 (hh : HC k 0 h S) : Rt a mX7_redo 1 [.ref (a 0)] S (some (.int (-5))) S := by
  show J _ _ _ _ 0 [_] [] _
  refine j_ald0 dX7_redo_0 ?_
  refine j_getR (k := 0) (1) dX7_redo_1 cX7_ok (Or.inl f7_12) rfl (by decide) (by decide) (by decide) rfl ?_
  refine j_qiV0 dX7_redo_4 kX6_doChangeAgain l7_255 rfl (by decide) rfl (Nat.le_of_ble_eq_true rfl) (Nat.le_of_ble_eq_true rfl) (by omega) (s_X6_dca0 hh) (fun r1 S1 h1 => ?_)
  obtain ⟨rfl, rfl⟩ := h1
  refine j_ifeq 20 dX7_redo_7 (by decide) (fun c_7 => ?_) (fun c_7 => absurd (rfl) c_7)
  refine j_bipush (-5) dX7_redo_20 rfl ?_
  refine j_iret dX7_redo_22 rfl ?_
  exact ⟨rfl, rfl⟩

set_option maxRecDepth 20000 in
theorem s_X7_redo (ht : TC n v S) (hh : HC k (u + 1) h S) (hok : Hok n k (u + 1) h) : Rqi a mX7_redo 1 [.ref (a 0)] S (fun r S' => r = nI u ∧ Kp [1] S S' ∧ TC n (up2 v (h k 1) (h k 0) (h k 3)) S' ∧ HC (k + 1) u h S') := by
  show J _ _ _ _ 0 [_] [] _
  refine j_ald0 dX7_redo_0 ?_
  refine j_getR (k := 0) (1) dX7_redo_1 cX7_ok (Or.inl f7_12) rfl (by decide) (by decide) (by decide) rfl ?_
  refine j_qiV0 dX7_redo_4 kX6_doChangeAgain l7_255 rfl (by decide) rfl (Nat.le_of_ble_eq_true rfl) (Nat.le_of_ble_eq_true rfl) (by omega) (s_X6_dca ht hh hok) (fun r1 S1 h1 => ?_)
  obtain ⟨rfl, h1⟩ := h1
  refine j_ifeq 20 dX7_redo_7 (by decide) (fun c_7 => absurd c_7 (by decide)) (fun c_7 => ?_)
  refine j_ald0 dX7_redo_10 ?_
  refine j_getR (k := 0) (1) dX7_redo_11 cX7_ok (Or.inl f7_12) rfl (by decide) (by decide) (by decide) rfl ?_
  refine j_getI (k := 8) dX7_redo_14 cX6_ok (Or.inr ⟨_, f7_258⟩) rfl (by decide) (by decide) (by decide) ?_
  refine j_top (y := nI u) (h1.2.2.choose_spec.2.2.2.1) ?_
  refine j_goto 22 dX7_redo_17 (by decide) ?_
  refine j_iret dX7_redo_22 rfl ?_
  exact ⟨_, rfl, rfl, h1⟩

end MendOf
