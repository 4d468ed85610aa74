/-! shown, which, again: both sides -/
section Shown
variable {a : Nat → Nat} {S : St} {n : Nat} {v : Nat → Nat → Nat} {b : Option (List Line)}
def hatN (v : Nat → Nat → Nat) (n : Nat) : Nat := sumN (v 0) n
abbrev shOk2 (x p : Int32) : Prop := (0 ≤ x ∧ x < 6) ∧ prt p
def shnV (v : Nat → Nat → Nat) (b : Option (List Line)) (n c : Nat) (p : Int32) : Int64 := lowV (lkA v b n c 1) (60 * hatN v n) p
/-- ten times a colour, and how often -/
abbrev ckOk (x : Int32) : Prop := 0 ≤ x ∧ (x / 10 < 6) ∧ 1 ≤ x - x / 10 * 10 ∧ x - x / 10 * 10 ≤ 4
theorem ck_nat {x : Int32} (h : ckOk x) : ∃ c k, c < 6 ∧ 1 ≤ k ∧ k ≤ 4 ∧ x / 10 = nI c ∧ x - x / 10 * 10 = nI k ∧ x.toNatClampNeg / 10 = c ∧ x.toNatClampNeg % 10 = k := by
  obtain ⟨X, hX, rfl⟩ := nI_ge0 h.1
  have e1 : nI X / 10 = nI (X / 10) := pk_div (a := X) (d := 10) hX (by decide) (by decide)
  have e2 : nI X - nI X / 10 * 10 = nI (X % 10) := pk_rem (a := X) (d := 10) hX (by decide) (by decide)
  have hm := Nat.mod_lt X (show 0 < 10 by decide)
  have h2 := h.2.1
  have h3 := h.2.2.1
  have h4 := h.2.2.2
  rw [e1] at h2
  rw [e2] at h3 h4
  have a2 := (nI_ltI (a := X / 10) (b := 6) (by omega) (by decide)).mp h2
  have a3 := (nI_leI (a := 1) (b := X % 10) (by decide) (by omega)).mp h3
  have a4 := (nI_leI (a := X % 10) (b := 4) (by omega) (by decide)).mp h4
  exact ⟨X / 10, X % 10, a2, a3, a4, e1, e2, by rw [nI_clamp hX], by rw [nI_clamp hX]⟩
def agV (v : Nat → Nat → Nat) (b : Option (List Line)) (n : Nat) (x p : Int32) : Int64 := lowV (lkA v b n (x.toNatClampNeg / 10) (x.toNatClampNeg % 10 + 1)) (lkA v b n (x.toNatClampNeg / 10) (x.toNatClampNeg % 10) * 60) p
def whV (v : Nat → Nat → Nat) (b : Option (List Line)) (n : Nat) (i x p : Int32) : Int64 := lowV (lkO v b i.toNatClampNeg (x.toNatClampNeg / 10) (x.toNatClampNeg % 10)) (lkA v b n (x.toNatClampNeg / 10) (x.toNatClampNeg % 10)) p
theorem lkA_62 {c k : Nat} (h : ∀ w, w < 12 → ∀ i, i < 8 → v w i ≤ mostN w) (hn : n ≤ 8) (hk : k ≤ 5) : lkA v b n c k ≤ 8 * (9 * 60 ^ 5) := Nat.le_trans (lkA_le h hn hk) (Nat.mul_le_mul_right _ hn)

theorem ck_div0 {x : Int32} (h : 0 ≤ x) : 0 ≤ x / 10 := by
  obtain ⟨X, hX, rfl⟩ := nI_ge0 h
  rw [show nI X / 10 = nI (X / 10) from pk_div (a := X) (d := 10) hX (by decide) (by decide)]
  exact nI_pos' (by omega)
set_option maxRecDepth 20000 in
theorem s_X7_mayBeTimes {x : Int32} : Rt a mX7_mayBeTimes 1 [.int x] S (some (.int (bi (ckOk x)))) S := by
  show J _ _ _ _ 0 [_] [] _
  refine j_ild0 dX7_mayBeTimes_0 ?_
  refine j_iflt 36 dX7_mayBeTimes_1 (by decide) (fun c_1 => ?_) (fun c_1 => ?_)
  · refine j_iconst (0) dX7_mayBeTimes_36 rfl ?_
    refine j_zret dX7_mayBeTimes_37 rfl (by decide) ?_
    exact ⟨by rw [bi_f (fun z => absurd c_1 (Int32.not_lt.mpr z.1))], rfl⟩
  refine j_ild0 dX7_mayBeTimes_4 ?_
  refine j_bipush (10) dX7_mayBeTimes_5 rfl ?_
  refine j_idiv dX7_mayBeTimes_7 (by decide) ?_
  refine j_bipush (6) dX7_mayBeTimes_8 rfl ?_
  refine j_cS2 dX7_mayBeTimes_10 kX7_within zX7_within (Or.inl l7_72) (Nat.le_of_ble_eq_true rfl) (Nat.le_of_ble_eq_true rfl) (by omega) (s_X7_within) ?_
  refine j_ifeqB 36 dX7_mayBeTimes_13 (by decide) (fun c_13 => ?_) (fun c_13 => ?_)
  · refine j_iconst (0) dX7_mayBeTimes_36 rfl ?_
    refine j_zret dX7_mayBeTimes_37 rfl (by decide) ?_
    exact ⟨by rw [bi_f (fun z => c_13 ⟨ck_div0 z.1, z.2.1⟩)], rfl⟩
  refine j_ild0 dX7_mayBeTimes_16 ?_
  refine j_bipush (10) dX7_mayBeTimes_17 rfl ?_
  refine j_irem dX7_mayBeTimes_19 (by decide) ?_
  refine j_iconst (1) dX7_mayBeTimes_20 rfl ?_
  refine j_icmplt 36 dX7_mayBeTimes_21 (by decide) (fun c_21 => ?_) (fun c_21 => ?_)
  · refine j_iconst (0) dX7_mayBeTimes_36 rfl ?_
    refine j_zret dX7_mayBeTimes_37 rfl (by decide) ?_
    exact ⟨by rw [bi_f (fun z => absurd c_21 (Int32.not_lt.mpr z.2.2.1))], rfl⟩
  refine j_ild0 dX7_mayBeTimes_24 ?_
  refine j_bipush (10) dX7_mayBeTimes_25 rfl ?_
  refine j_irem dX7_mayBeTimes_27 (by decide) ?_
  refine j_iconst (4) dX7_mayBeTimes_28 rfl ?_
  refine j_icmpgt 36 dX7_mayBeTimes_29 (by decide) (fun c_29 => ?_) (fun c_29 => ?_)
  · refine j_iconst (0) dX7_mayBeTimes_36 rfl ?_
    refine j_zret dX7_mayBeTimes_37 rfl (by decide) ?_
    exact ⟨by rw [bi_f (fun z => absurd c_29 (Int32.not_lt.mpr z.2.2.2))], rfl⟩
  refine j_iconst (1) dX7_mayBeTimes_32 rfl ?_
  refine j_goto 37 dX7_mayBeTimes_33 (by decide) ?_
  refine j_zret dX7_mayBeTimes_37 rfl (by decide) ?_
  exact ⟨by rw [bi_t ⟨Int32.not_lt.mp c_1, c_13.2, Int32.not_lt.mp c_21, Int32.not_lt.mp c_29⟩], rfl⟩

end Shown

