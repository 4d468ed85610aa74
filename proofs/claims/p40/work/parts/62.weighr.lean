/-! weights: the reference -/
section WeighR
variable {a : Nat → Nat} {S0 S : St} {e : Nat → Int32}
def clm (x : Int32) : Int32 := if x < 0 then 0 else if 3 < x then 3 else x
theorem clm_n (x : Int32) : ∃ k, k ≤ 3 ∧ clm x = nI k := by
  unfold clm
  split
  · exact ⟨0, by decide, rfl⟩
  · next c =>
    split
    · exact ⟨3, by decide, rfl⟩
    · next c2 =>
      obtain ⟨k, hk, e⟩ := in_nI (x := x) (n := 4) (by decide) ⟨Int32.not_lt.mp c, (le_lt (c := 3) (by decide)).mp (Int32.not_lt.mp c2)⟩
      exact ⟨k, by omega, e⟩
def ownN (v : Nat → Nat → Nat) (b : Option (List Line)) (i s : Nat) : Nat := match b with
  | none => 1
  | some ls => (clm (lawI (envC v i s) ls)).toNatClampNeg
theorem ownN_le (v : Nat → Nat → Nat) (b : Option (List Line)) (i s : Nat) : ownN v b i s ≤ 3 := by
  cases b with
  | none => exact (by decide : (1 : Nat) ≤ 3)
  | some ls =>
    obtain ⟨k, hk, e⟩ := clm_n (lawI (envC v i s) ls)
    show (clm _).toNatClampNeg ≤ 3
    rw [e, nI_clamp (by omega)]; exact hk
theorem clm_own (v : Nat → Nat → Nat) (ls : List Line) (i s : Nat) : clm (lawI (envC v i s) ls) = nI (ownN v (some ls) i s) := by
  obtain ⟨k, hk, e⟩ := clm_n (lawI (envC v i s) ls)
  show _ = nI (clm _).toNatClampNeg
  rw [e, nI_clamp (by omega)]
/-- the weight of a side -/
def wtN (v : Nat → Nat → Nat) (b : Option (List Line)) (i s : Nat) : Nat := if ownN v b i 0 = 0 ∧ ownN v b i 1 = 0 then 1 else ownN v b i s
theorem wtN_le (v : Nat → Nat → Nat) (b : Option (List Line)) (i s : Nat) : wtN v b i s ≤ 3 := by
  unfold wtN; split
  · decide
  · exact ownN_le v b i s
theorem wtN_sum (v : Nat → Nat → Nat) (b : Option (List Line)) (i : Nat) : 1 ≤ wtN v b i 0 + wtN v b i 1 := by
  unfold wtN; split <;> omega
def WCq (v : Nat → Nat → Nat) (b : Option (List Line)) (n : Nat) (S : St) : Prop := ∀ i, i < n → S.1 (37 + i) 0 = nI (wtN v b i 0) ∧ S.1 (37 + i) 1 = nI (wtN v b i 1)
end WeighR
section WeighR2
variable {a : Nat → Nat} {S : St} {n : Nat} {v : Nat → Nat → Nat} {b : Option (List Line)}
end WeighR2

