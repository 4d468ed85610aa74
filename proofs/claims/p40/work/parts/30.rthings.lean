/-! the reference's things -/
def hj (f : Nat) : Nat := [74, 73, 75, 76].getD f 0
theorem w12 {w : Nat} (h : w < 12) : w = 0 ∨ w = 1 ∨ w = 2 ∨ w = 3 ∨ w = 4 ∨ w = 5 ∨ w = 6 ∨ w = 7 ∨ w = 8 ∨ w = 9 ∨ w = 10 ∨ w = 11 := by omega
theorem le_lt {x : Int32} {c : Nat} (hc : c + 1 < 2 ^ 31) : x ≤ nI c ↔ x < nI (c + 1) := by
  rw [Int32.le_iff_toInt_le, Int32.lt_iff_toInt_lt, nI_toInt (by omega), nI_toInt hc]; omega
section RThings
variable {a : Nat → Nat} {S : St} {n k u : Nat} {v h : Nat → Nat → Nat}
end RThings

