/-! weight: both sides -/
theorem s2 {s : Nat} (h : s < 2) : s = 0 ∨ s = 1 := by omega
section WeightF
variable {a : Nat → Nat} {S : St} {n : Nat} {v : Nat → Nat → Nat} {b : Option (List Line)}
theorem WCq.at {i s : Nat} (h : WCq v b n S) (hi : i < n) (hs : s < 2) : S.1 (37 + i) s = nI (wtN v b i s) := by
  rcases s2 hs with rfl | rfl
  · exact (h i hi).1
  · exact (h i hi).2
end WeightF

