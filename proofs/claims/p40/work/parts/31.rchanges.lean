/-! the reference: changes, undone, done again -/
section RChanges
variable {a : Nat → Nat} {S : St} {n k u : Nat} {v h : Nat → Nat → Nat}
theorem TR.uI_v {n : Nat} {v : Nat → Nat → Nat} {S : St} (h : TR n v S) {w i x : Nat} (hw : w < 12) (hi : i < capN w) (hx : x ≤ mostN w) : TR n (up2 v w i x) (uI S (rj w) (rk w i) (nI x)) := by
  refine ⟨?_, h.2.1, fun w' hw' i' hi' => ?_, fun w' hw' i' hi' => ?_⟩
  · rw [uI_at, if_neg, h.1]
    rcases w12 hw with rfl | rfl | rfl | rfl | rfl | rfl | rfl | rfl | rfl | rfl | rfl | rfl <;> simp [rj, rk]
  · rw [uI_at]
    unfold up2
    by_cases e : w' = w ∧ i' = i
    · rw [if_pos (by rw [e.1, e.2]; exact ⟨rfl, rfl⟩), if_pos e]
    · rw [if_neg e, if_neg, h.2.2.1 w' hw' i' hi']
      intro z
      apply e
      rcases w12 hw with rfl | rfl | rfl | rfl | rfl | rfl | rfl | rfl | rfl | rfl | rfl | rfl <;> rcases w12 hw' with rfl | rfl | rfl | rfl | rfl | rfl | rfl | rfl | rfl | rfl | rfl | rfl <;> simp [rj, rk, capN] at z hi hi' ⊢ <;> omega
  · unfold up2
    split
    · next e => rw [e.1]; exact hx
    · exact h.2.2.2 w' hw' i' hi'
theorem rj_hj {w f : Nat} (hw : w < 12) (hf : f < 4) : hj f ≠ rj w := by
  rcases w12 hw with rfl | rfl | rfl | rfl | rfl | rfl | rfl | rfl | rfl | rfl | rfl | rfl <;> rcases f4 hf with rfl | rfl | rfl | rfl <;> decide
theorem rk_61 {w i : Nat} (hw : w < 12) : ¬ (61 = rj w ∧ 15 = rk w i) ∧ ¬ (61 = rj w ∧ 16 = rk w i) := by
  rcases w12 hw with rfl | rfl | rfl | rfl | rfl | rfl | rfl | rfl | rfl | rfl | rfl | rfl <;> simp [rj, rk]
theorem HR.uI_v {k u : Nat} {h : Nat → Nat → Nat} {S : St} {w i : Nat} {x : Int32} (hh : HR k u h S) (hw : w < 12) : HR k u h (uI S (rj w) (rk w i) x) := by
  refine ⟨?_, ?_, hh.2.2.1, fun i' hi f hf => ?_⟩
  · rw [uI_at, if_neg (rk_61 hw).1]; exact hh.1
  · rw [uI_at, if_neg (rk_61 hw).2]; exact hh.2.1
  · rw [uI_at, if_neg (fun z => rj_hj hw hf z.1)]; exact hh.2.2.2 i' hi f hf
end RChanges

