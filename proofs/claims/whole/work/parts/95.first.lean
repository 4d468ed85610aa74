/-! what holds at first -/
theorem inv_TC : ∀ w, w < 12 → ∀ i, i < 8 → S00.1 (16 + w) i = nI (if i < capN w then at1N w else 0) := by decide +kernel
theorem inv_TR : ∀ w, w < 12 → ∀ i, i < capN w → S00.1 (rj w) (rk w i) = nI (if i < capN w then at1N w else 0) := by decide +kernel
theorem inv_b : ∀ w, w < 12 → at1N w ≤ mostN w := by decide
theorem inv_sh : ∀ i, i < 6 → S00.1 (8 + i) 0 = 0 ∧ S00.1 (8 + i) 3 = 0 ∧ S00.1 96 i = -1 ∧ S00.1 97 i = 0 := by decide +kernel
theorem n01 : ¬ (0 : Nat) = 1 := by decide
theorem n02 : ¬ (0 : Nat) = 2 := by decide
theorem inv_0 : Inv 0 S00 := by
  have hv : ∀ w, w < 12 → ∀ i, i < 8 → (if i < capN w then at1N w else 0) ≤ mostN w := fun w hw i _ => by
    split
    · exact inv_b w hw
    · exact Nat.zero_le _
  refine ⟨0, fun w i => if i < capN w then at1N w else 0, 0, 0, fun _ _ => 0, fun _ => 0, fun _ => 0, 0, none, 0, fun _ => 0, [], fun _ _ => 0, fun _ _ => 0, 0, fun _ => 0, none, ⟨⟨rfl, by decide, inv_TC, hv⟩, ⟨0, by decide, rfl, rfl, rfl, by decide, fun i hi => absurd hi (Nat.not_lt_zero _)⟩, ⟨fun i _ => rfl, fun c _ => rfl, rfl⟩, rfl, ⟨rfl, by decide, fun i hi => absurd hi (Nat.not_lt_zero _), rfl, fun i hi => absurd hi (Nat.not_lt_zero _)⟩, fun i hi => ⟨(inv_sh i hi).1, fun h => absurd h n01, fun h => absurd h n02, (inv_sh i hi).2.1, fun k _ => rfl⟩, ⟨rfl, by decide, fun i hi => absurd hi (Nat.not_lt_zero _)⟩, ?_⟩, ⟨⟨rfl, by decide, inv_TR, hv⟩, ⟨rfl, rfl, by decide, fun i hi => absurd hi (Nat.not_lt_zero _)⟩, ⟨fun i _ => rfl, fun c _ => rfl, rfl⟩, rfl, ⟨rfl, by decide, fun i hi => absurd hi (Nat.not_lt_zero _), rfl, fun i hi => absurd hi (Nat.not_lt_zero _)⟩, fun i hi => ⟨(inv_sh i hi).2.2.1, (inv_sh i hi).2.2.2, fun k _ => rfl⟩, ⟨rfl, by decide, fun i hi => absurd hi (Nat.not_lt_zero _)⟩, ?_⟩, fun i hi => absurd hi (Nat.not_lt_zero _), ⟨fun i _ => Nat.le_refl _, fun i _ => rfl, by decide, fun m hm => by cases hm⟩, ⟨by decide, fun i _ => ⟨Nat.zero_le _, fun h => absurd h n01, fun h => absurd h n02, Nat.zero_le _⟩⟩, fun i _ h => absurd h n02, fun ls h => (by cases h), by decide⟩
  · exact ⟨Or.inl ⟨rfl, rfl⟩, rfl, by decide, fun i hi => absurd hi (Nat.not_lt_zero _)⟩
  · rfl
