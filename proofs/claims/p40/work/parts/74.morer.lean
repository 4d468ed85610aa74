/-! chances with one more of a card: the reference -/
/-- the cards alone, of one of which there may be one more -/
def TRw (n : Nat) (v : Nat → Nat → Nat) (S : St) : Prop := S.1 61 1 = nI n ∧ n ≤ 8 ∧ (∀ w, w < 3 → ∀ i, i < 8 → S.1 (62 + w) i = nI (v w i)) ∧ ∀ w, w < 3 → ∀ i, i < 8 → v w i ≤ mostN w + 1
theorem TRw.kp {n : Nat} {v : Nat → Nat → Nat} {S S' : St} {rs : List Nat} (h : TRw n v S) (hk : Kp rs S S') (hr : 11 ∉ rs) : TRw n v S' := by
  refine ⟨by rw [hk.i (show rg 61 1 ∉ rs from hr)]; exact h.1, h.2.1, fun w hw i hi => ?_, h.2.2.2⟩
  rw [hk.i, h.2.2.1 w hw i hi]
  rcases (show w = 0 ∨ w = 1 ∨ w = 2 by omega) with rfl | rfl | rfl <;> exact hr
section MoreR
variable {a : Nat → Nat} {S : St} {n : Nat} {v : Nat → Nat → Nat} {b : Option (List Line)}

end MoreR

