/-! the reference's things -/
def rj (w : Nat) : Nat := [62, 63, 64, 66, 67, 68, 69, 70, 71, 61, 61, 72].getD w 0
def rk (w i : Nat) : Nat := if w = 9 then 12 else if w = 10 then 13 else i
def capN (w : Nat) : Nat := [8, 8, 8, 4, 4, 4, 4, 4, 6, 1, 1, 3].getD w 0
def TR (n : Nat) (v : Nat → Nat → Nat) (S : St) : Prop := S.1 61 1 = nI n ∧ n ≤ 8 ∧ (∀ w, w < 12 → ∀ i, i < capN w → S.1 (rj w) (rk w i) = nI (v w i)) ∧ ∀ w, w < 12 → ∀ i, i < 8 → v w i ≤ mostN w
def hj (f : Nat) : Nat := [74, 73, 75, 76].getD f 0
def HR (k u : Nat) (h : Nat → Nat → Nat) (S : St) : Prop := S.1 61 15 = nI k ∧ S.1 61 16 = nI u ∧ k + u ≤ 40 ∧ ∀ i, i < k + u → ∀ f, f < 4 → S.1 (hj f) i = nI (h i f)
theorem w12 {w : Nat} (h : w < 12) : w = 0 ∨ w = 1 ∨ w = 2 ∨ w = 3 ∨ w = 4 ∨ w = 5 ∨ w = 6 ∨ w = 7 ∨ w = 8 ∨ w = 9 ∨ w = 10 ∨ w = 11 := by omega
theorem f4 {f : Nat} (h : f < 4) : f = 0 ∨ f = 1 ∨ f = 2 ∨ f = 3 := by omega
theorem le_lt {x : Int32} {c : Nat} (hc : c + 1 < 2 ^ 31) : x ≤ nI c ↔ x < nI (c + 1) := by
  rw [Int32.le_iff_toInt_le, Int32.lt_iff_toInt_lt, nI_toInt (by omega), nI_toInt hc]; omega
section RThings
variable {a : Nat → Nat} {S : St} {n k u : Nat} {v h : Nat → Nat → Nat}
theorem TR.sum (h : TR n v S) {k : Nat} (hk : k ≤ 8) : sumN (v 0) k ≤ 72 := by
  have := sumN_le (f := v 0) (b := 9) k (fun i hi => h.2.2.2 0 (by decide) i (by omega))
  omega
theorem TR.kp {rs : List Nat} {S' : St} (h : TR n v S) (hk : Kp rs S S') (hr : 11 ∉ rs) : TR n v S' := by
  refine ⟨by rw [hk.i (show rg 61 1 ∉ rs from hr)]; exact h.1, h.2.1, fun w hw i hi => ?_, h.2.2.2⟩
  rw [hk.i, h.2.2.1 w hw i hi]
  rcases w12 hw with rfl | rfl | rfl | rfl | rfl | rfl | rfl | rfl | rfl | rfl | rfl | rfl <;> exact hr
theorem HR.kp {rs : List Nat} {S' : St} (hh : HR k u h S) (hk : Kp rs S S') (hr : 11 ∉ rs) : HR k u h S' := by
  refine ⟨by rw [hk.i (show rg 61 15 ∉ rs from hr)]; exact hh.1, by rw [hk.i (show rg 61 16 ∉ rs from hr)]; exact hh.2.1, hh.2.2.1, fun i hi f hf => ?_⟩
  rw [hk.i, hh.2.2.2 i hi f hf]
  rcases f4 hf with rfl | rfl | rfl | rfl <;> exact hr
end RThings

