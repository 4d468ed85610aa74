/-! acts: the reference, and the class's face -/
def AR (b : Nat) (kd : Nat → Nat) (T : List Nat) (S : St) : Prop := S.1 61 50 = nI b ∧ b ≤ 50 ∧ (∀ i, i < b → S.1 94 i = nI (kd i) ∧ kd i < 8) ∧ S.1 61 52 = nI T.length ∧ ∀ i, i < T.length → i < 24 → S.1 95 i = nI (T.getD i 0)
section RActs
variable {a : Nat → Nat} {S : St} {b : Nat} {kd : Nat → Nat} {T : List Nat}
theorem AR.kp {rs : List Nat} {S' : St} (h : AR b kd T S) (hk : Kp rs S S') (hr : 16 ∉ rs) : AR b kd T S' := ⟨by rw [hk.i (show rg 61 50 ∉ rs from hr)]; exact h.1, h.2.1, fun i hi => by rw [hk.i (show rg 94 i ∉ rs from hr)]; exact h.2.2.1 i hi, by rw [hk.i (show rg 61 52 ∉ rs from hr)]; exact h.2.2.2.1, fun i hi hj => by rw [hk.i (show rg 95 i ∉ rs from hr)]; exact h.2.2.2.2 i hi hj⟩

end RActs

