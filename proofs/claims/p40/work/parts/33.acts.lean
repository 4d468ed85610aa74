/-! acts -/
def AC (b : Nat) (kd : Nat → Nat) (T : List Nat) (S : St) : Prop := S.1 6 1 = nI b ∧ b ≤ 50 ∧ (∀ i, i < b → S.1 53 i = nI (kd i) ∧ kd i < 8) ∧ S.1 6 3 = nI T.length ∧ ∀ i, i < T.length → i < 24 → S.1 54 i = nI (T.getD i 0)
section Acts
variable {a : Nat → Nat} {S : St} {b : Nat} {kd : Nat → Nat} {T : List Nat}
theorem AC.kp {rs : List Nat} {S' : St} (h : AC b kd T S) (hk : Kp rs S S') (hr : 6 ∉ rs) : AC b kd T S' := ⟨by rw [hk.i (show rg 6 1 ∉ rs from hr)]; exact h.1, h.2.1, fun i hi => by rw [hk.i (show rg 53 i ∉ rs from hr)]; exact h.2.2.1 i hi, by rw [hk.i (show rg 6 3 ∉ rs from hr)]; exact h.2.2.2.1, fun i hi hj => by rw [hk.i (show rg 54 i ∉ rs from hr)]; exact h.2.2.2.2 i hi hj⟩
end Acts

