/-! a law's text: how the reference keeps it -/
section KeepRef
variable {a : Nat → Nat} {S0 S : St} {t : Nat → Nat} {len : Nat}
/-- a program in the reference's cells -/
def PgR (ls : List Line) (S : St) : Prop := (stO ls).length ≤ 120 ∧ ls.length ≤ 60 ∧ (∀ i, i < (stO ls).length → S.1 79 i = sgA ((stO ls).getD i 0) ∧ S.1 80 i = sgW ((stO ls).getD i 0)) ∧ S.1 81 0 = nI ls.length ∧ ∀ k, k < ls.length → S.1 82 k = nI (tE ls k) ∧ S.1 83 k = nI (lE ls k)
theorem PgR.kp {ls : List Line} {S S' : St} {rs : List Nat} (h : PgR ls S) (hk : Kp rs S S') (hr : 13 ∉ rs) : PgR ls S' :=
  ⟨h.1, h.2.1, fun i hi => ⟨by rw [hk.i (show rg 79 i ∉ rs from hr)]; exact (h.2.2.1 i hi).1, by rw [hk.i (show rg 80 i ∉ rs from hr)]; exact (h.2.2.1 i hi).2⟩, by rw [hk.i (show rg 81 0 ∉ rs from hr)]; exact h.2.2.2.1, fun k hk2 => ⟨by rw [hk.i (show rg 82 k ∉ rs from hr)]; exact (h.2.2.2.2 k hk2).1, by rw [hk.i (show rg 83 k ∉ rs from hr)]; exact (h.2.2.2.2 k hk2).2⟩⟩
end KeepRef

