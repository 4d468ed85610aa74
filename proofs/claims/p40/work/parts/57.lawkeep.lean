/-! a law's text: how the reference keeps it -/
section KeepRef
variable {a : Nat → Nat} {S0 S : St} {t : Nat → Nat} {len : Nat}
/-- a program in the reference's cells -/
def PgR (ls : List Line) (S : St) : Prop := (stO ls).length ≤ 120 ∧ ls.length ≤ 60 ∧ (∀ i, i < (stO ls).length → S.1 79 i = sgA ((stO ls).getD i 0) ∧ S.1 80 i = sgW ((stO ls).getD i 0)) ∧ S.1 81 0 = nI ls.length ∧ ∀ k, k < ls.length → S.1 82 k = nI (tE ls k) ∧ S.1 83 k = nI (lE ls k)
/-- the law in the reference's cells -/
def LawR (b : Option (List Line)) (S : St) : Prop := match b with
  | none => S.1 61 36 = 0
  | some ls => S.1 61 36 = 1 ∧ PgR ls S
theorem PgR.kp {ls : List Line} {S S' : St} {rs : List Nat} (h : PgR ls S) (hk : Kp rs S S') (hr : 13 ∉ rs) : PgR ls S' :=
  ⟨h.1, h.2.1, fun i hi => ⟨by rw [hk.i (show rg 79 i ∉ rs from hr)]; exact (h.2.2.1 i hi).1, by rw [hk.i (show rg 80 i ∉ rs from hr)]; exact (h.2.2.1 i hi).2⟩, by rw [hk.i (show rg 81 0 ∉ rs from hr)]; exact h.2.2.2.1, fun k hk2 => ⟨by rw [hk.i (show rg 82 k ∉ rs from hr)]; exact (h.2.2.2.2 k hk2).1, by rw [hk.i (show rg 83 k ∉ rs from hr)]; exact (h.2.2.2.2 k hk2).2⟩⟩
theorem LawR.kp {b : Option (List Line)} {S S' : St} {rs : List Nat} (h : LawR b S) (hk : Kp rs S S') (hr : 13 ∉ rs) : LawR b S' := by
  have e := hk.i (show rg 61 36 ∉ rs from hr)
  cases b with
  | none => exact e.trans h
  | some ls => exact ⟨e.trans h.1, h.2.kp hk hr⟩
def lowR (S0 S : St) : Prop := S.1 61 36 = S0.1 61 36 ∧ (∀ k, k < 130 → S.1 79 k = S0.1 79 k ∧ S.1 80 k = S0.1 80 k) ∧ S.1 81 0 = S0.1 81 0 ∧ ∀ k, k < 61 → S.1 82 k = S0.1 82 k ∧ S.1 83 k = S0.1 83 k
theorem LawR.keep {b : Option (List Line)} (h : LawR b S0) (hl : lowR S0 S) : LawR b S := by
  cases b with
  | none => exact hl.1.trans h
  | some ls =>
    obtain ⟨h1, h2, h3, h4, h5, h6⟩ := h
    exact ⟨hl.1.trans h1, h2, h3, fun i hi => ⟨((hl.2.1 i (by omega)).1).trans (h4 i hi).1, ((hl.2.1 i (by omega)).2).trans (h4 i hi).2⟩, hl.2.2.1.trans h5, fun k hk => ⟨((hl.2.2.2 k (by omega)).1).trans (h6 k hk).1, ((hl.2.2.2 k (by omega)).2).trans (h6 k hk).2⟩⟩
end KeepRef

