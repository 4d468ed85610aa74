/-! a law's text: how the reference reads it whole -/
def stO (ls : List Line) : List Int32 := (ls.map fun l => l.1 ++ l.2).flatten
def tE (ls : List Line) (k : Nat) : Nat := (stO (ls.take k)).length + (ls.getD k ([], [])).1.length
def lE (ls : List Line) (k : Nat) : Nat := (stO (ls.take (k + 1))).length
section TextRef
variable {a : Nat → Nat} {S0 S : St} {t : Nat → Nat} {len : Nat}
/-- while lines are read: what stays, and the text -/
def RBt (S0 : St) (t : Nat → Nat) (len : Nat) (S : St) : Prop := Kp [13, 14] S0 S ∧ S.1 61 36 = S0.1 61 36 ∧ (∀ k, k < 130 → S.1 79 k = S0.1 79 k ∧ S.1 80 k = S0.1 80 k) ∧ S.1 81 0 = S0.1 81 0 ∧ (∀ k, k < 61 → S.1 82 k = S0.1 82 k ∧ S.1 83 k = S0.1 83 k) ∧ S.1 61 24 = nI len ∧ ∀ i, i < len → S.1 78 i = (nI (t i)).toInt8.toInt32
theorem RBt.q (h : RBt S0 t len S) : RBq S t len S := ⟨Kp.rf, rfl, fun _ _ => ⟨rfl, rfl⟩, fun _ => ⟨rfl, rfl, rfl⟩, h.2.2.2.2.2.1, h.2.2.2.2.2.2⟩
theorem RBt.tr {S' : St} (h : RBt S0 t len S) (h2 : RBq S t len S') : RBt S0 t len S' :=
  ⟨h.1.tr h2.1, h2.2.1.trans h.2.1, fun k hk => ⟨(h2.2.2.1 k hk).1.trans (h.2.2.1 k hk).1, (h2.2.2.1 k hk).2.trans (h.2.2.1 k hk).2⟩, ((h2.2.2.2.1 0).1).trans h.2.2.2.1, fun k hk => ⟨((h2.2.2.2.1 k).2.1).trans (h.2.2.2.2.1 k hk).1, ((h2.2.2.2.1 k).2.2).trans (h.2.2.2.2.1 k hk).2⟩, h2.2.2.2.2.1, h2.2.2.2.2.2⟩
theorem RBt.put61 {k : Nat} {x : Int32} (h : RBt S0 t len S) (hk : k ≠ 36 ∧ k ≠ 24) (hr : rg 61 k ∈ [13, 14]) : RBt S0 t len (uI S 61 k x) := h.tr (h.q.put61 hk hr)
end TextRef

