/-! a law's text: how the reference reads it -/
/-- the step that a piece of code is -/
def sgA (x : Int32) : Int32 := if 0 ≤ x then 1 else if x = -97 ∨ x = -98 ∨ x = -110 ∨ x = -109 ∨ x = -115 then 2 else if x = -33 then 3 else if x = -95 then 4 else -x
def sgW (x : Int32) : Int32 := if 0 ≤ x then x else if x = -98 then 1 else if x = -110 then 2 else if x = -109 then 3 else if x = -115 then 4 else 0
section ReadR
variable {a : Nat → Nat} {S0 S : St} {t : Nat → Nat} {len : Nat}
/-- while a text is read: what stays, and the text -/
def RBq (S0 : St) (t : Nat → Nat) (len : Nat) (S : St) : Prop := Kp [13, 14] S0 S ∧ S.1 61 36 = S0.1 61 36 ∧ (∀ k, k < 130 → S.1 79 k = S0.1 79 k ∧ S.1 80 k = S0.1 80 k) ∧ (∀ k, S.1 81 k = S0.1 81 k ∧ S.1 82 k = S0.1 82 k ∧ S.1 83 k = S0.1 83 k) ∧ S.1 61 24 = nI len ∧ ∀ i, i < len → S.1 78 i = (nI (t i)).toInt8.toInt32
/-- the steps so far being l -/
def stepsR (l : List Int32) (S : St) : Prop := ∀ i, i < l.length → S.1 79 (130 + i) = sgA (l.getD i 0) ∧ S.1 80 (130 + i) = sgW (l.getD i 0) ∧ (sgA (l.getD i 0)).toInt8.toInt32 = sgA (l.getD i 0)
def ROq (S0 : St) (t : Nat → Nat) (len p op : Nat) (l : List Int32) (S : St) : Prop := RBq S0 t len S ∧ S.1 61 25 = nI p ∧ S.1 61 26 = -1 ∧ S.1 61 27 = nI op ∧ S.1 61 28 = nI l.length ∧ stepsR l S
theorem RBq.put61 {k : Nat} {x : Int32} (h : RBq S0 t len S) (hk : k ≠ 36 ∧ k ≠ 24) (hr : rg 61 k ∈ [13, 14]) : RBq S0 t len (uI S 61 k x) := by
  refine ⟨Kp_uI h.1 hr, ?_, fun i hi => ?_, fun i => ?_, ?_, fun i hi => ?_⟩
  · rw [uI_at, if_neg (by omega)]; exact h.2.1
  · rw [uI_at, if_neg (by omega), uI_at, if_neg (by omega)]; exact h.2.2.1 i hi
  · rw [uI_at, if_neg (by omega), uI_at, if_neg (by omega), uI_at, if_neg (by omega)]; exact h.2.2.2.1 i
  · rw [uI_at, if_neg (by omega)]; exact h.2.2.2.2.1
  · rw [uI_at, if_neg (by omega)]; exact h.2.2.2.2.2 i hi
theorem stepsR.put61 {l : List Int32} {k : Nat} {x : Int32} (h : stepsR l S) : stepsR l (uI S 61 k x) := fun i hi => by
  rw [uI_at, if_neg (by omega), uI_at, if_neg (by omega)]; exact h i hi
theorem ROq.adv {p op : Nat} {l : List Int32} (h : ROq S0 t len p op l S) {q : Nat} : ROq S0 t len q op l (uI S 61 25 (nI q)) :=
  ⟨h.1.put61 (by decide) (by decide), by rw [uI_at, if_pos ⟨rfl, rfl⟩], by rw [uI_at, if_neg (by omega)]; exact h.2.2.1, by rw [uI_at, if_neg (by omega)]; exact h.2.2.2.1, by rw [uI_at, if_neg (by omega)]; exact h.2.2.2.2.1, h.2.2.2.2.2.put61⟩
end ReadR

