/-! regions of the cells, and what is kept -/
def rgA : List Nat := [0, 1, 0, 0, 0, 0, 6, 0, 7, 7, 7, 7, 7, 7, 2, 0, 1, 1, 1, 1, 1, 1, 1, 1, 1, 1, 1, 1, 1, 1, 1, 1, 3, 3, 4, 4, 0, 8, 8, 8, 8, 8, 8, 8, 8, 4, 4, 4, 5, 5, 5, 5, 5, 6, 6, 7, 7, 7, 7, 7, 7]
def rg2 : List Nat := [4, 3, 4, 4, 4, 4, 4, 4, 4, 4, 4, 4, 4, 4, 4]
def rg5 : List Nat := [4, 0, 0, 5, 0, 0, 0, 5, 5]
def rg (j k : Nat) : Nat := if j = 2 then rg2.getD k 0 else if j = 5 then rg5.getD k 0 else if j = 0 then (if k = 8 then 2 else 0) else rgA.getD j 0
/-- what lies outside the regions rs stays -/
def Kp (rs : List Nat) (S S' : St) : Prop := (∀ j k, rg j k ∉ rs → S'.1 j k = S.1 j k ∧ S'.2.1 j k = S.2.1 j k) ∧ (3 ∉ rs → S'.2.2 = S.2.2)
theorem Kp.rf {rs : List Nat} {S : St} : Kp rs S S := ⟨fun _ _ _ => ⟨rfl, rfl⟩, fun _ => rfl⟩
theorem Kp.tr {rs : List Nat} {S S1 S2 : St} (h1 : Kp rs S S1) (h2 : Kp rs S1 S2) : Kp rs S S2 := ⟨fun j k h => ⟨(h2.1 j k h).1.trans (h1.1 j k h).1, (h2.1 j k h).2.trans (h1.1 j k h).2⟩, fun h => (h2.2 h).trans (h1.2 h)⟩
theorem Kp.wk {rs rs' : List Nat} {S S1 : St} (h1 : Kp rs S S1) (h : ∀ x ∈ rs, x ∈ rs') : Kp rs' S S1 := ⟨fun j k q => h1.1 j k (fun z => q (h _ z)), fun q => h1.2 (fun z => q (h _ z))⟩
theorem Kp.i {rs : List Nat} {S S' : St} (h : Kp rs S S') {j k : Nat} (hr : rg j k ∉ rs) : S'.1 j k = S.1 j k := (h.1 j k hr).1
theorem Kp.l {rs : List Nat} {S S' : St} (h : Kp rs S S') {j k : Nat} (hr : rg j k ∉ rs) : S'.2.1 j k = S.2.1 j k := (h.1 j k hr).2
theorem Kp_uI {rs : List Nat} {S S1 : St} {j k : Nat} {v : Int32} (h : Kp rs S S1) (hr : rg j k ∈ rs) : Kp rs S (uI S1 j k v) := by
  refine ⟨fun j' k' q => ?_, fun q => h.2 q⟩
  have hne : ¬ (j' = j ∧ k' = k) := fun e => q (by rw [e.1, e.2]; exact hr)
  exact ⟨by rw [uI_at, if_neg hne]; exact (h.1 j' k' q).1, (h.1 j' k' q).2⟩
theorem Kp_uL {rs : List Nat} {S S1 : St} {j k : Nat} {v : Int64} (h : Kp rs S S1) (hr : rg j k ∈ rs) : Kp rs S (uL S1 j k v) := by
  refine ⟨fun j' k' q => ?_, fun q => h.2 q⟩
  have hne : ¬ (j' = j ∧ k' = k) := fun e => q (by rw [e.1, e.2]; exact hr)
  exact ⟨(h.1 j' k' q).1, by rw [uL_at, if_neg hne]; exact (h.1 j' k' q).2⟩
theorem Kp_sI {rs : List Nat} {S S1 : St} {j : Nat} {f : Nat → Int32} (h : Kp rs S S1) (hr : ∀ k, rg j k ∈ rs) : Kp rs S (sI S1 j f) := by
  refine ⟨fun j' k' q => ?_, fun q => h.2 q⟩
  have hne : ¬ j' = j := fun e => q (by rw [e]; exact hr k')
  exact ⟨by rw [sI_at, if_neg hne]; exact (h.1 j' k' q).1, (h.1 j' k' q).2⟩
theorem Kp_sL {rs : List Nat} {S S1 : St} {j : Nat} {f : Nat → Int64} (h : Kp rs S S1) (hr : ∀ k, rg j k ∈ rs) : Kp rs S (sL S1 j f) := by
  refine ⟨fun j' k' q => ?_, fun q => h.2 q⟩
  have hne : ¬ j' = j := fun e => q (by rw [e]; exact hr k')
  exact ⟨(h.1 j' k' q).1, by rw [sL_at, if_neg hne]; exact (h.1 j' k' q).2⟩
theorem rg_vr {w k : Nat} (h : w < 12) : rg (16 + w) k = 1 := by
  rcases (show w = 0 ∨ w = 1 ∨ w = 2 ∨ w = 3 ∨ w = 4 ∨ w = 5 ∨ w = 6 ∨ w = 7 ∨ w = 8 ∨ w = 9 ∨ w = 10 ∨ w = 11 by omega) with rfl | rfl | rfl | rfl | rfl | rfl | rfl | rfl | rfl | rfl | rfl | rfl <;> rfl
theorem rg_wr {i k : Nat} (h : i < 8) : rg (37 + i) k = 8 := by
  rcases (show i = 0 ∨ i = 1 ∨ i = 2 ∨ i = 3 ∨ i = 4 ∨ i = 5 ∨ i = 6 ∨ i = 7 by omega) with rfl | rfl | rfl | rfl | rfl | rfl | rfl | rfl <;> rfl
theorem rg_sh {i k : Nat} (h : i < 6) : rg (8 + i) k = 7 := by
  rcases (show i = 0 ∨ i = 1 ∨ i = 2 ∨ i = 3 ∨ i = 4 ∨ i = 5 by omega) with rfl | rfl | rfl | rfl | rfl | rfl <;> rfl
theorem rg_el {i k : Nat} (h : i < 6) : rg (55 + i) k = 7 := by
  rcases (show i = 0 ∨ i = 1 ∨ i = 2 ∨ i = 3 ∨ i = 4 ∨ i = 5 by omega) with rfl | rfl | rfl | rfl | rfl | rfl <;> rfl
/-- the sum of the first n -/
def sumN (f : Nat → Nat) : Nat → Nat
  | 0 => 0
  | n + 1 => sumN f n + f n
theorem sumN_le {f : Nat → Nat} {b : Nat} : ∀ n, (∀ k, k < n → f k ≤ b) → sumN f n ≤ n * b
  | 0, _ => by simp [sumN]
  | n + 1, h => by
    have h1 := sumN_le n (fun k hk => h k (by omega))
    have h2 := h n (by omega)
    rw [sumN, Nat.succ_mul]
    omega
theorem sumN_congr {f h : Nat → Nat} : ∀ {n}, (∀ k, k < n → f k = h k) → sumN f n = sumN h n
  | 0, _ => rfl
  | n + 1, e => by rw [sumN, sumN, sumN_congr (fun k hk => e k (by omega)), e n (by omega)]
def mostN (w : Nat) : Nat := [9, 5, 5, 9, 9, 12, 12, 99, 12, 99, 12, 12].getD w 0
theorem mostN_le (w : Nat) : mostN w ≤ 99 := by
  rcases Nat.lt_or_ge w 12 with h | h
  · rcases (show w = 0 ∨ w = 1 ∨ w = 2 ∨ w = 3 ∨ w = 4 ∨ w = 5 ∨ w = 6 ∨ w = 7 ∨ w = 8 ∨ w = 9 ∨ w = 10 ∨ w = 11 by omega) with rfl | rfl | rfl | rfl | rfl | rfl | rfl | rfl | rfl | rfl | rfl | rfl <;> decide
  · unfold mostN
    have : ([9, 5, 5, 9, 9, 12, 12, 99, 12, 99, 12, 12] : List Nat)[w]? = none := List.getElem?_eq_none (by simpa using h)
    rw [List.getD, this]; decide
/-- how many numbers a WHAT has -/
def numN (n w : Nat) : Nat := if w ≤ 2 then n else [8, 8, 8, 4, 4, 4, 4, 4, 6, 1, 1, 3].getD w 0
theorem numN_le {n w : Nat} (h : n ≤ 8) : numN n w ≤ 8 := by
  unfold numN
  split
  · exact h
  · rcases Nat.lt_or_ge w 12 with h | h
    · rcases (show w = 0 ∨ w = 1 ∨ w = 2 ∨ w = 3 ∨ w = 4 ∨ w = 5 ∨ w = 6 ∨ w = 7 ∨ w = 8 ∨ w = 9 ∨ w = 10 ∨ w = 11 by omega) with rfl | rfl | rfl | rfl | rfl | rfl | rfl | rfl | rfl | rfl | rfl | rfl <;> decide
    · have : ([8, 8, 8, 4, 4, 4, 4, 4, 6, 1, 1, 3] : List Nat)[w]? = none := List.getElem?_eq_none (by simpa using h)
      rw [List.getD, this]; decide
