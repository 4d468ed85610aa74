/-! small helps -/
theorem tbl_out {y : Int32} {lo hi : Int} (h : ∀ k : Int, lo ≤ k → k ≤ hi → y ≠ Int32.ofInt k) : y.toInt < lo ∨ hi < y.toInt := by
  rcases Int.lt_or_le y.toInt lo with q | q
  · exact Or.inl q
  · rcases Int.lt_or_le hi y.toInt with q2 | q2
    · exact Or.inr q2
    · exact absurd (Int32.ofInt_toInt y).symm (h _ q q2)
theorem lk_out {y : Int32} {l : List (Int × Int)} {d : Int} (h : ∀ k : Int, k ∈ l.map (fun q => q.1) → y ≠ Int32.ofInt k) : Op.lookupswitch.offset l d y.toInt = d := by
  induction l with
  | nil => rfl
  | cons q l ih =>
    obtain ⟨b, o⟩ := q
    rw [Op.lookupswitch.offset_cons, if_neg, ih]
    · intro k hk
      exact h k (by simp only [List.map_cons]; exact List.mem_cons_of_mem _ hk)
    · intro e
      refine h b (by simp) ?_
      rw [e, Int32.ofInt_toInt]
theorem j_topi {a : Nat → Nat} {mi : MI} {d : Nat} {g : GG} {pc : Nat} {L st : List Value} {S : St} {x : Int32} (k : ∀ y : Int32, y = x → J a mi d g pc L (.int y :: st) S) : J a mi d g pc L (.int x :: st) S := k x rfl
theorem j_topl {a : Nat → Nat} {mi : MI} {d : Nat} {g : GG} {pc : Nat} {L st : List Value} {S : St} {x : Int64} (k : ∀ y : Int64, y = x → J a mi d g pc L (.long y :: st) S) : J a mi d g pc L (.long x :: st) S := k x rfl
/-- the top of the stack, said otherwise -/
theorem j_top {a : Nat → Nat} {mi : MI} {d : Nat} {g : GG} {pc : Nat} {L st : List Value} {S : St} {x y : Int32} (e : x = y) (k : J a mi d g pc L (.int y :: st) S) : J a mi d g pc L (.int x :: st) S := e ▸ k
theorem j_topL {a : Nat → Nat} {mi : MI} {d : Nat} {g : GG} {pc : Nat} {L st : List Value} {S : St} {x y : Int64} (e : x = y) (k : J a mi d g pc L (.long y :: st) S) : J a mi d g pc L (.long x :: st) S := e ▸ k
theorem j_S {a : Nat → Nat} {mi : MI} {d : Nat} {g : GG} {pc : Nat} {L st : List Value} {S S' : St} (e : S = S') (k : J a mi d g pc L st S') : J a mi d g pc L st S := e ▸ k
theorem ck_sh {i : Nat} (h : i < 6) : ck (8 + i) = (0, 4) := by
  rcases (show i = 0 ∨ i = 1 ∨ i = 2 ∨ i = 3 ∨ i = 4 ∨ i = 5 by omega) with rfl | rfl | rfl | rfl | rfl | rfl <;> rfl
theorem ck_el {i : Nat} (h : i < 6) : ck (55 + i) = (4, 60) := by
  rcases (show i = 0 ∨ i = 1 ∨ i = 2 ∨ i = 3 ∨ i = 4 ∨ i = 5 by omega) with rfl | rfl | rfl | rfl | rfl | rfl <;> rfl
theorem fr_el {S : St} {i : Nat} (h : i < 6) : fr S (8 + i) 4 = 55 + i := by
  rcases (show i = 0 ∨ i = 1 ∨ i = 2 ∨ i = 3 ∨ i = 4 ∨ i = 5 by omega) with rfl | rfl | rfl | rfl | rfl | rfl <;> rfl
theorem fr_sh {S : St} {i : Nat} (h : i < 6) : fr S 7 i = 8 + i := by
  rcases (show i = 0 ∨ i = 1 ∨ i = 2 ∨ i = 3 ∨ i = 4 ∨ i = 5 by omega) with rfl | rfl | rfl | rfl | rfl | rfl <;> rfl
theorem ck_vr {i : Nat} (h : i < 12) : ck (16 + i) = (1, 8) := by
  rcases (show i = 0 ∨ i = 1 ∨ i = 2 ∨ i = 3 ∨ i = 4 ∨ i = 5 ∨ i = 6 ∨ i = 7 ∨ i = 8 ∨ i = 9 ∨ i = 10 ∨ i = 11 by omega) with rfl | rfl | rfl | rfl | rfl | rfl | rfl | rfl | rfl | rfl | rfl | rfl <;> rfl
theorem fr_vr {S : St} {i : Nat} (h : i < 12) : fr S 15 i = 16 + i := by
  rcases (show i = 0 ∨ i = 1 ∨ i = 2 ∨ i = 3 ∨ i = 4 ∨ i = 5 ∨ i = 6 ∨ i = 7 ∨ i = 8 ∨ i = 9 ∨ i = 10 ∨ i = 11 by omega) with rfl | rfl | rfl | rfl | rfl | rfl | rfl | rfl | rfl | rfl | rfl | rfl <;> rfl
theorem ck_wr {i : Nat} (h : i < 8) : ck (37 + i) = (1, 2) := by
  rcases (show i = 0 ∨ i = 1 ∨ i = 2 ∨ i = 3 ∨ i = 4 ∨ i = 5 ∨ i = 6 ∨ i = 7 by omega) with rfl | rfl | rfl | rfl | rfl | rfl | rfl | rfl <;> rfl
theorem fr_wr {S : St} {i : Nat} (h : i < 8) : fr S 36 i = 37 + i := by
  rcases (show i = 0 ∨ i = 1 ∨ i = 2 ∨ i = 3 ∨ i = 4 ∨ i = 5 ∨ i = 6 ∨ i = 7 by omega) with rfl | rfl | rfl | rfl | rfl | rfl | rfl | rfl <;> rfl
/-- the sum of the first n -/
def sumI (f : Nat → Int32) : Nat → Int32
  | 0 => 0
  | n + 1 => sumI f n + f n
theorem sumI_congr {f h : Nat → Int32} {n : Nat} (e : ∀ k, k < n → f k = h k) : sumI f n = sumI h n := by
  induction n with
  | zero => rfl
  | succ n ih => rw [sumI, sumI, ih (fun k hk => e k (by omega)), e n (by omega)]
theorem nI_ge0 {x : Int32} (h : 0 ≤ x) : ∃ n : Nat, n < 2 ^ 31 ∧ x = nI n := nI_of (Int32.not_lt.mpr h)
/-- an int within 0 .. n - 1 -/
theorem in_nI {x : Int32} {n : Nat} (hn : n < 2 ^ 31) (h : 0 ≤ x ∧ x < nI n) : ∃ k : Nat, k < n ∧ x = nI k := by
  obtain ⟨k, hk, rfl⟩ := nI_ge0 h.1
  exact ⟨k, (nI_ltI hk hn).mp h.2, rfl⟩
theorem nI_in' {k n : Nat} (hk : k < n) (hn : n < 2 ^ 31) : 0 ≤ nI k ∧ nI k < nI n := ⟨nI_pos' (by omega), nI_lt hk hn⟩
theorem nI_in_iff {k n : Nat} (hk : k < 2 ^ 31) (hn : n < 2 ^ 31) : (0 ≤ nI k ∧ nI k < nI n) ↔ k < n := ⟨fun h => (nI_ltI hk hn).mp h.2, fun h => nI_in' h hn⟩
