/-! the state that both constructors leave -/
def wsB (D : DD) (hA hM : Nat) (q r6 r2 r5 r3 r1 r0 s : Nat → Nat) (e : Nat → Nat → Nat) (r8 : Nat → Nat) : va_W := ([] ++ (hA, .inr (7, MF7 q)) :: MZ7 D q r6 r2 r5 r3 r1 r0 s e) ++ (hM, .inr (8, MF8 r8)) :: MZ8 D r8
def aL (hA hM : Nat) (q r6 r2 r5 r3 r1 r0 s : Nat → Nat) (e : Nat → Nat → Nat) (r8 : Nat → Nat) : List Nat := [hA, q 0, q 1, q 2, q 3, q 4, q 5, q 6, s 0, s 1, s 2, s 3, s 4, s 5, q 7, r6 0, r6 5, r6 6, r6 7, r6 8, r6 9, r6 10, r6 11, r6 12, r6 13, r6 14, r6 15, r6 16, r6 1, r6 2, r6 3, r6 4, r2 0, r2 1, r2 2, r2 3, r5 0, r5 1, r5 2, r5 3, r5 4, r5 5, r5 6, r5 7, r5 8, r3 0, r3 1, r3 2, r1 0, r1 1, r1 2, r1 3, r1 4, r0 0, r0 1, e 0 0, e 1 0, e 2 0, e 3 0, e 4 0, e 5 0, hM, r8 0, r8 1, r8 2, r8 3, r8 4, r8 5, r8 6, r8 7, r8 8, r8 9, r8 10, r8 11, r8 12, r8 13, r8 14, r8 15, r8 16, r8 17, r8 18, r8 19, r8 20, r8 21, r8 22, r8 23, r8 24, r8 25, r8 26, r8 27, r8 28, r8 29, r8 30, r8 31, r8 32, r8 33, r8 34, r8 35, r8 36, r8 37]
def aF (hA hM : Nat) (q r6 r2 r5 r3 r1 r0 s : Nat → Nat) (e : Nat → Nat → Nat) (r8 : Nat → Nat) (z : Nat → Nat) : Nat → Nat := fun j => if j < 100 then (aL hA hM q r6 r2 r5 r3 r1 r0 s e r8).getD j 0 else z (j - 200)
def tab0 : List (Nat → Int32) := [(fun _ => 0), (fun _ => 0), (fun _ => 0), (fun _ => 0), (fun _ => 0), (fun k => if k = 3 then -1 else if k = 8 then -1 else 0), (fun _ => 0), (fun _ => 0), (fun _ => 0), (fun _ => 0), (fun _ => 0), (fun _ => 0), (fun _ => 0), (fun _ => 0), (fun _ => 0), (fun _ => 0), (gT 12 0 0), (gT 12 0 1), (gT 12 0 2), (gT 12 0 3), (gT 12 0 4), (gT 12 0 5), (gT 12 0 6), (gT 12 0 7), (gT 12 0 8), (gT 12 0 9), (gT 12 0 10), (gT 12 0 11), (fun _ => 0), (fun _ => 0), (fun _ => 0), (fun _ => 0), (fun _ => 0), (fun _ => 0), (fun _ => 0), (fun _ => 0), (fun _ => 0), (fun _ => 0), (fun _ => 0), (fun _ => 0), (fun _ => 0), (fun _ => 0), (fun _ => 0), (fun _ => 0), (fun _ => 0), (fun _ => 0), (fun _ => 0), (fun _ => 0), (fun _ => 0), (fun _ => 0), (fun _ => 0), (fun _ => 0), (fun _ => 0), (fun _ => 0), (fun _ => 0), (fun _ => 0), (fun _ => 0), (fun _ => 0), (fun _ => 0), (fun _ => 0), (fun _ => 0), (fun k => if k = 12 then 10 else if k = 13 then 2 else if k = 22 then -2 else if k = 45 then -1 else 0), (fun _ => 0), (fun _ => 0), (fun _ => 0), (fun _ => 0), (upd (upd (upd (upd (fun _ => 0) 0 1) 1 1) 2 1) 3 1), (upd (upd (upd (upd (fun _ => 0) 0 1) 1 1) 2 1) 3 1), (upd (upd (upd (upd (fun _ => 0) 0 9) 1 9) 2 9) 3 9), (upd (upd (upd (upd (fun _ => 0) 0 9) 1 9) 2 9) 3 9), (upd (upd (upd (upd (fun _ => 0) 0 10) 1 10) 2 10) 3 10), (upd (upd (upd (upd (upd (upd (fun _ => 0) 0 3) 1 3) 2 3) 3 3) 4 3) 5 3), (upd (upd (upd (fun _ => 0) 0 4) 1 4) 2 4), (fun _ => 0), (fun _ => 0), (fun _ => 0), (fun _ => 0), (fun _ => 0), (fun _ => 0), (fun _ => 0), (fun _ => 0), (fun _ => 0), (fun _ => 0), (fun _ => 0), (fun _ => 0), (fun _ => 0), (fun _ => 0), (fun _ => 0), (fun _ => 0), (fun _ => 0), (fun _ => 0), (fun _ => 0), (fun _ => 0), (fun _ => 0), (fun _ => 0), (fun _ => 0), (upd (upd (upd (upd (upd (upd (fun _ => 0) 0 (-1)) 1 (-1)) 2 (-1)) 3 (-1)) 4 (-1)) 5 (-1)), (fun _ => 0), (fun _ => 0), (fun _ => 0)]
def S00 : St := (fun j => tab0.getD j (fun _ => 0), fun _ _ => 0, (32, 33))
def pl0 : List Nat := [0, 1, 19, 24, 34, 38, 44, 47, 49, 51, 53, 55, 57, 59, 48, 2, 3, 4, 5, 6, 7, 8, 9, 10, 11, 12, 13, 14, 15, 16, 17, 18, 20, 21, 22, 23, 25, 26, 27, 28, 29, 30, 31, 32, 33, 35, 36, 37, 39, 40, 41, 42, 43, 45, 46, 50, 52, 54, 56, 58, 60, 61, 62, 63, 64, 65, 66, 67, 68, 69, 70, 71, 72, 73, 74, 75, 76, 77, 78, 79, 80, 81, 82, 83, 84, 85, 86, 87, 88, 89, 90, 91, 92, 93, 94, 95, 96, 97, 98, 99]
def pi0 : List Nat := [0, 1, 15, 16, 17, 18, 19, 20, 21, 22, 23, 24, 25, 26, 27, 28, 29, 30, 31, 2, 32, 33, 34, 35, 3, 36, 37, 38, 39, 40, 41, 42, 43, 44, 4, 45, 46, 47, 5, 48, 49, 50, 51, 52, 6, 53, 54, 7, 14, 8, 55, 9, 56, 10, 57, 11, 58, 12, 59, 13, 60, 61, 62, 63, 64, 65, 66, 67, 68, 69, 70, 71, 72, 73, 74, 75, 76, 77, 78, 79, 80, 81, 82, 83, 84, 85, 86, 87, 88, 89, 90, 91, 92, 93, 94, 95, 96, 97, 98, 99]
theorem pl_inj : ∀ i, i < 100 → pi0.getD (pl0.getD i 0) 0 = i := by decide +kernel
def contB (D : DD) (hA hM : Nat) (q r6 r2 r5 r3 r1 r0 s : Nat → Nat) (e : Nat → Nat → Nat) (r8 : Nat → Nat) (z : Nat → Nat) (j : Nat) : va_E := if j = 7 then .inl (D.2 4, 6, .inr (.inr (.inr (.inr (shF7 s 6))))) else if j = 15 then ouE D 12 (fun i => r6 (5 + i)) else if j = 36 then ouE D 8 (fun i => r5 (1 + i)) else cont D (aF hA hM q r6 r2 r5 r3 r1 r0 s e r8 z) S00 j
set_option maxHeartbeats 40000000 in
set_option maxRecDepth 100000 in
theorem at_B (D : DD) (hA hM : Nat) (q r6 r2 r5 r3 r1 r0 s : Nat → Nat) (e : Nat → Nat → Nat) (r8 : Nat → Nat) (z : Nat → Nat) : ∀ j, j < 100 → (wsB D hA hM q r6 r2 r5 r3 r1 r0 s e r8)[pl0.getD j 0]? = some (aF hA hM q r6 r2 r5 r3 r1 r0 s e r8 z j, contB D hA hM q r6 r2 r5 r3 r1 r0 s e r8 z j) := fun j hj => match j, hj with
  | 0, _ => rfl
  | 1, _ => rfl
  | 2, _ => rfl
  | 3, _ => rfl
  | 4, _ => rfl
  | 5, _ => rfl
  | 6, _ => rfl
  | 7, _ => rfl
  | 8, _ => rfl
  | 9, _ => rfl
  | 10, _ => rfl
  | 11, _ => rfl
  | 12, _ => rfl
  | 13, _ => rfl
  | 14, _ => rfl
  | 15, _ => rfl
  | 16, _ => rfl
  | 17, _ => rfl
  | 18, _ => rfl
  | 19, _ => rfl
  | 20, _ => rfl
  | 21, _ => rfl
  | 22, _ => rfl
  | 23, _ => rfl
  | 24, _ => rfl
  | 25, _ => rfl
  | 26, _ => rfl
  | 27, _ => rfl
  | 28, _ => rfl
  | 29, _ => rfl
  | 30, _ => rfl
  | 31, _ => rfl
  | 32, _ => rfl
  | 33, _ => rfl
  | 34, _ => rfl
  | 35, _ => rfl
  | 36, _ => rfl
  | 37, _ => rfl
  | 38, _ => rfl
  | 39, _ => rfl
  | 40, _ => rfl
  | 41, _ => rfl
  | 42, _ => rfl
  | 43, _ => rfl
  | 44, _ => rfl
  | 45, _ => rfl
  | 46, _ => rfl
  | 47, _ => rfl
  | 48, _ => rfl
  | 49, _ => rfl
  | 50, _ => rfl
  | 51, _ => rfl
  | 52, _ => rfl
  | 53, _ => rfl
  | 54, _ => rfl
  | 55, _ => rfl
  | 56, _ => rfl
  | 57, _ => rfl
  | 58, _ => rfl
  | 59, _ => rfl
  | 60, _ => rfl
  | 61, _ => rfl
  | 62, _ => rfl
  | 63, _ => rfl
  | 64, _ => rfl
  | 65, _ => rfl
  | 66, _ => rfl
  | 67, _ => rfl
  | 68, _ => rfl
  | 69, _ => rfl
  | 70, _ => rfl
  | 71, _ => rfl
  | 72, _ => rfl
  | 73, _ => rfl
  | 74, _ => rfl
  | 75, _ => rfl
  | 76, _ => rfl
  | 77, _ => rfl
  | 78, _ => rfl
  | 79, _ => rfl
  | 80, _ => rfl
  | 81, _ => rfl
  | 82, _ => rfl
  | 83, _ => rfl
  | 84, _ => rfl
  | 85, _ => rfl
  | 86, _ => rfl
  | 87, _ => rfl
  | 88, _ => rfl
  | 89, _ => rfl
  | 90, _ => rfl
  | 91, _ => rfl
  | 92, _ => rfl
  | 93, _ => rfl
  | 94, _ => rfl
  | 95, _ => rfl
  | 96, _ => rfl
  | 97, _ => rfl
  | 98, _ => rfl
  | 99, _ => rfl
  | k + 100, h => absurd h (by omega)
theorem arrV_cg {c : ClassId} {n : Nat} {f g : Nat → Value} (h : ∀ k, k < n → f k = g k) : arrV c n f = arrV c n g := by
  show ({ cls := c, slots := Array.ofFn (n := n) fun i => f i, vm := .none } : Cell) = { cls := c, slots := Array.ofFn (n := n) fun i => g i, vm := .none }
  congr 1
  congr 1
  funext i
  exact h i.1 i.2
theorem vq_cg {c : ClassId} {n : Nat} {f g : Nat → Option Nat} (h : ∀ k, k < n → f k = g k) : vp_cell c (n, .inr (.inr (.inr (.inr f)))) = vp_cell c (n, .inr (.inr (.inr (.inr g)))) := by
  rw [vp_cell_q, vp_cell_q]
  exact arrV_cg (fun k hk => by rw [h k hk])
section Born
variable {D : DD} {hA hM : Nat} {q r6 r2 r5 r3 r1 r0 s : Nat → Nat} {e : Nat → Nat → Nat} {r8 z : Nat → Nat} {H : Heap} {F : Nat → Prop}
theorem born_P (hP : va_P D.1 zz_Cl (wsB D hA hM q r6 r2 r5 r3 r1 r0 s e r8) H) : va_P D.1 zz_Cl (cells D (aF hA hM q r6 r2 r5 r3 r1 r0 s e r8 z) S00) H := by
  intro k x hx
  obtain ⟨hk, rfl⟩ := cells_mem hx
  have h := hP _ _ (at_B D hA hM q r6 r2 r5 r3 r1 r0 s e r8 z k hk)
  by_cases h7 : k = 7
  · subst h7
    refine Eq.trans h (congrArg some (vq_cg (fun i hi => ?_)))
    match i, hi with
    | 0, _ => rfl
    | 1, _ => rfl
    | 2, _ => rfl
    | 3, _ => rfl
    | 4, _ => rfl
    | 5, _ => rfl
    | n + 6, hn => exact absurd hn (by omega)
  · by_cases h15 : k = 15
    · subst h15
      refine Eq.trans h (congrArg some (vq_cg (fun i hi => ?_)))
      match i, hi with
      | 0, _ => rfl
      | 1, _ => rfl
      | 2, _ => rfl
      | 3, _ => rfl
      | 4, _ => rfl
      | 5, _ => rfl
      | 6, _ => rfl
      | 7, _ => rfl
      | 8, _ => rfl
      | 9, _ => rfl
      | 10, _ => rfl
      | 11, _ => rfl
      | n + 12, hn => exact absurd hn (by omega)
    · by_cases h36 : k = 36
      · subst h36
        refine Eq.trans h (congrArg some (vq_cg (fun i hi => ?_)))
        match i, hi with
        | 0, _ => rfl
        | 1, _ => rfl
        | 2, _ => rfl
        | 3, _ => rfl
        | 4, _ => rfl
        | 5, _ => rfl
        | 6, _ => rfl
        | 7, _ => rfl
        | n + 8, hn => exact absurd hn (by omega)
      · have e1 : contB D hA hM q r6 r2 r5 r3 r1 r0 s e r8 z k = cont D (aF hA hM q r6 r2 r5 r3 r1 r0 s e r8 z) S00 k := by
          unfold contB
          rw [if_neg h7, if_neg h15, if_neg h36]
        rw [e1] at h
        exact h
theorem born_inj (hD : va_D F (wsB D hA hM q r6 r2 r5 r3 r1 r0 s e r8)) : InjA (aF hA hM q r6 r2 r5 r3 r1 r0 s e r8 z) := by
  intro i j hi hj h
  have h1 := hD.1 _ _ _ _ (at_B D hA hM q r6 r2 r5 r3 r1 r0 s e r8 z i hi) (at_B D hA hM q r6 r2 r5 r3 r1 r0 s e r8 z j hj) h
  have h2 := pl_inj i hi
  rw [h1, pl_inj j hj] at h2
  exact h2.symm
theorem born_F (hD : va_D F (wsB D hA hM q r6 r2 r5 r3 r1 r0 s e r8)) {j : Nat} (hj : j < 100) : F (aF hA hM q r6 r2 r5 r3 r1 r0 s e r8 z j) := hD.2 _ _ (at_B D hA hM q r6 r2 r5 r3 r1 r0 s e r8 z j hj)
end Born
