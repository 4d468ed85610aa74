/-! the state that both constructors leave -/
def wsB (D : DD) (hA : Nat) (q r6 r2 r5 r3 r1 r0 s : Nat → Nat) (e : Nat → Nat → Nat) : va_W := [] ++ (hA, .inr (7, MF7 q)) :: MZ7 D q r6 r2 r5 r3 r1 r0 s e
def aL (hA : Nat) (q r6 r2 r5 r3 r1 r0 s : Nat → Nat) (e : Nat → Nat → Nat) : List Nat := [hA, q 0, q 1, q 2, q 3, q 4, q 5, q 6, s 0, s 1, s 2, s 3, s 4, s 5, q 7, r6 0, r6 5, r6 6, r6 7, r6 8, r6 9, r6 10, r6 11, r6 12, r6 13, r6 14, r6 15, r6 16, r6 1, r6 2, r6 3, r6 4, r2 0, r2 1, r2 2, r2 3, r5 0, r5 1, r5 2, r5 3, r5 4, r5 5, r5 6, r5 7, r5 8, r3 0, r3 1, r3 2, r1 0, r1 1, r1 2, r1 3, r1 4, r0 0, r0 1, e 0 0, e 1 0, e 2 0, e 3 0, e 4 0, e 5 0]
def aF (hA : Nat) (q r6 r2 r5 r3 r1 r0 s : Nat → Nat) (e : Nat → Nat → Nat) (z : Nat → Nat) : Nat → Nat := fun j => if j < 61 then (aL hA q r6 r2 r5 r3 r1 r0 s e).getD j 0 else if j = 300 then 0 else z (j - 200)
theorem aF_300 {hA : Nat} {q r6 r2 r5 r3 r1 r0 s : Nat → Nat} {e : Nat → Nat → Nat} {z : Nat → Nat} : aF hA q r6 r2 r5 r3 r1 r0 s e z 300 = 0 := by
  unfold aF
  rw [if_neg (by decide), if_pos rfl]
theorem aF_NC {hA : Nat} {q r6 r2 r5 r3 r1 r0 s : Nat → Nat} {e : Nat → Nat → Nat} {z : Nat → Nat} : NC (aF hA q r6 r2 r5 r3 r1 r0 s e z) = 61 := by
  unfold NC
  rw [aF_300]
def tab0 : List (Nat → Int32) := [(fun _ => 0), (fun _ => 0), (fun _ => 0), (fun _ => 0), (fun _ => 0), (fun k => if k = 3 then -1 else if k = 8 then -1 else 0), (fun _ => 0), (fun _ => 0), (fun _ => 0), (fun _ => 0), (fun _ => 0), (fun _ => 0), (fun _ => 0), (fun _ => 0), (fun _ => 0), (fun _ => 0), (gT 12 0 0), (gT 12 0 1), (gT 12 0 2), (gT 12 0 3), (gT 12 0 4), (gT 12 0 5), (gT 12 0 6), (gT 12 0 7), (gT 12 0 8), (gT 12 0 9), (gT 12 0 10), (gT 12 0 11), (fun _ => 0), (fun _ => 0), (fun _ => 0), (fun _ => 0), (fun _ => 0), (fun _ => 0), (fun _ => 0), (fun _ => 0), (fun _ => 0), (fun _ => 0), (fun _ => 0), (fun _ => 0), (fun _ => 0), (fun _ => 0), (fun _ => 0), (fun _ => 0), (fun _ => 0), (fun _ => 0), (fun _ => 0), (fun _ => 0), (fun _ => 0), (fun _ => 0), (fun _ => 0), (fun _ => 0), (fun _ => 0), (fun _ => 0), (fun _ => 0), (fun _ => 0), (fun _ => 0), (fun _ => 0), (fun _ => 0), (fun _ => 0), (fun _ => 0)]
def S00 : St := (fun j => tab0.getD j (fun _ => 0), fun _ _ => 0, (32, 33))
def pl0 : List Nat := [0, 1, 19, 24, 34, 38, 44, 47, 49, 51, 53, 55, 57, 59, 48, 2, 3, 4, 5, 6, 7, 8, 9, 10, 11, 12, 13, 14, 15, 16, 17, 18, 20, 21, 22, 23, 25, 26, 27, 28, 29, 30, 31, 32, 33, 35, 36, 37, 39, 40, 41, 42, 43, 45, 46, 50, 52, 54, 56, 58, 60]
def pi0 : List Nat := [0, 1, 15, 16, 17, 18, 19, 20, 21, 22, 23, 24, 25, 26, 27, 28, 29, 30, 31, 2, 32, 33, 34, 35, 3, 36, 37, 38, 39, 40, 41, 42, 43, 44, 4, 45, 46, 47, 5, 48, 49, 50, 51, 52, 6, 53, 54, 7, 14, 8, 55, 9, 56, 10, 57, 11, 58, 12, 59, 13, 60]
theorem pl_inj : ∀ i, i < 61 → pi0.getD (pl0.getD i 0) 0 = i := by decide +kernel
def contB (D : DD) (hA : Nat) (q r6 r2 r5 r3 r1 r0 s : Nat → Nat) (e : Nat → Nat → Nat) (z : Nat → Nat) (j : Nat) : va_E := if j = 7 then .inl (D.2 4, 6, .inr (.inr (.inr (.inr (shF7 s 6))))) else if j = 15 then ouE D 12 (fun i => r6 (5 + i)) else if j = 36 then ouE D 8 (fun i => r5 (1 + i)) else cont D (aF hA q r6 r2 r5 r3 r1 r0 s e z) S00 j
set_option maxHeartbeats 40000000 in
set_option maxRecDepth 100000 in
theorem at_B (D : DD) (hA : Nat) (q r6 r2 r5 r3 r1 r0 s : Nat → Nat) (e : Nat → Nat → Nat) (z : Nat → Nat) : ∀ j, j < 61 → (wsB D hA q r6 r2 r5 r3 r1 r0 s e)[pl0.getD j 0]? = some (aF hA q r6 r2 r5 r3 r1 r0 s e z j, contB D hA q r6 r2 r5 r3 r1 r0 s e z j) := fun j hj => match j, hj with
  | 0, _ => rfl
  | 1, _ => rfl
  | 2, _ => rfl
  | 3, _ => rfl
  | 4, _ => rfl
  | 5, _ => rfl
  | 6, _ => rfl
  | 7, _ => rfl
  | 8, _ => rfl
  | 9, _ => rfl
  | 10, _ => rfl
  | 11, _ => rfl
  | 12, _ => rfl
  | 13, _ => rfl
  | 14, _ => rfl
  | 15, _ => rfl
  | 16, _ => rfl
  | 17, _ => rfl
  | 18, _ => rfl
  | 19, _ => rfl
  | 20, _ => rfl
  | 21, _ => rfl
  | 22, _ => rfl
  | 23, _ => rfl
  | 24, _ => rfl
  | 25, _ => rfl
  | 26, _ => rfl
  | 27, _ => rfl
  | 28, _ => rfl
  | 29, _ => rfl
  | 30, _ => rfl
  | 31, _ => rfl
  | 32, _ => rfl
  | 33, _ => rfl
  | 34, _ => rfl
  | 35, _ => rfl
  | 36, _ => rfl
  | 37, _ => rfl
  | 38, _ => rfl
  | 39, _ => rfl
  | 40, _ => rfl
  | 41, _ => rfl
  | 42, _ => rfl
  | 43, _ => rfl
  | 44, _ => rfl
  | 45, _ => rfl
  | 46, _ => rfl
  | 47, _ => rfl
  | 48, _ => rfl
  | 49, _ => rfl
  | 50, _ => rfl
  | 51, _ => rfl
  | 52, _ => rfl
  | 53, _ => rfl
  | 54, _ => rfl
  | 55, _ => rfl
  | 56, _ => rfl
  | 57, _ => rfl
  | 58, _ => rfl
  | 59, _ => rfl
  | 60, _ => rfl
  | k + 61, h => absurd h (by omega)
theorem arrV_cg {c : ClassId} {n : Nat} {f g : Nat → Value} (h : ∀ k, k < n → f k = g k) : arrV c n f = arrV c n g := by
  show ({ cls := c, slots := Array.ofFn (n := n) fun i => f i, vm := .none } : Cell) = { cls := c, slots := Array.ofFn (n := n) fun i => g i, vm := .none }
  congr 1
  congr 1
  funext i
  exact h i.1 i.2
theorem vq_cg {c : ClassId} {n : Nat} {f g : Nat → Option Nat} (h : ∀ k, k < n → f k = g k) : vp_cell c (n, .inr (.inr (.inr (.inr f)))) = vp_cell c (n, .inr (.inr (.inr (.inr g)))) := by
  rw [vp_cell_q, vp_cell_q]
  exact arrV_cg (fun k hk => by rw [h k hk])
section Born
variable {D : DD} {hA : Nat} {q r6 r2 r5 r3 r1 r0 s : Nat → Nat} {e : Nat → Nat → Nat} {z : Nat → Nat} {H : Heap} {F : Nat → Prop}
theorem born_P (hP : va_P D.1 zz_Cl (wsB D hA q r6 r2 r5 r3 r1 r0 s e) H) : va_P D.1 zz_Cl (cells D (aF hA q r6 r2 r5 r3 r1 r0 s e z) S00) H := by
  intro k x hx
  obtain ⟨hk, rfl⟩ := cells_mem hx
  rw [aF_NC] at hk
  have h := hP _ _ (at_B D hA q r6 r2 r5 r3 r1 r0 s e z k hk)
  by_cases h7 : k = 7
  · subst h7
    refine Eq.trans h (congrArg some (vq_cg (fun i hi => ?_)))
    match i, hi with
    | 0, _ => rfl
    | 1, _ => rfl
    | 2, _ => rfl
    | 3, _ => rfl
    | 4, _ => rfl
    | 5, _ => rfl
    | n + 6, hn => exact absurd hn (by omega)
  · by_cases h15 : k = 15
    · subst h15
      refine Eq.trans h (congrArg some (vq_cg (fun i hi => ?_)))
      match i, hi with
      | 0, _ => rfl
      | 1, _ => rfl
      | 2, _ => rfl
      | 3, _ => rfl
      | 4, _ => rfl
      | 5, _ => rfl
      | 6, _ => rfl
      | 7, _ => rfl
      | 8, _ => rfl
      | 9, _ => rfl
      | 10, _ => rfl
      | 11, _ => rfl
      | n + 12, hn => exact absurd hn (by omega)
    · by_cases h36 : k = 36
      · subst h36
        refine Eq.trans h (congrArg some (vq_cg (fun i hi => ?_)))
        match i, hi with
        | 0, _ => rfl
        | 1, _ => rfl
        | 2, _ => rfl
        | 3, _ => rfl
        | 4, _ => rfl
        | 5, _ => rfl
        | 6, _ => rfl
        | 7, _ => rfl
        | n + 8, hn => exact absurd hn (by omega)
      · have e1 : contB D hA q r6 r2 r5 r3 r1 r0 s e z k = cont D (aF hA q r6 r2 r5 r3 r1 r0 s e z) S00 k := by
          unfold contB
          rw [if_neg h7, if_neg h15, if_neg h36]
        rw [e1] at h
        exact h
theorem born_inj (hD : va_D F (wsB D hA q r6 r2 r5 r3 r1 r0 s e)) : InjA (aF hA q r6 r2 r5 r3 r1 r0 s e z) := by
  intro i j hi hj h
  rw [aF_NC] at hi hj
  have h1 := hD.1 _ _ _ _ (at_B D hA q r6 r2 r5 r3 r1 r0 s e z i hi) (at_B D hA q r6 r2 r5 r3 r1 r0 s e z j hj) h
  have h2 := pl_inj i hi
  rw [h1, pl_inj j hj] at h2
  exact h2.symm
theorem born_F (hD : va_D F (wsB D hA q r6 r2 r5 r3 r1 r0 s e)) {j : Nat} (hj : j < 61) : F (aF hA q r6 r2 r5 r3 r1 r0 s e z j) := hD.2 _ _ (at_B D hA q r6 r2 r5 r3 r1 r0 s e z j hj)
end Born
