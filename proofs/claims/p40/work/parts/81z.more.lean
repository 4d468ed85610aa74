/-! more of what the class keeps -/
/-- each change is of a number that there is, to a value that may be -/
def Hok (n k u : Nat) (h : Nat → Nat → Nat) : Prop := ∀ i, i < k + u → h i 1 < 12 ∧ h i 0 < numN n (h i 1) ∧ h i 2 ≤ mostN (h i 1) ∧ h i 3 ≤ mostN (h i 1)
section Things
variable {a : Nat → Nat} {S : St} {n k u : Nat} {v h : Nat → Nat → Nat}
end Things

def capN (w : Nat) : Nat := [8, 8, 8, 4, 4, 4, 4, 4, 6, 1, 1, 3].getD w 0
section RThings
variable {a : Nat → Nat} {S : St} {n k u : Nat} {v h : Nat → Nat → Nat}
end RThings

def addV (v : Nat → Nat → Nat) (n x y z : Nat) : Nat → Nat → Nat := fun w i => if i = n then (if w = 0 then z else if w = 1 then x else if w = 2 then y else v w i) else v w i
theorem addV_bound {n x y z : Nat} {v : Nat → Nat → Nat} (h : ∀ w, w < 12 → ∀ i, i < 8 → v w i ≤ mostN w) (hx : x < 6) (hy : y < 6) (hz : z < 10) : ∀ w, w < 12 → ∀ i, i < 8 → addV v n x y z w i ≤ mostN w := by
  intro w hw i hi
  unfold addV
  split
  · by_cases e0 : w = 0
    · subst e0; simp [mostN]; omega
    · by_cases e1 : w = 1
      · subst e1; simp [mostN]; omega
      · by_cases e2 : w = 2
        · subst e2; simp [mostN]; omega
        · simp only [e0, e1, e2, if_false]; exact h w hw i hi
  · exact h w hw i hi
theorem TC.add {n x y z : Nat} {v : Nat → Nat → Nat} {S : St} (h : TC n v S) (h8 : n < 8) (hx : x < 6) (hy : y < 6) (hz : z < 10) : TC (n + 1) (addV v n x y z) (uI (uI (uI (uI S 17 n (nI x)) 18 n (nI y)) 16 n (nI z)) 1 1 (nI (n + 1))) := by
  refine ⟨by simp [uI_at], by omega, fun w hw i hi => ?_, addV_bound h.2.2.2 hx hy hz⟩
  simp only [uI_at]
  rw [if_neg (by omega)]
  unfold addV
  have := h.2.2.1 w hw i hi
  rcases w12 hw with rfl | rfl | rfl | rfl | rfl | rfl | rfl | rfl | rfl | rfl | rfl | rfl <;> by_cases e : i = n <;> simp [e] at this ⊢ <;> exact this
theorem HC.add {n k u : Nat} {h : Nat → Nat → Nat} {S : St} {x y z t : Int32} (hh : HC k u h S) : HC k u h (uI (uI (uI (uI S 17 n x) 18 n y) 16 n z) 1 1 t) := by
  obtain ⟨q, h1, h2, h3, h4, h5, h6⟩ := hh
  refine ⟨q, h1, by simp [uI_at, h2], by simp [uI_at, h3], by simp [uI_at, h4], h5, fun i hi f hf => ?_⟩
  simp only [uI_at]
  repeat rw [if_neg (by omega)]
  exact h6 i hi f hf
section MendOf
variable {a : Nat → Nat} {S : St} {n k u : Nat} {v h : Nat → Nat → Nat}

end MendOf

section Shelves
variable {a : Nat → Nat} {S : St} {b : Nat} {sh : Nat → Nat → Nat} {el : Nat → Nat → Int64}

def upE (el : Nat → Nat → Int64) (i k : Nat) (w : Int64) : Nat → Nat → Int64 := fun i' k' => if i' = i ∧ k' = k then w else el i' k'
theorem SC.put (h : SC sh el S) {i k : Nat} {w : Int64} (hi : i < 6) : SC sh (upE el i k w) (uL S (55 + i) k w) := by
  intro i' hi'
  obtain ⟨h1, h2, h3, h4, h5⟩ := h i' hi'
  refine ⟨h1, h2, h3, h4, fun k' hk' => ?_⟩
  rw [uL_at]
  unfold upE
  by_cases e : i' = i ∧ k' = k
  · rw [if_pos (by omega), if_pos e]
  · rw [if_neg (by omega), if_neg e]; exact h5 k' hk'
def upS (sh : Nat → Nat → Nat) (i f x : Nat) : Nat → Nat → Nat := fun i' f' => if i' = i ∧ f' = f then x else sh i' f'
theorem zL_1 (S : St) (j p k : Nat) : (zL S j p k).1 = S.1 := rfl
def upR (sh : Nat → Nat → Nat) (i so ln : Nat) : Nat → Nat → Nat := fun i' f => if i' = i then (if f = 0 then 2 else if f = 2 then so else if f = 3 then ln else sh i' f) else sh i' f
def zE (el : Nat → Nat → Int64) (i : Nat) : Nat → Nat → Int64 := fun i' k => if i' = i then 0 else el i' k
theorem SC.row (h : SC sh el S) {i so ln : Nat} : SC (upR sh i so ln) (zE el i) (RowC S i so ln) := by
  intro i' hi'
  obtain ⟨h1, h2, h3, h4, h5⟩ := h i' hi'
  unfold RowC
  simp only [zL_1, uI_at, upR, zE]
  by_cases e : i' = i
  · subst e
    simp
    refine ⟨rfl, fun k hk => ?_⟩
    show (if _ then _ else _) = _
    rw [if_pos (by omega)]
  · have q : ¬ 8 + i' = 8 + i := by omega
    simp [e, q]
    refine ⟨h1, h2, h3, h4, fun k hk => ?_⟩
    show (if _ then _ else _) = _
    rw [if_neg (by omega)]
    exact h5 k hk
theorem SOk.row (h : SOk b sh) {i so ln : Nat} (hs : so < 5) (hl : ln ≤ 60) : SOk b (upR sh i so ln) := by
  refine ⟨h.1, fun i' hi' => ?_⟩
  obtain ⟨h1, h2, h3, h4⟩ := h.2 i' hi'
  simp only [upR]
  by_cases e : i' = i
  · subst e; simp [hs, hl]
  · simp [e]; exact ⟨h1, h2, h3, h4⟩
end Shelves

section Shift
variable {a : Nat → Nat} {S : St} {b : Nat} {sh : Nat → Nat → Nat} {el : Nat → Nat → Int64}
theorem FC.feed {len : Nat} {t : Nat → Nat} (h : FC len t S) {x : Nat} (hl : len < 120) (hx : x < 256) : FC (len + 1) (fun i => if i = len then x else t i) (uI (uI S 14 len (nI x)) 0 8 (nI (len + 1))) := by
  refine ⟨by simp [uI_at], by omega, fun i hi => ?_⟩
  by_cases e : i = len
  · subst e; simp [uI_at, hx]
  · have := h.2.2 i (by omega)
    simp [uI_at, e, this]
end Shift

theorem CardOk.nat {x y z : Int32} (h : CardOk x y z) : ∃ p q r, p < 6 ∧ q < 6 ∧ r < 10 ∧ x = nI p ∧ y = nI q ∧ z = nI r := by
  obtain ⟨p, hp, rfl⟩ := in_nI (n := 6) (by decide) h.1
  obtain ⟨q, hq, rfl⟩ := in_nI (n := 6) (by decide) h.2.1
  obtain ⟨r, hr, rfl⟩ := in_nI (n := 10) (by decide) h.2.2
  exact ⟨p, q, r, hp, hq, hr, rfl, rfl, rfl⟩
section Cards
variable {a : Nat → Nat} {S : St} {b n k u : Nat} {v h : Nat → Nat → Nat} {sh : Nat → Nat → Nat} {el : Nat → Nat → Int64}
end Cards

section Text
variable {t : Nat → Nat} {len : Nat}
theorem numR_w (ht : ∀ i, t i < 256) : ∀ (k p w : Nat), (numR t len k p w).2 < (w + 1) * 10 ^ k
  | 0, p, w => by show w < (w + 1) * 1; omega
  | k + 1, p, w => by
    rw [numR]
    split
    · next c =>
      have d := dg_b (ht p) c
      have := numR_w ht k (p + 1) (w * 10 + t p - 48)
      refine Nat.lt_of_lt_of_le this ?_
      rw [Nat.pow_succ, Nat.mul_comm (10 ^ k) 10, ← Nat.mul_assoc]
      exact Nat.mul_le_mul_right _ (by omega)
    · show w < _
      have : 1 ≤ 10 ^ (k + 1) := Nat.pow_le_pow_right (show 0 < 10 by decide) (Nat.zero_le (k + 1))
      have h2 : (w + 1) * 1 ≤ (w + 1) * 10 ^ (k + 1) := Nat.mul_le_mul_left _ this
      omega
theorem numR_9 (ht : ∀ i, t i < 256) (p : Nat) : (numR t len 4 p 0).2 < 10000 := numR_w ht 4 p 0
end Text

section Value
theorem runI_app {e : Nat → Int32} : ∀ (l1 l2 st : List Int32), runI e (l1 ++ l2) st = (runI e l1 st).bind (runI e l2)
  | [], l2, st => rfl
  | x :: l1, l2, st => by
    rw [List.cons_append, runI, runI]
    cases stepI e x st with
    | none => rfl
    | some s => exact runI_app l1 l2 s
theorem jn_not {lvl : Nat} {x : Int32} (h : jn lvl x = true) : ¬ 0 ≤ -x ∧ ¬ isNm x = true ∧ ¬ -x = -33 ∧ ¬ -x = -95 := by
  have h2 : x = 124 ∨ x = 38 ∨ x = 60 ∨ x = 61 ∨ x = 62 ∨ x = 43 ∨ x = 45 ∨ x = 42 ∨ x = 47 ∨ x = 37 := by
    match lvl, h with
    | 0, z => exact Or.inl (of_decide_eq_true z)
    | 1, z => exact Or.inr (Or.inl (of_decide_eq_true z))
    | 2, z => rcases of_decide_eq_true z with q | q | q <;> simp [q]
    | 3, z => rcases of_decide_eq_true z with q | q <;> simp [q]
    | n + 4, z => rcases (of_decide_eq_true z : x = 42 ∨ x = 47 ∨ x = 37) with q | q | q <;> simp [q]
  rcases h2 with rfl | rfl | rfl | rfl | rfl | rfl | rfl | rfl | rfl | rfl <;> decide
theorem Good.num {w : Nat} (h : w < 2 ^ 31) : Good [nI w] := by
  have h0 := nI_pos' h
  refine ⟨fun x hx => ?_, fun e => ⟨nI w, fun st => ?_⟩⟩
  · rw [List.mem_singleton.mp hx]; exact Or.inl h0
  · rw [runI, stepI.eq_def, if_pos h0]; rfl
theorem nm_neg {x : Int32} (h : isNm x = true) : ¬ 0 ≤ -x := by
  rcases (of_decide_eq_true h : x = 97 ∨ x = 98 ∨ x = 110 ∨ x = 109 ∨ x = 115) with rfl | rfl | rfl | rfl | rfl <;> decide
theorem Good.nm {x : Int32} (h : isNm x = true) : Good [-x] := by
  have h2 : isNm (- -x) = true := by rw [neg_neg']; exact h
  refine ⟨fun y hy => ?_, fun e => ⟨e (sgW (-x)).toNatClampNeg, fun st => ?_⟩⟩
  · rw [List.mem_singleton.mp hy]; exact Or.inr (Or.inl h2)
  · rw [runI, stepI.eq_def, if_neg (nm_neg h), if_pos h2]; rfl
theorem Good.two {l l' : List Int32} {lvl : Nat} {x : Int32} (h1 : Good l) (h2 : Good l') (h : jn lvl x = true) : Good (l ++ l' ++ [-x]) := by
  obtain ⟨n1, n2, n3, n4⟩ := jn_not h
  refine ⟨fun y hy => ?_, fun e => ⟨twoV x (valI e l) (valI e l'), fun st => ?_⟩⟩
  · rcases List.mem_append.mp hy with hy | hy
    · rcases List.mem_append.mp hy with hy | hy
      · exact h1.1 y hy
      · exact h2.1 y hy
    · rw [List.mem_singleton.mp hy]
      exact Or.inr (Or.inr (Or.inr (Or.inr ⟨lvl, by rw [neg_neg']; exact h⟩)))
  · rw [runI_app, runI_app, h1.run]
    show (((runI e l' (valI e l :: st))).bind (runI e [-x])) = _
    rw [h2.run]
    show runI e [-x] (valI e l' :: valI e l :: st) = _
    rw [runI, stepI, if_neg n1, if_neg (by rw [neg_neg']; exact n2), if_neg n3, if_neg n4, neg_neg']; rfl
theorem Good.one {l : List Int32} (h : Good l) {x : Int32} (hx : x = -33 ∨ x = -95) : Good (l ++ [x]) := by
  refine ⟨fun y hy => ?_, fun e => ⟨if x = -33 then (if valI e l = 0 then 1 else 0) else -valI e l, fun st => ?_⟩⟩
  · rcases List.mem_append.mp hy with hy | hy
    · exact h.1 y hy
    · rw [List.mem_singleton.mp hy]
      rcases hx with rfl | rfl
      · exact Or.inr (Or.inr (Or.inl rfl))
      · exact Or.inr (Or.inr (Or.inr (Or.inl rfl)))
  · rw [runI_app, h.run]
    show runI e [x] (valI e l :: st) = _
    rcases hx with rfl | rfl
    · rw [runI, stepI, if_neg (by decide), if_neg (by decide), if_pos rfl, if_pos rfl]; rfl
    · rw [runI, stepI, if_neg (by decide), if_neg (by decide), if_neg (by decide), if_pos rfl, if_neg (by decide)]; rfl
variable {t : Nat → Nat} {len : Nat}
theorem PK_good (ht : ∀ i, t i < 256) : ∀ (f : Nat) (m : Option (List Int32)) (lvl op p q : Nat) (l : List Int32), PK t len f m lvl op p = some (q, some l) → (∀ l0, m = some l0 → Good l0) → Good l
  | 0, m, lvl, op, p, q, l, h, hm => by rw [PK] at h; cases h
  | f + 1, some l0, lvl, op, p, q, l, h, hm => by
    have g0 := hm l0 rfl
    rw [PK] at h
    split at h
    · next c =>
      rcases thn_some h with ⟨q1, e1, e2⟩ | ⟨q1, l1, e1, e2⟩
      · cases e2
      · have g1 := PK_good ht f none _ _ _ _ _ e1 (fun _ z => by cases z)
        split at e2
        · cases e2; exact g0.two g1 c
        · exact PK_good ht f _ _ _ _ _ _ e2 (fun l9 z => by cases z; exact g0.two g1 c)
    · cases h; exact g0
  | f + 1, none, lvl, op, p, q, l, h, hm => by
    rw [PK] at h
    split at h
    · rcases thn_some h with ⟨q1, e1, e2⟩ | ⟨q1, l1, e1, e2⟩
      · cases e2
      · have g1 := PK_good ht f none _ _ _ _ _ e1 (fun _ z => by cases z)
        exact PK_good ht f _ _ _ _ _ _ e2 (fun l9 z => by cases z; exact g1)
    · split at h
      · split at h
        · cases h
        · cases h; exact Good.num (by have := numR_9 (len := len) ht p; omega)
      · split at h
        · next c => cases h; exact Good.nm c
        · split at h
          · cases h
          · split at h
            · rcases thn_some h with ⟨q1, e1, e2⟩ | ⟨q1, l1, e1, e2⟩
              · cases e2
              · have g1 := PK_good ht f none _ _ _ _ _ e1 (fun _ z => by cases z)
                split at e2
                · cases e2; exact g1
                · cases e2
            · split at h
              · rcases thn_some h with ⟨q1, e1, e2⟩ | ⟨q1, l1, e1, e2⟩
                · cases e2
                · have g1 := PK_good ht f none _ _ _ _ _ e1 (fun _ z => by cases z)
                  cases e2; exact g1.one (Or.inl rfl)
              · split at h
                · rcases thn_some h with ⟨q1, e1, e2⟩ | ⟨q1, l1, e1, e2⟩
                  · cases e2
                  · have g1 := PK_good ht f none _ _ _ _ _ e1 (fun _ z => by cases z)
                    cases e2; exact g1.one (Or.inr rfl)
                · cases h
theorem lineR_good (ht : ∀ i, t i < 256) (hl : len ≤ 120) {p q : Nat} {ln : Line} (hp : p ≤ len) (h : lineR t len p = (q, some ln)) : GoodL ln := by
  unfold lineR at h
  have e1 := PE_eq (t := t) hl hp
  split at h
  · cases h
  · next l e =>
    have g1 : Good l := PK_good ht 2000 none 0 0 p (PE t len p).1 l (by rw [e1, ← e]) (fun _ z => by cases z)
    split at h
    · next c =>
      have hlt := (sv_lt c (by decide)).1
      have e3 := PE_eq (t := t) hl (p := (PE t len p).1 + 1) (by omega)
      split at h
      · cases h
      · next l2 e2 =>
        have g2 : Good l2 := PK_good ht 2000 none 0 0 _ (PE t len ((PE t len p).1 + 1)).1 l2 (by rw [e3, ← e2]) (fun _ z => by cases z)
        cases h
        exact ⟨Or.inr g1, g2⟩
    · cases h
      exact ⟨Or.inl rfl, g1⟩
theorem textR_good (ht : ∀ i, t i < 256) (hl : len ≤ 120) : ∀ (n p q : Nat) (ls ls' : List Line), p ≤ len → (∀ x ∈ ls, GoodL x) → textR t len n p ls = (q, some ls') → ∀ x ∈ ls', GoodL x
  | 0, p, q, ls, ls', hp, hg, h => by rw [textR] at h; cases h
  | n + 1, p, q, ls, ls', hp, hg, h => by
    have p8 := lineR_at (t := t) hl hp
    rw [textR] at h
    split at h
    · cases h
    · next ln e =>
      have gl : GoodL ln := lineR_good ht hl hp (q := (lineR t len p).1) (by rw [← e])
      have hg2 : ∀ x ∈ ls ++ [ln], GoodL x := fun x hx => by
        rcases List.mem_append.mp hx with hx | hx
        · exact hg x hx
        · rw [List.mem_singleton.mp hx]; exact gl
      split at h
      · next c => exact textR_good ht hl n _ q _ ls' (sv_lt c (by decide)).1 hg2 h
      · split at h
        · cases h
        · cases h; exact hg2
theorem lawN_good {len : Nat} {t : Nat → Nat} {b : Option (List Line)} (hl : len ≤ 120) (h : GoodB b) : GoodB (lawN (lawT len t) b) := by
  intro ls hls
  rcases hr : lawT len t with ⟨q, _ | ls'⟩
  · rw [hr] at hls; exact h ls hls
  · rw [hr] at hls
    cases hls
    exact textR_good (tt_lt t) hl 121 0 q [] ls (by omega) (fun x hx => by cases hx) hr
end Value

section Pairs
variable {a : Nat → Nat} {mi y1 y2 : MI} {d d' d1 d2 t : Nat} {As As1 As2 xs : List Value} {S S1 : St} {I : St → Prop}
theorem Rqi.of {v : Int32} (h : Rt a mi d As S (some (.int v)) S1) : Rqi a mi d As S fun z S' => z = v ∧ S' = S1 := J.post h (fun r S' e => ⟨v, e.1, rfl, e.2⟩)
theorem Rql.of {v : Int64} (h : Rt a mi d As S (some (.long v)) S1) : Rql a mi d As S fun z S' => z = v ∧ S' = S1 := J.post h (fun r S' e => ⟨v, e.1, rfl, e.2⟩)
theorem Rqi.up {Q Q' : Int32 → St → Prop} (h : Rqi a mi d As S Q) (hd : d ≤ d') (hQ : ∀ z S', Q z S' → Q' z S') : Rqi a mi d' As S Q' := J.mono (J.post h (fun r S' e => by obtain ⟨v, e1, e2⟩ := e; exact ⟨v, e1, hQ v S' e2⟩)) hd
theorem Rql.up {Q Q' : Int64 → St → Prop} (h : Rql a mi d As S Q) (hd : d ≤ d') (hQ : ∀ z S', Q z S' → Q' z S') : Rql a mi d' As S Q' := J.mono (J.post h (fun r S' e => by obtain ⟨v, e1, e2⟩ := e; exact ⟨v, e1, hQ v S' e2⟩)) hd
theorem ofV_congr {n : Nat} {v : Nat → Nat → Nat} {as as' ld ld' : Nat → Int32} {lat x y : Int32} (hn : n ≤ 8) (h1 : ∀ i, i < 8 → as i = as' i) (h2 : ∀ c, c < 6 → ld c = ld' c) : ofV n v as ld lat x y = ofV n v as' ld' lat x y := by
  unfold ofV
  congr 1
  congr 1
  · by_cases c : 0 ≤ x ∧ x < nI n
    · rw [if_pos c, if_pos c]
      obtain ⟨i, hi, rfl⟩ := in_nI (by omega) c
      rw [nI_clamp (by omega), h1 i (by omega)]
    · rw [if_neg c, if_neg c]
  · congr 1
    by_cases c : 0 ≤ x ∧ x < 6
    · rw [if_pos c, if_pos c]
      obtain ⟨i, hi, rfl⟩ := in_nI (n := 6) (by decide) c
      rw [nI_clamp (by omega), h2 i hi]
    · rw [if_neg c, if_neg c]
end Pairs

theorem Kp_zL {rs : List Nat} {S S1 : St} {j p k : Nat} (h : Kp rs S S1) (hr : ∀ q, rg j q ∈ rs) : Kp rs S (zL S1 j p k) := by
  refine ⟨fun j' k' q => ⟨(h.1 j' k' q).1, ?_⟩, h.2⟩
  have hne : ¬ j' = j := fun e => q (by rw [e]; exact hr k')
  show (if _ then _ else _) = _
  rw [if_neg (fun z => hne z.1)]
  exact (h.1 j' k' q).2
section ChangeHelp
variable {t n n' k u l i x bd c j : Nat} {v v' h : Nat → Nat → Nat} {S S1 : St} {as : Nat → Nat} {ld : Nat → Int32} {im : Option Img} {sh : Nat → Nat → Nat} {el : Nat → Nat → Int64}
theorem Hok.up (h0 : Hok n k u h) (hn : n ≤ n') : Hok n' k u h := fun i hi => by
  obtain ⟨h1, h2, h3⟩ := h0 i hi
  refine ⟨h1, ?_, h3⟩
  unfold numN at h2 ⊢
  split
  · next e => rw [if_pos e] at h2; omega
  · next e => rw [if_neg e] at h2; exact h2
theorem SOk.up (h0 : SOk bd sh) (hb : bd < 50) : SOk (bd + 1) sh := ⟨by omega, fun i hi => ⟨(h0.2 i hi).1, fun e => Nat.lt_succ_of_lt ((h0.2 i hi).2.1 e), (h0.2 i hi).2.2⟩⟩
theorem BOk.up (h0 : BOk sh el) {f x : Nat} (hx : ¬ (f = 0 ∧ x = 2)) (hf : f < 2) : BOk (upS sh i f x) el := fun i' hi' h2 h0' k hk => by
  unfold upS at h2 h0'
  refine h0 i' hi' ?_ ?_ k hk
  · by_cases e : i' = i ∧ (0 : Nat) = f
    · rw [if_pos e] at h2; exact absurd ⟨e.2.symm, h2⟩ hx
    · rw [if_neg e] at h2; exact h2
  · rw [if_neg (by omega)] at h0'; exact h0'
theorem BOk.row (h0 : BOk sh el) {so ln : Nat} : BOk (upR sh i so ln) (zE el i) := fun i' hi' h2 h0' k hk => by
  unfold zE
  unfold upR at h2 h0'
  by_cases e : i' = i
  · rw [if_pos e]; rfl
  · rw [if_neg e]
    rw [if_neg e] at h2 h0'
    exact h0 i' hi' h2 h0' k hk
theorem BOk.put (h0 : BOk sh el) {w : Int64} : BOk sh (upE el i k (keptV (sh i 2) w)) := fun i' hi' h2 h0' k' hk => by
  unfold upE
  by_cases e : i' = i ∧ k' = k
  · rw [if_pos e]
    rw [e.1] at h0'
    rw [h0', keptV, if_pos rfl, jd64]
  · rw [if_neg e]; exact h0 i' hi' h2 h0' k' hk
end ChangeHelp
section Pairs2
variable {a : Nat → Nat} {t : Nat} {S : St}

end Pairs2

