/-! what a law gives -/
section Value
def twoV (x l r : Int32) : Int32 := if x = 124 then (if l ≠ 0 ∨ r ≠ 0 then 1 else 0) else if x = 38 then (if l ≠ 0 ∧ r ≠ 0 then 1 else 0) else if x = 60 then (if l < r then 1 else 0) else if x = 61 then (if l = r then 1 else 0) else if x = 62 then (if r < l then 1 else 0) else if x = 43 then l + r else if x = 45 then l - r else if x = 42 then l * r else if x = 47 then (if r = 0 then 0 else l / r) else (if r = 0 then 0 else l - l / r * r)
def stepI (e : Nat → Int32) (x : Int32) (st : List Int32) : Option (List Int32) :=
  if 0 ≤ x then some (x :: st)
  else if isNm (-x) = true then some (e (sgW x).toNatClampNeg :: st)
  else if x = -33 then (match st with
    | v :: st => some ((if v = 0 then 1 else 0) :: st)
    | [] => none)
  else if x = -95 then (match st with
    | v :: st => some (-v :: st)
    | [] => none)
  else (match st with
    | r :: l :: st => some (twoV (-x) l r :: st)
    | _ => none)
def runI (e : Nat → Int32) : List Int32 → List Int32 → Option (List Int32)
  | [], st => some st
  | x :: xs, st => (stepI e x st).bind (runI e xs)
theorem runI_app {e : Nat → Int32} : ∀ (l1 l2 st : List Int32), runI e (l1 ++ l2) st = (runI e l1 st).bind (runI e l2)
  | [], l2, st => rfl
  | x :: l1, l2, st => by
    rw [List.cons_append, runI, runI]
    cases stepI e x st with
    | none => rfl
    | some s => exact runI_app l1 l2 s
/-- an item of an expression -/
def OkI (x : Int32) : Prop := 0 ≤ x ∨ isNm (-x) = true ∨ x = -33 ∨ x = -95 ∨ ∃ lvl, jn lvl (-x) = true
def Good (l : List Int32) : Prop := (∀ x ∈ l, OkI x) ∧ ∀ e, ∃ v, ∀ st, runI e l st = some (v :: st)
def valI (e : Nat → Int32) (l : List Int32) : Int32 := ((runI e l []).getD []).headD 0
theorem Good.run {l : List Int32} (h : Good l) (e : Nat → Int32) (st : List Int32) : runI e l st = some (valI e l :: st) := by
  obtain ⟨v, hv⟩ := h.2 e
  rw [hv st, valI, hv []]; rfl
theorem neg_neg' (x : Int32) : - -x = x := by simp
theorem jn_not {lvl : Nat} {x : Int32} (h : jn lvl x = true) : ¬ 0 ≤ -x ∧ ¬ isNm x = true ∧ ¬ -x = -33 ∧ ¬ -x = -95 := by
  have h2 : x = 124 ∨ x = 38 ∨ x = 60 ∨ x = 61 ∨ x = 62 ∨ x = 43 ∨ x = 45 ∨ x = 42 ∨ x = 47 ∨ x = 37 := by
    match lvl, h with
    | 0, z => exact Or.inl (of_decide_eq_true z)
    | 1, z => exact Or.inr (Or.inl (of_decide_eq_true z))
    | 2, z => rcases of_decide_eq_true z with q | q | q <;> simp [q]
    | 3, z => rcases of_decide_eq_true z with q | q <;> simp [q]
    | n + 4, z => rcases (of_decide_eq_true z : x = 42 ∨ x = 47 ∨ x = 37) with q | q | q <;> simp [q]
  rcases h2 with rfl | rfl | rfl | rfl | rfl | rfl | rfl | rfl | rfl | rfl <;> decide
theorem Good.num {w : Nat} (h : w < 2 ^ 31) : Good [nI w] := by
  have h0 := nI_pos' h
  refine ⟨fun x hx => ?_, fun e => ⟨nI w, fun st => ?_⟩⟩
  · rw [List.mem_singleton.mp hx]; exact Or.inl h0
  · rw [runI, stepI.eq_def, if_pos h0]; rfl
theorem nm_neg {x : Int32} (h : isNm x = true) : ¬ 0 ≤ -x := by
  rcases (of_decide_eq_true h : x = 97 ∨ x = 98 ∨ x = 110 ∨ x = 109 ∨ x = 115) with rfl | rfl | rfl | rfl | rfl <;> decide
theorem Good.nm {x : Int32} (h : isNm x = true) : Good [-x] := by
  have h2 : isNm (- -x) = true := by rw [neg_neg']; exact h
  refine ⟨fun y hy => ?_, fun e => ⟨e (sgW (-x)).toNatClampNeg, fun st => ?_⟩⟩
  · rw [List.mem_singleton.mp hy]; exact Or.inr (Or.inl h2)
  · rw [runI, stepI.eq_def, if_neg (nm_neg h), if_pos h2]; rfl
theorem Good.two {l l' : List Int32} {lvl : Nat} {x : Int32} (h1 : Good l) (h2 : Good l') (h : jn lvl x = true) : Good (l ++ l' ++ [-x]) := by
  obtain ⟨n1, n2, n3, n4⟩ := jn_not h
  refine ⟨fun y hy => ?_, fun e => ⟨twoV x (valI e l) (valI e l'), fun st => ?_⟩⟩
  · rcases List.mem_append.mp hy with hy | hy
    · rcases List.mem_append.mp hy with hy | hy
      · exact h1.1 y hy
      · exact h2.1 y hy
    · rw [List.mem_singleton.mp hy]
      exact Or.inr (Or.inr (Or.inr (Or.inr ⟨lvl, by rw [neg_neg']; exact h⟩)))
  · rw [runI_app, runI_app, h1.run]
    show (((runI e l' (valI e l :: st))).bind (runI e [-x])) = _
    rw [h2.run]
    show runI e [-x] (valI e l' :: valI e l :: st) = _
    rw [runI, stepI, if_neg n1, if_neg (by rw [neg_neg']; exact n2), if_neg n3, if_neg n4, neg_neg']; rfl
theorem Good.one {l : List Int32} (h : Good l) {x : Int32} (hx : x = -33 ∨ x = -95) : Good (l ++ [x]) := by
  refine ⟨fun y hy => ?_, fun e => ⟨if x = -33 then (if valI e l = 0 then 1 else 0) else -valI e l, fun st => ?_⟩⟩
  · rcases List.mem_append.mp hy with hy | hy
    · exact h.1 y hy
    · rw [List.mem_singleton.mp hy]
      rcases hx with rfl | rfl
      · exact Or.inr (Or.inr (Or.inl rfl))
      · exact Or.inr (Or.inr (Or.inr (Or.inl rfl)))
  · rw [runI_app, h.run]
    show runI e [x] (valI e l :: st) = _
    rcases hx with rfl | rfl
    · rw [runI, stepI, if_neg (by decide), if_neg (by decide), if_pos rfl, if_pos rfl]; rfl
    · rw [runI, stepI, if_neg (by decide), if_neg (by decide), if_neg (by decide), if_pos rfl, if_neg (by decide)]; rfl
variable {t : Nat → Nat} {len : Nat}
theorem PK_good (ht : ∀ i, t i < 256) : ∀ (f : Nat) (m : Option (List Int32)) (lvl op p q : Nat) (l : List Int32), PK t len f m lvl op p = some (q, some l) → (∀ l0, m = some l0 → Good l0) → Good l
  | 0, m, lvl, op, p, q, l, h, hm => by rw [PK] at h; cases h
  | f + 1, some l0, lvl, op, p, q, l, h, hm => by
    have g0 := hm l0 rfl
    rw [PK] at h
    split at h
    · next c =>
      rcases thn_some h with ⟨q1, e1, e2⟩ | ⟨q1, l1, e1, e2⟩
      · cases e2
      · have g1 := PK_good ht f none _ _ _ _ _ e1 (fun _ z => by cases z)
        split at e2
        · cases e2; exact g0.two g1 c
        · exact PK_good ht f _ _ _ _ _ _ e2 (fun l9 z => by cases z; exact g0.two g1 c)
    · cases h; exact g0
  | f + 1, none, lvl, op, p, q, l, h, hm => by
    rw [PK] at h
    split at h
    · rcases thn_some h with ⟨q1, e1, e2⟩ | ⟨q1, l1, e1, e2⟩
      · cases e2
      · have g1 := PK_good ht f none _ _ _ _ _ e1 (fun _ z => by cases z)
        exact PK_good ht f _ _ _ _ _ _ e2 (fun l9 z => by cases z; exact g1)
    · split at h
      · split at h
        · cases h
        · cases h; exact Good.num (by have := numR_9 (len := len) ht p; omega)
      · split at h
        · next c => cases h; exact Good.nm c
        · split at h
          · cases h
          · split at h
            · rcases thn_some h with ⟨q1, e1, e2⟩ | ⟨q1, l1, e1, e2⟩
              · cases e2
              · have g1 := PK_good ht f none _ _ _ _ _ e1 (fun _ z => by cases z)
                split at e2
                · cases e2; exact g1
                · cases e2
            · split at h
              · rcases thn_some h with ⟨q1, e1, e2⟩ | ⟨q1, l1, e1, e2⟩
                · cases e2
                · have g1 := PK_good ht f none _ _ _ _ _ e1 (fun _ z => by cases z)
                  cases e2; exact g1.one (Or.inl rfl)
              · split at h
                · rcases thn_some h with ⟨q1, e1, e2⟩ | ⟨q1, l1, e1, e2⟩
                  · cases e2
                  · have g1 := PK_good ht f none _ _ _ _ _ e1 (fun _ z => by cases z)
                    cases e2; exact g1.one (Or.inr rfl)
                · cases h
def GoodL (ln : Line) : Prop := (ln.1 = [] ∨ Good ln.1) ∧ Good ln.2
theorem lineR_good (ht : ∀ i, t i < 256) (hl : len ≤ 120) {p q : Nat} {ln : Line} (hp : p ≤ len) (h : lineR t len p = (q, some ln)) : GoodL ln := by
  unfold lineR at h
  have e1 := PE_eq (t := t) hl hp
  split at h
  · cases h
  · next l e =>
    have g1 : Good l := PK_good ht 2000 none 0 0 p (PE t len p).1 l (by rw [e1, ← e]) (fun _ z => by cases z)
    split at h
    · next c =>
      have hlt := (sv_lt c (by decide)).1
      have e3 := PE_eq (t := t) hl (p := (PE t len p).1 + 1) (by omega)
      split at h
      · cases h
      · next l2 e2 =>
        have g2 : Good l2 := PK_good ht 2000 none 0 0 _ (PE t len ((PE t len p).1 + 1)).1 l2 (by rw [e3, ← e2]) (fun _ z => by cases z)
        cases h
        exact ⟨Or.inr g1, g2⟩
    · cases h
      exact ⟨Or.inl rfl, g1⟩
theorem textR_good (ht : ∀ i, t i < 256) (hl : len ≤ 120) : ∀ (n p q : Nat) (ls ls' : List Line), p ≤ len → (∀ x ∈ ls, GoodL x) → textR t len n p ls = (q, some ls') → ∀ x ∈ ls', GoodL x
  | 0, p, q, ls, ls', hp, hg, h => by rw [textR] at h; cases h
  | n + 1, p, q, ls, ls', hp, hg, h => by
    have p8 := lineR_at (t := t) hl hp
    rw [textR] at h
    split at h
    · cases h
    · next ln e =>
      have gl : GoodL ln := lineR_good ht hl hp (q := (lineR t len p).1) (by rw [← e])
      have hg2 : ∀ x ∈ ls ++ [ln], GoodL x := fun x hx => by
        rcases List.mem_append.mp hx with hx | hx
        · exact hg x hx
        · rw [List.mem_singleton.mp hx]; exact gl
      split at h
      · next c => exact textR_good ht hl n _ q _ ls' (sv_lt c (by decide)).1 hg2 h
      · split at h
        · cases h
        · cases h; exact hg2
/-- a law whose lines all give a value -/
def GoodB (b : Option (List Line)) : Prop := ∀ ls, b = some ls → ∀ x ∈ ls, GoodL x
theorem lawN_good {len : Nat} {t : Nat → Nat} {b : Option (List Line)} (hl : len ≤ 120) (h : GoodB b) : GoodB (lawN (lawT len t) b) := by
  intro ls hls
  rcases hr : lawT len t with ⟨q, _ | ls'⟩
  · rw [hr] at hls; exact h ls hls
  · rw [hr] at hls
    cases hls
    exact textR_good (tt_lt t) hl 121 0 q [] ls (by omega) (fun x hx => by cases hx) hr
/-- what the lines give -/
def lawI (e : Nat → Int32) : List Line → Int32
  | [] => 0
  | ln :: ls => if ln.1 = [] ∨ ¬ valI e ln.1 = 0 then valI e ln.2 else lawI e ls
end Value
