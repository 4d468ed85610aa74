/-! a law's text: what it says -/
section Text
/-- the sign at a place of the text, -1 behind its end -/
def sv (t : Nat → Nat) (len p : Nat) : Int32 := if p < len then nI (t p) else -1
def isDg (x : Int32) : Bool := decide (48 ≤ x ∧ x ≤ 57)
def isNm (x : Int32) : Bool := decide (x = 97 ∨ x = 98 ∨ x = 110 ∨ x = 109 ∨ x = 115)
def jn (lvl : Nat) (x : Int32) : Bool := match lvl with
  | 0 => decide (x = 124)
  | 1 => decide (x = 38)
  | 2 => decide (x = 60 ∨ x = 61 ∨ x = 62)
  | 3 => decide (x = 43 ∨ x = 45)
  | _ => decide (x = 42 ∨ x = 47 ∨ x = 37)
def numR (t : Nat → Nat) (len : Nat) : Nat → Nat → Nat → Nat × Nat
  | 0, p, w => (p, w)
  | k + 1, p, w => if isDg (sv t len p) = true then numR t len k (p + 1) (w * 10 + t p - 48) else (p, w)
abbrev Rs : Type := Nat × Option (List Int32)
def thn (r : Option Rs) (k : Nat → List Int32 → Option Rs) : Option Rs := match r with
  | none => none
  | some (q, none) => some (q, none)
  | some (q, some l) => k q l
/-- with fuel: an operand of a level from p on (none), or what joins to l (some l) -/
def PK (t : Nat → Nat) (len : Nat) : Nat → Option (List Int32) → Nat → Nat → Nat → Option Rs
  | 0, _, _, _, _ => none
  | f + 1, some l, lvl, op, p =>
    if jn lvl (sv t len p) = true then thn (PK t len f none (lvl + 1) op (p + 1)) fun q l' => if lvl = 2 then some (q, some (l ++ l' ++ [-sv t len p])) else PK t len f (some (l ++ l' ++ [-sv t len p])) lvl op q
    else some (p, some l)
  | f + 1, none, lvl, op, p =>
    if lvl < 5 then thn (PK t len f none (lvl + 1) op p) fun q l => PK t len f (some l) lvl op q
    else if isDg (sv t len p) = true then (if isDg (sv t len (numR t len 4 p 0).1) = true then some ((numR t len 4 p 0).1, none) else some ((numR t len 4 p 0).1, some [nI (numR t len 4 p 0).2]))
    else if isNm (sv t len p) = true then some (p + 1, some [-sv t len p])
    else if 6 ≤ op then some (p, none)
    else if sv t len p = 40 then thn (PK t len f none 0 (op + 1) (p + 1)) fun q l => if sv t len q = 41 then some (q + 1, some l) else some (q, none)
    else if sv t len p = 33 then thn (PK t len f none 5 (op + 1) (p + 1)) fun q l => some (q, some (l ++ [-33]))
    else if sv t len p = 45 then thn (PK t len f none 5 (op + 1) (p + 1)) fun q l => some (q, some (l ++ [-95]))
    else some (p, none)
variable {t : Nat → Nat} {len : Nat}
theorem sv_lt {p : Nat} {x : Int32} (h : sv t len p = x) (hx : ¬ x = -1) : p < len ∧ x = nI (t p) := by
  unfold sv at h
  split at h
  · next c => exact ⟨c, h.symm⟩
  · exact absurd h.symm hx
theorem dg_1 {p : Nat} (h : isDg (sv t len p) = true) : p < len ∧ sv t len p = nI (t p) := by
  by_cases c : p < len
  · exact ⟨c, by rw [sv, if_pos c]⟩
  · rw [sv, if_neg c] at h; exact absurd h (by decide)
theorem nm_1 {p : Nat} (h : isNm (sv t len p) = true) : p < len := by
  by_cases c : p < len
  · exact c
  · rw [sv, if_neg c] at h; exact absurd h (by decide)
theorem jn_1 {p lvl : Nat} (h : jn lvl (sv t len p) = true) : p < len := by
  by_cases c : p < len
  · exact c
  · rw [sv, if_neg c] at h
    match lvl, h with
    | 0, h => exact absurd h (by decide)
    | 1, h => exact absurd h (by decide)
    | 2, h => exact absurd h (by decide)
    | 3, h => exact absurd h (by decide)
    | n + 4, h => exact absurd h (by simp [jn])
theorem dg_b {p : Nat} (ht : t p < 256) (h : isDg (sv t len p) = true) : 48 ≤ t p ∧ t p ≤ 57 := by
  obtain ⟨h1, h2⟩ := dg_1 h
  rw [h2] at h
  have h3 := of_decide_eq_true h
  have a1 := (nI_leI (a := 48) (b := t p) (by decide) (by omega)).mp h3.1
  have a2 := (nI_leI (a := t p) (b := 57) (by omega) (by decide)).mp h3.2
  exact ⟨a1, a2⟩
theorem numR_at : ∀ (k p w : Nat), p ≤ len → p ≤ (numR t len k p w).1 ∧ (numR t len k p w).1 ≤ len
  | 0, p, w, h => ⟨Nat.le_refl _, h⟩
  | k + 1, p, w, h => by
    unfold numR
    split
    · next c =>
      have := numR_at k (p + 1) (w * 10 + t p - 48) (dg_1 c).1
      omega
    · exact ⟨Nat.le_refl _, h⟩
theorem numR_4 {p : Nat} (h : isDg (sv t len p) = true) : p < (numR t len 4 p 0).1 ∧ (numR t len 4 p 0).1 ≤ len := by
  rw [numR, if_pos h]
  have := numR_at (t := t) 3 (p + 1) (0 * 10 + t p - 48) (dg_1 h).1
  omega
theorem thn_some {r : Option Rs} {k : Nat → List Int32 → Option Rs} {z : Rs} (h : thn r k = some z) : (∃ q, r = some (q, none) ∧ z = (q, none)) ∨ ∃ q l, r = some (q, some l) ∧ k q l = some z := by
  match r, h with
  | some (q, none), h => exact Or.inl ⟨q, rfl, (Option.some.inj h).symm⟩
  | some (q, some l), h => exact Or.inr ⟨q, l, rfl, h⟩
/-- where it ends, and how long what it says is -/
theorem PK_at : ∀ (f : Nat) (m : Option (List Int32)) (lvl op p q : Nat) (r : Option (List Int32)), PK t len f m lvl op p = some (q, r) → p ≤ len → p ≤ q ∧ q ≤ len ∧ (m = none → ∀ l, r = some l → p < q ∧ l.length ≤ q - p ∧ 0 < l.length) ∧ ∀ l0, m = some l0 → ∀ l, r = some l → l.length ≤ l0.length + (q - p) ∧ l0.length ≤ l.length
  | 0, m, lvl, op, p, q, r, h, hp => by rw [PK] at h; cases h
  | f + 1, some l0, lvl, op, p, q, r, h, hp => by
    rw [PK] at h
    split at h
    · next c =>
      have hlt := jn_1 c
      rcases thn_some h with ⟨q1, e1, e2⟩ | ⟨q1, l1, e1, e2⟩
      · cases e2
        have := PK_at f none _ _ _ _ _ e1 hlt
        exact ⟨by omega, this.2.1, (fun z => by cases z), fun l0 _ l z => by cases z⟩
      · have a1 := PK_at f none _ _ _ _ _ e1 hlt
        have a2 := a1.2.2.1 rfl l1 rfl
        have el : (l0 ++ l1 ++ [-sv t len p]).length = l0.length + l1.length + 1 := by simp; omega
        split at e2
        · cases e2
          refine ⟨by omega, a1.2.1, (fun z => by cases z), fun l9 e9 l z => ?_⟩
          cases e9; cases z
          omega
        · have a3 := PK_at f _ _ _ _ _ _ e2 a1.2.1
          refine ⟨by omega, a3.2.1, (fun z => by cases z), fun l9 e9 l z => ?_⟩
          cases e9
          have := a3.2.2.2 _ rfl l z
          omega
    · cases h
      exact ⟨Nat.le_refl _, hp, (fun z => by cases z), fun l9 e9 l z => by cases e9; cases z; omega⟩
  | f + 1, none, lvl, op, p, q, r, h, hp => by
    rw [PK] at h
    split at h
    · rcases thn_some h with ⟨q1, e1, e2⟩ | ⟨q1, l1, e1, e2⟩
      · cases e2
        have := PK_at f none _ _ _ _ _ e1 hp
        exact ⟨by omega, this.2.1, (fun _ l z => by cases z), fun l0 z => by cases z⟩
      · have a1 := PK_at f none _ _ _ _ _ e1 hp
        have a2 := a1.2.2.1 rfl l1 rfl
        have a3 := PK_at f _ _ _ _ _ _ e2 a1.2.1
        refine ⟨by omega, a3.2.1, (fun _ l z => ?_), fun l0 z => by cases z⟩
        have := a3.2.2.2 _ rfl l z
        omega
    · split at h
      · next c =>
        have n4 := numR_4 c
        split at h
        · cases h; exact ⟨by omega, n4.2, (fun _ l z => by cases z), fun l0 z => by cases z⟩
        · cases h; exact ⟨by omega, n4.2, (fun _ l z => by cases z; simp; omega), fun l0 z => by cases z⟩
      · split at h
        · next c =>
          have := nm_1 c
          cases h; exact ⟨by omega, by omega, (fun _ l z => by cases z; simp), fun l0 z => by cases z⟩
        · split at h
          · cases h; exact ⟨Nat.le_refl _, hp, (fun _ l z => by cases z), fun l0 z => by cases z⟩
          · split at h
            · next c =>
              have hlt := (sv_lt c (by decide)).1
              rcases thn_some h with ⟨q1, e1, e2⟩ | ⟨q1, l1, e1, e2⟩
              · cases e2
                have := PK_at f none _ _ _ _ _ e1 hlt
                exact ⟨by omega, this.2.1, (fun _ l z => by cases z), fun l0 z => by cases z⟩
              · have a1 := PK_at f none _ _ _ _ _ e1 hlt
                have a2 := a1.2.2.1 rfl l1 rfl
                split at e2
                · next c2 =>
                  have := (sv_lt c2 (by decide)).1
                  cases e2; exact ⟨by omega, by omega, (fun _ l z => by cases z; omega), fun l0 z => by cases z⟩
                · cases e2; exact ⟨by omega, a1.2.1, (fun _ l z => by cases z), fun l0 z => by cases z⟩
            · split at h
              · next c =>
                have hlt := (sv_lt c (by decide)).1
                rcases thn_some h with ⟨q1, e1, e2⟩ | ⟨q1, l1, e1, e2⟩
                · cases e2
                  have := PK_at f none _ _ _ _ _ e1 hlt
                  exact ⟨by omega, this.2.1, (fun _ l z => by cases z), fun l0 z => by cases z⟩
                · have a1 := PK_at f none _ _ _ _ _ e1 hlt
                  have a2 := a1.2.2.1 rfl l1 rfl
                  cases e2; exact ⟨by omega, a1.2.1, (fun _ l z => by cases z; simp; omega), fun l0 z => by cases z⟩
              · split at h
                · next c =>
                  have hlt := (sv_lt c (by decide)).1
                  rcases thn_some h with ⟨q1, e1, e2⟩ | ⟨q1, l1, e1, e2⟩
                  · cases e2
                    have := PK_at f none _ _ _ _ _ e1 hlt
                    exact ⟨by omega, this.2.1, (fun _ l z => by cases z), fun l0 z => by cases z⟩
                  · have a1 := PK_at f none _ _ _ _ _ e1 hlt
                    have a2 := a1.2.2.1 rfl l1 rfl
                    cases e2; exact ⟨by omega, a1.2.1, (fun _ l z => by cases z; simp; omega), fun l0 z => by cases z⟩
                · cases h; exact ⟨Nat.le_refl _, hp, (fun _ l z => by cases z), fun l0 z => by cases z⟩
/-- fuel enough -/
def fuelOf (m : Option (List Int32)) (len lvl p : Nat) : Nat := 8 * (len + 1 - p) + (if m.isSome then 1 else (if lvl < 5 then 7 - lvl else 1))
theorem PK_go : ∀ (f : Nat) (m : Option (List Int32)) (lvl op p : Nat), lvl ≤ 5 → (m.isSome = true → lvl < 5) → p ≤ len → fuelOf m len lvl p ≤ f → ∃ z, PK t len f m lvl op p = some z
  | 0, m, lvl, op, p, hl, hm, hp, hf => by
    unfold fuelOf at hf; omega
  | f + 1, some l0, lvl, op, p, hl, hm, hp, hf => by
    have hl5 : lvl < 5 := hm rfl
    have hf' : 8 * (len + 1 - p) + 1 ≤ f + 1 := hf
    rw [PK]
    split
    · next c =>
      have hlt := jn_1 c
      obtain ⟨⟨q, r⟩, e⟩ := PK_go f none (lvl + 1) op (p + 1) (by omega) (fun z => by cases z) hlt (by show 8 * (len + 1 - (p + 1)) + (if lvl + 1 < 5 then 7 - (lvl + 1) else 1) ≤ f; split <;> omega)
      rw [e]
      cases r with
      | none => exact ⟨_, rfl⟩
      | some l1 =>
        have a1 := PK_at f none _ _ _ _ _ e hlt
        have a2 := a1.2.2.1 rfl l1 rfl
        show ∃ z, (if lvl = 2 then _ else _) = some z
        split
        · exact ⟨_, rfl⟩
        · exact PK_go f (some _) lvl op q hl (fun _ => hl5) a1.2.1 (by show 8 * (len + 1 - q) + 1 ≤ f; omega)
    · exact ⟨_, rfl⟩
  | f + 1, none, lvl, op, p, hl, hm, hp, hf => by
    have hf' : 8 * (len + 1 - p) + (if lvl < 5 then 7 - lvl else 1) ≤ f + 1 := hf
    rw [PK]
    split
    · next c5 =>
      rw [if_pos c5] at hf'
      obtain ⟨⟨q, r⟩, e⟩ := PK_go f none (lvl + 1) op p (by omega) (fun z => by cases z) hp (by show 8 * (len + 1 - p) + (if lvl + 1 < 5 then 7 - (lvl + 1) else 1) ≤ f; split <;> omega)
      rw [e]
      cases r with
      | none => exact ⟨_, rfl⟩
      | some l1 =>
        have a1 := PK_at f none _ _ _ _ _ e hp
        have a2 := a1.2.2.1 rfl l1 rfl
        exact PK_go f (some _) lvl op q hl (fun _ => c5) a1.2.1 (by show 8 * (len + 1 - q) + 1 ≤ f; omega)
    · next c5 =>
      rw [if_neg c5] at hf'
      split
      · split <;> exact ⟨_, rfl⟩
      · split
        · exact ⟨_, rfl⟩
        · split
          · exact ⟨_, rfl⟩
          · split
            · next c =>
              have hlt := (sv_lt c (by decide)).1
              obtain ⟨⟨q, r⟩, e⟩ := PK_go f none 0 (op + 1) (p + 1) (by omega) (fun z => by cases z) hlt (by show 8 * (len + 1 - (p + 1)) + 7 ≤ f; omega)
              rw [e]
              cases r with
              | none => exact ⟨_, rfl⟩
              | some l1 =>
                show ∃ z, (if sv t len q = 41 then some (q + 1, some l1) else some (q, none)) = some z
                split <;> exact ⟨_, rfl⟩
            · split
              · next c =>
                have hlt := (sv_lt c (by decide)).1
                obtain ⟨⟨q, r⟩, e⟩ := PK_go f none 5 (op + 1) (p + 1) (by omega) (fun z => by cases z) hlt (by show 8 * (len + 1 - (p + 1)) + 1 ≤ f; omega)
                rw [e]
                cases r <;> exact ⟨_, rfl⟩
              · split
                · next c =>
                  have hlt := (sv_lt c (by decide)).1
                  obtain ⟨⟨q, r⟩, e⟩ := PK_go f none 5 (op + 1) (p + 1) (by omega) (fun z => by cases z) hlt (by show 8 * (len + 1 - (p + 1)) + 1 ≤ f; omega)
                  rw [e]
                  cases r <;> exact ⟨_, rfl⟩
                · exact ⟨_, rfl⟩
/-- an expression from p on -/
def PE (t : Nat → Nat) (len p : Nat) : Rs := (PK t len 2000 none 0 0 p).getD (0, none)
theorem PE_eq {p : Nat} (hl : len ≤ 120) (hp : p ≤ len) : PK t len 2000 none 0 0 p = some (PE t len p) := by
  obtain ⟨z, h⟩ := PK_go (t := t) (len := len) 2000 none 0 0 p (by decide) (fun z => by cases z) hp (by show 8 * (len + 1 - p) + 7 ≤ 2000; omega)
  rw [PE, h]; rfl
theorem PE_at {p : Nat} (hl : len ≤ 120) (hp : p ≤ len) : p ≤ (PE t len p).1 ∧ (PE t len p).1 ≤ len ∧ ∀ l, (PE t len p).2 = some l → p < (PE t len p).1 ∧ l.length ≤ (PE t len p).1 - p ∧ 0 < l.length := by
  have := PK_at (t := t) _ _ _ _ _ _ _ (PE_eq (t := t) hl hp) hp
  exact ⟨this.1, this.2.1, this.2.2.1 rfl⟩
/-- a line: its test, which is empty if it always counts, and its value -/
abbrev Line : Type := List Int32 × List Int32
abbrev LR : Type := Nat × Option Line
def lineR (t : Nat → Nat) (len p : Nat) : LR := match (PE t len p).2 with
  | none => ((PE t len p).1, none)
  | some l => if sv t len (PE t len p).1 = 63 then
      (match (PE t len ((PE t len p).1 + 1)).2 with
      | none => ((PE t len ((PE t len p).1 + 1)).1, none)
      | some l2 => ((PE t len ((PE t len p).1 + 1)).1, some (l, l2)))
    else ((PE t len p).1, some ([], l))
def codeL (ln : Line) : List Int32 := ln.1 ++ ln.2 ++ [if ln.1 = [] then -59 else -63]
def codeOf (ls : List Line) : List Int32 := (ls.map codeL).flatten
/-- the lines from p on, behind ls -/
def textR (t : Nat → Nat) (len : Nat) : Nat → Nat → List Line → Nat × Option (List Line)
  | 0, p, ls => (p, none)
  | k + 1, p, ls => match (lineR t len p).2 with
    | none => ((lineR t len p).1, none)
    | some ln => if sv t len (lineR t len p).1 = 59 then textR t len k ((lineR t len p).1 + 1) (ls ++ [ln])
      else if (lineR t len p).1 < len then ((lineR t len p).1, none) else ((lineR t len p).1, some (ls ++ [ln]))
theorem lineR_at {p : Nat} (hl : len ≤ 120) (hp : p ≤ len) : p ≤ (lineR t len p).1 ∧ (lineR t len p).1 ≤ len ∧ ∀ ln, (lineR t len p).2 = some ln → p < (lineR t len p).1 ∧ ln.1.length + ln.2.length ≤ (lineR t len p).1 - p ∧ 0 < ln.2.length ∧ (codeL ln).length ≤ (lineR t len p).1 - p + 1 := by
  have h1 := PE_at (t := t) hl hp
  unfold lineR
  split
  · next e => exact ⟨h1.1, h1.2.1, fun ln z => by cases z⟩
  · next l e =>
    have h2 := h1.2.2 l e
    split
    · next c =>
      have hlt := (sv_lt c (by decide)).1
      have h3 := PE_at (t := t) hl (p := (PE t len p).1 + 1) (by omega)
      split
      · exact ⟨by simp only []; omega, h3.2.1, fun ln z => by cases z⟩
      · next l2 e2 =>
        have h4 := h3.2.2 l2 e2
        refine ⟨by simp only []; omega, h3.2.1, fun ln z => ?_⟩
        cases z
        simp only [codeL, List.length_append, List.length_singleton]
        omega
    · refine ⟨h1.1, h1.2.1, fun ln z => ?_⟩
      cases z
      simp only [codeL, List.length_append, List.length_singleton, List.length_nil]
      omega
end Text

