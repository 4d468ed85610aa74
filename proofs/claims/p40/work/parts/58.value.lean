/-! what a law gives -/
section Value
def twoV (x l r : Int32) : Int32 := if x = 124 then (if l ≠ 0 ∨ r ≠ 0 then 1 else 0) else if x = 38 then (if l ≠ 0 ∧ r ≠ 0 then 1 else 0) else if x = 60 then (if l < r then 1 else 0) else if x = 61 then (if l = r then 1 else 0) else if x = 62 then (if r < l then 1 else 0) else if x = 43 then l + r else if x = 45 then l - r else if x = 42 then l * r else if x = 47 then (if r = 0 then 0 else l / r) else (if r = 0 then 0 else l - l / r * r)
def stepI (e : Nat → Int32) (x : Int32) (st : List Int32) : Option (List Int32) :=
  if 0 ≤ x then some (x :: st)
  else if isNm (-x) = true then some (e (sgW x).toNatClampNeg :: st)
  else if x = -33 then (match st with
    | v :: st => some ((if v = 0 then 1 else 0) :: st)
    | [] => none)
  else if x = -95 then (match st with
    | v :: st => some (-v :: st)
    | [] => none)
  else (match st with
    | r :: l :: st => some (twoV (-x) l r :: st)
    | _ => none)
def runI (e : Nat → Int32) : List Int32 → List Int32 → Option (List Int32)
  | [], st => some st
  | x :: xs, st => (stepI e x st).bind (runI e xs)
/-- an item of an expression -/
def OkI (x : Int32) : Prop := 0 ≤ x ∨ isNm (-x) = true ∨ x = -33 ∨ x = -95 ∨ ∃ lvl, jn lvl (-x) = true
def Good (l : List Int32) : Prop := (∀ x ∈ l, OkI x) ∧ ∀ e, ∃ v, ∀ st, runI e l st = some (v :: st)
def valI (e : Nat → Int32) (l : List Int32) : Int32 := ((runI e l []).getD []).headD 0
theorem Good.run {l : List Int32} (h : Good l) (e : Nat → Int32) (st : List Int32) : runI e l st = some (valI e l :: st) := by
  obtain ⟨v, hv⟩ := h.2 e
  rw [hv st, valI, hv []]; rfl
theorem neg_neg' (x : Int32) : - -x = x := by simp
variable {t : Nat → Nat} {len : Nat}
def GoodL (ln : Line) : Prop := (ln.1 = [] ∨ Good ln.1) ∧ Good ln.2
/-- a law whose lines all give a value -/
def GoodB (b : Option (List Line)) : Prop := ∀ ls, b = some ls → ∀ x ∈ ls, GoodL x
/-- what the lines give -/
def lawI (e : Nat → Int32) : List Line → Int32
  | [] => 0
  | ln :: ls => if ln.1 = [] ∨ ¬ valI e ln.1 = 0 then valI e ln.2 else lawI e ls
end Value

