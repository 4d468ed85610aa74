/-! the state of all cells at once, and one judgement over it -/
def TT : List Cond := lw_tbl.filter goodWord
theorem TT_good : ∀ w ∈ TT, goodWord w = true := fun w h => (List.mem_filter.mp h).2
theorem TT_of {w : Cond} (h : w ∈ lw_tbl) (hg : goodWord w = true) : w ∈ TT := List.mem_filter.mpr ⟨h, hg⟩
theorem TT_at {w : Cond} (i : Nat) (h : tables_1[i]? = some w) (hg : goodWord w = true) : w ∈ TT := TT_of (List.mem_append_right _ (List.mem_of_getElem? h)) hg
def isNest : Cond → Bool
  | .fieldLinkNest .. => true
  | .methodLinkNest .. => true
  | _ => false
def NW : List Cond := tables_1.filter isNest
theorem NW_at {w : Cond} (i : Nat) (h : tables_1[i]? = some w) (hg : isNest w = true) : w ∈ NW := List.mem_filter.mpr ⟨List.mem_of_getElem? h, hg⟩
theorem NW_warm {s U : State} (hW : s.WarmedH U.vm) (h : ∀ w ∈ NW, va_Nw w s) : ∀ w ∈ NW, va_Nw w U := by
  intro w hw
  have h1 := (List.mem_filter.mp hw).2
  have h2 := h w hw
  cases w with
  | fieldLinkNest a i b n d e => exact va_Nw.warmF hW h2
  | methodLinkNest a i x e => exact va_Nw.warmM hW h2
  | _ => cases h1
theorem NW_same {s U : State} (hW : s.vm = U.vm) (h : ∀ w ∈ NW, va_Nw w s) : ∀ w ∈ NW, va_Nw w U := by
  intro w hw
  have h1 := (List.mem_filter.mp hw).2
  have h2 := h w hw
  cases w with
  | fieldLinkNest a i b n d e => exact va_Nw.same rfl hW h2
  | methodLinkNest a i x e => exact va_Nw.same rfl hW h2
  | _ => cases h1
abbrev MI : Type := MethodName × ByteArray × Nat × Option FieldType
abbrev St : Type := (Nat → Nat → Int32) × (Nat → Nat → Int64) × (Nat × Nat)
abbrev DD : Type := va_G × (Nat → ClassId)
def zz_Cl : List vw_C := [(RX0, TX0, 6), (RX1, TX1, 9), (RX2, TX2, 15), (RX3, TX3, 3), (RX4, TX4, 5), (RX5, TX5, 1), (RX6, TX6, 9), (RX7, TX7, 9)]
def zz_ck : List (Nat × Nat) := [(0, 7), (0, 6), (0, 2), (0, 5), (0, 3), (0, 1), (0, 0), (5, 6), (0, 4), (0, 4), (0, 4), (0, 4), (0, 4), (0, 4), (1, 120), (6, 12), (1, 8), (1, 8), (1, 8), (1, 8), (1, 8), (1, 8), (1, 8), (1, 8), (1, 8), (1, 8), (1, 8), (1, 8), (1, 40), (1, 40), (1, 40), (1, 40), (1, 128), (1, 128), (1, 120), (1, 128), (6, 8), (1, 2), (1, 2), (1, 2), (1, 2), (1, 2), (1, 2), (1, 2), (1, 2), (1, 4), (1, 4), (1, 3), (1, 8), (1, 6), (1, 8), (1, 8), (1, 6), (1, 50), (1, 24), (4, 60), (4, 60), (4, 60), (4, 60), (4, 60), (4, 60)]
def ck (j : Nat) : Nat × Nat := zz_ck.getD j (9, 0)
def zz_nf : List Nat := [6, 9, 15, 3, 5, 1, 9, 9]
def nf (ci : Nat) : Nat := zz_nf.getD ci 0
def zz_ft : List (List Nat) := [[2, 0, 2, 0, 0, 0], [0, 2, 2, 0, 2, 2, 2, 0, 0], [2, 0, 2, 0, 2, 0, 0, 0, 2, 0, 0, 0, 0, 0, 0], [2, 2, 2], [0, 0, 0, 0, 2], [2], [2, 0, 2, 2, 2, 2, 0, 0, 0], [2, 2, 2, 2, 2, 2, 2, 2, 0]]
def ft (ci k : Nat) : Nat := (zz_ft.getD ci []).getD k 9
def zz_rt : List (List Nat) := [[1, 2, 3, 4, 5, 6, 7, 14], [15, 0, 28, 29, 30, 31], [0, 0, 0, 0, 34, 0, 0, 0, 35], [36], [45, 46, 47], [0, 48, 49, 0, 50, 51, 52], [53, 0, 54], [8, 9, 10, 11, 12, 13], [0, 0, 0, 0, 55], [0, 0, 0, 0, 56], [0, 0, 0, 0, 57], [0, 0, 0, 0, 58], [0, 0, 0, 0, 59], [0, 0, 0, 0, 60], [], [16, 17, 18, 19, 20, 21, 22, 23, 24, 25, 26, 27], [], [], [], [], [], [], [], [], [], [], [], [], [], [], [], [], [], [], [], [], [37, 38, 39, 40, 41, 42, 43, 44], [], [], [], [], [], [], [], [], [], [], [], [], [], [], [], [], [], [], [], [], [], [], [], []]
def rt (j k : Nat) : Nat := (zz_rt.getD j []).getD k 0
def fr (S : St) (j k : Nat) : Nat := if j = 2 ∧ k = 0 then S.2.2.1 else if j = 2 ∧ k = 2 then S.2.2.2 else rt j k
def zz_st : List (String × String × List Int32) := [(RX6, "NUMBERS", [8, 8, 8, 4, 4, 4, 4, 4, 6, 1, 1, 3]), (RX6, "MOST", [9, 5, 5, 9, 9, 12, 12, 99, 12, 99, 12, 12]), (RX6, "AT_FIRST", [0, 0, 0, 1, 1, 9, 9, 10, 3, 10, 2, 4]), (RL, "FIRST", [1, 1, 9, 9, 10, 3])]


def fv (a : Nat → Nat) (S : St) (j k : Nat) : Value := match ft (ck j).2 k with
  | 0 => .int (S.1 j k)
  | 3 => .int (S.1 j k)
  | 1 => .long (S.2.1 j k)
  | _ => .ref (a (fr S j k))
/-- the law's own rows of ints, behind the class's cells: their lengths -/
def xl (a : Nat → Nat) (j : Nat) : Nat := a (250 + j)
def NC (a : Nat → Nat) : Nat := 61 + a 300
theorem lt_NC {a : Nat → Nat} {j : Nat} (h : j < 61) : j < NC a := by unfold NC; omega
def cont (D : DD) (a : Nat → Nat) (S : St) (j : Nat) : va_E := if 61 ≤ j then .inl (D.2 0, xl a j, .inl (S.1 j)) else match (ck j).1 with
  | 0 => .inr ((ck j).2, (List.range (nf (ck j).2)).map (fv a S j))
  | 1 => .inl (D.2 0, (ck j).2, .inl (S.1 j))
  | 2 => .inl (D.2 1, (ck j).2, .inl (S.1 j))
  | 3 => .inl (D.2 2, (ck j).2, .inl (S.1 j))
  | 4 => .inl (D.2 3, (ck j).2, .inr (.inl (S.2.1 j)))
  | 5 => .inl (D.2 4, (ck j).2, .inr (.inr (.inr (.inr (fun k => some (a (fr S j k)))))))
  | _ => .inl (D.2 5, (ck j).2, .inr (.inr (.inr (.inr (fun k => some (a (fr S j k)))))))
def cells (D : DD) (a : Nat → Nat) (S : St) : va_W := (List.range (NC a)).map (fun j => (a j, cont D a S j))
theorem cells_get {D : DD} {a : Nat → Nat} {S : St} {j : Nat} (hj : j < NC a) : (cells D a S)[j]? = some (a j, cont D a S j) := by
  simp [cells, List.getElem?_map, List.getElem?_range hj]
theorem cells_set {D : DD} {a : Nat → Nat} {S S' : St} {j : Nat} {e : va_E} (h : ∀ i, i ≠ j → cont D a S' i = cont D a S i) (he : cont D a S' j = e) : (cells D a S).set j (a j, e) = cells D a S' := by
  apply List.ext_getElem?
  intro i
  by_cases hi : i < NC a
  · rw [cells_get hi]
    by_cases hij : j = i
    · subst hij
      rw [List.getElem?_set_self (by simpa [cells] using hi), he]
    · rw [List.getElem?_set_ne hij, cells_get hi, h i (fun q => hij q.symm)]
  · rw [List.getElem?_eq_none (by simpa [cells] using hi), List.getElem?_eq_none (by simpa [cells] using hi)]
def AA (a : Nat → Nat) : Nat → Prop := fun q => ∃ j, j < NC a ∧ q = a j
def InjA (a : Nat → Nat) : Prop := ∀ i j, i < NC a → j < NC a → a i = a j → i = j
theorem cells_mem {D : DD} {a : Nat → Nat} {S : St} {k : Nat} {q : Nat × va_E} (h : (cells D a S)[k]? = some q) : k < NC a ∧ q = (a k, cont D a S k) := by
  have hk : k < NC a := by
    have := (List.getElem?_eq_some_iff.mp h).1
    simpa [cells] using this
  rw [cells_get hk] at h
  exact ⟨hk, (Option.some.inj h).symm⟩
theorem cells_D {D : DD} {a : Nat → Nat} {S : St} (h : InjA a) : va_D (AA a) (cells D a S) := by
  refine ⟨fun i j p q hi hj hpq => ?_, fun k q hk => ?_⟩
  · obtain ⟨i1, rfl⟩ := cells_mem hi
    obtain ⟨j1, rfl⟩ := cells_mem hj
    exact h i j i1 j1 hpq
  · obtain ⟨k1, rfl⟩ := cells_mem hk
    exact ⟨k, k1, rfl⟩
def zz_tys (D : DD) : List (ClassId × FieldType) := [(D.2 0, .int), (D.2 1, .int), (D.2 2, .int), (D.2 3, .long), (D.2 4, .object RX4), (D.2 5, .array .int)]
def Stat (a : Nat → Nat) (U : State) (H : Heap) : Prop := ∀ (i : Nat) (C n : String) (L : List Int32), zz_st[i]? = some (C, n, L) → va_Z C n "[I" (.ref (a (200 + i))) (AA a) U H ∧ va_T .int (a (200 + i)) L.length (fun j => .int (L.getD j 0)) (AA a) U H
/-- the enumerated locals: .null says nothing -/
def en : Nat → List Value → List (Nat × Value)
  | _, [] => []
  | i, .null :: vs => en (i + 1) vs
  | i, v :: vs => (i, v) :: en (i + 1) vs
theorem mem_en {v : Value} (hv : v ≠ .null) : ∀ (L : List Value) (b i : Nat), (i, v) ∈ en b L ↔ b ≤ i ∧ L[i - b]? = some v := by
  intro L
  induction L with
  | nil => intro b i; simp [en]
  | cons w L ih =>
    intro b i
    have key : (i, v) ∈ en b (w :: L) ↔ (i = b ∧ v = w) ∨ (i, v) ∈ en (b + 1) L := by
      cases w with
      | null => simp [en, hv]
      | _ => simp [en]
    rw [key, ih]
    by_cases hb : b = i
    · subst hb
      simp
      constructor
      · rintro (h | h)
        · exact h.symm
        · omega
      · intro h; exact Or.inl h.symm
    · constructor
      · rintro (h | ⟨h1, h2⟩)
        · exact absurd h.1.symm hb
        · refine ⟨by omega, ?_⟩
          rw [show i - b = (i - (b + 1)) + 1 by omega]
          simpa using h2
      · rintro ⟨h1, h2⟩
        refine Or.inr ⟨by omega, ?_⟩
        rw [show i - b = (i - (b + 1)) + 1 by omega] at h2
        simpa using h2
theorem en_nn {q : Nat × Value} : ∀ (L : List Value) (b : Nat), q ∈ en b L → q.2 ≠ .null := by
  intro L
  induction L with
  | nil => intro b h; simp [en] at h
  | cons w L ih =>
    intro b h
    cases w with
    | null => exact ih _ (by simpa [en] using h)
    | _ =>
      rcases List.mem_cons.mp (by simpa only [en] using h) with h | h
      · rw [h]; simp
      · exact ih _ h
theorem lv_less {ls : Array Slot} {nL : Nat} {l l' : List (Nat × Value)} (h : lv_has ls nL l) (hs : ∀ q ∈ l', q ∈ l) : lv_has ls nL l' := ⟨h.1, h.2.1, fun q hq => h.2.2 q (hs q hq)⟩
def lx (ls : Array Slot) (nL : Nat) (L : List Value) : Prop := lv_has ls nL (en 0 L)
theorem lx_at {ls : Array Slot} {nL : Nat} {L : List Value} (h : lx ls nL L) {i : Nat} {v : Value} (hv : v ≠ .null) (hi : L[i]? = some v) : ls[i]? = some (.val v) := h.2.2 (i, v) ((mem_en hv L 0 i).mpr ⟨Nat.zero_le _, by simpa using hi⟩)
theorem lx_ix {ls : Array Slot} {nL : Nat} {L : List Value} (_h : lx ls nL L) {i : Nat} {v : Value} (hv : v ≠ .null) (hi : L[i]? = some v) : ∃ k : Nat, (en 0 L)[k]? = some (i, v) := List.getElem?_of_mem ((mem_en hv L 0 i).mpr ⟨Nat.zero_le _, by simpa using hi⟩)
theorem lx_of1 {ls : Array Slot} {nL : Nat} {L : List Value} {i : Nat} {x : Value} (hp : ∀ w, 1 ≤ i → L[i - 1]? = some w → w.category = 1) (h : lv_has ls nL ((i, x) :: (en 0 L).filter (fun q => !(q.1 == i) && !(q.1 + 1 == i && q.2.category == 2)))) : lx ls nL (L.set i x) := by
  refine lv_less h (fun q hq => ?_)
  obtain ⟨j, v⟩ := q
  have hv : v ≠ .null := en_nn _ _ hq
  have h1 := (mem_en hv _ 0 j).mp hq
  have h2 : (L.set i x)[j]? = some v := by simpa using h1.2
  by_cases hj : i = j
  · subst hj
    have hl : i < L.length := by
      have := (List.getElem?_eq_some_iff.mp h2).1
      simpa using this
    rw [List.getElem?_set_self hl] at h2
    cases h2
    exact List.mem_cons_self
  · rw [List.getElem?_set_ne hj] at h2
    refine List.mem_cons_of_mem _ (List.mem_filter.mpr ⟨(mem_en hv _ 0 j).mpr ⟨Nat.zero_le _, by simpa using h2⟩, ?_⟩)
    have e1 : (j == i) = false := by simpa using fun q : j = i => hj q.symm
    have e2 : (j + 1 == i && v.category == 2) = false := by
      by_cases hji : j + 1 = i
      · have := hp v (by omega) (by rw [show i - 1 = j by omega]; exact h2)
        simp [this]
      · simp [hji]
    simp only [e1, e2]
    rfl
theorem lx_of2 {ls : Array Slot} {nL : Nat} {L : List Value} {i : Nat} {x : Value} (hp : ∀ w, 1 ≤ i → L[i - 1]? = some w → w.category = 1) (h : lv_has ls nL ((i, x) :: (en 0 L).filter (fun q => !(q.1 == i) && (!(q.1 == i + 1) && !(q.1 + 1 == i && q.2.category == 2))))) : lx ls nL ((L.set i x).set (i + 1) .null) := by
  refine lv_less h (fun q hq => ?_)
  obtain ⟨j, v⟩ := q
  have hv : v ≠ .null := en_nn _ _ hq
  have h1 := (mem_en hv _ 0 j).mp hq
  have h2 : ((L.set i x).set (i + 1) .null)[j]? = some v := by simpa using h1.2
  by_cases hj1 : i + 1 = j
  · subst hj1
    have hl : i + 1 < (L.set i x).length := by
      have := (List.getElem?_eq_some_iff.mp h2).1
      simpa using this
    rw [List.getElem?_set_self hl] at h2
    exact absurd (Option.some.inj h2).symm hv
  rw [List.getElem?_set_ne hj1] at h2
  by_cases hj : i = j
  · subst hj
    have hl : i < L.length := by
      have := (List.getElem?_eq_some_iff.mp h2).1
      simpa using this
    rw [List.getElem?_set_self hl] at h2
    cases h2
    exact List.mem_cons_self
  · rw [List.getElem?_set_ne hj] at h2
    refine List.mem_cons_of_mem _ (List.mem_filter.mpr ⟨(mem_en hv _ 0 j).mpr ⟨Nat.zero_le _, by simpa using h2⟩, ?_⟩)
    have e1 : (j == i) = false := by simpa using fun q : j = i => hj q.symm
    have e3 : (j == i + 1) = false := by simpa using fun q : j = i + 1 => hj1 q.symm
    have e2 : (j + 1 == i && v.category == 2) = false := by
      by_cases hji : j + 1 = i
      · have := hp v (by omega) (by rw [show i - 1 = j by omega]; exact h2)
        simp [this]
      · simp [hji]
    simp only [e1, e2, e3]
    rfl
/-- fewer locals are told -/
theorem lx_less {ls : Array Slot} {nL : Nat} {L L' : List Value} (h : lx ls nL L) (hs : ∀ (i : Nat) (v : Value), L'[i]? = some v → v ≠ .null → L[i]? = some v) : lx ls nL L' := by
  refine lv_less h (fun q hq => ?_)
  obtain ⟨j, v⟩ := q
  have hv : v ≠ .null := en_nn _ _ hq
  have h1 := (mem_en hv _ 0 j).mp hq
  exact (mem_en hv _ 0 j).mpr ⟨Nat.zero_le _, by simpa using hs j v (by simpa using h1.2) hv⟩
/-- a method's locals at its entry -/
def xp : List Value → List Value
  | [] => []
  | v :: vs => if v.category = 2 then v :: .null :: xp vs else v :: xp vs
def ent (n : Nat) (As : List Value) : List Value := xp As ++ List.replicate (n - (xp As).length) .null
theorem mem_xp {v : Value} (hv : v ≠ .null) : ∀ (As : List Value) (b i : Nat), b ≤ i → (xp As)[i - b]? = some v → (i, v) ∈ lv_args b As := by
  intro As
  induction As with
  | nil => intro b i _ h; simp [xp] at h
  | cons w As ih =>
    intro b i hb h
    by_cases hc : w.category = 2
    · simp only [xp, hc, if_true] at h
      simp only [lv_args, hc, if_true]
      by_cases e : i = b
      · subst e
        simp at h
        subst h
        exact List.mem_cons_self
      · by_cases e1 : i = b + 1
        · subst e1
          rw [show b + 1 - b = 1 by omega] at h
          exact absurd (by simpa using h.symm) hv
        · refine List.mem_cons_of_mem _ (ih (b + 2) i (by omega) ?_)
          rw [show i - b = (i - (b + 2)) + 2 by omega] at h
          simpa using h
    · simp only [xp, hc, if_false] at h
      simp only [lv_args, hc, if_false]
      by_cases e : i = b
      · subst e
        simp at h
        subst h
        exact List.mem_cons_self
      · refine List.mem_cons_of_mem _ (ih (b + 1) i (by omega) ?_)
        rw [show i - b = (i - (b + 1)) + 1 by omega] at h
        simpa using h
theorem lx_entry (As : List Value) {n : Nat} (h : (lg_sl As).length ≤ n) : lx ((lg_sl As ++ List.replicate (n - (lg_sl As).length) Slot.unset).toArray) n (ent n As) := by
  refine lv_less (lv_entry As h) (fun q hq => ?_)
  obtain ⟨j, v⟩ := q
  have hv : v ≠ .null := en_nn _ _ hq
  have h1 := ((mem_en hv _ 0 j).mp hq).2
  rw [ent, List.getElem?_append] at h1
  split at h1
  · exact mem_xp hv As 0 j (Nat.zero_le _) h1
  · rw [List.getElem?_replicate] at h1
    split at h1
    · exact absurd (Option.some.inj h1).symm hv
    · cases h1
/-- what is fixed while a method runs -/
def Cx (p : Program) (R : Room) (s : State) (m : MethodId) (args : Array Value) (meth : Method) (c : Code) (D : DD) (a : Nat → Nat) (mi : MI) (d k n : Nat) (E : Room → State → Prop) : Prop :=
  p.tables.exec = Jvm.exec ∧ c.code = mi.2.1 ∧ c.maxLocals = mi.2.2.1 ∧ meth.sig.returnType = mi.2.2.2 ∧ meth.locks = false ∧ s.vm.findClass mi.1.cls = some m.cls ∧ (∀ w ∈ TT, w.before args s = true) ∧ (d ≤ R.frames ∧ 60 * d ≤ R.locals ∧ k ≤ R.cells ∧ n ≤ R.slots) ∧ va_K D.1 zz_Cl (zz_tys D) s ∧ InjA a ∧ Stat a s s.heap ∧ (∀ w ∈ NW, va_Nw w s) ∧ E R s
/-- the room taken so far, what else holds at the start, the end -/
abbrev GG : Type := Nat × Nat × (Room → State → Prop) × (List Frame → Array Value → State → DD → State → Prop)
def PQ (D : DD) (a : Nat → Nat) (Q : Option Value → St → Prop) : Array Value → State → Outcome → State → Prop := fun _ st oc t => (∃ (r : Option Value) (S : St), oc = .returned r ∧ Q r S ∧ va_P D.1 zz_Cl (cells D a S) t.heap) ∧ va_F (AA a) st t
def gm (a : Nat → Nat) (Q : Option Value → St → Prop) : GG := (0, 0, (fun _ _ => True), fun below args s D => MQ below (PQ D a Q) args s 0 0 (AA a))
def J (a : Nat → Nat) (mi : MI) (d : Nat) (g : GG) (pc : Nat) (L st : List Value) (S : St) : Prop :=
  ∀ (p : Program) (l : Launch) (e : Env) (R : Room) (s : State) (m : MethodId) (args : Array Value) (below : List Frame) (meth : Method) (c : Code) (D : DD) (H : Heap) (locs : List Loc) (ls : Array Slot), Cx p R s m args meth c D a mi d g.1 g.2.1 g.2.2.1 → lx ls mi.2.2.1 L → va_P D.1 zz_Cl (cells D a S) H → va_S (AA a) s.heap H locs → W p l e R s m args below meth c H locs g.1 g.2.1 (g.2.2.2 below args s D) (F0 m pc ls st)
/-- the words of a class's fields lie in the tables -/
def CLk (ci : Nat) (T : u_T) : Prop := ∃ (C : String) (N : Nat), zz_Cl[ci]? = some (C, T, N) ∧ nf ci = N ∧ (∀ w ∈ u_ws C T N, w ∈ TT) ∧ (∃ ty : Nat → FieldType, (∀ k, k < N → parseFieldDescriptor (T k).2.2.1 = some (ty k)) ∧ ∀ k, k < N → (ft ci k = 0 → ty k = .int) ∧ (ft ci k = 1 → ty k = .long) ∧ (ft ci k = 3 → ty k = .boolean)) ∧ (∀ a, a < N → ∀ b, b < N → a ≠ b → (T a).2.1 ≠ (T b).2.1)
def FLk (mi : MI) (idx : Nat) (C n d : String) : Prop := Cond.fieldLink mi.1.cls idx C n d ∈ TT ∨ ∃ host, Cond.fieldLinkNest mi.1.cls idx C n d host ∈ NW
def MLk (mi : MI) (idx : Nat) (y : MethodName) : Prop := Cond.methodLink mi.1.cls idx y ∈ TT ∨ ∃ host, Cond.methodLinkNest mi.1.cls idx y host ∈ NW
/-- a callee's words -/
def CalS (y : MI) (n : Nat) : Prop := Cond.code y.1 y.2.1 y.2.2.1 y.2.2.2 ∈ TT ∧ Cond.initialized y.1.cls ∈ TT ∧ plainName y.1.cls = true ∧ (y.1.cls ≠ "java/lang/invoke/MethodHandle" ∧ y.1.cls ≠ "java/lang/invoke/VarHandle") ∧ (parseMethodDescriptor y.1.desc).map (fun q => q.parameters.length) = some n ∧ y.2.2.1 ≤ 40
def CalV (y : MI) (n : Nat) : Prop := CalS y n ∧ Cond.instanceMethod y.1 ∈ TT ∧ Cond.selects y.1.cls y.1 y.1 ∈ TT
