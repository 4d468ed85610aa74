/-! acts -/
def ownT (k ac : Nat) : Nat := [1, 10, 11, 2, 20, 0, 0, 0, 0, 30, 0, 0, 0, 41, 40, 0, 0, 0, 0, 50, 0, 0, 60, 61, 70, 0, 0, 0, 81, 80, 0, 0].getD (4 * k + ac) 0
def abv (k : Nat) : Nat := [0, 0, 0, 2, 1, 3, 0, 6].getD k 0
def owN (k ac : Nat) : Nat := [0, 0, 0, 0, 1, 0, 0, 0, 0, 2, 0, 0, 0, 3, 3, 0, 1, 0, 0, 4, 0, 3, 5, 5, 6, 0, 0, 0, 7, 7, 0, 0].getD (4 * k + ac) 0
def dpt (k : Nat) : Nat := [0, 1, 1, 2, 2, 3, 1, 2].getD k 0
def undN (k t : Nat) : Bool := [true, false, false, false, false, false, false, false, true, true, false, false, false, false, false, false, true, false, true, false, false, false, false, false, true, false, true, true, false, false, false, false, true, true, false, false, true, false, false, false, true, false, true, true, false, true, false, false, true, false, false, false, false, false, true, false, true, false, false, false, false, false, true, true].getD (8 * k + t) false
theorem k8 {k : Nat} (h : k < 8) : k = 0 ∨ k = 1 ∨ k = 2 ∨ k = 3 ∨ k = 4 ∨ k = 5 ∨ k = 6 ∨ k = 7 := by omega
theorem own_tab {k ac : Nat} (hk : k < 8) (ha : ac < 4) : ([1, 10, 11, 2, 20, 0, 0, 0, 0, 30, 0, 0, 0, 41, 40, 0, 0, 0, 0, 50, 0, 0, 60, 61, 70, 0, 0, 0, 81, 80, 0, 0] : List Int32).getD (4 * k + ac) 0 = nI (ownT k ac) := by
  rcases k8 hk with rfl | rfl | rfl | rfl | rfl | rfl | rfl | rfl <;> rcases f4 ha with rfl | rfl | rfl | rfl <;> rfl
theorem ownT_le {k ac : Nat} (hk : k < 8) (ha : ac < 4) : ownT k ac ≤ 81 := by
  rcases k8 hk with rfl | rfl | rfl | rfl | rfl | rfl | rfl | rfl <;> rcases f4 ha with rfl | rfl | rfl | rfl <;> decide
theorem owN_lt {k ac : Nat} (hk : k < 8) (ha : ac < 4) : owN k ac < 8 := by
  rcases k8 hk with rfl | rfl | rfl | rfl | rfl | rfl | rfl | rfl <;> rcases f4 ha with rfl | rfl | rfl | rfl <;> decide
theorem owN_self {k ac : Nat} (hk : k < 8) (ha : ac < 4) (h : ¬ ownT k ac = 0) : owN k ac = k := by
  rcases k8 hk with rfl | rfl | rfl | rfl | rfl | rfl | rfl | rfl <;> rcases f4 ha with rfl | rfl | rfl | rfl <;> first | rfl | exact absurd rfl h
theorem owN_abv {k ac : Nat} (hk : k < 8) (ha : ac < 4) (h : ownT k ac = 0) : owN k ac = owN (abv k) ac ∧ 1 ≤ k ∧ abv k < 8 ∧ dpt (abv k) < dpt k ∧ dpt k ≤ 3 := by
  rcases k8 hk with rfl | rfl | rfl | rfl | rfl | rfl | rfl | rfl <;> rcases f4 ha with rfl | rfl | rfl | rfl <;> first | decide | (exfalso; revert h; decide)
theorem abv_tab {k : Nat} (hk : k < 8) (h1 : 1 ≤ k) : ([-1, 0, 0, 2, 1, 3, 0, 6] : List Int32).getD k 0 = nI (abv k) := by
  rcases k8 hk with rfl | rfl | rfl | rfl | rfl | rfl | rfl | rfl <;> first | omega | rfl
theorem abv_lt {k : Nat} (hk : k < 8) : abv k < 8 := by
  rcases k8 hk with rfl | rfl | rfl | rfl | rfl | rfl | rfl | rfl <;> decide
theorem dpt_le (k : Nat) : dpt k ≤ 3 := by
  rcases Nat.lt_or_ge k 8 with h | h
  · rcases k8 h with rfl | rfl | rfl | rfl | rfl | rfl | rfl | rfl <;> decide
  · unfold dpt
    have : ([0, 1, 1, 2, 2, 3, 1, 2] : List Nat)[k]? = none := List.getElem?_eq_none (by simpa using h)
    rw [List.getD, this]; decide
theorem own_keys {fm ac : Nat} (hk : fm < 8) (ha : ac < 4) : ownT (owN fm ac) ac = 1 ∨ ownT (owN fm ac) ac = 2 ∨ ownT (owN fm ac) ac = 10 ∨ ownT (owN fm ac) ac = 11 ∨ ownT (owN fm ac) ac = 20 ∨ ownT (owN fm ac) ac = 30 ∨ ownT (owN fm ac) ac = 40 ∨ ownT (owN fm ac) ac = 41 ∨ ownT (owN fm ac) ac = 50 ∨ ownT (owN fm ac) ac = 60 ∨ ownT (owN fm ac) ac = 61 ∨ ownT (owN fm ac) ac = 70 ∨ ownT (owN fm ac) ac = 80 ∨ ownT (owN fm ac) ac = 81 := by
  rcases k8 hk with rfl | rfl | rfl | rfl | rfl | rfl | rfl | rfl <;> rcases f4 ha with rfl | rfl | rfl | rfl <;> decide
theorem own_pos {fm ac : Nat} (hk : fm < 8) (ha : ac < 4) (h : 20 ≤ ownT (owN fm ac) ac) : 1 ≤ owN fm ac := by
  rcases k8 hk with rfl | rfl | rfl | rfl | rfl | rfl | rfl | rfl <;> rcases f4 ha with rfl | rfl | rfl | rfl <;> first | decide | (exfalso; revert h; decide)
theorem und_self {k : Nat} (hk : k < 8) : undN k k = true := by
  rcases k8 hk with rfl | rfl | rfl | rfl | rfl | rfl | rfl | rfl <;> rfl
theorem und_abv {k t : Nat} (hk : k < 8) (ht : t < 8) (h1 : 1 ≤ k) (h : ¬ k = t) : undN k t = undN (abv k) t ∧ dpt (abv k) < dpt k := by
  rcases k8 hk with rfl | rfl | rfl | rfl | rfl | rfl | rfl | rfl <;> rcases k8 ht with rfl | rfl | rfl | rfl | rfl | rfl | rfl | rfl <;> first | decide | omega
theorem und_0 {t : Nat} (ht : t < 8) (h : ¬ 0 = t) : undN 0 t = false := by
  rcases k8 ht with rfl | rfl | rfl | rfl | rfl | rfl | rfl | rfl <;> first | rfl | omega

/-- an act of kind K, number N: the body found from kind fm on: what it answers, which bodies run -/
def rv (K N : Nat) : Nat → Nat → Nat → Int32 → Int32 × List Nat
  | 0, _, _, _ => (0, [])
  | f + 1, fm, ac, x =>
    let k := owN fm ac
    let b := ownT k ac
    if b = 1 then (x + nI N, [1]) else
    if b = 2 then ((rv K N f K 1 x).1 - (rv K N f K 2 1).1, 2 :: ((rv K N f K 1 x).2 ++ (rv K N f K 2 1).2)) else
    if b = 10 then ((rv K N f K 0 x).1 * 2, 10 :: (rv K N f K 0 x).2) else
    if b = 11 then (x ^^^ nI N, [11]) else
    if b = 20 then ((rv K N f (abv k) 0 x).1 + 3, 20 :: (rv K N f (abv k) 0 x).2) else
    if b = 30 then (-(rv K N f (abv k) 1 x).1, 30 :: (rv K N f (abv k) 1 x).2) else
    if b = 40 then ((rv K N f (abv k) 2 x).1 * 3, 40 :: (rv K N f (abv k) 2 x).2) else
    if b = 41 then ((rv K N f (abv k) 1 (x + 1)).1, 41 :: (rv K N f (abv k) 1 (x + 1)).2) else
    if b = 50 then ((rv K N f (abv k) 3 x).1 ^^^ 5, 50 :: (rv K N f (abv k) 3 x).2) else
    if b = 60 then ((rv K N f (abv k) 2 x).1 - (rv K N f K 0 2).1, 60 :: ((rv K N f (abv k) 2 x).2 ++ (rv K N f K 0 2).2)) else
    if b = 61 then ((rv K N f (abv k) 3 x).1 + 1, 61 :: (rv K N f (abv k) 3 x).2) else
    if b = 70 then ((rv K N f (abv k) 0 x).1 * 2, 70 :: (rv K N f (abv k) 0 x).2) else
    if b = 80 then ((rv K N f (abv k) 1 x).1 + (rv K N f K 2 2).1, 80 :: ((rv K N f (abv k) 1 x).2 ++ (rv K N f K 2 2).2)) else
    if b = 81 then ((rv K N f (abv k) 0 x).1 - 1, 81 :: (rv K N f (abv k) 0 x).2) else
    (0, [])
theorem rv_1 {K N f fm ac : Nat} {x : Int32} (h : ownT (owN fm ac) ac = 1) : rv K N (f + 1) fm ac x = (x + nI N, [1]) := by
  rw [rv]
  simp only [h]
  simp
theorem rv_2 {K N f fm ac : Nat} {x : Int32} (h : ownT (owN fm ac) ac = 2) : rv K N (f + 1) fm ac x = ((rv K N f K 1 x).1 - (rv K N f K 2 1).1, 2 :: ((rv K N f K 1 x).2 ++ (rv K N f K 2 1).2)) := by
  rw [rv]
  simp only [h]
  simp
theorem rv_10 {K N f fm ac : Nat} {x : Int32} (h : ownT (owN fm ac) ac = 10) : rv K N (f + 1) fm ac x = ((rv K N f K 0 x).1 * 2, 10 :: (rv K N f K 0 x).2) := by
  rw [rv]
  simp only [h]
  simp
theorem rv_11 {K N f fm ac : Nat} {x : Int32} (h : ownT (owN fm ac) ac = 11) : rv K N (f + 1) fm ac x = (x ^^^ nI N, [11]) := by
  rw [rv]
  simp only [h]
  simp
theorem rv_20 {K N f fm ac : Nat} {x : Int32} (h : ownT (owN fm ac) ac = 20) : rv K N (f + 1) fm ac x = ((rv K N f (abv (owN fm ac)) 0 x).1 + 3, 20 :: (rv K N f (abv (owN fm ac)) 0 x).2) := by
  rw [rv]
  simp only [h]
  simp
theorem rv_30 {K N f fm ac : Nat} {x : Int32} (h : ownT (owN fm ac) ac = 30) : rv K N (f + 1) fm ac x = (-(rv K N f (abv (owN fm ac)) 1 x).1, 30 :: (rv K N f (abv (owN fm ac)) 1 x).2) := by
  rw [rv]
  simp only [h]
  simp
theorem rv_40 {K N f fm ac : Nat} {x : Int32} (h : ownT (owN fm ac) ac = 40) : rv K N (f + 1) fm ac x = ((rv K N f (abv (owN fm ac)) 2 x).1 * 3, 40 :: (rv K N f (abv (owN fm ac)) 2 x).2) := by
  rw [rv]
  simp only [h]
  simp
theorem rv_41 {K N f fm ac : Nat} {x : Int32} (h : ownT (owN fm ac) ac = 41) : rv K N (f + 1) fm ac x = ((rv K N f (abv (owN fm ac)) 1 (x + 1)).1, 41 :: (rv K N f (abv (owN fm ac)) 1 (x + 1)).2) := by
  rw [rv]
  simp only [h]
  simp
theorem rv_50 {K N f fm ac : Nat} {x : Int32} (h : ownT (owN fm ac) ac = 50) : rv K N (f + 1) fm ac x = ((rv K N f (abv (owN fm ac)) 3 x).1 ^^^ 5, 50 :: (rv K N f (abv (owN fm ac)) 3 x).2) := by
  rw [rv]
  simp only [h]
  simp
theorem rv_60 {K N f fm ac : Nat} {x : Int32} (h : ownT (owN fm ac) ac = 60) : rv K N (f + 1) fm ac x = ((rv K N f (abv (owN fm ac)) 2 x).1 - (rv K N f K 0 2).1, 60 :: ((rv K N f (abv (owN fm ac)) 2 x).2 ++ (rv K N f K 0 2).2)) := by
  rw [rv]
  simp only [h]
  simp
theorem rv_61 {K N f fm ac : Nat} {x : Int32} (h : ownT (owN fm ac) ac = 61) : rv K N (f + 1) fm ac x = ((rv K N f (abv (owN fm ac)) 3 x).1 + 1, 61 :: (rv K N f (abv (owN fm ac)) 3 x).2) := by
  rw [rv]
  simp only [h]
  simp
theorem rv_70 {K N f fm ac : Nat} {x : Int32} (h : ownT (owN fm ac) ac = 70) : rv K N (f + 1) fm ac x = ((rv K N f (abv (owN fm ac)) 0 x).1 * 2, 70 :: (rv K N f (abv (owN fm ac)) 0 x).2) := by
  rw [rv]
  simp only [h]
  simp
theorem rv_80 {K N f fm ac : Nat} {x : Int32} (h : ownT (owN fm ac) ac = 80) : rv K N (f + 1) fm ac x = ((rv K N f (abv (owN fm ac)) 1 x).1 + (rv K N f K 2 2).1, 80 :: ((rv K N f (abv (owN fm ac)) 1 x).2 ++ (rv K N f K 2 2).2)) := by
  rw [rv]
  simp only [h]
  simp
theorem rv_81 {K N f fm ac : Nat} {x : Int32} (h : ownT (owN fm ac) ac = 81) : rv K N (f + 1) fm ac x = ((rv K N f (abv (owN fm ac)) 0 x).1 - 1, 81 :: (rv K N f (abv (owN fm ac)) 0 x).2) := by
  rw [rv]
  simp only [h]
  simp
/-- at most so many run -/
def Bd : Nat → Nat
  | 0 => 0
  | f + 1 => 2 * Bd f + 1
theorem rv_len {K N : Nat} : ∀ (f fm ac : Nat) (x : Int32), (rv K N f fm ac x).2.length ≤ Bd f := by
  intro f
  induction f with
  | zero => intro fm ac x; exact Nat.le_refl _
  | succ f ih =>
    intro fm ac x
    have h1 := fun fm ac x => ih fm ac x
    rw [Bd]
    by_cases e_1 : ownT (owN fm ac) ac = 1
    · rw [rv_1 e_1]
      simp only [List.length_cons, List.length_append, List.length_nil]
      omega
    by_cases e_2 : ownT (owN fm ac) ac = 2
    · rw [rv_2 e_2]
      have a0 := h1 K 1 x
      have a1 := h1 K 2 1
      simp only [List.length_cons, List.length_append, List.length_nil]
      omega
    by_cases e_10 : ownT (owN fm ac) ac = 10
    · rw [rv_10 e_10]
      have a0 := h1 K 0 x
      simp only [List.length_cons, List.length_append, List.length_nil]
      omega
    by_cases e_11 : ownT (owN fm ac) ac = 11
    · rw [rv_11 e_11]
      simp only [List.length_cons, List.length_append, List.length_nil]
      omega
    by_cases e_20 : ownT (owN fm ac) ac = 20
    · rw [rv_20 e_20]
      have a0 := h1 (abv (owN fm ac)) 0 x
      simp only [List.length_cons, List.length_append, List.length_nil]
      omega
    by_cases e_30 : ownT (owN fm ac) ac = 30
    · rw [rv_30 e_30]
      have a0 := h1 (abv (owN fm ac)) 1 x
      simp only [List.length_cons, List.length_append, List.length_nil]
      omega
    by_cases e_40 : ownT (owN fm ac) ac = 40
    · rw [rv_40 e_40]
      have a0 := h1 (abv (owN fm ac)) 2 x
      simp only [List.length_cons, List.length_append, List.length_nil]
      omega
    by_cases e_41 : ownT (owN fm ac) ac = 41
    · rw [rv_41 e_41]
      have a0 := h1 (abv (owN fm ac)) 1 (x + 1)
      simp only [List.length_cons, List.length_append, List.length_nil]
      omega
    by_cases e_50 : ownT (owN fm ac) ac = 50
    · rw [rv_50 e_50]
      have a0 := h1 (abv (owN fm ac)) 3 x
      simp only [List.length_cons, List.length_append, List.length_nil]
      omega
    by_cases e_60 : ownT (owN fm ac) ac = 60
    · rw [rv_60 e_60]
      have a0 := h1 (abv (owN fm ac)) 2 x
      have a1 := h1 K 0 2
      simp only [List.length_cons, List.length_append, List.length_nil]
      omega
    by_cases e_61 : ownT (owN fm ac) ac = 61
    · rw [rv_61 e_61]
      have a0 := h1 (abv (owN fm ac)) 3 x
      simp only [List.length_cons, List.length_append, List.length_nil]
      omega
    by_cases e_70 : ownT (owN fm ac) ac = 70
    · rw [rv_70 e_70]
      have a0 := h1 (abv (owN fm ac)) 0 x
      simp only [List.length_cons, List.length_append, List.length_nil]
      omega
    by_cases e_80 : ownT (owN fm ac) ac = 80
    · rw [rv_80 e_80]
      have a0 := h1 (abv (owN fm ac)) 1 x
      have a1 := h1 K 2 2
      simp only [List.length_cons, List.length_append, List.length_nil]
      omega
    by_cases e_81 : ownT (owN fm ac) ac = 81
    · rw [rv_81 e_81]
      have a0 := h1 (abv (owN fm ac)) 0 x
      simp only [List.length_cons, List.length_append, List.length_nil]
      omega
    have e : rv K N (f + 1) fm ac x = (0, []) := by
      rw [rv]
      simp [e_1, e_2, e_10, e_11, e_20, e_30, e_40, e_41, e_50, e_60, e_61, e_70, e_80, e_81]
    rw [e]
    simp
def AC (b : Nat) (kd : Nat → Nat) (T : List Nat) (S : St) : Prop := S.1 6 1 = nI b ∧ b ≤ 50 ∧ (∀ i, i < b → S.1 53 i = nI (kd i) ∧ kd i < 8) ∧ S.1 6 3 = nI T.length ∧ ∀ i, i < T.length → i < 24 → S.1 54 i = nI (T.getD i 0)
section Acts
variable {a : Nat → Nat} {S : St} {b : Nat} {kd : Nat → Nat} {T : List Nat}
theorem AC.kp {rs : List Nat} {S' : St} (h : AC b kd T S) (hk : Kp rs S S') (hr : 6 ∉ rs) : AC b kd T S' := ⟨by rw [hk.i (show rg 6 1 ∉ rs from hr)]; exact h.1, h.2.1, fun i hi => by rw [hk.i (show rg 53 i ∉ rs from hr)]; exact h.2.2.1 i hi, by rw [hk.i (show rg 6 3 ∉ rs from hr)]; exact h.2.2.2.1, fun i hi hj => by rw [hk.i (show rg 54 i ∉ rs from hr)]; exact h.2.2.2.2 i hi hj⟩
theorem getD_snoc {T : List Nat} {x i : Nat} (h : i < (T ++ [x]).length) : (T ++ [x]).getD i 0 = if i < T.length then T.getD i 0 else x := by
  split
  · next q => simp [List.getD, List.getElem?_append_left q]
  · next q =>
    have : i = T.length := by simp at h; omega
    subst this
    simp [List.getD]

set_option maxRecDepth 20000 in
theorem s_X0_note {x : Nat} (h : AC b kd T S) (hT : T.length < 2 ^ 30) : Rqv a mX0_note 0 [.ref (a 6), .int (nI x)] S (fun S' => AC b kd (T ++ [x]) S' ∧ Kp [6] S S' ∧ S'.1 6 4 = S.1 6 4 ∧ S'.1 6 5 = S.1 6 5) := by
  show J _ _ _ _ 0 [_, _] [] _
  refine j_ald0 dX0_note_0 ?_
  refine j_getI (k := 3) dX0_note_1 cX0_ok (Or.inl f0_29) rfl (by decide) (by decide) (by decide) ?_
  refine j_top (y := nI T.length) (h.2.2.2.1) ?_
  refine j_bipush (24) dX0_note_4 rfl ?_
  refine j_icmpge 19 dX0_note_6 (by decide) (fun c_6 => ?_) (fun c_6 => ?_)
  · have q_6 : 24 ≤ T.length := (nI_leI (a := 24) (by decide) (by omega)).mp c_6
    refine j_ald0 dX0_note_19 ?_
    refine j_dup dX0_note_20 rfl ?_
    refine j_getI (k := 3) dX0_note_21 cX0_ok (Or.inl f0_29) rfl (by decide) (by decide) (by decide) ?_
    refine j_top (y := nI T.length) (h.2.2.2.1) ?_
    refine j_iconst (1) dX0_note_24 rfl ?_
    refine j_iadd dX0_note_25 ?_
    refine j_top (y := nI (T.length + 1)) (nI_1 _) ?_
    refine j_putI (k := 3) dX0_note_26 cX0_ok (Or.inl f0_29) rfl (by decide) (by decide) (by decide) rfl ?_
    refine j_vret dX0_note_29 rfl ?_
    refine ⟨rfl, ⟨?_, h.2.1, fun i hi => ?_, ?_, fun i hi hj => ?_⟩, Kp_uI Kp.rf (List.mem_singleton.mpr rfl), ?_, ?_⟩
    · simp [uI_at, h.1]
    · refine ⟨?_, (h.2.2.1 i hi).2⟩; simp [uI_at, (h.2.2.1 i hi).1]
    · simp [uI_at]
    · rw [getD_snoc hi]
      simp only [uI_at]
      rw [if_neg (by omega), if_pos (by omega)]
      exact h.2.2.2.2 i (by omega) hj
    · simp [uI_at]
    · simp [uI_at]
  have q_6 : T.length < 24 := Nat.not_le.mp (fun z => c_6 ((nI_leI (a := 24) (by decide) (by omega)).mpr z))
  refine j_ald0 dX0_note_9 ?_
  refine j_getR (k := 2) (54) dX0_note_10 cX0_ok (Or.inl f0_15) rfl (by decide) (by decide) (by decide) rfl ?_
  refine j_ald0 dX0_note_13 ?_
  refine j_getI (k := 3) dX0_note_14 cX0_ok (Or.inl f0_29) rfl (by decide) (by decide) (by decide) ?_
  refine j_top (y := nI T.length) (h.2.2.2.1) ?_
  refine j_ild1 dX0_note_17 ?_
  refine j_iast dX0_note_18 rfl (by decide) rfl (by omega) (by decide) ?_
  refine j_ald0 dX0_note_19 ?_
  refine j_dup dX0_note_20 rfl ?_
  refine j_getI (k := 3) dX0_note_21 cX0_ok (Or.inl f0_29) rfl (by decide) (by decide) (by decide) ?_
  refine j_top (y := nI T.length) (by rw [uI_at, if_neg (by omega)]; exact h.2.2.2.1) ?_
  refine j_iconst (1) dX0_note_24 rfl ?_
  refine j_iadd dX0_note_25 ?_
  refine j_top (y := nI (T.length + 1)) (nI_1 _) ?_
  refine j_putI (k := 3) dX0_note_26 cX0_ok (Or.inl f0_29) rfl (by decide) (by decide) (by decide) rfl ?_
  refine j_vret dX0_note_29 rfl ?_
  refine ⟨rfl, ⟨?_, h.2.1, fun i hi => ?_, ?_, fun i hi hj => ?_⟩, Kp_uI (Kp_uI Kp.rf (List.mem_singleton.mpr rfl)) (List.mem_singleton.mpr rfl), ?_, ?_⟩
  · simp [uI_at, h.1]
  · refine ⟨?_, (h.2.2.1 i hi).2⟩; simp [uI_at, (h.2.2.1 i hi).1]
  · simp [uI_at]
  · rw [getD_snoc hi]
    simp only [uI_at]
    rw [if_neg (by omega)]
    by_cases e : i < T.length
    · rw [if_neg (by omega), if_pos e]; exact h.2.2.2.2 i e hj
    · have : i = T.length := by simp at hi; omega
      rw [if_pos (by simpa using this), if_neg e]
  · simp [uI_at]
  · simp [uI_at]

set_option maxRecDepth 20000 in
theorem lp_X0_owner {ac : Nat} (ha : ac < 4) {w0 : Int32} : ∀ (k : Nat) (c : Nat) (s : Nat), dpt c < k → (c < 8) → (dpt c + s ≤ 6) → J a mX0_owner 1 (gm a fun r S' => r = some (.int (nI (owN c ac))) ∧ S' = S) 4 [.int w0, .int (nI ac), .int (nI c), .int (nI s)] [] S := by
  intro k
  induction k with
  | zero => intro c s hk; exact absurd hk (Nat.not_lt_zero _)
  | succ k ih =>
    intro c s hk hc hs
    refine j_ild3 dX0_owner_4 ?_
    refine j_bipush (8) dX0_owner_5 rfl ?_
    refine j_icmpge 45 dX0_owner_7 (by decide) (fun c_7 => absurd c_7 (fun z => absurd ((nI_leI (a := 8) (b := s) (by decide) (by omega)).mp z) (by omega))) (fun c_7 => ?_)
    refine j_ild2 dX0_owner_10 ?_
    refine j_bipush (8) dX0_owner_11 rfl ?_
    refine j_cS2 dX0_owner_13 kX7_within zX7_within (Or.inr ⟨_, l0_22⟩) (Nat.le_of_ble_eq_true rfl) (Nat.le_of_ble_eq_true rfl) (by omega) (s_X7_within) ?_
    refine j_ifeqB 45 dX0_owner_16 (by decide) (fun c_16 => absurd c_16 (not_not_intro (nI_in' hc (by decide)))) (fun c_16 => ?_)
    refine j_gets (i := 4) dX0_owner_19 rfl (Or.inl f0_46) ?_
    refine j_iconst (4) dX0_owner_22 rfl ?_
    refine j_ild2 dX0_owner_23 ?_
    refine j_imul dX0_owner_24 ?_
    refine j_top (y := nI (4 * c)) (by exact pk_mul 4 c) ?_
    refine j_ild1 dX0_owner_25 ?_
    refine j_iadd dX0_owner_26 ?_
    refine j_top (y := nI (4 * c + ac)) (nI_add _ _) ?_
    refine j_tald (i := 4) dX0_owner_27 rfl rfl (by show _ < 32; omega) (by decide) ?_
    refine j_top (y := nI (ownT c ac)) (own_tab hc ha) ?_
    refine j_ifeq 33 dX0_owner_28 (by decide) (fun c_28 => ?_) (fun c_28 => ?_)
    · have q_28 : ownT c ac = 0 := (nI_eq (a := ownT c ac) (b := 0) (by have := ownT_le hc ha; omega) (by decide)).mp c_28
      refine j_gets (i := 3) dX0_owner_33 rfl (Or.inl f0_26) ?_
      refine j_ild2 dX0_owner_36 ?_
      refine j_tald (i := 3) dX0_owner_37 rfl rfl (by show _ < 8; omega) (by decide) ?_
      refine j_top (y := nI (abv c)) (abv_tab hc (owN_abv hc ha q_28).2.1) ?_
      refine j_ist2 dX0_owner_38 rfl (by decide) ?_
      refine j_iinc3 (nI (s + 1)) dX0_owner_39 (nI_1 s) rfl (by decide) ?_
      refine j_goto 4 dX0_owner_42 (by decide) ?_
      rw [show owN c ac = owN (abv c) ac from (owN_abv hc ha q_28).1]
      exact ih (abv c) (s + 1) (by have := (owN_abv hc ha q_28).2.2.2.1; omega) (owN_abv hc ha q_28).2.2.1 (by have := (owN_abv hc ha q_28).2.2.2.1; omega)
    have q_28 : ¬ ownT c ac = 0 := fun z => c_28 (by rw [z]; rfl)
    refine j_ild2 dX0_owner_31 ?_
    refine j_iret dX0_owner_32 rfl ?_
    exact ⟨by rw [owN_self hc ha q_28], rfl⟩

set_option maxRecDepth 20000 in
theorem s_X0_owner {c ac : Nat} (hc : c < 8) (ha : ac < 4) : Rt a mX0_owner 1 [.int (nI c), .int (nI ac)] S (some (.int (nI (owN c ac)))) S := by
  show J _ _ _ _ 0 [_, _, .null, .null] [] _
  refine j_ild0 dX0_owner_0 ?_
  refine j_ist2 dX0_owner_1 rfl (by decide) ?_
  refine j_iconst (0) dX0_owner_2 rfl ?_
  refine j_ist3 dX0_owner_3 rfl (by decide) ?_
  exact lp_X0_owner ha 4 c 0 (by have := dpt_le c; omega) hc (by have := dpt_le c; omega)

set_option maxRecDepth 20000 in
theorem isU_0 {t : Nat} {w0 w1 : Int32} (ht : t < 8) (h : ¬ 0 = t) : J a mX0_isUnder 1 (gm a fun r S' => r = some (.int (bi (undN 0 t = true))) ∧ S' = S) 26 [.int w0, .int (nI t), .int (nI 0), .int w1] [] S := by
  refine j_gets (i := 3) dX0_isUnder_26 rfl (Or.inl f0_26) ?_
  refine j_ild2 dX0_isUnder_29 ?_
  refine j_tald (i := 3) (k := 0) dX0_isUnder_30 rfl rfl (by decide) (by decide) ?_
  refine j_top (y := -1) rfl ?_
  refine j_ist2 dX0_isUnder_31 rfl (by decide) ?_
  refine j_iinc3 (w1 + 1) dX0_isUnder_32 rfl rfl (by decide) ?_
  refine j_goto 4 dX0_isUnder_35 (by decide) ?_
  refine j_ild3 dX0_isUnder_4 ?_
  refine j_bipush (8) dX0_isUnder_5 rfl ?_
  refine j_icmpge 38 dX0_isUnder_7 (by decide) (fun c_7 => ?_) (fun c_7 => ?_)
  · refine j_iconst (0) dX0_isUnder_38 rfl ?_
    refine j_zret dX0_isUnder_39 rfl (by decide) ?_
    exact ⟨by rw [und_0 ht h]; rfl, rfl⟩
  refine j_ild2 dX0_isUnder_10 ?_
  refine j_bipush (8) dX0_isUnder_11 rfl ?_
  refine j_cS2 dX0_isUnder_13 kX7_within zX7_within (Or.inr ⟨_, l0_22⟩) (Nat.le_of_ble_eq_true rfl) (Nat.le_of_ble_eq_true rfl) (by omega) (s_X7_within) ?_
  refine j_ifeqB 38 dX0_isUnder_16 (by decide) (fun c_16 => ?_) (fun c_16 => absurd c_16 (fun z => absurd z.1 (by decide)))
  refine j_iconst (0) dX0_isUnder_38 rfl ?_
  refine j_zret dX0_isUnder_39 rfl (by decide) ?_
  exact ⟨by rw [und_0 ht h]; rfl, rfl⟩

set_option maxRecDepth 20000 in
theorem lp_X0_isUnder {t : Nat} (ht : t < 8) {w0 : Int32} : ∀ (k : Nat) (c : Nat) (s : Nat), dpt c < k → (c < 8) → (dpt c + s ≤ 6) → J a mX0_isUnder 1 (gm a fun r S' => r = some (.int (bi (undN c t = true))) ∧ S' = S) 4 [.int w0, .int (nI t), .int (nI c), .int (nI s)] [] S := by
  intro k
  induction k with
  | zero => intro c s hk; exact absurd hk (Nat.not_lt_zero _)
  | succ k ih =>
    intro c s hk hc hs
    refine j_ild3 dX0_isUnder_4 ?_
    refine j_bipush (8) dX0_isUnder_5 rfl ?_
    refine j_icmpge 38 dX0_isUnder_7 (by decide) (fun c_7 => absurd c_7 (fun z => absurd ((nI_leI (a := 8) (b := s) (by decide) (by omega)).mp z) (by omega))) (fun c_7 => ?_)
    refine j_ild2 dX0_isUnder_10 ?_
    refine j_bipush (8) dX0_isUnder_11 rfl ?_
    refine j_cS2 dX0_isUnder_13 kX7_within zX7_within (Or.inr ⟨_, l0_22⟩) (Nat.le_of_ble_eq_true rfl) (Nat.le_of_ble_eq_true rfl) (by omega) (s_X7_within) ?_
    refine j_ifeqB 38 dX0_isUnder_16 (by decide) (fun c_16 => absurd c_16 (not_not_intro (nI_in' hc (by decide)))) (fun c_16 => ?_)
    refine j_ild2 dX0_isUnder_19 ?_
    refine j_ild1 dX0_isUnder_20 ?_
    refine j_icmpne 26 dX0_isUnder_21 (by decide) (fun c_21 => ?_) (fun c_21 => ?_)
    · have q_21 : ¬ c = t := fun z => c_21 (by rw [z])
      rcases Nat.eq_zero_or_pos c with q_0 | q_1
      · subst q_0
        exact isU_0 ht q_21
      refine j_gets (i := 3) dX0_isUnder_26 rfl (Or.inl f0_26) ?_
      refine j_ild2 dX0_isUnder_29 ?_
      refine j_tald (i := 3) dX0_isUnder_30 rfl rfl (by show _ < 8; omega) (by decide) ?_
      refine j_top (y := nI (abv c)) (abv_tab hc q_1) ?_
      refine j_ist2 dX0_isUnder_31 rfl (by decide) ?_
      refine j_iinc3 (nI (s + 1)) dX0_isUnder_32 (nI_1 s) rfl (by decide) ?_
      refine j_goto 4 dX0_isUnder_35 (by decide) ?_
      rw [(und_abv hc ht q_1 q_21).1]
      exact ih (abv c) (s + 1) (by have := (und_abv hc ht q_1 q_21).2; omega) (abv_lt hc) (by have := (und_abv hc ht q_1 q_21).2; omega)
    have q_21 : c = t := (nI_eq (by omega) (by omega)).mp (Classical.not_not.mp c_21)
    subst q_21
    refine j_iconst (1) dX0_isUnder_24 rfl ?_
    refine j_zret dX0_isUnder_25 rfl (by decide) ?_
    exact ⟨by rw [bi_t (und_self hc)], rfl⟩

set_option maxRecDepth 20000 in
theorem s_X0_isUnder {c t : Nat} (hc : c < 8) (ht : t < 8) : Rt a mX0_isUnder 1 [.int (nI c), .int (nI t)] S (some (.int (bi (undN c t = true)))) S := by
  show J _ _ _ _ 0 [_, _, .null, .null] [] _
  refine j_ild0 dX0_isUnder_0 ?_
  refine j_ist2 dX0_isUnder_1 rfl (by decide) ?_
  refine j_iconst (0) dX0_isUnder_2 rfl ?_
  refine j_ist3 dX0_isUnder_3 rfl (by decide) ?_
  exact lp_X0_isUnder ht 4 c 0 (by have := dpt_le c; omega) hc (by have := dpt_le c; omega)

def ARun (a : Nat → Nat) (K N b : Nat) (kd : Nat → Nat) (f : Nat) : Prop := ∀ (S : St) (T : List Nat) (fm ac dep : Nat) (x : Int32), fm < 8 → ac < 4 → f + dep = 21 → AC b kd T S → S.1 6 4 = nI K → S.1 6 5 = nI N → T.length + Bd f < 2 ^ 30 →
  Rqi a mX0_run (2 * f + 3) [.ref (a 6), .int (nI fm), .int (nI ac), .int x, .int (nI dep)] S (fun r S' => r = (rv K N f fm ac x).1 ∧ AC b kd (T ++ (rv K N f fm ac x).2) S' ∧ Kp [6] S S' ∧ S'.1 6 4 = nI K ∧ S'.1 6 5 = nI N)
set_option maxRecDepth 20000 in
theorem s_X0_own {K N f dep ac : Nat} {x : Int32} (hK : K < 8) (H : ARun a K N b kd f) (ha : ac < 4) (hf : f + dep + 1 = 21) (h : AC b kd T S) (h4 : S.1 6 4 = nI K) (h5 : S.1 6 5 = nI N) (hT : T.length + Bd f < 2 ^ 30) : Rqi a mX0_own (2 * f + 4) [.ref (a 6), .int (nI ac), .int x, .int (nI dep)] S (fun r S' => r = (rv K N f K ac x).1 ∧ AC b kd (T ++ (rv K N f K ac x).2) S' ∧ Kp [6] S S' ∧ S'.1 6 4 = nI K ∧ S'.1 6 5 = nI N) := by
  show J _ _ _ _ 0 [_, _, _, _] [] _
  refine j_ald0 dX0_own_0 ?_
  refine j_ald0 dX0_own_1 ?_
  refine j_getI (k := 4) dX0_own_2 cX0_ok (Or.inl f0_32) rfl (by decide) (by decide) (by decide) ?_
  refine j_top (y := nI K) (h4) ?_
  refine j_ild1 dX0_own_5 ?_
  refine j_ild2 dX0_own_6 ?_
  refine j_ild3 dX0_own_7 ?_
  refine j_iconst (1) dX0_own_8 rfl ?_
  refine j_iadd dX0_own_9 ?_
  refine j_top (y := nI (dep + 1)) (nI_1 dep) ?_
  refine j_qiV4 dX0_own_10 kX0_run l0_38 rfl (by decide) rfl (Nat.le_of_ble_eq_true rfl) (Nat.le_of_ble_eq_true rfl) (by omega) (H S T K ac (dep + 1) x hK ha (by omega) h h4 h5 hT) (fun r1 S1 h1 => ?_)
  refine j_iret dX0_own_13 rfl ?_
  exact ⟨_, rfl, h1⟩

set_option maxRecDepth 20000 in
theorem s_X0_above {K N f dep ac : Nat} {x : Int32} {c : Nat} (hc : c < 8) (hc1 : 1 ≤ c) (H : ARun a K N b kd f) (ha : ac < 4) (hf : f + dep + 1 = 21) (h : AC b kd T S) (h4 : S.1 6 4 = nI K) (h5 : S.1 6 5 = nI N) (hT : T.length + Bd f < 2 ^ 30) : Rqi a mX0_above (2 * f + 4) [.ref (a 6), .int (nI c), .int (nI ac), .int x, .int (nI dep)] S (fun r S' => r = (rv K N f (abv c) ac x).1 ∧ AC b kd (T ++ (rv K N f (abv c) ac x).2) S' ∧ Kp [6] S S' ∧ S'.1 6 4 = nI K ∧ S'.1 6 5 = nI N) := by
  show J _ _ _ _ 0 [_, _, _, _, _] [] _
  refine j_ald0 dX0_above_0 ?_
  refine j_gets (i := 3) dX0_above_1 rfl (Or.inl f0_26) ?_
  refine j_ild1 dX0_above_4 ?_
  refine j_tald (i := 3) dX0_above_5 rfl rfl (by show _ < 8; omega) (by decide) ?_
  refine j_top (y := nI (abv c)) (abv_tab hc hc1) ?_
  refine j_ild2 dX0_above_6 ?_
  refine j_ild3 dX0_above_7 ?_
  refine j_ild4 dX0_above_8 ?_
  refine j_iconst (1) dX0_above_10 rfl ?_
  refine j_iadd dX0_above_11 ?_
  refine j_top (y := nI (dep + 1)) (nI_1 dep) ?_
  refine j_qiV4 dX0_above_12 kX0_run l0_38 rfl (by decide) rfl (Nat.le_of_ble_eq_true rfl) (Nat.le_of_ble_eq_true rfl) (by omega) (H S T (abv c) ac (dep + 1) x (abv_lt hc) ha (by omega) h h4 h5 hT) (fun r1 S1 h1 => ?_)
  refine j_iret dX0_above_15 rfl ?_
  exact ⟨_, rfl, h1⟩

set_option maxRecDepth 20000 in
set_option maxHeartbeats 1000000 in
theorem s_X0_run {K N : Nat} (hK : K < 8) : ∀ f, ARun a K N b kd f := by
  intro f
  induction f with
  | zero =>
    intro S T fm ac dep x hfm ha hf h h4 h5 hT
    show J _ _ _ _ 0 [_, _, _, _, _, .null, .null] [] _
    refine j_ild1 dX0_run_0 ?_
    refine j_ild2 dX0_run_1 ?_
    refine j_cS2 dX0_run_2 kX0_owner zX0_owner (Or.inl l0_42) (Nat.le_of_ble_eq_true rfl) (Nat.le_of_ble_eq_true rfl) (by omega) (s_X0_owner hfm ha) ?_
    refine j_ist5 dX0_run_5 rfl (by decide) ?_
    refine j_ild5 dX0_run_7 ?_
    refine j_iflt 19 dX0_run_9 (by decide) (fun c_9 => absurd c_9 (nI_pos (by have := owN_lt hfm ha; omega))) (fun c_9 => ?_)
    refine j_ild4 dX0_run_12 ?_
    refine j_bipush (20) dX0_run_14 rfl ?_
    refine j_icmple 21 dX0_run_16 (by decide) (fun c_16 => absurd c_16 (fun z => absurd ((nI_leI (a := dep) (b := 20) (by omega) (by decide)).mp z) (by omega))) (fun c_16 => ?_)
    refine j_iconst (0) dX0_run_19 rfl ?_
    refine j_iret dX0_run_20 rfl ?_
    exact ⟨_, rfl, rfl, by simpa [rv] using h, Kp.rf, h4, h5⟩
  | succ f ih =>
    intro S T fm ac dep x hfm ha hf h h4 h5 hT
    have hB : Bd (f + 1) = 2 * Bd f + 1 := rfl
    show J _ _ _ _ 0 [_, _, _, _, _, .null, .null] [] _
    refine j_ild1 dX0_run_0 ?_
    refine j_ild2 dX0_run_1 ?_
    refine j_cS2 dX0_run_2 kX0_owner zX0_owner (Or.inl l0_42) (Nat.le_of_ble_eq_true rfl) (Nat.le_of_ble_eq_true rfl) (by omega) (s_X0_owner hfm ha) ?_
    refine j_ist5 dX0_run_5 rfl (by decide) ?_
    refine j_ild5 dX0_run_7 ?_
    refine j_iflt 19 dX0_run_9 (by decide) (fun c_9 => absurd c_9 (nI_pos (by have := owN_lt hfm ha; omega))) (fun c_9 => ?_)
    refine j_ild4 dX0_run_12 ?_
    refine j_bipush (20) dX0_run_14 rfl ?_
    refine j_icmple 21 dX0_run_16 (by decide) (fun c_16 => ?_) (fun c_16 => absurd ((nI_leI (a := dep) (b := 20) (by omega) (by decide)).mpr (by omega)) c_16)
    refine j_gets (i := 4) dX0_run_21 rfl (Or.inl f0_46) ?_
    refine j_iconst (4) dX0_run_24 rfl ?_
    refine j_ild5 dX0_run_25 ?_
    refine j_imul dX0_run_27 ?_
    refine j_top (y := nI (4 * owN fm ac)) (by exact pk_mul 4 (owN fm ac)) ?_
    refine j_ild2 dX0_run_28 ?_
    refine j_iadd dX0_run_29 ?_
    refine j_top (y := nI (4 * owN fm ac + ac)) (nI_add _ _) ?_
    refine j_tald (i := 4) dX0_run_30 rfl rfl (by show _ < 32; have := owN_lt hfm ha; omega) (by decide) ?_
    refine j_top (y := nI (ownT (owN fm ac) ac)) (own_tab (owN_lt hfm ha) ha) ?_
    refine j_ist6 dX0_run_31 rfl (by decide) ?_
    refine j_ald0 dX0_run_33 ?_
    refine j_ild6 dX0_run_34 ?_
    refine j_qvV1 dX0_run_36 kX0_note l0_49 rfl (by decide) rfl (Nat.le_of_ble_eq_true rfl) (Nat.le_of_ble_eq_true rfl) (by omega) (s_X0_note h (by omega)) (fun S0 h0 => ?_)
    obtain ⟨hA, hk0, h04, h05⟩ := h0
    rw [h4] at h04
    rw [h5] at h05
    have hb81 := ownT_le (owN_lt hfm ha) ha
    have hl0 : (T ++ [ownT (owN fm ac) ac]).length = T.length + 1 := by simp
    refine j_ild6 dX0_run_39 ?_
    refine j_topi (fun y_41 e_41 => ?_)
    by_cases h_41_1 : y_41 = 1
    · rw [h_41_1] at e_41 ⊢
      refine j_lookup (123) 164 dX0_run_41 (by decide +kernel) (by decide +kernel) (by decide) ?_
      have hb : ownT (owN fm ac) ac = 1 := (nI_eq (a := ownT (owN fm ac) ac) (b := 1) (by omega) (by decide)).mp e_41.symm
      refine j_ild3 dX0_run_164 ?_
      refine j_ald0 dX0_run_165 ?_
      refine j_getI (k := 5) dX0_run_166 cX0_ok (Or.inl f0_35) rfl (by decide) (by decide) (by decide) ?_
      refine j_top (y := nI N) (h05) ?_
      refine j_iadd dX0_run_169 ?_
      refine j_iret dX0_run_170 rfl ?_
      refine ⟨_, rfl, by rw [rv_1 hb], ?_, hk0, h04, h05⟩
      rw [rv_1 hb]
      rw [hb] at hA
      simpa using hA
    by_cases h_41_2 : y_41 = 2
    · rw [h_41_2] at e_41 ⊢
      refine j_lookup (130) 171 dX0_run_41 (by decide +kernel) (by decide +kernel) (by decide) ?_
      have hb : ownT (owN fm ac) ac = 2 := (nI_eq (a := ownT (owN fm ac) ac) (b := 2) (by omega) (by decide)).mp e_41.symm
      refine j_ald0 dX0_run_171 ?_
      refine j_iconst (1) dX0_run_172 rfl ?_
      refine j_ild3 dX0_run_173 ?_
      refine j_ild4 dX0_run_174 ?_
      refine j_qiV3 dX0_run_176 kX0_own l0_53 rfl (by decide) rfl (Nat.le_of_ble_eq_true rfl) (Nat.le_of_ble_eq_true rfl) (by omega) (s_X0_own (K := K) (N := N) (f := f) (ac := 1) hK ih (by decide) (by omega) hA h04 h05 (by omega)) (fun r1 S1 h1 => ?_)
      obtain ⟨rfl, hA1, hk1, h14, h15⟩ := h1
      refine j_ald0 dX0_run_179 ?_
      refine j_iconst (2) dX0_run_180 rfl ?_
      refine j_iconst (1) dX0_run_181 rfl ?_
      refine j_ild4 dX0_run_182 ?_
      refine j_qiV3 dX0_run_184 kX0_own l0_53 rfl (by decide) rfl (Nat.le_of_ble_eq_true rfl) (Nat.le_of_ble_eq_true rfl) (by omega) (s_X0_own (K := K) (N := N) (f := f) (ac := 2) hK ih (by decide) (by omega) hA1 h14 h15 (by have := rv_len (K := K) (N := N) f K 1 x; rw [List.length_append]; rw [Bd] at hT; omega)) (fun r2 S2 h2 => ?_)
      obtain ⟨rfl, hA2, hk2, h24, h25⟩ := h2
      refine j_isub dX0_run_187 ?_
      refine j_iret dX0_run_188 rfl ?_
      refine ⟨_, rfl, by rw [rv_2 hb], ?_, (hk0.tr hk1).tr hk2, h24, h25⟩
      rw [rv_2 hb]
      rw [hb] at hA2
      simpa using hA2
    by_cases h_41_10 : y_41 = 10
    · rw [h_41_10] at e_41 ⊢
      refine j_lookup (148) 189 dX0_run_41 (by decide +kernel) (by decide +kernel) (by decide) ?_
      have hb : ownT (owN fm ac) ac = 10 := (nI_eq (a := ownT (owN fm ac) ac) (b := 10) (by omega) (by decide)).mp e_41.symm
      refine j_ald0 dX0_run_189 ?_
      refine j_iconst (0) dX0_run_190 rfl ?_
      refine j_ild3 dX0_run_191 ?_
      refine j_ild4 dX0_run_192 ?_
      refine j_qiV3 dX0_run_194 kX0_own l0_53 rfl (by decide) rfl (Nat.le_of_ble_eq_true rfl) (Nat.le_of_ble_eq_true rfl) (by omega) (s_X0_own (K := K) (N := N) (f := f) (ac := 0) hK ih (by decide) (by omega) hA h04 h05 (by omega)) (fun r1 S1 h1 => ?_)
      obtain ⟨rfl, hA1, hk1, h14, h15⟩ := h1
      refine j_iconst (2) dX0_run_197 rfl ?_
      refine j_imul dX0_run_198 ?_
      refine j_iret dX0_run_199 rfl ?_
      refine ⟨_, rfl, by rw [rv_10 hb], ?_, hk0.tr hk1, h14, h15⟩
      rw [rv_10 hb]
      rw [hb] at hA1
      simpa using hA1
    by_cases h_41_11 : y_41 = 11
    · rw [h_41_11] at e_41 ⊢
      refine j_lookup (159) 200 dX0_run_41 (by decide +kernel) (by decide +kernel) (by decide) ?_
      have hb : ownT (owN fm ac) ac = 11 := (nI_eq (a := ownT (owN fm ac) ac) (b := 11) (by omega) (by decide)).mp e_41.symm
      refine j_ild3 dX0_run_200 ?_
      refine j_ald0 dX0_run_201 ?_
      refine j_getI (k := 5) dX0_run_202 cX0_ok (Or.inl f0_35) rfl (by decide) (by decide) (by decide) ?_
      refine j_top (y := nI N) (h05) ?_
      refine j_ixor dX0_run_205 ?_
      refine j_iret dX0_run_206 rfl ?_
      refine ⟨_, rfl, by rw [rv_11 hb], ?_, hk0, h04, h05⟩
      rw [rv_11 hb]
      rw [hb] at hA
      simpa using hA
    by_cases h_41_20 : y_41 = 20
    · rw [h_41_20] at e_41 ⊢
      refine j_lookup (166) 207 dX0_run_41 (by decide +kernel) (by decide +kernel) (by decide) ?_
      have hb : ownT (owN fm ac) ac = 20 := (nI_eq (a := ownT (owN fm ac) ac) (b := 20) (by omega) (by decide)).mp e_41.symm
      refine j_ald0 dX0_run_207 ?_
      refine j_ild5 dX0_run_208 ?_
      refine j_iconst (0) dX0_run_210 rfl ?_
      refine j_ild3 dX0_run_211 ?_
      refine j_ild4 dX0_run_212 ?_
      refine j_qiV4 dX0_run_214 kX0_above l0_57 rfl (by decide) rfl (Nat.le_of_ble_eq_true rfl) (Nat.le_of_ble_eq_true rfl) (by omega) (s_X0_above (K := K) (N := N) (f := f) (c := owN fm ac) (ac := 0) (owN_lt hfm ha) (own_pos hfm ha (by omega)) ih (by decide) (by omega) hA h04 h05 (by omega)) (fun r1 S1 h1 => ?_)
      obtain ⟨rfl, hA1, hk1, h14, h15⟩ := h1
      refine j_iconst (3) dX0_run_217 rfl ?_
      refine j_iadd dX0_run_218 ?_
      refine j_iret dX0_run_219 rfl ?_
      refine ⟨_, rfl, by rw [rv_20 hb], ?_, hk0.tr hk1, h14, h15⟩
      rw [rv_20 hb]
      rw [hb] at hA1
      simpa using hA1
    by_cases h_41_30 : y_41 = 30
    · rw [h_41_30] at e_41 ⊢
      refine j_lookup (179) 220 dX0_run_41 (by decide +kernel) (by decide +kernel) (by decide) ?_
      have hb : ownT (owN fm ac) ac = 30 := (nI_eq (a := ownT (owN fm ac) ac) (b := 30) (by omega) (by decide)).mp e_41.symm
      refine j_ald0 dX0_run_220 ?_
      refine j_ild5 dX0_run_221 ?_
      refine j_iconst (1) dX0_run_223 rfl ?_
      refine j_ild3 dX0_run_224 ?_
      refine j_ild4 dX0_run_225 ?_
      refine j_qiV4 dX0_run_227 kX0_above l0_57 rfl (by decide) rfl (Nat.le_of_ble_eq_true rfl) (Nat.le_of_ble_eq_true rfl) (by omega) (s_X0_above (K := K) (N := N) (f := f) (c := owN fm ac) (ac := 1) (owN_lt hfm ha) (own_pos hfm ha (by omega)) ih (by decide) (by omega) hA h04 h05 (by omega)) (fun r1 S1 h1 => ?_)
      obtain ⟨rfl, hA1, hk1, h14, h15⟩ := h1
      refine j_ineg dX0_run_230 ?_
      refine j_iret dX0_run_231 rfl ?_
      refine ⟨_, rfl, by rw [rv_30 hb], ?_, hk0.tr hk1, h14, h15⟩
      rw [rv_30 hb]
      rw [hb] at hA1
      simpa using hA1
    by_cases h_41_40 : y_41 = 40
    · rw [h_41_40] at e_41 ⊢
      refine j_lookup (191) 232 dX0_run_41 (by decide +kernel) (by decide +kernel) (by decide) ?_
      have hb : ownT (owN fm ac) ac = 40 := (nI_eq (a := ownT (owN fm ac) ac) (b := 40) (by omega) (by decide)).mp e_41.symm
      refine j_ald0 dX0_run_232 ?_
      refine j_ild5 dX0_run_233 ?_
      refine j_iconst (2) dX0_run_235 rfl ?_
      refine j_ild3 dX0_run_236 ?_
      refine j_ild4 dX0_run_237 ?_
      refine j_qiV4 dX0_run_239 kX0_above l0_57 rfl (by decide) rfl (Nat.le_of_ble_eq_true rfl) (Nat.le_of_ble_eq_true rfl) (by omega) (s_X0_above (K := K) (N := N) (f := f) (c := owN fm ac) (ac := 2) (owN_lt hfm ha) (own_pos hfm ha (by omega)) ih (by decide) (by omega) hA h04 h05 (by omega)) (fun r1 S1 h1 => ?_)
      obtain ⟨rfl, hA1, hk1, h14, h15⟩ := h1
      refine j_iconst (3) dX0_run_242 rfl ?_
      refine j_imul dX0_run_243 ?_
      refine j_iret dX0_run_244 rfl ?_
      refine ⟨_, rfl, by rw [rv_40 hb], ?_, hk0.tr hk1, h14, h15⟩
      rw [rv_40 hb]
      rw [hb] at hA1
      simpa using hA1
    by_cases h_41_41 : y_41 = 41
    · rw [h_41_41] at e_41 ⊢
      refine j_lookup (204) 245 dX0_run_41 (by decide +kernel) (by decide +kernel) (by decide) ?_
      have hb : ownT (owN fm ac) ac = 41 := (nI_eq (a := ownT (owN fm ac) ac) (b := 41) (by omega) (by decide)).mp e_41.symm
      refine j_ald0 dX0_run_245 ?_
      refine j_ild5 dX0_run_246 ?_
      refine j_iconst (1) dX0_run_248 rfl ?_
      refine j_ild3 dX0_run_249 ?_
      refine j_iconst (1) dX0_run_250 rfl ?_
      refine j_iadd dX0_run_251 ?_
      refine j_ild4 dX0_run_252 ?_
      refine j_qiV4 dX0_run_254 kX0_above l0_57 rfl (by decide) rfl (Nat.le_of_ble_eq_true rfl) (Nat.le_of_ble_eq_true rfl) (by omega) (s_X0_above (K := K) (N := N) (f := f) (c := owN fm ac) (ac := 1) (owN_lt hfm ha) (own_pos hfm ha (by omega)) ih (by decide) (by omega) hA h04 h05 (by omega)) (fun r1 S1 h1 => ?_)
      obtain ⟨rfl, hA1, hk1, h14, h15⟩ := h1
      refine j_iret dX0_run_257 rfl ?_
      refine ⟨_, rfl, by rw [rv_41 hb], ?_, hk0.tr hk1, h14, h15⟩
      rw [rv_41 hb]
      rw [hb] at hA1
      simpa using hA1
    by_cases h_41_50 : y_41 = 50
    · rw [h_41_50] at e_41 ⊢
      refine j_lookup (217) 258 dX0_run_41 (by decide +kernel) (by decide +kernel) (by decide) ?_
      have hb : ownT (owN fm ac) ac = 50 := (nI_eq (a := ownT (owN fm ac) ac) (b := 50) (by omega) (by decide)).mp e_41.symm
      refine j_ald0 dX0_run_258 ?_
      refine j_ild5 dX0_run_259 ?_
      refine j_iconst (3) dX0_run_261 rfl ?_
      refine j_ild3 dX0_run_262 ?_
      refine j_ild4 dX0_run_263 ?_
      refine j_qiV4 dX0_run_265 kX0_above l0_57 rfl (by decide) rfl (Nat.le_of_ble_eq_true rfl) (Nat.le_of_ble_eq_true rfl) (by omega) (s_X0_above (K := K) (N := N) (f := f) (c := owN fm ac) (ac := 3) (owN_lt hfm ha) (own_pos hfm ha (by omega)) ih (by decide) (by omega) hA h04 h05 (by omega)) (fun r1 S1 h1 => ?_)
      obtain ⟨rfl, hA1, hk1, h14, h15⟩ := h1
      refine j_iconst (5) dX0_run_268 rfl ?_
      refine j_ixor dX0_run_269 ?_
      refine j_iret dX0_run_270 rfl ?_
      refine ⟨_, rfl, by rw [rv_50 hb], ?_, hk0.tr hk1, h14, h15⟩
      rw [rv_50 hb]
      rw [hb] at hA1
      simpa using hA1
    by_cases h_41_60 : y_41 = 60
    · rw [h_41_60] at e_41 ⊢
      refine j_lookup (230) 271 dX0_run_41 (by decide +kernel) (by decide +kernel) (by decide) ?_
      have hb : ownT (owN fm ac) ac = 60 := (nI_eq (a := ownT (owN fm ac) ac) (b := 60) (by omega) (by decide)).mp e_41.symm
      refine j_ald0 dX0_run_271 ?_
      refine j_ild5 dX0_run_272 ?_
      refine j_iconst (2) dX0_run_274 rfl ?_
      refine j_ild3 dX0_run_275 ?_
      refine j_ild4 dX0_run_276 ?_
      refine j_qiV4 dX0_run_278 kX0_above l0_57 rfl (by decide) rfl (Nat.le_of_ble_eq_true rfl) (Nat.le_of_ble_eq_true rfl) (by omega) (s_X0_above (K := K) (N := N) (f := f) (c := owN fm ac) (ac := 2) (owN_lt hfm ha) (own_pos hfm ha (by omega)) ih (by decide) (by omega) hA h04 h05 (by omega)) (fun r1 S1 h1 => ?_)
      obtain ⟨rfl, hA1, hk1, h14, h15⟩ := h1
      refine j_ald0 dX0_run_281 ?_
      refine j_iconst (0) dX0_run_282 rfl ?_
      refine j_iconst (2) dX0_run_283 rfl ?_
      refine j_ild4 dX0_run_284 ?_
      refine j_qiV3 dX0_run_286 kX0_own l0_53 rfl (by decide) rfl (Nat.le_of_ble_eq_true rfl) (Nat.le_of_ble_eq_true rfl) (by omega) (s_X0_own (K := K) (N := N) (f := f) (ac := 0) hK ih (by decide) (by omega) hA1 h14 h15 (by have := rv_len (K := K) (N := N) f (abv (owN fm ac)) 2 x; rw [List.length_append]; rw [Bd] at hT; omega)) (fun r2 S2 h2 => ?_)
      obtain ⟨rfl, hA2, hk2, h24, h25⟩ := h2
      refine j_isub dX0_run_289 ?_
      refine j_iret dX0_run_290 rfl ?_
      refine ⟨_, rfl, by rw [rv_60 hb], ?_, (hk0.tr hk1).tr hk2, h24, h25⟩
      rw [rv_60 hb]
      rw [hb] at hA2
      simpa using hA2
    by_cases h_41_61 : y_41 = 61
    · rw [h_41_61] at e_41 ⊢
      refine j_lookup (250) 291 dX0_run_41 (by decide +kernel) (by decide +kernel) (by decide) ?_
      have hb : ownT (owN fm ac) ac = 61 := (nI_eq (a := ownT (owN fm ac) ac) (b := 61) (by omega) (by decide)).mp e_41.symm
      refine j_ald0 dX0_run_291 ?_
      refine j_ild5 dX0_run_292 ?_
      refine j_iconst (3) dX0_run_294 rfl ?_
      refine j_ild3 dX0_run_295 ?_
      refine j_ild4 dX0_run_296 ?_
      refine j_qiV4 dX0_run_298 kX0_above l0_57 rfl (by decide) rfl (Nat.le_of_ble_eq_true rfl) (Nat.le_of_ble_eq_true rfl) (by omega) (s_X0_above (K := K) (N := N) (f := f) (c := owN fm ac) (ac := 3) (owN_lt hfm ha) (own_pos hfm ha (by omega)) ih (by decide) (by omega) hA h04 h05 (by omega)) (fun r1 S1 h1 => ?_)
      obtain ⟨rfl, hA1, hk1, h14, h15⟩ := h1
      refine j_iconst (1) dX0_run_301 rfl ?_
      refine j_iadd dX0_run_302 ?_
      refine j_iret dX0_run_303 rfl ?_
      refine ⟨_, rfl, by rw [rv_61 hb], ?_, hk0.tr hk1, h14, h15⟩
      rw [rv_61 hb]
      rw [hb] at hA1
      simpa using hA1
    by_cases h_41_70 : y_41 = 70
    · rw [h_41_70] at e_41 ⊢
      refine j_lookup (263) 304 dX0_run_41 (by decide +kernel) (by decide +kernel) (by decide) ?_
      have hb : ownT (owN fm ac) ac = 70 := (nI_eq (a := ownT (owN fm ac) ac) (b := 70) (by omega) (by decide)).mp e_41.symm
      refine j_ald0 dX0_run_304 ?_
      refine j_ild5 dX0_run_305 ?_
      refine j_iconst (0) dX0_run_307 rfl ?_
      refine j_ild3 dX0_run_308 ?_
      refine j_ild4 dX0_run_309 ?_
      refine j_qiV4 dX0_run_311 kX0_above l0_57 rfl (by decide) rfl (Nat.le_of_ble_eq_true rfl) (Nat.le_of_ble_eq_true rfl) (by omega) (s_X0_above (K := K) (N := N) (f := f) (c := owN fm ac) (ac := 0) (owN_lt hfm ha) (own_pos hfm ha (by omega)) ih (by decide) (by omega) hA h04 h05 (by omega)) (fun r1 S1 h1 => ?_)
      obtain ⟨rfl, hA1, hk1, h14, h15⟩ := h1
      refine j_iconst (2) dX0_run_314 rfl ?_
      refine j_imul dX0_run_315 ?_
      refine j_iret dX0_run_316 rfl ?_
      refine ⟨_, rfl, by rw [rv_70 hb], ?_, hk0.tr hk1, h14, h15⟩
      rw [rv_70 hb]
      rw [hb] at hA1
      simpa using hA1
    by_cases h_41_80 : y_41 = 80
    · rw [h_41_80] at e_41 ⊢
      refine j_lookup (276) 317 dX0_run_41 (by decide +kernel) (by decide +kernel) (by decide) ?_
      have hb : ownT (owN fm ac) ac = 80 := (nI_eq (a := ownT (owN fm ac) ac) (b := 80) (by omega) (by decide)).mp e_41.symm
      refine j_ald0 dX0_run_317 ?_
      refine j_ild5 dX0_run_318 ?_
      refine j_iconst (1) dX0_run_320 rfl ?_
      refine j_ild3 dX0_run_321 ?_
      refine j_ild4 dX0_run_322 ?_
      refine j_qiV4 dX0_run_324 kX0_above l0_57 rfl (by decide) rfl (Nat.le_of_ble_eq_true rfl) (Nat.le_of_ble_eq_true rfl) (by omega) (s_X0_above (K := K) (N := N) (f := f) (c := owN fm ac) (ac := 1) (owN_lt hfm ha) (own_pos hfm ha (by omega)) ih (by decide) (by omega) hA h04 h05 (by omega)) (fun r1 S1 h1 => ?_)
      obtain ⟨rfl, hA1, hk1, h14, h15⟩ := h1
      refine j_ald0 dX0_run_327 ?_
      refine j_iconst (2) dX0_run_328 rfl ?_
      refine j_iconst (2) dX0_run_329 rfl ?_
      refine j_ild4 dX0_run_330 ?_
      refine j_qiV3 dX0_run_332 kX0_own l0_53 rfl (by decide) rfl (Nat.le_of_ble_eq_true rfl) (Nat.le_of_ble_eq_true rfl) (by omega) (s_X0_own (K := K) (N := N) (f := f) (ac := 2) hK ih (by decide) (by omega) hA1 h14 h15 (by have := rv_len (K := K) (N := N) f (abv (owN fm ac)) 1 x; rw [List.length_append]; rw [Bd] at hT; omega)) (fun r2 S2 h2 => ?_)
      obtain ⟨rfl, hA2, hk2, h24, h25⟩ := h2
      refine j_iadd dX0_run_335 ?_
      refine j_iret dX0_run_336 rfl ?_
      refine ⟨_, rfl, by rw [rv_80 hb], ?_, (hk0.tr hk1).tr hk2, h24, h25⟩
      rw [rv_80 hb]
      rw [hb] at hA2
      simpa using hA2
    by_cases h_41_81 : y_41 = 81
    · rw [h_41_81] at e_41 ⊢
      refine j_lookup (296) 337 dX0_run_41 (by decide +kernel) (by decide +kernel) (by decide) ?_
      have hb : ownT (owN fm ac) ac = 81 := (nI_eq (a := ownT (owN fm ac) ac) (b := 81) (by omega) (by decide)).mp e_41.symm
      refine j_ald0 dX0_run_337 ?_
      refine j_ild5 dX0_run_338 ?_
      refine j_iconst (0) dX0_run_340 rfl ?_
      refine j_ild3 dX0_run_341 ?_
      refine j_ild4 dX0_run_342 ?_
      refine j_qiV4 dX0_run_344 kX0_above l0_57 rfl (by decide) rfl (Nat.le_of_ble_eq_true rfl) (Nat.le_of_ble_eq_true rfl) (by omega) (s_X0_above (K := K) (N := N) (f := f) (c := owN fm ac) (ac := 0) (owN_lt hfm ha) (own_pos hfm ha (by omega)) ih (by decide) (by omega) hA h04 h05 (by omega)) (fun r1 S1 h1 => ?_)
      obtain ⟨rfl, hA1, hk1, h14, h15⟩ := h1
      refine j_iconst (1) dX0_run_347 rfl ?_
      refine j_isub dX0_run_348 ?_
      refine j_iret dX0_run_349 rfl ?_
      refine ⟨_, rfl, by rw [rv_81 hb], ?_, hk0.tr hk1, h14, h15⟩
      rw [rv_81 hb]
      rw [hb] at hA1
      simpa using hA1
    rcases own_keys hfm ha with q | q | q | q | q | q | q | q | q | q | q | q | q | q
    · exact absurd (by rw [e_41, q]; rfl) h_41_1
    · exact absurd (by rw [e_41, q]; rfl) h_41_2
    · exact absurd (by rw [e_41, q]; rfl) h_41_10
    · exact absurd (by rw [e_41, q]; rfl) h_41_11
    · exact absurd (by rw [e_41, q]; rfl) h_41_20
    · exact absurd (by rw [e_41, q]; rfl) h_41_30
    · exact absurd (by rw [e_41, q]; rfl) h_41_40
    · exact absurd (by rw [e_41, q]; rfl) h_41_41
    · exact absurd (by rw [e_41, q]; rfl) h_41_50
    · exact absurd (by rw [e_41, q]; rfl) h_41_60
    · exact absurd (by rw [e_41, q]; rfl) h_41_61
    · exact absurd (by rw [e_41, q]; rfl) h_41_70
    · exact absurd (by rw [e_41, q]; rfl) h_41_80
    · exact absurd (by rw [e_41, q]; rfl) h_41_81
end Acts
