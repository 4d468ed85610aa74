/-! fields, arrays, statics: one state S for all cells -/
def uI (S : St) (j k : Nat) (v : Int32) : St := (fun j' => if j' = j then upd (S.1 j) k v else S.1 j', S.2)
def uL (S : St) (j k : Nat) (v : Int64) : St := (S.1, fun j' => if j' = j then vp_updL (S.2.1 j) k v else S.2.1 j', S.2.2)
/-- a whole row -/
def sI (S : St) (j : Nat) (f : Nat → Int32) : St := (fun j' => if j' = j then f else S.1 j', S.2)
def sL (S : St) (j : Nat) (f : Nat → Int64) : St := (S.1, fun j' => if j' = j then f else S.2.1 j', S.2.2)
def uR (S : St) (k q : Nat) : St := (S.1, S.2.1, if k = 0 then (q, S.2.2.2) else (S.2.2.1, q))
theorem uI_at (S : St) (j k : Nat) (v : Int32) (j' k' : Nat) : (uI S j k v).1 j' k' = if j' = j ∧ k' = k then v else S.1 j' k' := by
  unfold uI
  by_cases h : j' = j
  · subst h
    by_cases hk : k' = k <;> simp [upd, hk]
  · simp [h]
theorem uI_2 (S : St) (j k : Nat) (v : Int32) : (uI S j k v).2 = S.2 := rfl
theorem uL_1 (S : St) (j k : Nat) (v : Int64) : (uL S j k v).1 = S.1 := rfl
theorem uL_22 (S : St) (j k : Nat) (v : Int64) : (uL S j k v).2.2 = S.2.2 := rfl
theorem uL_at (S : St) (j k : Nat) (v : Int64) (j' k' : Nat) : (uL S j k v).2.1 j' k' = if j' = j ∧ k' = k then v else S.2.1 j' k' := by
  unfold uL
  by_cases h : j' = j
  · subst h
    by_cases hk : k' = k <;> simp [vp_updL, hk]
  · simp [h]
theorem sI_at (S : St) (j : Nat) (f : Nat → Int32) (j' k' : Nat) : (sI S j f).1 j' k' = if j' = j then f k' else S.1 j' k' := by
  unfold sI
  by_cases h : j' = j <;> simp [h]
theorem sI_2 (S : St) (j : Nat) (f : Nat → Int32) : (sI S j f).2 = S.2 := rfl
theorem sL_1 (S : St) (j : Nat) (f : Nat → Int64) : (sL S j f).1 = S.1 := rfl
theorem sL_22 (S : St) (j : Nat) (f : Nat → Int64) : (sL S j f).2.2 = S.2.2 := rfl
theorem sL_at (S : St) (j : Nat) (f : Nat → Int64) (j' k' : Nat) : (sL S j f).2.1 j' k' = if j' = j then f k' else S.2.1 j' k' := by
  unfold sL
  by_cases h : j' = j <;> simp [h]
theorem uR_1 (S : St) (k q : Nat) : (uR S k q).1 = S.1 := rfl
theorem uR_21 (S : St) (k q : Nat) : (uR S k q).2.1 = S.2.1 := rfl
theorem ck_lt {j x n : Nat} (h : ck j = (x, n)) (hx : ¬ x = 9) : ¬ 61 ≤ j := fun q => hx (by
  have e : zz_ck[j]? = none := List.getElem?_eq_none (by show 61 ≤ j; exact q)
  have e2 : ck j = (9, 0) := by
    unfold ck
    rw [List.getD, e]
    rfl
  rw [e2] at h
  exact (congrArg Prod.fst h).symm)
theorem cont_obj {D : DD} {a : Nat → Nat} {S : St} {j ci : Nat} (h : ck j = (0, ci)) : cont D a S j = .inr (ci, (List.range (nf ci)).map (fv a S j)) := by unfold cont; rw [if_neg (ck_lt h (by decide)), h]; rfl
theorem cont_I {D : DD} {a : Nat → Nat} {S : St} {j n : Nat} (h : ck j = (1, n)) : cont D a S j = .inl (D.2 0, n, .inl (S.1 j)) := by unfold cont; rw [if_neg (ck_lt h (by decide)), h]; rfl
theorem cont_L {D : DD} {a : Nat → Nat} {S : St} {j n : Nat} (h : ck j = (4, n)) : cont D a S j = .inl (D.2 3, n, .inr (.inl (S.2.1 j))) := by unfold cont; rw [if_neg (ck_lt h (by decide)), h]; rfl
theorem cont_Q {D : DD} {a : Nat → Nat} {S : St} {j n : Nat} (h : ck j = (5, n)) : cont D a S j = .inl (D.2 4, n, .inr (.inr (.inr (.inr (fun k => some (a (fr S j k))))))) := by unfold cont; rw [if_neg (ck_lt h (by decide)), h]; rfl
theorem cont_QI {D : DD} {a : Nat → Nat} {S : St} {j n : Nat} (h : ck j = (6, n)) : cont D a S j = .inl (D.2 5, n, .inr (.inr (.inr (.inr (fun k => some (a (fr S j k))))))) := by unfold cont; rw [if_neg (ck_lt h (by decide)), h]; rfl
theorem fr_eq {S S' : St} (h : S'.2.2 = S.2.2) (j k : Nat) : fr S' j k = fr S j k := by unfold fr; rw [h]
theorem cont_congr {D : DD} {a : Nat → Nat} {S S' : St} {j : Nat} (h1 : S'.1 j = S.1 j) (h2 : S'.2.1 j = S.2.1 j) (h3 : ∀ k, fr S' j k = fr S j k) : cont D a S' j = cont D a S j := by
  have e : fv a S' j = fv a S j := by funext k; unfold fv; rw [h1, h2, h3]
  unfold cont
  rw [h1, h2, e]
  simp only [h3]
section Heap
variable {a : Nat → Nat} {mi : MI} {d : Nat} {g : GG} {pc : Nat} {L st : List Value} {S : St}
theorem j_get {j ci k idx : Nat} {T : u_T} (hd : decode mi.2.1 pc = .ok (.getfield idx, 3)) (hT : CLk ci T) (hl : FLk mi idx (T k).1 (T k).2.1 (T k).2.2.1) (hj : ck j = (0, ci)) (hj1 : j < 61) (hk : k < nf ci) (kk : J a mi d g (pc + 3) L (fv a S j k :: st) S) : J a mi d g pc L (.ref (a j) :: st) S := by
  intro p l e R s m args below meth c D H locs ls C hl' hP hS
  obtain ⟨Cn, N, hc, hN, hw, -⟩ := hT
  have hts := C.2.2.2.2.2.2.1
  have hg := cells_get (D := D) (a := a) (S := S) (lt_NC hj1)
  rw [cont_obj hj] at hg
  have hv : ((List.range (nf ci)).map (fv a S j))[k]? = some (fv a S j k) := by simp [List.getElem?_map, List.getElem?_range hk]
  rcases hl with hl | ⟨host, hl⟩
  · exact va_get C.1 C.2.1 hts hw C.2.2.2.2.2.1 C.2.2.2.2.2.2.2.2.1 hP j hg hc k (by omega) (hts _ hl) (fun _ h => h) hv hd (kk p l e R s m args below meth c D H locs ls C hl' hP hS)
  · exact va_getN C.1 C.2.1 hts hw C.2.2.2.2.2.1 C.2.2.2.2.2.2.2.2.1 hP j hg hc k (by omega) (va_Nw.use rfl (C.2.2.2.2.2.2.2.2.2.2.2.1 _ hl)) (fun _ h => h) hv hd (kk p l e R s m args below meth c D H locs ls C hl' hP hS)
theorem j_getI {j ci k idx : Nat} {T : u_T} (hd : decode mi.2.1 pc = .ok (.getfield idx, 3)) (hT : CLk ci T) (hl : FLk mi idx (T k).1 (T k).2.1 (T k).2.2.1) (hj : ck j = (0, ci)) (hj1 : j < 61) (hk : k < nf ci) (hf : ft ci k = 0 ∨ ft ci k = 3) (kk : J a mi d g (pc + 3) L (.int (S.1 j k) :: st) S) : J a mi d g pc L (.ref (a j) :: st) S := by
  refine j_get hd hT hl hj hj1 hk ?_
  have e : fv a S j k = .int (S.1 j k) := by
    unfold fv
    rw [show ft (ck j).2 k = ft ci k by rw [hj]]
    rcases hf with h | h <;> (rw [h]; rfl)
  rw [e]
  exact kk
theorem j_getL {j ci k idx : Nat} {T : u_T} (hd : decode mi.2.1 pc = .ok (.getfield idx, 3)) (hT : CLk ci T) (hl : FLk mi idx (T k).1 (T k).2.1 (T k).2.2.1) (hj : ck j = (0, ci)) (hj1 : j < 61) (hk : k < nf ci) (hf : ft ci k = 1) (kk : J a mi d g (pc + 3) L (.long (S.2.1 j k) :: st) S) : J a mi d g pc L (.ref (a j) :: st) S := by
  refine j_get hd hT hl hj hj1 hk ?_
  have e : fv a S j k = .long (S.2.1 j k) := by
    unfold fv
    rw [show ft (ck j).2 k = ft ci k by rw [hj], hf]
    rfl
  rw [e]
  exact kk
theorem j_getR {j ci k idx : Nat} {T : u_T} (q : Nat) (hd : decode mi.2.1 pc = .ok (.getfield idx, 3)) (hT : CLk ci T) (hl : FLk mi idx (T k).1 (T k).2.1 (T k).2.2.1) (hj : ck j = (0, ci)) (hj1 : j < 61) (hk : k < nf ci) (hf : ft ci k = 2) (hq : fr S j k = q) (kk : J a mi d g (pc + 3) L (.ref (a q) :: st) S) : J a mi d g pc L (.ref (a j) :: st) S := by
  refine j_get hd hT hl hj hj1 hk ?_
  have e : fv a S j k = .ref (a q) := by
    unfold fv
    rw [show ft (ck j).2 k = ft ci k by rw [hj], hf, hq]
    rfl
  rw [e]
  exact kk
theorem range_set {α : Type} {f f' : Nat → α} {n k : Nat} {v : α} (h : ∀ i, i ≠ k → f' i = f i) (hv : f' k = v) : ((List.range n).map f).set k v = (List.range n).map f' := by
  apply List.ext_getElem?
  intro i
  by_cases hi : i < n
  · by_cases e : k = i
    · subst e
      rw [List.getElem?_set_self (by simpa using hi)]
      simp [List.getElem?_map, List.getElem?_range hi, hv]
    · rw [List.getElem?_set_ne e]
      simp [List.getElem?_map, List.getElem?_range hi, h i (fun q => e q.symm)]
  · rw [List.getElem?_eq_none (by simpa using hi), List.getElem?_eq_none (by simpa using hi)]
/-- a field becomes v: the state becomes S' -/
theorem j_put {j ci k idx : Nat} {T : u_T} {v : Value} {S' : St} (hd : decode mi.2.1 pc = .ok (.putfield idx, 3)) (hT : CLk ci T) (hl : FLk mi idx (T k).1 (T k).2.1 (T k).2.2.1) (hj : ck j = (0, ci)) (hj1 : j < 61) (hk : k < nf ci) (hfin : (T k).2.2.2 = false) {ty : FieldType} (hty : parseFieldDescriptor (T k).2.2.1 = some ty) (hn : narrow ty v = v) (hfit : fits ty v = true)
    (h1 : ∀ (D : DD) (i : Nat), i ≠ j → cont D a S' i = cont D a S i) (h2 : ∀ i, i ≠ k → fv a S' j i = fv a S j i) (h3 : fv a S' j k = v) (kk : J a mi d g (pc + 3) L st S') : J a mi d g pc L (v :: .ref (a j) :: st) S := by
  intro p l e R s m args below meth c D H locs ls C hl' hP hS
  obtain ⟨Cn, N, hc, hN, hw, ⟨tys, ht, -⟩, hnm⟩ := hT
  have hts := C.2.2.2.2.2.2.1
  have hg := cells_get (D := D) (a := a) (S := S) (lt_NC hj1)
  rw [cont_obj hj] at hg
  have hset : (cells D a S).set j (a j, .inr (ci, ((List.range (nf ci)).map (fv a S j)).set k v)) = cells D a S' := by
    refine cells_set (fun i hi => h1 D i hi) ?_
    rw [cont_obj hj, range_set h2 h3]
  have hlen : k < ((List.range (nf ci)).map (fv a S j)).length := by simpa using hk
  rcases hl with hl | ⟨host, hl⟩
  · refine va_put C.1 C.2.1 hts hw tys ht hnm C.2.2.2.2.2.1 C.2.2.2.2.2.2.2.2.1 hP (cells_D C.2.2.2.2.2.2.2.2.2.1) hS j hg hc k (by omega) (hts _ hl) (fun _ h => h) hfin hty hn hfit hlen hd (fun H1 locs1 hP1 hD1 hS1 => ?_)
    rw [hset] at hP1
    exact kk p l e R s m args below meth c D H1 locs1 ls C hl' hP1 hS1
  · refine va_putN C.1 C.2.1 hts hw tys ht hnm C.2.2.2.2.2.1 C.2.2.2.2.2.2.2.2.1 hP (cells_D C.2.2.2.2.2.2.2.2.2.1) hS j hg hc k (by omega) (va_Nw.use rfl (C.2.2.2.2.2.2.2.2.2.2.2.1 _ hl)) (fun _ h => h) hfin hty hn hfit hlen hd (fun H1 locs1 hP1 hD1 hS1 => ?_)
    rw [hset] at hP1
    exact kk p l e R s m args below meth c D H1 locs1 ls C hl' hP1 hS1
theorem uI_cont {D : DD} {j k i : Nat} {v : Int32} (h : i ≠ j) : cont D a (uI S j k v) i = cont D a S i := cont_congr (by unfold uI; simp [h]) rfl (fun _ => rfl)
theorem uL_cont {D : DD} {j k i : Nat} {v : Int64} (h : i ≠ j) : cont D a (uL S j k v) i = cont D a S i := cont_congr rfl (by unfold uL; simp [h]) (fun _ => rfl)
theorem sI_cont {D : DD} {j i : Nat} {f : Nat → Int32} (h : i ≠ j) : cont D a (sI S j f) i = cont D a S i := cont_congr (by unfold sI; simp [h]) rfl (fun _ => rfl)
theorem sL_cont {D : DD} {j i : Nat} {f : Nat → Int64} (h : i ≠ j) : cont D a (sL S j f) i = cont D a S i := cont_congr rfl (by unfold sL; simp [h]) (fun _ => rfl)
theorem j_putI {j ci k idx : Nat} {T : u_T} {v : Int32} (hd : decode mi.2.1 pc = .ok (.putfield idx, 3)) (hT : CLk ci T) (hl : FLk mi idx (T k).1 (T k).2.1 (T k).2.2.1) (hj : ck j = (0, ci)) (hj1 : j < 61) (hk : k < nf ci) (hf : ft ci k = 0) (hfin : (T k).2.2.2 = false) (kk : J a mi d g (pc + 3) L st (uI S j k v)) : J a mi d g pc L (.int v :: .ref (a j) :: st) S := by
  obtain ⟨Cn, N, hc, hN, hw, ⟨tys, ht, hty⟩, hnm⟩ := hT
  have e1 := ht k (by omega)
  have e2 := (hty k (by omega)).1 hf
  rw [e2] at e1
  refine j_put hd ⟨Cn, N, hc, hN, hw, ⟨tys, ht, hty⟩, hnm⟩ hl hj hj1 hk hfin e1 rfl rfl (fun D i hi => uI_cont hi) (fun i hi => ?_) ?_ kk
  · unfold fv
    rw [uI_at, uI_2]
    simp only [hi, and_false, if_false]
    rfl
  · unfold fv
    rw [show ft (ck j).2 k = ft ci k by rw [hj], hf, uI_at]
    simp
theorem j_putZ {j ci k idx : Nat} {T : u_T} {v : Int32} (hv : v = 0 ∨ v = 1) (hd : decode mi.2.1 pc = .ok (.putfield idx, 3)) (hT : CLk ci T) (hl : FLk mi idx (T k).1 (T k).2.1 (T k).2.2.1) (hj : ck j = (0, ci)) (hj1 : j < 61) (hk : k < nf ci) (hf : ft ci k = 3) (hfin : (T k).2.2.2 = false) (kk : J a mi d g (pc + 3) L st (uI S j k v)) : J a mi d g pc L (.int v :: .ref (a j) :: st) S := by
  obtain ⟨Cn, N, hc, hN, hw, ⟨tys, ht, hty⟩, hnm⟩ := hT
  have e1 := ht k (by omega)
  have e2 := (hty k (by omega)).2.2 hf
  rw [e2] at e1
  refine j_put hd ⟨Cn, N, hc, hN, hw, ⟨tys, ht, hty⟩, hnm⟩ hl hj hj1 hk hfin e1 (by rcases hv with rfl | rfl <;> rfl) (by rcases hv with rfl | rfl <;> rfl) (fun D i hi => uI_cont hi) (fun i hi => ?_) ?_ kk
  · unfold fv
    rw [uI_at, uI_2]
    simp only [hi, and_false, if_false]
    rfl
  · unfold fv
    rw [show ft (ck j).2 k = ft ci k by rw [hj], hf, uI_at]
    simp
theorem j_putL {j ci k idx : Nat} {T : u_T} {v : Int64} (hd : decode mi.2.1 pc = .ok (.putfield idx, 3)) (hT : CLk ci T) (hl : FLk mi idx (T k).1 (T k).2.1 (T k).2.2.1) (hj : ck j = (0, ci)) (hj1 : j < 61) (hk : k < nf ci) (hf : ft ci k = 1) (hfin : (T k).2.2.2 = false) (kk : J a mi d g (pc + 3) L st (uL S j k v)) : J a mi d g pc L (.long v :: .ref (a j) :: st) S := by
  obtain ⟨Cn, N, hc, hN, hw, ⟨tys, ht, hty⟩, hnm⟩ := hT
  have e1 := ht k (by omega)
  have e2 := (hty k (by omega)).2.1 hf
  rw [e2] at e1
  refine j_put hd ⟨Cn, N, hc, hN, hw, ⟨tys, ht, hty⟩, hnm⟩ hl hj hj1 hk hfin e1 rfl rfl (fun D i hi => uL_cont hi) (fun i hi => ?_) ?_ kk
  · unfold fv
    rw [uL_at, uL_1]
    simp only [hi, and_false, if_false]
    rfl
  · unfold fv
    rw [show ft (ck j).2 k = ft ci k by rw [hj], hf, uL_at]
    simp
/-- Law.code (k = 0), Law.nextCode (k = 2) -/
theorem j_putR {k idx q : Nat} {T : u_T} (hd : decode mi.2.1 pc = .ok (.putfield idx, 3)) (hT : CLk 2 T) (hl : FLk mi idx (T k).1 (T k).2.1 (T k).2.2.1) (hk : k = 0 ∨ k = 2) (hfin : (T k).2.2.2 = false) (e1 : parseFieldDescriptor (T k).2.2.1 = some (.array .int)) (kk : J a mi d g (pc + 3) L st (uR S k q)) : J a mi d g pc L (.ref (a q) :: .ref (a 2) :: st) S := by
  obtain ⟨Cn, N, hc, hN, hw, ⟨tys, ht, hty⟩, hnm⟩ := hT
  have hN2 : N = 15 := hN.symm
  refine j_put hd ⟨Cn, N, hc, hN, hw, ⟨tys, ht, hty⟩, hnm⟩ hl (show ck 2 = (0, 2) from rfl) (by decide) (by rw [hN]; omega) hfin e1 rfl (by rfl) (fun D i hi => ?_) (fun i hi => ?_) ?_ kk
  · exact cont_congr rfl rfl (fun k' => by unfold fr; simp [hi])
  · have e : fr (uR S k q) 2 i = fr S 2 i := by
      unfold fr uR
      rcases hk with rfl | rfl
      · simp [hi]
      · by_cases h0 : i = 0 <;> simp [hi, h0]
    unfold fv
    rw [e]
    rfl
  · rcases hk with rfl | rfl <;> rfl
theorem j_iald {j n len : Nat} {x : Int32} (hd : decode mi.2.1 pc = .ok (.iaload, 1)) (hj : ck j = (1, len)) (hj1 : j < 61) (hx : x = nI n) (hn : n < len) (hlen : len < 2 ^ 31) (kk : J a mi d g (pc + 1) L (.int (S.1 j n) :: st) S) : J a mi d g pc L (.int x :: .ref (a j) :: st) S := by
  intro p l e R s m args below meth c D H locs ls C hl' hP hS
  have hg := cells_get (D := D) (a := a) (S := S) (lt_NC hj1)
  rw [cont_I hj] at hg
  subst hx
  refine va_iald C.1 C.2.1 C.2.2.2.2.2.2.2.2.1 hP j 0 hg rfl (vp_in_nI hn hlen) hd ?_
  rw [nI_clamp (by omega)]
  exact kk p l e R s m args below meth c D H locs ls C hl' hP hS
theorem j_lald {j n len : Nat} {x : Int32} (hd : decode mi.2.1 pc = .ok (.laload, 1)) (hj : ck j = (4, len)) (hj1 : j < 61) (hx : x = nI n) (hn : n < len) (hlen : len < 2 ^ 31) (kk : J a mi d g (pc + 1) L (.long (S.2.1 j n) :: st) S) : J a mi d g pc L (.int x :: .ref (a j) :: st) S := by
  intro p l e R s m args below meth c D H locs ls C hl' hP hS
  have hg := cells_get (D := D) (a := a) (S := S) (lt_NC hj1)
  rw [cont_L hj] at hg
  subst hx
  refine va_lald C.1 C.2.1 C.2.2.2.2.2.2.2.2.1 hP j 3 hg rfl (vp_in_nI hn hlen) hd ?_
  rw [nI_clamp (by omega)]
  exact kk p l e R s m args below meth c D H locs ls C hl' hP hS
theorem j_aald {j n len : Nat} {x : Int32} (q : Nat) (hd : decode mi.2.1 pc = .ok (.aaload, 1)) (hj : ck j = (5, len) ∨ ck j = (6, len)) (hj1 : j < 61) (hx : x = nI n) (hn : n < len) (hlen : len < 2 ^ 31) (hq : fr S j n = q) (kk : J a mi d g (pc + 1) L (.ref (a q) :: st) S) : J a mi d g pc L (.int x :: .ref (a j) :: st) S := by
  intro p l e R s m args below meth c D H locs ls C hl' hP hS
  have hg := cells_get (D := D) (a := a) (S := S) (lt_NC hj1)
  subst hx
  subst hq
  have hin := vp_in_nI hn hlen
  have hcl : (nI n).toNatClampNeg = n := nI_clamp (by omega)
  rcases hj with hj | hj
  · rw [cont_Q hj] at hg
    refine va_aldq C.1 C.2.1 C.2.2.2.2.2.2.2.2.1 hP j 4 hg rfl hin hd ?_
    rw [hcl]
    exact kk p l e R s m args below meth c D H locs ls C hl' hP hS
  · rw [cont_QI hj] at hg
    have hlt : (nI n).toNatClampNeg < len := by rw [hcl]; exact hn
    refine W.aald (v := va_rf (some (a (fr S j (nI n).toNatClampNeg)))) (ty := .array .int) C.1 C.2.1 (hP j _ hg) ((C.2.2.2.2.2.2.2.2.1.2 5 _ rfl).1 len (fun k => va_rf (some (a (fr S j k))))) rfl (fun q => by cases q) (by show ¬ (_ < 0 ∨ (arrV _ _ _).slots.size ≤ _); rw [arrV_size]; exact hin) (by show (arrV _ _ _).slots[_]? = _; rw [arrV_read _ _ hlt]) rfl rfl hd ?_
    rw [hcl]
    exact kk p l e R s m args below meth c D H locs ls C hl' hP hS
theorem j_iast {j n len : Nat} {x v : Int32} (hd : decode mi.2.1 pc = .ok (.iastore, 1)) (hj : ck j = (1, len)) (hj1 : j < 61) (hx : x = nI n) (hn : n < len) (hlen : len < 2 ^ 31) (kk : J a mi d g (pc + 1) L st (uI S j n v)) : J a mi d g pc L (.int v :: .int x :: .ref (a j) :: st) S := by
  intro p l e R s m args below meth c D H locs ls C hl' hP hS
  have hg := cells_get (D := D) (a := a) (S := S) (lt_NC hj1)
  rw [cont_I hj] at hg
  subst hx
  refine va_iast C.1 C.2.1 C.2.2.2.2.2.2.2.2.1 hP (cells_D C.2.2.2.2.2.2.2.2.2.1) hS j 0 hg rfl (vp_in_nI hn hlen) hd (fun H1 locs1 hP1 _ hS1 => ?_)
  rw [nI_clamp (by omega), cells_set (S' := uI S j n v) (fun i hi => uI_cont hi) (by rw [cont_I hj]; unfold uI; simp)] at hP1
  exact kk p l e R s m args below meth c D H1 locs1 ls C hl' hP1 hS1
theorem j_last {j n len : Nat} {x : Int32} {v : Int64} (hd : decode mi.2.1 pc = .ok (.lastore, 1)) (hj : ck j = (4, len)) (hj1 : j < 61) (hx : x = nI n) (hn : n < len) (hlen : len < 2 ^ 31) (kk : J a mi d g (pc + 1) L st (uL S j n v)) : J a mi d g pc L (.long v :: .int x :: .ref (a j) :: st) S := by
  intro p l e R s m args below meth c D H locs ls C hl' hP hS
  have hg := cells_get (D := D) (a := a) (S := S) (lt_NC hj1)
  rw [cont_L hj] at hg
  subst hx
  refine va_last C.1 C.2.1 C.2.2.2.2.2.2.2.2.1 hP (cells_D C.2.2.2.2.2.2.2.2.2.1) hS j 3 hg rfl (vp_in_nI hn hlen) hd (fun H1 locs1 hP1 _ hS1 => ?_)
  rw [nI_clamp (by omega), cells_set (S' := uL S j n v) (fun i hi => uL_cont hi) (by rw [cont_L hj]; unfold uL; simp)] at hP1
  exact kk p l e R s m args below meth c D H1 locs1 ls C hl' hP1 hS1
theorem j_gets {idx i : Nat} {C n : String} {V : List Int32} (hd : decode mi.2.1 pc = .ok (.getstatic idx, 3)) (hz : zz_st[i]? = some (C, n, V)) (hl : FLk mi idx C n "[I") (kk : J a mi d g (pc + 3) L (.ref (a (200 + i)) :: st) S) : J a mi d g pc L st S := by
  intro p l e R s m args below meth c D H locs ls C hl' hP hS
  have hZ := (C.2.2.2.2.2.2.2.2.2.2.1 i _ _ _ hz).1
  rcases hl with hl | ⟨host, hl⟩
  · exact va_gets C.1 C.2.1 hZ hS C.2.2.2.2.2.1 (C.2.2.2.2.2.2.1 _ hl) (fun _ h => h) hd (kk p l e R s m args below meth c D H locs ls C hl' hP hS)
  · exact va_getsN C.1 C.2.1 hZ hS C.2.2.2.2.2.1 (va_Nw.use rfl (C.2.2.2.2.2.2.2.2.2.2.2.1 _ hl)) (fun _ h => h) hd (kk p l e R s m args below meth c D H locs ls C hl' hP hS)
theorem j_tald {i k : Nat} {C n : String} {V : List Int32} {x : Int32} (hd : decode mi.2.1 pc = .ok (.iaload, 1)) (hz : zz_st[i]? = some (C, n, V)) (hx : x = nI k) (hk : k < V.length) (hlen : V.length < 2 ^ 31) (kk : J a mi d g (pc + 1) L (.int (V.getD k 0) :: st) S) : J a mi d g pc L (.int x :: .ref (a (200 + i)) :: st) S := by
  intro p l e R s m args below meth c D H locs ls C hl' hP hS
  have hT := (C.2.2.2.2.2.2.2.2.2.2.1 i _ _ _ hz).2
  subst hx
  exact va_ti C.1 C.2.1 hT hS (vp_in_nI hk hlen) (v := .int (V.getD k 0)) (by rw [nI_clamp (by omega)]) hd (kk p l e R s m args below meth c D H locs ls C hl' hP hS)
theorem j_alen {j n kd : Nat} {v : Int32} (hd : decode mi.2.1 pc = .ok (.arraylength, 1)) (hj : ck j = (1, n)) (hj1 : j < 61) (hv : Int32.ofNat n = v) (kk : J a mi d g (pc + 1) L (.int v :: st) S) : J a mi d g pc L (.ref (a j) :: st) S := by
  intro p l e R s m args below meth c D H locs ls C hl' hP hS
  have hg := cells_get (D := D) (a := a) (S := S) (lt_NC hj1)
  rw [cont_I hj] at hg
  exact va_alen C.1 C.2.1 C.2.2.2.2.2.2.2.2.1 hP j 0 hg rfl hv hd (kk p l e R s m args below meth c D H locs ls C hl' hP hS)
theorem cat_le (l : List Value) : (l.map fun v => v.category).sum ≤ 2 * l.length := by
  induction l with
  | nil => simp
  | cons v l ih => rcases lv_cat v with h | h <;> simp [h] <;> omega
theorem j_min {idx : Nat} {x y : Int32} (hd : decode mi.2.1 pc = .ok (.invokestatic idx, 3)) (hl : Cond.methodLink mi.1.cls idx Lib.Math.min.name ∈ TT) (h1 : Cond.static Lib.Math.min.name ∈ TT) (h2 : Cond.initialized "java/lang/Math" ∈ TT) (h3 : Cond.code Lib.Math.min.name Lib.Math.min.code 2 (some .int) ∈ TT) (hst : st.length ≤ 4) (hdd : 1 ≤ d) (kk : J a mi d g (pc + 3) L (.int (if y < x then y else x) :: st) S) : J a mi d g pc L (.int y :: .int x :: st) S := by
  intro p l e R s m args below meth c D H locs ls C hl' hP hS
  have hts := C.2.2.2.2.2.2.1
  have hr := C.2.2.2.2.2.2.2.1
  have := cat_le st
  exact va_mmin C.1 C.2.1 (by rw [C.2.2.1, hl'.1]) C.2.2.2.2.2.1 (hts _ hl) (hts _ h1) (hts _ h2) (hts _ h3) (by omega) (by omega) hr.2.2.1 hr.2.2.2 hd (kk p l e R s m args below meth c D H locs ls C hl' hP hS)
theorem j_max {idx : Nat} {x y : Int32} (hd : decode mi.2.1 pc = .ok (.invokestatic idx, 3)) (hl : Cond.methodLink mi.1.cls idx Lib.Math.max.name ∈ TT) (h1 : Cond.static Lib.Math.max.name ∈ TT) (h2 : Cond.initialized "java/lang/Math" ∈ TT) (h3 : Cond.code Lib.Math.max.name Lib.Math.max.code 2 (some .int) ∈ TT) (hst : st.length ≤ 4) (hdd : 1 ≤ d) (kk : J a mi d g (pc + 3) L (.int (if x < y then y else x) :: st) S) : J a mi d g pc L (.int y :: .int x :: st) S := by
  intro p l e R s m args below meth c D H locs ls C hl' hP hS
  have hts := C.2.2.2.2.2.2.1
  have hr := C.2.2.2.2.2.2.2.1
  have := cat_le st
  exact va_mmax C.1 C.2.1 (by rw [C.2.2.1, hl'.1]) C.2.2.2.2.2.1 (hts _ hl) (hts _ h1) (hts _ h2) (hts _ h3) (by omega) (by omega) hr.2.2.1 hr.2.2.2 hd (kk p l e R s m args below meth c D H locs ls C hl' hP hS)
theorem j_copyi {idx j0 j1 n0 n1 sp dp n : Nat} {x y z : Int32} (hd : decode mi.2.1 pc = .ok (.invokestatic idx, 3)) (hl : Cond.methodLink mi.1.cls idx arraycopyName ∈ TT) (h1 : Cond.native arraycopyName ∈ TT) (h2 : Cond.static arraycopyName ∈ TT) (h3 : Cond.initialized "java/lang/System" ∈ TT) (hj0 : ck j0 = (1, n0)) (hj1 : ck j1 = (1, n1)) (hb0 : j0 < 61) (hb1 : j1 < 61) (hx : x = nI sp) (hy : y = nI dp) (hz : z = nI n) (hsp : sp + n ≤ n0) (hdp : dp + n ≤ n1) (hn0 : n0 < 2 ^ 31) (hn1 : n1 < 2 ^ 31) (hst : st.length ≤ 4) (hdd : 1 ≤ d) (kk : J a mi d g (pc + 3) L st (sI S j1 (va_cpy (S.1 j0) (S.1 j1) sp dp n))) : J a mi d g pc L (.int z :: .int y :: .ref (a j1) :: .int x :: .ref (a j0) :: st) S := by
  intro p l e R s m args below meth c D H locs ls C hl' hP hS
  have hts := C.2.2.2.2.2.2.1
  have hr := C.2.2.2.2.2.2.2.1
  have := cat_le st
  have hg0 := cells_get (D := D) (a := a) (S := S) (lt_NC hb0)
  rw [cont_I hj0] at hg0
  have hg1 := cells_get (D := D) (a := a) (S := S) (lt_NC hb1)
  rw [cont_I hj1] at hg1
  subst hx
  subst hy
  subst hz
  have c1 : (nI sp).toNatClampNeg = sp := nI_clamp (by omega)
  have c2 : (nI dp).toNatClampNeg = dp := nI_clamp (by omega)
  have c3 : (nI n).toNatClampNeg = n := nI_clamp (by omega)
  have hw : nativeFrameWords "java/lang/System" "arraycopy" 5 = 7 := by decide +kernel
  refine va_copyi C.1 C.2.1 (by rw [C.2.2.1, hl'.1]) C.2.2.2.2.2.1 (hts _ hl) (hts _ h1) (hts _ h2) (hts _ h3) C.2.2.2.2.2.2.2.2.1 hP (cells_D C.2.2.2.2.2.2.2.2.2.1) hS j0 j1 0 0 hg0 hg1 rfl rfl rfl (nI_pos (by omega)) (nI_pos (by omega)) (nI_pos (by omega)) (by rw [c1, c3]; exact hsp) (by rw [c2, c3]; exact hdp) (fun _ _ => rfl) (by omega) (by rw [hw]; omega) hd (fun H1 locs1 hP1 _ hS1 => ?_)
  rw [c1, c2, c3, cells_set (S' := sI S j1 (va_cpy (S.1 j0) (S.1 j1) sp dp n)) (fun i hi => sI_cont hi) (by rw [cont_I hj1]; unfold sI; simp)] at hP1
  exact kk p l e R s m args below meth c D H1 locs1 ls C hl' hP1 hS1
theorem j_copyl {idx j0 j1 n0 n1 sp dp n : Nat} {x y z : Int32} (hd : decode mi.2.1 pc = .ok (.invokestatic idx, 3)) (hl : Cond.methodLink mi.1.cls idx arraycopyName ∈ TT) (h1 : Cond.native arraycopyName ∈ TT) (h2 : Cond.static arraycopyName ∈ TT) (h3 : Cond.initialized "java/lang/System" ∈ TT) (hj0 : ck j0 = (4, n0)) (hj1 : ck j1 = (4, n1)) (hb0 : j0 < 61) (hb1 : j1 < 61) (hx : x = nI sp) (hy : y = nI dp) (hz : z = nI n) (hsp : sp + n ≤ n0) (hdp : dp + n ≤ n1) (hn0 : n0 < 2 ^ 31) (hn1 : n1 < 2 ^ 31) (hst : st.length ≤ 4) (hdd : 1 ≤ d) (kk : J a mi d g (pc + 3) L st (sL S j1 (va_cpy (S.2.1 j0) (S.2.1 j1) sp dp n))) : J a mi d g pc L (.int z :: .int y :: .ref (a j1) :: .int x :: .ref (a j0) :: st) S := by
  intro p l e R s m args below meth c D H locs ls C hl' hP hS
  have hts := C.2.2.2.2.2.2.1
  have hr := C.2.2.2.2.2.2.2.1
  have := cat_le st
  have hg0 := cells_get (D := D) (a := a) (S := S) (lt_NC hb0)
  rw [cont_L hj0] at hg0
  have hg1 := cells_get (D := D) (a := a) (S := S) (lt_NC hb1)
  rw [cont_L hj1] at hg1
  subst hx
  subst hy
  subst hz
  have c1 : (nI sp).toNatClampNeg = sp := nI_clamp (by omega)
  have c2 : (nI dp).toNatClampNeg = dp := nI_clamp (by omega)
  have c3 : (nI n).toNatClampNeg = n := nI_clamp (by omega)
  have hw : nativeFrameWords "java/lang/System" "arraycopy" 5 = 7 := by decide +kernel
  refine va_copyl C.1 C.2.1 (by rw [C.2.2.1, hl'.1]) C.2.2.2.2.2.1 (hts _ hl) (hts _ h1) (hts _ h2) (hts _ h3) C.2.2.2.2.2.2.2.2.1 hP (cells_D C.2.2.2.2.2.2.2.2.2.1) hS j0 j1 3 3 hg0 hg1 rfl rfl rfl (nI_pos (by omega)) (nI_pos (by omega)) (nI_pos (by omega)) (by rw [c1, c3]; exact hsp) (by rw [c2, c3]; exact hdp) (fun _ _ => rfl) (by omega) (by rw [hw]; omega) hd (fun H1 locs1 hP1 _ hS1 => ?_)
  rw [c1, c2, c3, cells_set (S' := sL S j1 (va_cpy (S.2.1 j0) (S.2.1 j1) sp dp n)) (fun i hi => sL_cont hi) (by rw [cont_L hj1]; unfold sL; simp)] at hP1
  exact kk p l e R s m args below meth c D H1 locs1 ls C hl' hP1 hS1
end Heap
