/-! the law's script and its own row of ints, behind the class's cells -/
theorem arrX : Cond.arrayClass .int ∈ TT := TT_at 69 (by decide +kernel) rfl
def aX (a : Nat → Nat) (q n : Nat) : Nat → Nat := fun k => if k = 300 then 1 else if k = 61 then q else if k = 311 then n else a k
theorem aX_lt {a : Nat → Nat} {q n j : Nat} (h : j < 61) : aX a q n j = a j := by
  unfold aX
  rw [if_neg (by omega), if_neg (by omega), if_neg (by omega)]
theorem aX_st {a : Nat → Nat} {q n i : Nat} (h : i < 50) : aX a q n (200 + i) = a (200 + i) := by
  unfold aX
  rw [if_neg (by omega), if_neg (by omega), if_neg (by omega)]
theorem aX_NC {a : Nat → Nat} {q n : Nat} : NC (aX a q n) = 62 := rfl
theorem aX_61 {a : Nat → Nat} {q n : Nat} : aX a q n 61 = q := rfl
theorem aX_xl {a : Nat → Nat} {q n : Nat} : xl (aX a q n) 61 = n := rfl
theorem NC_0 {a : Nat → Nat} (h0 : a 300 = 0) : NC a = 61 := by unfold NC; rw [h0]
theorem AA_X {a : Nat → Nat} {q n x : Nat} (h : AA (aX a q n) x) : AA a x ∨ x = q := by
  obtain ⟨j, hj, e⟩ := h
  rw [aX_NC] at hj
  by_cases h1 : j < 61
  · exact Or.inl ⟨j, lt_NC h1, by rw [e, aX_lt h1]⟩
  · have : j = 61 := by omega
    subst this
    exact Or.inr e
theorem AA_Xl {a : Nat → Nat} {q n x : Nat} (h0 : a 300 = 0) (h : AA a x) : AA (aX a q n) x := by
  obtain ⟨j, hj, e⟩ := h
  rw [NC_0 h0] at hj
  exact ⟨j, by rw [aX_NC]; omega, by rw [e, aX_lt hj]⟩
theorem rt_all : ∀ l ∈ zz_rt, ∀ x ∈ l, x < 61 := by decide
theorem rt_lt (j k : Nat) : rt j k < 61 := by
  unfold rt
  rw [List.getD, List.getD]
  cases h1 : zz_rt[j]? with
  | none => simp
  | some l =>
    have hl := List.mem_of_getElem? h1
    cases h2 : l[k]? with
    | none => simp [h2]
    | some x => simpa [h2] using rt_all l hl x (List.mem_of_getElem? h2)
theorem fr_lt {S : St} (hc : S.2.2.1 < 61 ∧ S.2.2.2 < 61) (j k : Nat) : fr S j k < 61 := by
  unfold fr
  split
  · exact hc.1
  · split
    · exact hc.2
    · exact rt_lt j k
theorem cont_X {D : DD} {a : Nat → Nat} {q n : Nat} {S : St} (hc : S.2.2.1 < 61 ∧ S.2.2.2 < 61) {j : Nat} (hj : j < 61) : cont D (aX a q n) S j = cont D a S j := by
  have e1 : fv (aX a q n) S j = fv a S j := by
    funext k
    unfold fv
    rw [aX_lt (fr_lt hc j k)]
  have e2 : (fun k => some (aX a q n (fr S j k))) = fun k => some (a (fr S j k)) := by
    funext k
    rw [aX_lt (fr_lt hc j k)]
  unfold cont
  rw [if_neg (by omega), if_neg (by omega), e1, e2]
theorem cont_61 {D : DD} {a : Nat → Nat} {S : St} : cont D a S 61 = .inl (D.2 0, xl a 61, .inl (S.1 61)) := by
  unfold cont
  rw [if_pos (by decide)]
theorem cells_X {D : DD} {a : Nat → Nat} {q n : Nat} {S : St} (h0 : a 300 = 0) (hc : S.2.2.1 < 61 ∧ S.2.2.2 < 61) : cells D (aX a q n) S = cells D a S ++ [(q, .inl (D.2 0, n, .inl (S.1 61)))] := by
  unfold cells
  rw [aX_NC, NC_0 h0, List.range_succ (n := 61), List.map_append]
  congr 1
  · refine List.map_congr_left (fun j hj => ?_)
    have := List.mem_range.mp hj
    rw [aX_lt this, cont_X hc this]
theorem InjA_X {a : Nat → Nat} {q n : Nat} (h0 : a 300 = 0) (h : InjA a) (hq : ∀ j, j < 61 → a j ≠ q) : InjA (aX a q n) := by
  intro i j hi hj e
  rw [aX_NC] at hi hj
  by_cases h1 : i < 61
  · by_cases h2 : j < 61
    · rw [aX_lt h1, aX_lt h2] at e
      exact h i j (lt_NC h1) (lt_NC h2) e
    · have : j = 61 := by omega
      subst this
      rw [aX_lt h1, aX_61] at e
      exact absurd e (hq i h1)
  · have : i = 61 := by omega
    subst this
    by_cases h2 : j < 61
    · rw [aX_lt h2, aX_61] at e
      exact absurd e.symm (hq j h2)
    · omega
theorem Stat_X {a : Nat → Nat} {q n : Nat} {s : State} (h : Stat a s s.heap) (hq : s.heap.size ≤ q) : Stat (aX a q n) s s.heap := by
  intro i C nm Lx hz
  have hi : i < 50 := by
    have := (List.getElem?_eq_some_iff.mp hz).1
    have e : zz_st.length = 4 := rfl
    omega
  obtain ⟨⟨cf, kf, fi, f, ad, cell, z1, z2, z3, z4, z5, z6, z7, z8⟩, ⟨cell2, t1, t2, t3, t4, t5, t6, t7⟩⟩ := h i C nm Lx hz
  rw [aX_st hi]
  have b1 : ad < s.heap.size := (Array.getElem?_eq_some_iff.mp z5).1
  have b2 : a (200 + i) < s.heap.size := (Array.getElem?_eq_some_iff.mp t1).1
  exact ⟨⟨cf, kf, fi, f, ad, cell, z1, z2, z3, z4, z5, z6, z7, fun y => (AA_X y).elim z8 (fun e => by omega)⟩, ⟨cell2, t1, t2, t3, t4, t5, t6, fun y => (AA_X y).elim t7 (fun e => by omega)⟩⟩
/-- the script lies outside -/
def EX (a : Nat → Nat) (b Ls : Nat) (xs : Nat → Int32) : State → Prop := fun s => va_X b Ls xs s s.heap ∧ b < s.heap.size ∧ ¬ AA a b
def gx (a : Nat → Nat) (b Ls : Nat) (xs : Nat → Int32) (Q : Option Value → St → Prop) : GG := (0, 0, (fun _ s => EX a b Ls xs s), fun below args s D => MQ below (PQ D a Q) args s 0 0 (AA a))
/-- of a method that makes mc rows of ms ints -/
def gN (a : Nat → Nat) (b Ls : Nat) (xs : Nat → Int32) (mc ms : Nat) (Qc : DD → Array Value → State → Outcome → State → Prop) : GG := (0, 0, (fun R s => EX a b Ls xs s ∧ mc ≤ R.cells ∧ ms ≤ R.slots), fun below args s D => MQ below (Qc D) args s mc ms (AA a))
abbrev HE (g : GG) (a : Nat → Nat) (b Ls : Nat) (xs : Nat → Int32) : Prop := ∀ R s, g.2.2.1 R s → EX a b Ls xs s
theorem EX_X {a : Nat → Nat} {b Ls q n : Nat} {xs : Nat → Int32} {s : State} (h : EX a b Ls xs s) (hq : s.heap.size ≤ q) : EX (aX a q n) b Ls xs s := ⟨h.1, h.2.1, fun z => (AA_X z).elim h.2.2 (fun e => by have := h.2.1; omega)⟩
theorem W_filter {p : Program} {l : Launch} {e : Env} {R : Room} {s : State} {m : MethodId} {args : Array Value} {below : List Frame} {meth : Method} {c : Code} {H : Heap} {locs : List Loc} {k n : Nat} {Q : State → Prop} {g : JFrame} (kk : W p l e R s m args below meth c H (locs.filter (fun q => decide (q.base < s.heap.size))) k n Q g) : W p l e R s m args below meth c H locs k n Q g := fun T hT X =>
  kk T hT { X with same := X.same.weaken (fun y hy hlt => List.mem_filter.mpr ⟨hy, decide_eq_true hlt⟩) (Nat.le_refl _) (Nat.le_refl _) }
section XRows
variable {a : Nat → Nat} {mi mi' : MI} {d d' : Nat} {g : GG} {pc : Nat} {L st : List Value} {S : St} {Q : Option Value → St → Prop} {b Ls : Nat} {xs : Nat → Int32}
theorem j_xiret {v : Int32} (hd : decode mi.2.1 pc = .ok (.ireturn, 1)) (hr : mi.2.2.2 = some .int) (hq : Q (some (.int v)) S) : J a mi d (gx a b Ls xs Q) pc L [.int v] S := by
  intro p l e R s m args below meth c D H locs ls C hl hP hS
  exact W.iret C.1 C.2.1 (C.2.2.2.1.trans hr) (fun t ht hW => ⟨⟨_, S, rfl, hq, by rw [ht]; exact hP⟩, hS.F ht⟩) (fun q hq => hS.2.2 q hq) hd C.2.2.2.2.1
theorem j_xzret {v : Int32} (hd : decode mi.2.1 pc = .ok (.ireturn, 1)) (hr : mi.2.2.2 = some .boolean) (hv : v = 0 ∨ v = 1) (hq : Q (some (.int v)) S) : J a mi d (gx a b Ls xs Q) pc L [.int v] S := by
  intro p l e R s m args below meth c D H locs ls C hl hP hS
  exact W.zret C.1 C.2.1 (C.2.2.2.1.trans hr) (by rcases hv with rfl | rfl <;> rfl) (fun t ht hW => ⟨⟨_, S, rfl, hq, by rw [ht]; exact hP⟩, hS.F ht⟩) (fun q hq => hS.2.2 q hq) hd C.2.2.2.2.1
theorem j_sld (hE : HE g a b Ls xs) (hd : decode mi.2.1 pc = .ok (.iaload, 1)) (k : Nat) (hk : k < Ls) (hL : Ls ≤ 260) (kk : J a mi d g (pc + 1) L (.int (xs k) :: st) S) : J a mi d g pc L (.int (nI k) :: .ref b :: st) S := by
  intro p l e R s m args below meth c D H locs ls C hl hP hS
  have hE1 := hE _ _ C.2.2.2.2.2.2.2.2.2.2.2.2
  have hc : (nI k).toNatClampNeg = k := nI_clamp (by omega)
  have hin : vp_in (nI k) Ls := fun z => z.elim (fun q => absurd (nI_pos' (n := k) (by omega)) (Int32.not_le.mpr q)) (fun q => by rw [hc] at q; omega)
  refine va_sld C.1 C.2.1 hE1.1 hE1.2.1 hE1.2.2 hS hin hd ?_
  rw [hc]
  exact kk p l e R s m args below meth c D H locs ls C hl hP hS
theorem j_slen (hE : HE g a b Ls xs) (hd : decode mi.2.1 pc = .ok (.arraylength, 1)) (kk : J a mi d g (pc + 1) L (.int (nI Ls) :: st) S) : J a mi d g pc L (.ref b :: st) S := by
  intro p l e R s m args below meth c D H locs ls C hl hP hS
  have hE1 := hE _ _ C.2.2.2.2.2.2.2.2.2.2.2.2
  exact va_slen C.1 C.2.1 hE1.1 hE1.2.1 hE1.2.2 hS hd (kk p l e R s m args below meth c D H locs ls C hl hP hS)
/-! calls of those that read the script -/
def WorldX (D : DD) (a : Nat → Nat) (b Ls : Nat) (xs : Nat → Int32) (S : St) (U : State) : Prop := World D a S U ∧ EX a b Ls xs U
theorem WorldX.blind {D : DD} {As : List Value} : FrameBlind (va_Pc As (WorldX D a b Ls xs S)) := fun x U g mk q => by
  obtain ⟨q0, ⟨q1, q2, q3, q4, q5⟩, q6, q7, q8⟩ := q
  exact ⟨q0, ⟨q1, va_K.moved (u := U) (U := U.calling g mk x) (Vm.Alike.refl U.vm) q2, q3, Stat.moved (u := U) (U := U.calling g mk x) (Vm.Alike.refl U.vm) q4, NW_same (s := U) (U := U.calling g mk x) rfl q5⟩, va_X.moved (u := U) (U := U.calling g mk x) (Vm.Alike.refl U.vm) q6, q7, q8⟩
theorem worldOfX {p : Program} {R : Room} {s U : State} {m : MethodId} {args : Array Value} {meth : Method} {c : Code} {D : DD} {k n : Nat} {E : Room → State → Prop} {H : Heap} {locs : List Loc} (C : Cx p R s m args meth c D a mi d k n E) (hE : EX a b Ls xs s) (hP : va_P D.1 zz_Cl (cells D a S) H) (hS : va_S (AA a) s.heap H locs) (hU : U.heap = H) (hW : s.WarmedH U.vm) : WorldX D a b Ls xs S U := by
  refine ⟨worldOf C hP hS hU hW, ?_, ?_, hE.2.2⟩
  · rw [hU]
    exact (hE.1.kept (hS.2.1 _ hE.2.1 hE.2.2)).moved hW.alike
  · rw [hU]
    exact Nat.lt_of_lt_of_le hE.2.1 hS.1
theorem J_metN {As L0 : List Value} {mc ms : Nat} {Qc : DD → Array Value → State → Outcome → State → Prop} (hJ : J a mi d (gN a b Ls xs mc ms Qc) 0 L0 [] S) (hL : ent mi.2.2.1 As = L0) (hlen : (lg_sl As).length ≤ mi.2.2.1) (hy : plainName mi.1.cls = true) (l : Launch) (D : DD) : Met l mi.1 (Cond.code mi.1 mi.2.1 mi.2.2.1 mi.2.2.2 :: TT) { frames := d, cells := mc, slots := ms, locals := 60 * d } (va_Pc As (WorldX D a b Ls xs S)) (Qc D) mc ms (AA a) := by
  refine Met.ofW (cc := mi.2.1) (maxL := mi.2.2.1) (ret := mi.2.2.2) hy rfl ?_
  intro p e s m args below meth c s₁ B hml hv
  obtain ⟨rfl, ⟨hP, hK, hI, hSt, hN⟩, hE⟩ := hv
  have hts := atoms_spec (ws := Cond.code mi.1 mi.2.1 mi.2.2.1 mi.2.2.2 :: TT) B.pre
  have hown : s.vm.findClass mi.1.cls = some m.cls := findClass_of_methodNamed B.named
  rw [lg_entry_eq]
  subst hL
  exact hJ p l e _ s m _ below meth c D s.heap [] _ ⟨B.exec, B.bytes, hml, B.returns, B.notSynchronized, hown, fun w hw => hts w (List.mem_cons_of_mem _ hw), ⟨Nat.le_refl _, Nat.le_refl _, Nat.zero_le _, Nat.zero_le _⟩, hK, hI, hSt, hN, ⟨hE, Nat.le_refl _, Nat.le_refl _⟩⟩ (lx_entry As hlen) hP va_S.rf
theorem W_of_runN {p : Program} {l : Launch} {e : Env} {R : Room} {s : State} {m : MethodId} {args : Array Value} {below : List Frame} {meth : Method} {c : Code} {H : Heap} {locs : List Loc} {k n mc ms : Nat} {Zg : State → Prop} {ls : Array Slot} {st0 rest : List Value} {D : DD} {Q' : Option Value → St → Prop} {aa : Array Value} (hS : va_S (AA a) s.heap H locs)
    (hr : va_Run p l e R s m args below meth c H locs k n mc ms (F0 m pc ls st0) rest (PQ D a Q' aa) (AA a))
    (kk : ∀ (r : Option Value) (S1 : St) (H1 : Heap) (locs1 : List Loc), Q' r S1 → va_P D.1 zz_Cl (cells D a S1) H1 → va_S (AA a) s.heap H1 locs1 → W p l e R s m args below meth c H1 locs1 (k + mc) (n + ms) Zg (F0 m (pc + 3) ls (r.toList ++ rest))) : W p l e R s m args below meth c H locs k n Zg (F0 m pc ls st0) := by
  intro T hT X
  obtain ⟨v, st₀, t, T', L', h0, X', hL, e1, e2, ⟨⟨r, S1, hv, hp, hb⟩, hz, hk⟩, stp⟩ := hr T hT X
  cases hv
  rw [h0] at hz hk
  obtain ⟨t2, a1, b1⟩ := kk v S1 T'.heap (locs ++ L') hp (by rw [e1]; exact hb)
    ⟨Nat.le_trans hS.1 (by rw [e1]; exact hz), fun q h1 h2 => by rw [e1, hk q (Nat.lt_of_lt_of_le h1 hS.1) h2]; exact hS.2.1 q h1 h2, fun q hq => by
      rcases List.mem_append.mp hq with h | h
      · exact hS.2.2 q h
      · exact hL q h⟩ T' rfl X'
  exact ⟨t2, stp t2 a1, b1⟩
theorem j_callN {mc ms : Nat} (hE : HE g a b Ls xs) (hR : ∀ R s, g.2.2.1 R s → g.1 + mc ≤ R.cells ∧ g.2.1 + ms ≤ R.slots) {As L0 : List Value} {n idx : Nat} {Q' : Option Value → St → Prop} (hd : decode mi.2.1 pc = .ok (.invokestatic idx, 3)) (hl : Cond.methodLink mi.1.cls idx mi'.1 ∈ TT) (hc : CalS mi' n) (hst : Cond.static mi'.1 ∈ TT) (hn : As.length = n) (hL : ent mi'.2.2.1 As = L0) (hlen : (lg_sl As).length ≤ mi'.2.2.1) (hrest : (st.map fun v => v.category).sum ≤ 8) (hdd : d' + 1 ≤ d)
    (hJ : J a mi' d' (gN a b Ls xs mc ms (fun D => PQ D a Q')) 0 L0 [] S) (kk : ∀ r S1, Q' r S1 → J a mi d (g.1 + mc, g.2.1 + ms, g.2.2.1, g.2.2.2) (pc + 3) L (r.toList ++ st) S1) : J a mi d g pc L (As.reverse ++ st) S := by
  intro p l e R s m args below meth c D H locs ls C hl' hP hS
  have hM := J_metN hJ hL hlen hc.2.2.1 l D
  have hts := C.2.2.2.2.2.2.1
  have hr := C.2.2.2.2.2.2.2.1
  have hmx := hc.2.2.2.2.2
  have hE1 := hE _ _ C.2.2.2.2.2.2.2.2.2.2.2.2
  have hR1 := hR _ _ C.2.2.2.2.2.2.2.2.2.2.2.2
  have hroom : ({ frames := d', cells := mc, slots := ms, locals := 60 * d' } : Room).frames + 1 ≤ R.frames ∧ 8 + (mi'.2.2.1 + 11) + ({ frames := d', cells := mc, slots := ms, locals := 60 * d' } : Room).locals ≤ R.locals := ⟨by show d' + 1 ≤ _; omega, by show _ + 60 * d' ≤ _; omega⟩
  have hpre : PreS s H (va_Pc As (WorldX D a b Ls xs S)) As := ⟨WorldX.blind, fun U hU hW => ⟨rfl, worldOfX C hE1 hP hS hU hW⟩⟩
  exact W_of_runN hS (va_runS (As := As) (rest := st) (index := idx) (cc := mi.2.1) (nL := mi.2.2.1) ⟨C.1, C.2.1, C.2.2.1, C.2.2.2.2.2.1, hts⟩ hM ⟨callB_of n hts (GoodTT hc) rfl rfl rfl (hts _ hc.2.1) (hts _ hl) ⟨hc.2.2.2.1.1, hc.2.2.2.1.2, hc.2.2.2.2.1⟩ hroom, hts _ hst⟩ hpre rfl hn hl'.1 rfl (lv_room hrest) hd hR1) (fun r S1 H1 locs1 hq hP1 hS1 => kk r S1 hq p l e R s m args below meth c D H1 locs1 ls ⟨C.1, C.2.1, C.2.2.1, C.2.2.2.1, C.2.2.2.2.1, C.2.2.2.2.2.1, C.2.2.2.2.2.2.1, ⟨hr.1, hr.2.1, hR1.1, hR1.2⟩, C.2.2.2.2.2.2.2.2⟩ hl' hP1 hS1)
/-- a method that reads the script makes nothing -/
theorem gx_N (hJ : J a mi d (gx a b Ls xs Q) pc L st S) : J a mi d (gN a b Ls xs 0 0 (fun D => PQ D a Q)) pc L st S := by
  intro p l e R s m args below meth c D H locs ls C hl hP hS
  exact hJ p l e R s m args below meth c D H locs ls ⟨C.1, C.2.1, C.2.2.1, C.2.2.2.1, C.2.2.2.2.1, C.2.2.2.2.2.1, C.2.2.2.2.2.2.1, C.2.2.2.2.2.2.2.1, C.2.2.2.2.2.2.2.2.1, C.2.2.2.2.2.2.2.2.2.1, C.2.2.2.2.2.2.2.2.2.2.1, C.2.2.2.2.2.2.2.2.2.2.2.1, C.2.2.2.2.2.2.2.2.2.2.2.2.1⟩ hl hP hS
theorem j_callX (hE : HE g a b Ls xs) {As L0 : List Value} {n idx : Nat} {Q' : Option Value → St → Prop} (hd : decode mi.2.1 pc = .ok (.invokestatic idx, 3)) (hl : Cond.methodLink mi.1.cls idx mi'.1 ∈ TT) (hc : CalS mi' n) (hst : Cond.static mi'.1 ∈ TT) (hn : As.length = n) (hL : ent mi'.2.2.1 As = L0) (hlen : (lg_sl As).length ≤ mi'.2.2.1) (hrest : (st.map fun v => v.category).sum ≤ 8) (hdd : d' + 1 ≤ d)
    (hJ : J a mi' d' (gx a b Ls xs Q') 0 L0 [] S) (kk : ∀ r S1, Q' r S1 → J a mi d g (pc + 3) L (r.toList ++ st) S1) : J a mi d g pc L (As.reverse ++ st) S := by
  intro p l e R s m args below meth c D H locs ls C hl' hP hS
  have hM := J_metN (gx_N hJ) hL hlen hc.2.2.1 l D
  have hts := C.2.2.2.2.2.2.1
  have hr := C.2.2.2.2.2.2.2.1
  have hmx := hc.2.2.2.2.2
  have hE1 := hE _ _ C.2.2.2.2.2.2.2.2.2.2.2.2
  have hroom : ({ frames := d', cells := 0, slots := 0, locals := 60 * d' } : Room).frames + 1 ≤ R.frames ∧ 8 + (mi'.2.2.1 + 11) + ({ frames := d', cells := 0, slots := 0, locals := 60 * d' } : Room).locals ≤ R.locals := ⟨by show d' + 1 ≤ _; omega, by show _ + 60 * d' ≤ _; omega⟩
  have hpre : PreS s H (va_Pc As (WorldX D a b Ls xs S)) As := ⟨WorldX.blind, fun U hU hW => ⟨rfl, worldOfX C hE1 hP hS hU hW⟩⟩
  exact W_of_run hS (va_runS (As := As) (rest := st) (index := idx) (cc := mi.2.1) (nL := mi.2.2.1) ⟨C.1, C.2.1, C.2.2.1, C.2.2.2.2.2.1, hts⟩ hM ⟨callB_of n hts (GoodTT hc) rfl rfl rfl (hts _ hc.2.1) (hts _ hl) ⟨hc.2.2.2.1.1, hc.2.2.2.1.2, hc.2.2.2.2.1⟩ hroom, hts _ hst⟩ hpre rfl hn hl'.1 rfl (lv_room hrest) hd ⟨hr.2.2.1, hr.2.2.2⟩) (fun r S1 H1 locs1 hq hP1 hS1 => kk r S1 hq p l e R s m args below meth c D H1 locs1 ls C hl' hP1 hS1)
abbrev Rtx (a : Nat → Nat) (b Ls : Nat) (xs : Nat → Int32) (mi : MI) (d : Nat) (As : List Value) (S : St) (r : Option Value) (S1 : St) : Prop := J a mi d (gx a b Ls xs fun r' S' => r' = r ∧ S' = S1) 0 (ent mi.2.2.1 As) [] S
theorem j_xcS1 (hE : HE g a b Ls xs) {x0 : Value} {idx : Nat} {v : Value} {S1 : St} (hd : decode mi.2.1 pc = .ok (.invokestatic idx, 3)) (hc : CalS mi' 1) (hst : Cond.static mi'.1 ∈ TT) (hl : Cond.methodLink mi.1.cls idx mi'.1 ∈ TT) (hlen : (lg_sl [x0]).length ≤ mi'.2.2.1) (hrest : (st.map fun v => v.category).sum ≤ 8) (hdd : d' + 1 ≤ d) (hJ : Rtx a b Ls xs mi' d' [x0] S (some v) S1) (kk : J a mi d g (pc + 3) L (v :: st) S1) : J a mi d g pc L (x0 :: st) S :=
  j_callX hE (As := [x0]) hd hl hc hst rfl rfl hlen hrest hdd hJ (fun r' S' hq => by rw [hq.1, hq.2]; exact kk)
theorem j_xcS2 (hE : HE g a b Ls xs) {x0 x1 : Value} {idx : Nat} {v : Value} {S1 : St} (hd : decode mi.2.1 pc = .ok (.invokestatic idx, 3)) (hc : CalS mi' 2) (hst : Cond.static mi'.1 ∈ TT) (hl : Cond.methodLink mi.1.cls idx mi'.1 ∈ TT) (hlen : (lg_sl [x0, x1]).length ≤ mi'.2.2.1) (hrest : (st.map fun v => v.category).sum ≤ 8) (hdd : d' + 1 ≤ d) (hJ : Rtx a b Ls xs mi' d' [x0, x1] S (some v) S1) (kk : J a mi d g (pc + 3) L (v :: st) S1) : J a mi d g pc L (x1 :: x0 :: st) S :=
  j_callX hE (As := [x0, x1]) hd hl hc hst rfl rfl hlen hrest hdd hJ (fun r' S' hq => by rw [hq.1, hq.2]; exact kk)
theorem j_xcS3 (hE : HE g a b Ls xs) {x0 x1 x2 : Value} {idx : Nat} {v : Value} {S1 : St} (hd : decode mi.2.1 pc = .ok (.invokestatic idx, 3)) (hc : CalS mi' 3) (hst : Cond.static mi'.1 ∈ TT) (hl : Cond.methodLink mi.1.cls idx mi'.1 ∈ TT) (hlen : (lg_sl [x0, x1, x2]).length ≤ mi'.2.2.1) (hrest : (st.map fun v => v.category).sum ≤ 8) (hdd : d' + 1 ≤ d) (hJ : Rtx a b Ls xs mi' d' [x0, x1, x2] S (some v) S1) (kk : J a mi d g (pc + 3) L (v :: st) S1) : J a mi d g pc L (x2 :: x1 :: x0 :: st) S :=
  j_callX hE (As := [x0, x1, x2]) hd hl hc hst rfl rfl hlen hrest hdd hJ (fun r' S' hq => by rw [hq.1, hq.2]; exact kk)
/-! a new row of ints -/
theorem j_newI {len : Nat} {n : Int32} (h0 : a 300 = 0) (hc : S.2.2.1 < 61 ∧ S.2.2.2 < 61) (hE : HE g a b Ls xs) (hR : ∀ R s, g.2.2.1 R s → g.1 + 1 ≤ R.cells ∧ g.2.1 + len ≤ R.slots) (hd : decode mi.2.1 pc = .ok (.newarray .int, 2)) (hn : n.toNatClampNeg = len) (hn0 : ¬ n < 0) (hlen : len ≤ 1000) (kk : ∀ q, J (aX a q len) mi d (g.1 + 1, g.2.1 + len, (fun R s => g.2.2.1 R s ∧ EX (aX a q len) b Ls xs s ∧ s.heap.size ≤ q), g.2.2.2) (pc + 2) L (.ref (aX a q len 61) :: st) (sI S 61 (fun _ => 0))) : J a mi d g pc L (.int n :: st) S := by
  intro p l e R s m args below meth c D H locs ls C hl hP hS
  have hts := C.2.2.2.2.2.2.1
  have hr := C.2.2.2.2.2.2.2.1
  have hK := C.2.2.2.2.2.2.2.2.1
  have hI := C.2.2.2.2.2.2.2.2.2.1
  have hSt := C.2.2.2.2.2.2.2.2.2.2.1
  have hEE := C.2.2.2.2.2.2.2.2.2.2.2.2
  have hE1 := hE _ _ hEE
  have hR1 := hR _ _ hEE
  have hD0 := cells_D (D := D) (S := S) hI
  have hD1 : va_D (fun x => AA a x ∨ s.heap.size ≤ x) (cells D a S) := ⟨hD0.1, fun k q h => Or.inl (hD0.2 k q h)⟩
  have hS1 : va_S (fun x => AA a x ∨ s.heap.size ≤ x) s.heap H locs := ⟨hS.1, fun q h1 h2 => hS.2.1 q h1 (fun z => h2 (Or.inl z)), fun l hl => Or.inl (hS.2.2 l hl)⟩
  refine va_newa (A := fun x => AA a x ∨ s.heap.size ≤ x) (atype := .int) (ty := .int) (a0 := (len, .inl (fun _ => 0))) C.1 C.2.1 (hts _ arrX) rfl hK hP hD1 hS1 (fun q h => Or.inr h) (fun cA => rfl) hn0 hn (by show len * 4 ≤ _; omega) hR1.1 hR1.2 hd (fun q cA H1 hK1 hP1 hDD1 hSS1 => ?_)
  have e1 : s.vm.findClass ("[" ++ (FieldType.int).toString) = some cA := (hK1.2 6 _ rfl).2
  have e2 : s.vm.findClass ("[" ++ (FieldType.int).toString) = some (D.2 0) := (hK.2 0 _ rfl).2
  have e3 : cA = D.2 0 := Option.some.inj (e1.symm.trans e2)
  subst e3
  have hlen1 : (cells D a S).length = 61 := by simp [cells, NC_0 h0]
  have hlast : (cells D a S ++ [(q, .inl (D.2 0, len, .inl (fun _ => (0 : Int32))))])[61]? = some (q, (.inl (D.2 0, len, .inl (fun _ => (0 : Int32))) : va_E)) := by
    rw [List.getElem?_append_right (by omega), hlen1]
    rfl
  have hne : ∀ j, j < 61 → a j ≠ q := fun j hj e => by
    have h1 : (cells D a S ++ [(q, .inl (D.2 0, len, .inl (fun _ => (0 : Int32))))])[j]? = some (a j, cont D a S j) := by
      rw [List.getElem?_append_left (by omega)]
      exact cells_get (lt_NC hj)
    have := hDD1.1 j 61 _ _ h1 hlast e
    omega
  have hq : s.heap.size ≤ q := by
    rcases hDD1.2 61 _ hlast with z | z
    · obtain ⟨j, hj, ej⟩ := z
      rw [NC_0 h0] at hj
      exact absurd ej.symm (hne j hj)
    · exact z
  have hcs : cells D a (sI S 61 (fun _ => 0)) = cells D a S := by
    unfold cells
    rw [NC_0 h0]
    refine List.map_congr_left (fun j hj => ?_)
    have := List.mem_range.mp hj
    rw [sI_cont (by omega)]
  refine kk q p l e R s m args below meth c D H1 locs ls ⟨C.1, C.2.1, C.2.2.1, C.2.2.2.1, C.2.2.2.2.1, C.2.2.2.2.2.1, hts, ⟨hr.1, hr.2.1, hR1.1, hR1.2⟩, hK, InjA_X h0 hI hne, Stat_X hSt hq, C.2.2.2.2.2.2.2.2.2.2.2.1, ⟨hEE, EX_X hE1 hq, hq⟩⟩ hl ?_ ⟨hSS1.1, fun x h1 h2 => hSS1.2.1 x h1 (fun z => z.elim (fun y => h2 (AA_Xl h0 y)) (fun y => absurd h1 (Nat.not_lt.mpr y))), fun l hl => AA_Xl h0 (hS.2.2 l hl)⟩
  have hz : (sI S 61 (fun _ => 0)).1 61 = fun _ => 0 := by unfold sI; simp
  rw [cells_X h0 (by exact hc), hcs, hz]
  exact hP1
theorem j_xast {n len : Nat} {x v : Int32} (hN : 61 < NC a) (hl0 : xl a 61 = len) (hd : decode mi.2.1 pc = .ok (.iastore, 1)) (hx : x = nI n) (hn : n < len) (hlen : len < 2 ^ 31) (kk : J a mi d g (pc + 1) L st (uI S 61 n v)) : J a mi d g pc L (.int v :: .int x :: .ref (a 61) :: st) S := by
  intro p l e R s m args below meth c D H locs ls C hl' hP hS
  have hg := cells_get (D := D) (a := a) (S := S) hN
  rw [cont_61, hl0] at hg
  subst hx
  refine va_iast C.1 C.2.1 C.2.2.2.2.2.2.2.2.1 hP (cells_D C.2.2.2.2.2.2.2.2.2.1) hS 61 0 hg rfl (vp_in_nI hn hlen) hd (fun H1 locs1 hP1 _ hS1 => ?_)
  rw [nI_clamp (by omega), cells_set (S' := uI S 61 n v) (fun i hi => uI_cont hi) (by rw [cont_61, hl0]; unfold uI; simp)] at hP1
  exact kk p l e R s m args below meth c D H1 locs1 ls C hl' hP1 hS1
theorem j_xald {n len : Nat} {x : Int32} (hN : 61 < NC a) (hl0 : xl a 61 = len) (hd : decode mi.2.1 pc = .ok (.iaload, 1)) (hx : x = nI n) (hn : n < len) (hlen : len < 2 ^ 31) (kk : J a mi d g (pc + 1) L (.int (S.1 61 n) :: st) S) : J a mi d g pc L (.int x :: .ref (a 61) :: st) S := by
  intro p l e R s m args below meth c D H locs ls C hl' hP hS
  have hg := cells_get (D := D) (a := a) (S := S) hN
  rw [cont_61, hl0] at hg
  subst hx
  refine va_iald C.1 C.2.1 C.2.2.2.2.2.2.2.2.1 hP 61 0 hg rfl (vp_in_nI hn hlen) hd ?_
  rw [nI_clamp (by omega)]
  exact kk p l e R s m args below meth c D H locs ls C hl' hP hS
theorem j_xlen {len : Nat} {v : Int32} (hN : 61 < NC a) (hl0 : xl a 61 = len) (hd : decode mi.2.1 pc = .ok (.arraylength, 1)) (hv : Int32.ofNat len = v) (kk : J a mi d g (pc + 1) L (.int v :: st) S) : J a mi d g pc L (.ref (a 61) :: st) S := by
  intro p l e R s m args below meth c D H locs ls C hl' hP hS
  have hg := cells_get (D := D) (a := a) (S := S) hN
  rw [cont_61, hl0] at hg
  exact va_alen C.1 C.2.1 C.2.2.2.2.2.2.2.2.1 hP 61 0 hg rfl hv hd (kk p l e R s m args below meth c D H locs ls C hl' hP hS)
/-! ends of those that make a row -/
theorem va_P_X {D : DD} {q n : Nat} {H : Heap} (h0 : a 300 = 0) (hc : S.2.2.1 < 61 ∧ S.2.2.2 < 61) (h : va_P D.1 zz_Cl (cells D (aX a q n) S) H) : va_P D.1 zz_Cl (cells D a S) H := fun k x hk => h k x (by
  rw [cells_X h0 hc, List.getElem?_append_left ((List.getElem?_eq_some_iff.mp hk).1)]
  exact hk)
theorem j_zretN0 {mc ms : Nat} {v : Int32} (hd : decode mi.2.1 pc = .ok (.ireturn, 1)) (hr : mi.2.2.2 = some .boolean) (hv : v = 0 ∨ v = 1) (hq : Q (some (.int v)) S) : J a mi d (gN a b Ls xs mc ms (fun D => PQ D a Q)) pc L [.int v] S := by
  intro p l e R s m args below meth c D H locs ls C hl hP hS
  refine W.widen (k := mc) (n := ms) (Nat.zero_le _) (Nat.zero_le _) ?_
  exact W.zret C.1 C.2.1 (C.2.2.2.1.trans hr) (by rcases hv with rfl | rfl <;> rfl) (fun t ht hW => ⟨⟨_, S, rfl, hq, by rw [ht]; exact hP⟩, hS.F ht⟩) (fun q hq => hS.2.2 q hq) hd C.2.2.2.2.1
theorem j_zretN {q len k n : Nat} {v : Int32} {E : Room → State → Prop} (h0 : a 300 = 0) (hc : S.2.2.1 < 61 ∧ S.2.2.2 < 61) (hEq : ∀ R s, E R s → s.heap.size ≤ q) (hk : k ≤ 1) (hn : n ≤ len) (hd : decode mi.2.1 pc = .ok (.ireturn, 1)) (hr : mi.2.2.2 = some .boolean) (hv : v = 0 ∨ v = 1) (hq : Q (some (.int v)) S) : J (aX a q len) mi d (k, n, E, fun below args s D => MQ below (PQ D a Q) args s 1 len (AA a)) pc L [.int v] S := by
  intro p l e R s m args below meth c D H locs ls C hl hP hS
  have hq1 := hEq _ _ C.2.2.2.2.2.2.2.2.2.2.2.2
  refine W_filter ?_
  refine W.widen (k := 1) (n := len) hk hn ?_
  refine W.zret C.1 C.2.1 (C.2.2.2.1.trans hr) (by rcases hv with rfl | rfl <;> rfl) (fun t ht hW => ⟨⟨_, S, rfl, hq, by rw [ht]; exact va_P_X h0 hc hP⟩, ⟨by rw [ht]; exact hS.1, fun x h1 h2 => by rw [ht]; exact hS.2.1 x h1 (fun z => (AA_X z).elim h2 (fun e => by omega))⟩⟩) (fun x hx => ?_) hd C.2.2.2.2.1
  have h1 := List.mem_filter.mp hx
  have h2 := of_decide_eq_true h1.2
  exact (AA_X (hS.2.2 x h1.1)).elim id (fun e => absurd h2 (Nat.not_lt.mpr (by rw [e]; exact hq1)))
/-- a new row is handed back -/
def PQA (D : DD) (a : Nat → Nat) (n : Nat) (Q : St → Prop) : Array Value → State → Outcome → State → Prop := fun _ st oc t => (∃ (q : Nat) (S : St), oc = .returned (some (.ref q)) ∧ st.heap.size ≤ q ∧ Q S ∧ va_P D.1 zz_Cl (cells D (aX a q n) S) t.heap) ∧ va_F (AA a) st t
theorem j_aretN {q len k n : Nat} {E : Room → State → Prop} {Q : St → Prop} (hEq : ∀ R s, E R s → s.heap.size ≤ q) (hk : k ≤ 1) (hn : n ≤ len) (hd : decode mi.2.1 pc = .ok (.areturn, 1)) (hr : mi.2.2.2 = some (.array .int)) (hq : Q S) : J (aX a q len) mi d (k, n, E, fun below args s D => MQ below (PQA D a len Q) args s 1 len (AA a)) pc L [.ref (aX a q len 61)] S := by
  intro p l e R s m args below meth c D H locs ls C hl hP hS
  have hq1 := hEq _ _ C.2.2.2.2.2.2.2.2.2.2.2.2
  refine W_filter ?_
  refine W.widen (k := 1) (n := len) hk hn ?_
  refine W.aret (rt := .array .int) C.1 C.2.1 (C.2.2.2.1.trans hr) (Or.inr ⟨_, rfl⟩) (Or.inr ⟨_, rfl⟩) (fun t ht hW => ⟨⟨q, S, rfl, hq1, hq, by rw [ht]; exact hP⟩, ⟨by rw [ht]; exact hS.1, fun x h1 h2 => by rw [ht]; exact hS.2.1 x h1 (fun z => (AA_X z).elim h2 (fun e => by omega))⟩⟩) (fun x hx => ?_) hd C.2.2.2.2.1
  have h1 := List.mem_filter.mp hx
  have h2 := of_decide_eq_true h1.2
  exact (AA_X (hS.2.2 x h1.1)).elim id (fun e => absurd h2 (Nat.not_lt.mpr (by rw [e]; exact hq1)))
theorem j_callA {ms : Nat} (h0 : a 300 = 0) (hE : HE g a b Ls xs) (hR : ∀ R s, g.2.2.1 R s → g.1 + 1 ≤ R.cells ∧ g.2.1 + ms ≤ R.slots) {As L0 : List Value} {n idx : Nat} {Q' : St → Prop} (hd : decode mi.2.1 pc = .ok (.invokestatic idx, 3)) (hl : Cond.methodLink mi.1.cls idx mi'.1 ∈ TT) (hc : CalS mi' n) (hst : Cond.static mi'.1 ∈ TT) (hn : As.length = n) (hL : ent mi'.2.2.1 As = L0) (hlen : (lg_sl As).length ≤ mi'.2.2.1) (hrest : (st.map fun v => v.category).sum ≤ 8) (hdd : d' + 1 ≤ d)
    (hJ : J a mi' d' (gN a b Ls xs 1 ms (fun D => PQA D a ms Q')) 0 L0 [] S) (kk : ∀ q S1, Q' S1 → J (aX a q ms) mi d (g.1 + 1, g.2.1 + ms, (fun R s => g.2.2.1 R s ∧ EX (aX a q ms) b Ls xs s ∧ s.heap.size ≤ q), g.2.2.2) (pc + 3) L (.ref (aX a q ms 61) :: st) S1) : J a mi d g pc L (As.reverse ++ st) S := by
  intro p l e R s m args below meth c D H locs ls C hl' hP hS
  have hM := J_metN hJ hL hlen hc.2.2.1 l D
  have hts := C.2.2.2.2.2.2.1
  have hr := C.2.2.2.2.2.2.2.1
  have hmx := hc.2.2.2.2.2
  have hEE := C.2.2.2.2.2.2.2.2.2.2.2.2
  have hE1 := hE _ _ hEE
  have hR1 := hR _ _ hEE
  have hI := C.2.2.2.2.2.2.2.2.2.1
  have hSt := C.2.2.2.2.2.2.2.2.2.2.1
  have hroom : ({ frames := d', cells := 1, slots := ms, locals := 60 * d' } : Room).frames + 1 ≤ R.frames ∧ 8 + (mi'.2.2.1 + 11) + ({ frames := d', cells := 1, slots := ms, locals := 60 * d' } : Room).locals ≤ R.locals := ⟨by show d' + 1 ≤ _; omega, by show _ + 60 * d' ≤ _; omega⟩
  have hpre : PreS s H (va_Pc As (WorldX D a b Ls xs S)) As := ⟨WorldX.blind, fun U hU hW => ⟨rfl, worldOfX C hE1 hP hS hU hW⟩⟩
  have hrun := va_runS (p := p) (l := l) (e := e) (below := below) (meth := meth) (H := H) (locs := locs) (cells := g.1) (slots := g.2.1) (g := F0 m pc ls (As.reverse ++ st)) (As := As) (rest := st) (index := idx) (cc := mi.2.1) (nL := mi.2.2.1) ⟨C.1, C.2.1, C.2.2.1, C.2.2.2.2.2.1, hts⟩ hM ⟨callB_of n hts (GoodTT hc) rfl rfl rfl (hts _ hc.2.1) (hts _ hl) ⟨hc.2.2.2.1.1, hc.2.2.2.1.2, hc.2.2.2.2.1⟩ hroom, hts _ hst⟩ hpre rfl hn hl'.1 rfl (lv_room hrest) hd hR1
  intro T hT X
  obtain ⟨v, st₀, t, T', L', hh0, X', hL', e1, e2, ⟨⟨q, S1, hv, hq0, hp, hb⟩, hz, hk⟩, stp⟩ := hrun T hT X
  cases hv
  rw [hh0] at hz hk hq0
  have hq : s.heap.size ≤ q := Nat.le_trans hS.1 hq0
  have hne : ∀ j, j < 61 → a j ≠ q := fun j hj ej => by
    have h1 := (hP j _ (cells_get (lt_NC hj))).lt
    rw [ej] at h1
    exact absurd h1 (Nat.not_lt.mpr hq0)
  obtain ⟨t2, a1, b1⟩ := kk q S1 hp p l e R s m args below meth c D T'.heap (locs ++ L') ls ⟨C.1, C.2.1, C.2.2.1, C.2.2.2.1, C.2.2.2.2.1, C.2.2.2.2.2.1, hts, ⟨hr.1, hr.2.1, hR1.1, hR1.2⟩, C.2.2.2.2.2.2.2.2.1, InjA_X h0 hI hne, Stat_X hSt hq, C.2.2.2.2.2.2.2.2.2.2.2.1, ⟨hEE, EX_X hE1 hq, hq⟩⟩ hl' (by rw [e1]; exact hb)
    ⟨Nat.le_trans hS.1 (by rw [e1]; exact hz), fun x h1 h2 => by rw [e1, hk x (Nat.lt_of_lt_of_le h1 hS.1) (fun z => h2 (AA_Xl h0 z))]; exact hS.2.1 x h1 (fun z => h2 (AA_Xl h0 z)), fun x hx => by
      rcases List.mem_append.mp hx with h | h
      · exact AA_Xl h0 (hS.2.2 x h)
      · exact AA_Xl h0 (hL' x h)⟩ T' rfl X'
  exact ⟨t2, stp t2 a1, b1⟩
theorem j_widen {k n k' n' : Nat} {E : Room → State → Prop} {Z : List Frame → Array Value → State → DD → State → Prop} (hk : k ≤ k') (hn : n ≤ n') (hR : ∀ R s, E R s → k' ≤ R.cells ∧ n' ≤ R.slots) (kk : J a mi d (k', n', E, Z) pc L st S) : J a mi d (k, n, E, Z) pc L st S := by
  intro p l e R s m args below meth c D H locs ls C hl hP hS
  have hR1 := hR _ _ C.2.2.2.2.2.2.2.2.2.2.2.2
  have hr := C.2.2.2.2.2.2.2.1
  refine W.widen (k := k') (n := n') hk hn ?_
  exact kk p l e R s m args below meth c D H locs ls ⟨C.1, C.2.1, C.2.2.1, C.2.2.2.1, C.2.2.2.2.1, C.2.2.2.2.2.1, C.2.2.2.2.2.2.1, ⟨hr.1, hr.2.1, hR1.1, hR1.2⟩, C.2.2.2.2.2.2.2.2⟩ hl hP hS
theorem j_E {k n : Nat} {E E' : Room → State → Prop} {Z : List Frame → Array Value → State → DD → State → Prop} (h : ∀ R s, E R s → E' R s) (kk : J a mi d (k, n, E', Z) pc L st S) : J a mi d (k, n, E, Z) pc L st S := by
  intro p l e R s m args below meth c D H locs ls C hl hP hS
  exact kk p l e R s m args below meth c D H locs ls ⟨C.1, C.2.1, C.2.2.1, C.2.2.2.1, C.2.2.2.2.1, C.2.2.2.2.2.1, C.2.2.2.2.2.2.1, C.2.2.2.2.2.2.2.1, C.2.2.2.2.2.2.2.2.1, C.2.2.2.2.2.2.2.2.2.1, C.2.2.2.2.2.2.2.2.2.2.1, C.2.2.2.2.2.2.2.2.2.2.2.1, h _ _ C.2.2.2.2.2.2.2.2.2.2.2.2⟩ hl hP hS
end XRows
