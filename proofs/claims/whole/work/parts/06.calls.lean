/-! returns and calls -/
def World (D : DD) (a : Nat → Nat) (S : St) (U : State) : Prop := va_P D.1 zz_Cl (cells D a S) U.heap ∧ va_K D.1 zz_Cl (zz_tys D) U ∧ InjA a ∧ Stat a U U.heap ∧ ∀ w ∈ NW, va_Nw w U
theorem Stat.moved {a : Nat → Nat} {u U : State} {H : Heap} (hvm : u.vm.Alike U.vm) (h : Stat a u H) : Stat a U H := fun i C n L hz => ⟨va_Z.moved hvm (h i C n L hz).1, va_T.moved hvm (h i C n L hz).2⟩
theorem Stat.kept {a : Nat → Nat} {U : State} {H H1 : Heap} (h : Stat a U H) (hq : ∀ x : Nat, x < H.size → ¬ AA a x → H1[x]? = H[x]?) : Stat a U H1 := fun i C n L hz => ⟨(h i C n L hz).1.kept hq, (h i C n L hz).2.kept hq⟩
theorem World.blind {D : DD} {a : Nat → Nat} {S : St} {As : List Value} : FrameBlind (va_Pc As (World D a S)) := fun x U g mk q => by
  obtain ⟨q0, q1, q2, q3, q4, q5⟩ := q
  exact ⟨q0, q1, va_K.moved (u := U) (U := U.calling g mk x) (Vm.Alike.refl U.vm) q2, q3, Stat.moved (u := U) (U := U.calling g mk x) (Vm.Alike.refl U.vm) q4, NW_same (s := U) (U := U.calling g mk x) rfl q5⟩
section Calls
variable {a : Nat → Nat} {mi mi' : MI} {d d' : Nat} {g : GG} {pc : Nat} {L st : List Value} {S : St} {Q : Option Value → St → Prop}
theorem j_iret {v : Int32} (hd : decode mi.2.1 pc = .ok (.ireturn, 1)) (hr : mi.2.2.2 = some .int) (hq : Q (some (.int v)) S) : J a mi d (gm a Q) pc L [.int v] S := by
  intro p l e R s m args below meth c D H locs ls C hl hP hS
  exact W.iret C.1 C.2.1 (C.2.2.2.1.trans hr) (fun t ht hW => ⟨⟨_, S, rfl, hq, by rw [ht]; exact hP⟩, hS.F ht⟩) (fun q hq => hS.2.2 q hq) hd C.2.2.2.2.1
theorem j_zret {v : Int32} (hd : decode mi.2.1 pc = .ok (.ireturn, 1)) (hr : mi.2.2.2 = some .boolean) (hv : v = 0 ∨ v = 1) (hq : Q (some (.int v)) S) : J a mi d (gm a Q) pc L [.int v] S := by
  intro p l e R s m args below meth c D H locs ls C hl hP hS
  exact W.zret C.1 C.2.1 (C.2.2.2.1.trans hr) (by rcases hv with rfl | rfl <;> rfl) (fun t ht hW => ⟨⟨_, S, rfl, hq, by rw [ht]; exact hP⟩, hS.F ht⟩) (fun q hq => hS.2.2 q hq) hd C.2.2.2.2.1
theorem j_lret {v : Int64} (hd : decode mi.2.1 pc = .ok (.lreturn, 1)) (hr : mi.2.2.2 = some .long) (hq : Q (some (.long v)) S) : J a mi d (gm a Q) pc L [.long v] S := by
  intro p l e R s m args below meth c D H locs ls C hl hP hS
  exact W.lret C.1 C.2.1 (C.2.2.2.1.trans hr) (fun t ht hW => ⟨⟨_, S, rfl, hq, by rw [ht]; exact hP⟩, hS.F ht⟩) (fun q hq => hS.2.2 q hq) hd C.2.2.2.2.1
theorem j_vret (hd : decode mi.2.1 pc = .ok (.return_, 1)) (hr : mi.2.2.2 = none) (hq : Q none S) : J a mi d (gm a Q) pc L [] S := by
  intro p l e R s m args below meth c D H locs ls C hl hP hS
  exact W.vret C.1 C.2.1 (C.2.2.2.1.trans hr) (fun t ht hW => ⟨⟨_, S, rfl, hq, by rw [ht]; exact hP⟩, hS.F ht⟩) (fun q hq => hS.2.2 q hq) hd C.2.2.2.2.1
theorem J.mono (h : J a mi d' g pc L st S) (hd : d' ≤ d) : J a mi d g pc L st S := by
  intro p l e R s m args below meth c D H locs ls C hl hP hS
  exact h p l e R s m args below meth c D H locs ls ⟨C.1, C.2.1, C.2.2.1, C.2.2.2.1, C.2.2.2.2.1, C.2.2.2.2.2.1, C.2.2.2.2.2.2.1, ⟨by have := C.2.2.2.2.2.2.2.1.1; omega, by have := C.2.2.2.2.2.2.2.1.2.1; omega, C.2.2.2.2.2.2.2.1.2.2⟩, C.2.2.2.2.2.2.2.2⟩ hl hP hS
theorem J.post {Q' : Option Value → St → Prop} (h : J a mi d (gm a Q') pc L st S) (hQ : ∀ r S', Q' r S' → Q r S') : J a mi d (gm a Q) pc L st S := by
  intro p l e R s m args below meth c D H locs ls C hl hP hS T hT X
  obtain ⟨t, h1, o, h2, h3, ⟨⟨r, S', e1, e2, e3⟩, h5⟩, h6⟩ := h p l e R s m args below meth c D H locs ls C hl hP hS T hT X
  exact ⟨t, h1, o, h2, h3, ⟨⟨r, S', e1, hQ r S' e2, e3⟩, h5⟩, h6⟩
theorem J_met {As L0 : List Value} (hJ : J a mi d (gm a Q) 0 L0 [] S) (hL : ent mi.2.2.1 As = L0) (hlen : (lg_sl As).length ≤ mi.2.2.1) (hy : plainName mi.1.cls = true) (l : Launch) (D : DD) : Met l mi.1 (Cond.code mi.1 mi.2.1 mi.2.2.1 mi.2.2.2 :: TT) { frames := d, cells := 0, slots := 0, locals := 60 * d } (va_Pc As (World D a S)) (PQ D a Q) 0 0 (AA a) := by
  refine Met.ofW (cc := mi.2.1) (maxL := mi.2.2.1) (ret := mi.2.2.2) hy rfl ?_
  intro p e s m args below meth c s₁ B hml hv
  obtain ⟨rfl, hP, hK, hI, hSt, hN⟩ := hv
  have hts := atoms_spec (ws := Cond.code mi.1 mi.2.1 mi.2.2.1 mi.2.2.2 :: TT) B.pre
  have hown : s.vm.findClass mi.1.cls = some m.cls := findClass_of_methodNamed B.named
  rw [lg_entry_eq]
  subst hL
  exact hJ p l e _ s m _ below meth c D s.heap [] _ ⟨B.exec, B.bytes, hml, B.returns, B.notSynchronized, hown, fun w hw => hts w (List.mem_cons_of_mem _ hw), ⟨Nat.le_refl _, Nat.le_refl _, Nat.zero_le _, Nat.zero_le _⟩, hK, hI, hSt, hN, trivial⟩ (lx_entry As hlen) hP va_S.rf
theorem W_of_run {p : Program} {l : Launch} {e : Env} {R : Room} {s : State} {m : MethodId} {args : Array Value} {below : List Frame} {meth : Method} {c : Code} {H : Heap} {locs : List Loc} {k n : Nat} {Zg : State → Prop} {ls : Array Slot} {st0 rest : List Value} {D : DD} {Q' : Option Value → St → Prop} {aa : Array Value} (hS : va_S (AA a) s.heap H locs)
    (hr : va_Run p l e R s m args below meth c H locs k n 0 0 (F0 m pc ls st0) rest (PQ D a Q' aa) (AA a))
    (kk : ∀ (r : Option Value) (S1 : St) (H1 : Heap) (locs1 : List Loc), Q' r S1 → va_P D.1 zz_Cl (cells D a S1) H1 → va_S (AA a) s.heap H1 locs1 → W p l e R s m args below meth c H1 locs1 k n Zg (F0 m (pc + 3) ls (r.toList ++ rest))) : W p l e R s m args below meth c H locs k n Zg (F0 m pc ls st0) := by
  intro T hT X
  obtain ⟨v, st₀, t, T', L', h0, X', hL, e1, e2, ⟨⟨r, S1, hv, hp, hb⟩, hz, hk⟩, stp⟩ := hr T hT X
  cases hv
  rw [h0] at hz hk
  obtain ⟨t2, a1, b1⟩ := kk v S1 T'.heap (locs ++ L') hp (by rw [e1]; exact hb)
    ⟨Nat.le_trans hS.1 (by rw [e1]; exact hz), fun q h1 h2 => by rw [e1, hk q (Nat.lt_of_lt_of_le h1 hS.1) h2]; exact hS.2.1 q h1 h2, fun q hq => by
      rcases List.mem_append.mp hq with h | h
      · exact hS.2.2 q h
      · exact hL q h⟩ T' rfl X'
  exact ⟨t2, stp t2 a1, b1⟩
/-- a callee's words -/
def CalS (y : MI) (n : Nat) : Prop := Cond.code y.1 y.2.1 y.2.2.1 y.2.2.2 ∈ TT ∧ Cond.initialized y.1.cls ∈ TT ∧ plainName y.1.cls = true ∧ (y.1.cls ≠ "java/lang/invoke/MethodHandle" ∧ y.1.cls ≠ "java/lang/invoke/VarHandle") ∧ (parseMethodDescriptor y.1.desc).map (fun q => q.parameters.length) = some n ∧ y.2.2.1 ≤ 40
theorem GoodTT {y : MI} {n : Nat} (h : CalS y n) : GoodIn TT (Cond.code y.1 y.2.1 y.2.2.1 y.2.2.2 :: TT) := fun w hw => by
  rcases List.mem_cons.mp hw with e | e
  · rw [e]; exact ⟨h.1, good_of_word (TT_good _ h.1)⟩
  · exact ⟨e, good_of_word (TT_good _ e)⟩
theorem worldOf {p : Program} {R : Room} {s U : State} {m : MethodId} {args : Array Value} {meth : Method} {c : Code} {D : DD} {k n : Nat} {E : State → Prop} {H : Heap} {locs : List Loc} (C : Cx p R s m args meth c D a mi d k n E) (hP : va_P D.1 zz_Cl (cells D a S) H) (hS : va_S (AA a) s.heap H locs) (hU : U.heap = H) (hW : s.WarmedH U.vm) : World D a S U := by
  refine ⟨by rw [hU]; exact hP, va_K.moved hW.alike C.2.2.2.2.2.2.2.2.1, C.2.2.2.2.2.2.2.2.2.1, ?_, NW_warm hW C.2.2.2.2.2.2.2.2.2.2.2.1⟩
  rw [hU]
  exact (C.2.2.2.2.2.2.2.2.2.2.1.kept hS.2.1).moved hW.alike
theorem j_callS {As L0 : List Value} {n idx : Nat} {Q' : Option Value → St → Prop} (hd : decode mi.2.1 pc = .ok (.invokestatic idx, 3)) (hl : MLk mi idx mi'.1) (hc : CalS mi' n) (hst : Cond.static mi'.1 ∈ TT) (hn : As.length = n) (hL : ent mi'.2.2.1 As = L0) (hlen : (lg_sl As).length ≤ mi'.2.2.1) (hrest : (st.map fun v => v.category).sum ≤ 8) (hdd : d' + 1 ≤ d)
    (hJ : J a mi' d' (gm a Q') 0 L0 [] S) (kk : ∀ r S1, Q' r S1 → J a mi d g (pc + 3) L (r.toList ++ st) S1) : J a mi d g pc L (As.reverse ++ st) S := by
  intro p l e R s m args below meth c D H locs ls C hl' hP hS
  have hM := J_met hJ hL hlen hc.2.2.1 l D
  have hts := C.2.2.2.2.2.2.1
  have hr := C.2.2.2.2.2.2.2.1
  have hmx := hc.2.2.2.2.2
  have hroom : ({ frames := d', cells := 0, slots := 0, locals := 60 * d' } : Room).frames + 1 ≤ R.frames ∧ 8 + (mi'.2.2.1 + 11) + ({ frames := d', cells := 0, slots := 0, locals := 60 * d' } : Room).locals ≤ R.locals := ⟨by show d' + 1 ≤ _; omega, by show _ + 60 * d' ≤ _; omega⟩
  have hpre : PreS s H (va_Pc As (World D a S)) As := ⟨World.blind, fun U hU hW => ⟨rfl, worldOf C hP hS hU hW⟩⟩
  rcases hl with hl | ⟨host, hl⟩
  · exact W_of_run hS (va_runS (As := As) (rest := st) (index := idx) (cc := mi.2.1) (nL := mi.2.2.1) ⟨C.1, C.2.1, C.2.2.1, C.2.2.2.2.2.1, hts⟩ hM ⟨callB_of n hts (GoodTT hc) rfl rfl rfl (hts _ hc.2.1) (hts _ hl) ⟨hc.2.2.2.1.1, hc.2.2.2.1.2, hc.2.2.2.2.1⟩ hroom, hts _ hst⟩ hpre rfl hn hl'.1 rfl (lv_room hrest) hd ⟨hr.2.2.1, hr.2.2.2⟩) (fun r S1 H1 locs1 hq hP1 hS1 => kk r S1 hq p l e R s m args below meth c D H1 locs1 ls C hl' hP1 hS1)
  · exact W_of_run hS (va_runSN (As := As) (rest := st) (index := idx) (host := host) (cc := mi.2.1) (nL := mi.2.2.1) ⟨C.1, C.2.1, C.2.2.1, C.2.2.2.2.2.1, hts⟩ hM ⟨va_cnB n hts (GoodTT hc) rfl rfl rfl (C.2.2.2.2.2.2.2.2.2.2.2.1 _ hl) (hts _ hc.2.1) ⟨hc.2.2.2.1.1, hc.2.2.2.1.2, hc.2.2.2.2.1⟩ hroom, hts _ hst, trivial⟩ hpre rfl hn hl'.1 rfl (lv_room hrest) hd ⟨hr.2.2.1, hr.2.2.2⟩) (fun r S1 H1 locs1 hq hP1 hS1 => kk r S1 hq p l e R s m args below meth c D H1 locs1 ls C hl' hP1 hS1)
def CalV (y : MI) (n : Nat) : Prop := CalS y n ∧ Cond.instanceMethod y.1 ∈ TT ∧ Cond.selects y.1.cls y.1 y.1 ∈ TT
theorem j_callV {As L0 : List Value} {n idx j ci : Nat} {T : u_T} {N : Nat} {Q' : Option Value → St → Prop} (hd : decode mi.2.1 pc = .ok (.invokevirtual idx, 3)) (hl : Cond.methodLink mi.1.cls idx mi'.1 ∈ TT) (hc : CalV mi' n) (hj : ck j = (0, ci)) (hj1 : j < 100) (hci : zz_Cl[ci]? = some (mi'.1.cls, T, N)) (hn : As.length = n) (hL : ent mi'.2.2.1 (.ref (a j) :: As) = L0) (hlen : (lg_sl (.ref (a j) :: As)).length ≤ mi'.2.2.1) (hrest : (st.map fun v => v.category).sum ≤ 8) (hdd : d' + 1 ≤ d)
    (hJ : J a mi' d' (gm a Q') 0 L0 [] S) (kk : ∀ r S1, Q' r S1 → J a mi d g (pc + 3) L (r.toList ++ st) S1) : J a mi d g pc L (As.reverse ++ .ref (a j) :: st) S := by
  intro p l e R s m args below meth c D H locs ls C hl' hP hS
  have hM := J_met hJ hL hlen hc.1.2.2.1 l D
  have hts := C.2.2.2.2.2.2.1
  have hr := C.2.2.2.2.2.2.2.1
  have hmx := hc.1.2.2.2.2.2
  have hroom : ({ frames := d', cells := 0, slots := 0, locals := 60 * d' } : Room).frames + 1 ≤ R.frames ∧ 8 + (mi'.2.2.1 + 11) + ({ frames := d', cells := 0, slots := 0, locals := 60 * d' } : Room).locals ≤ R.locals := ⟨by show d' + 1 ≤ _; omega, by show _ + 60 * d' ≤ _; omega⟩
  have hg := cells_get (D := D) (a := a) (S := S) hj1
  rw [cont_obj hj] at hg
  have hpre : PreV s H mi'.1.cls (a j) (va_Pc (.ref (a j) :: As) (World D a S)) As := ⟨World.blind, va_recv C.2.2.2.2.2.2.2.2.1 hP hci hg, fun U hU hW => ⟨rfl, worldOf C hP hS hU hW⟩⟩
  exact W_of_run hS (va_runV (As := As) (rest := st) (index := idx) (cc := mi.2.1) (nL := mi.2.2.1) ⟨C.1, C.2.1, C.2.2.1, C.2.2.2.2.2.1, hts⟩ hM ⟨callB_of n hts (GoodTT hc.1) rfl rfl rfl (hts _ hc.1.2.1) (hts _ hl) ⟨hc.1.2.2.2.1.1, hc.1.2.2.2.1.2, hc.1.2.2.2.2.1⟩ hroom, hts _ hc.2.1, hts _ hc.2.2⟩ hpre rfl hn hl'.1 rfl (lv_room hrest) hd ⟨hr.2.2.1, hr.2.2.2⟩) (fun r S1 H1 locs1 hq hP1 hS1 => kk r S1 hq p l e R s m args below meth c D H1 locs1 ls C hl' hP1 hS1)
/-- what a method answers, and the state behind it -/
abbrev Rt (a : Nat → Nat) (mi : MI) (d : Nat) (As : List Value) (S : St) (r : Option Value) (S1 : St) : Prop := J a mi d (gm a fun r' S' => r' = r ∧ S' = S1) 0 (ent mi.2.2.1 As) [] S
abbrev Rq (a : Nat → Nat) (mi : MI) (d : Nat) (As : List Value) (S : St) (Q : Option Value → St → Prop) : Prop := J a mi d (gm a Q) 0 (ent mi.2.2.1 As) [] S

theorem j_cV0 {idx j ci : Nat} {T : u_T} {N : Nat} {r : Option Value} {S1 : St} (hd : decode mi.2.1 pc = .ok (.invokevirtual idx, 3)) (hl : Cond.methodLink mi.1.cls idx mi'.1 ∈ TT) (hc : CalV mi' 0) (hj : ck j = (0, ci)) (hj1 : j < 100) (hci : zz_Cl[ci]? = some (mi'.1.cls, T, N)) (hlen : (lg_sl [.ref (a j)]).length ≤ mi'.2.2.1) (hrest : (st.map fun v => v.category).sum ≤ 8) (hdd : d' + 1 ≤ d) (hJ : Rt a mi' d' [.ref (a j)] S r S1) (kk : J a mi d g (pc + 3) L (r.toList ++ st) S1) : J a mi d g pc L (.ref (a j) :: st) S :=
  j_callV (As := []) hd hl hc hj hj1 hci rfl rfl hlen hrest hdd hJ (fun r' S' hq => by rw [hq.1, hq.2]; exact kk)
theorem j_qV0 {idx j ci : Nat} {T : u_T} {N : Nat} {Q' : Option Value → St → Prop} (hd : decode mi.2.1 pc = .ok (.invokevirtual idx, 3)) (hl : Cond.methodLink mi.1.cls idx mi'.1 ∈ TT) (hc : CalV mi' 0) (hj : ck j = (0, ci)) (hj1 : j < 100) (hci : zz_Cl[ci]? = some (mi'.1.cls, T, N)) (hlen : (lg_sl [.ref (a j)]).length ≤ mi'.2.2.1) (hrest : (st.map fun v => v.category).sum ≤ 8) (hdd : d' + 1 ≤ d) (hJ : Rq a mi' d' [.ref (a j)] S Q') (kk : ∀ r S1, Q' r S1 → J a mi d g (pc + 3) L (r.toList ++ st) S1) : J a mi d g pc L (.ref (a j) :: st) S :=
  j_callV (As := []) hd hl hc hj hj1 hci rfl rfl hlen hrest hdd hJ kk
theorem j_cS0 {idx : Nat} {r : Option Value} {S1 : St} (hd : decode mi.2.1 pc = .ok (.invokestatic idx, 3)) (hl : MLk mi idx mi'.1) (hc : CalS mi' 0) (hst : Cond.static mi'.1 ∈ TT) (hlen : (lg_sl []).length ≤ mi'.2.2.1) (hrest : (st.map fun v => v.category).sum ≤ 8) (hdd : d' + 1 ≤ d) (hJ : Rt a mi' d' [] S r S1) (kk : J a mi d g (pc + 3) L (r.toList ++ st) S1) : J a mi d g pc L (st) S :=
  j_callS (As := []) hd hl hc hst rfl rfl hlen hrest hdd hJ (fun r' S' hq => by rw [hq.1, hq.2]; exact kk)
theorem j_qS0 {idx : Nat} {Q' : Option Value → St → Prop} (hd : decode mi.2.1 pc = .ok (.invokestatic idx, 3)) (hl : MLk mi idx mi'.1) (hc : CalS mi' 0) (hst : Cond.static mi'.1 ∈ TT) (hlen : (lg_sl []).length ≤ mi'.2.2.1) (hrest : (st.map fun v => v.category).sum ≤ 8) (hdd : d' + 1 ≤ d) (hJ : Rq a mi' d' [] S Q') (kk : ∀ r S1, Q' r S1 → J a mi d g (pc + 3) L (r.toList ++ st) S1) : J a mi d g pc L (st) S :=
  j_callS (As := []) hd hl hc hst rfl rfl hlen hrest hdd hJ kk
theorem j_cV1 {x0 : Value} {idx j ci : Nat} {T : u_T} {N : Nat} {r : Option Value} {S1 : St} (hd : decode mi.2.1 pc = .ok (.invokevirtual idx, 3)) (hl : Cond.methodLink mi.1.cls idx mi'.1 ∈ TT) (hc : CalV mi' 1) (hj : ck j = (0, ci)) (hj1 : j < 100) (hci : zz_Cl[ci]? = some (mi'.1.cls, T, N)) (hlen : (lg_sl [.ref (a j), x0]).length ≤ mi'.2.2.1) (hrest : (st.map fun v => v.category).sum ≤ 8) (hdd : d' + 1 ≤ d) (hJ : Rt a mi' d' [.ref (a j), x0] S r S1) (kk : J a mi d g (pc + 3) L (r.toList ++ st) S1) : J a mi d g pc L (x0 :: .ref (a j) :: st) S :=
  j_callV (As := [x0]) hd hl hc hj hj1 hci rfl rfl hlen hrest hdd hJ (fun r' S' hq => by rw [hq.1, hq.2]; exact kk)
theorem j_qV1 {x0 : Value} {idx j ci : Nat} {T : u_T} {N : Nat} {Q' : Option Value → St → Prop} (hd : decode mi.2.1 pc = .ok (.invokevirtual idx, 3)) (hl : Cond.methodLink mi.1.cls idx mi'.1 ∈ TT) (hc : CalV mi' 1) (hj : ck j = (0, ci)) (hj1 : j < 100) (hci : zz_Cl[ci]? = some (mi'.1.cls, T, N)) (hlen : (lg_sl [.ref (a j), x0]).length ≤ mi'.2.2.1) (hrest : (st.map fun v => v.category).sum ≤ 8) (hdd : d' + 1 ≤ d) (hJ : Rq a mi' d' [.ref (a j), x0] S Q') (kk : ∀ r S1, Q' r S1 → J a mi d g (pc + 3) L (r.toList ++ st) S1) : J a mi d g pc L (x0 :: .ref (a j) :: st) S :=
  j_callV (As := [x0]) hd hl hc hj hj1 hci rfl rfl hlen hrest hdd hJ kk
theorem j_cS1 {x0 : Value} {idx : Nat} {r : Option Value} {S1 : St} (hd : decode mi.2.1 pc = .ok (.invokestatic idx, 3)) (hl : MLk mi idx mi'.1) (hc : CalS mi' 1) (hst : Cond.static mi'.1 ∈ TT) (hlen : (lg_sl [x0]).length ≤ mi'.2.2.1) (hrest : (st.map fun v => v.category).sum ≤ 8) (hdd : d' + 1 ≤ d) (hJ : Rt a mi' d' [x0] S r S1) (kk : J a mi d g (pc + 3) L (r.toList ++ st) S1) : J a mi d g pc L (x0 :: st) S :=
  j_callS (As := [x0]) hd hl hc hst rfl rfl hlen hrest hdd hJ (fun r' S' hq => by rw [hq.1, hq.2]; exact kk)
theorem j_qS1 {x0 : Value} {idx : Nat} {Q' : Option Value → St → Prop} (hd : decode mi.2.1 pc = .ok (.invokestatic idx, 3)) (hl : MLk mi idx mi'.1) (hc : CalS mi' 1) (hst : Cond.static mi'.1 ∈ TT) (hlen : (lg_sl [x0]).length ≤ mi'.2.2.1) (hrest : (st.map fun v => v.category).sum ≤ 8) (hdd : d' + 1 ≤ d) (hJ : Rq a mi' d' [x0] S Q') (kk : ∀ r S1, Q' r S1 → J a mi d g (pc + 3) L (r.toList ++ st) S1) : J a mi d g pc L (x0 :: st) S :=
  j_callS (As := [x0]) hd hl hc hst rfl rfl hlen hrest hdd hJ kk
theorem j_cV2 {x0 x1 : Value} {idx j ci : Nat} {T : u_T} {N : Nat} {r : Option Value} {S1 : St} (hd : decode mi.2.1 pc = .ok (.invokevirtual idx, 3)) (hl : Cond.methodLink mi.1.cls idx mi'.1 ∈ TT) (hc : CalV mi' 2) (hj : ck j = (0, ci)) (hj1 : j < 100) (hci : zz_Cl[ci]? = some (mi'.1.cls, T, N)) (hlen : (lg_sl [.ref (a j), x0, x1]).length ≤ mi'.2.2.1) (hrest : (st.map fun v => v.category).sum ≤ 8) (hdd : d' + 1 ≤ d) (hJ : Rt a mi' d' [.ref (a j), x0, x1] S r S1) (kk : J a mi d g (pc + 3) L (r.toList ++ st) S1) : J a mi d g pc L (x1 :: x0 :: .ref (a j) :: st) S :=
  j_callV (As := [x0, x1]) hd hl hc hj hj1 hci rfl rfl hlen hrest hdd hJ (fun r' S' hq => by rw [hq.1, hq.2]; exact kk)
theorem j_qV2 {x0 x1 : Value} {idx j ci : Nat} {T : u_T} {N : Nat} {Q' : Option Value → St → Prop} (hd : decode mi.2.1 pc = .ok (.invokevirtual idx, 3)) (hl : Cond.methodLink mi.1.cls idx mi'.1 ∈ TT) (hc : CalV mi' 2) (hj : ck j = (0, ci)) (hj1 : j < 100) (hci : zz_Cl[ci]? = some (mi'.1.cls, T, N)) (hlen : (lg_sl [.ref (a j), x0, x1]).length ≤ mi'.2.2.1) (hrest : (st.map fun v => v.category).sum ≤ 8) (hdd : d' + 1 ≤ d) (hJ : Rq a mi' d' [.ref (a j), x0, x1] S Q') (kk : ∀ r S1, Q' r S1 → J a mi d g (pc + 3) L (r.toList ++ st) S1) : J a mi d g pc L (x1 :: x0 :: .ref (a j) :: st) S :=
  j_callV (As := [x0, x1]) hd hl hc hj hj1 hci rfl rfl hlen hrest hdd hJ kk
theorem j_cS2 {x0 x1 : Value} {idx : Nat} {r : Option Value} {S1 : St} (hd : decode mi.2.1 pc = .ok (.invokestatic idx, 3)) (hl : MLk mi idx mi'.1) (hc : CalS mi' 2) (hst : Cond.static mi'.1 ∈ TT) (hlen : (lg_sl [x0, x1]).length ≤ mi'.2.2.1) (hrest : (st.map fun v => v.category).sum ≤ 8) (hdd : d' + 1 ≤ d) (hJ : Rt a mi' d' [x0, x1] S r S1) (kk : J a mi d g (pc + 3) L (r.toList ++ st) S1) : J a mi d g pc L (x1 :: x0 :: st) S :=
  j_callS (As := [x0, x1]) hd hl hc hst rfl rfl hlen hrest hdd hJ (fun r' S' hq => by rw [hq.1, hq.2]; exact kk)
theorem j_qS2 {x0 x1 : Value} {idx : Nat} {Q' : Option Value → St → Prop} (hd : decode mi.2.1 pc = .ok (.invokestatic idx, 3)) (hl : MLk mi idx mi'.1) (hc : CalS mi' 2) (hst : Cond.static mi'.1 ∈ TT) (hlen : (lg_sl [x0, x1]).length ≤ mi'.2.2.1) (hrest : (st.map fun v => v.category).sum ≤ 8) (hdd : d' + 1 ≤ d) (hJ : Rq a mi' d' [x0, x1] S Q') (kk : ∀ r S1, Q' r S1 → J a mi d g (pc + 3) L (r.toList ++ st) S1) : J a mi d g pc L (x1 :: x0 :: st) S :=
  j_callS (As := [x0, x1]) hd hl hc hst rfl rfl hlen hrest hdd hJ kk
theorem j_cV3 {x0 x1 x2 : Value} {idx j ci : Nat} {T : u_T} {N : Nat} {r : Option Value} {S1 : St} (hd : decode mi.2.1 pc = .ok (.invokevirtual idx, 3)) (hl : Cond.methodLink mi.1.cls idx mi'.1 ∈ TT) (hc : CalV mi' 3) (hj : ck j = (0, ci)) (hj1 : j < 100) (hci : zz_Cl[ci]? = some (mi'.1.cls, T, N)) (hlen : (lg_sl [.ref (a j), x0, x1, x2]).length ≤ mi'.2.2.1) (hrest : (st.map fun v => v.category).sum ≤ 8) (hdd : d' + 1 ≤ d) (hJ : Rt a mi' d' [.ref (a j), x0, x1, x2] S r S1) (kk : J a mi d g (pc + 3) L (r.toList ++ st) S1) : J a mi d g pc L (x2 :: x1 :: x0 :: .ref (a j) :: st) S :=
  j_callV (As := [x0, x1, x2]) hd hl hc hj hj1 hci rfl rfl hlen hrest hdd hJ (fun r' S' hq => by rw [hq.1, hq.2]; exact kk)
theorem j_qV3 {x0 x1 x2 : Value} {idx j ci : Nat} {T : u_T} {N : Nat} {Q' : Option Value → St → Prop} (hd : decode mi.2.1 pc = .ok (.invokevirtual idx, 3)) (hl : Cond.methodLink mi.1.cls idx mi'.1 ∈ TT) (hc : CalV mi' 3) (hj : ck j = (0, ci)) (hj1 : j < 100) (hci : zz_Cl[ci]? = some (mi'.1.cls, T, N)) (hlen : (lg_sl [.ref (a j), x0, x1, x2]).length ≤ mi'.2.2.1) (hrest : (st.map fun v => v.category).sum ≤ 8) (hdd : d' + 1 ≤ d) (hJ : Rq a mi' d' [.ref (a j), x0, x1, x2] S Q') (kk : ∀ r S1, Q' r S1 → J a mi d g (pc + 3) L (r.toList ++ st) S1) : J a mi d g pc L (x2 :: x1 :: x0 :: .ref (a j) :: st) S :=
  j_callV (As := [x0, x1, x2]) hd hl hc hj hj1 hci rfl rfl hlen hrest hdd hJ kk
theorem j_cS3 {x0 x1 x2 : Value} {idx : Nat} {r : Option Value} {S1 : St} (hd : decode mi.2.1 pc = .ok (.invokestatic idx, 3)) (hl : MLk mi idx mi'.1) (hc : CalS mi' 3) (hst : Cond.static mi'.1 ∈ TT) (hlen : (lg_sl [x0, x1, x2]).length ≤ mi'.2.2.1) (hrest : (st.map fun v => v.category).sum ≤ 8) (hdd : d' + 1 ≤ d) (hJ : Rt a mi' d' [x0, x1, x2] S r S1) (kk : J a mi d g (pc + 3) L (r.toList ++ st) S1) : J a mi d g pc L (x2 :: x1 :: x0 :: st) S :=
  j_callS (As := [x0, x1, x2]) hd hl hc hst rfl rfl hlen hrest hdd hJ (fun r' S' hq => by rw [hq.1, hq.2]; exact kk)
theorem j_qS3 {x0 x1 x2 : Value} {idx : Nat} {Q' : Option Value → St → Prop} (hd : decode mi.2.1 pc = .ok (.invokestatic idx, 3)) (hl : MLk mi idx mi'.1) (hc : CalS mi' 3) (hst : Cond.static mi'.1 ∈ TT) (hlen : (lg_sl [x0, x1, x2]).length ≤ mi'.2.2.1) (hrest : (st.map fun v => v.category).sum ≤ 8) (hdd : d' + 1 ≤ d) (hJ : Rq a mi' d' [x0, x1, x2] S Q') (kk : ∀ r S1, Q' r S1 → J a mi d g (pc + 3) L (r.toList ++ st) S1) : J a mi d g pc L (x2 :: x1 :: x0 :: st) S :=
  j_callS (As := [x0, x1, x2]) hd hl hc hst rfl rfl hlen hrest hdd hJ kk
theorem j_cV4 {x0 x1 x2 x3 : Value} {idx j ci : Nat} {T : u_T} {N : Nat} {r : Option Value} {S1 : St} (hd : decode mi.2.1 pc = .ok (.invokevirtual idx, 3)) (hl : Cond.methodLink mi.1.cls idx mi'.1 ∈ TT) (hc : CalV mi' 4) (hj : ck j = (0, ci)) (hj1 : j < 100) (hci : zz_Cl[ci]? = some (mi'.1.cls, T, N)) (hlen : (lg_sl [.ref (a j), x0, x1, x2, x3]).length ≤ mi'.2.2.1) (hrest : (st.map fun v => v.category).sum ≤ 8) (hdd : d' + 1 ≤ d) (hJ : Rt a mi' d' [.ref (a j), x0, x1, x2, x3] S r S1) (kk : J a mi d g (pc + 3) L (r.toList ++ st) S1) : J a mi d g pc L (x3 :: x2 :: x1 :: x0 :: .ref (a j) :: st) S :=
  j_callV (As := [x0, x1, x2, x3]) hd hl hc hj hj1 hci rfl rfl hlen hrest hdd hJ (fun r' S' hq => by rw [hq.1, hq.2]; exact kk)
theorem j_qV4 {x0 x1 x2 x3 : Value} {idx j ci : Nat} {T : u_T} {N : Nat} {Q' : Option Value → St → Prop} (hd : decode mi.2.1 pc = .ok (.invokevirtual idx, 3)) (hl : Cond.methodLink mi.1.cls idx mi'.1 ∈ TT) (hc : CalV mi' 4) (hj : ck j = (0, ci)) (hj1 : j < 100) (hci : zz_Cl[ci]? = some (mi'.1.cls, T, N)) (hlen : (lg_sl [.ref (a j), x0, x1, x2, x3]).length ≤ mi'.2.2.1) (hrest : (st.map fun v => v.category).sum ≤ 8) (hdd : d' + 1 ≤ d) (hJ : Rq a mi' d' [.ref (a j), x0, x1, x2, x3] S Q') (kk : ∀ r S1, Q' r S1 → J a mi d g (pc + 3) L (r.toList ++ st) S1) : J a mi d g pc L (x3 :: x2 :: x1 :: x0 :: .ref (a j) :: st) S :=
  j_callV (As := [x0, x1, x2, x3]) hd hl hc hj hj1 hci rfl rfl hlen hrest hdd hJ kk
theorem j_cS4 {x0 x1 x2 x3 : Value} {idx : Nat} {r : Option Value} {S1 : St} (hd : decode mi.2.1 pc = .ok (.invokestatic idx, 3)) (hl : MLk mi idx mi'.1) (hc : CalS mi' 4) (hst : Cond.static mi'.1 ∈ TT) (hlen : (lg_sl [x0, x1, x2, x3]).length ≤ mi'.2.2.1) (hrest : (st.map fun v => v.category).sum ≤ 8) (hdd : d' + 1 ≤ d) (hJ : Rt a mi' d' [x0, x1, x2, x3] S r S1) (kk : J a mi d g (pc + 3) L (r.toList ++ st) S1) : J a mi d g pc L (x3 :: x2 :: x1 :: x0 :: st) S :=
  j_callS (As := [x0, x1, x2, x3]) hd hl hc hst rfl rfl hlen hrest hdd hJ (fun r' S' hq => by rw [hq.1, hq.2]; exact kk)
theorem j_qS4 {x0 x1 x2 x3 : Value} {idx : Nat} {Q' : Option Value → St → Prop} (hd : decode mi.2.1 pc = .ok (.invokestatic idx, 3)) (hl : MLk mi idx mi'.1) (hc : CalS mi' 4) (hst : Cond.static mi'.1 ∈ TT) (hlen : (lg_sl [x0, x1, x2, x3]).length ≤ mi'.2.2.1) (hrest : (st.map fun v => v.category).sum ≤ 8) (hdd : d' + 1 ≤ d) (hJ : Rq a mi' d' [x0, x1, x2, x3] S Q') (kk : ∀ r S1, Q' r S1 → J a mi d g (pc + 3) L (r.toList ++ st) S1) : J a mi d g pc L (x3 :: x2 :: x1 :: x0 :: st) S :=
  j_callS (As := [x0, x1, x2, x3]) hd hl hc hst rfl rfl hlen hrest hdd hJ kk
theorem j_cV5 {x0 x1 x2 x3 x4 : Value} {idx j ci : Nat} {T : u_T} {N : Nat} {r : Option Value} {S1 : St} (hd : decode mi.2.1 pc = .ok (.invokevirtual idx, 3)) (hl : Cond.methodLink mi.1.cls idx mi'.1 ∈ TT) (hc : CalV mi' 5) (hj : ck j = (0, ci)) (hj1 : j < 100) (hci : zz_Cl[ci]? = some (mi'.1.cls, T, N)) (hlen : (lg_sl [.ref (a j), x0, x1, x2, x3, x4]).length ≤ mi'.2.2.1) (hrest : (st.map fun v => v.category).sum ≤ 8) (hdd : d' + 1 ≤ d) (hJ : Rt a mi' d' [.ref (a j), x0, x1, x2, x3, x4] S r S1) (kk : J a mi d g (pc + 3) L (r.toList ++ st) S1) : J a mi d g pc L (x4 :: x3 :: x2 :: x1 :: x0 :: .ref (a j) :: st) S :=
  j_callV (As := [x0, x1, x2, x3, x4]) hd hl hc hj hj1 hci rfl rfl hlen hrest hdd hJ (fun r' S' hq => by rw [hq.1, hq.2]; exact kk)
theorem j_qV5 {x0 x1 x2 x3 x4 : Value} {idx j ci : Nat} {T : u_T} {N : Nat} {Q' : Option Value → St → Prop} (hd : decode mi.2.1 pc = .ok (.invokevirtual idx, 3)) (hl : Cond.methodLink mi.1.cls idx mi'.1 ∈ TT) (hc : CalV mi' 5) (hj : ck j = (0, ci)) (hj1 : j < 100) (hci : zz_Cl[ci]? = some (mi'.1.cls, T, N)) (hlen : (lg_sl [.ref (a j), x0, x1, x2, x3, x4]).length ≤ mi'.2.2.1) (hrest : (st.map fun v => v.category).sum ≤ 8) (hdd : d' + 1 ≤ d) (hJ : Rq a mi' d' [.ref (a j), x0, x1, x2, x3, x4] S Q') (kk : ∀ r S1, Q' r S1 → J a mi d g (pc + 3) L (r.toList ++ st) S1) : J a mi d g pc L (x4 :: x3 :: x2 :: x1 :: x0 :: .ref (a j) :: st) S :=
  j_callV (As := [x0, x1, x2, x3, x4]) hd hl hc hj hj1 hci rfl rfl hlen hrest hdd hJ kk
theorem j_cS5 {x0 x1 x2 x3 x4 : Value} {idx : Nat} {r : Option Value} {S1 : St} (hd : decode mi.2.1 pc = .ok (.invokestatic idx, 3)) (hl : MLk mi idx mi'.1) (hc : CalS mi' 5) (hst : Cond.static mi'.1 ∈ TT) (hlen : (lg_sl [x0, x1, x2, x3, x4]).length ≤ mi'.2.2.1) (hrest : (st.map fun v => v.category).sum ≤ 8) (hdd : d' + 1 ≤ d) (hJ : Rt a mi' d' [x0, x1, x2, x3, x4] S r S1) (kk : J a mi d g (pc + 3) L (r.toList ++ st) S1) : J a mi d g pc L (x4 :: x3 :: x2 :: x1 :: x0 :: st) S :=
  j_callS (As := [x0, x1, x2, x3, x4]) hd hl hc hst rfl rfl hlen hrest hdd hJ (fun r' S' hq => by rw [hq.1, hq.2]; exact kk)
theorem j_qS5 {x0 x1 x2 x3 x4 : Value} {idx : Nat} {Q' : Option Value → St → Prop} (hd : decode mi.2.1 pc = .ok (.invokestatic idx, 3)) (hl : MLk mi idx mi'.1) (hc : CalS mi' 5) (hst : Cond.static mi'.1 ∈ TT) (hlen : (lg_sl [x0, x1, x2, x3, x4]).length ≤ mi'.2.2.1) (hrest : (st.map fun v => v.category).sum ≤ 8) (hdd : d' + 1 ≤ d) (hJ : Rq a mi' d' [x0, x1, x2, x3, x4] S Q') (kk : ∀ r S1, Q' r S1 → J a mi d g (pc + 3) L (r.toList ++ st) S1) : J a mi d g pc L (x4 :: x3 :: x2 :: x1 :: x0 :: st) S :=
  j_callS (As := [x0, x1, x2, x3, x4]) hd hl hc hst rfl rfl hlen hrest hdd hJ kk
end Calls
