/-! constructors: arrays of arrays, of objects, calls -/
section Rows3
variable {G : KG} {mi : MI} {d : Nat} {pc : Nat} {L st : List Value} {ws : va_W} {kc ks : Nat}
def ouE (D : DD) (N : Nat) (r : Nat → Nat) : va_E := .inl (D.2 5, N, .inr (.inr (.inr (.inr (fun i => if i < N then some (r i) else none)))))
def rwL (D : DD) (N K : Nat) (r : Nat → Nat) (g : Nat → Nat → Int32) : va_W := (List.range N).map (fun w => (r w, .inl (D.2 0, K, .inl (g w))))
theorem tos_aI : "[" ++ (FieldType.array FieldType.int).toString = "[[I" := by rfl
theorem k_mna {X Z : va_W} {o1 : Nat × va_E} {n k : Int32} {idx : Nat} (N' K' : Nat) (hd : decode mi.2.1 pc = .ok (.multianewarray idx 2, 4)) (hcl : Cond.classLink mi.1.cls idx "[[I" ∈ TT) (hn : n.toNatClampNeg = N') (hk : k.toNatClampNeg = K') (hn0 : ¬ n < 0) (hk0 : ¬ k < 0) (hN : N' ≤ 100) (hK2 : K' ≤ 100) (hkc : kc + (1 + N') ≤ G.2.2.2.1) (hks : ks + (N' + N' * K') ≤ G.2.2.2.2.1) (kk : ∀ (q : Nat) (r : Nat → Nat), JK G mi d (pc + 4) L (.ref q :: st) (X ++ o1 :: (Z ++ (q, ouE G.1 N' r) :: rwL G.1 N' K' r (fun _ _ => 0))) (kc + 1 + N') (ks + N' + N' * K')) : JK G mi d pc L (.int k :: .int n :: st) (X ++ o1 :: Z) kc ks := by
  intro p l e R s m args below meth c H locs ls C hl' hP hD hS
  have hts := C.2.2.2.2.2.2.1
  have hr := C.2.2.2.2.2.2.2.1
  have hK := C.2.2.2.2.2.2.2.2.1
  have hP' : va_P G.1.1 zz_Cl ((X ++ o1 :: Z) ++ va_pl [] (fun _ => .inl (0, 0, .inl (fun _ => 0)))) H := by
    rw [show va_pl [] (fun _ => (.inl (0, 0, .inl (fun _ => 0)) : va_E)) = [] from rfl, List.append_nil]; exact hP
  have hD' : va_D G.2.1 ((X ++ o1 :: Z) ++ va_pl [] (fun _ => .inl (0, 0, .inl (fun _ => 0)))) := by
    rw [show va_pl [] (fun _ => (.inl (0, 0, .inl (fun _ => 0)) : va_E)) = [] from rfl, List.append_nil]; exact hD
  have hcy : s.vm.findClass (FieldType.array FieldType.int).toString = some (G.1.2 0) := (hK.2 0 _ rfl).2
  refine va_mna (ty := .int) (cy := G.1.2 0) (N' := N') (K' := K') (z := (K', .inl (fun _ => 0))) C.1 C.2.1 C.2.2.2.2.2.1 (by rw [tos_aI]; exact hts _ hcl) C.2.2.2.2.2.2.2.2.2.2.2.2.2.1.2 (hts _ arrc_int) hcy hK hP' hD' hS C.2.2.2.2.2.2.2.2.2.2.2.2.1 hn0 hk0 hn hk (by omega) (by show K' * 4 ≤ _; omega) (by omega) rfl rfl (by omega) (by omega) (fun cA => by rw [vp_cell_i]; exact arrV_new cA K' (.int 0)) hd (fun q r cA H1 _ _ hK1 hP1 hD1 hS1 => ?_)
  have e1 : s.vm.findClass ("[" ++ (FieldType.array .int).toString) = some cA := (hK1.2 6 _ rfl).2
  have e2 : s.vm.findClass ("[" ++ (FieldType.array .int).toString) = some (G.1.2 5) := (hK.2 5 _ rfl).2
  have e3 : cA = G.1.2 5 := Option.some.inj (e1.symm.trans e2)
  subst e3
  have h2 : ∀ f : Nat → va_E, va_pl ([] ++ (List.range N').map r) (vr_up f ((List.range N').map r) (.inl (G.1.2 0, K', .inl (fun _ => 0)))) = rwL G.1 N' K' r (fun _ _ => 0) := fun f => by
    unfold va_pl rwL
    rw [List.nil_append, List.map_map]
    apply List.map_congr_left
    intro i hi
    show (r i, vr_up _ _ _ (r i)) = _
    rw [vr_up_in (List.mem_map.mpr ⟨i, hi, rfl⟩)]
  rw [h2, List.append_assoc, List.cons_append, ap_r] at hP1 hD1
  exact kk q r p l e R s m args below meth c H1 locs ls C hl' hP1 hD1 hS1
theorem k_newq {X Z : va_W} {o1 : Nat × va_E} {n : Int32} {idx : Nat} (len : Nat) (hd : decode mi.2.1 pc = .ok (.anewarray idx, 3)) (hcl : Cond.classLink mi.1.cls idx "OtherSide$Shelf" ∈ TT) (hn : n.toNatClampNeg = len) (hn0 : ¬ n < 0) (hlen : len ≤ 1000) (hk : kc + 1 ≤ G.2.2.2.1) (hs : ks + len ≤ G.2.2.2.2.1) (kk : ∀ q, JK G mi d (pc + 3) L (.ref q :: st) (X ++ o1 :: (Z ++ [(q, .inl (G.1.2 4, len, .inr (.inr (.inr (.inr (fun _ => none))))))])) (kc + 1) (ks + len)) : JK G mi d pc L (.int n :: st) (X ++ o1 :: Z) kc ks := by
  intro p l e R s m args below meth c H locs ls C hl' hP hD hS
  have hts := C.2.2.2.2.2.2.1
  have hr := C.2.2.2.2.2.2.2.1
  have hK := C.2.2.2.2.2.2.2.2.1
  refine va_newq (C := "OtherSide$Shelf") C.1 C.2.1 C.2.2.2.2.2.1 (hts _ hcl) C.2.2.2.2.2.2.2.2.2.2.2.2.2.1.1 hK hP hD hS C.2.2.2.2.2.2.2.2.2.2.2.2.1 hn0 hn (by omega) (by omega) (by omega) hd (fun q cA H1 hK1 hP1 hD1 hS1 => ?_)
  obtain ⟨-, -, -, -, -, e1⟩ := (hK1.2 6 _ rfl).2
  obtain ⟨-, -, -, -, -, e2⟩ := (hK.2 4 _ rfl).2
  have e3 : cA = G.1.2 4 := Option.some.inj (e1.symm.trans e2)
  subst e3
  rw [ap_r] at hP1 hD1
  exact kk q p l e R s m args below meth c H1 locs ls C hl' hP1 hD1 hS1
theorem ap3_at {α : Type} (X : List α) (x : α) (Z : List α) (y : α) (Y : List α) (w : α) (W : List α) : (X ++ x :: (Z ++ y :: (Y ++ w :: W)))[X.length + (1 + (Z.length + (1 + Y.length)))]? = some w := by
  rw [List.getElem?_append_right (by omega), Nat.add_sub_cancel_left, Nat.add_comm 1, List.getElem?_cons_succ, List.getElem?_append_right (by omega), Nat.add_sub_cancel_left, Nat.add_comm 1, List.getElem?_cons_succ, List.getElem?_append_right (Nat.le_refl _), Nat.sub_self]
  rfl
/-- a shelf into the shelves -/
theorem k_astq {X Z Y W1 : va_W} {o1 : Nat × va_E} {q v len : Nat} {f : Nat → Option Nat} {vs : List Value} {i : Int32} (k : Nat) (hd : decode mi.2.1 pc = .ok (.aastore, 1)) (hi : i = nI k) (hk : k < len) (hlen : len < 2 ^ 31) (kk : JK G mi d (pc + 1) L st (X ++ o1 :: (Z ++ (q, .inl (G.1.2 4, len, .inr (.inr (.inr (.inr (va_up f k (some v))))))) :: (Y ++ (v, .inr (4, vs)) :: W1))) kc ks) : JK G mi d pc L (.ref v :: .int i :: .ref q :: st) (X ++ o1 :: (Z ++ (q, .inl (G.1.2 4, len, .inr (.inr (.inr (.inr f))))) :: (Y ++ (v, .inr (4, vs)) :: W1))) kc ks := by
  intro p l e R s m args below meth c H locs ls C hl hP hD hS
  have hc : (nI k).toNatClampNeg = k := nI_clamp (by omega)
  subst hi
  refine va_astq (r := (RX4, TX4, 5)) C.1 C.2.1 C.2.2.2.2.2.2.2.2.1 hP hD hS (X.length + (1 + Z.length)) 4 (X.length + (1 + (Z.length + (1 + Y.length)))) 4 (ap2_at _ _ _ _ _) rfl (ap3_at _ _ _ _ _ _ _) rfl (vp_in_nI hk hlen) hd (fun H1 locs1 hP1 hD1 hS1 => ?_)
  rw [hc, ap2_set] at hP1 hD1
  exact kk p l e R s m args below meth c H1 locs1 ls C hl hP1 hD1 hS1
theorem k_gets {idx i : Nat} {Cn n : String} {V : List Int32} (hd : decode mi.2.1 pc = .ok (.getstatic idx, 3)) (hz : zz_st[i]? = some (Cn, n, V)) (hl : Cond.fieldLink mi.1.cls idx Cn n "[I" ∈ TT) (kk : JK G mi d (pc + 3) L (.ref (G.2.2.1 i) :: st) ws kc ks) : JK G mi d pc L st ws kc ks := by
  intro p l e R s m args below meth c H locs ls C hl' hP hD hS
  have hZ := (C.2.2.2.2.2.2.2.2.2.2.1 i _ _ _ hz).1
  exact va_gets C.1 C.2.1 hZ hS C.2.2.2.2.2.1 (C.2.2.2.2.2.2.1 _ hl) (fun _ h => h) hd (kk p l e R s m args below meth c H locs ls C hl' hP hD hS)
theorem k_tald {i k : Nat} {Cn n : String} {V : List Int32} {x : Int32} (hd : decode mi.2.1 pc = .ok (.iaload, 1)) (hz : zz_st[i]? = some (Cn, n, V)) (hx : x = nI k) (hk : k < V.length) (hlen : V.length < 2 ^ 31) (kk : JK G mi d (pc + 1) L (.int (V.getD k 0) :: st) ws kc ks) : JK G mi d pc L (.int x :: .ref (G.2.2.1 i) :: st) ws kc ks := by
  intro p l e R s m args below meth c H locs ls C hl' hP hD hS
  have hT := (C.2.2.2.2.2.2.2.2.2.2.1 i _ _ _ hz).2
  subst hx
  exact va_ti C.1 C.2.1 hT hS (vp_in_nI hk hlen) (v := .int (V.getD k 0)) (by rw [nI_clamp (by omega)]) hd (kk p l e R s m args below meth c H locs ls C hl' hP hD hS)
/-- a row out of the rows -/
theorem k_aald {X Z Y : va_W} {o1 : Nat × va_E} {q N k : Nat} {r : Nat → Nat} {x : Int32} (hd : decode mi.2.1 pc = .ok (.aaload, 1)) (hx : x = nI k) (hk : k < N) (hN : N < 2 ^ 31) (kk : JK G mi d (pc + 1) L (.ref (r k) :: st) (X ++ o1 :: (Z ++ (q, ouE G.1 N r) :: Y)) kc ks) : JK G mi d pc L (.int x :: .ref q :: st) (X ++ o1 :: (Z ++ (q, ouE G.1 N r) :: Y)) kc ks := by
  intro p l e R s m args below meth c H locs ls C hl' hP hD hS
  subst hx
  have hcl : (nI k).toNatClampNeg = k := nI_clamp (by omega)
  have hg := ap2_at X o1 Z (q, ouE G.1 N r) Y
  have hlt : (nI k).toNatClampNeg < N := by rw [hcl]; exact hk
  refine W.aald (v := va_rf (if (nI k).toNatClampNeg < N then some (r (nI k).toNatClampNeg) else none)) (ty := .array .int) C.1 C.2.1 (hP _ _ hg) ((C.2.2.2.2.2.2.2.2.1.2 5 _ rfl).1 N (fun i => va_rf (if i < N then some (r i) else none))) rfl (fun q => by cases q) (by show ¬ (_ < 0 ∨ (arrV _ _ _).slots.size ≤ _); rw [arrV_size]; exact vp_in_nI hk hN) (by show (arrV _ _ _).slots[_]? = _; rw [arrV_read _ _ hlt]) rfl rfl hd ?_
  rw [if_pos hlt, hcl]
  exact kk p l e R s m args below meth c H locs ls C hl' hP hD hS
theorem rwL_at {D : DD} {N K w : Nat} {r : Nat → Nat} {g : Nat → Nat → Int32} (hw : w < N) : (rwL D N K r g)[w]? = some (r w, .inl (D.2 0, K, .inl (g w))) := by simp [rwL, List.getElem?_map, List.getElem?_range hw]
theorem rwL_set {D : DD} {N K w : Nat} {r : Nat → Nat} {g g' : Nat → Nat → Int32} (hg : ∀ w', w' ≠ w → g' w' = g w') : (rwL D N K r g).set w (r w, .inl (D.2 0, K, .inl (g' w))) = rwL D N K r g' := by
  unfold rwL
  exact range_set (fun i hi => by rw [hg i hi]) rfl
theorem k_iastR {X Z Y : va_W} {o1 y : Nat × va_E} {N K w : Nat} {r : Nat → Nat} {g g' : Nat → Nat → Int32} {x i : Int32} (k : Nat) (hd : decode mi.2.1 pc = .ok (.iastore, 1)) (hi : i = nI k) (hk : k < K) (hK2 : K < 2 ^ 31) (hw : w < N) (hg : ∀ w', w' ≠ w → g' w' = g w') (hgw : g' w = upd (g w) k x) (kk : JK G mi d (pc + 1) L st (X ++ o1 :: (Z ++ y :: (rwL G.1 N K r g' ++ Y))) kc ks) : JK G mi d pc L (.int x :: .int i :: .ref (r w) :: st) (X ++ o1 :: (Z ++ y :: (rwL G.1 N K r g ++ Y))) kc ks := by
  intro p l e R s m args below meth c H locs ls C hl hP hD hS
  have hc : (nI k).toNatClampNeg = k := nI_clamp (by omega)
  subst hi
  have hlen : (rwL G.1 N K r g).length = N := by simp [rwL]
  have e0 : X ++ o1 :: (Z ++ y :: (rwL G.1 N K r g ++ Y)) = (X ++ o1 :: (Z ++ [y])) ++ (rwL G.1 N K r g ++ Y) := by simp
  have e1 : X ++ o1 :: (Z ++ y :: (rwL G.1 N K r g' ++ Y)) = (X ++ o1 :: (Z ++ [y])) ++ (rwL G.1 N K r g' ++ Y) := by simp
  have ha : (X ++ o1 :: (Z ++ y :: (rwL G.1 N K r g ++ Y)))[(X ++ o1 :: (Z ++ [y])).length + w]? = some (r w, .inl (G.1.2 0, K, .inl (g w))) := by
    rw [e0, List.getElem?_append_right (by omega), Nat.add_sub_cancel_left, List.getElem?_append_left (by omega), rwL_at hw]
  refine va_iast C.1 C.2.1 C.2.2.2.2.2.2.2.2.1 hP hD hS ((X ++ o1 :: (Z ++ [y])).length + w) 0 ha rfl (vp_in_nI hk hK2) hd (fun H1 locs1 hP1 hD1 hS1 => ?_)
  rw [hc, ← hgw, e0, List.set_append_right _ _ (by omega), Nat.add_sub_cancel_left, List.set_append_left _ _ (by omega), rwL_set hg, ← e1] at hP1 hD1
  exact kk p l e R s m args below meth c H1 locs1 ls C hl hP1 hD1 hS1
def WorldK (D : DD) (F : Nat → Prop) (z : Nat → Nat) (ws : va_W) (U : State) : Prop := va_P D.1 zz_Cl ws U.heap ∧ va_D F ws ∧ va_K D.1 zz_Cl (zz_tys D) U ∧ StatK F z U U.heap ∧ (∀ w ∈ NW, va_Nw w U) ∧ (∀ q, U.heap.size ≤ q → F q) ∧ Aos U
theorem Aos.moved {u U : State} (hvm : u.vm.Alike U.vm) (h : Aos u) : Aos U := ⟨va_AO.moved hvm h.1, va_AOA.moved hvm h.2⟩
theorem WorldK.blind {D : DD} {F : Nat → Prop} {z : Nat → Nat} {As : List Value} : FrameBlind (va_Pc As (WorldK D F z ws)) := fun x U g mk q => by
  obtain ⟨q0, q1, q2, q3, q4, q5, q6, q7⟩ := q
  exact ⟨q0, q1, q2, va_K.moved (u := U) (U := U.calling g mk x) (Vm.Alike.refl U.vm) q3, StatK.moved (u := U) (U := U.calling g mk x) (Vm.Alike.refl U.vm) q4, NW_same (s := U) (U := U.calling g mk x) rfl q5, q6, Aos.moved (u := U) (U := U.calling g mk x) (Vm.Alike.refl U.vm) q7⟩
theorem worldOfK {p : Program} {R : Room} {s U : State} {m : MethodId} {args : Array Value} {meth : Method} {c : Code} {H : Heap} {locs : List Loc} (C : Cxk p R s m args meth c G mi d) (hP : va_P G.1.1 zz_Cl ws H) (hD : va_D G.2.1 ws) (hS : va_S G.2.1 s.heap H locs) (hU : U.heap = H) (hW : s.WarmedH U.vm) : WorldK G.1 G.2.1 G.2.2.1 ws U := by
  refine ⟨by rw [hU]; exact hP, hD, va_K.moved hW.alike C.2.2.2.2.2.2.2.2.1, ?_, NW_warm hW C.2.2.2.2.2.2.2.2.2.2.2.1, fun q hq => C.2.2.2.2.2.2.2.2.2.2.2.2.1 q (Nat.le_trans hS.1 (by rw [← hU]; exact hq)), Aos.moved hW.alike C.2.2.2.2.2.2.2.2.2.2.2.2.2.1⟩
  rw [hU]
  exact (C.2.2.2.2.2.2.2.2.2.2.1.kept hS.2.1).moved hW.alike
theorem K_met {D : DD} {F : Nat → Prop} {z : Nat → Nat} {K N : Nat} {Q : va_W → Prop} {As L0 : List Value} (hJ : JK (gk D F z K N Q) mi d 0 L0 [] ws 0 0) (hL : ent mi.2.2.1 As = L0) (hlen : (lg_sl As).length ≤ mi.2.2.1) (hy : plainName mi.1.cls = true) (hname : mi.1.name = "<init>") (l : Launch) : Met l mi.1 (Cond.code mi.1 mi.2.1 mi.2.2.1 mi.2.2.2 :: TT) { frames := d, cells := K, slots := N, locals := 60 * d } (va_Pc As (WorldK D F z ws)) (PKb D F Q) K N F := by
  refine Met.ofW (cc := mi.2.1) (maxL := mi.2.2.1) (ret := mi.2.2.2) hy rfl ?_
  intro p e s m args below meth c s₁ B hml hv
  obtain ⟨rfl, hP, hD, hK, hSt, hN, hF, hA⟩ := hv
  have hts := atoms_spec (ws := Cond.code mi.1 mi.2.1 mi.2.2.1 mi.2.2.2 :: TT) B.pre
  have hown : s.vm.findClass mi.1.cls = some m.cls := findClass_of_methodNamed B.named
  rw [lg_entry_eq]
  subst hL
  exact hJ p l e _ s m _ below meth c s.heap [] _ ⟨B.exec, B.bytes, hml, B.returns, B.notSynchronized, hown, fun w hw => hts w (List.mem_cons_of_mem _ hw), ⟨Nat.le_refl _, Nat.le_refl _, Nat.le_refl _, Nat.le_refl _⟩, hK, fun h => (name_of_methodNamed B.named B.method).1.trans h, hSt, hN, hF, hA, trivial⟩ (lx_entry As hlen) hP hD va_S.rf
theorem K_of_run {p : Program} {l : Launch} {e : Env} {R : Room} {s : State} {m : MethodId} {args : Array Value} {below : List Frame} {meth : Method} {c : Code} {H : Heap} {locs : List Loc} {k n K N : Nat} {Zg : State → Prop} {ls : Array Slot} {st0 rest : List Value} {D : DD} {F : Nat → Prop} {Q : va_W → Prop} {aa : Array Value} (hS : va_S F s.heap H locs)
    (hr : va_Run p l e R s m args below meth c H locs k n K N (F0 m pc ls st0) rest (PKb D F Q aa) F)
    (kk : ∀ (w1 : va_W) (H1 : Heap) (locs1 : List Loc), Q w1 → va_P D.1 zz_Cl w1 H1 → va_D F w1 → va_S F s.heap H1 locs1 → W p l e R s m args below meth c H1 locs1 (k + K) (n + N) Zg (F0 m (pc + 3) ls rest)) : W p l e R s m args below meth c H locs k n Zg (F0 m pc ls st0) := by
  intro T hT X
  obtain ⟨v, st₀, t, T', L', h0, X', hL, e1, e2, ⟨⟨hv, w1, hq, hp, hd⟩, hz, hk⟩, stp⟩ := hr T hT X
  cases hv
  rw [h0] at hz hk
  obtain ⟨t2, a1, b1⟩ := kk w1 T'.heap (locs ++ L') hq (by rw [e1]; exact hp) hd
    ⟨Nat.le_trans hS.1 (by rw [e1]; exact hz), fun q h1 h2 => by rw [e1, hk q (Nat.lt_of_lt_of_le h1 hS.1) h2]; exact hS.2.1 q h1 h2, fun q hq => by
      rcases List.mem_append.mp hq with h | h
      · exact hS.2.2 q h
      · exact hL q h⟩ T' rfl X'
  exact ⟨t2, stp t2 a1, b1⟩
/-- a constructor's call -/
theorem k_call {y' : MethodName} {c' : ByteArray} {ml' d' K N idx q : Nat} {Q : va_W → Prop} {L0 : List Value} (hd : decode mi.2.1 pc = .ok (.invokespecial idx, 3)) (hl : MLk mi idx y') (hc : CalS (y', c', ml', none) 0) (hi : Cond.instanceMethod y' ∈ TT) (hname : y'.name = "<init>") (hL : ent ml' [.ref q] = L0) (hlen : 1 ≤ ml') (hrest : (st.map fun v => v.category).sum ≤ 8) (hdd : d' + 1 ≤ d) (hk : kc + K ≤ G.2.2.2.1) (hn : ks + N ≤ G.2.2.2.2.1)
    (hJ : JK (gk G.1 G.2.1 G.2.2.1 K N Q) (y', c', ml', none) d' 0 L0 [] ws 0 0) (kk : ∀ w1, Q w1 → JK G mi d (pc + 3) L st w1 (kc + K) (ks + N)) : JK G mi d pc L (.ref q :: st) ws kc ks := by
  intro p l e R s m args below meth c H locs ls C hl' hP hD hS
  have hM := K_met hJ hL (by show 1 ≤ ml'; exact hlen) hc.2.2.1 hname l
  have hts := C.2.2.2.2.2.2.1
  have hr := C.2.2.2.2.2.2.2.1
  have hmx := hc.2.2.2.2.2
  have hmx : ml' ≤ 40 := hmx
  have hroom : ({ frames := d', cells := K, slots := N, locals := 60 * d' } : Room).frames + 1 ≤ R.frames ∧ 8 + (ml' + 11) + ({ frames := d', cells := K, slots := N, locals := 60 * d' } : Room).locals ≤ R.locals := ⟨by show d' + 1 ≤ _; omega, by show _ + 60 * d' ≤ _; omega⟩
  have hpre : PreS s H (va_Pc [.ref q] (WorldK G.1 G.2.1 G.2.2.1 ws)) [.ref q] := ⟨WorldK.blind, fun U hU hW => ⟨rfl, worldOfK C hP hD hS hU hW⟩⟩
  rcases hl with hl | ⟨host, hl⟩
  · exact K_of_run hS (va_runI (As := []) (rest := st) (index := idx) (cc := mi.2.1) (nL := mi.2.2.1) ⟨C.1, C.2.1, C.2.2.1, C.2.2.2.2.2.1, hts⟩ hM ⟨callB_of 0 hts (GoodTT hc) rfl rfl rfl (hts _ hc.2.1) (hts _ hl) ⟨hc.2.2.2.1.1, hc.2.2.2.1.2, hc.2.2.2.2.1⟩ hroom, hname, hts _ hi⟩ hpre rfl rfl hl'.1 rfl (lv_room hrest) hd ⟨by omega, by omega⟩) (fun w1 H1 locs1 hq hP1 hD1 hS1 => kk w1 hq p l e R s m args below meth c H1 locs1 ls C hl' hP1 hD1 hS1)
  · exact K_of_run hS (va_runIN (As := []) (rest := st) (index := idx) (host := host) (cc := mi.2.1) (nL := mi.2.2.1) ⟨C.1, C.2.1, C.2.2.1, C.2.2.2.2.2.1, hts⟩ hM ⟨va_cnB 0 hts (GoodTT hc) rfl rfl rfl (C.2.2.2.2.2.2.2.2.2.2.2.1 _ hl) (hts _ hc.2.1) ⟨hc.2.2.2.1.1, hc.2.2.2.1.2, hc.2.2.2.2.1⟩ hroom, hname, hts _ hi⟩ hpre rfl rfl hl'.1 rfl (lv_room hrest) hd ⟨by omega, by omega⟩) (fun w1 H1 locs1 hq hP1 hD1 hS1 => kk w1 hq p l e R s m args below meth c H1 locs1 ls C hl' hP1 hD1 hS1)
end Rows3
theorem kX7_init : CalS mX7_init 0 := ⟨TT_at 17 (by decide +kernel) rfl, TT_at 1 (by decide +kernel) rfl, by decide, by decide +kernel, by decide +kernel, by decide⟩
theorem iX7_init : Cond.instanceMethod yX7_init ∈ TT := TT_at 16 (by decide +kernel) rfl
theorem kX6_init : CalS mX6_init 0 := ⟨TT_at 25 (by decide +kernel) rfl, TT_at 2 (by decide +kernel) rfl, by decide, by decide +kernel, by decide +kernel, by decide⟩
theorem iX6_init : Cond.instanceMethod yX6_init ∈ TT := TT_at 24 (by decide +kernel) rfl
theorem kX2_init : CalS mX2_init 0 := ⟨TT_at 74 (by decide +kernel) rfl, TT_at 3 (by decide +kernel) rfl, by decide, by decide +kernel, by decide +kernel, by decide⟩
theorem iX2_init : Cond.instanceMethod yX2_init ∈ TT := TT_at 73 (by decide +kernel) rfl
theorem kX5_init : CalS mX5_init 0 := ⟨TT_at 126 (by decide +kernel) rfl, TT_at 4 (by decide +kernel) rfl, by decide, by decide +kernel, by decide +kernel, by decide⟩
theorem iX5_init : Cond.instanceMethod yX5_init ∈ TT := TT_at 125 (by decide +kernel) rfl
theorem kX3_init : CalS mX3_init 0 := ⟨TT_at 138 (by decide +kernel) rfl, TT_at 5 (by decide +kernel) rfl, by decide, by decide +kernel, by decide +kernel, by decide⟩
theorem iX3_init : Cond.instanceMethod yX3_init ∈ TT := TT_at 137 (by decide +kernel) rfl
theorem kX1_init : CalS mX1_init 0 := ⟨TT_at 156 (by decide +kernel) rfl, TT_at 6 (by decide +kernel) rfl, by decide, by decide +kernel, by decide +kernel, by decide⟩
theorem iX1_init : Cond.instanceMethod yX1_init ∈ TT := TT_at 155 (by decide +kernel) rfl
theorem kX0_init : CalS mX0_init 0 := ⟨TT_at 193 (by decide +kernel) rfl, TT_at 7 (by decide +kernel) rfl, by decide, by decide +kernel, by decide +kernel, by decide⟩
theorem iX0_init : Cond.instanceMethod yX0_init ∈ TT := TT_at 192 (by decide +kernel) rfl
theorem kX4_init : CalS mX4_init 0 := ⟨TT_at 217 (by decide +kernel) rfl, TT_at 8 (by decide +kernel) rfl, by decide, by decide +kernel, by decide +kernel, by decide⟩
theorem iX4_init : Cond.instanceMethod yX4_init ∈ TT := TT_at 216 (by decide +kernel) rfl
