theorem arrc_int : Cond.arrayClass .int ∈ TT := TT_at 69 (by decide +kernel) rfl
theorem arrc_long : Cond.arrayClass .long ∈ TT := TT_at 240 (by decide +kernel) rfl
theorem ob_i : Cond.instanceMethod Lib.objectInit ∈ TT := TT_at 19 (by decide +kernel) rfl
theorem ob_c : Cond.code Lib.objectInit ⟨#[0xb1]⟩ 1 none ∈ TT := TT_at 20 (by decide +kernel) rfl
/-! constructors: a judgement over a world that grows -/
/-- the tables' classes and arrays, the addresses that are free, the statics, the room, what else holds, the end -/
abbrev KG : Type := DD × (Nat → Prop) × (Nat → Nat) × Nat × Nat × (State → Prop) × (List Frame → Array Value → State → State → Prop)
def StatK (F : Nat → Prop) (z : Nat → Nat) (U : State) (H : Heap) : Prop := ∀ (i : Nat) (C n : String) (L : List Int32), zz_st[i]? = some (C, n, L) → va_Z C n "[I" (.ref (z i)) F U H ∧ va_T .int (z i) L.length (fun j => .int (L.getD j 0)) F U H
theorem StatK.moved {F : Nat → Prop} {z : Nat → Nat} {u U : State} {H : Heap} (hvm : u.vm.Alike U.vm) (h : StatK F z u H) : StatK F z U H := fun i C n L hz => ⟨va_Z.moved hvm (h i C n L hz).1, va_T.moved hvm (h i C n L hz).2⟩
theorem StatK.kept {F : Nat → Prop} {z : Nat → Nat} {U : State} {H H1 : Heap} (h : StatK F z U H) (hq : ∀ x : Nat, x < H.size → ¬ F x → H1[x]? = H[x]?) : StatK F z U H1 := fun i C n L hz => ⟨(h i C n L hz).1.kept hq, (h i C n L hz).2.kept hq⟩
theorem va_AOA.moved {t : FieldType} {u U : State} (hvm : u.vm.Alike U.vm) (h : va_AOA t u) : va_AOA t U := by
  obtain ⟨comp, c, k, h1, h2, h3, h4, h5⟩ := arrayOverA_spec h
  obtain ⟨k', hk', he⟩ := hvm.2.2 _ _ h3
  have hi : (U.vm.classes.findIdx? fun (x : Class) => match x.kind with | .array component _ => component == comp | _ => false) = some c := by
    have hb : ∀ vm : Vm, (vm.bare.classes.findIdx? fun (x : Class) => match x.kind with | .array component _ => component == comp | _ => false) = (vm.classes.findIdx? fun (x : Class) => match x.kind with | .array component _ => component == comp | _ => false) := fun vm => va_idx_bare vm comp
    have e1 := hb U.vm
    have e2 := hb u.vm
    rw [hvm.bare_eq] at e1
    exact e1.symm.trans (e2.trans h2)
  have hkind : k'.kind = .array comp (.array t) := by rw [he]; exact h4
  have f1 : U.vm.findClass (FieldType.array t).toString = some comp := by rw [hvm.findClass]; exact h1
  have f2 : U.vm.findClass ("[" ++ (FieldType.array t).toString) = some c := by rw [hvm.findClass]; exact h5
  unfold va_AOA Cond.before Cond.holds
  simp only [Cond.value]
  rw [f1, Option.bind_some]
  refine (congrArg (fun o : Option Nat => (o.bind (fun c => (U.vm.classes[c]?).map fun (k : Class) => match k.kind with | .array _ ty => decide (ty = FieldType.array t) && decide (U.vm.findClass ("[" ++ (FieldType.array t).toString) = some c) | _ => false) == some true)) hi).trans ?_
  simp [hk', hkind, f2]
def Aos (s : State) : Prop := va_AO "OtherSide$Shelf" s ∧ va_AOA .int s
def Cxk (p : Program) (R : Room) (s : State) (m : MethodId) (args : Array Value) (meth : Method) (c : Code) (G : KG) (mi : MI) (d : Nat) : Prop :=
  p.tables.exec = Jvm.exec ∧ c.code = mi.2.1 ∧ c.maxLocals = mi.2.2.1 ∧ meth.sig.returnType = mi.2.2.2 ∧ meth.locks = false ∧ s.vm.findClass mi.1.cls = some m.cls ∧ (∀ w ∈ TT, w.before args s = true) ∧ (d ≤ R.frames ∧ 60 * d ≤ R.locals ∧ G.2.2.2.1 ≤ R.cells ∧ G.2.2.2.2.1 ≤ R.slots) ∧ va_K G.1.1 zz_Cl (zz_tys G.1) s ∧ (mi.1.name = "<init>" → meth.name = "<init>") ∧ StatK G.2.1 G.2.2.1 s s.heap ∧ (∀ w ∈ NW, va_Nw w s) ∧ (∀ q, s.heap.size ≤ q → G.2.1 q) ∧ Aos s ∧ G.2.2.2.2.2.1 s
def JK (G : KG) (mi : MI) (d pc : Nat) (L st : List Value) (ws : va_W) (kc ks : Nat) : Prop :=
  ∀ (p : Program) (l : Launch) (e : Env) (R : Room) (s : State) (m : MethodId) (args : Array Value) (below : List Frame) (meth : Method) (c : Code) (H : Heap) (locs : List Loc) (ls : Array Slot), Cxk p R s m args meth c G mi d → lx ls mi.2.2.1 L → va_P G.1.1 zz_Cl ws H → va_D G.2.1 ws → va_S G.2.1 s.heap H locs → W p l e R s m args below meth c H locs kc ks (G.2.2.2.2.2.2 below args s) (F0 m pc ls st)
def PKb (D : DD) (F : Nat → Prop) (Q : va_W → Prop) : Array Value → State → Outcome → State → Prop := fun _ st oc t => (oc = .returned none ∧ ∃ ws, Q ws ∧ va_P D.1 zz_Cl ws t.heap ∧ va_D F ws) ∧ va_F F st t
/-- of a method with room for K cells of N slots -/
def gk (D : DD) (F : Nat → Prop) (z : Nat → Nat) (K N : Nat) (Q : va_W → Prop) : KG := (D, F, z, K, N, (fun _ => True), fun below args s => MQ below (PKb D F Q) args s K N F)
theorem ap_at {α : Type} (X : List α) (x : α) (Z : List α) : (X ++ x :: Z)[X.length]? = some x := by simp
theorem ap_set {α : Type} (X : List α) (x y : α) (Z : List α) : (X ++ x :: Z).set X.length y = X ++ y :: Z := by simp
section Rows
variable {G : KG} {mi : MI} {d : Nat} {pc : Nat} {L st : List Value} {ws : va_W} {kc ks : Nat}


theorem k_iconst {n : Int} (v : Int32) (hd : decode mi.2.1 pc = .ok (.iconst n, 1)) (hv : Int32.ofInt n = v) (k : JK G mi d (pc + 1) (L) (.int v :: st) ws kc ks) : JK G mi d (pc) (L) (st) ws kc ks := by
  intro p l e R s m args below meth c H locs ls C hl hP hD hS
  exact lv_iconst C.1 C.2.1 hd hv (k p l e R s m args below meth c H locs ls C hl hP hD hS)
theorem k_bipush {n : Int} (v : Int32) (hd : decode mi.2.1 pc = .ok (.bipush n, 2)) (hv : (Int8.ofInt n).toInt32 = v) (k : JK G mi d (pc + 2) (L) (.int v :: st) ws kc ks) : JK G mi d (pc) (L) (st) ws kc ks := by
  intro p l e R s m args below meth c H locs ls C hl hP hD hS
  exact lv_bipush C.1 C.2.1 hd hv (k p l e R s m args below meth c H locs ls C hl hP hD hS)
theorem k_sipush {n : Int} (v : Int32) (hd : decode mi.2.1 pc = .ok (.sipush n, 3)) (hv : (Int16.ofInt n).toInt32 = v) (k : JK G mi d (pc + 3) (L) (.int v :: st) ws kc ks) : JK G mi d (pc) (L) (st) ws kc ks := by
  intro p l e R s m args below meth c H locs ls C hl hP hD hS
  exact lv_sipush C.1 C.2.1 hd hv (k p l e R s m args below meth c H locs ls C hl hP hD hS)
theorem k_lconst {n : Fin 2} (v : Int64) (hd : decode mi.2.1 pc = .ok (.lconst n, 1)) (hv : Int64.ofNat (n : Nat) = v) (k : JK G mi d (pc + 1) (L) (.long v :: st) ws kc ks) : JK G mi d (pc) (L) (st) ws kc ks := by
  intro p l e R s m args below meth c H locs ls C hl hP hD hS
  exact lv_lconst C.1 C.2.1 hd hv (k p l e R s m args below meth c H locs ls C hl hP hD hS)
theorem k_dup {v : Value} (hd : decode mi.2.1 pc = .ok (.dup, 1)) (h : v.category = 1) (k : JK G mi d (pc + 1) (L) (v :: v :: st) ws kc ks) : JK G mi d (pc) (L) (v :: st) ws kc ks := by
  intro p l e R s m args below meth c H locs ls C hl hP hD hS
  exact lv_dup C.1 C.2.1 hd h (k p l e R s m args below meth c H locs ls C hl hP hD hS)
theorem k_icmpge {x y : Int32} {off : Int} (tgt : Nat) (hd : decode mi.2.1 pc = .ok (.if_icmp .ge off, 3)) (ht : (pc : Int) + off = (tgt : Int)) (kt : y ≤ x → JK G mi d (tgt) (L) (st) ws kc ks) (kf : ¬ (y ≤ x) → JK G mi d (pc + 3) (L) (st) ws kc ks) : JK G mi d (pc) (L) (.int y :: .int x :: st) ws kc ks := by
  intro p l e R s m args below meth c H locs ls C hl hP hD hS
  exact lv_icmp_ge C.1 C.2.1 hd ht (fun h => kt (by first | exact h | exact Int32.not_lt.mp h | exact Int32.not_le.mp h | simpa using h) p l e R s m args below meth c H locs ls C hl hP hD hS) (fun h => kf (by first | exact h | (intro q; first | exact h q | exact absurd q (by first | exact Int32.not_le.mpr h | exact Int32.not_lt.mpr h | simpa using h))) p l e R s m args below meth c H locs ls C hl hP hD hS)
theorem k_goto {off : Int} (tgt : Nat) (hd : decode mi.2.1 pc = .ok (.goto off, 3)) (ht : (pc : Int) + off = (tgt : Int)) (k : JK G mi d (tgt) (L) (st) ws kc ks) : JK G mi d (pc) (L) (st) ws kc ks := by
  intro p l e R s m args below meth c H locs ls C hl hP hD hS
  exact lv_goto C.1 C.2.1 hd ht (k p l e R s m args below meth c H locs ls C hl hP hD hS)
theorem k_ald0 {x : Nat} (hd : decode mi.2.1 pc = .ok (.aload_n 0, 1)) (k : JK G mi d (pc + 1) (.ref x :: L) (.ref x :: st) ws kc ks) : JK G mi d (pc) (.ref x :: L) (st) ws kc ks := by
  intro p l e R s m args below meth c H locs ls C hl hP hD hS
  exact lv_aload_n C.1 C.2.1 hd rfl (lx_at hl (i := 0) (v := .ref x) (by simp) rfl) (k p l e R s m args below meth c H locs ls C hl hP hD hS)
theorem k_ild1 {v0 : Value} {x : Int32} (hd : decode mi.2.1 pc = .ok (.iload_n 1, 1)) (k : JK G mi d (pc + 1) (v0 :: .int x :: L) (.int x :: st) ws kc ks) : JK G mi d (pc) (v0 :: .int x :: L) (st) ws kc ks := by
  intro p l e R s m args below meth c H locs ls C hl hP hD hS
  exact lv_iload_n C.1 C.2.1 hd rfl (lx_at hl (i := 1) (v := .int x) (by simp) rfl) (k p l e R s m args below meth c H locs ls C hl hP hD hS)
theorem k_ist1 {v0 : Value} {w : Value} {x : Int32} (hd : decode mi.2.1 pc = .ok (.istore_n 1, 1)) (hc : v0.category = 1) (hn : 1 < mi.2.2.1) (k : JK G mi d (pc + 1) (v0 :: .int x :: L) (st) ws kc ks) : JK G mi d (pc) (v0 :: w :: L) (.int x :: st) ws kc ks := by
  intro p l e R s m args below meth c H locs ls C hl hP hD hS
  exact lv_istore_n (i := 1) C.1 C.2.1 hd rfl hl hn rfl (fun ls' hl' => k p l e R s m args below meth c H locs ls' C (lx_of1 (L := v0 :: w :: L) (i := 1) (x := .int x) (fun w _ q => by cases q; exact hc) hl') hP hD hS)
theorem k_iinc1 {v0 : Value} {x : Int32} {n : Int} (y : Int32) (hd : decode mi.2.1 pc = .ok (.iinc 1 n, 3)) (hy : x + Int32.ofInt n = y) (hc : v0.category = 1) (hn : 1 < mi.2.2.1) (k : JK G mi d (pc + 3) (v0 :: .int y :: L) (st) ws kc ks) : JK G mi d (pc) (v0 :: .int x :: L) (st) ws kc ks := by
  intro p l e R s m args below meth c H locs ls C hl hP hD hS
  obtain ⟨q, hq⟩ := lx_ix hl (i := 1) (v := .int x) (by simp) rfl
  exact lv_iinc C.1 C.2.1 hd hl hq hy hn rfl (fun ls' hl' => k p l e R s m args below meth c H locs ls' C (lx_of1 (L := v0 :: .int x :: L) (i := 1) (x := .int y) (fun w _ q => by cases q; exact hc) hl') hP hD hS)
theorem k_ild2 {v0 v1 : Value} {x : Int32} (hd : decode mi.2.1 pc = .ok (.iload_n 2, 1)) (k : JK G mi d (pc + 1) (v0 :: v1 :: .int x :: L) (.int x :: st) ws kc ks) : JK G mi d (pc) (v0 :: v1 :: .int x :: L) (st) ws kc ks := by
  intro p l e R s m args below meth c H locs ls C hl hP hD hS
  exact lv_iload_n C.1 C.2.1 hd rfl (lx_at hl (i := 2) (v := .int x) (by simp) rfl) (k p l e R s m args below meth c H locs ls C hl hP hD hS)
theorem k_ist2 {v0 v1 : Value} {w : Value} {x : Int32} (hd : decode mi.2.1 pc = .ok (.istore_n 2, 1)) (hc : v1.category = 1) (hn : 2 < mi.2.2.1) (k : JK G mi d (pc + 1) (v0 :: v1 :: .int x :: L) (st) ws kc ks) : JK G mi d (pc) (v0 :: v1 :: w :: L) (.int x :: st) ws kc ks := by
  intro p l e R s m args below meth c H locs ls C hl hP hD hS
  exact lv_istore_n (i := 2) C.1 C.2.1 hd rfl hl hn rfl (fun ls' hl' => k p l e R s m args below meth c H locs ls' C (lx_of1 (L := v0 :: v1 :: w :: L) (i := 2) (x := .int x) (fun w _ q => by cases q; exact hc) hl') hP hD hS)
theorem k_iinc2 {v0 v1 : Value} {x : Int32} {n : Int} (y : Int32) (hd : decode mi.2.1 pc = .ok (.iinc 2 n, 3)) (hy : x + Int32.ofInt n = y) (hc : v1.category = 1) (hn : 2 < mi.2.2.1) (k : JK G mi d (pc + 3) (v0 :: v1 :: .int y :: L) (st) ws kc ks) : JK G mi d (pc) (v0 :: v1 :: .int x :: L) (st) ws kc ks := by
  intro p l e R s m args below meth c H locs ls C hl hP hD hS
  obtain ⟨q, hq⟩ := lx_ix hl (i := 2) (v := .int x) (by simp) rfl
  exact lv_iinc C.1 C.2.1 hd hl hq hy hn rfl (fun ls' hl' => k p l e R s m args below meth c H locs ls' C (lx_of1 (L := v0 :: v1 :: .int x :: L) (i := 2) (x := .int y) (fun w _ q => by cases q; exact hc) hl') hP hD hS)
theorem k_ws {ws' : va_W} (h : ws = ws') (kk : JK G mi d pc L st ws' kc ks) : JK G mi d pc L st ws kc ks := h ▸ kk
theorem k_gen {X Z : va_W} {o1 : Nat × va_E} (kk : ∀ Z', Z' = Z → JK G mi d pc L st (X ++ o1 :: Z') kc ks) : JK G mi d pc L st (X ++ o1 :: Z) kc ks := kk Z rfl
theorem k_ret {D : DD} {F : Nat → Prop} {z : Nat → Nat} {K N : Nat} {Q : va_W → Prop} (hd : decode mi.2.1 pc = .ok (.return_, 1)) (hr : mi.2.2.2 = none) (hk : kc ≤ K) (hn : ks ≤ N) (hq : Q ws) : JK (gk D F z K N Q) mi d pc L [] ws kc ks := by
  intro p l e R s m args below meth c H locs ls C hl hP hD hS
  refine W.widen hk hn ?_
  exact W.vret C.1 C.2.1 (C.2.2.2.1.trans hr) (fun t ht hW => ⟨⟨rfl, ws, hq, by rw [ht]; exact hP, hD⟩, hS.F ht⟩) (fun q hq => hS.2.2 q hq) hd C.2.2.2.2.1
theorem k_objInit {idx q0 : Nat} (hd : decode mi.2.1 pc = .ok (.invokespecial idx, 3)) (hl : Cond.methodLink mi.1.cls idx Lib.objectInit ∈ TT) (hi : Cond.instanceMethod Lib.objectInit ∈ TT) (hc : Cond.code Lib.objectInit ⟨#[0xb1]⟩ 1 none ∈ TT) (hrest : (st.map fun v => v.category).sum ≤ 8) (hdd : 1 ≤ d) (kk : JK G mi d (pc + 3) L st ws kc ks) : JK G mi d pc L (.ref q0 :: st) ws kc ks := by
  intro p l e R s m args below meth c H locs ls C hl' hP hD hS
  have hts := C.2.2.2.2.2.2.1
  have hr := C.2.2.2.2.2.2.2.1
  refine W.objInit C.1 C.2.1 C.2.2.2.2.2.1 (hts _ hl) (hts _ hi) (hts _ hc) rfl (by rw [C.2.2.1]; exact hl'.1) rfl hd (by omega) ?_ (kk p l e R s m args below meth c H locs ls C hl' hP hD hS)
  show 2 * 0 + _ + 12 ≤ _
  omega
theorem k_new {idx ci N : Nat} {T : u_T} {Cn : String} (fs : List Value) (tys : Nat → FieldType) (hd : decode mi.2.1 pc = .ok (.new idx, 3)) (hc : zz_Cl[ci]? = some (Cn, T, N)) (hw : ∀ w ∈ u_ws Cn T N, w ∈ TT) (hty : ∀ k, k < N → parseFieldDescriptor (T k).2.2.1 = some (tys k)) (hcl : Cond.classLink mi.1.cls idx Cn ∈ TT) (hin : Cond.instantiable Cn N ∈ TT) (hini : Cond.initialized Cn ∈ TT) (hfs : ∀ j, j < N → defaultValue (tys j) = vp_V fs j) (hk : kc + 1 ≤ G.2.2.2.1) (hn : ks + N ≤ G.2.2.2.2.1) (kk : ∀ q, JK G mi d (pc + 3) L (.ref q :: st) (ws ++ [(q, .inr (ci, fs))]) (kc + 1) (ks + N)) : JK G mi d pc L st ws kc ks := by
  intro p l e R s m args below meth c H locs ls C hl' hP hD hS
  have hts := C.2.2.2.2.2.2.1
  have hr := C.2.2.2.2.2.2.2.1
  exact va_new C.1 C.2.1 hts hw tys hty C.2.2.2.2.2.1 (hts _ hcl) (hts _ hin) (hts _ hini) C.2.2.2.2.2.2.2.2.1 hP hD hS C.2.2.2.2.2.2.2.2.2.2.2.2.1 hc hfs (by omega) (by omega) hd (fun q H1 hP1 hD1 hS1 => kk q p l e R s m args below meth c H1 locs ls C hl' hP1 hD1 hS1)
theorem k_put {X Z : va_W} {q0 ci k idx : Nat} {T : u_T} {v : Value} {fs : List Value} {ty : FieldType} (hd : decode mi.2.1 pc = .ok (.putfield idx, 3)) (hT : CLk ci T) (hl2 : Cond.fieldLink mi.1.cls idx (T k).1 (T k).2.1 (T k).2.2.1 ∈ TT) (hk : k < nf ci) (hlen : fs.length = nf ci) (hown : (T k).1 = mi.1.cls) (hname : mi.1.name = "<init>") (e1 : parseFieldDescriptor (T k).2.2.1 = some ty) (hn : narrow ty v = v) (hfit : fits ty v = true) (kk : ∀ fs', fs' = fs.set k v → fs'.length = nf ci → JK G mi d (pc + 3) L st (X ++ (q0, .inr (ci, fs')) :: Z) kc ks) : JK G mi d pc L (v :: .ref q0 :: st) (X ++ (q0, .inr (ci, fs)) :: Z) kc ks := by
  intro p l e R s m args below meth c H locs ls C hl' hP hD hS
  obtain ⟨Cn, N, hc, hN, hw, ⟨tys, ht, -⟩, hnm⟩ := hT
  have hts := C.2.2.2.2.2.2.1
  have kk' := kk (fs.set k v) rfl (by simpa using hlen)
  by_cases hfin : (T k).2.2.2 = true
  · refine va_putF C.1 C.2.1 hts hw tys ht hnm C.2.2.2.2.2.1 C.2.2.2.2.2.2.2.2.1 hP hD hS X.length (ap_at _ _ _) hc k (by omega) (hts _ hl2) (fun _ h => h) hfin (C.2.2.2.2.2.2.2.2.2.1 hname) hown e1 hn hfit (by omega) hd (fun H1 locs1 hP1 hD1 hS1 => ?_)
    rw [ap_set] at hP1 hD1
    exact kk' p l e R s m args below meth c H1 locs1 ls C hl' hP1 hD1 hS1
  · refine va_put C.1 C.2.1 hts hw tys ht hnm C.2.2.2.2.2.1 C.2.2.2.2.2.2.2.2.1 hP hD hS X.length (ap_at _ _ _) hc k (by omega) (hts _ hl2) (fun _ h => h) (Bool.eq_false_iff.mpr hfin) e1 hn hfit (by omega) hd (fun H1 locs1 hP1 hD1 hS1 => ?_)
    rw [ap_set] at hP1 hD1
    exact kk' p l e R s m args below meth c H1 locs1 ls C hl' hP1 hD1 hS1
theorem k_get {X Z : va_W} {q0 ci k idx : Nat} {T : u_T} {v : Value} {fs : List Value} (hd : decode mi.2.1 pc = .ok (.getfield idx, 3)) (hT : CLk ci T) (hl2 : Cond.fieldLink mi.1.cls idx (T k).1 (T k).2.1 (T k).2.2.1 ∈ TT) (hk : k < nf ci) (hv : fs[k]? = some v) (kk : JK G mi d (pc + 3) L (v :: st) (X ++ (q0, .inr (ci, fs)) :: Z) kc ks) : JK G mi d pc L (.ref q0 :: st) (X ++ (q0, .inr (ci, fs)) :: Z) kc ks := by
  intro p l e R s m args below meth c H locs ls C hl' hP hD hS
  obtain ⟨Cn, N, hc, hN, hw, -⟩ := hT
  have hts := C.2.2.2.2.2.2.1
  exact va_get C.1 C.2.1 hts hw C.2.2.2.2.2.1 C.2.2.2.2.2.2.2.2.1 hP X.length (ap_at _ _ _) hc k (by omega) (hts _ hl2) (fun _ h => h) hv hd (kk p l e R s m args below meth c H locs ls C hl' hP hD hS)
theorem ap_r {α : Type} (X : List α) (x : α) (Z : List α) (y : List α) : (X ++ x :: Z) ++ y = X ++ x :: (Z ++ y) := by simp
theorem k_new_int {X Z : va_W} {o1 : Nat × va_E} {n : Int32} (len : Nat) (hd : decode mi.2.1 pc = .ok (.newarray .int, 2)) (hn : n.toNatClampNeg = len) (hn0 : ¬ n < 0) (hlen : len ≤ 1000) (hk : kc + 1 ≤ G.2.2.2.1) (hs : ks + len ≤ G.2.2.2.2.1) (kk : ∀ q, JK G mi d (pc + 2) L (.ref q :: st) (X ++ o1 :: (Z ++ [(q, .inl (G.1.2 0, len, .inl (fun _ => 0)))])) (kc + 1) (ks + len)) : JK G mi d pc L (.int n :: st) (X ++ o1 :: Z) kc ks := by
  intro p l e R s m args below meth c H locs ls C hl' hP hD hS
  have hts := C.2.2.2.2.2.2.1
  have hr := C.2.2.2.2.2.2.2.1
  have hK := C.2.2.2.2.2.2.2.2.1
  refine va_newa (atype := .int) (ty := .int) (a0 := (len, .inl (fun _ => 0))) C.1 C.2.1 (hts _ arrc_int) rfl hK hP hD hS C.2.2.2.2.2.2.2.2.2.2.2.2.1 (fun cA => rfl) hn0 hn (by show len * 4 ≤ _; omega) (by omega) (by omega) hd (fun q cA H1 hK1 hP1 hD1 hS1 => ?_)
  have e1 : s.vm.findClass ("[" ++ (FieldType.int).toString) = some cA := (hK1.2 6 _ rfl).2
  have e2 : s.vm.findClass ("[" ++ (FieldType.int).toString) = some (G.1.2 0) := (hK.2 0 _ rfl).2
  have e3 : cA = G.1.2 0 := Option.some.inj (e1.symm.trans e2)
  subst e3
  rw [ap_r] at hP1 hD1
  exact kk q p l e R s m args below meth c H1 locs ls C hl' hP1 hD1 hS1
theorem k_new_long {X Z : va_W} {o1 : Nat × va_E} {n : Int32} (len : Nat) (hd : decode mi.2.1 pc = .ok (.newarray .long, 2)) (hn : n.toNatClampNeg = len) (hn0 : ¬ n < 0) (hlen : len ≤ 1000) (hk : kc + 1 ≤ G.2.2.2.1) (hs : ks + len ≤ G.2.2.2.2.1) (kk : ∀ q, JK G mi d (pc + 2) L (.ref q :: st) (X ++ o1 :: (Z ++ [(q, .inl (G.1.2 3, len, .inr (.inl (fun _ => 0))))])) (kc + 1) (ks + len)) : JK G mi d pc L (.int n :: st) (X ++ o1 :: Z) kc ks := by
  intro p l e R s m args below meth c H locs ls C hl' hP hD hS
  have hts := C.2.2.2.2.2.2.1
  have hr := C.2.2.2.2.2.2.2.1
  have hK := C.2.2.2.2.2.2.2.2.1
  refine va_newa (atype := .long) (ty := .long) (a0 := (len, .inr (.inl (fun _ => 0)))) C.1 C.2.1 (hts _ arrc_long) rfl hK hP hD hS C.2.2.2.2.2.2.2.2.2.2.2.2.1 (fun cA => rfl) hn0 hn (by show len * 8 ≤ _; omega) (by omega) (by omega) hd (fun q cA H1 hK1 hP1 hD1 hS1 => ?_)
  have e1 : s.vm.findClass ("[" ++ (FieldType.long).toString) = some cA := (hK1.2 6 _ rfl).2
  have e2 : s.vm.findClass ("[" ++ (FieldType.long).toString) = some (G.1.2 3) := (hK.2 3 _ rfl).2
  have e3 : cA = G.1.2 3 := Option.some.inj (e1.symm.trans e2)
  subst e3
  rw [ap_r] at hP1 hD1
  exact kk q p l e R s m args below meth c H1 locs ls C hl' hP1 hD1 hS1
theorem ap2_at {α : Type} (X : List α) (x : α) (Z : List α) (y : α) (Y : List α) : (X ++ x :: (Z ++ y :: Y))[X.length + (1 + Z.length)]? = some y := by
  rw [List.getElem?_append_right (by omega), Nat.add_sub_cancel_left, Nat.add_comm 1, List.getElem?_cons_succ, List.getElem?_append_right (Nat.le_refl _), Nat.sub_self]
  rfl
theorem ap2_set {α : Type} (X : List α) (x : α) (Z : List α) (y w : α) (Y : List α) : (X ++ x :: (Z ++ y :: Y)).set (X.length + (1 + Z.length)) w = X ++ x :: (Z ++ w :: Y) := by
  rw [List.set_append_right _ _ (by omega), Nat.add_sub_cancel_left, Nat.add_comm 1, List.set_cons_succ, List.set_append_right _ _ (Nat.le_refl _), Nat.sub_self]
  rfl
/-- an int into an array -/
theorem k_iast {X Z Y : va_W} {o1 : Nat × va_E} {q len : Nat} {f : Nat → Int32} {x i : Int32} (k : Nat) (hd : decode mi.2.1 pc = .ok (.iastore, 1)) (hi : i = nI k) (hk : k < len) (hlen : len < 2 ^ 31) (kk : JK G mi d (pc + 1) L st (X ++ o1 :: (Z ++ (q, .inl (G.1.2 0, len, .inl (upd f k x))) :: Y)) kc ks) : JK G mi d pc L (.int x :: .int i :: .ref q :: st) (X ++ o1 :: (Z ++ (q, .inl (G.1.2 0, len, .inl f)) :: Y)) kc ks := by
  intro p l e R s m args below meth c H locs ls C hl' hP hD hS
  have hc : (nI k).toNatClampNeg = k := nI_clamp (by omega)
  subst hi
  refine va_iast C.1 C.2.1 C.2.2.2.2.2.2.2.2.1 hP hD hS (X.length + (1 + Z.length)) 0 (ap2_at _ _ _ _ _) rfl (vp_in_nI hk hlen) hd (fun H1 locs1 hP1 hD1 hS1 => ?_)
  rw [hc, ap2_set] at hP1 hD1
  exact kk p l e R s m args below meth c H1 locs1 ls C hl' hP1 hD1 hS1
end Rows
