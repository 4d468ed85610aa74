/-! Math.abs of a number: the machine runs its own row for it -/
theorem t_abs_c : Cond.code yJ9_abs_294c1 cJ9_abs_294c1 2 (some .double) ∈ TT := TT_at 702 (by decide +kernel) rfl
theorem t_abs_s : Cond.static yJ9_abs_294c1 ∈ TT := TT_at 701 (by decide +kernel) rfl
theorem ab_nn {x : UInt64} (h : DF x) : x &&& 0x7fffffffffffffff ≤ 0x7ff0000000000000 := by
  have h1 : ¬ FP.dIsNaN x = true := fun z => h.ne_nan ((FP.Core.dIsNaN_iff x).mp z)
  rw [FP.Core.isNaN_bits] at h1
  rw [UInt64.le_iff_toNat_le, UInt64.toNat_and]
  have e1 : (0x7fffffffffffffff : UInt64).toNat = 2 ^ 63 - 1 := rfl
  have e2 : (0x7ff0000000000000 : UInt64).toNat = 9218868437227405312 := rfl
  rw [e1, e2, Nat.and_two_pow_sub_one_eq_mod]
  omega
set_option maxRecDepth 100000 in
/-- the row that stands for it -/
theorem ab_row (p : Program) : ∃ r : NativeRow, NativeRow.find? p.tables.natives "java/lang/Math" "abs" "(D)D" = some r ∧ ∀ a : UInt64, r.sem #[.double a] = (do
    let b ← anyNaN64 (a &&& 0x7fffffffffffffff)
    mark "nat.java_lang_Math.abs"
    Pure.pure (some (.double b))) := by
  cases p <;> exact ⟨_, rfl, fun _ => rfl⟩
/-- of a number: nothing drawn, nothing changed -/
theorem ab_sem {r : NativeRow} {x : UInt64} (hr : ∀ a : UInt64, r.sem #[.double a] = (do
    let b ← anyNaN64 (a &&& 0x7fffffffffffffff)
    mark "nat.java_lang_Math.abs"
    Pure.pure (some (.double b)))) (hx : DF x) (e : Env) (U : State) : ∃ k, (r.sem #[.double x]).run e U = .ok (some (.double (x &&& 0x7fffffffffffffff))) U k := by
  have hm : (x &&& 0x7fffffffffffffff) &&& 0x7fffffffffffffff ≤ 0x7ff0000000000000 := ab_nn (abs_DF hx).1
  rw [hr x]
  unfold anyNaN64
  rw [if_pos hm]
  exact ⟨_, rfl⟩
theorem ab_ov {tb : Tables} {e : Env} {U : State} {f : JFrame} {k : Class} {q : Method} {row : NativeRow} (h0 : f.pc = 0) (h1 : U.vm.classes[f.method.cls]? = some k) (h2 : k.name = "java/lang/Math") (h3 : k.loader = none) (h4 : k.methods[f.method.idx]? = some q) (h5 : NativeRow.find? tb.natives "java/lang/Math" q.name q.desc = some row) : overridden tb e U f = some row := by
  unfold overridden
  simp [h0, h1, h2, h3, h4, h5, overriddenIn]
section AbsRow
variable {p : Program} {e : Env} {below : List Frame}
/-- a call of it: the frame is made, then its row runs in the frame's place and hands the number over -/
theorem ab_back {l : Launch} {R : Room} {s : State} {sargs : Array Value} {len V : Nat} {x : UInt64} (hx : DF x) (hw : (Cond.code yJ9_abs_294c1 cJ9_abs_294c1 2 (some .double)).before sargs s = true) (hf : 1 ≤ R.frames) (hl : V + 13 ≤ R.locals) :
    Back l R p e below s sargs yJ9_abs_294c1 len V (fun A a => A.cells ≤ R.cells ∧ A.slots ≤ R.slots ∧ a = #[.double x]) (fun A _ v B => v = some (.double (x &&& 0x7fffffffffffffff)) ∧ B = A) := by
  rintro m meth c A g ig mk _ X hg hsz hdg hV hnm ⟨-, -, rfl⟩
  refine ⟨_, A, X, ⟨rfl, rfl⟩, ?_⟩
  have hw1 : (Cond.code yJ9_abs_294c1 cJ9_abs_294c1 2 (some .double)).before sargs A.U = true := Cond.tabsOnly_warm (args' := sargs) (T := A.U) X.warmed _ rfl hw
  obtain ⟨q, cq, q1, q2, -, q3, -, q4, -, q5⟩ := Cond.code_spec hnm hw1
  obtain ⟨kc, hk, hkn⟩ := className_of_methodNamed hnm
  obtain ⟨hq1, hq2⟩ := name_of_methodNamed hnm q1
  have hboot : kc.loader = none := Vm.bootOf_findClass (findClass_of_methodNamed hnm) hk
  have hkq : kc.methods[mk.idx]? = some q := by simpa [Vm.method?, hk] using q1
  obtain ⟨row, hrow, hsem⟩ := ab_row p
  obtain ⟨g0, hg0⟩ := Option.isSome_iff_exists.mp X.here.top
  obtain ⟨r, hr⟩ := State.topJava?_eq_some.mp hg0
  have hcur : A.U.cur < A.U.threads.size := State.cur_lt_of_frames hr
  have htp : ∀ f : JFrame, A.U.setTop f = A.U.setFrames (.java f :: r) := fun f => State.setTop_of_frames f hr
  have hfull := X.notFull hsz (vars := 2) hf (by omega)
  -- the frame made
  have hE : (doInvoke e (A.U.setTop g) [] mk #[.double x]).1 = A.U.setFrames (.java (entryFrame mk #[.double x] 2) :: .java g :: r) := by
    rw [(doInvoke_java (s := A.U.setTop g) (e := e) (acts := []) (args := #[.double x]) (meth := q) (code := cq) q1 q2 q4 (by rw [q3]; exact hfull)).1, q3, State.pushFrame, State.frames_setTop _ hr, htp g, State.setFrames_setFrames]
    rfl
  rw [hE]
  -- its row
  have hfr : (A.U.setFrames (.java (entryFrame mk #[.double x] 2) :: .java g :: r)).frames = .java (entryFrame mk #[.double x] 2) :: .java g :: r := State.frames_setFrames _ hcur
  have hov : overridden p.tables e (A.U.setFrames (.java (entryFrame mk #[.double x] 2) :: .java g :: r)) (entryFrame mk #[.double x] 2) = some row := by
    have hk2 : (A.U.setFrames (.java (entryFrame mk #[.double x] 2) :: .java g :: r)).vm.classes[mk.cls]? = some kc := hk
    have hn1 : kc.name = "java/lang/Math" := hkn
    have hn2 : NativeRow.find? p.tables.natives kc.name q.name q.desc = some row := by
      rw [hn1, hq1, hq2]
      exact hrow
    exact ab_ov rfl hk2 hn1 hboot hkq (hn1 ▸ hn2)
  have hct : argCount (A.U.setFrames (.java (entryFrame mk #[.double x] 2) :: .java g :: r)) mk = q.sig.parameters.length + (if q.isStatic then 0 else 1) := by
    have hk2 : (A.U.setFrames (.java (entryFrame mk #[.double x] 2) :: .java g :: r)).vm.classes[mk.cls]? = some kc := hk
    unfold argCount
    simp only [hk2, Option.bind_some, hkq]
  have hp1 : q.sig.parameters.length = 1 := by
    have h2 : parseMethodDescriptor yJ9_abs_294c1.desc = some { parameters := [.double], returnType := some .double } := by decide +kernel
    have h3 := q5
    rw [h2] at h3
    rw [← Option.some.inj h3]
    rfl
  obtain ⟨ac, hrun⟩ := ab_sem hsem hx e (A.U.setFrames (.native { method := mk, args := #[.double x] } :: .java g :: r))
  have hcd : ∀ F : List Frame, (A.U.setFrames F).code? g.method = some c := fun F => by
    have h1 : A.U.code? g.method = some c := by
      rw [hg]
      exact X.here.code
    rw [State.code?_eq] at h1 ⊢
    simpa [State.setFrames] using h1
  have hho : handOver (A.U.setFrames (.native { method := mk, args := #[.double x] } :: .java g :: r)) (some (.double (x &&& 0x7fffffffffffffff))) (.java g :: r) = some (.java { g with pc := g.pc + len, stack := .double (x &&& 0x7fffffffffffffff) :: g.stack } :: r) := by
    simp [handOver, hcd, hdg, Except.toOption]
  have hst : (stepThread p.tables e (A.U.setFrames (.java (entryFrame mk #[.double x] 2) :: .java g :: r))).1 = A.U.setTop { g with pc := g.pc + len, stack := .double (x &&& 0x7fffffffffffffff) :: g.stack } := by
    unfold stepThread
    rw [hfr]
    simp only [hov]
    have hone : #[Value.double x].extract 0 (argCount (A.U.setFrames (.java (entryFrame mk #[.double x] 2) :: .java g :: r)) mk) = #[Value.double x] := by
      rw [hct, hp1]
      exact Array.extract_eq_self_of_le (Nat.le_add_right 1 _)
    change (afterNative e { method := mk, args := #[Value.double x].extract 0 (argCount (A.U.setFrames (.java (entryFrame mk #[.double x] 2) :: .java g :: r)) mk), locked := none } (.java g :: r) ((row.sem (#[Value.double x].extract 0 (argCount (A.U.setFrames (.java (entryFrame mk #[.double x] 2) :: .java g :: r)) mk))).run e ((A.U.setFrames (.java (entryFrame mk #[.double x] 2) :: .java g :: r)).setFrames (.native { method := mk, args := #[Value.double x].extract 0 (argCount (A.U.setFrames (.java (entryFrame mk #[.double x] 2) :: .java g :: r)) mk), locked := none } :: .java g :: r)))).1 = _
    rw [hone, State.setFrames_setFrames, hrun]
    show (doReturn e (A.U.setFrames (.native { method := mk, args := #[.double x] } :: .java g :: r)) ac (some (.double (x &&& 0x7fffffffffffffff)))).1 = _
    rw [doReturn_native (f := { method := mk, args := #[.double x] }) (below := .java g :: r) (State.frames_setFrames _ hcur) rfl hho, State.setFrames_setFrames, ← htp]
  obtain ⟨mid, hmid⟩ := X.here.above
  rw [hr] at hmid
  refine Steps.head ⟨X.here.running, by simpa using X.here.runnable, by simpa using X.here.alone⟩ ⟨.java (entryFrame mk #[.double x] 2) :: .java g :: mid, ?_, by simp, by simp⟩ ?_
  · rw [hfr]
    have h1 : r = mid ++ below := hmid
    rw [h1]
    rfl
  · rw [hst]
    exact Steps.refl _
end AbsRow
section AbsJ
variable {a : Nat → Nat} {mi : MI} {d : Nat} {g : GG} {pc : Nat} {L st : List Value} {S : St}
theorem j_absD {idx : Nat} {x : UInt64} (hx : DF x) (hd : decode mi.2.1 pc = .ok (.invokestatic idx, 3)) (hl : Cond.methodLink mi.1.cls idx yJ9_abs_294c1 ∈ TT) (hst : st.length ≤ 4) (hdd : 1 ≤ d) (kk : J a mi d g (pc + 3) L (.double (x &&& 0x7fffffffffffffff) :: st) S) : J a mi d g pc L (.double x :: st) S := by
  intro p l e R s m args below meth c D H locs ls C hl' hP hS
  have hts := C.2.2.2.2.2.2.1
  have hr := C.2.2.2.2.2.2.2.1
  have hcat := cat_le st
  intro T hT X
  have hini : Cond.initialized "java/lang/Math" ∈ TT := TT_at 9 (by decide +kernel) rfl
  obtain ⟨v, vm1, B, hW1, X1, ⟨hv, hB⟩, stp⟩ := callS X C.1 (bytes := cJ9_abs_294c1) (maxL := 2) (ret := some .double) C.2.2.2.2.2.1 (hts _ hl) (hts _ t_abs_s) (hts _ hini) (hts _ t_abs_c) ⟨by decide +kernel, by decide +kernel⟩ (ab_back (V := 8) (len := 3) hx (hts _ t_abs_c) (by omega) (by omega)) (g := F0 m pc ls (.double x :: st)) rfl (by rw [C.2.2.1]; exact hl'.1) (argsL := [.double x]) (rest := st) (fun sig h => by
    have h2 : parseMethodDescriptor yJ9_abs_294c1.desc = some { parameters := [.double], returnType := some .double } := by decide +kernel
    rw [h2] at h
    rw [← Option.some.inj h]
    rfl) rfl (by show 2 * 0 + _ ≤ _; omega) (by rw [C.2.1]; exact hd) (fun vm1 _ => ⟨hr.2.2.1, hr.2.2.2, rfl⟩)
  subst hv
  subst hB
  obtain ⟨t, a1, b1⟩ := kk p l e R s m args below meth c D H locs ls C hl' hP hS (T.setVm vm1) hT X1
  exact ⟨t, stp t a1, b1⟩
end AbsJ
