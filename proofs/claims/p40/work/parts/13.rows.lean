/-! rows of the judgement J: an instruction each -/
section Rows
variable {a : Nat → Nat} {mi : MI} {d : Nat} {g : GG} {pc : Nat} {L st : List Value} {S : St}

theorem j_iconst {n : Int} (v : Int32) (hd : decode mi.2.1 pc = .ok (.iconst n, 1)) (hv : Int32.ofInt n = v) (k : J a mi d g (pc + 1) (L) (.int v :: st) (S)) : J a mi d g (pc) (L) (st) (S) := by
  intro p l e R s m args below meth c D H locs ls C hl hP hS
  exact lv_iconst C.1 C.2.1 hd hv (k p l e R s m args below meth c D H locs ls C hl hP hS)
theorem j_bipush {n : Int} (v : Int32) (hd : decode mi.2.1 pc = .ok (.bipush n, 2)) (hv : (Int8.ofInt n).toInt32 = v) (k : J a mi d g (pc + 2) (L) (.int v :: st) (S)) : J a mi d g (pc) (L) (st) (S) := by
  intro p l e R s m args below meth c D H locs ls C hl hP hS
  exact lv_bipush C.1 C.2.1 hd hv (k p l e R s m args below meth c D H locs ls C hl hP hS)
theorem j_sipush {n : Int} (v : Int32) (hd : decode mi.2.1 pc = .ok (.sipush n, 3)) (hv : (Int16.ofInt n).toInt32 = v) (k : J a mi d g (pc + 3) (L) (.int v :: st) (S)) : J a mi d g (pc) (L) (st) (S) := by
  intro p l e R s m args below meth c D H locs ls C hl hP hS
  exact lv_sipush C.1 C.2.1 hd hv (k p l e R s m args below meth c D H locs ls C hl hP hS)
theorem j_lconst {n : Fin 2} (v : Int64) (hd : decode mi.2.1 pc = .ok (.lconst n, 1)) (hv : Int64.ofNat (n : Nat) = v) (k : J a mi d g (pc + 1) (L) (.long v :: st) (S)) : J a mi d g (pc) (L) (st) (S) := by
  intro p l e R s m args below meth c D H locs ls C hl hP hS
  exact lv_lconst C.1 C.2.1 hd hv (k p l e R s m args below meth c D H locs ls C hl hP hS)
theorem j_ldc {i : Nat} {v : Int32} (hd : decode mi.2.1 pc = .ok (.ldc i, 2)) (hc : Cond.constant mi.1.cls i v ∈ TT) (k : J a mi d g (pc + 2) (L) (.int v :: st) (S)) : J a mi d g (pc) (L) (st) (S) := by
  intro p l e R s m args below meth c D H locs ls C hl hP hS
  exact lv_ldc C.1 C.2.1 C.2.2.2.2.2.1 (C.2.2.2.2.2.2.1 _ hc) hd (k p l e R s m args below meth c D H locs ls C hl hP hS)
theorem j_ldc_w {i : Nat} {v : Int32} (hd : decode mi.2.1 pc = .ok (.ldc_w i, 3)) (hc : Cond.constant mi.1.cls i v ∈ TT) (k : J a mi d g (pc + 3) (L) (.int v :: st) (S)) : J a mi d g (pc) (L) (st) (S) := by
  intro p l e R s m args below meth c D H locs ls C hl hP hS
  exact lv_ldcw C.1 C.2.1 C.2.2.2.2.2.1 (C.2.2.2.2.2.2.1 _ hc) hd (k p l e R s m args below meth c D H locs ls C hl hP hS)
theorem j_ldc2_w {i : Nat} {v : Int64} (hd : decode mi.2.1 pc = .ok (.ldc2_w i, 3)) (hc : Cond.constantLong mi.1.cls i v ∈ TT) (k : J a mi d g (pc + 3) (L) (.long v :: st) (S)) : J a mi d g (pc) (L) (st) (S) := by
  intro p l e R s m args below meth c D H locs ls C hl hP hS
  exact lv_ldc2 C.1 C.2.1 C.2.2.2.2.2.1 (C.2.2.2.2.2.2.1 _ hc) hd (k p l e R s m args below meth c D H locs ls C hl hP hS)
theorem j_iadd {x y : Int32} (hd : decode mi.2.1 pc = .ok (.iadd, 1)) (k : J a mi d g (pc + 1) (L) (.int (x + y) :: st) (S)) : J a mi d g (pc) (L) (.int y :: .int x :: st) (S) := by
  intro p l e R s m args below meth c D H locs ls C hl hP hS
  exact lv_iadd C.1 C.2.1 hd (k p l e R s m args below meth c D H locs ls C hl hP hS)
theorem j_isub {x y : Int32} (hd : decode mi.2.1 pc = .ok (.isub, 1)) (k : J a mi d g (pc + 1) (L) (.int (x - y) :: st) (S)) : J a mi d g (pc) (L) (.int y :: .int x :: st) (S) := by
  intro p l e R s m args below meth c D H locs ls C hl hP hS
  exact lv_isub C.1 C.2.1 hd (k p l e R s m args below meth c D H locs ls C hl hP hS)
theorem j_imul {x y : Int32} (hd : decode mi.2.1 pc = .ok (.imul, 1)) (k : J a mi d g (pc + 1) (L) (.int (x * y) :: st) (S)) : J a mi d g (pc) (L) (.int y :: .int x :: st) (S) := by
  intro p l e R s m args below meth c D H locs ls C hl hP hS
  exact lv_imul C.1 C.2.1 hd (k p l e R s m args below meth c D H locs ls C hl hP hS)
theorem j_iand {x y : Int32} (hd : decode mi.2.1 pc = .ok (.iand, 1)) (k : J a mi d g (pc + 1) (L) (.int (x &&& y) :: st) (S)) : J a mi d g (pc) (L) (.int y :: .int x :: st) (S) := by
  intro p l e R s m args below meth c D H locs ls C hl hP hS
  exact lv_iand C.1 C.2.1 hd (k p l e R s m args below meth c D H locs ls C hl hP hS)
theorem j_ior {x y : Int32} (hd : decode mi.2.1 pc = .ok (.ior, 1)) (k : J a mi d g (pc + 1) (L) (.int (x ||| y) :: st) (S)) : J a mi d g (pc) (L) (.int y :: .int x :: st) (S) := by
  intro p l e R s m args below meth c D H locs ls C hl hP hS
  exact lv_ior C.1 C.2.1 hd (k p l e R s m args below meth c D H locs ls C hl hP hS)
theorem j_ixor {x y : Int32} (hd : decode mi.2.1 pc = .ok (.ixor, 1)) (k : J a mi d g (pc + 1) (L) (.int (x ^^^ y) :: st) (S)) : J a mi d g (pc) (L) (.int y :: .int x :: st) (S) := by
  intro p l e R s m args below meth c D H locs ls C hl hP hS
  exact lv_ixor C.1 C.2.1 hd (k p l e R s m args below meth c D H locs ls C hl hP hS)
theorem j_ladd {x y : Int64} (hd : decode mi.2.1 pc = .ok (.ladd, 1)) (k : J a mi d g (pc + 1) (L) (.long (x + y) :: st) (S)) : J a mi d g (pc) (L) (.long y :: .long x :: st) (S) := by
  intro p l e R s m args below meth c D H locs ls C hl hP hS
  exact lv_ladd C.1 C.2.1 hd (k p l e R s m args below meth c D H locs ls C hl hP hS)
theorem j_lsub {x y : Int64} (hd : decode mi.2.1 pc = .ok (.lsub, 1)) (k : J a mi d g (pc + 1) (L) (.long (x - y) :: st) (S)) : J a mi d g (pc) (L) (.long y :: .long x :: st) (S) := by
  intro p l e R s m args below meth c D H locs ls C hl hP hS
  exact lv_lsub C.1 C.2.1 hd (k p l e R s m args below meth c D H locs ls C hl hP hS)
theorem j_lmul {x y : Int64} (hd : decode mi.2.1 pc = .ok (.lmul, 1)) (k : J a mi d g (pc + 1) (L) (.long (x * y) :: st) (S)) : J a mi d g (pc) (L) (.long y :: .long x :: st) (S) := by
  intro p l e R s m args below meth c D H locs ls C hl hP hS
  exact lv_lmul C.1 C.2.1 hd (k p l e R s m args below meth c D H locs ls C hl hP hS)
theorem j_land {x y : Int64} (hd : decode mi.2.1 pc = .ok (.land, 1)) (k : J a mi d g (pc + 1) (L) (.long (x &&& y) :: st) (S)) : J a mi d g (pc) (L) (.long y :: .long x :: st) (S) := by
  intro p l e R s m args below meth c D H locs ls C hl hP hS
  exact lv_land C.1 C.2.1 hd (k p l e R s m args below meth c D H locs ls C hl hP hS)
theorem j_lor {x y : Int64} (hd : decode mi.2.1 pc = .ok (.lor, 1)) (k : J a mi d g (pc + 1) (L) (.long (x ||| y) :: st) (S)) : J a mi d g (pc) (L) (.long y :: .long x :: st) (S) := by
  intro p l e R s m args below meth c D H locs ls C hl hP hS
  exact lv_lor C.1 C.2.1 hd (k p l e R s m args below meth c D H locs ls C hl hP hS)
theorem j_idiv {x y : Int32} (hd : decode mi.2.1 pc = .ok (.idiv, 1)) (h : ¬ y = 0) (k : J a mi d g (pc + 1) (L) (.int (x / y) :: st) (S)) : J a mi d g (pc) (L) (.int y :: .int x :: st) (S) := by
  intro p l e R s m args below meth c D H locs ls C hl hP hS
  exact lv_idiv C.1 C.2.1 hd h (k p l e R s m args below meth c D H locs ls C hl hP hS)
theorem j_irem {x y : Int32} (hd : decode mi.2.1 pc = .ok (.irem, 1)) (h : ¬ y = 0) (k : J a mi d g (pc + 1) (L) (.int (x - x / y * y) :: st) (S)) : J a mi d g (pc) (L) (.int y :: .int x :: st) (S) := by
  intro p l e R s m args below meth c D H locs ls C hl hP hS
  exact lv_irem C.1 C.2.1 hd h (k p l e R s m args below meth c D H locs ls C hl hP hS)
theorem j_ldiv {x y : Int64} (hd : decode mi.2.1 pc = .ok (.ldiv, 1)) (h : ¬ y = 0) (k : J a mi d g (pc + 1) (L) (.long (x / y) :: st) (S)) : J a mi d g (pc) (L) (.long y :: .long x :: st) (S) := by
  intro p l e R s m args below meth c D H locs ls C hl hP hS
  exact lv_ldiv C.1 C.2.1 hd h (k p l e R s m args below meth c D H locs ls C hl hP hS)
theorem j_lrem {x y : Int64} (hd : decode mi.2.1 pc = .ok (.lrem, 1)) (h : ¬ y = 0) (k : J a mi d g (pc + 1) (L) (.long (x - x / y * y) :: st) (S)) : J a mi d g (pc) (L) (.long y :: .long x :: st) (S) := by
  intro p l e R s m args below meth c D H locs ls C hl hP hS
  exact lv_lrem C.1 C.2.1 hd h (k p l e R s m args below meth c D H locs ls C hl hP hS)
theorem j_ineg {x : Int32} (hd : decode mi.2.1 pc = .ok (.ineg, 1)) (k : J a mi d g (pc + 1) (L) (.int (-x) :: st) (S)) : J a mi d g (pc) (L) (.int x :: st) (S) := by
  intro p l e R s m args below meth c D H locs ls C hl hP hS
  exact lv_ineg C.1 C.2.1 hd (k p l e R s m args below meth c D H locs ls C hl hP hS)
theorem j_ishl {x y : Int32} (hd : decode mi.2.1 pc = .ok (.ishl, 1)) (k : J a mi d g (pc + 1) (L) (.int (x <<< (y &&& 31)) :: st) (S)) : J a mi d g (pc) (L) (.int y :: .int x :: st) (S) := by
  intro p l e R s m args below meth c D H locs ls C hl hP hS
  exact lv_ishl C.1 C.2.1 hd (k p l e R s m args below meth c D H locs ls C hl hP hS)
theorem j_ishr {x y : Int32} (hd : decode mi.2.1 pc = .ok (.ishr, 1)) (k : J a mi d g (pc + 1) (L) (.int (x >>> (y &&& 31)) :: st) (S)) : J a mi d g (pc) (L) (.int y :: .int x :: st) (S) := by
  intro p l e R s m args below meth c D H locs ls C hl hP hS
  exact lv_ishr C.1 C.2.1 hd (k p l e R s m args below meth c D H locs ls C hl hP hS)
theorem j_iushr {x y : Int32} (hd : decode mi.2.1 pc = .ok (.iushr, 1)) (k : J a mi d g (pc + 1) (L) (.int ((x.toUInt32 >>> (y.toUInt32 &&& Int32.toUInt32 31)).toInt32) :: st) (S)) : J a mi d g (pc) (L) (.int y :: .int x :: st) (S) := by
  intro p l e R s m args below meth c D H locs ls C hl hP hS
  exact lv_iushr C.1 C.2.1 hd rfl (k p l e R s m args below meth c D H locs ls C hl hP hS)
theorem j_lshl {x : Int64} {y : Int32} (hd : decode mi.2.1 pc = .ok (.lshl, 1)) (k : J a mi d g (pc + 1) (L) (.long (x <<< (y.toInt64 &&& 63)) :: st) (S)) : J a mi d g (pc) (L) (.int y :: .long x :: st) (S) := by
  intro p l e R s m args below meth c D H locs ls C hl hP hS
  exact lv_lshl C.1 C.2.1 hd rfl (k p l e R s m args below meth c D H locs ls C hl hP hS)
theorem j_i2l {x : Int32} (hd : decode mi.2.1 pc = .ok (.i2l, 1)) (k : J a mi d g (pc + 1) (L) (.long x.toInt64 :: st) (S)) : J a mi d g (pc) (L) (.int x :: st) (S) := by
  intro p l e R s m args below meth c D H locs ls C hl hP hS
  exact lv_i2l C.1 C.2.1 hd rfl (k p l e R s m args below meth c D H locs ls C hl hP hS)
theorem j_l2i {x : Int64} (hd : decode mi.2.1 pc = .ok (.l2i, 1)) (k : J a mi d g (pc + 1) (L) (.int x.toInt32 :: st) (S)) : J a mi d g (pc) (L) (.long x :: st) (S) := by
  intro p l e R s m args below meth c D H locs ls C hl hP hS
  exact lv_l2i C.1 C.2.1 hd rfl (k p l e R s m args below meth c D H locs ls C hl hP hS)
theorem j_i2b {x : Int32} (hd : decode mi.2.1 pc = .ok (.i2b, 1)) (k : J a mi d g (pc + 1) (L) (.int x.toInt8.toInt32 :: st) (S)) : J a mi d g (pc) (L) (.int x :: st) (S) := by
  intro p l e R s m args below meth c D H locs ls C hl hP hS
  exact lv_i2b C.1 C.2.1 hd rfl (k p l e R s m args below meth c D H locs ls C hl hP hS)
theorem j_i2s {x : Int32} (hd : decode mi.2.1 pc = .ok (.i2s, 1)) (k : J a mi d g (pc + 1) (L) (.int x.toInt16.toInt32 :: st) (S)) : J a mi d g (pc) (L) (.int x :: st) (S) := by
  intro p l e R s m args below meth c D H locs ls C hl hP hS
  exact lv_i2s C.1 C.2.1 hd rfl (k p l e R s m args below meth c D H locs ls C hl hP hS)
theorem j_lcmp {x y : Int64} (hd : decode mi.2.1 pc = .ok (.lcmp, 1)) (k : J a mi d g (pc + 1) (L) (.int (lg_cmp x y) :: st) (S)) : J a mi d g (pc) (L) (.long y :: .long x :: st) (S) := by
  intro p l e R s m args below meth c D H locs ls C hl hP hS
  exact W.lcmp C.1 C.2.1 hd (k p l e R s m args below meth c D H locs ls C hl hP hS)
theorem j_dup {v : Value} (hd : decode mi.2.1 pc = .ok (.dup, 1)) (h : v.category = 1) (k : J a mi d g (pc + 1) (L) (v :: v :: st) (S)) : J a mi d g (pc) (L) (v :: st) (S) := by
  intro p l e R s m args below meth c D H locs ls C hl hP hS
  exact lv_dup C.1 C.2.1 hd h (k p l e R s m args below meth c D H locs ls C hl hP hS)
theorem j_pop {v : Value} (hd : decode mi.2.1 pc = .ok (.pop, 1)) (h : v.category = 1) (k : J a mi d g (pc + 1) (L) (st) (S)) : J a mi d g (pc) (L) (v :: st) (S) := by
  intro p l e R s m args below meth c D H locs ls C hl hP hS
  exact lv_pop C.1 C.2.1 hd h (k p l e R s m args below meth c D H locs ls C hl hP hS)
theorem j_dup2 {v w : Value} (hd : decode mi.2.1 pc = .ok (.dup2, 1)) (h1 : v.category = 1) (h2 : w.category = 1) (k : J a mi d g (pc + 1) (L) (v :: w :: v :: w :: st) (S)) : J a mi d g (pc) (L) (v :: w :: st) (S) := by
  intro p l e R s m args below meth c D H locs ls C hl hP hS
  exact lv_dup2_11 C.1 C.2.1 hd h1 h2 (k p l e R s m args below meth c D H locs ls C hl hP hS)
theorem j_ifeq {x : Int32} {off : Int} (tgt : Nat) (hd : decode mi.2.1 pc = .ok (.ifCond .eq off, 3)) (ht : (pc : Int) + off = (tgt : Int)) (kt : x = 0 → J a mi d g (tgt) (L) (st) (S)) (kf : ¬ (x = 0) → J a mi d g (pc + 3) (L) (st) (S)) : J a mi d g (pc) (L) (.int x :: st) (S) := by
  intro p l e R s m args below meth c D H locs ls C hl hP hS
  exact lv_if_eq C.1 C.2.1 hd ht (fun h => kt (by first | exact h | exact Int32.not_lt.mp h | exact Int32.not_le.mp h | simpa using h) p l e R s m args below meth c D H locs ls C hl hP hS) (fun h => kf (by first | exact h | (intro q; first | exact h q | exact absurd q (by first | exact Int32.not_le.mpr h | exact Int32.not_lt.mpr h | simpa using h))) p l e R s m args below meth c D H locs ls C hl hP hS)
theorem j_ifne {x : Int32} {off : Int} (tgt : Nat) (hd : decode mi.2.1 pc = .ok (.ifCond .ne off, 3)) (ht : (pc : Int) + off = (tgt : Int)) (kt : ¬ x = 0 → J a mi d g (tgt) (L) (st) (S)) (kf : ¬ (¬ x = 0) → J a mi d g (pc + 3) (L) (st) (S)) : J a mi d g (pc) (L) (.int x :: st) (S) := by
  intro p l e R s m args below meth c D H locs ls C hl hP hS
  exact lv_if_ne C.1 C.2.1 hd ht (fun h => kt (by first | exact h | exact Int32.not_lt.mp h | exact Int32.not_le.mp h | simpa using h) p l e R s m args below meth c D H locs ls C hl hP hS) (fun h => kf (by first | exact h | (intro q; first | exact h q | exact absurd q (by first | exact Int32.not_le.mpr h | exact Int32.not_lt.mpr h | simpa using h))) p l e R s m args below meth c D H locs ls C hl hP hS)
theorem j_iflt {x : Int32} {off : Int} (tgt : Nat) (hd : decode mi.2.1 pc = .ok (.ifCond .lt off, 3)) (ht : (pc : Int) + off = (tgt : Int)) (kt : x < 0 → J a mi d g (tgt) (L) (st) (S)) (kf : ¬ (x < 0) → J a mi d g (pc + 3) (L) (st) (S)) : J a mi d g (pc) (L) (.int x :: st) (S) := by
  intro p l e R s m args below meth c D H locs ls C hl hP hS
  exact lv_if_lt C.1 C.2.1 hd ht (fun h => kt (by first | exact h | exact Int32.not_lt.mp h | exact Int32.not_le.mp h | simpa using h) p l e R s m args below meth c D H locs ls C hl hP hS) (fun h => kf (by first | exact h | (intro q; first | exact h q | exact absurd q (by first | exact Int32.not_le.mpr h | exact Int32.not_lt.mpr h | simpa using h))) p l e R s m args below meth c D H locs ls C hl hP hS)
theorem j_ifge {x : Int32} {off : Int} (tgt : Nat) (hd : decode mi.2.1 pc = .ok (.ifCond .ge off, 3)) (ht : (pc : Int) + off = (tgt : Int)) (kt : 0 ≤ x → J a mi d g (tgt) (L) (st) (S)) (kf : ¬ (0 ≤ x) → J a mi d g (pc + 3) (L) (st) (S)) : J a mi d g (pc) (L) (.int x :: st) (S) := by
  intro p l e R s m args below meth c D H locs ls C hl hP hS
  exact lv_if_ge C.1 C.2.1 hd ht (fun h => kt (by first | exact h | exact Int32.not_lt.mp h | exact Int32.not_le.mp h | simpa using h) p l e R s m args below meth c D H locs ls C hl hP hS) (fun h => kf (by first | exact h | (intro q; first | exact h q | exact absurd q (by first | exact Int32.not_le.mpr h | exact Int32.not_lt.mpr h | simpa using h))) p l e R s m args below meth c D H locs ls C hl hP hS)
theorem j_ifgt {x : Int32} {off : Int} (tgt : Nat) (hd : decode mi.2.1 pc = .ok (.ifCond .gt off, 3)) (ht : (pc : Int) + off = (tgt : Int)) (kt : 0 < x → J a mi d g (tgt) (L) (st) (S)) (kf : ¬ (0 < x) → J a mi d g (pc + 3) (L) (st) (S)) : J a mi d g (pc) (L) (.int x :: st) (S) := by
  intro p l e R s m args below meth c D H locs ls C hl hP hS
  exact lv_if_gt C.1 C.2.1 hd ht (fun h => kt (by first | exact h | exact Int32.not_lt.mp h | exact Int32.not_le.mp h | simpa using h) p l e R s m args below meth c D H locs ls C hl hP hS) (fun h => kf (by first | exact h | (intro q; first | exact h q | exact absurd q (by first | exact Int32.not_le.mpr h | exact Int32.not_lt.mpr h | simpa using h))) p l e R s m args below meth c D H locs ls C hl hP hS)
theorem j_ifle {x : Int32} {off : Int} (tgt : Nat) (hd : decode mi.2.1 pc = .ok (.ifCond .le off, 3)) (ht : (pc : Int) + off = (tgt : Int)) (kt : x ≤ 0 → J a mi d g (tgt) (L) (st) (S)) (kf : ¬ (x ≤ 0) → J a mi d g (pc + 3) (L) (st) (S)) : J a mi d g (pc) (L) (.int x :: st) (S) := by
  intro p l e R s m args below meth c D H locs ls C hl hP hS
  exact lv_if_le C.1 C.2.1 hd ht (fun h => kt (by first | exact h | exact Int32.not_lt.mp h | exact Int32.not_le.mp h | simpa using h) p l e R s m args below meth c D H locs ls C hl hP hS) (fun h => kf (by first | exact h | (intro q; first | exact h q | exact absurd q (by first | exact Int32.not_le.mpr h | exact Int32.not_lt.mpr h | simpa using h))) p l e R s m args below meth c D H locs ls C hl hP hS)
theorem j_icmpeq {x y : Int32} {off : Int} (tgt : Nat) (hd : decode mi.2.1 pc = .ok (.if_icmp .eq off, 3)) (ht : (pc : Int) + off = (tgt : Int)) (kt : x = y → J a mi d g (tgt) (L) (st) (S)) (kf : ¬ (x = y) → J a mi d g (pc + 3) (L) (st) (S)) : J a mi d g (pc) (L) (.int y :: .int x :: st) (S) := by
  intro p l e R s m args below meth c D H locs ls C hl hP hS
  exact lv_icmp_eq C.1 C.2.1 hd ht (fun h => kt (by first | exact h | exact Int32.not_lt.mp h | exact Int32.not_le.mp h | simpa using h) p l e R s m args below meth c D H locs ls C hl hP hS) (fun h => kf (by first | exact h | (intro q; first | exact h q | exact absurd q (by first | exact Int32.not_le.mpr h | exact Int32.not_lt.mpr h | simpa using h))) p l e R s m args below meth c D H locs ls C hl hP hS)
theorem j_icmpne {x y : Int32} {off : Int} (tgt : Nat) (hd : decode mi.2.1 pc = .ok (.if_icmp .ne off, 3)) (ht : (pc : Int) + off = (tgt : Int)) (kt : ¬ x = y → J a mi d g (tgt) (L) (st) (S)) (kf : ¬ (¬ x = y) → J a mi d g (pc + 3) (L) (st) (S)) : J a mi d g (pc) (L) (.int y :: .int x :: st) (S) := by
  intro p l e R s m args below meth c D H locs ls C hl hP hS
  exact lv_icmp_ne C.1 C.2.1 hd ht (fun h => kt (by first | exact h | exact Int32.not_lt.mp h | exact Int32.not_le.mp h | simpa using h) p l e R s m args below meth c D H locs ls C hl hP hS) (fun h => kf (by first | exact h | (intro q; first | exact h q | exact absurd q (by first | exact Int32.not_le.mpr h | exact Int32.not_lt.mpr h | simpa using h))) p l e R s m args below meth c D H locs ls C hl hP hS)
theorem j_icmplt {x y : Int32} {off : Int} (tgt : Nat) (hd : decode mi.2.1 pc = .ok (.if_icmp .lt off, 3)) (ht : (pc : Int) + off = (tgt : Int)) (kt : x < y → J a mi d g (tgt) (L) (st) (S)) (kf : ¬ (x < y) → J a mi d g (pc + 3) (L) (st) (S)) : J a mi d g (pc) (L) (.int y :: .int x :: st) (S) := by
  intro p l e R s m args below meth c D H locs ls C hl hP hS
  exact lv_icmp_lt C.1 C.2.1 hd ht (fun h => kt (by first | exact h | exact Int32.not_lt.mp h | exact Int32.not_le.mp h | simpa using h) p l e R s m args below meth c D H locs ls C hl hP hS) (fun h => kf (by first | exact h | (intro q; first | exact h q | exact absurd q (by first | exact Int32.not_le.mpr h | exact Int32.not_lt.mpr h | simpa using h))) p l e R s m args below meth c D H locs ls C hl hP hS)
theorem j_icmpge {x y : Int32} {off : Int} (tgt : Nat) (hd : decode mi.2.1 pc = .ok (.if_icmp .ge off, 3)) (ht : (pc : Int) + off = (tgt : Int)) (kt : y ≤ x → J a mi d g (tgt) (L) (st) (S)) (kf : ¬ (y ≤ x) → J a mi d g (pc + 3) (L) (st) (S)) : J a mi d g (pc) (L) (.int y :: .int x :: st) (S) := by
  intro p l e R s m args below meth c D H locs ls C hl hP hS
  exact lv_icmp_ge C.1 C.2.1 hd ht (fun h => kt (by first | exact h | exact Int32.not_lt.mp h | exact Int32.not_le.mp h | simpa using h) p l e R s m args below meth c D H locs ls C hl hP hS) (fun h => kf (by first | exact h | (intro q; first | exact h q | exact absurd q (by first | exact Int32.not_le.mpr h | exact Int32.not_lt.mpr h | simpa using h))) p l e R s m args below meth c D H locs ls C hl hP hS)
theorem j_icmpgt {x y : Int32} {off : Int} (tgt : Nat) (hd : decode mi.2.1 pc = .ok (.if_icmp .gt off, 3)) (ht : (pc : Int) + off = (tgt : Int)) (kt : y < x → J a mi d g (tgt) (L) (st) (S)) (kf : ¬ (y < x) → J a mi d g (pc + 3) (L) (st) (S)) : J a mi d g (pc) (L) (.int y :: .int x :: st) (S) := by
  intro p l e R s m args below meth c D H locs ls C hl hP hS
  exact lv_icmp_gt C.1 C.2.1 hd ht (fun h => kt (by first | exact h | exact Int32.not_lt.mp h | exact Int32.not_le.mp h | simpa using h) p l e R s m args below meth c D H locs ls C hl hP hS) (fun h => kf (by first | exact h | (intro q; first | exact h q | exact absurd q (by first | exact Int32.not_le.mpr h | exact Int32.not_lt.mpr h | simpa using h))) p l e R s m args below meth c D H locs ls C hl hP hS)
theorem j_icmple {x y : Int32} {off : Int} (tgt : Nat) (hd : decode mi.2.1 pc = .ok (.if_icmp .le off, 3)) (ht : (pc : Int) + off = (tgt : Int)) (kt : x ≤ y → J a mi d g (tgt) (L) (st) (S)) (kf : ¬ (x ≤ y) → J a mi d g (pc + 3) (L) (st) (S)) : J a mi d g (pc) (L) (.int y :: .int x :: st) (S) := by
  intro p l e R s m args below meth c D H locs ls C hl hP hS
  exact lv_icmp_le C.1 C.2.1 hd ht (fun h => kt (by first | exact h | exact Int32.not_lt.mp h | exact Int32.not_le.mp h | simpa using h) p l e R s m args below meth c D H locs ls C hl hP hS) (fun h => kf (by first | exact h | (intro q; first | exact h q | exact absurd q (by first | exact Int32.not_le.mpr h | exact Int32.not_lt.mpr h | simpa using h))) p l e R s m args below meth c D H locs ls C hl hP hS)
theorem j_goto {off : Int} (tgt : Nat) (hd : decode mi.2.1 pc = .ok (.goto off, 3)) (ht : (pc : Int) + off = (tgt : Int)) (k : J a mi d g (tgt) (L) (st) (S)) : J a mi d g (pc) (L) (st) (S) := by
  intro p l e R s m args below meth c D H locs ls C hl hP hS
  exact lv_goto C.1 C.2.1 hd ht (k p l e R s m args below meth c D H locs ls C hl hP hS)
theorem j_tblIn {dflt lo hi : Int} {offs : Array Int} {len : Nat} {x : Int32} (off : Int) (tgt : Nat) (hd : decode mi.2.1 pc = .ok (.tableswitch dflt lo hi offs, len)) (h1 : ¬ x.toInt < lo) (h2 : ¬ hi < x.toInt) (ho : offs[(x.toInt - lo).toNat]? = some off) (ht : (pc : Int) + off = (tgt : Int)) (k : J a mi d g (tgt) (L) (st) (S)) : J a mi d g (pc) (L) (.int x :: st) (S) := by
  intro p l e R s m args below meth c D H locs ls C hl hP hS
  exact lv_tableIn C.1 C.2.1 hd h1 h2 ho ht (k p l e R s m args below meth c D H locs ls C hl hP hS)
theorem j_tblOut {dflt lo hi : Int} {offs : Array Int} {len : Nat} {x : Int32} (tgt : Nat) (hd : decode mi.2.1 pc = .ok (.tableswitch dflt lo hi offs, len)) (h : x.toInt < lo ∨ hi < x.toInt) (ht : (pc : Int) + dflt = (tgt : Int)) (k : J a mi d g (tgt) (L) (st) (S)) : J a mi d g (pc) (L) (.int x :: st) (S) := by
  intro p l e R s m args below meth c D H locs ls C hl hP hS
  exact lv_tableOut C.1 C.2.1 hd h ht (k p l e R s m args below meth c D H locs ls C hl hP hS)
theorem j_lookup {dflt : Int} {ps : Array (Int × Int)} {len : Nat} {x : Int32} (off : Int) (tgt : Nat) (hd : decode mi.2.1 pc = .ok (.lookupswitch dflt ps, len)) (hp : (ps.toList.zip (ps.toList.drop 1)).all (fun (a, next) => a.1 < next.1) = true) (ho : Op.lookupswitch.offset ps.toList dflt x.toInt = off) (ht : (pc : Int) + off = (tgt : Int)) (k : J a mi d g (tgt) (L) (st) (S)) : J a mi d g (pc) (L) (.int x :: st) (S) := by
  intro p l e R s m args below meth c D H locs ls C hl hP hS
  exact lv_lookup C.1 C.2.1 hd hp ho ht (k p l e R s m args below meth c D H locs ls C hl hP hS)
end Rows
section Rows
variable {a : Nat → Nat} {mi : MI} {d : Nat} {g : GG} {pc : Nat} {L st : List Value} {S : St}
theorem j_ild0 {x : Int32} (hd : decode mi.2.1 pc = .ok (.iload_n 0, 1)) (k : J a mi d g (pc + 1) (.int x :: L) (.int x :: st) (S)) : J a mi d g (pc) (.int x :: L) (st) (S) := by
  intro p l e R s m args below meth c D H locs ls C hl hP hS
  exact lv_iload_n C.1 C.2.1 hd rfl (lx_at hl (i := 0) (v := .int x) (by simp) rfl) (k p l e R s m args below meth c D H locs ls C hl hP hS)
theorem j_ist0 {w : Value} {x : Int32} (hd : decode mi.2.1 pc = .ok (.istore_n 0, 1)) (hn : 0 < mi.2.2.1) (k : J a mi d g (pc + 1) (.int x :: L) (st) (S)) : J a mi d g (pc) (w :: L) (.int x :: st) (S) := by
  intro p l e R s m args below meth c D H locs ls C hl hP hS
  exact lv_istore_n (i := 0) C.1 C.2.1 hd rfl hl hn rfl (fun ls' hl' => k p l e R s m args below meth c D H locs ls' C (lx_of1 (L := w :: L) (i := 0) (x := .int x) (fun w q _ => by omega) hl') hP hS)
theorem j_iinc0 {x : Int32} {n : Int} (y : Int32) (hd : decode mi.2.1 pc = .ok (.iinc 0 n, 3)) (hy : x + Int32.ofInt n = y) (hn : 0 < mi.2.2.1) (k : J a mi d g (pc + 3) (.int y :: L) (st) (S)) : J a mi d g (pc) (.int x :: L) (st) (S) := by
  intro p l e R s m args below meth c D H locs ls C hl hP hS
  obtain ⟨q, hq⟩ := lx_ix hl (i := 0) (v := .int x) (by simp) rfl
  exact lv_iinc C.1 C.2.1 hd hl hq hy hn rfl (fun ls' hl' => k p l e R s m args below meth c D H locs ls' C (lx_of1 (L := .int x :: L) (i := 0) (x := .int y) (fun w q _ => by omega) hl') hP hS)
theorem j_lld0 {x : Int64} (hd : decode mi.2.1 pc = .ok (.lload_n 0, 1)) (k : J a mi d g (pc + 1) (.long x :: L) (.long x :: st) (S)) : J a mi d g (pc) (.long x :: L) (st) (S) := by
  intro p l e R s m args below meth c D H locs ls C hl hP hS
  exact lv_lload_n C.1 C.2.1 hd rfl (lx_at hl (i := 0) (v := .long x) (by simp) rfl) (k p l e R s m args below meth c D H locs ls C hl hP hS)
theorem j_lst0 {w z : Value} {x : Int64} (hd : decode mi.2.1 pc = .ok (.lstore_n 0, 1)) (hn : 0 + 1 < mi.2.2.1) (k : J a mi d g (pc + 1) (.long x :: .null :: L) (st) (S)) : J a mi d g (pc) (w :: z :: L) (.long x :: st) (S) := by
  intro p l e R s m args below meth c D H locs ls C hl hP hS
  exact lv_lstore_n (i := 0) C.1 C.2.1 hd rfl hl hn rfl (fun ls' hl' => k p l e R s m args below meth c D H locs ls' C (lx_of2 (L := w :: z :: L) (i := 0) (x := .long x) (fun w q _ => by omega) hl') hP hS)
theorem j_ald0 {x : Nat} (hd : decode mi.2.1 pc = .ok (.aload_n 0, 1)) (k : J a mi d g (pc + 1) (.ref x :: L) (.ref x :: st) (S)) : J a mi d g (pc) (.ref x :: L) (st) (S) := by
  intro p l e R s m args below meth c D H locs ls C hl hP hS
  exact lv_aload_n C.1 C.2.1 hd rfl (lx_at hl (i := 0) (v := .ref x) (by simp) rfl) (k p l e R s m args below meth c D H locs ls C hl hP hS)
theorem j_ast0 {w : Value} {x : Nat} (hd : decode mi.2.1 pc = .ok (.astore_n 0, 1)) (hn : 0 < mi.2.2.1) (k : J a mi d g (pc + 1) (.ref x :: L) (st) (S)) : J a mi d g (pc) (w :: L) (.ref x :: st) (S) := by
  intro p l e R s m args below meth c D H locs ls C hl hP hS
  exact lv_astore_n (i := 0) C.1 C.2.1 hd rfl hl hn rfl (fun ls' hl' => k p l e R s m args below meth c D H locs ls' C (lx_of1 (L := w :: L) (i := 0) (x := .ref x) (fun w q _ => by omega) hl') hP hS)
theorem j_ild1 {v0 : Value} {x : Int32} (hd : decode mi.2.1 pc = .ok (.iload_n 1, 1)) (k : J a mi d g (pc + 1) (v0 :: .int x :: L) (.int x :: st) (S)) : J a mi d g (pc) (v0 :: .int x :: L) (st) (S) := by
  intro p l e R s m args below meth c D H locs ls C hl hP hS
  exact lv_iload_n C.1 C.2.1 hd rfl (lx_at hl (i := 1) (v := .int x) (by simp) rfl) (k p l e R s m args below meth c D H locs ls C hl hP hS)
theorem j_ist1 {v0 : Value} {w : Value} {x : Int32} (hd : decode mi.2.1 pc = .ok (.istore_n 1, 1)) (hc : v0.category = 1) (hn : 1 < mi.2.2.1) (k : J a mi d g (pc + 1) (v0 :: .int x :: L) (st) (S)) : J a mi d g (pc) (v0 :: w :: L) (.int x :: st) (S) := by
  intro p l e R s m args below meth c D H locs ls C hl hP hS
  exact lv_istore_n (i := 1) C.1 C.2.1 hd rfl hl hn rfl (fun ls' hl' => k p l e R s m args below meth c D H locs ls' C (lx_of1 (L := v0 :: w :: L) (i := 1) (x := .int x) (fun w _ q => by cases q; exact hc) hl') hP hS)
theorem j_iinc1 {v0 : Value} {x : Int32} {n : Int} (y : Int32) (hd : decode mi.2.1 pc = .ok (.iinc 1 n, 3)) (hy : x + Int32.ofInt n = y) (hc : v0.category = 1) (hn : 1 < mi.2.2.1) (k : J a mi d g (pc + 3) (v0 :: .int y :: L) (st) (S)) : J a mi d g (pc) (v0 :: .int x :: L) (st) (S) := by
  intro p l e R s m args below meth c D H locs ls C hl hP hS
  obtain ⟨q, hq⟩ := lx_ix hl (i := 1) (v := .int x) (by simp) rfl
  exact lv_iinc C.1 C.2.1 hd hl hq hy hn rfl (fun ls' hl' => k p l e R s m args below meth c D H locs ls' C (lx_of1 (L := v0 :: .int x :: L) (i := 1) (x := .int y) (fun w _ q => by cases q; exact hc) hl') hP hS)
theorem j_lld1 {v0 : Value} {x : Int64} (hd : decode mi.2.1 pc = .ok (.lload_n 1, 1)) (k : J a mi d g (pc + 1) (v0 :: .long x :: L) (.long x :: st) (S)) : J a mi d g (pc) (v0 :: .long x :: L) (st) (S) := by
  intro p l e R s m args below meth c D H locs ls C hl hP hS
  exact lv_lload_n C.1 C.2.1 hd rfl (lx_at hl (i := 1) (v := .long x) (by simp) rfl) (k p l e R s m args below meth c D H locs ls C hl hP hS)
theorem j_lst1 {v0 : Value} {w z : Value} {x : Int64} (hd : decode mi.2.1 pc = .ok (.lstore_n 1, 1)) (hc : v0.category = 1) (hn : 1 + 1 < mi.2.2.1) (k : J a mi d g (pc + 1) (v0 :: .long x :: .null :: L) (st) (S)) : J a mi d g (pc) (v0 :: w :: z :: L) (.long x :: st) (S) := by
  intro p l e R s m args below meth c D H locs ls C hl hP hS
  exact lv_lstore_n (i := 1) C.1 C.2.1 hd rfl hl hn rfl (fun ls' hl' => k p l e R s m args below meth c D H locs ls' C (lx_of2 (L := v0 :: w :: z :: L) (i := 1) (x := .long x) (fun w _ q => by cases q; exact hc) hl') hP hS)
theorem j_ald1 {v0 : Value} {x : Nat} (hd : decode mi.2.1 pc = .ok (.aload_n 1, 1)) (k : J a mi d g (pc + 1) (v0 :: .ref x :: L) (.ref x :: st) (S)) : J a mi d g (pc) (v0 :: .ref x :: L) (st) (S) := by
  intro p l e R s m args below meth c D H locs ls C hl hP hS
  exact lv_aload_n C.1 C.2.1 hd rfl (lx_at hl (i := 1) (v := .ref x) (by simp) rfl) (k p l e R s m args below meth c D H locs ls C hl hP hS)
theorem j_ast1 {v0 : Value} {w : Value} {x : Nat} (hd : decode mi.2.1 pc = .ok (.astore_n 1, 1)) (hc : v0.category = 1) (hn : 1 < mi.2.2.1) (k : J a mi d g (pc + 1) (v0 :: .ref x :: L) (st) (S)) : J a mi d g (pc) (v0 :: w :: L) (.ref x :: st) (S) := by
  intro p l e R s m args below meth c D H locs ls C hl hP hS
  exact lv_astore_n (i := 1) C.1 C.2.1 hd rfl hl hn rfl (fun ls' hl' => k p l e R s m args below meth c D H locs ls' C (lx_of1 (L := v0 :: w :: L) (i := 1) (x := .ref x) (fun w _ q => by cases q; exact hc) hl') hP hS)
theorem j_ild2 {v0 v1 : Value} {x : Int32} (hd : decode mi.2.1 pc = .ok (.iload_n 2, 1)) (k : J a mi d g (pc + 1) (v0 :: v1 :: .int x :: L) (.int x :: st) (S)) : J a mi d g (pc) (v0 :: v1 :: .int x :: L) (st) (S) := by
  intro p l e R s m args below meth c D H locs ls C hl hP hS
  exact lv_iload_n C.1 C.2.1 hd rfl (lx_at hl (i := 2) (v := .int x) (by simp) rfl) (k p l e R s m args below meth c D H locs ls C hl hP hS)
theorem j_ist2 {v0 v1 : Value} {w : Value} {x : Int32} (hd : decode mi.2.1 pc = .ok (.istore_n 2, 1)) (hc : v1.category = 1) (hn : 2 < mi.2.2.1) (k : J a mi d g (pc + 1) (v0 :: v1 :: .int x :: L) (st) (S)) : J a mi d g (pc) (v0 :: v1 :: w :: L) (.int x :: st) (S) := by
  intro p l e R s m args below meth c D H locs ls C hl hP hS
  exact lv_istore_n (i := 2) C.1 C.2.1 hd rfl hl hn rfl (fun ls' hl' => k p l e R s m args below meth c D H locs ls' C (lx_of1 (L := v0 :: v1 :: w :: L) (i := 2) (x := .int x) (fun w _ q => by cases q; exact hc) hl') hP hS)
theorem j_iinc2 {v0 v1 : Value} {x : Int32} {n : Int} (y : Int32) (hd : decode mi.2.1 pc = .ok (.iinc 2 n, 3)) (hy : x + Int32.ofInt n = y) (hc : v1.category = 1) (hn : 2 < mi.2.2.1) (k : J a mi d g (pc + 3) (v0 :: v1 :: .int y :: L) (st) (S)) : J a mi d g (pc) (v0 :: v1 :: .int x :: L) (st) (S) := by
  intro p l e R s m args below meth c D H locs ls C hl hP hS
  obtain ⟨q, hq⟩ := lx_ix hl (i := 2) (v := .int x) (by simp) rfl
  exact lv_iinc C.1 C.2.1 hd hl hq hy hn rfl (fun ls' hl' => k p l e R s m args below meth c D H locs ls' C (lx_of1 (L := v0 :: v1 :: .int x :: L) (i := 2) (x := .int y) (fun w _ q => by cases q; exact hc) hl') hP hS)
theorem j_lld2 {v0 v1 : Value} {x : Int64} (hd : decode mi.2.1 pc = .ok (.lload_n 2, 1)) (k : J a mi d g (pc + 1) (v0 :: v1 :: .long x :: L) (.long x :: st) (S)) : J a mi d g (pc) (v0 :: v1 :: .long x :: L) (st) (S) := by
  intro p l e R s m args below meth c D H locs ls C hl hP hS
  exact lv_lload_n C.1 C.2.1 hd rfl (lx_at hl (i := 2) (v := .long x) (by simp) rfl) (k p l e R s m args below meth c D H locs ls C hl hP hS)
theorem j_lst2 {v0 v1 : Value} {w z : Value} {x : Int64} (hd : decode mi.2.1 pc = .ok (.lstore_n 2, 1)) (hc : v1.category = 1) (hn : 2 + 1 < mi.2.2.1) (k : J a mi d g (pc + 1) (v0 :: v1 :: .long x :: .null :: L) (st) (S)) : J a mi d g (pc) (v0 :: v1 :: w :: z :: L) (.long x :: st) (S) := by
  intro p l e R s m args below meth c D H locs ls C hl hP hS
  exact lv_lstore_n (i := 2) C.1 C.2.1 hd rfl hl hn rfl (fun ls' hl' => k p l e R s m args below meth c D H locs ls' C (lx_of2 (L := v0 :: v1 :: w :: z :: L) (i := 2) (x := .long x) (fun w _ q => by cases q; exact hc) hl') hP hS)
theorem j_ald2 {v0 v1 : Value} {x : Nat} (hd : decode mi.2.1 pc = .ok (.aload_n 2, 1)) (k : J a mi d g (pc + 1) (v0 :: v1 :: .ref x :: L) (.ref x :: st) (S)) : J a mi d g (pc) (v0 :: v1 :: .ref x :: L) (st) (S) := by
  intro p l e R s m args below meth c D H locs ls C hl hP hS
  exact lv_aload_n C.1 C.2.1 hd rfl (lx_at hl (i := 2) (v := .ref x) (by simp) rfl) (k p l e R s m args below meth c D H locs ls C hl hP hS)
theorem j_ast2 {v0 v1 : Value} {w : Value} {x : Nat} (hd : decode mi.2.1 pc = .ok (.astore_n 2, 1)) (hc : v1.category = 1) (hn : 2 < mi.2.2.1) (k : J a mi d g (pc + 1) (v0 :: v1 :: .ref x :: L) (st) (S)) : J a mi d g (pc) (v0 :: v1 :: w :: L) (.ref x :: st) (S) := by
  intro p l e R s m args below meth c D H locs ls C hl hP hS
  exact lv_astore_n (i := 2) C.1 C.2.1 hd rfl hl hn rfl (fun ls' hl' => k p l e R s m args below meth c D H locs ls' C (lx_of1 (L := v0 :: v1 :: w :: L) (i := 2) (x := .ref x) (fun w _ q => by cases q; exact hc) hl') hP hS)
theorem j_ild3 {v0 v1 v2 : Value} {x : Int32} (hd : decode mi.2.1 pc = .ok (.iload_n 3, 1)) (k : J a mi d g (pc + 1) (v0 :: v1 :: v2 :: .int x :: L) (.int x :: st) (S)) : J a mi d g (pc) (v0 :: v1 :: v2 :: .int x :: L) (st) (S) := by
  intro p l e R s m args below meth c D H locs ls C hl hP hS
  exact lv_iload_n C.1 C.2.1 hd rfl (lx_at hl (i := 3) (v := .int x) (by simp) rfl) (k p l e R s m args below meth c D H locs ls C hl hP hS)
theorem j_ist3 {v0 v1 v2 : Value} {w : Value} {x : Int32} (hd : decode mi.2.1 pc = .ok (.istore_n 3, 1)) (hc : v2.category = 1) (hn : 3 < mi.2.2.1) (k : J a mi d g (pc + 1) (v0 :: v1 :: v2 :: .int x :: L) (st) (S)) : J a mi d g (pc) (v0 :: v1 :: v2 :: w :: L) (.int x :: st) (S) := by
  intro p l e R s m args below meth c D H locs ls C hl hP hS
  exact lv_istore_n (i := 3) C.1 C.2.1 hd rfl hl hn rfl (fun ls' hl' => k p l e R s m args below meth c D H locs ls' C (lx_of1 (L := v0 :: v1 :: v2 :: w :: L) (i := 3) (x := .int x) (fun w _ q => by cases q; exact hc) hl') hP hS)
theorem j_iinc3 {v0 v1 v2 : Value} {x : Int32} {n : Int} (y : Int32) (hd : decode mi.2.1 pc = .ok (.iinc 3 n, 3)) (hy : x + Int32.ofInt n = y) (hc : v2.category = 1) (hn : 3 < mi.2.2.1) (k : J a mi d g (pc + 3) (v0 :: v1 :: v2 :: .int y :: L) (st) (S)) : J a mi d g (pc) (v0 :: v1 :: v2 :: .int x :: L) (st) (S) := by
  intro p l e R s m args below meth c D H locs ls C hl hP hS
  obtain ⟨q, hq⟩ := lx_ix hl (i := 3) (v := .int x) (by simp) rfl
  exact lv_iinc C.1 C.2.1 hd hl hq hy hn rfl (fun ls' hl' => k p l e R s m args below meth c D H locs ls' C (lx_of1 (L := v0 :: v1 :: v2 :: .int x :: L) (i := 3) (x := .int y) (fun w _ q => by cases q; exact hc) hl') hP hS)
theorem j_lld3 {v0 v1 v2 : Value} {x : Int64} (hd : decode mi.2.1 pc = .ok (.lload_n 3, 1)) (k : J a mi d g (pc + 1) (v0 :: v1 :: v2 :: .long x :: L) (.long x :: st) (S)) : J a mi d g (pc) (v0 :: v1 :: v2 :: .long x :: L) (st) (S) := by
  intro p l e R s m args below meth c D H locs ls C hl hP hS
  exact lv_lload_n C.1 C.2.1 hd rfl (lx_at hl (i := 3) (v := .long x) (by simp) rfl) (k p l e R s m args below meth c D H locs ls C hl hP hS)
theorem j_lst3 {v0 v1 v2 : Value} {w z : Value} {x : Int64} (hd : decode mi.2.1 pc = .ok (.lstore_n 3, 1)) (hc : v2.category = 1) (hn : 3 + 1 < mi.2.2.1) (k : J a mi d g (pc + 1) (v0 :: v1 :: v2 :: .long x :: .null :: L) (st) (S)) : J a mi d g (pc) (v0 :: v1 :: v2 :: w :: z :: L) (.long x :: st) (S) := by
  intro p l e R s m args below meth c D H locs ls C hl hP hS
  exact lv_lstore_n (i := 3) C.1 C.2.1 hd rfl hl hn rfl (fun ls' hl' => k p l e R s m args below meth c D H locs ls' C (lx_of2 (L := v0 :: v1 :: v2 :: w :: z :: L) (i := 3) (x := .long x) (fun w _ q => by cases q; exact hc) hl') hP hS)
theorem j_ald3 {v0 v1 v2 : Value} {x : Nat} (hd : decode mi.2.1 pc = .ok (.aload_n 3, 1)) (k : J a mi d g (pc + 1) (v0 :: v1 :: v2 :: .ref x :: L) (.ref x :: st) (S)) : J a mi d g (pc) (v0 :: v1 :: v2 :: .ref x :: L) (st) (S) := by
  intro p l e R s m args below meth c D H locs ls C hl hP hS
  exact lv_aload_n C.1 C.2.1 hd rfl (lx_at hl (i := 3) (v := .ref x) (by simp) rfl) (k p l e R s m args below meth c D H locs ls C hl hP hS)
theorem j_ast3 {v0 v1 v2 : Value} {w : Value} {x : Nat} (hd : decode mi.2.1 pc = .ok (.astore_n 3, 1)) (hc : v2.category = 1) (hn : 3 < mi.2.2.1) (k : J a mi d g (pc + 1) (v0 :: v1 :: v2 :: .ref x :: L) (st) (S)) : J a mi d g (pc) (v0 :: v1 :: v2 :: w :: L) (.ref x :: st) (S) := by
  intro p l e R s m args below meth c D H locs ls C hl hP hS
  exact lv_astore_n (i := 3) C.1 C.2.1 hd rfl hl hn rfl (fun ls' hl' => k p l e R s m args below meth c D H locs ls' C (lx_of1 (L := v0 :: v1 :: v2 :: w :: L) (i := 3) (x := .ref x) (fun w _ q => by cases q; exact hc) hl') hP hS)
theorem j_ild4 {v0 v1 v2 v3 : Value} {x : Int32} (hd : decode mi.2.1 pc = .ok (.iload 4, 2)) (k : J a mi d g (pc + 2) (v0 :: v1 :: v2 :: v3 :: .int x :: L) (.int x :: st) (S)) : J a mi d g (pc) (v0 :: v1 :: v2 :: v3 :: .int x :: L) (st) (S) := by
  intro p l e R s m args below meth c D H locs ls C hl hP hS
  exact lv_iload C.1 C.2.1 hd (lx_at hl (i := 4) (v := .int x) (by simp) rfl) (k p l e R s m args below meth c D H locs ls C hl hP hS)
theorem j_ist4 {v0 v1 v2 v3 : Value} {w : Value} {x : Int32} (hd : decode mi.2.1 pc = .ok (.istore 4, 2)) (hc : v3.category = 1) (hn : 4 < mi.2.2.1) (k : J a mi d g (pc + 2) (v0 :: v1 :: v2 :: v3 :: .int x :: L) (st) (S)) : J a mi d g (pc) (v0 :: v1 :: v2 :: v3 :: w :: L) (.int x :: st) (S) := by
  intro p l e R s m args below meth c D H locs ls C hl hP hS
  exact lv_istore C.1 C.2.1 hd hl hn rfl (fun ls' hl' => k p l e R s m args below meth c D H locs ls' C (lx_of1 (L := v0 :: v1 :: v2 :: v3 :: w :: L) (i := 4) (x := .int x) (fun w _ q => by cases q; exact hc) hl') hP hS)
theorem j_iinc4 {v0 v1 v2 v3 : Value} {x : Int32} {n : Int} (y : Int32) (hd : decode mi.2.1 pc = .ok (.iinc 4 n, 3)) (hy : x + Int32.ofInt n = y) (hc : v3.category = 1) (hn : 4 < mi.2.2.1) (k : J a mi d g (pc + 3) (v0 :: v1 :: v2 :: v3 :: .int y :: L) (st) (S)) : J a mi d g (pc) (v0 :: v1 :: v2 :: v3 :: .int x :: L) (st) (S) := by
  intro p l e R s m args below meth c D H locs ls C hl hP hS
  obtain ⟨q, hq⟩ := lx_ix hl (i := 4) (v := .int x) (by simp) rfl
  exact lv_iinc C.1 C.2.1 hd hl hq hy hn rfl (fun ls' hl' => k p l e R s m args below meth c D H locs ls' C (lx_of1 (L := v0 :: v1 :: v2 :: v3 :: .int x :: L) (i := 4) (x := .int y) (fun w _ q => by cases q; exact hc) hl') hP hS)
theorem j_lld4 {v0 v1 v2 v3 : Value} {x : Int64} (hd : decode mi.2.1 pc = .ok (.lload 4, 2)) (k : J a mi d g (pc + 2) (v0 :: v1 :: v2 :: v3 :: .long x :: L) (.long x :: st) (S)) : J a mi d g (pc) (v0 :: v1 :: v2 :: v3 :: .long x :: L) (st) (S) := by
  intro p l e R s m args below meth c D H locs ls C hl hP hS
  exact lv_lload C.1 C.2.1 hd (lx_at hl (i := 4) (v := .long x) (by simp) rfl) (k p l e R s m args below meth c D H locs ls C hl hP hS)
theorem j_lst4 {v0 v1 v2 v3 : Value} {w z : Value} {x : Int64} (hd : decode mi.2.1 pc = .ok (.lstore 4, 2)) (hc : v3.category = 1) (hn : 4 + 1 < mi.2.2.1) (k : J a mi d g (pc + 2) (v0 :: v1 :: v2 :: v3 :: .long x :: .null :: L) (st) (S)) : J a mi d g (pc) (v0 :: v1 :: v2 :: v3 :: w :: z :: L) (.long x :: st) (S) := by
  intro p l e R s m args below meth c D H locs ls C hl hP hS
  exact lv_lstore C.1 C.2.1 hd hl hn rfl (fun ls' hl' => k p l e R s m args below meth c D H locs ls' C (lx_of2 (L := v0 :: v1 :: v2 :: v3 :: w :: z :: L) (i := 4) (x := .long x) (fun w _ q => by cases q; exact hc) hl') hP hS)
theorem j_ald4 {v0 v1 v2 v3 : Value} {x : Nat} (hd : decode mi.2.1 pc = .ok (.aload 4, 2)) (k : J a mi d g (pc + 2) (v0 :: v1 :: v2 :: v3 :: .ref x :: L) (.ref x :: st) (S)) : J a mi d g (pc) (v0 :: v1 :: v2 :: v3 :: .ref x :: L) (st) (S) := by
  intro p l e R s m args below meth c D H locs ls C hl hP hS
  exact lv_aload C.1 C.2.1 hd (lx_at hl (i := 4) (v := .ref x) (by simp) rfl) (k p l e R s m args below meth c D H locs ls C hl hP hS)
theorem j_ast4 {v0 v1 v2 v3 : Value} {w : Value} {x : Nat} (hd : decode mi.2.1 pc = .ok (.astore 4, 2)) (hc : v3.category = 1) (hn : 4 < mi.2.2.1) (k : J a mi d g (pc + 2) (v0 :: v1 :: v2 :: v3 :: .ref x :: L) (st) (S)) : J a mi d g (pc) (v0 :: v1 :: v2 :: v3 :: w :: L) (.ref x :: st) (S) := by
  intro p l e R s m args below meth c D H locs ls C hl hP hS
  exact lv_astore C.1 C.2.1 hd hl hn rfl (fun ls' hl' => k p l e R s m args below meth c D H locs ls' C (lx_of1 (L := v0 :: v1 :: v2 :: v3 :: w :: L) (i := 4) (x := .ref x) (fun w _ q => by cases q; exact hc) hl') hP hS)
theorem j_ild5 {v0 v1 v2 v3 v4 : Value} {x : Int32} (hd : decode mi.2.1 pc = .ok (.iload 5, 2)) (k : J a mi d g (pc + 2) (v0 :: v1 :: v2 :: v3 :: v4 :: .int x :: L) (.int x :: st) (S)) : J a mi d g (pc) (v0 :: v1 :: v2 :: v3 :: v4 :: .int x :: L) (st) (S) := by
  intro p l e R s m args below meth c D H locs ls C hl hP hS
  exact lv_iload C.1 C.2.1 hd (lx_at hl (i := 5) (v := .int x) (by simp) rfl) (k p l e R s m args below meth c D H locs ls C hl hP hS)
theorem j_ist5 {v0 v1 v2 v3 v4 : Value} {w : Value} {x : Int32} (hd : decode mi.2.1 pc = .ok (.istore 5, 2)) (hc : v4.category = 1) (hn : 5 < mi.2.2.1) (k : J a mi d g (pc + 2) (v0 :: v1 :: v2 :: v3 :: v4 :: .int x :: L) (st) (S)) : J a mi d g (pc) (v0 :: v1 :: v2 :: v3 :: v4 :: w :: L) (.int x :: st) (S) := by
  intro p l e R s m args below meth c D H locs ls C hl hP hS
  exact lv_istore C.1 C.2.1 hd hl hn rfl (fun ls' hl' => k p l e R s m args below meth c D H locs ls' C (lx_of1 (L := v0 :: v1 :: v2 :: v3 :: v4 :: w :: L) (i := 5) (x := .int x) (fun w _ q => by cases q; exact hc) hl') hP hS)
theorem j_iinc5 {v0 v1 v2 v3 v4 : Value} {x : Int32} {n : Int} (y : Int32) (hd : decode mi.2.1 pc = .ok (.iinc 5 n, 3)) (hy : x + Int32.ofInt n = y) (hc : v4.category = 1) (hn : 5 < mi.2.2.1) (k : J a mi d g (pc + 3) (v0 :: v1 :: v2 :: v3 :: v4 :: .int y :: L) (st) (S)) : J a mi d g (pc) (v0 :: v1 :: v2 :: v3 :: v4 :: .int x :: L) (st) (S) := by
  intro p l e R s m args below meth c D H locs ls C hl hP hS
  obtain ⟨q, hq⟩ := lx_ix hl (i := 5) (v := .int x) (by simp) rfl
  exact lv_iinc C.1 C.2.1 hd hl hq hy hn rfl (fun ls' hl' => k p l e R s m args below meth c D H locs ls' C (lx_of1 (L := v0 :: v1 :: v2 :: v3 :: v4 :: .int x :: L) (i := 5) (x := .int y) (fun w _ q => by cases q; exact hc) hl') hP hS)
theorem j_lld5 {v0 v1 v2 v3 v4 : Value} {x : Int64} (hd : decode mi.2.1 pc = .ok (.lload 5, 2)) (k : J a mi d g (pc + 2) (v0 :: v1 :: v2 :: v3 :: v4 :: .long x :: L) (.long x :: st) (S)) : J a mi d g (pc) (v0 :: v1 :: v2 :: v3 :: v4 :: .long x :: L) (st) (S) := by
  intro p l e R s m args below meth c D H locs ls C hl hP hS
  exact lv_lload C.1 C.2.1 hd (lx_at hl (i := 5) (v := .long x) (by simp) rfl) (k p l e R s m args below meth c D H locs ls C hl hP hS)
theorem j_lst5 {v0 v1 v2 v3 v4 : Value} {w z : Value} {x : Int64} (hd : decode mi.2.1 pc = .ok (.lstore 5, 2)) (hc : v4.category = 1) (hn : 5 + 1 < mi.2.2.1) (k : J a mi d g (pc + 2) (v0 :: v1 :: v2 :: v3 :: v4 :: .long x :: .null :: L) (st) (S)) : J a mi d g (pc) (v0 :: v1 :: v2 :: v3 :: v4 :: w :: z :: L) (.long x :: st) (S) := by
  intro p l e R s m args below meth c D H locs ls C hl hP hS
  exact lv_lstore C.1 C.2.1 hd hl hn rfl (fun ls' hl' => k p l e R s m args below meth c D H locs ls' C (lx_of2 (L := v0 :: v1 :: v2 :: v3 :: v4 :: w :: z :: L) (i := 5) (x := .long x) (fun w _ q => by cases q; exact hc) hl') hP hS)
theorem j_ald5 {v0 v1 v2 v3 v4 : Value} {x : Nat} (hd : decode mi.2.1 pc = .ok (.aload 5, 2)) (k : J a mi d g (pc + 2) (v0 :: v1 :: v2 :: v3 :: v4 :: .ref x :: L) (.ref x :: st) (S)) : J a mi d g (pc) (v0 :: v1 :: v2 :: v3 :: v4 :: .ref x :: L) (st) (S) := by
  intro p l e R s m args below meth c D H locs ls C hl hP hS
  exact lv_aload C.1 C.2.1 hd (lx_at hl (i := 5) (v := .ref x) (by simp) rfl) (k p l e R s m args below meth c D H locs ls C hl hP hS)
theorem j_ast5 {v0 v1 v2 v3 v4 : Value} {w : Value} {x : Nat} (hd : decode mi.2.1 pc = .ok (.astore 5, 2)) (hc : v4.category = 1) (hn : 5 < mi.2.2.1) (k : J a mi d g (pc + 2) (v0 :: v1 :: v2 :: v3 :: v4 :: .ref x :: L) (st) (S)) : J a mi d g (pc) (v0 :: v1 :: v2 :: v3 :: v4 :: w :: L) (.ref x :: st) (S) := by
  intro p l e R s m args below meth c D H locs ls C hl hP hS
  exact lv_astore C.1 C.2.1 hd hl hn rfl (fun ls' hl' => k p l e R s m args below meth c D H locs ls' C (lx_of1 (L := v0 :: v1 :: v2 :: v3 :: v4 :: w :: L) (i := 5) (x := .ref x) (fun w _ q => by cases q; exact hc) hl') hP hS)
theorem j_ild6 {v0 v1 v2 v3 v4 v5 : Value} {x : Int32} (hd : decode mi.2.1 pc = .ok (.iload 6, 2)) (k : J a mi d g (pc + 2) (v0 :: v1 :: v2 :: v3 :: v4 :: v5 :: .int x :: L) (.int x :: st) (S)) : J a mi d g (pc) (v0 :: v1 :: v2 :: v3 :: v4 :: v5 :: .int x :: L) (st) (S) := by
  intro p l e R s m args below meth c D H locs ls C hl hP hS
  exact lv_iload C.1 C.2.1 hd (lx_at hl (i := 6) (v := .int x) (by simp) rfl) (k p l e R s m args below meth c D H locs ls C hl hP hS)
theorem j_ist6 {v0 v1 v2 v3 v4 v5 : Value} {w : Value} {x : Int32} (hd : decode mi.2.1 pc = .ok (.istore 6, 2)) (hc : v5.category = 1) (hn : 6 < mi.2.2.1) (k : J a mi d g (pc + 2) (v0 :: v1 :: v2 :: v3 :: v4 :: v5 :: .int x :: L) (st) (S)) : J a mi d g (pc) (v0 :: v1 :: v2 :: v3 :: v4 :: v5 :: w :: L) (.int x :: st) (S) := by
  intro p l e R s m args below meth c D H locs ls C hl hP hS
  exact lv_istore C.1 C.2.1 hd hl hn rfl (fun ls' hl' => k p l e R s m args below meth c D H locs ls' C (lx_of1 (L := v0 :: v1 :: v2 :: v3 :: v4 :: v5 :: w :: L) (i := 6) (x := .int x) (fun w _ q => by cases q; exact hc) hl') hP hS)
theorem j_iinc6 {v0 v1 v2 v3 v4 v5 : Value} {x : Int32} {n : Int} (y : Int32) (hd : decode mi.2.1 pc = .ok (.iinc 6 n, 3)) (hy : x + Int32.ofInt n = y) (hc : v5.category = 1) (hn : 6 < mi.2.2.1) (k : J a mi d g (pc + 3) (v0 :: v1 :: v2 :: v3 :: v4 :: v5 :: .int y :: L) (st) (S)) : J a mi d g (pc) (v0 :: v1 :: v2 :: v3 :: v4 :: v5 :: .int x :: L) (st) (S) := by
  intro p l e R s m args below meth c D H locs ls C hl hP hS
  obtain ⟨q, hq⟩ := lx_ix hl (i := 6) (v := .int x) (by simp) rfl
  exact lv_iinc C.1 C.2.1 hd hl hq hy hn rfl (fun ls' hl' => k p l e R s m args below meth c D H locs ls' C (lx_of1 (L := v0 :: v1 :: v2 :: v3 :: v4 :: v5 :: .int x :: L) (i := 6) (x := .int y) (fun w _ q => by cases q; exact hc) hl') hP hS)
theorem j_lld6 {v0 v1 v2 v3 v4 v5 : Value} {x : Int64} (hd : decode mi.2.1 pc = .ok (.lload 6, 2)) (k : J a mi d g (pc + 2) (v0 :: v1 :: v2 :: v3 :: v4 :: v5 :: .long x :: L) (.long x :: st) (S)) : J a mi d g (pc) (v0 :: v1 :: v2 :: v3 :: v4 :: v5 :: .long x :: L) (st) (S) := by
  intro p l e R s m args below meth c D H locs ls C hl hP hS
  exact lv_lload C.1 C.2.1 hd (lx_at hl (i := 6) (v := .long x) (by simp) rfl) (k p l e R s m args below meth c D H locs ls C hl hP hS)
theorem j_lst6 {v0 v1 v2 v3 v4 v5 : Value} {w z : Value} {x : Int64} (hd : decode mi.2.1 pc = .ok (.lstore 6, 2)) (hc : v5.category = 1) (hn : 6 + 1 < mi.2.2.1) (k : J a mi d g (pc + 2) (v0 :: v1 :: v2 :: v3 :: v4 :: v5 :: .long x :: .null :: L) (st) (S)) : J a mi d g (pc) (v0 :: v1 :: v2 :: v3 :: v4 :: v5 :: w :: z :: L) (.long x :: st) (S) := by
  intro p l e R s m args below meth c D H locs ls C hl hP hS
  exact lv_lstore C.1 C.2.1 hd hl hn rfl (fun ls' hl' => k p l e R s m args below meth c D H locs ls' C (lx_of2 (L := v0 :: v1 :: v2 :: v3 :: v4 :: v5 :: w :: z :: L) (i := 6) (x := .long x) (fun w _ q => by cases q; exact hc) hl') hP hS)
theorem j_ald6 {v0 v1 v2 v3 v4 v5 : Value} {x : Nat} (hd : decode mi.2.1 pc = .ok (.aload 6, 2)) (k : J a mi d g (pc + 2) (v0 :: v1 :: v2 :: v3 :: v4 :: v5 :: .ref x :: L) (.ref x :: st) (S)) : J a mi d g (pc) (v0 :: v1 :: v2 :: v3 :: v4 :: v5 :: .ref x :: L) (st) (S) := by
  intro p l e R s m args below meth c D H locs ls C hl hP hS
  exact lv_aload C.1 C.2.1 hd (lx_at hl (i := 6) (v := .ref x) (by simp) rfl) (k p l e R s m args below meth c D H locs ls C hl hP hS)
theorem j_ast6 {v0 v1 v2 v3 v4 v5 : Value} {w : Value} {x : Nat} (hd : decode mi.2.1 pc = .ok (.astore 6, 2)) (hc : v5.category = 1) (hn : 6 < mi.2.2.1) (k : J a mi d g (pc + 2) (v0 :: v1 :: v2 :: v3 :: v4 :: v5 :: .ref x :: L) (st) (S)) : J a mi d g (pc) (v0 :: v1 :: v2 :: v3 :: v4 :: v5 :: w :: L) (.ref x :: st) (S) := by
  intro p l e R s m args below meth c D H locs ls C hl hP hS
  exact lv_astore C.1 C.2.1 hd hl hn rfl (fun ls' hl' => k p l e R s m args below meth c D H locs ls' C (lx_of1 (L := v0 :: v1 :: v2 :: v3 :: v4 :: v5 :: w :: L) (i := 6) (x := .ref x) (fun w _ q => by cases q; exact hc) hl') hP hS)
theorem j_ild7 {v0 v1 v2 v3 v4 v5 v6 : Value} {x : Int32} (hd : decode mi.2.1 pc = .ok (.iload 7, 2)) (k : J a mi d g (pc + 2) (v0 :: v1 :: v2 :: v3 :: v4 :: v5 :: v6 :: .int x :: L) (.int x :: st) (S)) : J a mi d g (pc) (v0 :: v1 :: v2 :: v3 :: v4 :: v5 :: v6 :: .int x :: L) (st) (S) := by
  intro p l e R s m args below meth c D H locs ls C hl hP hS
  exact lv_iload C.1 C.2.1 hd (lx_at hl (i := 7) (v := .int x) (by simp) rfl) (k p l e R s m args below meth c D H locs ls C hl hP hS)
theorem j_ist7 {v0 v1 v2 v3 v4 v5 v6 : Value} {w : Value} {x : Int32} (hd : decode mi.2.1 pc = .ok (.istore 7, 2)) (hc : v6.category = 1) (hn : 7 < mi.2.2.1) (k : J a mi d g (pc + 2) (v0 :: v1 :: v2 :: v3 :: v4 :: v5 :: v6 :: .int x :: L) (st) (S)) : J a mi d g (pc) (v0 :: v1 :: v2 :: v3 :: v4 :: v5 :: v6 :: w :: L) (.int x :: st) (S) := by
  intro p l e R s m args below meth c D H locs ls C hl hP hS
  exact lv_istore C.1 C.2.1 hd hl hn rfl (fun ls' hl' => k p l e R s m args below meth c D H locs ls' C (lx_of1 (L := v0 :: v1 :: v2 :: v3 :: v4 :: v5 :: v6 :: w :: L) (i := 7) (x := .int x) (fun w _ q => by cases q; exact hc) hl') hP hS)
theorem j_iinc7 {v0 v1 v2 v3 v4 v5 v6 : Value} {x : Int32} {n : Int} (y : Int32) (hd : decode mi.2.1 pc = .ok (.iinc 7 n, 3)) (hy : x + Int32.ofInt n = y) (hc : v6.category = 1) (hn : 7 < mi.2.2.1) (k : J a mi d g (pc + 3) (v0 :: v1 :: v2 :: v3 :: v4 :: v5 :: v6 :: .int y :: L) (st) (S)) : J a mi d g (pc) (v0 :: v1 :: v2 :: v3 :: v4 :: v5 :: v6 :: .int x :: L) (st) (S) := by
  intro p l e R s m args below meth c D H locs ls C hl hP hS
  obtain ⟨q, hq⟩ := lx_ix hl (i := 7) (v := .int x) (by simp) rfl
  exact lv_iinc C.1 C.2.1 hd hl hq hy hn rfl (fun ls' hl' => k p l e R s m args below meth c D H locs ls' C (lx_of1 (L := v0 :: v1 :: v2 :: v3 :: v4 :: v5 :: v6 :: .int x :: L) (i := 7) (x := .int y) (fun w _ q => by cases q; exact hc) hl') hP hS)
theorem j_lld7 {v0 v1 v2 v3 v4 v5 v6 : Value} {x : Int64} (hd : decode mi.2.1 pc = .ok (.lload 7, 2)) (k : J a mi d g (pc + 2) (v0 :: v1 :: v2 :: v3 :: v4 :: v5 :: v6 :: .long x :: L) (.long x :: st) (S)) : J a mi d g (pc) (v0 :: v1 :: v2 :: v3 :: v4 :: v5 :: v6 :: .long x :: L) (st) (S) := by
  intro p l e R s m args below meth c D H locs ls C hl hP hS
  exact lv_lload C.1 C.2.1 hd (lx_at hl (i := 7) (v := .long x) (by simp) rfl) (k p l e R s m args below meth c D H locs ls C hl hP hS)
theorem j_lst7 {v0 v1 v2 v3 v4 v5 v6 : Value} {w z : Value} {x : Int64} (hd : decode mi.2.1 pc = .ok (.lstore 7, 2)) (hc : v6.category = 1) (hn : 7 + 1 < mi.2.2.1) (k : J a mi d g (pc + 2) (v0 :: v1 :: v2 :: v3 :: v4 :: v5 :: v6 :: .long x :: .null :: L) (st) (S)) : J a mi d g (pc) (v0 :: v1 :: v2 :: v3 :: v4 :: v5 :: v6 :: w :: z :: L) (.long x :: st) (S) := by
  intro p l e R s m args below meth c D H locs ls C hl hP hS
  exact lv_lstore C.1 C.2.1 hd hl hn rfl (fun ls' hl' => k p l e R s m args below meth c D H locs ls' C (lx_of2 (L := v0 :: v1 :: v2 :: v3 :: v4 :: v5 :: v6 :: w :: z :: L) (i := 7) (x := .long x) (fun w _ q => by cases q; exact hc) hl') hP hS)
theorem j_ald7 {v0 v1 v2 v3 v4 v5 v6 : Value} {x : Nat} (hd : decode mi.2.1 pc = .ok (.aload 7, 2)) (k : J a mi d g (pc + 2) (v0 :: v1 :: v2 :: v3 :: v4 :: v5 :: v6 :: .ref x :: L) (.ref x :: st) (S)) : J a mi d g (pc) (v0 :: v1 :: v2 :: v3 :: v4 :: v5 :: v6 :: .ref x :: L) (st) (S) := by
  intro p l e R s m args below meth c D H locs ls C hl hP hS
  exact lv_aload C.1 C.2.1 hd (lx_at hl (i := 7) (v := .ref x) (by simp) rfl) (k p l e R s m args below meth c D H locs ls C hl hP hS)
theorem j_ast7 {v0 v1 v2 v3 v4 v5 v6 : Value} {w : Value} {x : Nat} (hd : decode mi.2.1 pc = .ok (.astore 7, 2)) (hc : v6.category = 1) (hn : 7 < mi.2.2.1) (k : J a mi d g (pc + 2) (v0 :: v1 :: v2 :: v3 :: v4 :: v5 :: v6 :: .ref x :: L) (st) (S)) : J a mi d g (pc) (v0 :: v1 :: v2 :: v3 :: v4 :: v5 :: v6 :: w :: L) (.ref x :: st) (S) := by
  intro p l e R s m args below meth c D H locs ls C hl hP hS
  exact lv_astore C.1 C.2.1 hd hl hn rfl (fun ls' hl' => k p l e R s m args below meth c D H locs ls' C (lx_of1 (L := v0 :: v1 :: v2 :: v3 :: v4 :: v5 :: v6 :: w :: L) (i := 7) (x := .ref x) (fun w _ q => by cases q; exact hc) hl') hP hS)
theorem j_ild8 {v0 v1 v2 v3 v4 v5 v6 v7 : Value} {x : Int32} (hd : decode mi.2.1 pc = .ok (.iload 8, 2)) (k : J a mi d g (pc + 2) (v0 :: v1 :: v2 :: v3 :: v4 :: v5 :: v6 :: v7 :: .int x :: L) (.int x :: st) (S)) : J a mi d g (pc) (v0 :: v1 :: v2 :: v3 :: v4 :: v5 :: v6 :: v7 :: .int x :: L) (st) (S) := by
  intro p l e R s m args below meth c D H locs ls C hl hP hS
  exact lv_iload C.1 C.2.1 hd (lx_at hl (i := 8) (v := .int x) (by simp) rfl) (k p l e R s m args below meth c D H locs ls C hl hP hS)
theorem j_ist8 {v0 v1 v2 v3 v4 v5 v6 v7 : Value} {w : Value} {x : Int32} (hd : decode mi.2.1 pc = .ok (.istore 8, 2)) (hc : v7.category = 1) (hn : 8 < mi.2.2.1) (k : J a mi d g (pc + 2) (v0 :: v1 :: v2 :: v3 :: v4 :: v5 :: v6 :: v7 :: .int x :: L) (st) (S)) : J a mi d g (pc) (v0 :: v1 :: v2 :: v3 :: v4 :: v5 :: v6 :: v7 :: w :: L) (.int x :: st) (S) := by
  intro p l e R s m args below meth c D H locs ls C hl hP hS
  exact lv_istore C.1 C.2.1 hd hl hn rfl (fun ls' hl' => k p l e R s m args below meth c D H locs ls' C (lx_of1 (L := v0 :: v1 :: v2 :: v3 :: v4 :: v5 :: v6 :: v7 :: w :: L) (i := 8) (x := .int x) (fun w _ q => by cases q; exact hc) hl') hP hS)
theorem j_iinc8 {v0 v1 v2 v3 v4 v5 v6 v7 : Value} {x : Int32} {n : Int} (y : Int32) (hd : decode mi.2.1 pc = .ok (.iinc 8 n, 3)) (hy : x + Int32.ofInt n = y) (hc : v7.category = 1) (hn : 8 < mi.2.2.1) (k : J a mi d g (pc + 3) (v0 :: v1 :: v2 :: v3 :: v4 :: v5 :: v6 :: v7 :: .int y :: L) (st) (S)) : J a mi d g (pc) (v0 :: v1 :: v2 :: v3 :: v4 :: v5 :: v6 :: v7 :: .int x :: L) (st) (S) := by
  intro p l e R s m args below meth c D H locs ls C hl hP hS
  obtain ⟨q, hq⟩ := lx_ix hl (i := 8) (v := .int x) (by simp) rfl
  exact lv_iinc C.1 C.2.1 hd hl hq hy hn rfl (fun ls' hl' => k p l e R s m args below meth c D H locs ls' C (lx_of1 (L := v0 :: v1 :: v2 :: v3 :: v4 :: v5 :: v6 :: v7 :: .int x :: L) (i := 8) (x := .int y) (fun w _ q => by cases q; exact hc) hl') hP hS)
theorem j_lld8 {v0 v1 v2 v3 v4 v5 v6 v7 : Value} {x : Int64} (hd : decode mi.2.1 pc = .ok (.lload 8, 2)) (k : J a mi d g (pc + 2) (v0 :: v1 :: v2 :: v3 :: v4 :: v5 :: v6 :: v7 :: .long x :: L) (.long x :: st) (S)) : J a mi d g (pc) (v0 :: v1 :: v2 :: v3 :: v4 :: v5 :: v6 :: v7 :: .long x :: L) (st) (S) := by
  intro p l e R s m args below meth c D H locs ls C hl hP hS
  exact lv_lload C.1 C.2.1 hd (lx_at hl (i := 8) (v := .long x) (by simp) rfl) (k p l e R s m args below meth c D H locs ls C hl hP hS)
theorem j_lst8 {v0 v1 v2 v3 v4 v5 v6 v7 : Value} {w z : Value} {x : Int64} (hd : decode mi.2.1 pc = .ok (.lstore 8, 2)) (hc : v7.category = 1) (hn : 8 + 1 < mi.2.2.1) (k : J a mi d g (pc + 2) (v0 :: v1 :: v2 :: v3 :: v4 :: v5 :: v6 :: v7 :: .long x :: .null :: L) (st) (S)) : J a mi d g (pc) (v0 :: v1 :: v2 :: v3 :: v4 :: v5 :: v6 :: v7 :: w :: z :: L) (.long x :: st) (S) := by
  intro p l e R s m args below meth c D H locs ls C hl hP hS
  exact lv_lstore C.1 C.2.1 hd hl hn rfl (fun ls' hl' => k p l e R s m args below meth c D H locs ls' C (lx_of2 (L := v0 :: v1 :: v2 :: v3 :: v4 :: v5 :: v6 :: v7 :: w :: z :: L) (i := 8) (x := .long x) (fun w _ q => by cases q; exact hc) hl') hP hS)
theorem j_ald8 {v0 v1 v2 v3 v4 v5 v6 v7 : Value} {x : Nat} (hd : decode mi.2.1 pc = .ok (.aload 8, 2)) (k : J a mi d g (pc + 2) (v0 :: v1 :: v2 :: v3 :: v4 :: v5 :: v6 :: v7 :: .ref x :: L) (.ref x :: st) (S)) : J a mi d g (pc) (v0 :: v1 :: v2 :: v3 :: v4 :: v5 :: v6 :: v7 :: .ref x :: L) (st) (S) := by
  intro p l e R s m args below meth c D H locs ls C hl hP hS
  exact lv_aload C.1 C.2.1 hd (lx_at hl (i := 8) (v := .ref x) (by simp) rfl) (k p l e R s m args below meth c D H locs ls C hl hP hS)
theorem j_ast8 {v0 v1 v2 v3 v4 v5 v6 v7 : Value} {w : Value} {x : Nat} (hd : decode mi.2.1 pc = .ok (.astore 8, 2)) (hc : v7.category = 1) (hn : 8 < mi.2.2.1) (k : J a mi d g (pc + 2) (v0 :: v1 :: v2 :: v3 :: v4 :: v5 :: v6 :: v7 :: .ref x :: L) (st) (S)) : J a mi d g (pc) (v0 :: v1 :: v2 :: v3 :: v4 :: v5 :: v6 :: v7 :: w :: L) (.ref x :: st) (S) := by
  intro p l e R s m args below meth c D H locs ls C hl hP hS
  exact lv_astore C.1 C.2.1 hd hl hn rfl (fun ls' hl' => k p l e R s m args below meth c D H locs ls' C (lx_of1 (L := v0 :: v1 :: v2 :: v3 :: v4 :: v5 :: v6 :: v7 :: w :: L) (i := 8) (x := .ref x) (fun w _ q => by cases q; exact hc) hl') hP hS)
theorem j_ild9 {v0 v1 v2 v3 v4 v5 v6 v7 v8 : Value} {x : Int32} (hd : decode mi.2.1 pc = .ok (.iload 9, 2)) (k : J a mi d g (pc + 2) (v0 :: v1 :: v2 :: v3 :: v4 :: v5 :: v6 :: v7 :: v8 :: .int x :: L) (.int x :: st) (S)) : J a mi d g (pc) (v0 :: v1 :: v2 :: v3 :: v4 :: v5 :: v6 :: v7 :: v8 :: .int x :: L) (st) (S) := by
  intro p l e R s m args below meth c D H locs ls C hl hP hS
  exact lv_iload C.1 C.2.1 hd (lx_at hl (i := 9) (v := .int x) (by simp) rfl) (k p l e R s m args below meth c D H locs ls C hl hP hS)
theorem j_ist9 {v0 v1 v2 v3 v4 v5 v6 v7 v8 : Value} {w : Value} {x : Int32} (hd : decode mi.2.1 pc = .ok (.istore 9, 2)) (hc : v8.category = 1) (hn : 9 < mi.2.2.1) (k : J a mi d g (pc + 2) (v0 :: v1 :: v2 :: v3 :: v4 :: v5 :: v6 :: v7 :: v8 :: .int x :: L) (st) (S)) : J a mi d g (pc) (v0 :: v1 :: v2 :: v3 :: v4 :: v5 :: v6 :: v7 :: v8 :: w :: L) (.int x :: st) (S) := by
  intro p l e R s m args below meth c D H locs ls C hl hP hS
  exact lv_istore C.1 C.2.1 hd hl hn rfl (fun ls' hl' => k p l e R s m args below meth c D H locs ls' C (lx_of1 (L := v0 :: v1 :: v2 :: v3 :: v4 :: v5 :: v6 :: v7 :: v8 :: w :: L) (i := 9) (x := .int x) (fun w _ q => by cases q; exact hc) hl') hP hS)
theorem j_iinc9 {v0 v1 v2 v3 v4 v5 v6 v7 v8 : Value} {x : Int32} {n : Int} (y : Int32) (hd : decode mi.2.1 pc = .ok (.iinc 9 n, 3)) (hy : x + Int32.ofInt n = y) (hc : v8.category = 1) (hn : 9 < mi.2.2.1) (k : J a mi d g (pc + 3) (v0 :: v1 :: v2 :: v3 :: v4 :: v5 :: v6 :: v7 :: v8 :: .int y :: L) (st) (S)) : J a mi d g (pc) (v0 :: v1 :: v2 :: v3 :: v4 :: v5 :: v6 :: v7 :: v8 :: .int x :: L) (st) (S) := by
  intro p l e R s m args below meth c D H locs ls C hl hP hS
  obtain ⟨q, hq⟩ := lx_ix hl (i := 9) (v := .int x) (by simp) rfl
  exact lv_iinc C.1 C.2.1 hd hl hq hy hn rfl (fun ls' hl' => k p l e R s m args below meth c D H locs ls' C (lx_of1 (L := v0 :: v1 :: v2 :: v3 :: v4 :: v5 :: v6 :: v7 :: v8 :: .int x :: L) (i := 9) (x := .int y) (fun w _ q => by cases q; exact hc) hl') hP hS)
theorem j_lld9 {v0 v1 v2 v3 v4 v5 v6 v7 v8 : Value} {x : Int64} (hd : decode mi.2.1 pc = .ok (.lload 9, 2)) (k : J a mi d g (pc + 2) (v0 :: v1 :: v2 :: v3 :: v4 :: v5 :: v6 :: v7 :: v8 :: .long x :: L) (.long x :: st) (S)) : J a mi d g (pc) (v0 :: v1 :: v2 :: v3 :: v4 :: v5 :: v6 :: v7 :: v8 :: .long x :: L) (st) (S) := by
  intro p l e R s m args below meth c D H locs ls C hl hP hS
  exact lv_lload C.1 C.2.1 hd (lx_at hl (i := 9) (v := .long x) (by simp) rfl) (k p l e R s m args below meth c D H locs ls C hl hP hS)
theorem j_lst9 {v0 v1 v2 v3 v4 v5 v6 v7 v8 : Value} {w z : Value} {x : Int64} (hd : decode mi.2.1 pc = .ok (.lstore 9, 2)) (hc : v8.category = 1) (hn : 9 + 1 < mi.2.2.1) (k : J a mi d g (pc + 2) (v0 :: v1 :: v2 :: v3 :: v4 :: v5 :: v6 :: v7 :: v8 :: .long x :: .null :: L) (st) (S)) : J a mi d g (pc) (v0 :: v1 :: v2 :: v3 :: v4 :: v5 :: v6 :: v7 :: v8 :: w :: z :: L) (.long x :: st) (S) := by
  intro p l e R s m args below meth c D H locs ls C hl hP hS
  exact lv_lstore C.1 C.2.1 hd hl hn rfl (fun ls' hl' => k p l e R s m args below meth c D H locs ls' C (lx_of2 (L := v0 :: v1 :: v2 :: v3 :: v4 :: v5 :: v6 :: v7 :: v8 :: w :: z :: L) (i := 9) (x := .long x) (fun w _ q => by cases q; exact hc) hl') hP hS)
theorem j_ald9 {v0 v1 v2 v3 v4 v5 v6 v7 v8 : Value} {x : Nat} (hd : decode mi.2.1 pc = .ok (.aload 9, 2)) (k : J a mi d g (pc + 2) (v0 :: v1 :: v2 :: v3 :: v4 :: v5 :: v6 :: v7 :: v8 :: .ref x :: L) (.ref x :: st) (S)) : J a mi d g (pc) (v0 :: v1 :: v2 :: v3 :: v4 :: v5 :: v6 :: v7 :: v8 :: .ref x :: L) (st) (S) := by
  intro p l e R s m args below meth c D H locs ls C hl hP hS
  exact lv_aload C.1 C.2.1 hd (lx_at hl (i := 9) (v := .ref x) (by simp) rfl) (k p l e R s m args below meth c D H locs ls C hl hP hS)
theorem j_ast9 {v0 v1 v2 v3 v4 v5 v6 v7 v8 : Value} {w : Value} {x : Nat} (hd : decode mi.2.1 pc = .ok (.astore 9, 2)) (hc : v8.category = 1) (hn : 9 < mi.2.2.1) (k : J a mi d g (pc + 2) (v0 :: v1 :: v2 :: v3 :: v4 :: v5 :: v6 :: v7 :: v8 :: .ref x :: L) (st) (S)) : J a mi d g (pc) (v0 :: v1 :: v2 :: v3 :: v4 :: v5 :: v6 :: v7 :: v8 :: w :: L) (.ref x :: st) (S) := by
  intro p l e R s m args below meth c D H locs ls C hl hP hS
  exact lv_astore C.1 C.2.1 hd hl hn rfl (fun ls' hl' => k p l e R s m args below meth c D H locs ls' C (lx_of1 (L := v0 :: v1 :: v2 :: v3 :: v4 :: v5 :: v6 :: v7 :: v8 :: w :: L) (i := 9) (x := .ref x) (fun w _ q => by cases q; exact hc) hl') hP hS)
theorem j_ild10 {v0 v1 v2 v3 v4 v5 v6 v7 v8 v9 : Value} {x : Int32} (hd : decode mi.2.1 pc = .ok (.iload 10, 2)) (k : J a mi d g (pc + 2) (v0 :: v1 :: v2 :: v3 :: v4 :: v5 :: v6 :: v7 :: v8 :: v9 :: .int x :: L) (.int x :: st) (S)) : J a mi d g (pc) (v0 :: v1 :: v2 :: v3 :: v4 :: v5 :: v6 :: v7 :: v8 :: v9 :: .int x :: L) (st) (S) := by
  intro p l e R s m args below meth c D H locs ls C hl hP hS
  exact lv_iload C.1 C.2.1 hd (lx_at hl (i := 10) (v := .int x) (by simp) rfl) (k p l e R s m args below meth c D H locs ls C hl hP hS)
theorem j_ist10 {v0 v1 v2 v3 v4 v5 v6 v7 v8 v9 : Value} {w : Value} {x : Int32} (hd : decode mi.2.1 pc = .ok (.istore 10, 2)) (hc : v9.category = 1) (hn : 10 < mi.2.2.1) (k : J a mi d g (pc + 2) (v0 :: v1 :: v2 :: v3 :: v4 :: v5 :: v6 :: v7 :: v8 :: v9 :: .int x :: L) (st) (S)) : J a mi d g (pc) (v0 :: v1 :: v2 :: v3 :: v4 :: v5 :: v6 :: v7 :: v8 :: v9 :: w :: L) (.int x :: st) (S) := by
  intro p l e R s m args below meth c D H locs ls C hl hP hS
  exact lv_istore C.1 C.2.1 hd hl hn rfl (fun ls' hl' => k p l e R s m args below meth c D H locs ls' C (lx_of1 (L := v0 :: v1 :: v2 :: v3 :: v4 :: v5 :: v6 :: v7 :: v8 :: v9 :: w :: L) (i := 10) (x := .int x) (fun w _ q => by cases q; exact hc) hl') hP hS)
theorem j_iinc10 {v0 v1 v2 v3 v4 v5 v6 v7 v8 v9 : Value} {x : Int32} {n : Int} (y : Int32) (hd : decode mi.2.1 pc = .ok (.iinc 10 n, 3)) (hy : x + Int32.ofInt n = y) (hc : v9.category = 1) (hn : 10 < mi.2.2.1) (k : J a mi d g (pc + 3) (v0 :: v1 :: v2 :: v3 :: v4 :: v5 :: v6 :: v7 :: v8 :: v9 :: .int y :: L) (st) (S)) : J a mi d g (pc) (v0 :: v1 :: v2 :: v3 :: v4 :: v5 :: v6 :: v7 :: v8 :: v9 :: .int x :: L) (st) (S) := by
  intro p l e R s m args below meth c D H locs ls C hl hP hS
  obtain ⟨q, hq⟩ := lx_ix hl (i := 10) (v := .int x) (by simp) rfl
  exact lv_iinc C.1 C.2.1 hd hl hq hy hn rfl (fun ls' hl' => k p l e R s m args below meth c D H locs ls' C (lx_of1 (L := v0 :: v1 :: v2 :: v3 :: v4 :: v5 :: v6 :: v7 :: v8 :: v9 :: .int x :: L) (i := 10) (x := .int y) (fun w _ q => by cases q; exact hc) hl') hP hS)
theorem j_lld10 {v0 v1 v2 v3 v4 v5 v6 v7 v8 v9 : Value} {x : Int64} (hd : decode mi.2.1 pc = .ok (.lload 10, 2)) (k : J a mi d g (pc + 2) (v0 :: v1 :: v2 :: v3 :: v4 :: v5 :: v6 :: v7 :: v8 :: v9 :: .long x :: L) (.long x :: st) (S)) : J a mi d g (pc) (v0 :: v1 :: v2 :: v3 :: v4 :: v5 :: v6 :: v7 :: v8 :: v9 :: .long x :: L) (st) (S) := by
  intro p l e R s m args below meth c D H locs ls C hl hP hS
  exact lv_lload C.1 C.2.1 hd (lx_at hl (i := 10) (v := .long x) (by simp) rfl) (k p l e R s m args below meth c D H locs ls C hl hP hS)
theorem j_lst10 {v0 v1 v2 v3 v4 v5 v6 v7 v8 v9 : Value} {w z : Value} {x : Int64} (hd : decode mi.2.1 pc = .ok (.lstore 10, 2)) (hc : v9.category = 1) (hn : 10 + 1 < mi.2.2.1) (k : J a mi d g (pc + 2) (v0 :: v1 :: v2 :: v3 :: v4 :: v5 :: v6 :: v7 :: v8 :: v9 :: .long x :: .null :: L) (st) (S)) : J a mi d g (pc) (v0 :: v1 :: v2 :: v3 :: v4 :: v5 :: v6 :: v7 :: v8 :: v9 :: w :: z :: L) (.long x :: st) (S) := by
  intro p l e R s m args below meth c D H locs ls C hl hP hS
  exact lv_lstore C.1 C.2.1 hd hl hn rfl (fun ls' hl' => k p l e R s m args below meth c D H locs ls' C (lx_of2 (L := v0 :: v1 :: v2 :: v3 :: v4 :: v5 :: v6 :: v7 :: v8 :: v9 :: w :: z :: L) (i := 10) (x := .long x) (fun w _ q => by cases q; exact hc) hl') hP hS)
theorem j_ald10 {v0 v1 v2 v3 v4 v5 v6 v7 v8 v9 : Value} {x : Nat} (hd : decode mi.2.1 pc = .ok (.aload 10, 2)) (k : J a mi d g (pc + 2) (v0 :: v1 :: v2 :: v3 :: v4 :: v5 :: v6 :: v7 :: v8 :: v9 :: .ref x :: L) (.ref x :: st) (S)) : J a mi d g (pc) (v0 :: v1 :: v2 :: v3 :: v4 :: v5 :: v6 :: v7 :: v8 :: v9 :: .ref x :: L) (st) (S) := by
  intro p l e R s m args below meth c D H locs ls C hl hP hS
  exact lv_aload C.1 C.2.1 hd (lx_at hl (i := 10) (v := .ref x) (by simp) rfl) (k p l e R s m args below meth c D H locs ls C hl hP hS)
theorem j_ast10 {v0 v1 v2 v3 v4 v5 v6 v7 v8 v9 : Value} {w : Value} {x : Nat} (hd : decode mi.2.1 pc = .ok (.astore 10, 2)) (hc : v9.category = 1) (hn : 10 < mi.2.2.1) (k : J a mi d g (pc + 2) (v0 :: v1 :: v2 :: v3 :: v4 :: v5 :: v6 :: v7 :: v8 :: v9 :: .ref x :: L) (st) (S)) : J a mi d g (pc) (v0 :: v1 :: v2 :: v3 :: v4 :: v5 :: v6 :: v7 :: v8 :: v9 :: w :: L) (.ref x :: st) (S) := by
  intro p l e R s m args below meth c D H locs ls C hl hP hS
  exact lv_astore C.1 C.2.1 hd hl hn rfl (fun ls' hl' => k p l e R s m args below meth c D H locs ls' C (lx_of1 (L := v0 :: v1 :: v2 :: v3 :: v4 :: v5 :: v6 :: v7 :: v8 :: v9 :: w :: L) (i := 10) (x := .ref x) (fun w _ q => by cases q; exact hc) hl') hP hS)
theorem j_ild11 {v0 v1 v2 v3 v4 v5 v6 v7 v8 v9 v10 : Value} {x : Int32} (hd : decode mi.2.1 pc = .ok (.iload 11, 2)) (k : J a mi d g (pc + 2) (v0 :: v1 :: v2 :: v3 :: v4 :: v5 :: v6 :: v7 :: v8 :: v9 :: v10 :: .int x :: L) (.int x :: st) (S)) : J a mi d g (pc) (v0 :: v1 :: v2 :: v3 :: v4 :: v5 :: v6 :: v7 :: v8 :: v9 :: v10 :: .int x :: L) (st) (S) := by
  intro p l e R s m args below meth c D H locs ls C hl hP hS
  exact lv_iload C.1 C.2.1 hd (lx_at hl (i := 11) (v := .int x) (by simp) rfl) (k p l e R s m args below meth c D H locs ls C hl hP hS)
theorem j_ist11 {v0 v1 v2 v3 v4 v5 v6 v7 v8 v9 v10 : Value} {w : Value} {x : Int32} (hd : decode mi.2.1 pc = .ok (.istore 11, 2)) (hc : v10.category = 1) (hn : 11 < mi.2.2.1) (k : J a mi d g (pc + 2) (v0 :: v1 :: v2 :: v3 :: v4 :: v5 :: v6 :: v7 :: v8 :: v9 :: v10 :: .int x :: L) (st) (S)) : J a mi d g (pc) (v0 :: v1 :: v2 :: v3 :: v4 :: v5 :: v6 :: v7 :: v8 :: v9 :: v10 :: w :: L) (.int x :: st) (S) := by
  intro p l e R s m args below meth c D H locs ls C hl hP hS
  exact lv_istore C.1 C.2.1 hd hl hn rfl (fun ls' hl' => k p l e R s m args below meth c D H locs ls' C (lx_of1 (L := v0 :: v1 :: v2 :: v3 :: v4 :: v5 :: v6 :: v7 :: v8 :: v9 :: v10 :: w :: L) (i := 11) (x := .int x) (fun w _ q => by cases q; exact hc) hl') hP hS)
theorem j_iinc11 {v0 v1 v2 v3 v4 v5 v6 v7 v8 v9 v10 : Value} {x : Int32} {n : Int} (y : Int32) (hd : decode mi.2.1 pc = .ok (.iinc 11 n, 3)) (hy : x + Int32.ofInt n = y) (hc : v10.category = 1) (hn : 11 < mi.2.2.1) (k : J a mi d g (pc + 3) (v0 :: v1 :: v2 :: v3 :: v4 :: v5 :: v6 :: v7 :: v8 :: v9 :: v10 :: .int y :: L) (st) (S)) : J a mi d g (pc) (v0 :: v1 :: v2 :: v3 :: v4 :: v5 :: v6 :: v7 :: v8 :: v9 :: v10 :: .int x :: L) (st) (S) := by
  intro p l e R s m args below meth c D H locs ls C hl hP hS
  obtain ⟨q, hq⟩ := lx_ix hl (i := 11) (v := .int x) (by simp) rfl
  exact lv_iinc C.1 C.2.1 hd hl hq hy hn rfl (fun ls' hl' => k p l e R s m args below meth c D H locs ls' C (lx_of1 (L := v0 :: v1 :: v2 :: v3 :: v4 :: v5 :: v6 :: v7 :: v8 :: v9 :: v10 :: .int x :: L) (i := 11) (x := .int y) (fun w _ q => by cases q; exact hc) hl') hP hS)
theorem j_lld11 {v0 v1 v2 v3 v4 v5 v6 v7 v8 v9 v10 : Value} {x : Int64} (hd : decode mi.2.1 pc = .ok (.lload 11, 2)) (k : J a mi d g (pc + 2) (v0 :: v1 :: v2 :: v3 :: v4 :: v5 :: v6 :: v7 :: v8 :: v9 :: v10 :: .long x :: L) (.long x :: st) (S)) : J a mi d g (pc) (v0 :: v1 :: v2 :: v3 :: v4 :: v5 :: v6 :: v7 :: v8 :: v9 :: v10 :: .long x :: L) (st) (S) := by
  intro p l e R s m args below meth c D H locs ls C hl hP hS
  exact lv_lload C.1 C.2.1 hd (lx_at hl (i := 11) (v := .long x) (by simp) rfl) (k p l e R s m args below meth c D H locs ls C hl hP hS)
theorem j_lst11 {v0 v1 v2 v3 v4 v5 v6 v7 v8 v9 v10 : Value} {w z : Value} {x : Int64} (hd : decode mi.2.1 pc = .ok (.lstore 11, 2)) (hc : v10.category = 1) (hn : 11 + 1 < mi.2.2.1) (k : J a mi d g (pc + 2) (v0 :: v1 :: v2 :: v3 :: v4 :: v5 :: v6 :: v7 :: v8 :: v9 :: v10 :: .long x :: .null :: L) (st) (S)) : J a mi d g (pc) (v0 :: v1 :: v2 :: v3 :: v4 :: v5 :: v6 :: v7 :: v8 :: v9 :: v10 :: w :: z :: L) (.long x :: st) (S) := by
  intro p l e R s m args below meth c D H locs ls C hl hP hS
  exact lv_lstore C.1 C.2.1 hd hl hn rfl (fun ls' hl' => k p l e R s m args below meth c D H locs ls' C (lx_of2 (L := v0 :: v1 :: v2 :: v3 :: v4 :: v5 :: v6 :: v7 :: v8 :: v9 :: v10 :: w :: z :: L) (i := 11) (x := .long x) (fun w _ q => by cases q; exact hc) hl') hP hS)
theorem j_ald11 {v0 v1 v2 v3 v4 v5 v6 v7 v8 v9 v10 : Value} {x : Nat} (hd : decode mi.2.1 pc = .ok (.aload 11, 2)) (k : J a mi d g (pc + 2) (v0 :: v1 :: v2 :: v3 :: v4 :: v5 :: v6 :: v7 :: v8 :: v9 :: v10 :: .ref x :: L) (.ref x :: st) (S)) : J a mi d g (pc) (v0 :: v1 :: v2 :: v3 :: v4 :: v5 :: v6 :: v7 :: v8 :: v9 :: v10 :: .ref x :: L) (st) (S) := by
  intro p l e R s m args below meth c D H locs ls C hl hP hS
  exact lv_aload C.1 C.2.1 hd (lx_at hl (i := 11) (v := .ref x) (by simp) rfl) (k p l e R s m args below meth c D H locs ls C hl hP hS)
theorem j_ast11 {v0 v1 v2 v3 v4 v5 v6 v7 v8 v9 v10 : Value} {w : Value} {x : Nat} (hd : decode mi.2.1 pc = .ok (.astore 11, 2)) (hc : v10.category = 1) (hn : 11 < mi.2.2.1) (k : J a mi d g (pc + 2) (v0 :: v1 :: v2 :: v3 :: v4 :: v5 :: v6 :: v7 :: v8 :: v9 :: v10 :: .ref x :: L) (st) (S)) : J a mi d g (pc) (v0 :: v1 :: v2 :: v3 :: v4 :: v5 :: v6 :: v7 :: v8 :: v9 :: v10 :: w :: L) (.ref x :: st) (S) := by
  intro p l e R s m args below meth c D H locs ls C hl hP hS
  exact lv_astore C.1 C.2.1 hd hl hn rfl (fun ls' hl' => k p l e R s m args below meth c D H locs ls' C (lx_of1 (L := v0 :: v1 :: v2 :: v3 :: v4 :: v5 :: v6 :: v7 :: v8 :: v9 :: v10 :: w :: L) (i := 11) (x := .ref x) (fun w _ q => by cases q; exact hc) hl') hP hS)
theorem j_ild12 {v0 v1 v2 v3 v4 v5 v6 v7 v8 v9 v10 v11 : Value} {x : Int32} (hd : decode mi.2.1 pc = .ok (.iload 12, 2)) (k : J a mi d g (pc + 2) (v0 :: v1 :: v2 :: v3 :: v4 :: v5 :: v6 :: v7 :: v8 :: v9 :: v10 :: v11 :: .int x :: L) (.int x :: st) (S)) : J a mi d g (pc) (v0 :: v1 :: v2 :: v3 :: v4 :: v5 :: v6 :: v7 :: v8 :: v9 :: v10 :: v11 :: .int x :: L) (st) (S) := by
  intro p l e R s m args below meth c D H locs ls C hl hP hS
  exact lv_iload C.1 C.2.1 hd (lx_at hl (i := 12) (v := .int x) (by simp) rfl) (k p l e R s m args below meth c D H locs ls C hl hP hS)
theorem j_ist12 {v0 v1 v2 v3 v4 v5 v6 v7 v8 v9 v10 v11 : Value} {w : Value} {x : Int32} (hd : decode mi.2.1 pc = .ok (.istore 12, 2)) (hc : v11.category = 1) (hn : 12 < mi.2.2.1) (k : J a mi d g (pc + 2) (v0 :: v1 :: v2 :: v3 :: v4 :: v5 :: v6 :: v7 :: v8 :: v9 :: v10 :: v11 :: .int x :: L) (st) (S)) : J a mi d g (pc) (v0 :: v1 :: v2 :: v3 :: v4 :: v5 :: v6 :: v7 :: v8 :: v9 :: v10 :: v11 :: w :: L) (.int x :: st) (S) := by
  intro p l e R s m args below meth c D H locs ls C hl hP hS
  exact lv_istore C.1 C.2.1 hd hl hn rfl (fun ls' hl' => k p l e R s m args below meth c D H locs ls' C (lx_of1 (L := v0 :: v1 :: v2 :: v3 :: v4 :: v5 :: v6 :: v7 :: v8 :: v9 :: v10 :: v11 :: w :: L) (i := 12) (x := .int x) (fun w _ q => by cases q; exact hc) hl') hP hS)
theorem j_iinc12 {v0 v1 v2 v3 v4 v5 v6 v7 v8 v9 v10 v11 : Value} {x : Int32} {n : Int} (y : Int32) (hd : decode mi.2.1 pc = .ok (.iinc 12 n, 3)) (hy : x + Int32.ofInt n = y) (hc : v11.category = 1) (hn : 12 < mi.2.2.1) (k : J a mi d g (pc + 3) (v0 :: v1 :: v2 :: v3 :: v4 :: v5 :: v6 :: v7 :: v8 :: v9 :: v10 :: v11 :: .int y :: L) (st) (S)) : J a mi d g (pc) (v0 :: v1 :: v2 :: v3 :: v4 :: v5 :: v6 :: v7 :: v8 :: v9 :: v10 :: v11 :: .int x :: L) (st) (S) := by
  intro p l e R s m args below meth c D H locs ls C hl hP hS
  obtain ⟨q, hq⟩ := lx_ix hl (i := 12) (v := .int x) (by simp) rfl
  exact lv_iinc C.1 C.2.1 hd hl hq hy hn rfl (fun ls' hl' => k p l e R s m args below meth c D H locs ls' C (lx_of1 (L := v0 :: v1 :: v2 :: v3 :: v4 :: v5 :: v6 :: v7 :: v8 :: v9 :: v10 :: v11 :: .int x :: L) (i := 12) (x := .int y) (fun w _ q => by cases q; exact hc) hl') hP hS)
theorem j_lld12 {v0 v1 v2 v3 v4 v5 v6 v7 v8 v9 v10 v11 : Value} {x : Int64} (hd : decode mi.2.1 pc = .ok (.lload 12, 2)) (k : J a mi d g (pc + 2) (v0 :: v1 :: v2 :: v3 :: v4 :: v5 :: v6 :: v7 :: v8 :: v9 :: v10 :: v11 :: .long x :: L) (.long x :: st) (S)) : J a mi d g (pc) (v0 :: v1 :: v2 :: v3 :: v4 :: v5 :: v6 :: v7 :: v8 :: v9 :: v10 :: v11 :: .long x :: L) (st) (S) := by
  intro p l e R s m args below meth c D H locs ls C hl hP hS
  exact lv_lload C.1 C.2.1 hd (lx_at hl (i := 12) (v := .long x) (by simp) rfl) (k p l e R s m args below meth c D H locs ls C hl hP hS)
theorem j_lst12 {v0 v1 v2 v3 v4 v5 v6 v7 v8 v9 v10 v11 : Value} {w z : Value} {x : Int64} (hd : decode mi.2.1 pc = .ok (.lstore 12, 2)) (hc : v11.category = 1) (hn : 12 + 1 < mi.2.2.1) (k : J a mi d g (pc + 2) (v0 :: v1 :: v2 :: v3 :: v4 :: v5 :: v6 :: v7 :: v8 :: v9 :: v10 :: v11 :: .long x :: .null :: L) (st) (S)) : J a mi d g (pc) (v0 :: v1 :: v2 :: v3 :: v4 :: v5 :: v6 :: v7 :: v8 :: v9 :: v10 :: v11 :: w :: z :: L) (.long x :: st) (S) := by
  intro p l e R s m args below meth c D H locs ls C hl hP hS
  exact lv_lstore C.1 C.2.1 hd hl hn rfl (fun ls' hl' => k p l e R s m args below meth c D H locs ls' C (lx_of2 (L := v0 :: v1 :: v2 :: v3 :: v4 :: v5 :: v6 :: v7 :: v8 :: v9 :: v10 :: v11 :: w :: z :: L) (i := 12) (x := .long x) (fun w _ q => by cases q; exact hc) hl') hP hS)
theorem j_ald12 {v0 v1 v2 v3 v4 v5 v6 v7 v8 v9 v10 v11 : Value} {x : Nat} (hd : decode mi.2.1 pc = .ok (.aload 12, 2)) (k : J a mi d g (pc + 2) (v0 :: v1 :: v2 :: v3 :: v4 :: v5 :: v6 :: v7 :: v8 :: v9 :: v10 :: v11 :: .ref x :: L) (.ref x :: st) (S)) : J a mi d g (pc) (v0 :: v1 :: v2 :: v3 :: v4 :: v5 :: v6 :: v7 :: v8 :: v9 :: v10 :: v11 :: .ref x :: L) (st) (S) := by
  intro p l e R s m args below meth c D H locs ls C hl hP hS
  exact lv_aload C.1 C.2.1 hd (lx_at hl (i := 12) (v := .ref x) (by simp) rfl) (k p l e R s m args below meth c D H locs ls C hl hP hS)
theorem j_ast12 {v0 v1 v2 v3 v4 v5 v6 v7 v8 v9 v10 v11 : Value} {w : Value} {x : Nat} (hd : decode mi.2.1 pc = .ok (.astore 12, 2)) (hc : v11.category = 1) (hn : 12 < mi.2.2.1) (k : J a mi d g (pc + 2) (v0 :: v1 :: v2 :: v3 :: v4 :: v5 :: v6 :: v7 :: v8 :: v9 :: v10 :: v11 :: .ref x :: L) (st) (S)) : J a mi d g (pc) (v0 :: v1 :: v2 :: v3 :: v4 :: v5 :: v6 :: v7 :: v8 :: v9 :: v10 :: v11 :: w :: L) (.ref x :: st) (S) := by
  intro p l e R s m args below meth c D H locs ls C hl hP hS
  exact lv_astore C.1 C.2.1 hd hl hn rfl (fun ls' hl' => k p l e R s m args below meth c D H locs ls' C (lx_of1 (L := v0 :: v1 :: v2 :: v3 :: v4 :: v5 :: v6 :: v7 :: v8 :: v9 :: v10 :: v11 :: w :: L) (i := 12) (x := .ref x) (fun w _ q => by cases q; exact hc) hl') hP hS)
theorem j_ild13 {v0 v1 v2 v3 v4 v5 v6 v7 v8 v9 v10 v11 v12 : Value} {x : Int32} (hd : decode mi.2.1 pc = .ok (.iload 13, 2)) (k : J a mi d g (pc + 2) (v0 :: v1 :: v2 :: v3 :: v4 :: v5 :: v6 :: v7 :: v8 :: v9 :: v10 :: v11 :: v12 :: .int x :: L) (.int x :: st) (S)) : J a mi d g (pc) (v0 :: v1 :: v2 :: v3 :: v4 :: v5 :: v6 :: v7 :: v8 :: v9 :: v10 :: v11 :: v12 :: .int x :: L) (st) (S) := by
  intro p l e R s m args below meth c D H locs ls C hl hP hS
  exact lv_iload C.1 C.2.1 hd (lx_at hl (i := 13) (v := .int x) (by simp) rfl) (k p l e R s m args below meth c D H locs ls C hl hP hS)
theorem j_ist13 {v0 v1 v2 v3 v4 v5 v6 v7 v8 v9 v10 v11 v12 : Value} {w : Value} {x : Int32} (hd : decode mi.2.1 pc = .ok (.istore 13, 2)) (hc : v12.category = 1) (hn : 13 < mi.2.2.1) (k : J a mi d g (pc + 2) (v0 :: v1 :: v2 :: v3 :: v4 :: v5 :: v6 :: v7 :: v8 :: v9 :: v10 :: v11 :: v12 :: .int x :: L) (st) (S)) : J a mi d g (pc) (v0 :: v1 :: v2 :: v3 :: v4 :: v5 :: v6 :: v7 :: v8 :: v9 :: v10 :: v11 :: v12 :: w :: L) (.int x :: st) (S) := by
  intro p l e R s m args below meth c D H locs ls C hl hP hS
  exact lv_istore C.1 C.2.1 hd hl hn rfl (fun ls' hl' => k p l e R s m args below meth c D H locs ls' C (lx_of1 (L := v0 :: v1 :: v2 :: v3 :: v4 :: v5 :: v6 :: v7 :: v8 :: v9 :: v10 :: v11 :: v12 :: w :: L) (i := 13) (x := .int x) (fun w _ q => by cases q; exact hc) hl') hP hS)
theorem j_iinc13 {v0 v1 v2 v3 v4 v5 v6 v7 v8 v9 v10 v11 v12 : Value} {x : Int32} {n : Int} (y : Int32) (hd : decode mi.2.1 pc = .ok (.iinc 13 n, 3)) (hy : x + Int32.ofInt n = y) (hc : v12.category = 1) (hn : 13 < mi.2.2.1) (k : J a mi d g (pc + 3) (v0 :: v1 :: v2 :: v3 :: v4 :: v5 :: v6 :: v7 :: v8 :: v9 :: v10 :: v11 :: v12 :: .int y :: L) (st) (S)) : J a mi d g (pc) (v0 :: v1 :: v2 :: v3 :: v4 :: v5 :: v6 :: v7 :: v8 :: v9 :: v10 :: v11 :: v12 :: .int x :: L) (st) (S) := by
  intro p l e R s m args below meth c D H locs ls C hl hP hS
  obtain ⟨q, hq⟩ := lx_ix hl (i := 13) (v := .int x) (by simp) rfl
  exact lv_iinc C.1 C.2.1 hd hl hq hy hn rfl (fun ls' hl' => k p l e R s m args below meth c D H locs ls' C (lx_of1 (L := v0 :: v1 :: v2 :: v3 :: v4 :: v5 :: v6 :: v7 :: v8 :: v9 :: v10 :: v11 :: v12 :: .int x :: L) (i := 13) (x := .int y) (fun w _ q => by cases q; exact hc) hl') hP hS)
theorem j_lld13 {v0 v1 v2 v3 v4 v5 v6 v7 v8 v9 v10 v11 v12 : Value} {x : Int64} (hd : decode mi.2.1 pc = .ok (.lload 13, 2)) (k : J a mi d g (pc + 2) (v0 :: v1 :: v2 :: v3 :: v4 :: v5 :: v6 :: v7 :: v8 :: v9 :: v10 :: v11 :: v12 :: .long x :: L) (.long x :: st) (S)) : J a mi d g (pc) (v0 :: v1 :: v2 :: v3 :: v4 :: v5 :: v6 :: v7 :: v8 :: v9 :: v10 :: v11 :: v12 :: .long x :: L) (st) (S) := by
  intro p l e R s m args below meth c D H locs ls C hl hP hS
  exact lv_lload C.1 C.2.1 hd (lx_at hl (i := 13) (v := .long x) (by simp) rfl) (k p l e R s m args below meth c D H locs ls C hl hP hS)
theorem j_lst13 {v0 v1 v2 v3 v4 v5 v6 v7 v8 v9 v10 v11 v12 : Value} {w z : Value} {x : Int64} (hd : decode mi.2.1 pc = .ok (.lstore 13, 2)) (hc : v12.category = 1) (hn : 13 + 1 < mi.2.2.1) (k : J a mi d g (pc + 2) (v0 :: v1 :: v2 :: v3 :: v4 :: v5 :: v6 :: v7 :: v8 :: v9 :: v10 :: v11 :: v12 :: .long x :: .null :: L) (st) (S)) : J a mi d g (pc) (v0 :: v1 :: v2 :: v3 :: v4 :: v5 :: v6 :: v7 :: v8 :: v9 :: v10 :: v11 :: v12 :: w :: z :: L) (.long x :: st) (S) := by
  intro p l e R s m args below meth c D H locs ls C hl hP hS
  exact lv_lstore C.1 C.2.1 hd hl hn rfl (fun ls' hl' => k p l e R s m args below meth c D H locs ls' C (lx_of2 (L := v0 :: v1 :: v2 :: v3 :: v4 :: v5 :: v6 :: v7 :: v8 :: v9 :: v10 :: v11 :: v12 :: w :: z :: L) (i := 13) (x := .long x) (fun w _ q => by cases q; exact hc) hl') hP hS)
theorem j_ald13 {v0 v1 v2 v3 v4 v5 v6 v7 v8 v9 v10 v11 v12 : Value} {x : Nat} (hd : decode mi.2.1 pc = .ok (.aload 13, 2)) (k : J a mi d g (pc + 2) (v0 :: v1 :: v2 :: v3 :: v4 :: v5 :: v6 :: v7 :: v8 :: v9 :: v10 :: v11 :: v12 :: .ref x :: L) (.ref x :: st) (S)) : J a mi d g (pc) (v0 :: v1 :: v2 :: v3 :: v4 :: v5 :: v6 :: v7 :: v8 :: v9 :: v10 :: v11 :: v12 :: .ref x :: L) (st) (S) := by
  intro p l e R s m args below meth c D H locs ls C hl hP hS
  exact lv_aload C.1 C.2.1 hd (lx_at hl (i := 13) (v := .ref x) (by simp) rfl) (k p l e R s m args below meth c D H locs ls C hl hP hS)
theorem j_ast13 {v0 v1 v2 v3 v4 v5 v6 v7 v8 v9 v10 v11 v12 : Value} {w : Value} {x : Nat} (hd : decode mi.2.1 pc = .ok (.astore 13, 2)) (hc : v12.category = 1) (hn : 13 < mi.2.2.1) (k : J a mi d g (pc + 2) (v0 :: v1 :: v2 :: v3 :: v4 :: v5 :: v6 :: v7 :: v8 :: v9 :: v10 :: v11 :: v12 :: .ref x :: L) (st) (S)) : J a mi d g (pc) (v0 :: v1 :: v2 :: v3 :: v4 :: v5 :: v6 :: v7 :: v8 :: v9 :: v10 :: v11 :: v12 :: w :: L) (.ref x :: st) (S) := by
  intro p l e R s m args below meth c D H locs ls C hl hP hS
  exact lv_astore C.1 C.2.1 hd hl hn rfl (fun ls' hl' => k p l e R s m args below meth c D H locs ls' C (lx_of1 (L := v0 :: v1 :: v2 :: v3 :: v4 :: v5 :: v6 :: v7 :: v8 :: v9 :: v10 :: v11 :: v12 :: w :: L) (i := 13) (x := .ref x) (fun w _ q => by cases q; exact hc) hl') hP hS)
theorem j_ild14 {v0 v1 v2 v3 v4 v5 v6 v7 v8 v9 v10 v11 v12 v13 : Value} {x : Int32} (hd : decode mi.2.1 pc = .ok (.iload 14, 2)) (k : J a mi d g (pc + 2) (v0 :: v1 :: v2 :: v3 :: v4 :: v5 :: v6 :: v7 :: v8 :: v9 :: v10 :: v11 :: v12 :: v13 :: .int x :: L) (.int x :: st) (S)) : J a mi d g (pc) (v0 :: v1 :: v2 :: v3 :: v4 :: v5 :: v6 :: v7 :: v8 :: v9 :: v10 :: v11 :: v12 :: v13 :: .int x :: L) (st) (S) := by
  intro p l e R s m args below meth c D H locs ls C hl hP hS
  exact lv_iload C.1 C.2.1 hd (lx_at hl (i := 14) (v := .int x) (by simp) rfl) (k p l e R s m args below meth c D H locs ls C hl hP hS)
theorem j_ist14 {v0 v1 v2 v3 v4 v5 v6 v7 v8 v9 v10 v11 v12 v13 : Value} {w : Value} {x : Int32} (hd : decode mi.2.1 pc = .ok (.istore 14, 2)) (hc : v13.category = 1) (hn : 14 < mi.2.2.1) (k : J a mi d g (pc + 2) (v0 :: v1 :: v2 :: v3 :: v4 :: v5 :: v6 :: v7 :: v8 :: v9 :: v10 :: v11 :: v12 :: v13 :: .int x :: L) (st) (S)) : J a mi d g (pc) (v0 :: v1 :: v2 :: v3 :: v4 :: v5 :: v6 :: v7 :: v8 :: v9 :: v10 :: v11 :: v12 :: v13 :: w :: L) (.int x :: st) (S) := by
  intro p l e R s m args below meth c D H locs ls C hl hP hS
  exact lv_istore C.1 C.2.1 hd hl hn rfl (fun ls' hl' => k p l e R s m args below meth c D H locs ls' C (lx_of1 (L := v0 :: v1 :: v2 :: v3 :: v4 :: v5 :: v6 :: v7 :: v8 :: v9 :: v10 :: v11 :: v12 :: v13 :: w :: L) (i := 14) (x := .int x) (fun w _ q => by cases q; exact hc) hl') hP hS)
theorem j_iinc14 {v0 v1 v2 v3 v4 v5 v6 v7 v8 v9 v10 v11 v12 v13 : Value} {x : Int32} {n : Int} (y : Int32) (hd : decode mi.2.1 pc = .ok (.iinc 14 n, 3)) (hy : x + Int32.ofInt n = y) (hc : v13.category = 1) (hn : 14 < mi.2.2.1) (k : J a mi d g (pc + 3) (v0 :: v1 :: v2 :: v3 :: v4 :: v5 :: v6 :: v7 :: v8 :: v9 :: v10 :: v11 :: v12 :: v13 :: .int y :: L) (st) (S)) : J a mi d g (pc) (v0 :: v1 :: v2 :: v3 :: v4 :: v5 :: v6 :: v7 :: v8 :: v9 :: v10 :: v11 :: v12 :: v13 :: .int x :: L) (st) (S) := by
  intro p l e R s m args below meth c D H locs ls C hl hP hS
  obtain ⟨q, hq⟩ := lx_ix hl (i := 14) (v := .int x) (by simp) rfl
  exact lv_iinc C.1 C.2.1 hd hl hq hy hn rfl (fun ls' hl' => k p l e R s m args below meth c D H locs ls' C (lx_of1 (L := v0 :: v1 :: v2 :: v3 :: v4 :: v5 :: v6 :: v7 :: v8 :: v9 :: v10 :: v11 :: v12 :: v13 :: .int x :: L) (i := 14) (x := .int y) (fun w _ q => by cases q; exact hc) hl') hP hS)
theorem j_lld14 {v0 v1 v2 v3 v4 v5 v6 v7 v8 v9 v10 v11 v12 v13 : Value} {x : Int64} (hd : decode mi.2.1 pc = .ok (.lload 14, 2)) (k : J a mi d g (pc + 2) (v0 :: v1 :: v2 :: v3 :: v4 :: v5 :: v6 :: v7 :: v8 :: v9 :: v10 :: v11 :: v12 :: v13 :: .long x :: L) (.long x :: st) (S)) : J a mi d g (pc) (v0 :: v1 :: v2 :: v3 :: v4 :: v5 :: v6 :: v7 :: v8 :: v9 :: v10 :: v11 :: v12 :: v13 :: .long x :: L) (st) (S) := by
  intro p l e R s m args below meth c D H locs ls C hl hP hS
  exact lv_lload C.1 C.2.1 hd (lx_at hl (i := 14) (v := .long x) (by simp) rfl) (k p l e R s m args below meth c D H locs ls C hl hP hS)
theorem j_lst14 {v0 v1 v2 v3 v4 v5 v6 v7 v8 v9 v10 v11 v12 v13 : Value} {w z : Value} {x : Int64} (hd : decode mi.2.1 pc = .ok (.lstore 14, 2)) (hc : v13.category = 1) (hn : 14 + 1 < mi.2.2.1) (k : J a mi d g (pc + 2) (v0 :: v1 :: v2 :: v3 :: v4 :: v5 :: v6 :: v7 :: v8 :: v9 :: v10 :: v11 :: v12 :: v13 :: .long x :: .null :: L) (st) (S)) : J a mi d g (pc) (v0 :: v1 :: v2 :: v3 :: v4 :: v5 :: v6 :: v7 :: v8 :: v9 :: v10 :: v11 :: v12 :: v13 :: w :: z :: L) (.long x :: st) (S) := by
  intro p l e R s m args below meth c D H locs ls C hl hP hS
  exact lv_lstore C.1 C.2.1 hd hl hn rfl (fun ls' hl' => k p l e R s m args below meth c D H locs ls' C (lx_of2 (L := v0 :: v1 :: v2 :: v3 :: v4 :: v5 :: v6 :: v7 :: v8 :: v9 :: v10 :: v11 :: v12 :: v13 :: w :: z :: L) (i := 14) (x := .long x) (fun w _ q => by cases q; exact hc) hl') hP hS)
theorem j_ald14 {v0 v1 v2 v3 v4 v5 v6 v7 v8 v9 v10 v11 v12 v13 : Value} {x : Nat} (hd : decode mi.2.1 pc = .ok (.aload 14, 2)) (k : J a mi d g (pc + 2) (v0 :: v1 :: v2 :: v3 :: v4 :: v5 :: v6 :: v7 :: v8 :: v9 :: v10 :: v11 :: v12 :: v13 :: .ref x :: L) (.ref x :: st) (S)) : J a mi d g (pc) (v0 :: v1 :: v2 :: v3 :: v4 :: v5 :: v6 :: v7 :: v8 :: v9 :: v10 :: v11 :: v12 :: v13 :: .ref x :: L) (st) (S) := by
  intro p l e R s m args below meth c D H locs ls C hl hP hS
  exact lv_aload C.1 C.2.1 hd (lx_at hl (i := 14) (v := .ref x) (by simp) rfl) (k p l e R s m args below meth c D H locs ls C hl hP hS)
theorem j_ast14 {v0 v1 v2 v3 v4 v5 v6 v7 v8 v9 v10 v11 v12 v13 : Value} {w : Value} {x : Nat} (hd : decode mi.2.1 pc = .ok (.astore 14, 2)) (hc : v13.category = 1) (hn : 14 < mi.2.2.1) (k : J a mi d g (pc + 2) (v0 :: v1 :: v2 :: v3 :: v4 :: v5 :: v6 :: v7 :: v8 :: v9 :: v10 :: v11 :: v12 :: v13 :: .ref x :: L) (st) (S)) : J a mi d g (pc) (v0 :: v1 :: v2 :: v3 :: v4 :: v5 :: v6 :: v7 :: v8 :: v9 :: v10 :: v11 :: v12 :: v13 :: w :: L) (.ref x :: st) (S) := by
  intro p l e R s m args below meth c D H locs ls C hl hP hS
  exact lv_astore C.1 C.2.1 hd hl hn rfl (fun ls' hl' => k p l e R s m args below meth c D H locs ls' C (lx_of1 (L := v0 :: v1 :: v2 :: v3 :: v4 :: v5 :: v6 :: v7 :: v8 :: v9 :: v10 :: v11 :: v12 :: v13 :: w :: L) (i := 14) (x := .ref x) (fun w _ q => by cases q; exact hc) hl') hP hS)
/-- fewer locals -/
theorem j_less {L1 : List Value} (hs : ∀ (i : Nat) (v : Value), L1[i]? = some v → v ≠ .null → L[i]? = some v) (k : J a mi d g (pc) (L1) (st) (S)) : J a mi d g (pc) (L) (st) (S) := by
  intro p l e R s m args below meth c D H locs ls C hl hP hS
  exact k p l e R s m args below meth c D H locs ls C (lx_less hl hs) hP hS
end Rows
