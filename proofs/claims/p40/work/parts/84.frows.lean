/-! rows on doubles; the law's own cells, script, helpers -/
abbrev mJ9_abs : MI := (yJ9_abs_294c1, cJ9_abs_294c1, 2, some .double)
theorem kJ9_abs : Cond.code yJ9_abs_294c1 cJ9_abs_294c1 2 (some .double) ∈ TT ∧ Cond.initialized "java/lang/Math" ∈ TT := ⟨TT_at 702 (by decide +kernel) rfl, TT_at 9 (by decide +kernel) rfl⟩
theorem zJ9_abs : Cond.static yJ9_abs_294c1 ∈ TT := TT_at 701 (by decide +kernel) rfl
theorem n_d2l_l : Cond.methodLink "java/lang/Math" 79 ⟨"java/lang/Double", "doubleToRawLongBits", "(D)J"⟩ ∈ TT := TT_at 703 (by decide +kernel) rfl
theorem n_d2l_n : Cond.native ⟨"java/lang/Double", "doubleToRawLongBits", "(D)J"⟩ ∈ TT := TT_at 705 (by decide +kernel) rfl
theorem n_d2l_s : Cond.static ⟨"java/lang/Double", "doubleToRawLongBits", "(D)J"⟩ ∈ TT := TT_at 704 (by decide +kernel) rfl
theorem n_l2d_l : Cond.methodLink "java/lang/Math" 166 ⟨"java/lang/Double", "longBitsToDouble", "(J)D"⟩ ∈ TT := TT_at 707 (by decide +kernel) rfl
theorem n_l2d_n : Cond.native ⟨"java/lang/Double", "longBitsToDouble", "(J)D"⟩ ∈ TT := TT_at 709 (by decide +kernel) rfl
theorem n_l2d_s : Cond.static ⟨"java/lang/Double", "longBitsToDouble", "(J)D"⟩ ∈ TT := TT_at 708 (by decide +kernel) rfl
theorem n_ini : Cond.initialized "java/lang/Double" ∈ TT := TT_at 12 (by decide +kernel) rfl
theorem n_mask : Cond.constantLong "java/lang/Math" 135 9223372036854775807 ∈ TT := TT_at 706 (by decide +kernel) rfl
section Rows
variable {a : Nat → Nat} {mi : MI} {d : Nat} {g : GG} {pc : Nat} {L st : List Value} {S : St}

theorem j_dconst0 (hd : decode mi.2.1 pc = .ok (.dconst 0, 1)) (k : J a mi d g (pc + 1) (L) (.double 0 :: st) (S)) : J a mi d g (pc) (L) (st) (S) := by
  intro p l e R s m args below meth c D H locs ls C hl hP hS
  exact lv_dconst0 C.1 C.2.1 hd (k p l e R s m args below meth c D H locs ls C hl hP hS)
theorem j_dconst1 (hd : decode mi.2.1 pc = .ok (.dconst 1, 1)) (k : J a mi d g (pc + 1) (L) (.double FP.dconst1 :: st) (S)) : J a mi d g (pc) (L) (st) (S) := by
  intro p l e R s m args below meth c D H locs ls C hl hP hS
  exact lv_dconst1 C.1 C.2.1 hd (k p l e R s m args below meth c D H locs ls C hl hP hS)
theorem j_ldc2_wD {i : Nat} {v : UInt64} (hd : decode mi.2.1 pc = .ok (.ldc2_w i, 3)) (hc : Cond.constantDouble mi.1.cls i v ∈ TT) (k : J a mi d g (pc + 3) (L) (.double v :: st) (S)) : J a mi d g (pc) (L) (st) (S) := by
  intro p l e R s m args below meth c D H locs ls C hl hP hS
  exact lv_ldc2d C.1 C.2.1 C.2.2.2.2.2.1 (C.2.2.2.2.2.2.1 _ hc) hd (k p l e R s m args below meth c D H locs ls C hl hP hS)
theorem j_l2d {x : Int64} (hd : decode mi.2.1 pc = .ok (.l2d, 1)) (k : J a mi d g (pc + 1) (L) (.double (FP.l2d x) :: st) (S)) : J a mi d g (pc) (L) (.long x :: st) (S) := by
  intro p l e R s m args below meth c D H locs ls C hl hP hS
  exact lv_l2d C.1 C.2.1 hd (k p l e R s m args below meth c D H locs ls C hl hP hS)
theorem j_i2d {x : Int32} (hd : decode mi.2.1 pc = .ok (.i2d, 1)) (k : J a mi d g (pc + 1) (L) (.double (FP.i2d x) :: st) (S)) : J a mi d g (pc) (L) (.int x :: st) (S) := by
  intro p l e R s m args below meth c D H locs ls C hl hP hS
  exact lv_i2d C.1 C.2.1 hd (k p l e R s m args below meth c D H locs ls C hl hP hS)
theorem j_dadd {x y : UInt64} (hd : decode mi.2.1 pc = .ok (.dadd, 1)) (h : DF (FP.dadd x y)) (k : J a mi d g (pc + 1) (L) (.double (FP.dadd x y) :: st) (S)) : J a mi d g (pc) (L) (.double y :: .double x :: st) (S) := by
  intro p l e R s m args below meth c D H locs ls C hl hP hS
  exact lv_dadd C.1 C.2.1 hd (vf_DF h) (k p l e R s m args below meth c D H locs ls C hl hP hS)
theorem j_dsub {x y : UInt64} (hd : decode mi.2.1 pc = .ok (.dsub, 1)) (h : DF (FP.dsub x y)) (k : J a mi d g (pc + 1) (L) (.double (FP.dsub x y) :: st) (S)) : J a mi d g (pc) (L) (.double y :: .double x :: st) (S) := by
  intro p l e R s m args below meth c D H locs ls C hl hP hS
  exact lv_dsub C.1 C.2.1 hd (vf_DF h) (k p l e R s m args below meth c D H locs ls C hl hP hS)
theorem j_ddiv {x y : UInt64} (hd : decode mi.2.1 pc = .ok (.ddiv, 1)) (h : DF (FP.ddiv x y)) (k : J a mi d g (pc + 1) (L) (.double (FP.ddiv x y) :: st) (S)) : J a mi d g (pc) (L) (.double y :: .double x :: st) (S) := by
  intro p l e R s m args below meth c D H locs ls C hl hP hS
  exact lv_ddiv C.1 C.2.1 hd (vf_DF h) (k p l e R s m args below meth c D H locs ls C hl hP hS)
theorem j_dcmp {x y : UInt64} {op : CmpOp} (hd : decode mi.2.1 pc = .ok (.dcmp op, 1)) (hx : DF x) (hy : DF y) (k : J a mi d g (pc + 1) (L) (.int (cz x y) :: st) (S)) : J a mi d g (pc) (L) (.double y :: .double x :: st) (S) := by
  intro p l e R s m args below meth c D H locs ls C hl hP hS
  exact lv_dcmp C.1 C.2.1 hd (by rw [cz_cmp hx hy]; exact (k p l e R s m args below meth c D H locs ls C hl hP hS))
theorem j_topd {x : UInt64} (k : ∀ y : UInt64, y = x → J a mi d g pc L (.double y :: st) S) : J a mi d g pc L (.double x :: st) S := k x rfl
theorem j_topD {x y : UInt64} (e : x = y) (k : J a mi d g pc L (.double y :: st) S) : J a mi d g pc L (.double x :: st) S := e ▸ k
theorem j_ild15 {v0 v1 v2 v3 v4 v5 v6 v7 v8 v9 v10 v11 v12 v13 v14 : Value} {x : Int32} (hd : decode mi.2.1 pc = .ok (.iload 15, 2)) (k : J a mi d g (pc + 2) (v0 :: v1 :: v2 :: v3 :: v4 :: v5 :: v6 :: v7 :: v8 :: v9 :: v10 :: v11 :: v12 :: v13 :: v14 :: .int x :: L) (.int x :: st) (S)) : J a mi d g (pc) (v0 :: v1 :: v2 :: v3 :: v4 :: v5 :: v6 :: v7 :: v8 :: v9 :: v10 :: v11 :: v12 :: v13 :: v14 :: .int x :: L) (st) (S) := by
  intro p l e R s m args below meth c D H locs ls C hl hP hS
  exact lv_iload C.1 C.2.1 hd (lx_at hl (i := 15) (v := .int x) (by simp) rfl) (k p l e R s m args below meth c D H locs ls C hl hP hS)
theorem j_ist15 {v0 v1 v2 v3 v4 v5 v6 v7 v8 v9 v10 v11 v12 v13 v14 : Value} {w : Value} {x : Int32} (hd : decode mi.2.1 pc = .ok (.istore 15, 2)) (hc : v14.category = 1) (hn : 15 < mi.2.2.1) (k : J a mi d g (pc + 2) (v0 :: v1 :: v2 :: v3 :: v4 :: v5 :: v6 :: v7 :: v8 :: v9 :: v10 :: v11 :: v12 :: v13 :: v14 :: .int x :: L) (st) (S)) : J a mi d g (pc) (v0 :: v1 :: v2 :: v3 :: v4 :: v5 :: v6 :: v7 :: v8 :: v9 :: v10 :: v11 :: v12 :: v13 :: v14 :: w :: L) (.int x :: st) (S) := by
  intro p l e R s m args below meth c D H locs ls C hl hP hS
  exact lv_istore C.1 C.2.1 hd hl hn rfl (fun ls' hl' => k p l e R s m args below meth c D H locs ls' C (lx_of1 (L := v0 :: v1 :: v2 :: v3 :: v4 :: v5 :: v6 :: v7 :: v8 :: v9 :: v10 :: v11 :: v12 :: v13 :: v14 :: w :: L) (i := 15) (x := .int x) (fun w _ q => by cases q; exact hc) hl') hP hS)
theorem j_iinc15 {v0 v1 v2 v3 v4 v5 v6 v7 v8 v9 v10 v11 v12 v13 v14 : Value} {x : Int32} {n : Int} (y : Int32) (hd : decode mi.2.1 pc = .ok (.iinc 15 n, 3)) (hy : x + Int32.ofInt n = y) (hc : v14.category = 1) (hn : 15 < mi.2.2.1) (k : J a mi d g (pc + 3) (v0 :: v1 :: v2 :: v3 :: v4 :: v5 :: v6 :: v7 :: v8 :: v9 :: v10 :: v11 :: v12 :: v13 :: v14 :: .int y :: L) (st) (S)) : J a mi d g (pc) (v0 :: v1 :: v2 :: v3 :: v4 :: v5 :: v6 :: v7 :: v8 :: v9 :: v10 :: v11 :: v12 :: v13 :: v14 :: .int x :: L) (st) (S) := by
  intro p l e R s m args below meth c D H locs ls C hl hP hS
  obtain ⟨q, hq⟩ := lx_ix hl (i := 15) (v := .int x) (by simp) rfl
  exact lv_iinc C.1 C.2.1 hd hl hq hy hn rfl (fun ls' hl' => k p l e R s m args below meth c D H locs ls' C (lx_of1 (L := v0 :: v1 :: v2 :: v3 :: v4 :: v5 :: v6 :: v7 :: v8 :: v9 :: v10 :: v11 :: v12 :: v13 :: v14 :: .int x :: L) (i := 15) (x := .int y) (fun w _ q => by cases q; exact hc) hl') hP hS)
theorem j_iinc16 {v0 v1 v2 v3 v4 v5 v6 v7 v8 v9 v10 v11 v12 v13 v14 v15 : Value} {x : Int32} {n : Int} (y : Int32) (hd : decode mi.2.1 pc = .ok (.iinc 16 n, 3)) (hy : x + Int32.ofInt n = y) (hc : v15.category = 1) (hn : 16 < mi.2.2.1) (k : J a mi d g (pc + 3) (v0 :: v1 :: v2 :: v3 :: v4 :: v5 :: v6 :: v7 :: v8 :: v9 :: v10 :: v11 :: v12 :: v13 :: v14 :: v15 :: .int y :: L) (st) (S)) : J a mi d g (pc) (v0 :: v1 :: v2 :: v3 :: v4 :: v5 :: v6 :: v7 :: v8 :: v9 :: v10 :: v11 :: v12 :: v13 :: v14 :: v15 :: .int x :: L) (st) (S) := by
  intro p l e R s m args below meth c D H locs ls C hl hP hS
  obtain ⟨q, hq⟩ := lx_ix hl (i := 16) (v := .int x) (by simp) rfl
  exact lv_iinc C.1 C.2.1 hd hl hq hy hn rfl (fun ls' hl' => k p l e R s m args below meth c D H locs ls' C (lx_of1 (L := v0 :: v1 :: v2 :: v3 :: v4 :: v5 :: v6 :: v7 :: v8 :: v9 :: v10 :: v11 :: v12 :: v13 :: v14 :: v15 :: .int x :: L) (i := 16) (x := .int y) (fun w _ q => by cases q; exact hc) hl') hP hS)
theorem j_dld0 {x : UInt64} (hd : decode mi.2.1 pc = .ok (.dload_n 0, 1)) (k : J a mi d g (pc + 1) (.double x :: L) (.double x :: st) (S)) : J a mi d g (pc) (.double x :: L) (st) (S) := by
  intro p l e R s m args below meth c D H locs ls C hl hP hS
  exact lv_dload_n C.1 C.2.1 hd rfl (lx_at hl (i := 0) (v := .double x) (by simp) rfl) (k p l e R s m args below meth c D H locs ls C hl hP hS)
theorem j_dst0 {w z : Value} {x : UInt64} (hd : decode mi.2.1 pc = .ok (.dstore_n 0, 1)) (hn : 0 + 1 < mi.2.2.1) (k : J a mi d g (pc + 1) (.double x :: .null :: L) (st) (S)) : J a mi d g (pc) (w :: z :: L) (.double x :: st) (S) := by
  intro p l e R s m args below meth c D H locs ls C hl hP hS
  exact lv_dstore_n (i := 0) C.1 C.2.1 hd rfl hl hn rfl (fun ls' hl' => k p l e R s m args below meth c D H locs ls' C (lx_of2 (L := w :: z :: L) (i := 0) (x := .double x) (fun w q _ => by omega) hl') hP hS)
theorem j_dld1 {v0 : Value} {x : UInt64} (hd : decode mi.2.1 pc = .ok (.dload_n 1, 1)) (k : J a mi d g (pc + 1) (v0 :: .double x :: L) (.double x :: st) (S)) : J a mi d g (pc) (v0 :: .double x :: L) (st) (S) := by
  intro p l e R s m args below meth c D H locs ls C hl hP hS
  exact lv_dload_n C.1 C.2.1 hd rfl (lx_at hl (i := 1) (v := .double x) (by simp) rfl) (k p l e R s m args below meth c D H locs ls C hl hP hS)
theorem j_dst1 {v0 : Value} {w z : Value} {x : UInt64} (hd : decode mi.2.1 pc = .ok (.dstore_n 1, 1)) (hc : v0.category = 1) (hn : 1 + 1 < mi.2.2.1) (k : J a mi d g (pc + 1) (v0 :: .double x :: .null :: L) (st) (S)) : J a mi d g (pc) (v0 :: w :: z :: L) (.double x :: st) (S) := by
  intro p l e R s m args below meth c D H locs ls C hl hP hS
  exact lv_dstore_n (i := 1) C.1 C.2.1 hd rfl hl hn rfl (fun ls' hl' => k p l e R s m args below meth c D H locs ls' C (lx_of2 (L := v0 :: w :: z :: L) (i := 1) (x := .double x) (fun w _ q => by cases q; exact hc) hl') hP hS)
theorem j_dld2 {v0 v1 : Value} {x : UInt64} (hd : decode mi.2.1 pc = .ok (.dload_n 2, 1)) (k : J a mi d g (pc + 1) (v0 :: v1 :: .double x :: L) (.double x :: st) (S)) : J a mi d g (pc) (v0 :: v1 :: .double x :: L) (st) (S) := by
  intro p l e R s m args below meth c D H locs ls C hl hP hS
  exact lv_dload_n C.1 C.2.1 hd rfl (lx_at hl (i := 2) (v := .double x) (by simp) rfl) (k p l e R s m args below meth c D H locs ls C hl hP hS)
theorem j_dst2 {v0 v1 : Value} {w z : Value} {x : UInt64} (hd : decode mi.2.1 pc = .ok (.dstore_n 2, 1)) (hc : v1.category = 1) (hn : 2 + 1 < mi.2.2.1) (k : J a mi d g (pc + 1) (v0 :: v1 :: .double x :: .null :: L) (st) (S)) : J a mi d g (pc) (v0 :: v1 :: w :: z :: L) (.double x :: st) (S) := by
  intro p l e R s m args below meth c D H locs ls C hl hP hS
  exact lv_dstore_n (i := 2) C.1 C.2.1 hd rfl hl hn rfl (fun ls' hl' => k p l e R s m args below meth c D H locs ls' C (lx_of2 (L := v0 :: v1 :: w :: z :: L) (i := 2) (x := .double x) (fun w _ q => by cases q; exact hc) hl') hP hS)
theorem j_dld3 {v0 v1 v2 : Value} {x : UInt64} (hd : decode mi.2.1 pc = .ok (.dload_n 3, 1)) (k : J a mi d g (pc + 1) (v0 :: v1 :: v2 :: .double x :: L) (.double x :: st) (S)) : J a mi d g (pc) (v0 :: v1 :: v2 :: .double x :: L) (st) (S) := by
  intro p l e R s m args below meth c D H locs ls C hl hP hS
  exact lv_dload_n C.1 C.2.1 hd rfl (lx_at hl (i := 3) (v := .double x) (by simp) rfl) (k p l e R s m args below meth c D H locs ls C hl hP hS)
theorem j_dst3 {v0 v1 v2 : Value} {w z : Value} {x : UInt64} (hd : decode mi.2.1 pc = .ok (.dstore_n 3, 1)) (hc : v2.category = 1) (hn : 3 + 1 < mi.2.2.1) (k : J a mi d g (pc + 1) (v0 :: v1 :: v2 :: .double x :: .null :: L) (st) (S)) : J a mi d g (pc) (v0 :: v1 :: v2 :: w :: z :: L) (.double x :: st) (S) := by
  intro p l e R s m args below meth c D H locs ls C hl hP hS
  exact lv_dstore_n (i := 3) C.1 C.2.1 hd rfl hl hn rfl (fun ls' hl' => k p l e R s m args below meth c D H locs ls' C (lx_of2 (L := v0 :: v1 :: v2 :: w :: z :: L) (i := 3) (x := .double x) (fun w _ q => by cases q; exact hc) hl') hP hS)
theorem j_dld4 {v0 v1 v2 v3 : Value} {x : UInt64} (hd : decode mi.2.1 pc = .ok (.dload 4, 2)) (k : J a mi d g (pc + 2) (v0 :: v1 :: v2 :: v3 :: .double x :: L) (.double x :: st) (S)) : J a mi d g (pc) (v0 :: v1 :: v2 :: v3 :: .double x :: L) (st) (S) := by
  intro p l e R s m args below meth c D H locs ls C hl hP hS
  exact lv_dload C.1 C.2.1 hd (lx_at hl (i := 4) (v := .double x) (by simp) rfl) (k p l e R s m args below meth c D H locs ls C hl hP hS)
theorem j_dst4 {v0 v1 v2 v3 : Value} {w z : Value} {x : UInt64} (hd : decode mi.2.1 pc = .ok (.dstore 4, 2)) (hc : v3.category = 1) (hn : 4 + 1 < mi.2.2.1) (k : J a mi d g (pc + 2) (v0 :: v1 :: v2 :: v3 :: .double x :: .null :: L) (st) (S)) : J a mi d g (pc) (v0 :: v1 :: v2 :: v3 :: w :: z :: L) (.double x :: st) (S) := by
  intro p l e R s m args below meth c D H locs ls C hl hP hS
  exact lv_dstore C.1 C.2.1 hd hl hn rfl (fun ls' hl' => k p l e R s m args below meth c D H locs ls' C (lx_of2 (L := v0 :: v1 :: v2 :: v3 :: w :: z :: L) (i := 4) (x := .double x) (fun w _ q => by cases q; exact hc) hl') hP hS)
theorem j_dld5 {v0 v1 v2 v3 v4 : Value} {x : UInt64} (hd : decode mi.2.1 pc = .ok (.dload 5, 2)) (k : J a mi d g (pc + 2) (v0 :: v1 :: v2 :: v3 :: v4 :: .double x :: L) (.double x :: st) (S)) : J a mi d g (pc) (v0 :: v1 :: v2 :: v3 :: v4 :: .double x :: L) (st) (S) := by
  intro p l e R s m args below meth c D H locs ls C hl hP hS
  exact lv_dload C.1 C.2.1 hd (lx_at hl (i := 5) (v := .double x) (by simp) rfl) (k p l e R s m args below meth c D H locs ls C hl hP hS)
theorem j_dst5 {v0 v1 v2 v3 v4 : Value} {w z : Value} {x : UInt64} (hd : decode mi.2.1 pc = .ok (.dstore 5, 2)) (hc : v4.category = 1) (hn : 5 + 1 < mi.2.2.1) (k : J a mi d g (pc + 2) (v0 :: v1 :: v2 :: v3 :: v4 :: .double x :: .null :: L) (st) (S)) : J a mi d g (pc) (v0 :: v1 :: v2 :: v3 :: v4 :: w :: z :: L) (.double x :: st) (S) := by
  intro p l e R s m args below meth c D H locs ls C hl hP hS
  exact lv_dstore C.1 C.2.1 hd hl hn rfl (fun ls' hl' => k p l e R s m args below meth c D H locs ls' C (lx_of2 (L := v0 :: v1 :: v2 :: v3 :: v4 :: w :: z :: L) (i := 5) (x := .double x) (fun w _ q => by cases q; exact hc) hl') hP hS)
theorem j_dld6 {v0 v1 v2 v3 v4 v5 : Value} {x : UInt64} (hd : decode mi.2.1 pc = .ok (.dload 6, 2)) (k : J a mi d g (pc + 2) (v0 :: v1 :: v2 :: v3 :: v4 :: v5 :: .double x :: L) (.double x :: st) (S)) : J a mi d g (pc) (v0 :: v1 :: v2 :: v3 :: v4 :: v5 :: .double x :: L) (st) (S) := by
  intro p l e R s m args below meth c D H locs ls C hl hP hS
  exact lv_dload C.1 C.2.1 hd (lx_at hl (i := 6) (v := .double x) (by simp) rfl) (k p l e R s m args below meth c D H locs ls C hl hP hS)
theorem j_dst6 {v0 v1 v2 v3 v4 v5 : Value} {w z : Value} {x : UInt64} (hd : decode mi.2.1 pc = .ok (.dstore 6, 2)) (hc : v5.category = 1) (hn : 6 + 1 < mi.2.2.1) (k : J a mi d g (pc + 2) (v0 :: v1 :: v2 :: v3 :: v4 :: v5 :: .double x :: .null :: L) (st) (S)) : J a mi d g (pc) (v0 :: v1 :: v2 :: v3 :: v4 :: v5 :: w :: z :: L) (.double x :: st) (S) := by
  intro p l e R s m args below meth c D H locs ls C hl hP hS
  exact lv_dstore C.1 C.2.1 hd hl hn rfl (fun ls' hl' => k p l e R s m args below meth c D H locs ls' C (lx_of2 (L := v0 :: v1 :: v2 :: v3 :: v4 :: v5 :: w :: z :: L) (i := 6) (x := .double x) (fun w _ q => by cases q; exact hc) hl') hP hS)
theorem j_dld7 {v0 v1 v2 v3 v4 v5 v6 : Value} {x : UInt64} (hd : decode mi.2.1 pc = .ok (.dload 7, 2)) (k : J a mi d g (pc + 2) (v0 :: v1 :: v2 :: v3 :: v4 :: v5 :: v6 :: .double x :: L) (.double x :: st) (S)) : J a mi d g (pc) (v0 :: v1 :: v2 :: v3 :: v4 :: v5 :: v6 :: .double x :: L) (st) (S) := by
  intro p l e R s m args below meth c D H locs ls C hl hP hS
  exact lv_dload C.1 C.2.1 hd (lx_at hl (i := 7) (v := .double x) (by simp) rfl) (k p l e R s m args below meth c D H locs ls C hl hP hS)
theorem j_dst7 {v0 v1 v2 v3 v4 v5 v6 : Value} {w z : Value} {x : UInt64} (hd : decode mi.2.1 pc = .ok (.dstore 7, 2)) (hc : v6.category = 1) (hn : 7 + 1 < mi.2.2.1) (k : J a mi d g (pc + 2) (v0 :: v1 :: v2 :: v3 :: v4 :: v5 :: v6 :: .double x :: .null :: L) (st) (S)) : J a mi d g (pc) (v0 :: v1 :: v2 :: v3 :: v4 :: v5 :: v6 :: w :: z :: L) (.double x :: st) (S) := by
  intro p l e R s m args below meth c D H locs ls C hl hP hS
  exact lv_dstore C.1 C.2.1 hd hl hn rfl (fun ls' hl' => k p l e R s m args below meth c D H locs ls' C (lx_of2 (L := v0 :: v1 :: v2 :: v3 :: v4 :: v5 :: v6 :: w :: z :: L) (i := 7) (x := .double x) (fun w _ q => by cases q; exact hc) hl') hP hS)
theorem j_dld8 {v0 v1 v2 v3 v4 v5 v6 v7 : Value} {x : UInt64} (hd : decode mi.2.1 pc = .ok (.dload 8, 2)) (k : J a mi d g (pc + 2) (v0 :: v1 :: v2 :: v3 :: v4 :: v5 :: v6 :: v7 :: .double x :: L) (.double x :: st) (S)) : J a mi d g (pc) (v0 :: v1 :: v2 :: v3 :: v4 :: v5 :: v6 :: v7 :: .double x :: L) (st) (S) := by
  intro p l e R s m args below meth c D H locs ls C hl hP hS
  exact lv_dload C.1 C.2.1 hd (lx_at hl (i := 8) (v := .double x) (by simp) rfl) (k p l e R s m args below meth c D H locs ls C hl hP hS)
theorem j_dst8 {v0 v1 v2 v3 v4 v5 v6 v7 : Value} {w z : Value} {x : UInt64} (hd : decode mi.2.1 pc = .ok (.dstore 8, 2)) (hc : v7.category = 1) (hn : 8 + 1 < mi.2.2.1) (k : J a mi d g (pc + 2) (v0 :: v1 :: v2 :: v3 :: v4 :: v5 :: v6 :: v7 :: .double x :: .null :: L) (st) (S)) : J a mi d g (pc) (v0 :: v1 :: v2 :: v3 :: v4 :: v5 :: v6 :: v7 :: w :: z :: L) (.double x :: st) (S) := by
  intro p l e R s m args below meth c D H locs ls C hl hP hS
  exact lv_dstore C.1 C.2.1 hd hl hn rfl (fun ls' hl' => k p l e R s m args below meth c D H locs ls' C (lx_of2 (L := v0 :: v1 :: v2 :: v3 :: v4 :: v5 :: v6 :: v7 :: w :: z :: L) (i := 8) (x := .double x) (fun w _ q => by cases q; exact hc) hl') hP hS)
theorem j_dld9 {v0 v1 v2 v3 v4 v5 v6 v7 v8 : Value} {x : UInt64} (hd : decode mi.2.1 pc = .ok (.dload 9, 2)) (k : J a mi d g (pc + 2) (v0 :: v1 :: v2 :: v3 :: v4 :: v5 :: v6 :: v7 :: v8 :: .double x :: L) (.double x :: st) (S)) : J a mi d g (pc) (v0 :: v1 :: v2 :: v3 :: v4 :: v5 :: v6 :: v7 :: v8 :: .double x :: L) (st) (S) := by
  intro p l e R s m args below meth c D H locs ls C hl hP hS
  exact lv_dload C.1 C.2.1 hd (lx_at hl (i := 9) (v := .double x) (by simp) rfl) (k p l e R s m args below meth c D H locs ls C hl hP hS)
theorem j_dst9 {v0 v1 v2 v3 v4 v5 v6 v7 v8 : Value} {w z : Value} {x : UInt64} (hd : decode mi.2.1 pc = .ok (.dstore 9, 2)) (hc : v8.category = 1) (hn : 9 + 1 < mi.2.2.1) (k : J a mi d g (pc + 2) (v0 :: v1 :: v2 :: v3 :: v4 :: v5 :: v6 :: v7 :: v8 :: .double x :: .null :: L) (st) (S)) : J a mi d g (pc) (v0 :: v1 :: v2 :: v3 :: v4 :: v5 :: v6 :: v7 :: v8 :: w :: z :: L) (.double x :: st) (S) := by
  intro p l e R s m args below meth c D H locs ls C hl hP hS
  exact lv_dstore C.1 C.2.1 hd hl hn rfl (fun ls' hl' => k p l e R s m args below meth c D H locs ls' C (lx_of2 (L := v0 :: v1 :: v2 :: v3 :: v4 :: v5 :: v6 :: v7 :: v8 :: w :: z :: L) (i := 9) (x := .double x) (fun w _ q => by cases q; exact hc) hl') hP hS)
theorem j_dld10 {v0 v1 v2 v3 v4 v5 v6 v7 v8 v9 : Value} {x : UInt64} (hd : decode mi.2.1 pc = .ok (.dload 10, 2)) (k : J a mi d g (pc + 2) (v0 :: v1 :: v2 :: v3 :: v4 :: v5 :: v6 :: v7 :: v8 :: v9 :: .double x :: L) (.double x :: st) (S)) : J a mi d g (pc) (v0 :: v1 :: v2 :: v3 :: v4 :: v5 :: v6 :: v7 :: v8 :: v9 :: .double x :: L) (st) (S) := by
  intro p l e R s m args below meth c D H locs ls C hl hP hS
  exact lv_dload C.1 C.2.1 hd (lx_at hl (i := 10) (v := .double x) (by simp) rfl) (k p l e R s m args below meth c D H locs ls C hl hP hS)
theorem j_dst10 {v0 v1 v2 v3 v4 v5 v6 v7 v8 v9 : Value} {w z : Value} {x : UInt64} (hd : decode mi.2.1 pc = .ok (.dstore 10, 2)) (hc : v9.category = 1) (hn : 10 + 1 < mi.2.2.1) (k : J a mi d g (pc + 2) (v0 :: v1 :: v2 :: v3 :: v4 :: v5 :: v6 :: v7 :: v8 :: v9 :: .double x :: .null :: L) (st) (S)) : J a mi d g (pc) (v0 :: v1 :: v2 :: v3 :: v4 :: v5 :: v6 :: v7 :: v8 :: v9 :: w :: z :: L) (.double x :: st) (S) := by
  intro p l e R s m args below meth c D H locs ls C hl hP hS
  exact lv_dstore C.1 C.2.1 hd hl hn rfl (fun ls' hl' => k p l e R s m args below meth c D H locs ls' C (lx_of2 (L := v0 :: v1 :: v2 :: v3 :: v4 :: v5 :: v6 :: v7 :: v8 :: v9 :: w :: z :: L) (i := 10) (x := .double x) (fun w _ q => by cases q; exact hc) hl') hP hS)
theorem j_dld11 {v0 v1 v2 v3 v4 v5 v6 v7 v8 v9 v10 : Value} {x : UInt64} (hd : decode mi.2.1 pc = .ok (.dload 11, 2)) (k : J a mi d g (pc + 2) (v0 :: v1 :: v2 :: v3 :: v4 :: v5 :: v6 :: v7 :: v8 :: v9 :: v10 :: .double x :: L) (.double x :: st) (S)) : J a mi d g (pc) (v0 :: v1 :: v2 :: v3 :: v4 :: v5 :: v6 :: v7 :: v8 :: v9 :: v10 :: .double x :: L) (st) (S) := by
  intro p l e R s m args below meth c D H locs ls C hl hP hS
  exact lv_dload C.1 C.2.1 hd (lx_at hl (i := 11) (v := .double x) (by simp) rfl) (k p l e R s m args below meth c D H locs ls C hl hP hS)
theorem j_dst11 {v0 v1 v2 v3 v4 v5 v6 v7 v8 v9 v10 : Value} {w z : Value} {x : UInt64} (hd : decode mi.2.1 pc = .ok (.dstore 11, 2)) (hc : v10.category = 1) (hn : 11 + 1 < mi.2.2.1) (k : J a mi d g (pc + 2) (v0 :: v1 :: v2 :: v3 :: v4 :: v5 :: v6 :: v7 :: v8 :: v9 :: v10 :: .double x :: .null :: L) (st) (S)) : J a mi d g (pc) (v0 :: v1 :: v2 :: v3 :: v4 :: v5 :: v6 :: v7 :: v8 :: v9 :: v10 :: w :: z :: L) (.double x :: st) (S) := by
  intro p l e R s m args below meth c D H locs ls C hl hP hS
  exact lv_dstore C.1 C.2.1 hd hl hn rfl (fun ls' hl' => k p l e R s m args below meth c D H locs ls' C (lx_of2 (L := v0 :: v1 :: v2 :: v3 :: v4 :: v5 :: v6 :: v7 :: v8 :: v9 :: v10 :: w :: z :: L) (i := 11) (x := .double x) (fun w _ q => by cases q; exact hc) hl') hP hS)
theorem j_dld12 {v0 v1 v2 v3 v4 v5 v6 v7 v8 v9 v10 v11 : Value} {x : UInt64} (hd : decode mi.2.1 pc = .ok (.dload 12, 2)) (k : J a mi d g (pc + 2) (v0 :: v1 :: v2 :: v3 :: v4 :: v5 :: v6 :: v7 :: v8 :: v9 :: v10 :: v11 :: .double x :: L) (.double x :: st) (S)) : J a mi d g (pc) (v0 :: v1 :: v2 :: v3 :: v4 :: v5 :: v6 :: v7 :: v8 :: v9 :: v10 :: v11 :: .double x :: L) (st) (S) := by
  intro p l e R s m args below meth c D H locs ls C hl hP hS
  exact lv_dload C.1 C.2.1 hd (lx_at hl (i := 12) (v := .double x) (by simp) rfl) (k p l e R s m args below meth c D H locs ls C hl hP hS)
theorem j_dst12 {v0 v1 v2 v3 v4 v5 v6 v7 v8 v9 v10 v11 : Value} {w z : Value} {x : UInt64} (hd : decode mi.2.1 pc = .ok (.dstore 12, 2)) (hc : v11.category = 1) (hn : 12 + 1 < mi.2.2.1) (k : J a mi d g (pc + 2) (v0 :: v1 :: v2 :: v3 :: v4 :: v5 :: v6 :: v7 :: v8 :: v9 :: v10 :: v11 :: .double x :: .null :: L) (st) (S)) : J a mi d g (pc) (v0 :: v1 :: v2 :: v3 :: v4 :: v5 :: v6 :: v7 :: v8 :: v9 :: v10 :: v11 :: w :: z :: L) (.double x :: st) (S) := by
  intro p l e R s m args below meth c D H locs ls C hl hP hS
  exact lv_dstore C.1 C.2.1 hd hl hn rfl (fun ls' hl' => k p l e R s m args below meth c D H locs ls' C (lx_of2 (L := v0 :: v1 :: v2 :: v3 :: v4 :: v5 :: v6 :: v7 :: v8 :: v9 :: v10 :: v11 :: w :: z :: L) (i := 12) (x := .double x) (fun w _ q => by cases q; exact hc) hl') hP hS)
theorem j_dld13 {v0 v1 v2 v3 v4 v5 v6 v7 v8 v9 v10 v11 v12 : Value} {x : UInt64} (hd : decode mi.2.1 pc = .ok (.dload 13, 2)) (k : J a mi d g (pc + 2) (v0 :: v1 :: v2 :: v3 :: v4 :: v5 :: v6 :: v7 :: v8 :: v9 :: v10 :: v11 :: v12 :: .double x :: L) (.double x :: st) (S)) : J a mi d g (pc) (v0 :: v1 :: v2 :: v3 :: v4 :: v5 :: v6 :: v7 :: v8 :: v9 :: v10 :: v11 :: v12 :: .double x :: L) (st) (S) := by
  intro p l e R s m args below meth c D H locs ls C hl hP hS
  exact lv_dload C.1 C.2.1 hd (lx_at hl (i := 13) (v := .double x) (by simp) rfl) (k p l e R s m args below meth c D H locs ls C hl hP hS)
theorem j_dst13 {v0 v1 v2 v3 v4 v5 v6 v7 v8 v9 v10 v11 v12 : Value} {w z : Value} {x : UInt64} (hd : decode mi.2.1 pc = .ok (.dstore 13, 2)) (hc : v12.category = 1) (hn : 13 + 1 < mi.2.2.1) (k : J a mi d g (pc + 2) (v0 :: v1 :: v2 :: v3 :: v4 :: v5 :: v6 :: v7 :: v8 :: v9 :: v10 :: v11 :: v12 :: .double x :: .null :: L) (st) (S)) : J a mi d g (pc) (v0 :: v1 :: v2 :: v3 :: v4 :: v5 :: v6 :: v7 :: v8 :: v9 :: v10 :: v11 :: v12 :: w :: z :: L) (.double x :: st) (S) := by
  intro p l e R s m args below meth c D H locs ls C hl hP hS
  exact lv_dstore C.1 C.2.1 hd hl hn rfl (fun ls' hl' => k p l e R s m args below meth c D H locs ls' C (lx_of2 (L := v0 :: v1 :: v2 :: v3 :: v4 :: v5 :: v6 :: v7 :: v8 :: v9 :: v10 :: v11 :: v12 :: w :: z :: L) (i := 13) (x := .double x) (fun w _ q => by cases q; exact hc) hl') hP hS)
theorem j_dld14 {v0 v1 v2 v3 v4 v5 v6 v7 v8 v9 v10 v11 v12 v13 : Value} {x : UInt64} (hd : decode mi.2.1 pc = .ok (.dload 14, 2)) (k : J a mi d g (pc + 2) (v0 :: v1 :: v2 :: v3 :: v4 :: v5 :: v6 :: v7 :: v8 :: v9 :: v10 :: v11 :: v12 :: v13 :: .double x :: L) (.double x :: st) (S)) : J a mi d g (pc) (v0 :: v1 :: v2 :: v3 :: v4 :: v5 :: v6 :: v7 :: v8 :: v9 :: v10 :: v11 :: v12 :: v13 :: .double x :: L) (st) (S) := by
  intro p l e R s m args below meth c D H locs ls C hl hP hS
  exact lv_dload C.1 C.2.1 hd (lx_at hl (i := 14) (v := .double x) (by simp) rfl) (k p l e R s m args below meth c D H locs ls C hl hP hS)
theorem j_dst14 {v0 v1 v2 v3 v4 v5 v6 v7 v8 v9 v10 v11 v12 v13 : Value} {w z : Value} {x : UInt64} (hd : decode mi.2.1 pc = .ok (.dstore 14, 2)) (hc : v13.category = 1) (hn : 14 + 1 < mi.2.2.1) (k : J a mi d g (pc + 2) (v0 :: v1 :: v2 :: v3 :: v4 :: v5 :: v6 :: v7 :: v8 :: v9 :: v10 :: v11 :: v12 :: v13 :: .double x :: .null :: L) (st) (S)) : J a mi d g (pc) (v0 :: v1 :: v2 :: v3 :: v4 :: v5 :: v6 :: v7 :: v8 :: v9 :: v10 :: v11 :: v12 :: v13 :: w :: z :: L) (.double x :: st) (S) := by
  intro p l e R s m args below meth c D H locs ls C hl hP hS
  exact lv_dstore C.1 C.2.1 hd hl hn rfl (fun ls' hl' => k p l e R s m args below meth c D H locs ls' C (lx_of2 (L := v0 :: v1 :: v2 :: v3 :: v4 :: v5 :: v6 :: v7 :: v8 :: v9 :: v10 :: v11 :: v12 :: v13 :: w :: z :: L) (i := 14) (x := .double x) (fun w _ q => by cases q; exact hc) hl') hP hS)
theorem j_dld15 {v0 v1 v2 v3 v4 v5 v6 v7 v8 v9 v10 v11 v12 v13 v14 : Value} {x : UInt64} (hd : decode mi.2.1 pc = .ok (.dload 15, 2)) (k : J a mi d g (pc + 2) (v0 :: v1 :: v2 :: v3 :: v4 :: v5 :: v6 :: v7 :: v8 :: v9 :: v10 :: v11 :: v12 :: v13 :: v14 :: .double x :: L) (.double x :: st) (S)) : J a mi d g (pc) (v0 :: v1 :: v2 :: v3 :: v4 :: v5 :: v6 :: v7 :: v8 :: v9 :: v10 :: v11 :: v12 :: v13 :: v14 :: .double x :: L) (st) (S) := by
  intro p l e R s m args below meth c D H locs ls C hl hP hS
  exact lv_dload C.1 C.2.1 hd (lx_at hl (i := 15) (v := .double x) (by simp) rfl) (k p l e R s m args below meth c D H locs ls C hl hP hS)
theorem j_dst15 {v0 v1 v2 v3 v4 v5 v6 v7 v8 v9 v10 v11 v12 v13 v14 : Value} {w z : Value} {x : UInt64} (hd : decode mi.2.1 pc = .ok (.dstore 15, 2)) (hc : v14.category = 1) (hn : 15 + 1 < mi.2.2.1) (k : J a mi d g (pc + 2) (v0 :: v1 :: v2 :: v3 :: v4 :: v5 :: v6 :: v7 :: v8 :: v9 :: v10 :: v11 :: v12 :: v13 :: v14 :: .double x :: .null :: L) (st) (S)) : J a mi d g (pc) (v0 :: v1 :: v2 :: v3 :: v4 :: v5 :: v6 :: v7 :: v8 :: v9 :: v10 :: v11 :: v12 :: v13 :: v14 :: w :: z :: L) (.double x :: st) (S) := by
  intro p l e R s m args below meth c D H locs ls C hl hP hS
  exact lv_dstore C.1 C.2.1 hd hl hn rfl (fun ls' hl' => k p l e R s m args below meth c D H locs ls' C (lx_of2 (L := v0 :: v1 :: v2 :: v3 :: v4 :: v5 :: v6 :: v7 :: v8 :: v9 :: v10 :: v11 :: v12 :: v13 :: v14 :: w :: z :: L) (i := 15) (x := .double x) (fun w _ q => by cases q; exact hc) hl') hP hS)
theorem j_dld16 {v0 v1 v2 v3 v4 v5 v6 v7 v8 v9 v10 v11 v12 v13 v14 v15 : Value} {x : UInt64} (hd : decode mi.2.1 pc = .ok (.dload 16, 2)) (k : J a mi d g (pc + 2) (v0 :: v1 :: v2 :: v3 :: v4 :: v5 :: v6 :: v7 :: v8 :: v9 :: v10 :: v11 :: v12 :: v13 :: v14 :: v15 :: .double x :: L) (.double x :: st) (S)) : J a mi d g (pc) (v0 :: v1 :: v2 :: v3 :: v4 :: v5 :: v6 :: v7 :: v8 :: v9 :: v10 :: v11 :: v12 :: v13 :: v14 :: v15 :: .double x :: L) (st) (S) := by
  intro p l e R s m args below meth c D H locs ls C hl hP hS
  exact lv_dload C.1 C.2.1 hd (lx_at hl (i := 16) (v := .double x) (by simp) rfl) (k p l e R s m args below meth c D H locs ls C hl hP hS)
theorem j_dst16 {v0 v1 v2 v3 v4 v5 v6 v7 v8 v9 v10 v11 v12 v13 v14 v15 : Value} {w z : Value} {x : UInt64} (hd : decode mi.2.1 pc = .ok (.dstore 16, 2)) (hc : v15.category = 1) (hn : 16 + 1 < mi.2.2.1) (k : J a mi d g (pc + 2) (v0 :: v1 :: v2 :: v3 :: v4 :: v5 :: v6 :: v7 :: v8 :: v9 :: v10 :: v11 :: v12 :: v13 :: v14 :: v15 :: .double x :: .null :: L) (st) (S)) : J a mi d g (pc) (v0 :: v1 :: v2 :: v3 :: v4 :: v5 :: v6 :: v7 :: v8 :: v9 :: v10 :: v11 :: v12 :: v13 :: v14 :: v15 :: w :: z :: L) (.double x :: st) (S) := by
  intro p l e R s m args below meth c D H locs ls C hl hP hS
  exact lv_dstore C.1 C.2.1 hd hl hn rfl (fun ls' hl' => k p l e R s m args below meth c D H locs ls' C (lx_of2 (L := v0 :: v1 :: v2 :: v3 :: v4 :: v5 :: v6 :: v7 :: v8 :: v9 :: v10 :: v11 :: v12 :: v13 :: v14 :: v15 :: w :: z :: L) (i := 16) (x := .double x) (fun w _ q => by cases q; exact hc) hl') hP hS)
end Rows
section CallsD
variable {a : Nat → Nat} {mi mi' : MI} {d d' : Nat} {g : GG} {pc : Nat} {L st : List Value} {S : St} {Q : Option Value → St → Prop}
theorem j_d2l (hc0 : mi.1.cls = "java/lang/Math") {x : UInt64} (hd : decode mi.2.1 pc = .ok (.invokestatic 79, 3)) (hst : st.length ≤ 4) (hdd : 1 ≤ d) (kk : J a mi d g (pc + 3) L (.long x.toInt64 :: st) S) : J a mi d g pc L (.double x :: st) S := by
  intro p l e R s m args below meth c D H locs ls C hl' hP hS
  have hts := C.2.2.2.2.2.2.1
  have hr := C.2.2.2.2.2.2.2.1
  have := cat_le st
  have ho := C.2.2.2.2.2.1
  rw [hc0] at ho
  exact vn_d2l C.1 C.2.1 (by rw [C.2.2.1, hl'.1]) ho (hts _ n_d2l_l) (hts _ n_d2l_n) (hts _ n_d2l_s) (hts _ n_ini) (by omega) (by omega) hd (kk p l e R s m args below meth c D H locs ls C hl' hP hS)
theorem j_l2dn (hc0 : mi.1.cls = "java/lang/Math") {x : Int64} (hv : vn_snl2d x = false) (hd : decode mi.2.1 pc = .ok (.invokestatic 166, 3)) (hst : st.length ≤ 4) (hdd : 1 ≤ d) (kk : J a mi d g (pc + 3) L (.double x.toUInt64 :: st) S) : J a mi d g pc L (.long x :: st) S := by
  intro p l e R s m args below meth c D H locs ls C hl' hP hS
  have hts := C.2.2.2.2.2.2.1
  have hr := C.2.2.2.2.2.2.2.1
  have := cat_le st
  have ho := C.2.2.2.2.2.1
  rw [hc0] at ho
  exact vn_l2d C.1 C.2.1 (by rw [C.2.2.1, hl'.1]) ho (hts _ n_l2d_l) (hts _ n_l2d_n) (hts _ n_l2d_s) (hts _ n_ini) hv (by omega) (by omega) hd (kk p l e R s m args below meth c D H locs ls C hl' hP hS)
theorem j_dret {v : UInt64} (hd : decode mi.2.1 pc = .ok (.dreturn, 1)) (hr : mi.2.2.2 = some .double) (hq : Q (some (.double v)) S) : J a mi d (gm a Q) pc L [.double v] S := by
  intro p l e R s m args below meth c D H locs ls C hl hP hS
  exact W.dret C.1 C.2.1 (C.2.2.2.1.trans hr) (fun t ht hW => ⟨⟨_, S, rfl, hq, by rw [ht]; exact hP⟩, hS.F ht⟩) (fun q hq => hS.2.2 q hq) hd C.2.2.2.2.1
end CallsD
theorem abs_bits (x : UInt64) : (x.toInt64 &&& 9223372036854775807).toUInt64 = x &&& 0x7fffffffffffffff := rfl
theorem s_J9_abs {a : Nat → Nat} {S : St} {x : UInt64} (hx : DF x) : Rt a mJ9_abs 1 [.double x] S (some (.double (x &&& 0x7fffffffffffffff))) S := by
  show J _ _ _ _ 0 [_, .null] [] _
  refine j_dld0 dJ9_abs_294c1_0 ?_
  refine j_d2l rfl dJ9_abs_294c1_1 (by decide) (by omega) ?_
  refine j_ldc2_w (v := 9223372036854775807) dJ9_abs_294c1_4 n_mask ?_
  refine j_land dJ9_abs_294c1_7 ?_
  refine j_l2dn rfl ?_ dJ9_abs_294c1_8 (by decide) (by omega) ?_
  · unfold vn_snl2d
    rw [abs_bits]
    have h := vf_DF (abs_DF hx).1
    unfold vf_n64 at h
    have h2 : ¬ ((x &&& 0x7fffffffffffffff) &&& 0x7fffffffffffffff > 0x7ff0000000000000) := fun z => absurd (UInt64.lt_iff_toNat_lt.mp z) (Nat.not_lt.mpr (UInt64.le_iff_toNat_le.mp h))
    simp [h2]
  · rw [abs_bits]
    exact j_dret dJ9_abs_294c1_11 rfl ⟨rfl, rfl⟩

theorem Met_ofWF {l : Launch} {y : MethodName} {ws ws' : List Cond} {rm : Room} {Pc : Array Value → State → Prop} {Qc : Array Value → State → Outcome → State → Prop} {mc ms : Nat} {free : Addr → Prop} {cc : ByteArray} {maxL : Nat} {ret : Option FieldType}
    (hy : plainFor y = true) (hw : ws = Cond.code y cc maxL ret :: ws')
    (body : ∀ p e s m args below meth c s₁, BodyLoose p l y (headSpec ws rm) cc maxL ret e s m args below meth c s₁ → c.maxLocals = maxL → Pc args s →
      W p l e (headSpec ws rm).room s m args below meth c s.heap [] 0 0 (MQ below Qc args s mc ms free) (entryFrame m args maxL)) : Met l y ws rm Pc Qc mc ms free := by
  refine MetFree.of_bodySF (code := cc) (maxLocals := maxL) (ret := ret) hy ?_ ?_
  · intro args s m h hn
    obtain ⟨meth, c, h1, h2, h3, h4, h5, h6, -, -⟩ := Cond.code_spec hn (atoms_spec (ws := ws) h _ (by rw [hw]; exact List.mem_cons_self))
    exact ⟨meth, c, h1, h2, h3, h4, h5, h6⟩
  · intro p e s m args below meth c s₁ B hml hP _
    have hh0 : s₁.heap = s.heap := by rw [B.state]; rfl
    obtain ⟨t, a1, o, b1, b2, b3⟩ := body p e s m args below meth c s₁ B hml hP s₁ hh0 (Stand.of_body B)
    exact ⟨t, o, a1, b1, b2, ⟨b3.1, b3.2⟩⟩
section CallsF
variable {a : Nat → Nat} {mi mi' : MI} {d d' : Nat} {g : GG} {pc : Nat} {L st : List Value} {S : St} {Q : Option Value → St → Prop}
theorem J_metF {As L0 : List Value} (hJ : J a mi d (gm a Q) 0 L0 [] S) (hL : ent mi.2.2.1 As = L0) (hlen : (lg_sl As).length ≤ mi.2.2.1) (hy : plainFor mi.1 = true) (l : Launch) (D : DD) : Met l mi.1 (Cond.code mi.1 mi.2.1 mi.2.2.1 mi.2.2.2 :: TT) { frames := d, cells := 0, slots := 0, locals := 60 * d } (va_Pc As (World D a S)) (PQ D a Q) 0 0 (AA a) := by
  refine Met_ofWF (cc := mi.2.1) (maxL := mi.2.2.1) (ret := mi.2.2.2) hy rfl ?_
  intro p e s m args below meth c s₁ B hml hv
  obtain ⟨rfl, hP, hK, hI, hSt, hN⟩ := hv
  have hts := atoms_spec (ws := Cond.code mi.1 mi.2.1 mi.2.2.1 mi.2.2.2 :: TT) B.pre
  have hown : s.vm.findClass mi.1.cls = some m.cls := findClass_of_methodNamed B.named
  rw [lg_entry_eq]
  subst hL
  exact hJ p l e _ s m _ below meth c D s.heap [] _ ⟨B.exec, B.bytes, hml, B.returns, B.notSynchronized, hown, fun w hw => hts w (List.mem_cons_of_mem _ hw), ⟨Nat.le_refl _, Nat.le_refl _, Nat.zero_le _, Nat.zero_le _⟩, hK, hI, hSt, hN, trivial⟩ (lx_entry As hlen) hP va_S.rf
theorem GoodTTc {y : MI} (h : Cond.code y.1 y.2.1 y.2.2.1 y.2.2.2 ∈ TT) : GoodIn TT (Cond.code y.1 y.2.1 y.2.2.1 y.2.2.2 :: TT) := fun w hw => by
  rcases List.mem_cons.mp hw with e | e
  · rw [e]; exact ⟨h, good_of_word (TT_good _ h)⟩
  · exact ⟨e, good_of_word (TT_good _ e)⟩
theorem j_callF {As L0 : List Value} {n idx : Nat} {Q' : Option Value → St → Prop} (hd : decode mi.2.1 pc = .ok (.invokestatic idx, 3)) (hl : MLk mi idx mi'.1) (hc : Cond.code mi'.1 mi'.2.1 mi'.2.2.1 mi'.2.2.2 ∈ TT) (hci : Cond.initialized mi'.1.cls ∈ TT) (hpf : plainFor mi'.1 = true) (hmh : mi'.1.cls ≠ "java/lang/invoke/MethodHandle" ∧ mi'.1.cls ≠ "java/lang/invoke/VarHandle") (hpa : (parseMethodDescriptor mi'.1.desc).map (fun q => q.parameters.length) = some n) (h40 : mi'.2.2.1 ≤ 40) (hst : Cond.static mi'.1 ∈ TT) (hn : As.length = n) (hL : ent mi'.2.2.1 As = L0) (hlen : (lg_sl As).length ≤ mi'.2.2.1) (hrest : (st.map fun v => v.category).sum ≤ 8) (hdd : d' + 1 ≤ d)
    (hJ : J a mi' d' (gm a Q') 0 L0 [] S) (kk : ∀ r S1, Q' r S1 → J a mi d g (pc + 3) L (r.toList ++ st) S1) : J a mi d g pc L (As.reverse ++ st) S := by
  intro p l e R s m args below meth c D H locs ls C hl' hP hS
  have hM := J_metF hJ hL hlen hpf l D
  have hts := C.2.2.2.2.2.2.1
  have hr := C.2.2.2.2.2.2.2.1
  have hmx := h40
  have hroom : ({ frames := d', cells := 0, slots := 0, locals := 60 * d' } : Room).frames + 1 ≤ R.frames ∧ 8 + (mi'.2.2.1 + 11) + ({ frames := d', cells := 0, slots := 0, locals := 60 * d' } : Room).locals ≤ R.locals := ⟨by show d' + 1 ≤ _; omega, by show _ + 60 * d' ≤ _; omega⟩
  have hpre : PreS s H (va_Pc As (World D a S)) As := ⟨World.blind, fun U hU hW => ⟨rfl, worldOf C hP hS hU hW⟩⟩
  rcases hl with hl | ⟨host, hl⟩
  · exact W_of_run hS (va_runS (As := As) (rest := st) (index := idx) (cc := mi.2.1) (nL := mi.2.2.1) ⟨C.1, C.2.1, C.2.2.1, C.2.2.2.2.2.1, hts⟩ hM ⟨callB_of n hts (GoodTTc hc) rfl rfl rfl (hts _ hci) (hts _ hl) ⟨hmh.1, hmh.2, hpa⟩ hroom, hts _ hst⟩ hpre rfl hn hl'.1 rfl (lv_room hrest) hd ⟨hr.2.2.1, hr.2.2.2⟩) (fun r S1 H1 locs1 hq hP1 hS1 => kk r S1 hq p l e R s m args below meth c D H1 locs1 ls C hl' hP1 hS1)
  · exact W_of_run hS (va_runSN (As := As) (rest := st) (index := idx) (host := host) (cc := mi.2.1) (nL := mi.2.2.1) ⟨C.1, C.2.1, C.2.2.1, C.2.2.2.2.2.1, hts⟩ hM ⟨va_cnB n hts (GoodTTc hc) rfl rfl rfl (C.2.2.2.2.2.2.2.2.2.2.2.1 _ hl) (hts _ hci) ⟨hmh.1, hmh.2, hpa⟩ hroom, hts _ hst, trivial⟩ hpre rfl hn hl'.1 rfl (lv_room hrest) hd ⟨hr.2.2.1, hr.2.2.2⟩) (fun r S1 H1 locs1 hq hP1 hS1 => kk r S1 hq p l e R s m args below meth c D H1 locs1 ls C hl' hP1 hS1)
theorem pf_abs0 : (NativeRow.find? natives "java/lang/Math" "abs" "(D)D").isNone = true := by decide +kernel
theorem pf_abs : plainFor yJ9_abs_294c1 = true := by
  show (plainName "java/lang/Math" || (NativeRow.find? natives "java/lang/Math" "abs" "(D)D").isNone) = true
  rw [pf_abs0, Bool.or_true]
theorem pd_abs : (parseMethodDescriptor "(D)D").map (fun q => q.parameters.length) = some 1 := by decide +kernel
/-- Math.abs of a number -/
theorem j_absD {idx : Nat} {x : UInt64} (hx : DF x) (hd : decode mi.2.1 pc = .ok (.invokestatic idx, 3)) (hl : MLk mi idx yJ9_abs_294c1) (hrest : (st.map fun v => v.category).sum ≤ 8) (hdd : 2 ≤ d) (kk : J a mi d g (pc + 3) L (.double (x &&& 0x7fffffffffffffff) :: st) S) : J a mi d g pc L (.double x :: st) S :=
  j_callF (mi' := mJ9_abs) (As := [.double x]) (n := 1) hd hl kJ9_abs.1 kJ9_abs.2 pf_abs (by decide) pd_abs (by decide) zJ9_abs rfl rfl (Nat.le_of_ble_eq_true rfl) hrest hdd (s_J9_abs hx) (fun r' S' hq => by rw [hq.1, hq.2]; exact kk)
end CallsF
