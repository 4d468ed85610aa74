/-! rows on doubles; the law's own cells, script, helpers -/
section Rows
variable {a : Nat → Nat} {mi : MI} {d : Nat} {g : GG} {pc : Nat} {L st : List Value} {S : St}

theorem j_dconst0 (hd : decode mi.2.1 pc = .ok (.dconst 0, 1)) (k : J a mi d g (pc + 1) (L) (.double 0 :: st) (S)) : J a mi d g (pc) (L) (st) (S) := by
  intro p l e R s m args below meth c D H locs ls C hl hP hS
  exact lv_dconst0 C.1 C.2.1 hd (k p l e R s m args below meth c D H locs ls C hl hP hS)
theorem j_dconst1 (hd : decode mi.2.1 pc = .ok (.dconst 1, 1)) (k : J a mi d g (pc + 1) (L) (.double FP.dconst1 :: st) (S)) : J a mi d g (pc) (L) (st) (S) := by
  intro p l e R s m args below meth c D H locs ls C hl hP hS
  exact lv_dconst1 C.1 C.2.1 hd (k p l e R s m args below meth c D H locs ls C hl hP hS)
theorem j_ldc2_wD {i : Nat} {v : UInt64} (hd : decode mi.2.1 pc = .ok (.ldc2_w i, 3)) (hc : Cond.constantDouble mi.1.cls i v ∈ TT) (k : J a mi d g (pc + 3) (L) (.double v :: st) (S)) : J a mi d g (pc) (L) (st) (S) := by
  intro p l e R s m args below meth c D H locs ls C hl hP hS
  exact lv_ldc2d C.1 C.2.1 C.2.2.2.2.2.1 (C.2.2.2.2.2.2.1 _ hc) hd (k p l e R s m args below meth c D H locs ls C hl hP hS)
theorem j_l2d {x : Int64} (hd : decode mi.2.1 pc = .ok (.l2d, 1)) (k : J a mi d g (pc + 1) (L) (.double (FP.l2d x) :: st) (S)) : J a mi d g (pc) (L) (.long x :: st) (S) := by
  intro p l e R s m args below meth c D H locs ls C hl hP hS
  exact lv_l2d C.1 C.2.1 hd (k p l e R s m args below meth c D H locs ls C hl hP hS)
theorem j_i2d {x : Int32} (hd : decode mi.2.1 pc = .ok (.i2d, 1)) (k : J a mi d g (pc + 1) (L) (.double (FP.i2d x) :: st) (S)) : J a mi d g (pc) (L) (.int x :: st) (S) := by
  intro p l e R s m args below meth c D H locs ls C hl hP hS
  exact lv_i2d C.1 C.2.1 hd (k p l e R s m args below meth c D H locs ls C hl hP hS)
theorem j_dadd {x y : UInt64} (hd : decode mi.2.1 pc = .ok (.dadd, 1)) (h : DF (FP.dadd x y)) (k : J a mi d g (pc + 1) (L) (.double (FP.dadd x y) :: st) (S)) : J a mi d g (pc) (L) (.double y :: .double x :: st) (S) := by
  intro p l e R s m args below meth c D H locs ls C hl hP hS
  exact lv_dadd C.1 C.2.1 hd (vf_DF h) (k p l e R s m args below meth c D H locs ls C hl hP hS)
theorem j_dsub {x y : UInt64} (hd : decode mi.2.1 pc = .ok (.dsub, 1)) (h : DF (FP.dsub x y)) (k : J a mi d g (pc + 1) (L) (.double (FP.dsub x y) :: st) (S)) : J a mi d g (pc) (L) (.double y :: .double x :: st) (S) := by
  intro p l e R s m args below meth c D H locs ls C hl hP hS
  exact lv_dsub C.1 C.2.1 hd (vf_DF h) (k p l e R s m args below meth c D H locs ls C hl hP hS)
theorem j_ddiv {x y : UInt64} (hd : decode mi.2.1 pc = .ok (.ddiv, 1)) (h : DF (FP.ddiv x y)) (k : J a mi d g (pc + 1) (L) (.double (FP.ddiv x y) :: st) (S)) : J a mi d g (pc) (L) (.double y :: .double x :: st) (S) := by
  intro p l e R s m args below meth c D H locs ls C hl hP hS
  exact lv_ddiv C.1 C.2.1 hd (vf_DF h) (k p l e R s m args below meth c D H locs ls C hl hP hS)
theorem j_dcmp {x y : UInt64} {op : CmpOp} (hd : decode mi.2.1 pc = .ok (.dcmp op, 1)) (hx : DF x) (hy : DF y) (k : J a mi d g (pc + 1) (L) (.int (cz x y) :: st) (S)) : J a mi d g (pc) (L) (.double y :: .double x :: st) (S) := by
  intro p l e R s m args below meth c D H locs ls C hl hP hS
  exact lv_dcmp C.1 C.2.1 hd (by rw [cz_cmp hx hy]; exact (k p l e R s m args below meth c D H locs ls C hl hP hS))
theorem j_topd {x : UInt64} (k : ∀ y : UInt64, y = x → J a mi d g pc L (.double y :: st) S) : J a mi d g pc L (.double x :: st) S := k x rfl
theorem j_topD {x y : UInt64} (e : x = y) (k : J a mi d g pc L (.double y :: st) S) : J a mi d g pc L (.double x :: st) S := e ▸ k
theorem j_ild15 {v0 v1 v2 v3 v4 v5 v6 v7 v8 v9 v10 v11 v12 v13 v14 : Value} {x : Int32} (hd : decode mi.2.1 pc = .ok (.iload 15, 2)) (k : J a mi d g (pc + 2) (v0 :: v1 :: v2 :: v3 :: v4 :: v5 :: v6 :: v7 :: v8 :: v9 :: v10 :: v11 :: v12 :: v13 :: v14 :: .int x :: L) (.int x :: st) (S)) : J a mi d g (pc) (v0 :: v1 :: v2 :: v3 :: v4 :: v5 :: v6 :: v7 :: v8 :: v9 :: v10 :: v11 :: v12 :: v13 :: v14 :: .int x :: L) (st) (S) := by
  intro p l e R s m args below meth c D H locs ls C hl hP hS
  exact lv_iload C.1 C.2.1 hd (lx_at hl (i := 15) (v := .int x) (by simp) rfl) (k p l e R s m args below meth c D H locs ls C hl hP hS)
theorem j_ist15 {v0 v1 v2 v3 v4 v5 v6 v7 v8 v9 v10 v11 v12 v13 v14 : Value} {w : Value} {x : Int32} (hd : decode mi.2.1 pc = .ok (.istore 15, 2)) (hc : v14.category = 1) (hn : 15 < mi.2.2.1) (k : J a mi d g (pc + 2) (v0 :: v1 :: v2 :: v3 :: v4 :: v5 :: v6 :: v7 :: v8 :: v9 :: v10 :: v11 :: v12 :: v13 :: v14 :: .int x :: L) (st) (S)) : J a mi d g (pc) (v0 :: v1 :: v2 :: v3 :: v4 :: v5 :: v6 :: v7 :: v8 :: v9 :: v10 :: v11 :: v12 :: v13 :: v14 :: w :: L) (.int x :: st) (S) := by
  intro p l e R s m args below meth c D H locs ls C hl hP hS
  exact lv_istore C.1 C.2.1 hd hl hn rfl (fun ls' hl' => k p l e R s m args below meth c D H locs ls' C (lx_of1 (L := v0 :: v1 :: v2 :: v3 :: v4 :: v5 :: v6 :: v7 :: v8 :: v9 :: v10 :: v11 :: v12 :: v13 :: v14 :: w :: L) (i := 15) (x := .int x) (fun w _ q => by cases q; exact hc) hl') hP hS)
theorem j_iinc15 {v0 v1 v2 v3 v4 v5 v6 v7 v8 v9 v10 v11 v12 v13 v14 : Value} {x : Int32} {n : Int} (y : Int32) (hd : decode mi.2.1 pc = .ok (.iinc 15 n, 3)) (hy : x + Int32.ofInt n = y) (hc : v14.category = 1) (hn : 15 < mi.2.2.1) (k : J a mi d g (pc + 3) (v0 :: v1 :: v2 :: v3 :: v4 :: v5 :: v6 :: v7 :: v8 :: v9 :: v10 :: v11 :: v12 :: v13 :: v14 :: .int y :: L) (st) (S)) : J a mi d g (pc) (v0 :: v1 :: v2 :: v3 :: v4 :: v5 :: v6 :: v7 :: v8 :: v9 :: v10 :: v11 :: v12 :: v13 :: v14 :: .int x :: L) (st) (S) := by
  intro p l e R s m args below meth c D H locs ls C hl hP hS
  obtain ⟨q, hq⟩ := lx_ix hl (i := 15) (v := .int x) (by simp) rfl
  exact lv_iinc C.1 C.2.1 hd hl hq hy hn rfl (fun ls' hl' => k p l e R s m args below meth c D H locs ls' C (lx_of1 (L := v0 :: v1 :: v2 :: v3 :: v4 :: v5 :: v6 :: v7 :: v8 :: v9 :: v10 :: v11 :: v12 :: v13 :: v14 :: .int x :: L) (i := 15) (x := .int y) (fun w _ q => by cases q; exact hc) hl') hP hS)
theorem j_iinc16 {v0 v1 v2 v3 v4 v5 v6 v7 v8 v9 v10 v11 v12 v13 v14 v15 : Value} {x : Int32} {n : Int} (y : Int32) (hd : decode mi.2.1 pc = .ok (.iinc 16 n, 3)) (hy : x + Int32.ofInt n = y) (hc : v15.category = 1) (hn : 16 < mi.2.2.1) (k : J a mi d g (pc + 3) (v0 :: v1 :: v2 :: v3 :: v4 :: v5 :: v6 :: v7 :: v8 :: v9 :: v10 :: v11 :: v12 :: v13 :: v14 :: v15 :: .int y :: L) (st) (S)) : J a mi d g (pc) (v0 :: v1 :: v2 :: v3 :: v4 :: v5 :: v6 :: v7 :: v8 :: v9 :: v10 :: v11 :: v12 :: v13 :: v14 :: v15 :: .int x :: L) (st) (S) := by
  intro p l e R s m args below meth c D H locs ls C hl hP hS
  obtain ⟨q, hq⟩ := lx_ix hl (i := 16) (v := .int x) (by simp) rfl
  exact lv_iinc C.1 C.2.1 hd hl hq hy hn rfl (fun ls' hl' => k p l e R s m args below meth c D H locs ls' C (lx_of1 (L := v0 :: v1 :: v2 :: v3 :: v4 :: v5 :: v6 :: v7 :: v8 :: v9 :: v10 :: v11 :: v12 :: v13 :: v14 :: v15 :: .int x :: L) (i := 16) (x := .int y) (fun w _ q => by cases q; exact hc) hl') hP hS)
theorem j_dld0 {x : UInt64} (hd : decode mi.2.1 pc = .ok (.dload_n 0, 1)) (k : J a mi d g (pc + 1) (.double x :: L) (.double x :: st) (S)) : J a mi d g (pc) (.double x :: L) (st) (S) := by
  intro p l e R s m args below meth c D H locs ls C hl hP hS
  exact lv_dload_n C.1 C.2.1 hd rfl (lx_at hl (i := 0) (v := .double x) (by simp) rfl) (k p l e R s m args below meth c D H locs ls C hl hP hS)
theorem j_dst0 {w z : Value} {x : UInt64} (hd : decode mi.2.1 pc = .ok (.dstore_n 0, 1)) (hn : 0 + 1 < mi.2.2.1) (k : J a mi d g (pc + 1) (.double x :: .null :: L) (st) (S)) : J a mi d g (pc) (w :: z :: L) (.double x :: st) (S) := by
  intro p l e R s m args below meth c D H locs ls C hl hP hS
  exact lv_dstore_n (i := 0) C.1 C.2.1 hd rfl hl hn rfl (fun ls' hl' => k p l e R s m args below meth c D H locs ls' C (lx_of2 (L := w :: z :: L) (i := 0) (x := .double x) (fun w q _ => by omega) hl') hP hS)
theorem j_dld1 {v0 : Value} {x : UInt64} (hd : decode mi.2.1 pc = .ok (.dload_n 1, 1)) (k : J a mi d g (pc + 1) (v0 :: .double x :: L) (.double x :: st) (S)) : J a mi d g (pc) (v0 :: .double x :: L) (st) (S) := by
  intro p l e R s m args below meth c D H locs ls C hl hP hS
  exact lv_dload_n C.1 C.2.1 hd rfl (lx_at hl (i := 1) (v := .double x) (by simp) rfl) (k p l e R s m args below meth c D H locs ls C hl hP hS)
theorem j_dst1 {v0 : Value} {w z : Value} {x : UInt64} (hd : decode mi.2.1 pc = .ok (.dstore_n 1, 1)) (hc : v0.category = 1) (hn : 1 + 1 < mi.2.2.1) (k : J a mi d g (pc + 1) (v0 :: .double x :: .null :: L) (st) (S)) : J a mi d g (pc) (v0 :: w :: z :: L) (.double x :: st) (S) := by
  intro p l e R s m args below meth c D H locs ls C hl hP hS
  exact lv_dstore_n (i := 1) C.1 C.2.1 hd rfl hl hn rfl (fun ls' hl' => k p l e R s m args below meth c D H locs ls' C (lx_of2 (L := v0 :: w :: z :: L) (i := 1) (x := .double x) (fun w _ q => by cases q; exact hc) hl') hP hS)
theorem j_dld2 {v0 v1 : Value} {x : UInt64} (hd : decode mi.2.1 pc = .ok (.dload_n 2, 1)) (k : J a mi d g (pc + 1) (v0 :: v1 :: .double x :: L) (.double x :: st) (S)) : J a mi d g (pc) (v0 :: v1 :: .double x :: L) (st) (S) := by
  intro p l e R s m args below meth c D H locs ls C hl hP hS
  exact lv_dload_n C.1 C.2.1 hd rfl (lx_at hl (i := 2) (v := .double x) (by simp) rfl) (k p l e R s m args below meth c D H locs ls C hl hP hS)
theorem j_dst2 {v0 v1 : Value} {w z : Value} {x : UInt64} (hd : decode mi.2.1 pc = .ok (.dstore_n 2, 1)) (hc : v1.category = 1) (hn : 2 + 1 < mi.2.2.1) (k : J a mi d g (pc + 1) (v0 :: v1 :: .double x :: .null :: L) (st) (S)) : J a mi d g (pc) (v0 :: v1 :: w :: z :: L) (.double x :: st) (S) := by
  intro p l e R s m args below meth c D H locs ls C hl hP hS
  exact lv_dstore_n (i := 2) C.1 C.2.1 hd rfl hl hn rfl (fun ls' hl' => k p l e R s m args below meth c D H locs ls' C (lx_of2 (L := v0 :: v1 :: w :: z :: L) (i := 2) (x := .double x) (fun w _ q => by cases q; exact hc) hl') hP hS)
theorem j_dld3 {v0 v1 v2 : Value} {x : UInt64} (hd : decode mi.2.1 pc = .ok (.dload_n 3, 1)) (k : J a mi d g (pc + 1) (v0 :: v1 :: v2 :: .double x :: L) (.double x :: st) (S)) : J a mi d g (pc) (v0 :: v1 :: v2 :: .double x :: L) (st) (S) := by
  intro p l e R s m args below meth c D H locs ls C hl hP hS
  exact lv_dload_n C.1 C.2.1 hd rfl (lx_at hl (i := 3) (v := .double x) (by simp) rfl) (k p l e R s m args below meth c D H locs ls C hl hP hS)
theorem j_dst3 {v0 v1 v2 : Value} {w z : Value} {x : UInt64} (hd : decode mi.2.1 pc = .ok (.dstore_n 3, 1)) (hc : v2.category = 1) (hn : 3 + 1 < mi.2.2.1) (k : J a mi d g (pc + 1) (v0 :: v1 :: v2 :: .double x :: .null :: L) (st) (S)) : J a mi d g (pc) (v0 :: v1 :: v2 :: w :: z :: L) (.double x :: st) (S) := by
  intro p l e R s m args below meth c D H locs ls C hl hP hS
  exact lv_dstore_n (i := 3) C.1 C.2.1 hd rfl hl hn rfl (fun ls' hl' => k p l e R s m args below meth c D H locs ls' C (lx_of2 (L := v0 :: v1 :: v2 :: w :: z :: L) (i := 3) (x := .double x) (fun w _ q => by cases q; exact hc) hl') hP hS)
theorem j_dld4 {v0 v1 v2 v3 : Value} {x : UInt64} (hd : decode mi.2.1 pc = .ok (.dload 4, 2)) (k : J a mi d g (pc + 2) (v0 :: v1 :: v2 :: v3 :: .double x :: L) (.double x :: st) (S)) : J a mi d g (pc) (v0 :: v1 :: v2 :: v3 :: .double x :: L) (st) (S) := by
  intro p l e R s m args below meth c D H locs ls C hl hP hS
  exact lv_dload C.1 C.2.1 hd (lx_at hl (i := 4) (v := .double x) (by simp) rfl) (k p l e R s m args below meth c D H locs ls C hl hP hS)
theorem j_dst4 {v0 v1 v2 v3 : Value} {w z : Value} {x : UInt64} (hd : decode mi.2.1 pc = .ok (.dstore 4, 2)) (hc : v3.category = 1) (hn : 4 + 1 < mi.2.2.1) (k : J a mi d g (pc + 2) (v0 :: v1 :: v2 :: v3 :: .double x :: .null :: L) (st) (S)) : J a mi d g (pc) (v0 :: v1 :: v2 :: v3 :: w :: z :: L) (.double x :: st) (S) := by
  intro p l e R s m args below meth c D H locs ls C hl hP hS
  exact lv_dstore C.1 C.2.1 hd hl hn rfl (fun ls' hl' => k p l e R s m args below meth c D H locs ls' C (lx_of2 (L := v0 :: v1 :: v2 :: v3 :: w :: z :: L) (i := 4) (x := .double x) (fun w _ q => by cases q; exact hc) hl') hP hS)
theorem j_dld5 {v0 v1 v2 v3 v4 : Value} {x : UInt64} (hd : decode mi.2.1 pc = .ok (.dload 5, 2)) (k : J a mi d g (pc + 2) (v0 :: v1 :: v2 :: v3 :: v4 :: .double x :: L) (.double x :: st) (S)) : J a mi d g (pc) (v0 :: v1 :: v2 :: v3 :: v4 :: .double x :: L) (st) (S) := by
  intro p l e R s m args below meth c D H locs ls C hl hP hS
  exact lv_dload C.1 C.2.1 hd (lx_at hl (i := 5) (v := .double x) (by simp) rfl) (k p l e R s m args below meth c D H locs ls C hl hP hS)
theorem j_dst5 {v0 v1 v2 v3 v4 : Value} {w z : Value} {x : UInt64} (hd : decode mi.2.1 pc = .ok (.dstore 5, 2)) (hc : v4.category = 1) (hn : 5 + 1 < mi.2.2.1) (k : J a mi d g (pc + 2) (v0 :: v1 :: v2 :: v3 :: v4 :: .double x :: .null :: L) (st) (S)) : J a mi d g (pc) (v0 :: v1 :: v2 :: v3 :: v4 :: w :: z :: L) (.double x :: st) (S) := by
  intro p l e R s m args below meth c D H locs ls C hl hP hS
  exact lv_dstore C.1 C.2.1 hd hl hn rfl (fun ls' hl' => k p l e R s m args below meth c D H locs ls' C (lx_of2 (L := v0 :: v1 :: v2 :: v3 :: v4 :: w :: z :: L) (i := 5) (x := .double x) (fun w _ q => by cases q; exact hc) hl') hP hS)
theorem j_dld6 {v0 v1 v2 v3 v4 v5 : Value} {x : UInt64} (hd : decode mi.2.1 pc = .ok (.dload 6, 2)) (k : J a mi d g (pc + 2) (v0 :: v1 :: v2 :: v3 :: v4 :: v5 :: .double x :: L) (.double x :: st) (S)) : J a mi d g (pc) (v0 :: v1 :: v2 :: v3 :: v4 :: v5 :: .double x :: L) (st) (S) := by
  intro p l e R s m args below meth c D H locs ls C hl hP hS
  exact lv_dload C.1 C.2.1 hd (lx_at hl (i := 6) (v := .double x) (by simp) rfl) (k p l e R s m args below meth c D H locs ls C hl hP hS)
theorem j_dst6 {v0 v1 v2 v3 v4 v5 : Value} {w z : Value} {x : UInt64} (hd : decode mi.2.1 pc = .ok (.dstore 6, 2)) (hc : v5.category = 1) (hn : 6 + 1 < mi.2.2.1) (k : J a mi d g (pc + 2) (v0 :: v1 :: v2 :: v3 :: v4 :: v5 :: .double x :: .null :: L) (st) (S)) : J a mi d g (pc) (v0 :: v1 :: v2 :: v3 :: v4 :: v5 :: w :: z :: L) (.double x :: st) (S) := by
  intro p l e R s m args below meth c D H locs ls C hl hP hS
  exact lv_dstore C.1 C.2.1 hd hl hn rfl (fun ls' hl' => k p l e R s m args below meth c D H locs ls' C (lx_of2 (L := v0 :: v1 :: v2 :: v3 :: v4 :: v5 :: w :: z :: L) (i := 6) (x := .double x) (fun w _ q => by cases q; exact hc) hl') hP hS)
theorem j_dld7 {v0 v1 v2 v3 v4 v5 v6 : Value} {x : UInt64} (hd : decode mi.2.1 pc = .ok (.dload 7, 2)) (k : J a mi d g (pc + 2) (v0 :: v1 :: v2 :: v3 :: v4 :: v5 :: v6 :: .double x :: L) (.double x :: st) (S)) : J a mi d g (pc) (v0 :: v1 :: v2 :: v3 :: v4 :: v5 :: v6 :: .double x :: L) (st) (S) := by
  intro p l e R s m args below meth c D H locs ls C hl hP hS
  exact lv_dload C.1 C.2.1 hd (lx_at hl (i := 7) (v := .double x) (by simp) rfl) (k p l e R s m args below meth c D H locs ls C hl hP hS)
theorem j_dst7 {v0 v1 v2 v3 v4 v5 v6 : Value} {w z : Value} {x : UInt64} (hd : decode mi.2.1 pc = .ok (.dstore 7, 2)) (hc : v6.category = 1) (hn : 7 + 1 < mi.2.2.1) (k : J a mi d g (pc + 2) (v0 :: v1 :: v2 :: v3 :: v4 :: v5 :: v6 :: .double x :: .null :: L) (st) (S)) : J a mi d g (pc) (v0 :: v1 :: v2 :: v3 :: v4 :: v5 :: v6 :: w :: z :: L) (.double x :: st) (S) := by
  intro p l e R s m args below meth c D H locs ls C hl hP hS
  exact lv_dstore C.1 C.2.1 hd hl hn rfl (fun ls' hl' => k p l e R s m args below meth c D H locs ls' C (lx_of2 (L := v0 :: v1 :: v2 :: v3 :: v4 :: v5 :: v6 :: w :: z :: L) (i := 7) (x := .double x) (fun w _ q => by cases q; exact hc) hl') hP hS)
theorem j_dld8 {v0 v1 v2 v3 v4 v5 v6 v7 : Value} {x : UInt64} (hd : decode mi.2.1 pc = .ok (.dload 8, 2)) (k : J a mi d g (pc + 2) (v0 :: v1 :: v2 :: v3 :: v4 :: v5 :: v6 :: v7 :: .double x :: L) (.double x :: st) (S)) : J a mi d g (pc) (v0 :: v1 :: v2 :: v3 :: v4 :: v5 :: v6 :: v7 :: .double x :: L) (st) (S) := by
  intro p l e R s m args below meth c D H locs ls C hl hP hS
  exact lv_dload C.1 C.2.1 hd (lx_at hl (i := 8) (v := .double x) (by simp) rfl) (k p l e R s m args below meth c D H locs ls C hl hP hS)
theorem j_dst8 {v0 v1 v2 v3 v4 v5 v6 v7 : Value} {w z : Value} {x : UInt64} (hd : decode mi.2.1 pc = .ok (.dstore 8, 2)) (hc : v7.category = 1) (hn : 8 + 1 < mi.2.2.1) (k : J a mi d g (pc + 2) (v0 :: v1 :: v2 :: v3 :: v4 :: v5 :: v6 :: v7 :: .double x :: .null :: L) (st) (S)) : J a mi d g (pc) (v0 :: v1 :: v2 :: v3 :: v4 :: v5 :: v6 :: v7 :: w :: z :: L) (.double x :: st) (S) := by
  intro p l e R s m args below meth c D H locs ls C hl hP hS
  exact lv_dstore C.1 C.2.1 hd hl hn rfl (fun ls' hl' => k p l e R s m args below meth c D H locs ls' C (lx_of2 (L := v0 :: v1 :: v2 :: v3 :: v4 :: v5 :: v6 :: v7 :: w :: z :: L) (i := 8) (x := .double x) (fun w _ q => by cases q; exact hc) hl') hP hS)
theorem j_dld9 {v0 v1 v2 v3 v4 v5 v6 v7 v8 : Value} {x : UInt64} (hd : decode mi.2.1 pc = .ok (.dload 9, 2)) (k : J a mi d g (pc + 2) (v0 :: v1 :: v2 :: v3 :: v4 :: v5 :: v6 :: v7 :: v8 :: .double x :: L) (.double x :: st) (S)) : J a mi d g (pc) (v0 :: v1 :: v2 :: v3 :: v4 :: v5 :: v6 :: v7 :: v8 :: .double x :: L) (st) (S) := by
  intro p l e R s m args below meth c D H locs ls C hl hP hS
  exact lv_dload C.1 C.2.1 hd (lx_at hl (i := 9) (v := .double x) (by simp) rfl) (k p l e R s m args below meth c D H locs ls C hl hP hS)
theorem j_dst9 {v0 v1 v2 v3 v4 v5 v6 v7 v8 : Value} {w z : Value} {x : UInt64} (hd : decode mi.2.1 pc = .ok (.dstore 9, 2)) (hc : v8.category = 1) (hn : 9 + 1 < mi.2.2.1) (k : J a mi d g (pc + 2) (v0 :: v1 :: v2 :: v3 :: v4 :: v5 :: v6 :: v7 :: v8 :: .double x :: .null :: L) (st) (S)) : J a mi d g (pc) (v0 :: v1 :: v2 :: v3 :: v4 :: v5 :: v6 :: v7 :: v8 :: w :: z :: L) (.double x :: st) (S) := by
  intro p l e R s m args below meth c D H locs ls C hl hP hS
  exact lv_dstore C.1 C.2.1 hd hl hn rfl (fun ls' hl' => k p l e R s m args below meth c D H locs ls' C (lx_of2 (L := v0 :: v1 :: v2 :: v3 :: v4 :: v5 :: v6 :: v7 :: v8 :: w :: z :: L) (i := 9) (x := .double x) (fun w _ q => by cases q; exact hc) hl') hP hS)
theorem j_dld10 {v0 v1 v2 v3 v4 v5 v6 v7 v8 v9 : Value} {x : UInt64} (hd : decode mi.2.1 pc = .ok (.dload 10, 2)) (k : J a mi d g (pc + 2) (v0 :: v1 :: v2 :: v3 :: v4 :: v5 :: v6 :: v7 :: v8 :: v9 :: .double x :: L) (.double x :: st) (S)) : J a mi d g (pc) (v0 :: v1 :: v2 :: v3 :: v4 :: v5 :: v6 :: v7 :: v8 :: v9 :: .double x :: L) (st) (S) := by
  intro p l e R s m args below meth c D H locs ls C hl hP hS
  exact lv_dload C.1 C.2.1 hd (lx_at hl (i := 10) (v := .double x) (by simp) rfl) (k p l e R s m args below meth c D H locs ls C hl hP hS)
theorem j_dst10 {v0 v1 v2 v3 v4 v5 v6 v7 v8 v9 : Value} {w z : Value} {x : UInt64} (hd : decode mi.2.1 pc = .ok (.dstore 10, 2)) (hc : v9.category = 1) (hn : 10 + 1 < mi.2.2.1) (k : J a mi d g (pc + 2) (v0 :: v1 :: v2 :: v3 :: v4 :: v5 :: v6 :: v7 :: v8 :: v9 :: .double x :: .null :: L) (st) (S)) : J a mi d g (pc) (v0 :: v1 :: v2 :: v3 :: v4 :: v5 :: v6 :: v7 :: v8 :: v9 :: w :: z :: L) (.double x :: st) (S) := by
  intro p l e R s m args below meth c D H locs ls C hl hP hS
  exact lv_dstore C.1 C.2.1 hd hl hn rfl (fun ls' hl' => k p l e R s m args below meth c D H locs ls' C (lx_of2 (L := v0 :: v1 :: v2 :: v3 :: v4 :: v5 :: v6 :: v7 :: v8 :: v9 :: w :: z :: L) (i := 10) (x := .double x) (fun w _ q => by cases q; exact hc) hl') hP hS)
theorem j_dld11 {v0 v1 v2 v3 v4 v5 v6 v7 v8 v9 v10 : Value} {x : UInt64} (hd : decode mi.2.1 pc = .ok (.dload 11, 2)) (k : J a mi d g (pc + 2) (v0 :: v1 :: v2 :: v3 :: v4 :: v5 :: v6 :: v7 :: v8 :: v9 :: v10 :: .double x :: L) (.double x :: st) (S)) : J a mi d g (pc) (v0 :: v1 :: v2 :: v3 :: v4 :: v5 :: v6 :: v7 :: v8 :: v9 :: v10 :: .double x :: L) (st) (S) := by
  intro p l e R s m args below meth c D H locs ls C hl hP hS
  exact lv_dload C.1 C.2.1 hd (lx_at hl (i := 11) (v := .double x) (by simp) rfl) (k p l e R s m args below meth c D H locs ls C hl hP hS)
theorem j_dst11 {v0 v1 v2 v3 v4 v5 v6 v7 v8 v9 v10 : Value} {w z : Value} {x : UInt64} (hd : decode mi.2.1 pc = .ok (.dstore 11, 2)) (hc : v10.category = 1) (hn : 11 + 1 < mi.2.2.1) (k : J a mi d g (pc + 2) (v0 :: v1 :: v2 :: v3 :: v4 :: v5 :: v6 :: v7 :: v8 :: v9 :: v10 :: .double x :: .null :: L) (st) (S)) : J a mi d g (pc) (v0 :: v1 :: v2 :: v3 :: v4 :: v5 :: v6 :: v7 :: v8 :: v9 :: v10 :: w :: z :: L) (.double x :: st) (S) := by
  intro p l e R s m args below meth c D H locs ls C hl hP hS
  exact lv_dstore C.1 C.2.1 hd hl hn rfl (fun ls' hl' => k p l e R s m args below meth c D H locs ls' C (lx_of2 (L := v0 :: v1 :: v2 :: v3 :: v4 :: v5 :: v6 :: v7 :: v8 :: v9 :: v10 :: w :: z :: L) (i := 11) (x := .double x) (fun w _ q => by cases q; exact hc) hl') hP hS)
theorem j_dld12 {v0 v1 v2 v3 v4 v5 v6 v7 v8 v9 v10 v11 : Value} {x : UInt64} (hd : decode mi.2.1 pc = .ok (.dload 12, 2)) (k : J a mi d g (pc + 2) (v0 :: v1 :: v2 :: v3 :: v4 :: v5 :: v6 :: v7 :: v8 :: v9 :: v10 :: v11 :: .double x :: L) (.double x :: st) (S)) : J a mi d g (pc) (v0 :: v1 :: v2 :: v3 :: v4 :: v5 :: v6 :: v7 :: v8 :: v9 :: v10 :: v11 :: .double x :: L) (st) (S) := by
  intro p l e R s m args below meth c D H locs ls C hl hP hS
  exact lv_dload C.1 C.2.1 hd (lx_at hl (i := 12) (v := .double x) (by simp) rfl) (k p l e R s m args below meth c D H locs ls C hl hP hS)
theorem j_dst12 {v0 v1 v2 v3 v4 v5 v6 v7 v8 v9 v10 v11 : Value} {w z : Value} {x : UInt64} (hd : decode mi.2.1 pc = .ok (.dstore 12, 2)) (hc : v11.category = 1) (hn : 12 + 1 < mi.2.2.1) (k : J a mi d g (pc + 2) (v0 :: v1 :: v2 :: v3 :: v4 :: v5 :: v6 :: v7 :: v8 :: v9 :: v10 :: v11 :: .double x :: .null :: L) (st) (S)) : J a mi d g (pc) (v0 :: v1 :: v2 :: v3 :: v4 :: v5 :: v6 :: v7 :: v8 :: v9 :: v10 :: v11 :: w :: z :: L) (.double x :: st) (S) := by
  intro p l e R s m args below meth c D H locs ls C hl hP hS
  exact lv_dstore C.1 C.2.1 hd hl hn rfl (fun ls' hl' => k p l e R s m args below meth c D H locs ls' C (lx_of2 (L := v0 :: v1 :: v2 :: v3 :: v4 :: v5 :: v6 :: v7 :: v8 :: v9 :: v10 :: v11 :: w :: z :: L) (i := 12) (x := .double x) (fun w _ q => by cases q; exact hc) hl') hP hS)
theorem j_dld13 {v0 v1 v2 v3 v4 v5 v6 v7 v8 v9 v10 v11 v12 : Value} {x : UInt64} (hd : decode mi.2.1 pc = .ok (.dload 13, 2)) (k : J a mi d g (pc + 2) (v0 :: v1 :: v2 :: v3 :: v4 :: v5 :: v6 :: v7 :: v8 :: v9 :: v10 :: v11 :: v12 :: .double x :: L) (.double x :: st) (S)) : J a mi d g (pc) (v0 :: v1 :: v2 :: v3 :: v4 :: v5 :: v6 :: v7 :: v8 :: v9 :: v10 :: v11 :: v12 :: .double x :: L) (st) (S) := by
  intro p l e R s m args below meth c D H locs ls C hl hP hS
  exact lv_dload C.1 C.2.1 hd (lx_at hl (i := 13) (v := .double x) (by simp) rfl) (k p l e R s m args below meth c D H locs ls C hl hP hS)
theorem j_dst13 {v0 v1 v2 v3 v4 v5 v6 v7 v8 v9 v10 v11 v12 : Value} {w z : Value} {x : UInt64} (hd : decode mi.2.1 pc = .ok (.dstore 13, 2)) (hc : v12.category = 1) (hn : 13 + 1 < mi.2.2.1) (k : J a mi d g (pc + 2) (v0 :: v1 :: v2 :: v3 :: v4 :: v5 :: v6 :: v7 :: v8 :: v9 :: v10 :: v11 :: v12 :: .double x :: .null :: L) (st) (S)) : J a mi d g (pc) (v0 :: v1 :: v2 :: v3 :: v4 :: v5 :: v6 :: v7 :: v8 :: v9 :: v10 :: v11 :: v12 :: w :: z :: L) (.double x :: st) (S) := by
  intro p l e R s m args below meth c D H locs ls C hl hP hS
  exact lv_dstore C.1 C.2.1 hd hl hn rfl (fun ls' hl' => k p l e R s m args below meth c D H locs ls' C (lx_of2 (L := v0 :: v1 :: v2 :: v3 :: v4 :: v5 :: v6 :: v7 :: v8 :: v9 :: v10 :: v11 :: v12 :: w :: z :: L) (i := 13) (x := .double x) (fun w _ q => by cases q; exact hc) hl') hP hS)
theorem j_dld14 {v0 v1 v2 v3 v4 v5 v6 v7 v8 v9 v10 v11 v12 v13 : Value} {x : UInt64} (hd : decode mi.2.1 pc = .ok (.dload 14, 2)) (k : J a mi d g (pc + 2) (v0 :: v1 :: v2 :: v3 :: v4 :: v5 :: v6 :: v7 :: v8 :: v9 :: v10 :: v11 :: v12 :: v13 :: .double x :: L) (.double x :: st) (S)) : J a mi d g (pc) (v0 :: v1 :: v2 :: v3 :: v4 :: v5 :: v6 :: v7 :: v8 :: v9 :: v10 :: v11 :: v12 :: v13 :: .double x :: L) (st) (S) := by
  intro p l e R s m args below meth c D H locs ls C hl hP hS
  exact lv_dload C.1 C.2.1 hd (lx_at hl (i := 14) (v := .double x) (by simp) rfl) (k p l e R s m args below meth c D H locs ls C hl hP hS)
theorem j_dst14 {v0 v1 v2 v3 v4 v5 v6 v7 v8 v9 v10 v11 v12 v13 : Value} {w z : Value} {x : UInt64} (hd : decode mi.2.1 pc = .ok (.dstore 14, 2)) (hc : v13.category = 1) (hn : 14 + 1 < mi.2.2.1) (k : J a mi d g (pc + 2) (v0 :: v1 :: v2 :: v3 :: v4 :: v5 :: v6 :: v7 :: v8 :: v9 :: v10 :: v11 :: v12 :: v13 :: .double x :: .null :: L) (st) (S)) : J a mi d g (pc) (v0 :: v1 :: v2 :: v3 :: v4 :: v5 :: v6 :: v7 :: v8 :: v9 :: v10 :: v11 :: v12 :: v13 :: w :: z :: L) (.double x :: st) (S) := by
  intro p l e R s m args below meth c D H locs ls C hl hP hS
  exact lv_dstore C.1 C.2.1 hd hl hn rfl (fun ls' hl' => k p l e R s m args below meth c D H locs ls' C (lx_of2 (L := v0 :: v1 :: v2 :: v3 :: v4 :: v5 :: v6 :: v7 :: v8 :: v9 :: v10 :: v11 :: v12 :: v13 :: w :: z :: L) (i := 14) (x := .double x) (fun w _ q => by cases q; exact hc) hl') hP hS)
theorem j_dld15 {v0 v1 v2 v3 v4 v5 v6 v7 v8 v9 v10 v11 v12 v13 v14 : Value} {x : UInt64} (hd : decode mi.2.1 pc = .ok (.dload 15, 2)) (k : J a mi d g (pc + 2) (v0 :: v1 :: v2 :: v3 :: v4 :: v5 :: v6 :: v7 :: v8 :: v9 :: v10 :: v11 :: v12 :: v13 :: v14 :: .double x :: L) (.double x :: st) (S)) : J a mi d g (pc) (v0 :: v1 :: v2 :: v3 :: v4 :: v5 :: v6 :: v7 :: v8 :: v9 :: v10 :: v11 :: v12 :: v13 :: v14 :: .double x :: L) (st) (S) := by
  intro p l e R s m args below meth c D H locs ls C hl hP hS
  exact lv_dload C.1 C.2.1 hd (lx_at hl (i := 15) (v := .double x) (by simp) rfl) (k p l e R s m args below meth c D H locs ls C hl hP hS)
theorem j_dst15 {v0 v1 v2 v3 v4 v5 v6 v7 v8 v9 v10 v11 v12 v13 v14 : Value} {w z : Value} {x : UInt64} (hd : decode mi.2.1 pc = .ok (.dstore 15, 2)) (hc : v14.category = 1) (hn : 15 + 1 < mi.2.2.1) (k : J a mi d g (pc + 2) (v0 :: v1 :: v2 :: v3 :: v4 :: v5 :: v6 :: v7 :: v8 :: v9 :: v10 :: v11 :: v12 :: v13 :: v14 :: .double x :: .null :: L) (st) (S)) : J a mi d g (pc) (v0 :: v1 :: v2 :: v3 :: v4 :: v5 :: v6 :: v7 :: v8 :: v9 :: v10 :: v11 :: v12 :: v13 :: v14 :: w :: z :: L) (.double x :: st) (S) := by
  intro p l e R s m args below meth c D H locs ls C hl hP hS
  exact lv_dstore C.1 C.2.1 hd hl hn rfl (fun ls' hl' => k p l e R s m args below meth c D H locs ls' C (lx_of2 (L := v0 :: v1 :: v2 :: v3 :: v4 :: v5 :: v6 :: v7 :: v8 :: v9 :: v10 :: v11 :: v12 :: v13 :: v14 :: w :: z :: L) (i := 15) (x := .double x) (fun w _ q => by cases q; exact hc) hl') hP hS)
theorem j_dld16 {v0 v1 v2 v3 v4 v5 v6 v7 v8 v9 v10 v11 v12 v13 v14 v15 : Value} {x : UInt64} (hd : decode mi.2.1 pc = .ok (.dload 16, 2)) (k : J a mi d g (pc + 2) (v0 :: v1 :: v2 :: v3 :: v4 :: v5 :: v6 :: v7 :: v8 :: v9 :: v10 :: v11 :: v12 :: v13 :: v14 :: v15 :: .double x :: L) (.double x :: st) (S)) : J a mi d g (pc) (v0 :: v1 :: v2 :: v3 :: v4 :: v5 :: v6 :: v7 :: v8 :: v9 :: v10 :: v11 :: v12 :: v13 :: v14 :: v15 :: .double x :: L) (st) (S) := by
  intro p l e R s m args below meth c D H locs ls C hl hP hS
  exact lv_dload C.1 C.2.1 hd (lx_at hl (i := 16) (v := .double x) (by simp) rfl) (k p l e R s m args below meth c D H locs ls C hl hP hS)
theorem j_dst16 {v0 v1 v2 v3 v4 v5 v6 v7 v8 v9 v10 v11 v12 v13 v14 v15 : Value} {w z : Value} {x : UInt64} (hd : decode mi.2.1 pc = .ok (.dstore 16, 2)) (hc : v15.category = 1) (hn : 16 + 1 < mi.2.2.1) (k : J a mi d g (pc + 2) (v0 :: v1 :: v2 :: v3 :: v4 :: v5 :: v6 :: v7 :: v8 :: v9 :: v10 :: v11 :: v12 :: v13 :: v14 :: v15 :: .double x :: .null :: L) (st) (S)) : J a mi d g (pc) (v0 :: v1 :: v2 :: v3 :: v4 :: v5 :: v6 :: v7 :: v8 :: v9 :: v10 :: v11 :: v12 :: v13 :: v14 :: v15 :: w :: z :: L) (.double x :: st) (S) := by
  intro p l e R s m args below meth c D H locs ls C hl hP hS
  exact lv_dstore C.1 C.2.1 hd hl hn rfl (fun ls' hl' => k p l e R s m args below meth c D H locs ls' C (lx_of2 (L := v0 :: v1 :: v2 :: v3 :: v4 :: v5 :: v6 :: v7 :: v8 :: v9 :: v10 :: v11 :: v12 :: v13 :: v14 :: v15 :: w :: z :: L) (i := 16) (x := .double x) (fun w _ q => by cases q; exact hc) hl') hP hS)
end Rows
section CallsD
variable {a : Nat → Nat} {mi mi' : MI} {d d' : Nat} {g : GG} {pc : Nat} {L st : List Value} {S : St} {Q : Option Value → St → Prop}
theorem j_dret {v : UInt64} (hd : decode mi.2.1 pc = .ok (.dreturn, 1)) (hr : mi.2.2.2 = some .double) (hq : Q (some (.double v)) S) : J a mi d (gm a Q) pc L [.double v] S := by
  intro p l e R s m args below meth c D H locs ls C hl hP hS
  exact W.dret C.1 C.2.1 (C.2.2.2.1.trans hr) (fun t ht hW => ⟨⟨_, S, rfl, hq, by rw [ht]; exact hP⟩, hS.F ht⟩) (fun q hq => hS.2.2 q hq) hd C.2.2.2.2.1
end CallsD

