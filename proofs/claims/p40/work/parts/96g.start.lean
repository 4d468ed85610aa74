/-! what the start gives: classes, arrays, statics -/
section StartF
variable {s : State} {args : Array Value}
theorem tb_at (hts : ∀ w ∈ lw_tbl, w.before args s = true) {w : Cond} (i : Nat) (h : tables_1[i]? = some w) : w.before args s = true := hts w (List.mem_append_right _ (List.mem_of_getElem? h))
theorem TT_sub (hts : ∀ w ∈ lw_tbl, w.before args s = true) : ∀ w ∈ TT, w.before args s = true := fun w hw => hts w (List.mem_filter.mp hw).1
theorem NW_start (hts : ∀ w ∈ lw_tbl, w.before args s = true) : ∀ w ∈ NW, va_Nw w s := fun w hw => by
  have h1 := (List.mem_filter.mp hw).2
  have h2 := hts w (List.mem_append_right _ (List.mem_filter.mp hw).1)
  cases w with
  | fieldLinkNest a i b n d e => exact va_Nw.of rfl h2
  | methodLinkNest a i x e => exact va_Nw.of rfl h2
  | _ => cases h1
theorem Aos_start (hts : ∀ w ∈ lw_tbl, w.before args s = true) : Aos s := ⟨va_AO.of (tb_at hts 213 (by decide +kernel)), (tb_at hts 28 (by decide +kernel) : (Cond.arrayOver (.array .int)).before args s = true)⟩
theorem arr_start {ty : FieldType} (h : (Cond.arrayClass ty).before args s = true) : ∃ c, ArrOfT s c ty ∧ s.vm.findClass ("[" ++ ty.toString) = some c := by
  obtain ⟨c, k, comp, h1, h2, h3⟩ := Cond.arrayClass_spec h
  exact ⟨c, fun n z => ⟨fun k h => (by cases h), k, h2, comp, h3⟩, h1⟩
theorem st_0 (hts : ∀ w ∈ lw_tbl, w.before args s = true) (hg : (Jvm.Cond.and given_1 narrow_1).before args s = true) {F : Nat → Prop} (hA : ∀ a : Nat, a < s.heap.size → ¬ F a) : ∃ t, va_Z "OtherSide$Things" "NUMBERS" "[I" (.ref t) F s s.heap ∧ va_T .int t 12 (fun j => .int (([8, 8, 8, 4, 4, 4, 4, 4, 6, 1, 1, 3] : List Int32).getD j 0)) F s s.heap := by
  have hs := flat_of_before _ hg
  obtain ⟨t, h1, h2⟩ := va_Tof (args := args) (s := s) (tm := (Term.static "OtherSide$Things" "NUMBERS" "[I")) (ty := .int) (N := 12) (f := fun j => .int (([8, 8, 8, 4, 4, 4, 4, 4, 6, 1, 1, 3] : List Int32).getD j 0)) (A := F) (by decide) (hs _ (by decide +kernel)) (va_eqt (hs (Cond.eq (Term.length (Term.static "OtherSide$Things" "NUMBERS" "[I")) (Term.int (12 : Int32))) (by decide +kernel))) (fun j hj => match j, hj with
    | 0, _ => va_eqt (hs (Cond.eq (Term.elem (Term.static "OtherSide$Things" "NUMBERS" "[I") (Term.int (0 : Int32))) (Term.int (8 : Int32))) (by decide +kernel))
    | 1, _ => va_eqt (hs (Cond.eq (Term.elem (Term.static "OtherSide$Things" "NUMBERS" "[I") (Term.int (1 : Int32))) (Term.int (8 : Int32))) (by decide +kernel))
    | 2, _ => va_eqt (hs (Cond.eq (Term.elem (Term.static "OtherSide$Things" "NUMBERS" "[I") (Term.int (2 : Int32))) (Term.int (8 : Int32))) (by decide +kernel))
    | 3, _ => va_eqt (hs (Cond.eq (Term.elem (Term.static "OtherSide$Things" "NUMBERS" "[I") (Term.int (3 : Int32))) (Term.int (4 : Int32))) (by decide +kernel))
    | 4, _ => va_eqt (hs (Cond.eq (Term.elem (Term.static "OtherSide$Things" "NUMBERS" "[I") (Term.int (4 : Int32))) (Term.int (4 : Int32))) (by decide +kernel))
    | 5, _ => va_eqt (hs (Cond.eq (Term.elem (Term.static "OtherSide$Things" "NUMBERS" "[I") (Term.int (5 : Int32))) (Term.int (4 : Int32))) (by decide +kernel))
    | 6, _ => va_eqt (hs (Cond.eq (Term.elem (Term.static "OtherSide$Things" "NUMBERS" "[I") (Term.int (6 : Int32))) (Term.int (4 : Int32))) (by decide +kernel))
    | 7, _ => va_eqt (hs (Cond.eq (Term.elem (Term.static "OtherSide$Things" "NUMBERS" "[I") (Term.int (7 : Int32))) (Term.int (4 : Int32))) (by decide +kernel))
    | 8, _ => va_eqt (hs (Cond.eq (Term.elem (Term.static "OtherSide$Things" "NUMBERS" "[I") (Term.int (8 : Int32))) (Term.int (6 : Int32))) (by decide +kernel))
    | 9, _ => va_eqt (hs (Cond.eq (Term.elem (Term.static "OtherSide$Things" "NUMBERS" "[I") (Term.int (9 : Int32))) (Term.int (1 : Int32))) (by decide +kernel))
    | 10, _ => va_eqt (hs (Cond.eq (Term.elem (Term.static "OtherSide$Things" "NUMBERS" "[I") (Term.int (10 : Int32))) (Term.int (1 : Int32))) (by decide +kernel))
    | 11, _ => va_eqt (hs (Cond.eq (Term.elem (Term.static "OtherSide$Things" "NUMBERS" "[I") (Term.int (11 : Int32))) (Term.int (3 : Int32))) (by decide +kernel))
    | k + 12, h => absurd h (by omega)) hA
  exact ⟨t, va_Zof (tb_at hts 30 (by decide +kernel)) (tb_at hts 2 (by decide +kernel)) h1 hA, h2⟩
theorem st_1 (hts : ∀ w ∈ lw_tbl, w.before args s = true) (hg : (Jvm.Cond.and given_1 narrow_1).before args s = true) {F : Nat → Prop} (hA : ∀ a : Nat, a < s.heap.size → ¬ F a) : ∃ t, va_Z "OtherSide$Things" "MOST" "[I" (.ref t) F s s.heap ∧ va_T .int t 12 (fun j => .int (([9, 5, 5, 9, 9, 12, 12, 99, 12, 99, 12, 12] : List Int32).getD j 0)) F s s.heap := by
  have hs := flat_of_before _ hg
  obtain ⟨t, h1, h2⟩ := va_Tof (args := args) (s := s) (tm := (Term.static "OtherSide$Things" "MOST" "[I")) (ty := .int) (N := 12) (f := fun j => .int (([9, 5, 5, 9, 9, 12, 12, 99, 12, 99, 12, 12] : List Int32).getD j 0)) (A := F) (by decide) (hs _ (by decide +kernel)) (va_eqt (hs (Cond.eq (Term.length (Term.static "OtherSide$Things" "MOST" "[I")) (Term.int (12 : Int32))) (by decide +kernel))) (fun j hj => match j, hj with
    | 0, _ => va_eqt (hs (Cond.eq (Term.elem (Term.static "OtherSide$Things" "MOST" "[I") (Term.int (0 : Int32))) (Term.int (9 : Int32))) (by decide +kernel))
    | 1, _ => va_eqt (hs (Cond.eq (Term.elem (Term.static "OtherSide$Things" "MOST" "[I") (Term.int (1 : Int32))) (Term.int (5 : Int32))) (by decide +kernel))
    | 2, _ => va_eqt (hs (Cond.eq (Term.elem (Term.static "OtherSide$Things" "MOST" "[I") (Term.int (2 : Int32))) (Term.int (5 : Int32))) (by decide +kernel))
    | 3, _ => va_eqt (hs (Cond.eq (Term.elem (Term.static "OtherSide$Things" "MOST" "[I") (Term.int (3 : Int32))) (Term.int (9 : Int32))) (by decide +kernel))
    | 4, _ => va_eqt (hs (Cond.eq (Term.elem (Term.static "OtherSide$Things" "MOST" "[I") (Term.int (4 : Int32))) (Term.int (9 : Int32))) (by decide +kernel))
    | 5, _ => va_eqt (hs (Cond.eq (Term.elem (Term.static "OtherSide$Things" "MOST" "[I") (Term.int (5 : Int32))) (Term.int (12 : Int32))) (by decide +kernel))
    | 6, _ => va_eqt (hs (Cond.eq (Term.elem (Term.static "OtherSide$Things" "MOST" "[I") (Term.int (6 : Int32))) (Term.int (12 : Int32))) (by decide +kernel))
    | 7, _ => va_eqt (hs (Cond.eq (Term.elem (Term.static "OtherSide$Things" "MOST" "[I") (Term.int (7 : Int32))) (Term.int (99 : Int32))) (by decide +kernel))
    | 8, _ => va_eqt (hs (Cond.eq (Term.elem (Term.static "OtherSide$Things" "MOST" "[I") (Term.int (8 : Int32))) (Term.int (12 : Int32))) (by decide +kernel))
    | 9, _ => va_eqt (hs (Cond.eq (Term.elem (Term.static "OtherSide$Things" "MOST" "[I") (Term.int (9 : Int32))) (Term.int (99 : Int32))) (by decide +kernel))
    | 10, _ => va_eqt (hs (Cond.eq (Term.elem (Term.static "OtherSide$Things" "MOST" "[I") (Term.int (10 : Int32))) (Term.int (12 : Int32))) (by decide +kernel))
    | 11, _ => va_eqt (hs (Cond.eq (Term.elem (Term.static "OtherSide$Things" "MOST" "[I") (Term.int (11 : Int32))) (Term.int (12 : Int32))) (by decide +kernel))
    | k + 12, h => absurd h (by omega)) hA
  exact ⟨t, va_Zof (tb_at hts 281 (by decide +kernel)) (tb_at hts 2 (by decide +kernel)) h1 hA, h2⟩
theorem st_2 (hts : ∀ w ∈ lw_tbl, w.before args s = true) (hg : (Jvm.Cond.and given_1 narrow_1).before args s = true) {F : Nat → Prop} (hA : ∀ a : Nat, a < s.heap.size → ¬ F a) : ∃ t, va_Z "OtherSide$Things" "AT_FIRST" "[I" (.ref t) F s s.heap ∧ va_T .int t 12 (fun j => .int (([0, 0, 0, 1, 1, 9, 9, 10, 3, 10, 2, 4] : List Int32).getD j 0)) F s s.heap := by
  have hs := flat_of_before _ hg
  obtain ⟨t, h1, h2⟩ := va_Tof (args := args) (s := s) (tm := (Term.static "OtherSide$Things" "AT_FIRST" "[I")) (ty := .int) (N := 12) (f := fun j => .int (([0, 0, 0, 1, 1, 9, 9, 10, 3, 10, 2, 4] : List Int32).getD j 0)) (A := F) (by decide) (hs _ (by decide +kernel)) (va_eqt (hs (Cond.eq (Term.length (Term.static "OtherSide$Things" "AT_FIRST" "[I")) (Term.int (12 : Int32))) (by decide +kernel))) (fun j hj => match j, hj with
    | 0, _ => va_eqt (hs (Cond.eq (Term.elem (Term.static "OtherSide$Things" "AT_FIRST" "[I") (Term.int (0 : Int32))) (Term.int (0 : Int32))) (by decide +kernel))
    | 1, _ => va_eqt (hs (Cond.eq (Term.elem (Term.static "OtherSide$Things" "AT_FIRST" "[I") (Term.int (1 : Int32))) (Term.int (0 : Int32))) (by decide +kernel))
    | 2, _ => va_eqt (hs (Cond.eq (Term.elem (Term.static "OtherSide$Things" "AT_FIRST" "[I") (Term.int (2 : Int32))) (Term.int (0 : Int32))) (by decide +kernel))
    | 3, _ => va_eqt (hs (Cond.eq (Term.elem (Term.static "OtherSide$Things" "AT_FIRST" "[I") (Term.int (3 : Int32))) (Term.int (1 : Int32))) (by decide +kernel))
    | 4, _ => va_eqt (hs (Cond.eq (Term.elem (Term.static "OtherSide$Things" "AT_FIRST" "[I") (Term.int (4 : Int32))) (Term.int (1 : Int32))) (by decide +kernel))
    | 5, _ => va_eqt (hs (Cond.eq (Term.elem (Term.static "OtherSide$Things" "AT_FIRST" "[I") (Term.int (5 : Int32))) (Term.int (9 : Int32))) (by decide +kernel))
    | 6, _ => va_eqt (hs (Cond.eq (Term.elem (Term.static "OtherSide$Things" "AT_FIRST" "[I") (Term.int (6 : Int32))) (Term.int (9 : Int32))) (by decide +kernel))
    | 7, _ => va_eqt (hs (Cond.eq (Term.elem (Term.static "OtherSide$Things" "AT_FIRST" "[I") (Term.int (7 : Int32))) (Term.int (10 : Int32))) (by decide +kernel))
    | 8, _ => va_eqt (hs (Cond.eq (Term.elem (Term.static "OtherSide$Things" "AT_FIRST" "[I") (Term.int (8 : Int32))) (Term.int (3 : Int32))) (by decide +kernel))
    | 9, _ => va_eqt (hs (Cond.eq (Term.elem (Term.static "OtherSide$Things" "AT_FIRST" "[I") (Term.int (9 : Int32))) (Term.int (10 : Int32))) (by decide +kernel))
    | 10, _ => va_eqt (hs (Cond.eq (Term.elem (Term.static "OtherSide$Things" "AT_FIRST" "[I") (Term.int (10 : Int32))) (Term.int (2 : Int32))) (by decide +kernel))
    | 11, _ => va_eqt (hs (Cond.eq (Term.elem (Term.static "OtherSide$Things" "AT_FIRST" "[I") (Term.int (11 : Int32))) (Term.int (4 : Int32))) (by decide +kernel))
    | k + 12, h => absurd h (by omega)) hA
  exact ⟨t, va_Zof (tb_at hts 32 (by decide +kernel)) (tb_at hts 2 (by decide +kernel)) h1 hA, h2⟩
theorem st_3 (hts : ∀ w ∈ lw_tbl, w.before args s = true) (hg : (Jvm.Cond.and given_1 narrow_1).before args s = true) {F : Nat → Prop} (hA : ∀ a : Nat, a < s.heap.size → ¬ F a) : ∃ t, va_Z "OtherSideLaw" "FIRST" "[I" (.ref t) F s s.heap ∧ va_T .int t 6 (fun j => .int (([1, 1, 9, 9, 10, 3] : List Int32).getD j 0)) F s s.heap := by
  have hs := flat_of_before _ hg
  obtain ⟨t, h1, h2⟩ := va_Tof (args := args) (s := s) (tm := (Term.static "OtherSideLaw" "FIRST" "[I")) (ty := .int) (N := 6) (f := fun j => .int (([1, 1, 9, 9, 10, 3] : List Int32).getD j 0)) (A := F) (by decide) (hs _ (by decide +kernel)) (va_eqt (hs (Cond.eq (Term.length (Term.static "OtherSideLaw" "FIRST" "[I")) (Term.int (6 : Int32))) (by decide +kernel))) (fun j hj => match j, hj with
    | 0, _ => va_eqt (hs (Cond.eq (Term.elem (Term.static "OtherSideLaw" "FIRST" "[I") (Term.int (0 : Int32))) (Term.int (1 : Int32))) (by decide +kernel))
    | 1, _ => va_eqt (hs (Cond.eq (Term.elem (Term.static "OtherSideLaw" "FIRST" "[I") (Term.int (1 : Int32))) (Term.int (1 : Int32))) (by decide +kernel))
    | 2, _ => va_eqt (hs (Cond.eq (Term.elem (Term.static "OtherSideLaw" "FIRST" "[I") (Term.int (2 : Int32))) (Term.int (9 : Int32))) (by decide +kernel))
    | 3, _ => va_eqt (hs (Cond.eq (Term.elem (Term.static "OtherSideLaw" "FIRST" "[I") (Term.int (3 : Int32))) (Term.int (9 : Int32))) (by decide +kernel))
    | 4, _ => va_eqt (hs (Cond.eq (Term.elem (Term.static "OtherSideLaw" "FIRST" "[I") (Term.int (4 : Int32))) (Term.int (10 : Int32))) (by decide +kernel))
    | 5, _ => va_eqt (hs (Cond.eq (Term.elem (Term.static "OtherSideLaw" "FIRST" "[I") (Term.int (5 : Int32))) (Term.int (3 : Int32))) (by decide +kernel))
    | k + 6, h => absurd h (by omega)) hA
  exact ⟨t, va_Zof (tb_at hts 693 (by decide +kernel)) (tb_at hts 0 (by decide +kernel)) h1 hA, h2⟩
theorem st_start (hts : ∀ w ∈ lw_tbl, w.before args s = true) (hg : (Jvm.Cond.and given_1 narrow_1).before args s = true) {F : Nat → Prop} (hA : ∀ a : Nat, a < s.heap.size → ¬ F a) : ∃ z, StatK F z s s.heap := by
  obtain ⟨t0, z0, a0⟩ := st_0 hts hg hA
  obtain ⟨t1, z1, a1⟩ := st_1 hts hg hA
  obtain ⟨t2, z2, a2⟩ := st_2 hts hg hA
  obtain ⟨t3, z3, a3⟩ := st_3 hts hg hA
  refine ⟨fun i => [t0, t1, t2, t3].getD i 0, fun i C n L hz => ?_⟩
  match i, hz with
  | 0, hz => cases hz; exact ⟨z0, a0⟩
  | 1, hz => cases hz; exact ⟨z1, a1⟩
  | 2, hz => cases hz; exact ⟨z2, a2⟩
  | 3, hz => cases hz; exact ⟨z3, a3⟩
  | k + 4, hz => simp [zz_st] at hz
theorem K_start (hts : ∀ w ∈ lw_tbl, w.before args s = true) : ∃ D : DD, va_K D.1 zz_Cl (zz_tys D) s := by
  have ht := TT_sub hts
  obtain ⟨c0, i0, k0'⟩ := u_known (C := RX0) (T := TX0) (N := 6) (n := 6) ht wX0 (ht _ (TT_at 190 (by decide +kernel) rfl))
  obtain ⟨c1, i1, k1'⟩ := u_known (C := RX1) (T := TX1) (N := 9) (n := 9) ht wX1 (ht _ (TT_at 153 (by decide +kernel) rfl))
  obtain ⟨c2, i2, k2'⟩ := u_known (C := RX2) (T := TX2) (N := 15) (n := 15) ht wX2 (ht _ (TT_at 71 (by decide +kernel) rfl))
  obtain ⟨c3, i3, k3'⟩ := u_known (C := RX3) (T := TX3) (N := 3) (n := 3) ht wX3 (ht _ (TT_at 135 (by decide +kernel) rfl))
  obtain ⟨c4, i4, k4'⟩ := u_known (C := RX4) (T := TX4) (N := 5) (n := 5) ht wX4 (ht _ (TT_at 214 (by decide +kernel) rfl))
  obtain ⟨c5, i5, k5'⟩ := u_known (C := RX5) (T := TX5) (N := 1) (n := 1) ht wX5 (ht _ (TT_at 123 (by decide +kernel) rfl))
  obtain ⟨c6, i6, k6'⟩ := u_known (C := RX6) (T := TX6) (N := 9) (n := 9) ht wX6 (ht _ (TT_at 22 (by decide +kernel) rfl))
  obtain ⟨c7, i7, k7'⟩ := u_known (C := RX7) (T := TX7) (N := 9) (n := 9) ht wX7 (ht _ (TT_at 14 (by decide +kernel) rfl))
  obtain ⟨a0, x0, y0⟩ := arr_start (tb_at hts 69 (by decide +kernel) : (Cond.arrayClass .int).before args s = true)
  obtain ⟨a3, x3, y3⟩ := arr_start (tb_at hts 240 (by decide +kernel) : (Cond.arrayClass .long).before args s = true)
  obtain ⟨cp4, a4, k4, f41, f42, f43, f44, f45⟩ := Cond.arrayOver_spec (tb_at hts 213 (by decide +kernel) : (Cond.arrayOver (.object "OtherSide$Shelf")).before args s = true)
  obtain ⟨cp5, a5, k5, f51, f52, f53, f54, f55⟩ := arrayOverA_spec (tb_at hts 28 (by decide +kernel) : (Cond.arrayOver (.array .int)).before args s = true)
  refine ⟨((fun k => [c0, c1, c2, c3, c4, c5, c6, c7].getD k c0, fun k => [i0, i1, i2, i3, i4, i5, i6, i7].getD k i0), fun k => [a0, a0, a0, a3, a4, a5].getD k a0), fun c q hq => ?_, fun k q hq => ?_⟩
  · match c, hq with
    | 0, hq => cases hq; exact k0'
    | 1, hq => cases hq; exact k1'
    | 2, hq => cases hq; exact k2'
    | 3, hq => cases hq; exact k3'
    | 4, hq => cases hq; exact k4'
    | 5, hq => cases hq; exact k5'
    | 6, hq => cases hq; exact k6'
    | 7, hq => cases hq; exact k7'
    | c + 8, hq => simp [zz_Cl] at hq
  · match k, hq with
    | 0, hq => cases hq; exact ⟨x0, y0⟩
    | 1, hq => cases hq; exact ⟨x0, y0⟩
    | 2, hq => cases hq; exact ⟨x0, y0⟩
    | 3, hq => cases hq; exact ⟨x3, y3⟩
    | 4, hq => cases hq; exact ⟨fun n z => ⟨fun k h => (by cases h), k4, f43, cp4, f44⟩, k4, cp4, f43, f44, f41, f45⟩
    | 5, hq => cases hq; exact ⟨fun n z => ⟨fun k h => (by cases h), k5, f53, cp5, f54⟩, f55⟩
    | k + 6, hq => simp [zz_tys] at hq
end StartF
