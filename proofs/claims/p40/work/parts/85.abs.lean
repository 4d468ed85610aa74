/-! Math.abs of a number: the machine runs its own row for it -/
theorem t_abs_c : Cond.code yJ9_abs_294c1 cJ9_abs_294c1 2 (some .double) ∈ TT := TT_at 702 (by decide +kernel) rfl
theorem t_abs_s : Cond.static yJ9_abs_294c1 ∈ TT := TT_at 701 (by decide +kernel) rfl
theorem ab_nn {x : UInt64} (h : DF x) : x &&& 0x7fffffffffffffff ≤ 0x7ff0000000000000 := by
  have h1 : ¬ FP.dIsNaN x = true := fun z => h.ne_nan ((FP.Core.dIsNaN_iff x).mp z)
  rw [FP.Core.isNaN_bits] at h1
  rw [UInt64.le_iff_toNat_le, UInt64.toNat_and]
  have e1 : (0x7fffffffffffffff : UInt64).toNat = 2 ^ 63 - 1 := rfl
  have e2 : (0x7ff0000000000000 : UInt64).toNat = 9218868437227405312 := rfl
  rw [e1, e2, Nat.and_two_pow_sub_one_eq_mod]
  omega
set_option maxRecDepth 100000 in
/-- the row that stands for it -/
theorem ab_row (p : Program) : ∃ r : NativeRow, NativeRow.find? p.tables.natives "java/lang/Math" "abs" "(D)D" = some r ∧ ∀ a : UInt64, r.sem #[.double a] = (do
    let b ← anyNaN64 (a &&& 0x7fffffffffffffff)
    mark "nat.java_lang_Math.abs"
    Pure.pure (some (.double b))) := by
  cases p <;> exact ⟨_, rfl, fun _ => rfl⟩
/-- of a number: nothing drawn, nothing changed -/
theorem ab_sem {r : NativeRow} {x : UInt64} (hr : ∀ a : UInt64, r.sem #[.double a] = (do
    let b ← anyNaN64 (a &&& 0x7fffffffffffffff)
    mark "nat.java_lang_Math.abs"
    Pure.pure (some (.double b)))) (hx : DF x) (e : Env) (U : State) : ∃ k, (r.sem #[.double x]).run e U = .ok (some (.double (x &&& 0x7fffffffffffffff))) U k := by
  have hm : (x &&& 0x7fffffffffffffff) &&& 0x7fffffffffffffff ≤ 0x7ff0000000000000 := ab_nn (abs_DF hx).1
  rw [hr x]
  unfold anyNaN64
  rw [if_pos hm]
  exact ⟨_, rfl⟩
