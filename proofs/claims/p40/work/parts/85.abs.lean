/-! Math.abs of a number -/
theorem t_abs_c : Cond.code yJ9_abs_294c1 cJ9_abs_294c1 2 (some .double) ∈ TT := TT_at 702 (by decide +kernel) rfl
theorem t_abs_s : Cond.static yJ9_abs_294c1 ∈ TT := TT_at 701 (by decide +kernel) rfl
section AbsRow
variable {a : Nat → Nat} {mi : MI} {d : Nat} {g : GG} {pc : Nat} {L st : List Value} {S : St}
theorem j_absD {idx : Nat} {x : UInt64} (hx : DF x) (hd : decode mi.2.1 pc = .ok (.invokestatic idx, 3)) (hl : Cond.methodLink mi.1.cls idx yJ9_abs_294c1 ∈ TT) (hst : st.length ≤ 4) (hdd : 1 ≤ d) (kk : J a mi d g (pc + 3) L (.double (x &&& 0x7fffffffffffffff) :: st) S) : J a mi d g pc L (.double x :: st) S := by
  sorry
end AbsRow
