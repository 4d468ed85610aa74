/-! the law, from behind: urns handed on, all chances -/
section Handed
variable {a : Nat → Nat} {S : St} {n b Ls : Nat} {v : Nat → Nat → Nat} {bb : Option (List Line)} {xs : Nat → Int32}

set_option maxRecDepth 20000 in
theorem law_530 {g : GG} (hR : HR a g) (hN : 61 < NC a) (hl : xl a 61 = n) (hn7 : n ≤ 7) (hg : GoodB bb) (hE : HE g a b Ls xs) (hL : Ls ≤ 260) {S : St} (h : LW0 n v bb S) : ∀ (fu : Nat) (u : Nat) (x6 : UInt64), 4 - u < fu → (1 ≤ u) → (u ≤ 4) → J a mL_law 100 g 530 [.ref b, .ref (a 0), .ref (a 61), .int (bi (hatN v n = 0)), .null, .null, .double x6, .null, .int (nI u), .null, .null, .null, .null, .null, .null, .null, .null, .null] [] S := by
  intro fu
  induction fu with
  | zero => intro u x6 hk; exact absurd hk (Nat.not_lt_zero _)
  | succ fu ih =>
    intro u x6 hk hu hu4
    refine j_ild8 dL_law_530 ?_
    refine j_iconst (4) dL_law_532 rfl ?_
    refine j_icmpge 618 dL_law_533 (by decide) (fun c_533 => ?_) (fun c_533 => ?_)
    · have q_533 : u = 4 := by have := (nI_leI (a := 4) (b := u) (by omega) (by omega)).mp c_533; omega
      subst q_533
      refine j_cut [_, _, _, _] [_, _, _, _, _, _, _, _, _, _, _, _, _, _] ?_
      exact law_618 hR hN hl hn7 hg hE hL h
    have q_533 : u < 4 := Nat.not_le.mp (fun z => c_533 ((nI_leI (a := 4) (b := u) (by omega) (by omega)).mpr z))
    have b30 : v 3 0 ≤ 9 := h.1.2.2.2 3 (by decide) 0 (by decide)
    have b40 : v 4 0 ≤ 9 := h.1.2.2.2 4 (by decide) 0 (by decide)
    have p19 : 19 ^ u ≤ 19 ^ 3 := Nat.pow_le_pow_right (by decide) (by omega)
    have hb := (hnd_b h.1.2.2.2 (i := u) (p := v 3 0) (q := v 4 0) q_533 (by omega)).1
    have wp := wpr_le h.1.2.2.2 u q_533
    have l1 := hnd_le (v := v) u (v 3 0) (v 4 0)
    have l2 := (hnd_mono (v := v) (Nat.le_refl (v 3 0)) (Nat.zero_le (v 4 0)) u).1
    have b5 : (v 3 0 + v 4 0) * wpr v u ≤ 18 * 19 ^ 3 := Nat.mul_le_mul (by omega) (Nat.le_trans wp p19)
    have d1 := dq_in (A := (hnd v u (v 3 0, v 4 0)).1) (B := (v 3 0 + v 4 0) * wpr v u) (by omega) (by omega) l1
    have d2 := dq_in (A := (hnd v u (v 3 0, 0)).1) (B := (hnd v u (v 3 0, v 4 0)).1) (by omega) (by omega) l2
    refine j_ald1 dL_law_536 ?_
    refine j_ild8 dL_law_537 ?_
    refine j_iconst (0) dL_law_539 rfl ?_
    refine j_iconst (0) dL_law_540 rfl ?_
    refine j_cV3 dL_law_541 kX7_handed lL_165 rfl (by decide) rfl (Nat.le_of_ble_eq_true rfl) (Nat.le_of_ble_eq_true rfl) (by omega) (q_hand0 h hu q_533 (Or.inl rfl)) ?_
    refine j_ald1 dL_law_544 ?_
    refine j_ild8 dL_law_545 ?_
    refine j_iconst (0) dL_law_547 rfl ?_
    refine j_iconst (1) dL_law_548 rfl ?_
    refine j_cV3 dL_law_549 kX7_handed lL_165 rfl (by decide) rfl (Nat.le_of_ble_eq_true rfl) (Nat.le_of_ble_eq_true rfl) (by omega) (q_hand0 h hu q_533 (Or.inr rfl)) ?_
    refine j_cS2 dL_law_552 kL_of zL_of (Or.inl lL_134) (Nat.le_of_ble_eq_true rfl) (Nat.le_of_ble_eq_true rfl) (by omega) (s_L_of (A := (hnd v u (v 3 0, v 4 0)).1) (B := (v 3 0 + v 4 0) * wpr v u) d1.1) ?_
    refine j_dst9 dL_law_555 rfl (by decide) ?_
    refine j_ald1 dL_law_557 ?_
    refine j_ild8 dL_law_558 ?_
    refine j_iconst (1) dL_law_560 rfl ?_
    refine j_iconst (0) dL_law_561 rfl ?_
    refine j_cV3 dL_law_562 kX7_handed lL_165 rfl (by decide) rfl (Nat.le_of_ble_eq_true rfl) (Nat.le_of_ble_eq_true rfl) (by omega) (q_hand1 h hu q_533 (Or.inl rfl)) ?_
    refine j_ald1 dL_law_565 ?_
    refine j_ild8 dL_law_566 ?_
    refine j_iconst (1) dL_law_568 rfl ?_
    refine j_iconst (1) dL_law_569 rfl ?_
    refine j_cV3 dL_law_570 kX7_handed lL_165 rfl (by decide) rfl (Nat.le_of_ble_eq_true rfl) (Nat.le_of_ble_eq_true rfl) (by omega) (q_hand1 h hu q_533 (Or.inr rfl)) ?_
    refine j_cS2 dL_law_573 kL_of zL_of (Or.inl lL_134) (Nat.le_of_ble_eq_true rfl) (Nat.le_of_ble_eq_true rfl) (by omega) (s_L_of (A := (hnd v u (v 3 0, 0)).1) (B := (hnd v u (v 3 0, v 4 0)).1) d2.1) ?_
    refine j_dst11 dL_law_576 rfl (by decide) ?_
    refine j_dld9 dL_law_578 ?_
    refine j_dconst0 dL_law_580 ?_
    refine j_dcmp dL_law_581 (d1.1) (d0_DF.1) ?_
    refine j_iflt 606 dL_law_582 (by decide) (fun c_582 => absurd c_582 (fun z => absurd (cz_lt.mp z) (by rw [d0_DF.2]; exact Int.not_lt.mpr d1.2.1))) (fun c_582 => ?_)
    refine j_dld9 dL_law_585 ?_
    refine j_dconst1 dL_law_587 ?_
    refine j_dcmp dL_law_588 (d1.1) (d1_DF.1) ?_
    refine j_ifgt 606 dL_law_589 (by decide) (fun c_589 => absurd c_589 (fun z => absurd (cz_gt.mp z) (by rw [d1_DF.2]; exact Int.not_lt.mpr d1.2.2.1))) (fun c_589 => ?_)
    refine j_dld11 dL_law_592 ?_
    refine j_dconst0 dL_law_594 ?_
    refine j_dcmp dL_law_595 (d2.1) (d0_DF.1) ?_
    refine j_iflt 606 dL_law_596 (by decide) (fun c_596 => absurd c_596 (fun z => absurd (cz_lt.mp z) (by rw [d0_DF.2]; exact Int.not_lt.mpr d2.2.1))) (fun c_596 => ?_)
    refine j_dld11 dL_law_599 ?_
    refine j_dconst1 dL_law_601 ?_
    refine j_dcmp dL_law_602 (d2.1) (d1_DF.1) ?_
    refine j_ifle 608 dL_law_603 (by decide) (fun c_603 => ?_) (fun c_603 => absurd (Int32.not_lt.mp (fun z => absurd (cz_gt.mp z) (by rw [d1_DF.2]; exact Int.not_lt.mpr d2.2.2.1))) c_603)
    refine j_dld11 dL_law_608 ?_
    refine j_dst6 dL_law_610 rfl (by decide) ?_
    refine j_iinc8 (nI (u + 1)) dL_law_612 (nI_1 u) rfl (by decide) ?_
    refine j_goto 530 dL_law_615 (by decide) ?_
    refine j_cut [_, _, _, _, _, _, _, _, _] [_, _, _, _, _, _, _, _, _] ?_
    exact ih (u + 1) _ (by omega) (by omega) (by omega)

theorem law_524 {g : GG} (hR : HR a g) (hN : 61 < NC a) (hl : xl a 61 = n) (hn7 : n ≤ 7) (hg : GoodB bb) (hE : HE g a b Ls xs) (hL : Ls ≤ 260) {S : St} (h : LW0 n v bb S) : J a mL_law 100 g 524 [.ref b, .ref (a 0), .ref (a 61), .int (bi (hatN v n = 0)), .null, .null, .null, .null, .null, .null, .null, .null, .null, .null, .null, .null, .null, .null] [] S := by
  refine j_dconst0 dL_law_524 ?_
  refine j_dst6 dL_law_525 rfl (by decide) ?_
  refine j_iconst (1) dL_law_527 rfl ?_
  refine j_ist8 dL_law_528 rfl (by decide) ?_
  exact law_530 hR hN hl hn7 hg hE hL h 4 1 _ (by decide) (by decide) (by decide)

/-- all chances are one -/
def AllOk (n : Nat) (v : Nat → Nat → Nat) (x : UInt64) : Prop := DF x ∧ (hatN v n = 0 → zv x = 0) ∧ (0 < hatN v n → zv x ≤ oneU + 1000 * uu ∧ oneU ≤ zv x + 1000 * uu)
theorem law_500 {g : GG} (hR : HR a g) (hN : 61 < NC a) (hl : xl a 61 = n) (hn7 : n ≤ 7) (hg : GoodB bb) (hE : HE g a b Ls xs) (hL : Ls ≤ 260) {S : St} {x : UInt64} (hx : AllOk n v x) (h : LW0 n v bb S) : J a mL_law 100 g 500 [.ref b, .ref (a 0), .ref (a 61), .int (bi (hatN v n = 0)), .double x, .null, .null, .null, .null, .null, .null, .null, .null, .null, .null, .null, .null, .null] [] S := by
  refine j_ild3 dL_law_500 ?_
  refine j_ifeqB 514 dL_law_501 (by decide) (fun c_501 => ?_) (fun c_501 => ?_)
  · refine j_dld4 dL_law_514 ?_
    refine j_cS1 dL_law_516 kL_isOne zL_isOne (Or.inl lL_141) (Nat.le_of_ble_eq_true rfl) (Nat.le_of_ble_eq_true rfl) (by omega) (s_L_isOne hx.1 (hx.2.2 (Nat.pos_of_ne_zero c_501)).1 (hx.2.2 (Nat.pos_of_ne_zero c_501)).2) ?_
    refine j_ifne 524 dL_law_519 (by decide) (fun c_519 => ?_) (fun c_519 => absurd (by decide) c_519)
    refine j_cut [_, _, _, _] [_, _, _, _, _, _, _, _, _, _, _, _, _, _] ?_
    exact law_524 hR hN hl hn7 hg hE hL h
  refine j_dld4 dL_law_504 ?_
  refine j_dconst0 dL_law_506 ?_
  refine j_dcmp dL_law_507 (hx.1) (d0_DF.1) ?_
  refine j_ifeq 524 dL_law_508 (by decide) (fun c_508 => ?_) (fun c_508 => absurd (cz_eq.mpr (by rw [d0_DF.2]; exact hx.2.1 c_501)) c_508)
  refine j_cut [_, _, _, _] [_, _, _, _, _, _, _, _, _, _, _, _, _, _] ?_
  exact law_524 hR hN hl hn7 hg hE hL h

end Handed
