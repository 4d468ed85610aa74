/-! drawings: the reference's lots -/
section DrawR
variable {a : Nat → Nat} {S : St} {n : Nat} {v : Nat → Nat → Nat} {b : Option (List Line)}
theorem WRq.kp {S1 : St} {rs : List Nat} (hw : WRq v b n S) (hk : Kp rs S S1) (hr : 18 ∉ rs) : WRq v b n S1 := fun i hi => by
  rw [hk.i (show rg 86 _ ∉ rs from hr), hk.i (show rg 86 _ ∉ rs from hr)]; exact hw i hi
/-- what a drawing shows: ten times the colour, and the other one -/
def shwN (v : Nat → Nat → Nat) (b : Option (List Line)) (n : Nat) (s : Int32) : Nat := 10 * v (1 + dsd v b (dcd v n s) (rnd s)) (dcd v n s) + v (2 - dsd v b (dcd v n s) (rnd s)) (dcd v n s)

set_option maxRecDepth 20000 in
theorem s_X8_drawOne {m : Nat} (hm : 1 ≤ m) (hm2 : m < 2 ^ 31) : Rt a mX8_drawOne 0 [.ref (a 61), .int (nI m)] S (some (.int (nI (upr (rnd (S.1 61 43)) % m)))) (uI S 61 43 (rnd (S.1 61 43))) := by
  have hu := upr_lt (rnd (S.1 61 43))
  show J _ _ _ _ 0 [_, _] [] _
  refine j_ald0 dX8_drawOne_0 ?_
  refine j_ald0 dX8_drawOne_1 ?_
  refine j_getI (k := 43) dX8_drawOne_2 cX8_ok (Or.inl f8_341) rfl (by decide) (by decide) (by decide) ?_
  refine j_ldc_w (v := 1103515245) dX8_drawOne_5 q8_344 ?_
  refine j_imul dX8_drawOne_8 ?_
  refine j_sipush (12345) dX8_drawOne_9 rfl ?_
  refine j_iadd dX8_drawOne_12 ?_
  refine j_top (y := rnd (S.1 61 43)) (rfl) ?_
  refine j_putI (k := 43) dX8_drawOne_13 cX8_ok (Or.inl f8_341) rfl (by decide) (by decide) (by decide) rfl ?_
  refine j_ald0 dX8_drawOne_16 ?_
  refine j_getI (k := 43) dX8_drawOne_17 cX8_ok (Or.inl f8_341) rfl (by decide) (by decide) (by decide) ?_
  refine j_top (y := rnd (S.1 61 43)) (by simp [uI_at]) ?_
  refine j_bipush (8) dX8_drawOne_20 rfl ?_
  refine j_iushr dX8_drawOne_22 ?_
  refine j_top (y := nI (upr (rnd (S.1 61 43)))) (rn_u _) ?_
  refine j_ild1 dX8_drawOne_23 ?_
  refine j_irem dX8_drawOne_24 (nI_ne0 (by omega) (by omega)) ?_
  refine j_top (y := nI (upr (rnd (S.1 61 43)) % m)) (by exact pk_rem (a := upr (rnd (S.1 61 43))) (d := m) (by omega) (by omega) (by omega)) ?_
  refine j_iret dX8_drawOne_25 rfl ?_
  exact ⟨rfl, rfl⟩

set_option maxRecDepth 20000 in
theorem lp_X8_show {g : GG} (h : TR n v S) {L c : Nat} (hL : L < sumN (v 0) n) (kk : ∀ l, J a mX8_show 2 g 36 [.ref (a 61), .int l, .int (nI c)] [] S) : ∀ (fu : Nat) (m i : Nat) (l : Int32), m + 1 < fu → (i + m = n) → (sumN (v 0) i ≤ L) → (l = nI (L - sumN (v 0) i)) → (pkN (v 0) L m i = c) → J a mX8_show 2 g 11 [.ref (a 61), .int l, .int (nI i)] [] S := by
  intro fu
  induction fu with
  | zero => intro m i l hk; exact absurd hk (Nat.not_lt_zero _)
  | succ fu ih =>
    intro m i l hk hm hs hl hc
    have hn8 := h.2.1
    rcases Nat.eq_zero_or_pos m with z | z
    · subst z; rw [Nat.add_zero] at hm; subst hm; omega
    obtain ⟨m, rfl⟩ : ∃ q, m = q + 1 := ⟨m - 1, by omega⟩
    have hsn := h.sum hn8
    have h9 := h.2.2.2 0 (by decide) i (by omega)
    rw [show mostN 0 = 9 from rfl] at h9
    have e1 : sumN (v 0) (i + 1) = sumN (v 0) i + v 0 i := rfl
    refine j_ild1 dX8_show_11 ?_
    refine j_ald0 dX8_show_12 ?_
    refine j_getR (k := 2) (62) dX8_show_13 cX8_ok (Or.inl f8_9) rfl (by decide) (by decide) (by decide) rfl ?_
    refine j_ild2 dX8_show_16 ?_
    refine j_iald (n := i) dX8_show_17 rfl (by decide) rfl (by omega) (by decide) ?_
    refine j_top (y := nI (v 0 i)) (h.many (by omega)) ?_
    refine j_icmplt 36 dX8_show_18 (by decide) (fun c_18 => ?_) (fun c_18 => ?_)
    · rw [hl] at c_18
      have q_18 : L - sumN (v 0) i < v 0 i := (nI_ltI (by omega) (by omega)).mp c_18
      rw [pkN, if_pos (by omega)] at hc
      subst hc
      exact kk _
    rw [hl] at c_18
    have q_18 : v 0 i ≤ L - sumN (v 0) i := Nat.not_lt.mp (fun z => c_18 ((nI_ltI (by omega) (by omega)).mpr z))
    refine j_ild1 dX8_show_21 ?_
    refine j_ald0 dX8_show_22 ?_
    refine j_getR (k := 2) (62) dX8_show_23 cX8_ok (Or.inl f8_9) rfl (by decide) (by decide) (by decide) rfl ?_
    refine j_ild2 dX8_show_26 ?_
    refine j_iald (n := i) dX8_show_27 rfl (by decide) rfl (by omega) (by decide) ?_
    refine j_top (y := nI (v 0 i)) (h.many (by omega)) ?_
    refine j_isub dX8_show_28 ?_
    refine j_ist1 dX8_show_29 rfl (by decide) ?_
    refine j_iinc2 (nI (i + 1)) dX8_show_30 (nI_1 i) rfl (by decide) ?_
    refine j_goto 11 dX8_show_33 (by decide) ?_
    exact ih m (i + 1) _ (by omega) (by omega) (by omega) (by rw [hl, pk_sub q_18, e1, Nat.sub_add_eq]) (by rw [pkN, if_neg (by omega)] at hc; exact hc)

set_option maxRecDepth 20000 in
theorem sh_36 {S1 : St} {l : Int32} {c : Nat} (hkp : Kp [14] S S1) (h : TR n v S) (hw : WRq v b n S) (hcn : c < n) : J a mX8_show 2 (gm a fun r S' => ∃ z, r = some (.int z) ∧ z = nI (10 * v (1 + dsd v b c (S1.1 61 43)) c + v (2 - dsd v b c (S1.1 61 43)) c) ∧ Kp [14] S S' ∧ S'.1 61 43 = rnd (S1.1 61 43) ∧ S'.1 61 44 = nI c) 36 [.ref (a 61), .int l, .int (nI c)] [] S1 := by
  have w0 := wtN_le v b c 0
  have w1 := wtN_le v b c 1
  have w2 := wtN_sum v b c
  have hc8 : c < 8 := by have := h.2.1; omega
  have hu := Nat.mod_lt (upr (rnd (S1.1 61 43))) (show 0 < wtN v b c 0 + wtN v b c 1 by omega)
  have b1 := h.2.2.2 1 (by decide) c hc8
  have b2 := h.2.2.2 2 (by decide) c hc8
  rw [show mostN 1 = 5 from rfl] at b1
  rw [show mostN 2 = 5 from rfl] at b2
  have hk1 : Kp [14] S (uI S1 61 44 (nI c)) := Kp_uI hkp (by decide)
  have hw1 := hw.kp hk1 (by decide)
  have hk2 : Kp [14] S (uI (uI S1 61 44 (nI c)) 61 43 (rnd (S1.1 61 43))) := Kp_uI hk1 (by decide)
  have hw2 := hw.kp hk2 (by decide)
  have ht2 := h.kp hk2 (by decide)
  refine j_ald0 dX8_show_36 ?_
  refine j_ild2 dX8_show_37 ?_
  refine j_putI (k := 44) dX8_show_38 cX8_ok (Or.inl f8_348) rfl (by decide) (by decide) (by decide) rfl ?_
  refine j_ald0 dX8_show_41 ?_
  refine j_ald0 dX8_show_42 ?_
  refine j_ild2 dX8_show_43 ?_
  refine j_cV1 dX8_show_44 kX8_sumOf l8_280 rfl (by decide) rfl (Nat.le_of_ble_eq_true rfl) (Nat.le_of_ble_eq_true rfl) (by omega) (s_X8_sumOf hw1 h.2.1 hcn) ?_
  refine j_cV1 dX8_show_47 kX8_drawOne l8_345 rfl (by decide) rfl (Nat.le_of_ble_eq_true rfl) (Nat.le_of_ble_eq_true rfl) (by omega) (s_X8_drawOne (m := wtN v b c 0 + wtN v b c 1) (by omega) (by omega)) ?_
  rw [show (uI S1 61 44 (nI c)).1 61 43 = S1.1 61 43 from by rw [uI_at, if_neg (by omega)]]
  refine j_ald0 dX8_show_50 ?_
  refine j_getR (k := 37) (86) dX8_show_51 cX8_ok (Or.inl f8_96) rfl (by decide) (by decide) (by decide) rfl ?_
  refine j_iconst (2) dX8_show_54 rfl ?_
  refine j_ild2 dX8_show_55 ?_
  refine j_imul dX8_show_56 ?_
  refine j_top (y := nI (2 * c)) (by exact pk_mul 2 c) ?_
  refine j_iald (n := (2 * c)) dX8_show_57 rfl (by decide) rfl (by omega) (by decide) ?_
  refine j_top (y := nI (wtN v b c 0)) (hw2 c hcn).1 ?_
  refine j_icmpge 80 dX8_show_58 (by decide) (fun c_58 => ?_) (fun c_58 => ?_)
  · have q_58 : ¬ upr (rnd (S1.1 61 43)) % (wtN v b c 0 + wtN v b c 1) < wtN v b c 0 := by
      have := (nI_leI (by omega) (by omega)).mp c_58
      omega
    refine j_bipush (10) dX8_show_80 rfl ?_
    refine j_ald0 dX8_show_82 ?_
    refine j_getR (k := 4) (64) dX8_show_83 cX8_ok (Or.inl f8_18) rfl (by decide) (by decide) (by decide) rfl ?_
    refine j_ild2 dX8_show_86 ?_
    refine j_iald (n := c) dX8_show_87 rfl (by decide) rfl (by omega) (by decide) ?_
    refine j_top (y := nI (v 2 c)) (ht2.second hc8) ?_
    refine j_imul dX8_show_88 ?_
    refine j_top (y := nI (10 * v 2 c)) (by exact pk_mul 10 (v 2 c)) ?_
    refine j_ald0 dX8_show_89 ?_
    refine j_getR (k := 3) (63) dX8_show_90 cX8_ok (Or.inl f8_15) rfl (by decide) (by decide) (by decide) rfl ?_
    refine j_ild2 dX8_show_93 ?_
    refine j_iald (n := c) dX8_show_94 rfl (by decide) rfl (by omega) (by decide) ?_
    refine j_top (y := nI (v 1 c)) (ht2.first hc8) ?_
    refine j_iadd dX8_show_95 ?_
    refine j_top (y := nI (10 * v 2 c + v 1 c)) (nI_add _ _) ?_
    refine j_iret dX8_show_96 rfl ?_
    exact ⟨_, rfl, by rw [dsd, if_neg q_58], hk2, by rw [uI_at, if_pos ⟨rfl, rfl⟩], by rw [uI_at, if_neg (by omega), uI_at, if_pos ⟨rfl, rfl⟩]⟩
  have q_58 : upr (rnd (S1.1 61 43)) % (wtN v b c 0 + wtN v b c 1) < wtN v b c 0 := Nat.not_le.mp (mt (nI_leI (by omega) (by omega)).mpr c_58)
  refine j_bipush (10) dX8_show_61 rfl ?_
  refine j_ald0 dX8_show_63 ?_
  refine j_getR (k := 3) (63) dX8_show_64 cX8_ok (Or.inl f8_15) rfl (by decide) (by decide) (by decide) rfl ?_
  refine j_ild2 dX8_show_67 ?_
  refine j_iald (n := c) dX8_show_68 rfl (by decide) rfl (by omega) (by decide) ?_
  refine j_top (y := nI (v 1 c)) (ht2.first hc8) ?_
  refine j_imul dX8_show_69 ?_
  refine j_top (y := nI (10 * v 1 c)) (by exact pk_mul 10 (v 1 c)) ?_
  refine j_ald0 dX8_show_70 ?_
  refine j_getR (k := 4) (64) dX8_show_71 cX8_ok (Or.inl f8_18) rfl (by decide) (by decide) (by decide) rfl ?_
  refine j_ild2 dX8_show_74 ?_
  refine j_iald (n := c) dX8_show_75 rfl (by decide) rfl (by omega) (by decide) ?_
  refine j_top (y := nI (v 2 c)) (ht2.second hc8) ?_
  refine j_iadd dX8_show_76 ?_
  refine j_top (y := nI (10 * v 1 c + v 2 c)) (nI_add _ _) ?_
  refine j_goto 96 dX8_show_77 (by decide) ?_
  refine j_iret dX8_show_96 rfl ?_
  exact ⟨_, rfl, by rw [dsd, if_pos q_58], hk2, by rw [uI_at, if_pos ⟨rfl, rfl⟩], by rw [uI_at, if_neg (by omega), uI_at, if_pos ⟨rfl, rfl⟩]⟩

theorem sh_11 {s : Int32} {S1 : St} (h : TR n v S) (hw : WRq v b n S) (h0 : 0 < sumN (v 0) n) (hs : S.1 61 43 = s) (e1 : S1 = uI S 61 43 (rnd s)) {l : Int32} (el : l = nI (upr (rnd s) % sumN (v 0) n)) : J a mX8_show 2 (gm a fun r S' => ∃ z, r = some (.int z) ∧ z = nI (shwN v b n s) ∧ Kp [14] S S' ∧ S'.1 61 43 = rnd (rnd s) ∧ S'.1 61 44 = nI (dcd v n s)) 11 [.ref (a 61), .int l, .int (nI 0)] [] S1 := by
  have hk1 : Kp [14] S S1 := by rw [e1]; exact Kp_uI Kp.rf (by decide)
  have ht1 := h.kp hk1 (by decide)
  have hLt := Nat.mod_lt (upr (rnd s)) h0
  have hs1 : S1.1 61 43 = rnd s := by rw [e1, uI_at, if_pos ⟨rfl, rfl⟩]
  refine lp_X8_show ht1 hLt (c := dcd v n s) (fun l => ?_) (n + 2) n 0 l (by omega) (by omega) (Nat.zero_le _) (by rw [show sumN (v 0) 0 = 0 from rfl, Nat.sub_zero]; exact el) rfl
  have := sh_36 (a := a) (l := l) hk1 h hw (dcd_ok (s := s) h0).1
  rw [hs1] at this
  exact this
set_option maxRecDepth 20000 in
theorem s_X8_show (h : TR n v S) (hw : WRq v b n S) (h0 : 0 < sumN (v 0) n) : Rqi a mX8_show 2 [.ref (a 61)] S fun z S' => z = nI (shwN v b n (S.1 61 43)) ∧ Kp [14] S S' ∧ S'.1 61 43 = rnd (rnd (S.1 61 43)) ∧ S'.1 61 44 = nI (dcd v n (S.1 61 43)) := by
  have hs := h.sum h.2.1
  show J _ _ _ _ 0 [_, .null, .null] [] _
  refine j_ald0 dX8_show_0 ?_
  refine j_ald0 dX8_show_1 ?_
  refine j_cV0 dX8_show_2 kX8_allCards l8_196 rfl (by decide) rfl (Nat.le_of_ble_eq_true rfl) (Nat.le_of_ble_eq_true rfl) (by omega) (s_X8_allCards h) ?_
  refine j_cV1 dX8_show_5 kX8_drawOne l8_345 rfl (by decide) rfl (Nat.le_of_ble_eq_true rfl) (Nat.le_of_ble_eq_true rfl) (by omega) (s_X8_drawOne h0 (by omega)) ?_
  refine j_ist1 dX8_show_8 rfl (by decide) ?_
  refine j_iconst (0) dX8_show_9 rfl ?_
  refine j_ist2 dX8_show_10 rfl (by decide) ?_
  exact sh_11 h hw h0 rfl rfl rfl

theorem d10 {x y : Nat} (h : y < 10) : (10 * x + y) / 10 = x ∧ (10 * x + y) % 10 = y := by omega
set_option maxRecDepth 20000 in
theorem lp_X8_drawn {w1 : Value} {s : Int32} {N X : Nat} (h : TR n v S) (h0 : 0 < sumN (v 0) n) (hN : N ≤ 60) (hX : X < 2 ^ 31) (hX1 : X / 100 < 6) (hX2 : X / 10 % 10 < 6) : ∀ (fu : Nat) (i : Nat) (S1 : St) (w6 : Value), N - i < fu → (i ≤ N) → (Kp [14, 18] S S1) → (WRq v b n S1) → (S1.1 61 43 = sdS s i) → J a mX8_drawn 5 (gm a fun r S' => ∃ z, r = some (.int z) ∧ z = nI (dnF v b n X s N) ∧ Kp [14, 18] S S') 72 [.ref (a 61), w1, .int (nI N), .int (nI X), .int (nI (dnF v b n X s i)), .int (nI i), w6] [] S1 := by
  intro fu
  induction fu with
  | zero => intro i S1 w6 hk; exact absurd hk (Nat.not_lt_zero _)
  | succ fu ih =>
    intro i S1 w6 hk hi hkp hw hsd
    have hn8 := h.2.1
    refine j_ild5 dX8_drawn_72 ?_
    refine j_ild2 dX8_drawn_74 ?_
    refine j_icmpge 127 dX8_drawn_75 (by decide) (fun c_75 => ?_) (fun c_75 => ?_)
    · have q_75 : i = N := by have := (nI_leI (a := N) (b := i) (by omega) (by omega)).mp c_75; omega
      subst q_75
      refine j_ild4 dX8_drawn_127 ?_
      refine j_iret dX8_drawn_129 rfl ?_
      exact ⟨_, rfl, rfl, hkp⟩
    have q_75 : i < N := Nat.not_le.mp (fun z => c_75 ((nI_leI (a := N) (b := i) (by omega) (by omega)).mpr z))
    have ht1 := h.kp hkp (by decide)
    have hdl := dnF_le v b n X s i
    refine j_ald0 dX8_drawn_78 ?_
    refine j_qiV0 dX8_drawn_79 kX8_show l8_351 rfl (by decide) rfl (Nat.le_of_ble_eq_true rfl) (Nat.le_of_ble_eq_true rfl) (by omega) (s_X8_show ht1 hw h0) (fun z S2 h2 => ?_)
    rw [hsd] at h2
    obtain ⟨rfl, hk2, hs2, -⟩ := h2
    have hk3 : Kp [14, 18] S S2 := hkp.tr (hk2.wk (by simp))
    have hw3 := hw.kp hk2 (by decide)
    have hdc := dcd_ok (s := sdS s i) h0
    unfold shwN
    generalize hcd : dcd v n (sdS s i) = c at *
    have hds := dsd_2 v b c (rnd (sdS s i))
    generalize hsi : dsd v b c (rnd (sdS s i)) = e at *
    have hc8 : c < 8 := by omega
    have hv1 := h.2.2.2 (1 + e) (by omega) c hc8
    have hv2 := h.2.2.2 (2 - e) (by omega) c hc8
    have hm1 : mostN (1 + e) = 5 := by rcases s2 hds with rfl | rfl <;> rfl
    have hm2 : mostN (2 - e) = 5 := by rcases s2 hds with rfl | rfl <;> rfl
    have hd := d10 (x := v (1 + e) c) (y := v (2 - e) c) (by omega)
    refine j_ist6 dX8_drawn_82 rfl (by decide) ?_
    refine j_ild6 dX8_drawn_84 ?_
    refine j_bipush (10) dX8_drawn_86 rfl ?_
    refine j_idiv dX8_drawn_88 (by decide) ?_
    refine j_top (y := nI (v (1 + e) c)) ((pk_div (a := 10 * v (1 + e) c + v (2 - e) c) (d := 10) (by omega) (by decide) (by decide)).trans (by rw [hd.1])) ?_
    refine j_ild3 dX8_drawn_89 ?_
    refine j_bipush (100) dX8_drawn_90 rfl ?_
    refine j_idiv dX8_drawn_92 (by decide) ?_
    refine j_top (y := nI (X / 100)) (pk_div (a := X) (d := 100) hX (by decide) (by decide)) ?_
    refine j_icmpne 121 dX8_drawn_93 (by decide) (fun c_93 => ?_) (fun c_93 => ?_)
    · have q_93 : ¬ v (1 + e) c = X / 100 := fun z => c_93 (by rw [z])
      have q_h : ¬ hitP v b n X (sdS s i) := fun z => q_93 (by have := z.1; rw [hcd, hsi] at this; exact this)
      refine j_iinc5 (nI (i + 1)) dX8_drawn_121 (nI_1 i) rfl (by decide) ?_
      refine j_goto 72 dX8_drawn_124 (by decide) ?_
      rw [← dnF_0 q_h]
      exact ih (i + 1) S2 _ (by omega) (by omega) hk3 hw3 hs2
    have q_93 : v (1 + e) c = X / 100 := (nI_eq (by omega) (by omega)).mp (Classical.not_not.mp c_93)
    refine j_ild3 dX8_drawn_96 ?_
    refine j_bipush (10) dX8_drawn_97 rfl ?_
    refine j_irem dX8_drawn_99 (by decide) ?_
    refine j_top (y := nI (X % 10)) (pk_rem (a := X) (d := 10) hX (by decide) (by decide)) ?_
    refine j_ifeq 118 dX8_drawn_100 (by decide) (fun c_100 => ?_) (fun c_100 => ?_)
    · have q_100 : X % 10 = 0 := (nI_eq (a := X % 10) (b := 0) (by omega) (by decide)).mp c_100
      have q_h : hitP v b n X (sdS s i) := by rw [hitP, hcd, hsi]; exact ⟨q_93, Or.inl q_100⟩
      refine j_iinc4 (nI (dnF v b n X s i + 1)) dX8_drawn_118 (nI_1 _) rfl (by decide) ?_
      refine j_iinc5 (nI (i + 1)) dX8_drawn_121 (nI_1 i) rfl (by decide) ?_
      refine j_goto 72 dX8_drawn_124 (by decide) ?_
      rw [← dnF_1 q_h]
      exact ih (i + 1) S2 _ (by omega) (by omega) hk3 hw3 hs2
    have q_100 : ¬ X % 10 = 0 := fun z => c_100 (by rw [z]; rfl)
    refine j_ild6 dX8_drawn_103 ?_
    refine j_bipush (10) dX8_drawn_105 rfl ?_
    refine j_irem dX8_drawn_107 (by decide) ?_
    refine j_top (y := nI (v (2 - e) c)) ((pk_rem (a := 10 * v (1 + e) c + v (2 - e) c) (d := 10) (by omega) (by decide) (by decide)).trans (by rw [hd.2])) ?_
    refine j_ild3 dX8_drawn_108 ?_
    refine j_bipush (10) dX8_drawn_109 rfl ?_
    refine j_idiv dX8_drawn_111 (by decide) ?_
    refine j_top (y := nI (X / 10)) (pk_div (a := X) (d := 10) hX (by decide) (by decide)) ?_
    refine j_bipush (10) dX8_drawn_112 rfl ?_
    refine j_irem dX8_drawn_114 (by decide) ?_
    refine j_top (y := nI (X / 10 % 10)) (pk_rem (a := X / 10) (d := 10) (by omega) (by decide) (by decide)) ?_
    refine j_icmpne 121 dX8_drawn_115 (by decide) (fun c_115 => ?_) (fun c_115 => ?_)
    · have q_115 : ¬ v (2 - e) c = X / 10 % 10 := fun z => c_115 (by rw [z])
      have q_h : ¬ hitP v b n X (sdS s i) := fun z => z.2.elim q_100 (by rw [hcd, hsi]; exact q_115)
      refine j_iinc5 (nI (i + 1)) dX8_drawn_121 (nI_1 i) rfl (by decide) ?_
      refine j_goto 72 dX8_drawn_124 (by decide) ?_
      rw [← dnF_0 q_h]
      exact ih (i + 1) S2 _ (by omega) (by omega) hk3 hw3 hs2
    have q_115 : v (2 - e) c = X / 10 % 10 := (nI_eq (by omega) (by omega)).mp (Classical.not_not.mp c_115)
    have q_h : hitP v b n X (sdS s i) := by rw [hitP, hcd, hsi]; exact ⟨q_93, Or.inr q_115⟩
    refine j_iinc4 (nI (dnF v b n X s i + 1)) dX8_drawn_118 (nI_1 _) rfl (by decide) ?_
    refine j_iinc5 (nI (i + 1)) dX8_drawn_121 (nI_1 i) rfl (by decide) ?_
    refine j_goto 72 dX8_drawn_124 (by decide) ?_
    rw [← dnF_1 q_h]
    exact ih (i + 1) S2 _ (by omega) (by omega) hk3 hw3 hs2

set_option maxRecDepth 20000 in
theorem s_X8_drawn_ok {x y z : Int32} (h : TR n v S) (hb : LawR b S) (hg : GoodB b) (hk : dnOk y z) : Rqi a mX8_drawn 5 [.ref (a 61), .int x, .int y, .int z] S fun r S' => r = dnV v b n x y z ∧ Kp [14, 18] S S' := by
  show J _ _ _ _ 0 [_, _, _, _, .null, .null, .null] [] _
  obtain ⟨N, X, hN, hX, rfl, rfl, e1, e2, e3, b1, b2, b3, f1, f2⟩ := dn_nat hk
  have hs := h.sum h.2.1
  refine j_ild2 dX8_drawn_0 ?_
  refine j_iconst (1) dX8_drawn_1 rfl ?_
  refine j_bipush (60) dX8_drawn_2 rfl ?_
  refine j_cS3 dX8_drawn_4 kX8_in zX8_in (Or.inl l8_148) (Nat.le_of_ble_eq_true rfl) (Nat.le_of_ble_eq_true rfl) (by omega) (s_X8_in) ?_
  refine j_ifeqB 45 dX8_drawn_7 (by decide) (fun c_7 => absurd c_7 (not_not_intro hk.1)) (fun c_7 => ?_)
  refine j_ild3 dX8_drawn_10 ?_
  refine j_iflt 45 dX8_drawn_11 (by decide) (fun c_11 => absurd c_11 (Int32.not_lt.mpr hk.2.1)) (fun c_11 => ?_)
  refine j_ild3 dX8_drawn_14 ?_
  refine j_bipush (100) dX8_drawn_15 rfl ?_
  refine j_idiv dX8_drawn_17 (by decide) ?_
  refine j_cS1 dX8_drawn_18 kX8_isColour zX8_isColour (Or.inl l8_152) (Nat.le_of_ble_eq_true rfl) (Nat.le_of_ble_eq_true rfl) (by omega) (s_X8_isColour) ?_
  refine j_ifeqB 45 dX8_drawn_21 (by decide) (fun c_21 => absurd c_21 (not_not_intro hk.2.2.1)) (fun c_21 => ?_)
  refine j_ild3 dX8_drawn_24 ?_
  refine j_bipush (10) dX8_drawn_25 rfl ?_
  refine j_idiv dX8_drawn_27 (by decide) ?_
  refine j_bipush (10) dX8_drawn_28 rfl ?_
  refine j_irem dX8_drawn_30 (by decide) ?_
  refine j_cS1 dX8_drawn_31 kX8_isColour zX8_isColour (Or.inl l8_152) (Nat.le_of_ble_eq_true rfl) (Nat.le_of_ble_eq_true rfl) (by omega) (s_X8_isColour) ?_
  refine j_ifeqB 45 dX8_drawn_34 (by decide) (fun c_34 => absurd c_34 (not_not_intro hk.2.2.2.1)) (fun c_34 => ?_)
  refine j_ild3 dX8_drawn_37 ?_
  refine j_bipush (10) dX8_drawn_38 rfl ?_
  refine j_irem dX8_drawn_40 (by decide) ?_
  refine j_iconst (1) dX8_drawn_41 rfl ?_
  refine j_icmple 47 dX8_drawn_42 (by decide) (fun c_42 => ?_) (fun c_42 => absurd ((le_lt (c := 1) (by decide)).mpr hk.2.2.2.2) c_42)
  refine j_ald0 dX8_drawn_47 ?_
  refine j_cV0 dX8_drawn_48 kX8_allCards l8_196 rfl (by decide) rfl (Nat.le_of_ble_eq_true rfl) (Nat.le_of_ble_eq_true rfl) (by omega) (s_X8_allCards h) ?_
  refine j_ifne 57 dX8_drawn_51 (by decide) (fun c_51 => ?_) (fun c_51 => ?_)
  · have q_51 : ¬ sumN (v 0) n = 0 := fun z => c_51 (by rw [z]; rfl)
    refine j_ald0 dX8_drawn_57 ?_
    refine j_qvV0 dX8_drawn_58 kX8_findWeights l8_275 rfl (by decide) rfl (Nat.le_of_ble_eq_true rfl) (Nat.le_of_ble_eq_true rfl) (by omega) (s_X8_findWeights h hb hg) (fun S1 h1 => ?_)
    obtain ⟨hkp, hw⟩ := h1
    refine j_ald0 dX8_drawn_61 ?_
    refine j_ild1 dX8_drawn_62 ?_
    refine j_putI (k := 43) dX8_drawn_63 cX8_ok (Or.inl f8_341) rfl (by decide) (by decide) (by decide) rfl ?_
    refine j_iconst (0) dX8_drawn_66 rfl ?_
    refine j_ist4 dX8_drawn_67 rfl (by decide) ?_
    refine j_iconst (0) dX8_drawn_69 rfl ?_
    refine j_ist5 dX8_drawn_70 rfl (by decide) ?_
    rw [dnV, if_neg q_51, f1, f2]
    have hkq : Kp [14] S1 (uI S1 61 43 x) := Kp_uI Kp.rf (by decide)
    exact lp_X8_drawn (w1 := .int x) (s := x) h (Nat.pos_of_ne_zero q_51) hN hX b1 b2 (N + 1) 0 (uI S1 61 43 x) .null (by omega) (by omega) (hkp.tr (hkq.wk (by simp))) (hw.kp hkq (by decide)) (by rw [uI_at, if_pos ⟨rfl, rfl⟩]; rfl)
  have q_51 : sumN (v 0) n = 0 := (nI_eq (a := sumN (v 0) n) (b := 0) (by omega) (by decide)).mp (Classical.not_not.mp c_51)
  refine j_bipush (-5) dX8_drawn_54 rfl ?_
  refine j_iret dX8_drawn_56 rfl ?_
  exact ⟨_, rfl, by rw [dnV, if_pos q_51], Kp.rf⟩

set_option maxRecDepth 20000 in
theorem s_X8_drawn_bad {x y z : Int32} (hk : ¬ dnOk y z) : Rt a mX8_drawn 5 [.ref (a 61), .int x, .int y, .int z] S (some (.int (-1))) S := by
  show J _ _ _ _ 0 [_, _, _, _, .null, .null, .null] [] _
  refine j_ild2 dX8_drawn_0 ?_
  refine j_iconst (1) dX8_drawn_1 rfl ?_
  refine j_bipush (60) dX8_drawn_2 rfl ?_
  refine j_cS3 dX8_drawn_4 kX8_in zX8_in (Or.inl l8_148) (Nat.le_of_ble_eq_true rfl) (Nat.le_of_ble_eq_true rfl) (by omega) (s_X8_in) ?_
  refine j_ifeqB 45 dX8_drawn_7 (by decide) (fun c_7 => ?_) (fun c_7 => ?_)
  · refine j_iconst (-1) dX8_drawn_45 rfl ?_
    refine j_iret dX8_drawn_46 rfl ?_
    exact ⟨rfl, rfl⟩
  refine j_ild3 dX8_drawn_10 ?_
  refine j_iflt 45 dX8_drawn_11 (by decide) (fun c_11 => ?_) (fun c_11 => ?_)
  · refine j_iconst (-1) dX8_drawn_45 rfl ?_
    refine j_iret dX8_drawn_46 rfl ?_
    exact ⟨rfl, rfl⟩
  refine j_ild3 dX8_drawn_14 ?_
  refine j_bipush (100) dX8_drawn_15 rfl ?_
  refine j_idiv dX8_drawn_17 (by decide) ?_
  refine j_cS1 dX8_drawn_18 kX8_isColour zX8_isColour (Or.inl l8_152) (Nat.le_of_ble_eq_true rfl) (Nat.le_of_ble_eq_true rfl) (by omega) (s_X8_isColour) ?_
  refine j_ifeqB 45 dX8_drawn_21 (by decide) (fun c_21 => ?_) (fun c_21 => ?_)
  · refine j_iconst (-1) dX8_drawn_45 rfl ?_
    refine j_iret dX8_drawn_46 rfl ?_
    exact ⟨rfl, rfl⟩
  refine j_ild3 dX8_drawn_24 ?_
  refine j_bipush (10) dX8_drawn_25 rfl ?_
  refine j_idiv dX8_drawn_27 (by decide) ?_
  refine j_bipush (10) dX8_drawn_28 rfl ?_
  refine j_irem dX8_drawn_30 (by decide) ?_
  refine j_cS1 dX8_drawn_31 kX8_isColour zX8_isColour (Or.inl l8_152) (Nat.le_of_ble_eq_true rfl) (Nat.le_of_ble_eq_true rfl) (by omega) (s_X8_isColour) ?_
  refine j_ifeqB 45 dX8_drawn_34 (by decide) (fun c_34 => ?_) (fun c_34 => ?_)
  · refine j_iconst (-1) dX8_drawn_45 rfl ?_
    refine j_iret dX8_drawn_46 rfl ?_
    exact ⟨rfl, rfl⟩
  refine j_ild3 dX8_drawn_37 ?_
  refine j_bipush (10) dX8_drawn_38 rfl ?_
  refine j_irem dX8_drawn_40 (by decide) ?_
  refine j_iconst (1) dX8_drawn_41 rfl ?_
  refine j_icmple 47 dX8_drawn_42 (by decide) (fun c_42 => ?_) (fun c_42 => ?_)
  · exact absurd ⟨c_7, Int32.not_lt.mp c_11, c_21, c_34, (le_lt (c := 1) (by decide)).mp c_42⟩ hk
  refine j_iconst (-1) dX8_drawn_45 rfl ?_
  refine j_iret dX8_drawn_46 rfl ?_
  exact ⟨rfl, rfl⟩

end DrawR
