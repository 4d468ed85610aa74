/-! shift, cards, feed: both sides -/
section Shift
variable {a : Nat → Nat} {S : St} {b : Nat} {sh : Nat → Nat → Nat} {el : Nat → Nat → Int64}
set_option maxRecDepth 20000 in
theorem s_X4_isRowOf {i s : Nat} (hi : i < 6) (hs5 : s < 5) (h : SC sh el S) (hs : SOk b sh) : Rt a mX4_isRowOf 0 [.ref (a (8 + i)), .int (nI s)] S (some (.int (bi (sh i 0 = 2 ∧ sh i 2 = s)))) S := by
  have hs0 := (hs.2 i hi).1
  show J _ _ _ _ 0 [_, _] [] _
  refine j_ald0 dX4_isRowOf_0 ?_
  refine j_getI (k := 0) dX4_isRowOf_1 cX4_ok (Or.inl f4_15) (ck_sh hi) (by omega) (by decide) (by decide) ?_
  refine j_top (y := nI (sh i 0)) ((h i hi).1) ?_
  refine j_iconst (2) dX4_isRowOf_4 rfl ?_
  refine j_icmpne 20 dX4_isRowOf_5 (by decide) (fun c_5 => ?_) (fun c_5 => ?_)
  · have q_5 : ¬ sh i 0 = 2 := fun z => c_5 (by rw [z]; rfl)
    refine j_iconst (0) dX4_isRowOf_20 rfl ?_
    refine j_zret dX4_isRowOf_21 rfl (by decide) ?_
    exact ⟨by rw [bi_f (fun q => q_5 q.1)], rfl⟩
  have q_5 : sh i 0 = 2 := (nI_eq (a := sh i 0) (b := 2) (by omega) (by decide)).mp (Classical.not_not.mp c_5)
  refine j_ald0 dX4_isRowOf_8 ?_
  refine j_getI (k := 2) dX4_isRowOf_9 cX4_ok (Or.inl f4_19) (ck_sh hi) (by omega) (by decide) (by decide) ?_
  refine j_ild1 dX4_isRowOf_12 ?_
  refine j_icmpne 20 dX4_isRowOf_13 (by decide) (fun c_13 => ?_) (fun c_13 => ?_)
  · refine j_iconst (0) dX4_isRowOf_20 rfl ?_
    refine j_zret dX4_isRowOf_21 rfl (by decide) ?_
    exact ⟨by rw [bi_f (fun q => c_13 (by rw [(h i hi).2.2.1 q.1, q.2]))], rfl⟩
  refine j_iconst (1) dX4_isRowOf_16 rfl ?_
  refine j_goto 21 dX4_isRowOf_17 (by decide) ?_
  refine j_zret dX4_isRowOf_21 rfl (by decide) ?_
  exact ⟨by rw [bi_t ⟨q_5, (nI_eq (by have := (hs.2 i hi).2.2.1 q_5; omega) (by omega)).mp (((h i hi).2.2.1 q_5).symm.trans (Classical.not_not.mp c_13))⟩], rfl⟩

def FC (len : Nat) (t : Nat → Nat) (S : St) : Prop := S.1 0 8 = nI len ∧ len ≤ 120 ∧ ∀ i, i < len → S.1 14 i = nI (t i) ∧ t i < 256
theorem FC.kp {S' : St} {rs : List Nat} {len : Nat} {t : Nat → Nat} (h : FC len t S) (hk : Kp rs S S') (hr : 2 ∉ rs) : FC len t S' := ⟨by rw [hk.i (show rg 0 8 ∉ rs from hr)]; exact h.1, h.2.1, fun i hi => by rw [hk.i (show rg 14 i ∉ rs from hr)]; exact h.2.2 i hi⟩
set_option maxRecDepth 20000 in
theorem s_X7_feed {len x : Nat} {t : Nat → Nat} (h : FC len t S) (hl : len < 120) (hx : x < 256) : Rt a mX7_feed 1 [.ref (a 0), .int (nI x)] S (some (.int (nI (len + 1)))) (uI (uI S 14 len (nI x)) 0 8 (nI (len + 1))) := by
  show J _ _ _ _ 0 [_, _] [] _
  refine j_ild1 dX7_feed_0 ?_
  refine j_sipush (256) dX7_feed_1 rfl ?_
  refine j_cS2 dX7_feed_4 kX7_within zX7_within (Or.inl l7_72) (Nat.le_of_ble_eq_true rfl) (Nat.le_of_ble_eq_true rfl) (by omega) (s_X7_within) ?_
  refine j_ifneB 12 dX7_feed_7 (by decide) (fun c_7 => ?_) (fun c_7 => absurd (nI_in' hx (by decide)) c_7)
  refine j_ald0 dX7_feed_12 ?_
  refine j_getI (k := 8) dX7_feed_13 cX7_ok (Or.inl f7_124) rfl (by decide) (by decide) (by decide) ?_
  refine j_top (y := nI len) (h.1) ?_
  refine j_bipush (120) dX7_feed_16 rfl ?_
  refine j_icmplt 24 dX7_feed_18 (by decide) (fun c_18 => ?_) (fun c_18 => absurd ((nI_ltI (a := len) (b := 120) (by omega) (by decide)).mpr hl) c_18)
  refine j_ald0 dX7_feed_24 ?_
  refine j_getR (k := 7) (14) dX7_feed_25 cX7_ok (Or.inl f7_59) rfl (by decide) (by decide) (by decide) rfl ?_
  refine j_ald0 dX7_feed_28 ?_
  refine j_getI (k := 8) dX7_feed_29 cX7_ok (Or.inl f7_124) rfl (by decide) (by decide) (by decide) ?_
  refine j_top (y := nI len) (h.1) ?_
  refine j_ild1 dX7_feed_32 ?_
  refine j_iast dX7_feed_33 rfl (by decide) rfl hl (by decide) ?_
  refine j_ald0 dX7_feed_34 ?_
  refine j_dup dX7_feed_35 rfl ?_
  refine j_getI (k := 8) dX7_feed_36 cX7_ok (Or.inl f7_124) rfl (by decide) (by decide) (by decide) ?_
  refine j_top (y := nI len) (by simp [uI_at, h.1]) ?_
  refine j_iconst (1) dX7_feed_39 rfl ?_
  refine j_iadd dX7_feed_40 ?_
  refine j_top (y := nI (len + 1)) (nI_1 len) ?_
  refine j_putI (k := 8) dX7_feed_41 cX7_ok (Or.inl f7_124) rfl (by decide) (by decide) (by decide) rfl ?_
  refine j_ald0 dX7_feed_44 ?_
  refine j_getI (k := 8) dX7_feed_45 cX7_ok (Or.inl f7_124) rfl (by decide) (by decide) (by decide) ?_
  refine j_top (y := nI (len + 1)) (by simp [uI_at]) ?_
  refine j_iret dX7_feed_48 rfl ?_
  exact ⟨rfl, rfl⟩

end Shift

