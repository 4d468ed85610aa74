/-! mend, of, card: both sides -/
abbrev CardOk (x y z : Int32) : Prop := (0 ≤ x ∧ x < 6) ∧ (0 ≤ y ∧ y < 6) ∧ (0 ≤ z ∧ z < 10)
def cX (m : Int32) : Int32 := m / 100
def cY (m : Int32) : Int32 := m / 10 - m / 10 / 10 * 10
def cZ (m : Int32) : Int32 := m - m / 10 * 10
abbrev ThOk (n : Nat) (x y : Int32) : Prop := (0 ≤ y ∧ y < 12) ∧ (0 ≤ x ∧ x < nI (numN n y.toNatClampNeg))
theorem th_iff {x : Int32} {w n c : Nat} (hw : w < 12) (e : numN n w = c) : (0 ≤ x ∧ x < nI c) ↔ ThOk n x (nI w) := by
  unfold ThOk
  rw [nI_clamp (by omega), e]
  exact ⟨fun q => ⟨nI_in' hw (by decide), q⟩, fun q => q.2⟩
theorem rng {x : Int32} {l t : Nat} (hl : l ≤ t) (ht : t < 2 ^ 30) (h : nI l ≤ x ∧ x ≤ nI t) : ∃ w, l ≤ w ∧ w ≤ t ∧ x = nI w := by
  have h0 : 0 ≤ x := by
    have h1 := h.1
    rw [Int32.le_iff_toInt_le, nI_toInt (by omega)] at h1
    rw [Int32.le_iff_toInt_le, Int32.toInt_zero]
    omega
  obtain ⟨w, hw, rfl⟩ := nI_ge0 h0
  exact ⟨w, (nI_leI (by omega) hw).mp h.1, (nI_leI hw (by omega)).mp h.2, rfl⟩
def ofV (n : Nat) (v : Nat → Nat → Nat) (as led : Nat → Int32) (lat x y : Int32) : Int32 :=
  if 0 ≤ y ∧ y < 12 then (if 0 ≤ x ∧ x < nI (numN n y.toNatClampNeg) then nI (v y.toNatClampNeg x.toNatClampNeg) else -1)
  else if y = 12 then (if 0 ≤ x ∧ x < nI n then as x.toNatClampNeg else -1)
  else if y = 13 then (if 0 ≤ x ∧ x < 6 then led x.toNatClampNeg else -1)
  else if y = 14 then (if x = 0 then lat else -1)
  else if y = 15 then (if x = 0 then nI (sumN (v 0) n) else -1)
  else -1
section MendOf
variable {a : Nat → Nat} {S : St} {n k u : Nat} {v h : Nat → Nat → Nat}

set_option maxRecDepth 20000 in
theorem s_X7_card {m : Int32} (hb : 0 ≤ m ∧ CardOk (cX m) (cY m) (cZ m)) (hn : S.1 1 1 = nI n) (h8 : n < 8) : Rt a mX7_card 2 [.ref (a 0), .int m] S (some (.int (nI n))) (uI (uI (uI (uI S 17 n (cX m)) 18 n (cY m)) 16 n (cZ m)) 1 1 (nI (n + 1))) := by
  show J _ _ _ _ 0 [_, _] [] _
  refine j_ild1 dX7_card_0 ?_
  refine j_iflt 25 dX7_card_1 (by decide) (fun c_1 => absurd c_1 (Int32.not_lt.mpr hb.1)) (fun c_1 => ?_)
  refine j_ild1 dX7_card_4 ?_
  refine j_bipush (100) dX7_card_5 rfl ?_
  refine j_idiv dX7_card_7 (by decide) ?_
  refine j_ild1 dX7_card_8 ?_
  refine j_bipush (10) dX7_card_9 rfl ?_
  refine j_idiv dX7_card_11 (by decide) ?_
  refine j_bipush (10) dX7_card_12 rfl ?_
  refine j_irem dX7_card_14 (by decide) ?_
  refine j_ild1 dX7_card_15 ?_
  refine j_bipush (10) dX7_card_16 rfl ?_
  refine j_irem dX7_card_18 (by decide) ?_
  refine j_cS3 dX7_card_19 kX6_mayBeCard zX6_mayBeCard (Or.inl l7_64) (Nat.le_of_ble_eq_true rfl) (Nat.le_of_ble_eq_true rfl) (by omega) (s_X6_mayBeCard) ?_
  refine j_ifneB 27 dX7_card_22 (by decide) (fun c_22 => ?_) (fun c_22 => absurd (hb.2) c_22)
  refine j_ald0 dX7_card_27 ?_
  refine j_getR (k := 0) (1) dX7_card_28 cX7_ok (Or.inl f7_12) rfl (by decide) (by decide) (by decide) rfl ?_
  refine j_ild1 dX7_card_31 ?_
  refine j_bipush (100) dX7_card_32 rfl ?_
  refine j_idiv dX7_card_34 (by decide) ?_
  refine j_ild1 dX7_card_35 ?_
  refine j_bipush (10) dX7_card_36 rfl ?_
  refine j_idiv dX7_card_38 (by decide) ?_
  refine j_bipush (10) dX7_card_39 rfl ?_
  refine j_irem dX7_card_41 (by decide) ?_
  refine j_ild1 dX7_card_42 ?_
  refine j_bipush (10) dX7_card_43 rfl ?_
  refine j_irem dX7_card_45 (by decide) ?_
  refine j_cV3 dX7_card_46 kX6_addCard l7_68 rfl (by decide) rfl (Nat.le_of_ble_eq_true rfl) (Nat.le_of_ble_eq_true rfl) (by omega) (s_X6_addCard hn h8) ?_
  refine j_iret dX7_card_49 rfl ?_
  exact ⟨rfl, rfl⟩

set_option maxRecDepth 20000 in
theorem s_X7_mend_ok {i w x : Nat} (ht : TC n v S) (hh : HC k u h S) (hw : w < 12) (hi : i < numN n w) (hx : x ≤ mostN w) : Rqi a mX7_mend 3 [.ref (a 0), .int (nI i), .int (nI w), .int (nI x)] S (fun r S' => r = nI (v w i) ∧ Kp [1] S S' ∧ TC n (up2 v w i x) S' ∧ (if x = v w i then HC k u h S' else HC (pushK k) 0 (pushH k h (mk4 i w (v w i) x)) S')) := by
  show J _ _ _ _ 0 [_, _, _, _] [] _
  refine j_ald0 dX7_mend_0 ?_
  refine j_getR (k := 0) (1) dX7_mend_1 cX7_ok (Or.inl f7_12) rfl (by decide) (by decide) (by decide) rfl ?_
  refine j_ild1 dX7_mend_4 ?_
  refine j_ild2 dX7_mend_5 ?_
  refine j_cV2 dX7_mend_6 kX6_known l7_98 rfl (by decide) rfl (Nat.le_of_ble_eq_true rfl) (Nat.le_of_ble_eq_true rfl) (by omega) (s_X6_known ht) ?_
  refine j_ifeqB 25 dX7_mend_9 (by decide) (fun c_9 => absurd c_9 (not_not_intro ((th_iff (n := n) hw rfl).mp (nI_in' hi (by have := numN_le (w := w) ht.2.1; omega))))) (fun c_9 => ?_)
  refine j_ild3 dX7_mend_12 ?_
  refine j_iflt 25 dX7_mend_13 (by decide) (fun c_13 => absurd c_13 (nI_pos (by have := mostN_le w; omega))) (fun c_13 => ?_)
  refine j_ild3 dX7_mend_16 ?_
  refine j_gets (i := 1) dX7_mend_17 rfl (Or.inr ⟨_, f7_101⟩) ?_
  refine j_ild2 dX7_mend_20 ?_
  refine j_tald (i := 1) (k := w) dX7_mend_21 rfl rfl hw (by decide) ?_
  refine j_top (y := nI (mostN w)) (by rcases w12 hw with rfl | rfl | rfl | rfl | rfl | rfl | rfl | rfl | rfl | rfl | rfl | rfl <;> rfl) ?_
  refine j_icmple 27 dX7_mend_22 (by decide) (fun c_22 => ?_) (fun c_22 => absurd (nI_le hx (by have := mostN_le w; omega)) c_22)
  refine j_ald0 dX7_mend_27 ?_
  refine j_getR (k := 0) (1) dX7_mend_28 cX7_ok (Or.inl f7_12) rfl (by decide) (by decide) (by decide) rfl ?_
  refine j_ild1 dX7_mend_31 ?_
  refine j_ild2 dX7_mend_32 ?_
  refine j_ild3 dX7_mend_33 ?_
  refine j_qiV3 dX7_mend_34 kX6_change l7_104 rfl (by decide) rfl (Nat.le_of_ble_eq_true rfl) (Nat.le_of_ble_eq_true rfl) (by omega) (s_X6_change ht hh hw (Nat.lt_of_lt_of_le hi (numN_le ht.2.1)) hx) (fun r1 S1 h1 => ?_)
  refine j_iret dX7_mend_37 rfl ?_
  exact ⟨_, rfl, h1⟩

set_option maxRecDepth 20000 in
theorem s_X7_of {x y : Int32} (h : TC n v S) : Rt a mX7_of 2 [.ref (a 0), .int x, .int y] S (some (.int (ofV n v (S.1 48) (S.1 49) (if S.1 5 3 < 0 then -2 else S.1 5 3) x y))) S := by
  show J _ _ _ _ 0 [_, _, _] [] _
  refine j_ald0 dX7_of_0 ?_
  refine j_getR (k := 0) (1) dX7_of_1 cX7_ok (Or.inl f7_12) rfl (by decide) (by decide) (by decide) rfl ?_
  refine j_ild1 dX7_of_4 ?_
  refine j_ild2 dX7_of_5 ?_
  refine j_cV2 dX7_of_6 kX6_known l7_98 rfl (by decide) rfl (Nat.le_of_ble_eq_true rfl) (Nat.le_of_ble_eq_true rfl) (by omega) (s_X6_known h) ?_
  refine j_ifeqB 24 dX7_of_9 (by decide) (fun c_9 => ?_) (fun c_9 => ?_)
  · refine j_ild2 dX7_of_24 ?_
    refine j_bipush (12) dX7_of_25 rfl ?_
    refine j_icmpne 58 dX7_of_27 (by decide) (fun c_27 => ?_) (fun c_27 => ?_)
    · refine j_ild2 dX7_of_58 ?_
      refine j_bipush (13) dX7_of_59 rfl ?_
      refine j_icmpne 87 dX7_of_61 (by decide) (fun c_61 => ?_) (fun c_61 => ?_)
      · refine j_ild2 dX7_of_87 ?_
        refine j_bipush (14) dX7_of_88 rfl ?_
        refine j_icmpne 120 dX7_of_90 (by decide) (fun c_90 => ?_) (fun c_90 => ?_)
        · refine j_ild2 dX7_of_120 ?_
          refine j_bipush (15) dX7_of_121 rfl ?_
          refine j_icmpne 140 dX7_of_123 (by decide) (fun c_123 => ?_) (fun c_123 => ?_)
          · refine j_iconst (-1) dX7_of_140 rfl ?_
            refine j_iret dX7_of_141 rfl ?_
            exact ⟨by
              unfold ofV
              by_cases h0 : 0 ≤ y ∧ y < 12
              · rw [if_pos h0, if_neg (fun q => c_9 ⟨h0, q⟩)]
              · rw [if_neg h0, if_neg c_27, if_neg c_61, if_neg c_90, if_neg c_123], rfl⟩
          refine j_ild1 dX7_of_126 ?_
          refine j_ifne 140 dX7_of_127 (by decide) (fun c_127 => ?_) (fun c_127 => ?_)
          · refine j_iconst (-1) dX7_of_140 rfl ?_
            refine j_iret dX7_of_141 rfl ?_
            exact ⟨by
              unfold ofV
              rw [Classical.not_not.mp c_123, if_neg (by decide), if_neg (by decide), if_neg (by decide), if_neg (by decide), if_pos rfl, if_neg c_127], rfl⟩
          refine j_ald0 dX7_of_130 ?_
          refine j_getR (k := 0) (1) dX7_of_131 cX7_ok (Or.inl f7_12) rfl (by decide) (by decide) (by decide) rfl ?_
          refine j_cV0 dX7_of_134 kX6_inHat l7_120 rfl (by decide) rfl (Nat.le_of_ble_eq_true rfl) (Nat.le_of_ble_eq_true rfl) (by omega) (s_X6_inHat h) ?_
          refine j_goto 141 dX7_of_137 (by decide) ?_
          refine j_iret dX7_of_141 rfl ?_
          exact ⟨by
            unfold ofV
            rw [Classical.not_not.mp c_123, if_neg (by decide), if_neg (by decide), if_neg (by decide), if_neg (by decide), if_pos rfl, if_pos (Classical.not_not.mp c_127)], rfl⟩
        refine j_ild1 dX7_of_93 ?_
        refine j_ifne 120 dX7_of_94 (by decide) (fun c_94 => ?_) (fun c_94 => ?_)
        · refine j_ild2 dX7_of_120 ?_
          refine j_bipush (15) dX7_of_121 rfl ?_
          refine j_icmpne 140 dX7_of_123 (by decide) (fun c_123 => ?_) (fun c_123 => ?_)
          · refine j_iconst (-1) dX7_of_140 rfl ?_
            refine j_iret dX7_of_141 rfl ?_
            exact ⟨by
              unfold ofV
              rw [Classical.not_not.mp c_90, if_neg (by decide), if_neg (by decide), if_neg (by decide), if_pos rfl, if_neg c_94], rfl⟩
          refine j_ild1 dX7_of_126 ?_
          refine j_ifne 140 dX7_of_127 (by decide) (fun c_127 => ?_) (fun c_127 => ?_)
          · refine j_iconst (-1) dX7_of_140 rfl ?_
            refine j_iret dX7_of_141 rfl ?_
            exact absurd ((Classical.not_not.mp c_90).symm.trans (Classical.not_not.mp c_123)) (by decide)
          refine j_ald0 dX7_of_130 ?_
          refine j_getR (k := 0) (1) dX7_of_131 cX7_ok (Or.inl f7_12) rfl (by decide) (by decide) (by decide) rfl ?_
          refine j_cV0 dX7_of_134 kX6_inHat l7_120 rfl (by decide) rfl (Nat.le_of_ble_eq_true rfl) (Nat.le_of_ble_eq_true rfl) (by omega) (s_X6_inHat h) ?_
          refine j_goto 141 dX7_of_137 (by decide) ?_
          refine j_iret dX7_of_141 rfl ?_
          exact absurd ((Classical.not_not.mp c_90).symm.trans (Classical.not_not.mp c_123)) (by decide)
        refine j_ald0 dX7_of_97 ?_
        refine j_getR (k := 4) (5) dX7_of_98 cX7_ok (Or.inl f7_42) rfl (by decide) (by decide) (by decide) rfl ?_
        refine j_getI (k := 3) dX7_of_101 cX1_ok (Or.inr ⟨_, f7_117⟩) rfl (by decide) (by decide) (by decide) ?_
        refine j_ifge 112 dX7_of_104 (by decide) (fun c_104 => ?_) (fun c_104 => ?_)
        · refine j_ald0 dX7_of_112 ?_
          refine j_getR (k := 4) (5) dX7_of_113 cX7_ok (Or.inl f7_42) rfl (by decide) (by decide) (by decide) rfl ?_
          refine j_getI (k := 3) dX7_of_116 cX1_ok (Or.inr ⟨_, f7_117⟩) rfl (by decide) (by decide) (by decide) ?_
          refine j_iret dX7_of_119 rfl ?_
          exact ⟨by
            unfold ofV
            rw [Classical.not_not.mp c_90, if_neg (by decide), if_neg (by decide), if_neg (by decide), if_pos rfl, if_pos (Classical.not_not.mp c_94), if_neg (Int32.not_lt.mpr c_104)], rfl⟩
        refine j_bipush (-2) dX7_of_107 rfl ?_
        refine j_goto 119 dX7_of_109 (by decide) ?_
        refine j_iret dX7_of_119 rfl ?_
        exact ⟨by
          unfold ofV
          rw [Classical.not_not.mp c_90, if_neg (by decide), if_neg (by decide), if_neg (by decide), if_pos rfl, if_pos (Classical.not_not.mp c_94), if_pos (Int32.not_le.mp c_104)], rfl⟩
      refine j_ild1 dX7_of_64 ?_
      refine j_bipush (6) dX7_of_65 rfl ?_
      refine j_cS2 dX7_of_67 kX7_within zX7_within (Or.inl l7_72) (Nat.le_of_ble_eq_true rfl) (Nat.le_of_ble_eq_true rfl) (by omega) (s_X7_within) ?_
      refine j_ifeqB 85 dX7_of_70 (by decide) (fun c_70 => ?_) (fun c_70 => ?_)
      · refine j_iconst (-1) dX7_of_85 rfl ?_
        refine j_iret dX7_of_86 rfl ?_
        exact ⟨by
          unfold ofV
          rw [Classical.not_not.mp c_61, if_neg (by decide), if_neg (by decide), if_pos rfl, if_neg c_70], rfl⟩
      obtain ⟨i, hi, rfl⟩ := in_nI (n := 6) (by decide) c_70
      have hcl2 : (nI i).toNatClampNeg = i := nI_clamp (by omega)
      refine j_ald0 dX7_of_73 ?_
      refine j_getR (k := 4) (5) dX7_of_74 cX7_ok (Or.inl f7_42) rfl (by decide) (by decide) (by decide) rfl ?_
      refine j_getR (k := 2) (49) dX7_of_77 cX1_ok (Or.inr ⟨_, f7_114⟩) rfl (by decide) (by decide) (by decide) rfl ?_
      refine j_ild1 dX7_of_80 ?_
      refine j_iald (n := i) dX7_of_81 rfl (by decide) rfl (by omega) (by decide) ?_
      refine j_goto 86 dX7_of_82 (by decide) ?_
      refine j_iret dX7_of_86 rfl ?_
      exact ⟨by
        unfold ofV
        rw [Classical.not_not.mp c_61, if_neg (by decide), if_neg (by decide), if_pos rfl, if_pos c_70, hcl2], rfl⟩
    refine j_ild1 dX7_of_30 ?_
    refine j_ald0 dX7_of_31 ?_
    refine j_getR (k := 0) (1) dX7_of_32 cX7_ok (Or.inl f7_12) rfl (by decide) (by decide) (by decide) rfl ?_
    refine j_getI (k := 1) dX7_of_35 cX6_ok (Or.inr ⟨_, f7_91⟩) rfl (by decide) (by decide) (by decide) ?_
    refine j_top (y := nI n) (h.1) ?_
    refine j_cS2 dX7_of_38 kX7_within zX7_within (Or.inl l7_72) (Nat.le_of_ble_eq_true rfl) (Nat.le_of_ble_eq_true rfl) (by omega) (s_X7_within) ?_
    refine j_ifeqB 56 dX7_of_41 (by decide) (fun c_41 => ?_) (fun c_41 => ?_)
    · refine j_iconst (-1) dX7_of_56 rfl ?_
      refine j_iret dX7_of_57 rfl ?_
      exact ⟨by
        unfold ofV
        rw [Classical.not_not.mp c_27, if_neg (by decide), if_pos rfl, if_neg c_41], rfl⟩
    have h8 := h.2.1
    obtain ⟨i, hi, rfl⟩ := in_nI (by omega) c_41
    have hcl2 : (nI i).toNatClampNeg = i := nI_clamp (by omega)
    refine j_ald0 dX7_of_44 ?_
    refine j_getR (k := 4) (5) dX7_of_45 cX7_ok (Or.inl f7_42) rfl (by decide) (by decide) (by decide) rfl ?_
    refine j_getR (k := 1) (48) dX7_of_48 cX1_ok (Or.inr ⟨_, f7_111⟩) rfl (by decide) (by decide) (by decide) rfl ?_
    refine j_ild1 dX7_of_51 ?_
    refine j_iald (n := i) dX7_of_52 rfl (by decide) rfl (by omega) (by decide) ?_
    refine j_goto 57 dX7_of_53 (by decide) ?_
    refine j_iret dX7_of_57 rfl ?_
    exact ⟨by
      unfold ofV
      rw [Classical.not_not.mp c_27, if_neg (by decide), if_pos rfl, if_pos c_41, hcl2], rfl⟩
  obtain ⟨w, hw, rfl⟩ := in_nI (n := 12) (by decide) c_9.1
  have hcl : (nI w).toNatClampNeg = w := nI_clamp (by omega)
  have c_9' := c_9.2
  rw [hcl] at c_9'
  have hnl := numN_le (w := w) h.2.1
  obtain ⟨i, hi, rfl⟩ := in_nI (by omega) c_9'
  have hcl2 : (nI i).toNatClampNeg = i := nI_clamp (by omega)
  refine j_ald0 dX7_of_12 ?_
  refine j_getR (k := 0) (1) dX7_of_13 cX7_ok (Or.inl f7_12) rfl (by decide) (by decide) (by decide) rfl ?_
  refine j_getR (k := 0) (15) dX7_of_16 cX6_ok (Or.inr ⟨_, f7_107⟩) rfl (by decide) (by decide) (by decide) rfl ?_
  refine j_ild2 dX7_of_19 ?_
  refine j_aald (n := w) (16 + w) dX7_of_20 (Or.inr rfl) (by decide) rfl hw (by decide) (fr_vr hw) ?_
  refine j_ild1 dX7_of_21 ?_
  refine j_iald (n := i) dX7_of_22 (ck_vr hw) (by omega) rfl (by omega) (by decide) ?_
  refine j_top (y := nI (v w i)) (h.2.2.1 w hw i (by omega)) ?_
  refine j_iret dX7_of_23 rfl ?_
  exact ⟨by unfold ofV; rw [if_pos c_9.1, hcl, if_pos c_9', hcl2], rfl⟩

end MendOf

