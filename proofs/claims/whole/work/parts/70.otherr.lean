/-! other: the reference -/
section OtherR
variable {a : Nat → Nat} {S : St} {n : Nat} {v : Nat → Nat → Nat} {b : Option (List Line)}
theorem ps60 {i s : Nat} (v : Nat → Nat → Nat) (b : Option (List Line)) : v 0 i * wtN v b i s * 60 / (wtN v b i 0 + wtN v b i 1) = v 0 i * pS v b i s := by
  have w0 := wtN_le v b i 0
  have w1 := wtN_le v b i 1
  rw [part60 (wtN_sum v b i) (by omega), pS, Nat.mul_left_comm]

set_option maxRecDepth 20000 in
theorem lp_X8_other (h : TR n v S) (hw : WRq v b n S) {g : GG} {x p : Int32} {c d : Nat} (hc : c < 6) (hd : d < 6) (kk : ∀ z : Value, J a mX8_other 5 g 189 [.ref (a 61), .int x, .int p, .int (nI c), .int (nI d), .long (lN (lbA v b n c d)), .null, z] [] S) : ∀ (fu : Nat) (i : Nat), n - i < fu → (i ≤ n) → J a mX8_other 5 g 56 [.ref (a 61), .int x, .int p, .int (nI c), .int (nI d), .long (lN (lbA v b i c d)), .null, .int (nI i)] [] S := by
  intro fu
  induction fu with
  | zero => intro i hk; exact absurd hk (Nat.not_lt_zero _)
  | succ fu ih =>
    intro i hk hi
    have hn8 := h.2.1
    have b1 := fun (hi8 : i < 8) => h.2.2.2 1 (by decide) i hi8
    have b2 := fun (hi8 : i < 8) => h.2.2.2 2 (by decide) i hi8
    have b0 := fun (hi8 : i < 8) => h.2.2.2 0 (by decide) i hi8
    rw [show mostN 1 = 5 from rfl] at b1
    rw [show mostN 2 = 5 from rfl] at b2
    rw [show mostN 0 = 9 from rfl] at b0
    refine j_ild7 dX8_other_56 ?_
    refine j_ald0 dX8_other_58 ?_
    refine j_getI (k := 1) dX8_other_59 cX8_ok (Or.inl f8_145) rfl (by decide) (by decide) (by decide) ?_
    refine j_top (y := nI n) (h.1) ?_
    refine j_icmpge 189 dX8_other_62 (by decide) (fun c_62 => ?_) (fun c_62 => ?_)
    · have q_62 : i = n := by have := (nI_leI (a := n) (b := i) (by omega) (by omega)).mp c_62; omega
      subst q_62
      exact kk _
    have q_62 : i < n := Nat.not_le.mp (fun z => c_62 ((nI_leI (a := n) (b := i) (by omega) (by omega)).mpr z))
    have hi8 : i < 8 := by omega
    have b1 := b1 hi8
    have b2 := b2 hi8
    have b0 := b0 hi8
    have w0 := wtN_le v b i 0
    have w1 := wtN_le v b i 1
    have w2 := wtN_sum v b i
    have m0 : v 0 i * wtN v b i 0 ≤ 9 * 3 := Nat.mul_le_mul b0 w0
    have m1 : v 0 i * wtN v b i 1 ≤ 9 * 3 := Nat.mul_le_mul b0 w1
    refine j_ald0 dX8_other_65 ?_
    refine j_getR (k := 3) (63) dX8_other_66 cX8_ok (Or.inl f8_15) rfl (by decide) (by decide) (by decide) rfl ?_
    refine j_ild7 dX8_other_69 ?_
    refine j_iald (n := i) dX8_other_71 rfl (by decide) rfl (by omega) (by decide) ?_
    refine j_top (y := nI (v 1 i)) (h.first hi8) ?_
    refine j_ild3 dX8_other_72 ?_
    refine j_icmpne 123 dX8_other_73 (by decide) (fun c_73 => ?_) (fun c_73 => ?_)
    · have q_33_0 : ¬ v 1 i = c := fun z => c_73 (by rw [z])
      refine j_ald0 dX8_other_123 ?_
      refine j_getR (k := 4) (64) dX8_other_124 cX8_ok (Or.inl f8_18) rfl (by decide) (by decide) (by decide) rfl ?_
      refine j_ild7 dX8_other_127 ?_
      refine j_iald (n := i) dX8_other_129 rfl (by decide) rfl (by omega) (by decide) ?_
      refine j_top (y := nI (v 2 i)) (h.second hi8) ?_
      refine j_ild3 dX8_other_130 ?_
      refine j_icmpne 183 dX8_other_131 (by decide) (fun c_131 => ?_) (fun c_131 => ?_)
      · have q_33_1 : ¬ v 2 i = c := fun z => c_131 (by rw [z])
        refine j_iinc7 (nI (i + 1)) dX8_other_183 (nI_1 i) rfl (by decide) ?_
        refine j_goto 56 dX8_other_186 (by decide) ?_
        have e : lbA v b (i + 1) c d = lbA v b i c d := by
          rw [lbA, sumN, lb, if_neg (fun z => q_33_0 z.1), if_neg (fun z => q_33_1 z.1), Nat.add_zero]
          rfl
        have := ih (i + 1) (by omega) (by omega)
        rw [e] at this
        exact this
      have q_33_1 : v 2 i = c := (nI_eq (by omega) (by omega)).mp (Classical.not_not.mp c_131)
      refine j_ald0 dX8_other_134 ?_
      refine j_getR (k := 3) (63) dX8_other_135 cX8_ok (Or.inl f8_15) rfl (by decide) (by decide) (by decide) rfl ?_
      refine j_ild7 dX8_other_138 ?_
      refine j_iald (n := i) dX8_other_140 rfl (by decide) rfl (by omega) (by decide) ?_
      refine j_top (y := nI (v 1 i)) (h.first hi8) ?_
      refine j_ild4 dX8_other_141 ?_
      refine j_icmpne 183 dX8_other_143 (by decide) (fun c_143 => ?_) (fun c_143 => ?_)
      · have q_47_1 : ¬ v 1 i = d := fun z => c_143 (by rw [z])
        refine j_iinc7 (nI (i + 1)) dX8_other_183 (nI_1 i) rfl (by decide) ?_
        refine j_goto 56 dX8_other_186 (by decide) ?_
        have e : lbA v b (i + 1) c d = lbA v b i c d := by
          rw [lbA, sumN, lb, if_neg (fun z => q_33_0 z.1), if_neg (fun z => q_47_1 z.2), Nat.add_zero]
          rfl
        have := ih (i + 1) (by omega) (by omega)
        rw [e] at this
        exact this
      have q_47_1 : v 1 i = d := (nI_eq (by omega) (by omega)).mp (Classical.not_not.mp c_143)
      refine j_lld5 dX8_other_146 ?_
      refine j_ald0 dX8_other_148 ?_
      refine j_getR (k := 2) (62) dX8_other_149 cX8_ok (Or.inl f8_9) rfl (by decide) (by decide) (by decide) rfl ?_
      refine j_ild7 dX8_other_152 ?_
      refine j_iald (n := i) dX8_other_154 rfl (by decide) rfl (by omega) (by decide) ?_
      refine j_top (y := nI (v 0 i)) (h.many hi8) ?_
      refine j_ald0 dX8_other_155 ?_
      refine j_getR (k := 37) (86) dX8_other_156 cX8_ok (Or.inl f8_96) rfl (by decide) (by decide) (by decide) rfl ?_
      refine j_iconst (2) dX8_other_159 rfl ?_
      refine j_ild7 dX8_other_160 ?_
      refine j_imul dX8_other_162 ?_
      refine j_top (y := nI (2 * i)) (by exact pk_mul 2 i) ?_
      refine j_iconst (1) dX8_other_163 rfl ?_
      refine j_iadd dX8_other_164 ?_
      refine j_top (y := nI (2 * i + 1)) (nI_1 _) ?_
      refine j_iald (n := (2 * i + 1)) dX8_other_165 rfl (by decide) rfl (by omega) (by decide) ?_
      refine j_top (y := nI (wtN v b i 1)) (hw i q_62).2 ?_
      refine j_imul dX8_other_166 ?_
      refine j_top (y := nI (v 0 i * wtN v b i 1)) (pk_mul _ _) ?_
      refine j_i2l dX8_other_167 ?_
      refine j_topL (y := lN (v 0 i * wtN v b i 1)) (nI_l (by omega)) ?_
      refine j_ldc2_w (v := 60) dX8_other_168 q8_278 ?_
      refine j_lmul dX8_other_171 ?_
      refine j_topL (y := lN (v 0 i * wtN v b i 1 * 60)) (lN_mul _ 60) ?_
      refine j_ald0 dX8_other_172 ?_
      refine j_ild7 dX8_other_173 ?_
      refine j_cV1 dX8_other_175 kX8_sumOf l8_280 rfl (by decide) rfl (Nat.le_of_ble_eq_true rfl) (Nat.le_of_ble_eq_true rfl) (by omega) (s_X8_sumOf hw hn8 q_62) ?_
      refine j_i2l dX8_other_178 ?_
      refine j_topL (y := lN (wtN v b i 0 + wtN v b i 1)) (nI_l (by omega)) ?_
      refine j_ldiv dX8_other_179 (fun z => absurd ((lN_eq0 (by omega)).mp z) (by omega)) ?_
      refine j_topL (y := lN (v 0 i * pS v b i 1)) (by rw [pk_lDiv (by omega) (by omega) (by omega), ps60]) ?_
      refine j_ladd dX8_other_180 ?_
      refine j_topL (y := lN (lbA v b i c d + v 0 i * pS v b i 1)) (lN_add _ _) ?_
      refine j_lst5 dX8_other_181 rfl (by decide) ?_
      refine j_iinc7 (nI (i + 1)) dX8_other_183 (nI_1 i) rfl (by decide) ?_
      refine j_goto 56 dX8_other_186 (by decide) ?_
      have e : lbA v b (i + 1) c d = lbA v b i c d + v 0 i * pS v b i 1 := by
        rw [lbA, sumN, lb, if_neg (fun z => q_33_0 z.1), if_pos ⟨q_33_1, q_47_1⟩, Nat.zero_add]
        rfl
      have := ih (i + 1) (by omega) (by omega)
      rw [e] at this
      exact this
    have q_33_0 : v 1 i = c := (nI_eq (by omega) (by omega)).mp (Classical.not_not.mp c_73)
    refine j_ald0 dX8_other_76 ?_
    refine j_getR (k := 4) (64) dX8_other_77 cX8_ok (Or.inl f8_18) rfl (by decide) (by decide) (by decide) rfl ?_
    refine j_ild7 dX8_other_80 ?_
    refine j_iald (n := i) dX8_other_82 rfl (by decide) rfl (by omega) (by decide) ?_
    refine j_top (y := nI (v 2 i)) (h.second hi8) ?_
    refine j_ild4 dX8_other_83 ?_
    refine j_icmpne 123 dX8_other_85 (by decide) (fun c_85 => ?_) (fun c_85 => ?_)
    · have q_47_0 : ¬ v 2 i = d := fun z => c_85 (by rw [z])
      refine j_ald0 dX8_other_123 ?_
      refine j_getR (k := 4) (64) dX8_other_124 cX8_ok (Or.inl f8_18) rfl (by decide) (by decide) (by decide) rfl ?_
      refine j_ild7 dX8_other_127 ?_
      refine j_iald (n := i) dX8_other_129 rfl (by decide) rfl (by omega) (by decide) ?_
      refine j_top (y := nI (v 2 i)) (h.second hi8) ?_
      refine j_ild3 dX8_other_130 ?_
      refine j_icmpne 183 dX8_other_131 (by decide) (fun c_131 => ?_) (fun c_131 => ?_)
      · have q_33_1 : ¬ v 2 i = c := fun z => c_131 (by rw [z])
        refine j_iinc7 (nI (i + 1)) dX8_other_183 (nI_1 i) rfl (by decide) ?_
        refine j_goto 56 dX8_other_186 (by decide) ?_
        have e : lbA v b (i + 1) c d = lbA v b i c d := by
          rw [lbA, sumN, lb, if_neg (fun z => q_47_0 z.2), if_neg (fun z => q_33_1 z.1), Nat.add_zero]
          rfl
        have := ih (i + 1) (by omega) (by omega)
        rw [e] at this
        exact this
      have q_33_1 : v 2 i = c := (nI_eq (by omega) (by omega)).mp (Classical.not_not.mp c_131)
      refine j_ald0 dX8_other_134 ?_
      refine j_getR (k := 3) (63) dX8_other_135 cX8_ok (Or.inl f8_15) rfl (by decide) (by decide) (by decide) rfl ?_
      refine j_ild7 dX8_other_138 ?_
      refine j_iald (n := i) dX8_other_140 rfl (by decide) rfl (by omega) (by decide) ?_
      refine j_top (y := nI (v 1 i)) (h.first hi8) ?_
      refine j_ild4 dX8_other_141 ?_
      refine j_icmpne 183 dX8_other_143 (by decide) (fun c_143 => ?_) (fun c_143 => ?_)
      · have q_47_1 : ¬ v 1 i = d := fun z => c_143 (by rw [z])
        refine j_iinc7 (nI (i + 1)) dX8_other_183 (nI_1 i) rfl (by decide) ?_
        refine j_goto 56 dX8_other_186 (by decide) ?_
        have e : lbA v b (i + 1) c d = lbA v b i c d := by
          rw [lbA, sumN, lb, if_neg (fun z => q_47_0 z.2), if_neg (fun z => q_47_1 z.2), Nat.add_zero]
          rfl
        have := ih (i + 1) (by omega) (by omega)
        rw [e] at this
        exact this
      have q_47_1 : v 1 i = d := (nI_eq (by omega) (by omega)).mp (Classical.not_not.mp c_143)
      refine j_lld5 dX8_other_146 ?_
      refine j_ald0 dX8_other_148 ?_
      refine j_getR (k := 2) (62) dX8_other_149 cX8_ok (Or.inl f8_9) rfl (by decide) (by decide) (by decide) rfl ?_
      refine j_ild7 dX8_other_152 ?_
      refine j_iald (n := i) dX8_other_154 rfl (by decide) rfl (by omega) (by decide) ?_
      refine j_top (y := nI (v 0 i)) (h.many hi8) ?_
      refine j_ald0 dX8_other_155 ?_
      refine j_getR (k := 37) (86) dX8_other_156 cX8_ok (Or.inl f8_96) rfl (by decide) (by decide) (by decide) rfl ?_
      refine j_iconst (2) dX8_other_159 rfl ?_
      refine j_ild7 dX8_other_160 ?_
      refine j_imul dX8_other_162 ?_
      refine j_top (y := nI (2 * i)) (by exact pk_mul 2 i) ?_
      refine j_iconst (1) dX8_other_163 rfl ?_
      refine j_iadd dX8_other_164 ?_
      refine j_top (y := nI (2 * i + 1)) (nI_1 _) ?_
      refine j_iald (n := (2 * i + 1)) dX8_other_165 rfl (by decide) rfl (by omega) (by decide) ?_
      refine j_top (y := nI (wtN v b i 1)) (hw i q_62).2 ?_
      refine j_imul dX8_other_166 ?_
      refine j_top (y := nI (v 0 i * wtN v b i 1)) (pk_mul _ _) ?_
      refine j_i2l dX8_other_167 ?_
      refine j_topL (y := lN (v 0 i * wtN v b i 1)) (nI_l (by omega)) ?_
      refine j_ldc2_w (v := 60) dX8_other_168 q8_278 ?_
      refine j_lmul dX8_other_171 ?_
      refine j_topL (y := lN (v 0 i * wtN v b i 1 * 60)) (lN_mul _ 60) ?_
      refine j_ald0 dX8_other_172 ?_
      refine j_ild7 dX8_other_173 ?_
      refine j_cV1 dX8_other_175 kX8_sumOf l8_280 rfl (by decide) rfl (Nat.le_of_ble_eq_true rfl) (Nat.le_of_ble_eq_true rfl) (by omega) (s_X8_sumOf hw hn8 q_62) ?_
      refine j_i2l dX8_other_178 ?_
      refine j_topL (y := lN (wtN v b i 0 + wtN v b i 1)) (nI_l (by omega)) ?_
      refine j_ldiv dX8_other_179 (fun z => absurd ((lN_eq0 (by omega)).mp z) (by omega)) ?_
      refine j_topL (y := lN (v 0 i * pS v b i 1)) (by rw [pk_lDiv (by omega) (by omega) (by omega), ps60]) ?_
      refine j_ladd dX8_other_180 ?_
      refine j_topL (y := lN (lbA v b i c d + v 0 i * pS v b i 1)) (lN_add _ _) ?_
      refine j_lst5 dX8_other_181 rfl (by decide) ?_
      refine j_iinc7 (nI (i + 1)) dX8_other_183 (nI_1 i) rfl (by decide) ?_
      refine j_goto 56 dX8_other_186 (by decide) ?_
      have e : lbA v b (i + 1) c d = lbA v b i c d + v 0 i * pS v b i 1 := by
        rw [lbA, sumN, lb, if_neg (fun z => q_47_0 z.2), if_pos ⟨q_33_1, q_47_1⟩, Nat.zero_add]
        rfl
      have := ih (i + 1) (by omega) (by omega)
      rw [e] at this
      exact this
    have q_47_0 : v 2 i = d := (nI_eq (by omega) (by omega)).mp (Classical.not_not.mp c_85)
    refine j_lld5 dX8_other_88 ?_
    refine j_ald0 dX8_other_90 ?_
    refine j_getR (k := 2) (62) dX8_other_91 cX8_ok (Or.inl f8_9) rfl (by decide) (by decide) (by decide) rfl ?_
    refine j_ild7 dX8_other_94 ?_
    refine j_iald (n := i) dX8_other_96 rfl (by decide) rfl (by omega) (by decide) ?_
    refine j_top (y := nI (v 0 i)) (h.many hi8) ?_
    refine j_ald0 dX8_other_97 ?_
    refine j_getR (k := 37) (86) dX8_other_98 cX8_ok (Or.inl f8_96) rfl (by decide) (by decide) (by decide) rfl ?_
    refine j_iconst (2) dX8_other_101 rfl ?_
    refine j_ild7 dX8_other_102 ?_
    refine j_imul dX8_other_104 ?_
    refine j_top (y := nI (2 * i)) (by exact pk_mul 2 i) ?_
    refine j_iald (n := (2 * i)) dX8_other_105 rfl (by decide) rfl (by omega) (by decide) ?_
    refine j_top (y := nI (wtN v b i 0)) (hw i q_62).1 ?_
    refine j_imul dX8_other_106 ?_
    refine j_top (y := nI (v 0 i * wtN v b i 0)) (pk_mul _ _) ?_
    refine j_i2l dX8_other_107 ?_
    refine j_topL (y := lN (v 0 i * wtN v b i 0)) (nI_l (by omega)) ?_
    refine j_ldc2_w (v := 60) dX8_other_108 q8_278 ?_
    refine j_lmul dX8_other_111 ?_
    refine j_topL (y := lN (v 0 i * wtN v b i 0 * 60)) (lN_mul _ 60) ?_
    refine j_ald0 dX8_other_112 ?_
    refine j_ild7 dX8_other_113 ?_
    refine j_cV1 dX8_other_115 kX8_sumOf l8_280 rfl (by decide) rfl (Nat.le_of_ble_eq_true rfl) (Nat.le_of_ble_eq_true rfl) (by omega) (s_X8_sumOf hw hn8 q_62) ?_
    refine j_i2l dX8_other_118 ?_
    refine j_topL (y := lN (wtN v b i 0 + wtN v b i 1)) (nI_l (by omega)) ?_
    refine j_ldiv dX8_other_119 (fun z => absurd ((lN_eq0 (by omega)).mp z) (by omega)) ?_
    refine j_topL (y := lN (v 0 i * pS v b i 0)) (by rw [pk_lDiv (by omega) (by omega) (by omega), ps60]) ?_
    refine j_ladd dX8_other_120 ?_
    refine j_topL (y := lN (lbA v b i c d + v 0 i * pS v b i 0)) (lN_add _ _) ?_
    refine j_lst5 dX8_other_121 rfl (by decide) ?_
    refine j_ald0 dX8_other_123 ?_
    refine j_getR (k := 4) (64) dX8_other_124 cX8_ok (Or.inl f8_18) rfl (by decide) (by decide) (by decide) rfl ?_
    refine j_ild7 dX8_other_127 ?_
    refine j_iald (n := i) dX8_other_129 rfl (by decide) rfl (by omega) (by decide) ?_
    refine j_top (y := nI (v 2 i)) (h.second hi8) ?_
    refine j_ild3 dX8_other_130 ?_
    refine j_icmpne 183 dX8_other_131 (by decide) (fun c_131 => ?_) (fun c_131 => ?_)
    · have q_33_1 : ¬ v 2 i = c := fun z => c_131 (by rw [z])
      refine j_iinc7 (nI (i + 1)) dX8_other_183 (nI_1 i) rfl (by decide) ?_
      refine j_goto 56 dX8_other_186 (by decide) ?_
      have e : lbA v b (i + 1) c d = lbA v b i c d + v 0 i * pS v b i 0 := by
        rw [lbA, sumN, lb, if_pos ⟨q_33_0, q_47_0⟩, if_neg (fun z => q_33_1 z.1), Nat.add_zero]
        rfl
      have := ih (i + 1) (by omega) (by omega)
      rw [e] at this
      exact this
    have q_33_1 : v 2 i = c := (nI_eq (by omega) (by omega)).mp (Classical.not_not.mp c_131)
    refine j_ald0 dX8_other_134 ?_
    refine j_getR (k := 3) (63) dX8_other_135 cX8_ok (Or.inl f8_15) rfl (by decide) (by decide) (by decide) rfl ?_
    refine j_ild7 dX8_other_138 ?_
    refine j_iald (n := i) dX8_other_140 rfl (by decide) rfl (by omega) (by decide) ?_
    refine j_top (y := nI (v 1 i)) (h.first hi8) ?_
    refine j_ild4 dX8_other_141 ?_
    refine j_icmpne 183 dX8_other_143 (by decide) (fun c_143 => ?_) (fun c_143 => ?_)
    · have q_47_1 : ¬ v 1 i = d := fun z => c_143 (by rw [z])
      refine j_iinc7 (nI (i + 1)) dX8_other_183 (nI_1 i) rfl (by decide) ?_
      refine j_goto 56 dX8_other_186 (by decide) ?_
      have e : lbA v b (i + 1) c d = lbA v b i c d + v 0 i * pS v b i 0 := by
        rw [lbA, sumN, lb, if_pos ⟨q_33_0, q_47_0⟩, if_neg (fun z => q_47_1 z.2), Nat.add_zero]
        rfl
      have := ih (i + 1) (by omega) (by omega)
      rw [e] at this
      exact this
    have q_47_1 : v 1 i = d := (nI_eq (by omega) (by omega)).mp (Classical.not_not.mp c_143)
    refine j_lld5 dX8_other_146 ?_
    refine j_ald0 dX8_other_148 ?_
    refine j_getR (k := 2) (62) dX8_other_149 cX8_ok (Or.inl f8_9) rfl (by decide) (by decide) (by decide) rfl ?_
    refine j_ild7 dX8_other_152 ?_
    refine j_iald (n := i) dX8_other_154 rfl (by decide) rfl (by omega) (by decide) ?_
    refine j_top (y := nI (v 0 i)) (h.many hi8) ?_
    refine j_ald0 dX8_other_155 ?_
    refine j_getR (k := 37) (86) dX8_other_156 cX8_ok (Or.inl f8_96) rfl (by decide) (by decide) (by decide) rfl ?_
    refine j_iconst (2) dX8_other_159 rfl ?_
    refine j_ild7 dX8_other_160 ?_
    refine j_imul dX8_other_162 ?_
    refine j_top (y := nI (2 * i)) (by exact pk_mul 2 i) ?_
    refine j_iconst (1) dX8_other_163 rfl ?_
    refine j_iadd dX8_other_164 ?_
    refine j_top (y := nI (2 * i + 1)) (nI_1 _) ?_
    refine j_iald (n := (2 * i + 1)) dX8_other_165 rfl (by decide) rfl (by omega) (by decide) ?_
    refine j_top (y := nI (wtN v b i 1)) (hw i q_62).2 ?_
    refine j_imul dX8_other_166 ?_
    refine j_top (y := nI (v 0 i * wtN v b i 1)) (pk_mul _ _) ?_
    refine j_i2l dX8_other_167 ?_
    refine j_topL (y := lN (v 0 i * wtN v b i 1)) (nI_l (by omega)) ?_
    refine j_ldc2_w (v := 60) dX8_other_168 q8_278 ?_
    refine j_lmul dX8_other_171 ?_
    refine j_topL (y := lN (v 0 i * wtN v b i 1 * 60)) (lN_mul _ 60) ?_
    refine j_ald0 dX8_other_172 ?_
    refine j_ild7 dX8_other_173 ?_
    refine j_cV1 dX8_other_175 kX8_sumOf l8_280 rfl (by decide) rfl (Nat.le_of_ble_eq_true rfl) (Nat.le_of_ble_eq_true rfl) (by omega) (s_X8_sumOf hw hn8 q_62) ?_
    refine j_i2l dX8_other_178 ?_
    refine j_topL (y := lN (wtN v b i 0 + wtN v b i 1)) (nI_l (by omega)) ?_
    refine j_ldiv dX8_other_179 (fun z => absurd ((lN_eq0 (by omega)).mp z) (by omega)) ?_
    refine j_topL (y := lN (v 0 i * pS v b i 1)) (by rw [pk_lDiv (by omega) (by omega) (by omega), ps60]) ?_
    refine j_ladd dX8_other_180 ?_
    refine j_topL (y := lN (lbA v b i c d + v 0 i * pS v b i 0 + v 0 i * pS v b i 1)) (lN_add _ _) ?_
    refine j_lst5 dX8_other_181 rfl (by decide) ?_
    refine j_iinc7 (nI (i + 1)) dX8_other_183 (nI_1 i) rfl (by decide) ?_
    refine j_goto 56 dX8_other_186 (by decide) ?_
    have e : lbA v b (i + 1) c d = lbA v b i c d + v 0 i * pS v b i 0 + v 0 i * pS v b i 1 := by
      rw [lbA, sumN, lb, if_pos ⟨q_33_0, q_47_0⟩, if_pos ⟨q_33_1, q_47_1⟩, ← Nat.add_assoc]
      rfl
    have := ih (i + 1) (by omega) (by omega)
    rw [e] at this
    exact this

set_option maxRecDepth 20000 in
theorem s_X8_other_ok {x p : Int32} (h : TR n v S) (hb : LawR b S) (hg : GoodB b) (hk : otOk x p) : Rql a mX8_other 5 [.ref (a 61), .int x, .int p] S fun z S' => z = otV v b n x p ∧ Kp [14, 18] S S' := by
  show J _ _ _ _ 0 [_, _, _, .null, .null, .null, .null, .null] [] _
  have hn8 := h.2.1
  obtain ⟨c, d, hc, hd, e1, e2, f1, f2⟩ := ot_nat hk
  have l1 := lkA_62 (b := b) (c := c) (k := 1) h.2.2.2 hn8 (by decide)
  have l2 := lbA_le (b := b) (c := c) (d := d) h.2.2.2 hn8
  refine j_ild1 dX8_other_0 ?_
  refine j_iflt 31 dX8_other_1 (by decide) (fun c_1 => absurd c_1 (Int32.not_lt.mpr hk.1)) (fun c_1 => ?_)
  refine j_ild1 dX8_other_4 ?_
  refine j_bipush (10) dX8_other_5 rfl ?_
  refine j_idiv dX8_other_7 (by decide) ?_
  refine j_cS1 dX8_other_8 kX8_isColour zX8_isColour (Or.inl l8_152) (Nat.le_of_ble_eq_true rfl) (Nat.le_of_ble_eq_true rfl) (by omega) (s_X8_isColour) ?_
  refine j_ifeqB 31 dX8_other_11 (by decide) (fun c_11 => absurd c_11 (not_not_intro ⟨ck_div0 hk.1, hk.2.1⟩)) (fun c_11 => ?_)
  refine j_ild1 dX8_other_14 ?_
  refine j_bipush (10) dX8_other_15 rfl ?_
  refine j_irem dX8_other_17 (by decide) ?_
  refine j_cS1 dX8_other_18 kX8_isColour zX8_isColour (Or.inl l8_152) (Nat.le_of_ble_eq_true rfl) (Nat.le_of_ble_eq_true rfl) (by omega) (s_X8_isColour) ?_
  refine j_ifeqB 31 dX8_other_21 (by decide) (fun c_21 => absurd c_21 (not_not_intro hk.2.2.1)) (fun c_21 => ?_)
  refine j_ild2 dX8_other_24 ?_
  refine j_cS1 dX8_other_25 kX8_isPart zX8_isPart (Or.inl l8_291) (Nat.le_of_ble_eq_true rfl) (Nat.le_of_ble_eq_true rfl) (by omega) (s_X8_isPart) ?_
  refine j_ifneB 35 dX8_other_28 (by decide) (fun c_28 => ?_) (fun c_28 => absurd (hk.2.2.2) c_28)
  refine j_ald0 dX8_other_35 ?_
  refine j_qvV0 dX8_other_36 kX8_findWeights l8_275 rfl (by decide) rfl (Nat.le_of_ble_eq_true rfl) (Nat.le_of_ble_eq_true rfl) (by omega) (s_X8_findWeights h hb hg) (fun S1 h1 => ?_)
  obtain ⟨hkp, hw⟩ := h1
  refine j_ild1 dX8_other_39 ?_
  refine j_bipush (10) dX8_other_40 rfl ?_
  refine j_idiv dX8_other_42 (by decide) ?_
  refine j_top (y := nI c) (e1) ?_
  refine j_ist3 dX8_other_43 rfl (by decide) ?_
  refine j_ild1 dX8_other_44 ?_
  refine j_bipush (10) dX8_other_45 rfl ?_
  refine j_irem dX8_other_47 (by decide) ?_
  refine j_top (y := nI d) (e2) ?_
  refine j_ist4 dX8_other_48 rfl (by decide) ?_
  refine j_lconst (0) dX8_other_50 rfl ?_
  refine j_lst5 dX8_other_51 rfl (by decide) ?_
  refine j_iconst (0) dX8_other_53 rfl ?_
  refine j_ist7 dX8_other_54 rfl (by decide) ?_
  refine (lp_X8_other (h.kp hkp (by decide)) hw hc hd (fun z => ?_) (n + 1) 0 (by omega) (by omega))
  refine j_lld5 dX8_other_189 ?_
  refine j_ald0 dX8_other_191 ?_
  refine j_ild3 dX8_other_192 ?_
  refine j_iconst (1) dX8_other_193 rfl ?_
  refine j_cV2 dX8_other_194 kX8_allShow l8_296 rfl (by decide) rfl (Nat.le_of_ble_eq_true rfl) (Nat.le_of_ble_eq_true rfl) (by omega) (s_X8_allShow (k := 1) (h.kp hkp (by decide)) hw (by omega) (by decide)) ?_
  refine j_ild2 dX8_other_197 ?_
  refine j_cS3 dX8_other_198 kX8_asPart zX8_asPart (Or.inl l8_299) (Nat.le_of_ble_eq_true rfl) (Nat.le_of_ble_eq_true rfl) (by omega) (s_X8_asPart (by omega) (by omega) (prt_or hk.2.2.2)) ?_
  refine j_lret dX8_other_201 rfl ?_
  exact ⟨_, rfl, by rw [otV, f1, f2], hkp⟩

set_option maxRecDepth 20000 in
theorem s_X8_other_bad {x p : Int32} (hk : ¬ otOk x p) : Rt a mX8_other 5 [.ref (a 61), .int x, .int p] S (some (.long (-9223372036854775808))) S := by
  show J _ _ _ _ 0 [_, _, _, .null, .null, .null, .null, .null] [] _
  refine j_ild1 dX8_other_0 ?_
  refine j_iflt 31 dX8_other_1 (by decide) (fun c_1 => ?_) (fun c_1 => ?_)
  · refine j_ldc2_w (v := -9223372036854775808) dX8_other_31 q8_294 ?_
    refine j_lret dX8_other_34 rfl ?_
    exact ⟨rfl, rfl⟩
  refine j_ild1 dX8_other_4 ?_
  refine j_bipush (10) dX8_other_5 rfl ?_
  refine j_idiv dX8_other_7 (by decide) ?_
  refine j_cS1 dX8_other_8 kX8_isColour zX8_isColour (Or.inl l8_152) (Nat.le_of_ble_eq_true rfl) (Nat.le_of_ble_eq_true rfl) (by omega) (s_X8_isColour) ?_
  refine j_ifeqB 31 dX8_other_11 (by decide) (fun c_11 => ?_) (fun c_11 => ?_)
  · refine j_ldc2_w (v := -9223372036854775808) dX8_other_31 q8_294 ?_
    refine j_lret dX8_other_34 rfl ?_
    exact ⟨rfl, rfl⟩
  refine j_ild1 dX8_other_14 ?_
  refine j_bipush (10) dX8_other_15 rfl ?_
  refine j_irem dX8_other_17 (by decide) ?_
  refine j_cS1 dX8_other_18 kX8_isColour zX8_isColour (Or.inl l8_152) (Nat.le_of_ble_eq_true rfl) (Nat.le_of_ble_eq_true rfl) (by omega) (s_X8_isColour) ?_
  refine j_ifeqB 31 dX8_other_21 (by decide) (fun c_21 => ?_) (fun c_21 => ?_)
  · refine j_ldc2_w (v := -9223372036854775808) dX8_other_31 q8_294 ?_
    refine j_lret dX8_other_34 rfl ?_
    exact ⟨rfl, rfl⟩
  refine j_ild2 dX8_other_24 ?_
  refine j_cS1 dX8_other_25 kX8_isPart zX8_isPart (Or.inl l8_291) (Nat.le_of_ble_eq_true rfl) (Nat.le_of_ble_eq_true rfl) (by omega) (s_X8_isPart) ?_
  refine j_ifneB 35 dX8_other_28 (by decide) (fun c_28 => ?_) (fun c_28 => ?_)
  · exact absurd ⟨Int32.not_lt.mp c_1, c_11.2, c_21, c_28⟩ hk
  refine j_ldc2_w (v := -9223372036854775808) dX8_other_31 q8_294 ?_
  refine j_lret dX8_other_34 rfl ?_
  exact ⟨rfl, rfl⟩

end OtherR
