/-! what a law gives: the class -/
theorem jn_59 : ∀ lvl : Nat, ¬ jn lvl 59 = true ∧ ¬ jn lvl 63 = true
  | 0 => by decide
  | 1 => by decide
  | 2 => by decide
  | 3 => by decide
  | n + 4 => by simp [jn]
theorem OkI.ne {x : Int32} (h : OkI x) : ¬ x = -59 ∧ ¬ x = -63 := by
  constructor <;> rintro rfl
  · rcases h with h | h | h | h | ⟨l, h⟩
    · exact absurd h (by decide)
    · exact absurd h (by decide)
    · exact absurd h (by decide)
    · exact absurd h (by decide)
    · exact absurd h (jn_59 l).1
  · rcases h with h | h | h | h | ⟨l, h⟩
    · exact absurd h (by decide)
    · exact absurd h (by decide)
    · exact absurd h (by decide)
    · exact absurd h (by decide)
    · exact absurd h (jn_59 l).2
theorem getD_at {l1 l2 : List Int32} (j : Nat) : (l1 ++ l2).getD (l1.length + j) 0 = l2.getD j 0 := by
  simp [List.getD, List.getElem?_append_right]
section ValC
variable {a : Nat → Nat} {S0 S : St} {e : Nat → Int32}
/-- while a law is worked out: the stack -/
def VCq (S0 : St) (e : Nat → Int32) (st : List Int32) (S : St) : Prop := Kp [4] S0 S ∧ (∀ k, k < 5 → S.1 2 (10 + k) = e k) ∧ S.1 2 9 = nI st.length ∧ ∀ i, i < st.length → S.1 35 i = st.getD (st.length - 1 - i) 0

set_option maxRecDepth 20000 in
theorem s_X2_push {x : Int32} {st : List Int32} (hl : st.length < 128) (h : VCq S0 e st S) : Rqv a mX2_push 0 [.ref (a 2), .int x] S (VCq S0 e (x :: st)) := by
  show J _ _ _ _ 0 [_, _] [] _
  refine j_ald0 dX2_push_0 ?_
  refine j_getI (k := 9) dX2_push_1 cX2_ok (Or.inl f2_113) rfl (by decide) (by decide) (by decide) ?_
  refine j_top (y := nI st.length) (h.2.2.1) ?_
  refine j_ald0 dX2_push_4 ?_
  refine j_getR (k := 8) (35) dX2_push_5 cX2_ok (Or.inl f2_21) rfl (by decide) (by decide) (by decide) rfl ?_
  refine j_alen (kd := 0) (v := 128) dX2_push_8 rfl (by decide) rfl ?_
  refine j_icmpge 32 dX2_push_9 (by decide) (fun c_9 => absurd c_9 (fun z => absurd ((nI_leI (a := 128) (b := st.length) (by decide) (by omega)).mp z) (by omega))) (fun c_9 => ?_)
  refine j_ald0 dX2_push_12 ?_
  refine j_getR (k := 8) (35) dX2_push_13 cX2_ok (Or.inl f2_21) rfl (by decide) (by decide) (by decide) rfl ?_
  refine j_ald0 dX2_push_16 ?_
  refine j_getI (k := 9) dX2_push_17 cX2_ok (Or.inl f2_113) rfl (by decide) (by decide) (by decide) ?_
  refine j_top (y := nI st.length) (h.2.2.1) ?_
  refine j_ild1 dX2_push_20 ?_
  refine j_iast (n := st.length) dX2_push_21 rfl (by decide) rfl hl (by decide) ?_
  refine j_ald0 dX2_push_22 ?_
  refine j_dup dX2_push_23 rfl ?_
  refine j_getI (k := 9) dX2_push_24 cX2_ok (Or.inl f2_113) rfl (by decide) (by decide) (by decide) ?_
  refine j_top (y := nI st.length) (by rw [uI_at, if_neg (by omega)]; exact h.2.2.1) ?_
  refine j_iconst (1) dX2_push_27 rfl ?_
  refine j_iadd dX2_push_28 ?_
  refine j_top (y := nI (st.length + 1)) (nI_1 _) ?_
  refine j_putI (k := 9) dX2_push_29 cX2_ok (Or.inl f2_113) rfl (by decide) (by decide) (by decide) rfl ?_
  refine j_vret dX2_push_32 rfl ?_
  refine ⟨rfl, Kp_uI (Kp_uI (h.1) (by show 4 ∈ [4]; decide)) (by decide), fun k hk => ?_, ?_, fun i hi => ?_⟩
  · rw [uI_at, if_neg (by omega), uI_at, if_neg (by omega)]; exact h.2.1 k hk
  · rw [uI_at, if_pos ⟨rfl, rfl⟩]; rfl
  · rw [List.length_cons] at hi ⊢
    rw [uI_at, if_neg (by omega), uI_at]
    by_cases c : i = st.length
    · rw [if_pos ⟨rfl, c⟩, c, show st.length + 1 - 1 - st.length = 0 by omega]; rfl
    · rw [if_neg (fun z => c z.2), show st.length + 1 - 1 - i = (st.length - 1 - i) + 1 by omega]
      exact h.2.2.2 i (by omega)

set_option maxRecDepth 20000 in
theorem s_X2_pop {v : Int32} {st : List Int32} (hl : st.length < 128) (h : VCq S0 e (v :: st) S) : Rqi a mX2_pop 0 [.ref (a 2)] S fun y S' => y = v ∧ VCq S0 e st S' := by
  show J _ _ _ _ 0 [_] [] _
  refine j_ald0 dX2_pop_0 ?_
  refine j_getI (k := 9) dX2_pop_1 cX2_ok (Or.inl f2_113) rfl (by decide) (by decide) (by decide) ?_
  refine j_top (y := nI (st.length + 1)) (h.2.2.1) ?_
  refine j_ifgt 9 dX2_pop_4 (by decide) (fun c_4 => ?_) (fun c_4 => absurd (nI_lt (a := 0) (b := st.length + 1) (by omega) (by omega)) c_4)
  refine j_ald0 dX2_pop_9 ?_
  refine j_dup dX2_pop_10 rfl ?_
  refine j_getI (k := 9) dX2_pop_11 cX2_ok (Or.inl f2_113) rfl (by decide) (by decide) (by decide) ?_
  refine j_top (y := nI (st.length + 1)) (h.2.2.1) ?_
  refine j_iconst (1) dX2_pop_14 rfl ?_
  refine j_isub dX2_pop_15 ?_
  refine j_top (y := nI st.length) (by exact pk_sub (a := st.length + 1) (b := 1) (by omega)) ?_
  refine j_putI (k := 9) dX2_pop_16 cX2_ok (Or.inl f2_113) rfl (by decide) (by decide) (by decide) rfl ?_
  refine j_ald0 dX2_pop_19 ?_
  refine j_getR (k := 8) (35) dX2_pop_20 cX2_ok (Or.inl f2_21) rfl (by decide) (by decide) (by decide) rfl ?_
  refine j_ald0 dX2_pop_23 ?_
  refine j_getI (k := 9) dX2_pop_24 cX2_ok (Or.inl f2_113) rfl (by decide) (by decide) (by decide) ?_
  refine j_top (y := nI st.length) (by rw [uI_at, if_pos ⟨rfl, rfl⟩]) ?_
  refine j_iald (n := st.length) dX2_pop_27 rfl (by decide) rfl (by omega) (by decide) ?_
  refine j_top (y := v) ?_ ?_
  · rw [uI_at, if_neg (by omega), h.2.2.2 st.length (by rw [List.length_cons]; omega), List.length_cons, show st.length + 1 - 1 - st.length = 0 by omega]; rfl
  refine j_iret dX2_pop_28 rfl ?_
  refine ⟨_, rfl, rfl, Kp_uI (h.1) (by decide), fun k hk => ?_, ?_, fun i hi => ?_⟩
  · rw [uI_at, if_neg (by omega)]; exact h.2.1 k hk
  · rw [uI_at, if_pos ⟨rfl, rfl⟩]
  · rw [uI_at, if_neg (by omega), h.2.2.2 i (by rw [List.length_cons]; omega), List.length_cons, show st.length + 1 - 1 - i = (st.length - 1 - i) + 1 by omega]; rfl

set_option maxRecDepth 20000 in
theorem s_X2_joined {x l r : Int32} : Rt a mX2_joined 0 [.int x, .int l, .int r] S (some (.int (twoV x l r)))  S := by
  show J _ _ _ _ 0 [_, _, _] [] _
  refine j_ild0 dX2_joined_0 ?_
  refine j_topi (fun y_1 e_1 => ?_)
  by_cases h_1_38 : y_1 = 38
  · rw [h_1_38] at e_1 ⊢
    refine j_lookup (97) 98 dX2_joined_1 (by decide +kernel) (by decide +kernel) (by decide) ?_
    refine j_ild1 dX2_joined_98 ?_
    refine j_ifeq 110 dX2_joined_99 (by decide) (fun c_99 => ?_) (fun c_99 => ?_)
    · refine j_iconst (0) dX2_joined_110 rfl ?_
      refine j_iret dX2_joined_111 rfl ?_
      subst e_1
      exact ⟨by rw [twoV, if_neg (by decide), if_pos rfl, if_neg (fun z => z.1 c_99)], rfl⟩
    refine j_ild2 dX2_joined_102 ?_
    refine j_ifeq 110 dX2_joined_103 (by decide) (fun c_103 => ?_) (fun c_103 => ?_)
    · refine j_iconst (0) dX2_joined_110 rfl ?_
      refine j_iret dX2_joined_111 rfl ?_
      subst e_1
      exact ⟨by rw [twoV, if_neg (by decide), if_pos rfl, if_neg (fun z => z.2 c_103)], rfl⟩
    refine j_iconst (1) dX2_joined_106 rfl ?_
    refine j_goto 111 dX2_joined_107 (by decide) ?_
    refine j_iret dX2_joined_111 rfl ?_
    subst e_1
    exact ⟨by rw [twoV, if_neg (by decide), if_pos rfl, if_pos ⟨c_99, c_103⟩], rfl⟩
  by_cases h_1_42 : y_1 = 42
  · rw [h_1_42] at e_1 ⊢
    refine j_lookup (152) 153 dX2_joined_1 (by decide +kernel) (by decide +kernel) (by decide) ?_
    refine j_ild1 dX2_joined_153 ?_
    refine j_ild2 dX2_joined_154 ?_
    refine j_imul dX2_joined_155 ?_
    refine j_iret dX2_joined_156 rfl ?_
    subst e_1
    exact ⟨by rw [twoV, if_neg (by decide), if_neg (by decide), if_neg (by decide), if_neg (by decide), if_neg (by decide), if_neg (by decide), if_neg (by decide), if_pos rfl], rfl⟩
  by_cases h_1_43 : y_1 = 43
  · rw [h_1_43] at e_1 ⊢
    refine j_lookup (144) 145 dX2_joined_1 (by decide +kernel) (by decide +kernel) (by decide) ?_
    refine j_ild1 dX2_joined_145 ?_
    refine j_ild2 dX2_joined_146 ?_
    refine j_iadd dX2_joined_147 ?_
    refine j_iret dX2_joined_148 rfl ?_
    subst e_1
    exact ⟨by rw [twoV, if_neg (by decide), if_neg (by decide), if_neg (by decide), if_neg (by decide), if_neg (by decide), if_pos rfl], rfl⟩
  by_cases h_1_45 : y_1 = 45
  · rw [h_1_45] at e_1 ⊢
    refine j_lookup (148) 149 dX2_joined_1 (by decide +kernel) (by decide +kernel) (by decide) ?_
    refine j_ild1 dX2_joined_149 ?_
    refine j_ild2 dX2_joined_150 ?_
    refine j_isub dX2_joined_151 ?_
    refine j_iret dX2_joined_152 rfl ?_
    subst e_1
    exact ⟨by rw [twoV, if_neg (by decide), if_neg (by decide), if_neg (by decide), if_neg (by decide), if_neg (by decide), if_neg (by decide), if_pos rfl], rfl⟩
  by_cases h_1_47 : y_1 = 47
  · rw [h_1_47] at e_1 ⊢
    refine j_lookup (156) 157 dX2_joined_1 (by decide +kernel) (by decide +kernel) (by decide) ?_
    refine j_ild2 dX2_joined_157 ?_
    refine j_ifne 165 dX2_joined_158 (by decide) (fun c_158 => ?_) (fun c_158 => ?_)
    · refine j_ild1 dX2_joined_165 ?_
      refine j_ild2 dX2_joined_166 ?_
      refine j_idiv dX2_joined_167 c_158 ?_
      refine j_iret dX2_joined_168 rfl ?_
      subst e_1
      exact ⟨by rw [twoV, if_neg (by decide), if_neg (by decide), if_neg (by decide), if_neg (by decide), if_neg (by decide), if_neg (by decide), if_neg (by decide), if_neg (by decide), if_pos rfl, if_neg c_158], rfl⟩
    refine j_iconst (0) dX2_joined_161 rfl ?_
    refine j_goto 168 dX2_joined_162 (by decide) ?_
    refine j_iret dX2_joined_168 rfl ?_
    subst e_1
    exact ⟨by rw [twoV, if_neg (by decide), if_neg (by decide), if_neg (by decide), if_neg (by decide), if_neg (by decide), if_neg (by decide), if_neg (by decide), if_neg (by decide), if_pos rfl, if_pos (Classical.not_not.mp c_158)], rfl⟩
  by_cases h_1_60 : y_1 = 60
  · rw [h_1_60] at e_1 ⊢
    refine j_lookup (111) 112 dX2_joined_1 (by decide +kernel) (by decide +kernel) (by decide) ?_
    refine j_ild1 dX2_joined_112 ?_
    refine j_ild2 dX2_joined_113 ?_
    refine j_icmpge 121 dX2_joined_114 (by decide) (fun c_114 => ?_) (fun c_114 => ?_)
    · refine j_iconst (0) dX2_joined_121 rfl ?_
      refine j_iret dX2_joined_122 rfl ?_
      subst e_1
      exact ⟨by rw [twoV, if_neg (by decide), if_neg (by decide), if_pos rfl, if_neg (Int32.not_lt.mpr c_114)], rfl⟩
    refine j_iconst (1) dX2_joined_117 rfl ?_
    refine j_goto 122 dX2_joined_118 (by decide) ?_
    refine j_iret dX2_joined_122 rfl ?_
    subst e_1
    exact ⟨by rw [twoV, if_neg (by decide), if_neg (by decide), if_pos rfl, if_pos (Int32.not_le.mp c_114)], rfl⟩
  by_cases h_1_61 : y_1 = 61
  · rw [h_1_61] at e_1 ⊢
    refine j_lookup (122) 123 dX2_joined_1 (by decide +kernel) (by decide +kernel) (by decide) ?_
    refine j_ild1 dX2_joined_123 ?_
    refine j_ild2 dX2_joined_124 ?_
    refine j_icmpne 132 dX2_joined_125 (by decide) (fun c_125 => ?_) (fun c_125 => ?_)
    · refine j_iconst (0) dX2_joined_132 rfl ?_
      refine j_iret dX2_joined_133 rfl ?_
      subst e_1
      exact ⟨by rw [twoV, if_neg (by decide), if_neg (by decide), if_neg (by decide), if_pos rfl, if_neg c_125], rfl⟩
    refine j_iconst (1) dX2_joined_128 rfl ?_
    refine j_goto 133 dX2_joined_129 (by decide) ?_
    refine j_iret dX2_joined_133 rfl ?_
    subst e_1
    exact ⟨by rw [twoV, if_neg (by decide), if_neg (by decide), if_neg (by decide), if_pos rfl, if_pos (Classical.not_not.mp c_125)], rfl⟩
  by_cases h_1_62 : y_1 = 62
  · rw [h_1_62] at e_1 ⊢
    refine j_lookup (133) 134 dX2_joined_1 (by decide +kernel) (by decide +kernel) (by decide) ?_
    refine j_ild1 dX2_joined_134 ?_
    refine j_ild2 dX2_joined_135 ?_
    refine j_icmple 143 dX2_joined_136 (by decide) (fun c_136 => ?_) (fun c_136 => ?_)
    · refine j_iconst (0) dX2_joined_143 rfl ?_
      refine j_iret dX2_joined_144 rfl ?_
      subst e_1
      exact ⟨by rw [twoV, if_neg (by decide), if_neg (by decide), if_neg (by decide), if_neg (by decide), if_pos rfl, if_neg (Int32.not_lt.mpr c_136)], rfl⟩
    refine j_iconst (1) dX2_joined_139 rfl ?_
    refine j_goto 144 dX2_joined_140 (by decide) ?_
    refine j_iret dX2_joined_144 rfl ?_
    subst e_1
    exact ⟨by rw [twoV, if_neg (by decide), if_neg (by decide), if_neg (by decide), if_neg (by decide), if_pos rfl, if_pos (Int32.not_le.mp c_136)], rfl⟩
  by_cases h_1_124 : y_1 = 124
  · rw [h_1_124] at e_1 ⊢
    refine j_lookup (83) 84 dX2_joined_1 (by decide +kernel) (by decide +kernel) (by decide) ?_
    refine j_ild1 dX2_joined_84 ?_
    refine j_ifne 92 dX2_joined_85 (by decide) (fun c_85 => ?_) (fun c_85 => ?_)
    · refine j_iconst (1) dX2_joined_92 rfl ?_
      refine j_goto 97 dX2_joined_93 (by decide) ?_
      refine j_iret dX2_joined_97 rfl ?_
      subst e_1
      exact ⟨by rw [twoV, if_pos rfl, if_pos (Or.inl c_85)], rfl⟩
    refine j_ild2 dX2_joined_88 ?_
    refine j_ifeq 96 dX2_joined_89 (by decide) (fun c_89 => ?_) (fun c_89 => ?_)
    · refine j_iconst (0) dX2_joined_96 rfl ?_
      refine j_iret dX2_joined_97 rfl ?_
      subst e_1
      exact ⟨by rw [twoV, if_pos rfl, if_neg (fun z => z.elim c_85 (fun y => y c_89))], rfl⟩
    refine j_iconst (1) dX2_joined_92 rfl ?_
    refine j_goto 97 dX2_joined_93 (by decide) ?_
    refine j_iret dX2_joined_97 rfl ?_
    subst e_1
    exact ⟨by rw [twoV, if_pos rfl, if_pos (Or.inr c_89)], rfl⟩
  refine j_lookup (168) 169 dX2_joined_1 (by decide +kernel) (lk_out (fun k hk => by
    simp at hk
    rcases hk with rfl | rfl | rfl | rfl | rfl | rfl | rfl | rfl | rfl
    · exact h_1_38
    · exact h_1_42
    · exact h_1_43
    · exact h_1_45
    · exact h_1_47
    · exact h_1_60
    · exact h_1_61
    · exact h_1_62
    · exact h_1_124)) (by decide) ?_
  refine j_ild2 dX2_joined_169 ?_
  refine j_ifne 177 dX2_joined_170 (by decide) (fun c_170 => ?_) (fun c_170 => ?_)
  · refine j_ild1 dX2_joined_177 ?_
    refine j_ild2 dX2_joined_178 ?_
    refine j_irem dX2_joined_179 c_170 ?_
    refine j_iret dX2_joined_180 rfl ?_
    subst e_1
    exact ⟨by rw [twoV, if_neg h_1_124, if_neg h_1_38, if_neg h_1_60, if_neg h_1_61, if_neg h_1_62, if_neg h_1_43, if_neg h_1_45, if_neg h_1_42, if_neg h_1_47, if_neg c_170], rfl⟩
  refine j_iconst (0) dX2_joined_173 rfl ?_
  refine j_goto 180 dX2_joined_174 (by decide) ?_
  refine j_iret dX2_joined_180 rfl ?_
  subst e_1
  exact ⟨by rw [twoV, if_neg h_1_124, if_neg h_1_38, if_neg h_1_60, if_neg h_1_61, if_neg h_1_62, if_neg h_1_43, if_neg h_1_45, if_neg h_1_42, if_neg h_1_47, if_pos (Classical.not_not.mp c_170)], rfl⟩

theorem stepI_two {x : Int32} {st st' : List Int32} (ok : OkI x) (hneg : ¬ 0 ≤ x) (h1 : ¬ -x = 33) (h2 : ¬ -x = 95) (h3 : ¬ -x = 97 ∧ ¬ -x = 98 ∧ ¬ -x = 110 ∧ ¬ -x = 109 ∧ ¬ -x = 115) (hs : stepI e x st = some st') : ∃ r l st2, st = r :: l :: st2 ∧ st' = twoV (-x) l r :: st2 := by
  rw [stepI.eq_def, if_neg hneg, if_neg (fun z => by rcases (of_decide_eq_true z : -x = 97 ∨ -x = 98 ∨ -x = 110 ∨ -x = 109 ∨ -x = 115) with q | q | q | q | q; exact h3.1 q; exact h3.2.1 q; exact h3.2.2.1 q; exact h3.2.2.2.1 q; exact h3.2.2.2.2 q), if_neg (fun z => h1 (by rw [z]; decide)), if_neg (fun z => h2 (by rw [z]; decide))] at hs
  rcases st with _ | ⟨r, _ | ⟨l, st2⟩⟩
  · cases hs
  · cases hs
  · cases hs; exact ⟨r, l, st2, rfl, rfl⟩
set_option maxRecDepth 20000 in
theorem s_X2_workOut {x : Int32} {st st' : List Int32} (ok : OkI x) (hneg : ¬ 0 ≤ x) (hl : st.length < 128) (hs : stepI e x st = some st') (h : VCq S0 e st S) : Rqv a mX2_workOut 1 [.ref (a 2), .int (-x)] S (VCq S0 e st') := by
  show J _ _ _ _ 0 [_, _, .null, .null] [] _
  refine j_ild1 dX2_workOut_0 ?_
  refine j_topi (fun y_1 e_1 => ?_)
  by_cases h_1_33 : y_1 = 33
  · rw [h_1_33] at e_1 ⊢
    refine j_lookup (122) 123 dX2_workOut_1 (by decide +kernel) (by decide +kernel) (by decide) ?_
    have hx : x = -33 := by rw [← neg_neg' x, ← e_1]
    subst hx
    rw [stepI.eq_def] at hs
    rw [if_neg (by decide), if_neg (by decide), if_pos rfl] at hs
    rcases st with _ | ⟨v, st⟩
    · cases hs
    cases hs
    rw [List.length_cons] at hl
    refine j_ald0 dX2_workOut_123 ?_
    refine j_ald0 dX2_workOut_124 ?_
    refine j_qiV0 dX2_workOut_125 kX2_pop l2_119 rfl (by decide) rfl (Nat.le_of_ble_eq_true rfl) (Nat.le_of_ble_eq_true rfl) (by omega) (s_X2_pop (by omega) h) (fun y S1 h1 => ?_)
    obtain ⟨rfl, h1⟩ := h1
    refine j_ifne 135 dX2_workOut_128 (by decide) (fun c_128 => ?_) (fun c_128 => ?_)
    · rw [if_neg c_128] at *
      refine j_iconst (0) dX2_workOut_135 rfl ?_
      refine j_qvV1 dX2_workOut_136 kX2_push l2_116 rfl (by decide) rfl (Nat.le_of_ble_eq_true rfl) (Nat.le_of_ble_eq_true rfl) (by omega) (s_X2_push (by omega) h1) (fun S2 h2 => ?_)
      refine j_goto 174 dX2_workOut_139 (by decide) ?_
      refine j_vret dX2_workOut_174 rfl ?_
      exact ⟨rfl, h2⟩
    rw [if_pos (Classical.not_not.mp c_128)] at *
    refine j_iconst (1) dX2_workOut_131 rfl ?_
    refine j_goto 136 dX2_workOut_132 (by decide) ?_
    refine j_qvV1 dX2_workOut_136 kX2_push l2_116 rfl (by decide) rfl (Nat.le_of_ble_eq_true rfl) (Nat.le_of_ble_eq_true rfl) (by omega) (s_X2_push (by omega) h1) (fun S2 h2 => ?_)
    refine j_goto 174 dX2_workOut_139 (by decide) ?_
    refine j_vret dX2_workOut_174 rfl ?_
    exact ⟨rfl, h2⟩
  by_cases h_1_95 : y_1 = 95
  · rw [h_1_95] at e_1 ⊢
    refine j_lookup (141) 142 dX2_workOut_1 (by decide +kernel) (by decide +kernel) (by decide) ?_
    have hx : x = -95 := by rw [← neg_neg' x, ← e_1]
    subst hx
    rw [stepI.eq_def] at hs
    rw [if_neg (by decide), if_neg (by decide), if_neg (by decide), if_pos rfl] at hs
    rcases st with _ | ⟨v, st⟩
    · cases hs
    cases hs
    rw [List.length_cons] at hl
    refine j_ald0 dX2_workOut_142 ?_
    refine j_ald0 dX2_workOut_143 ?_
    refine j_qiV0 dX2_workOut_144 kX2_pop l2_119 rfl (by decide) rfl (Nat.le_of_ble_eq_true rfl) (Nat.le_of_ble_eq_true rfl) (by omega) (s_X2_pop (by omega) h) (fun y S1 h1 => ?_)
    obtain ⟨rfl, h1⟩ := h1
    refine j_ineg dX2_workOut_147 ?_
    refine j_qvV1 dX2_workOut_148 kX2_push l2_116 rfl (by decide) rfl (Nat.le_of_ble_eq_true rfl) (Nat.le_of_ble_eq_true rfl) (by omega) (s_X2_push (by omega) h1) (fun S2 h2 => ?_)
    refine j_goto 174 dX2_workOut_151 (by decide) ?_
    refine j_vret dX2_workOut_174 rfl ?_
    exact ⟨rfl, h2⟩
  by_cases h_1_97 : y_1 = 97
  · rw [h_1_97] at e_1 ⊢
    refine j_lookup (67) 68 dX2_workOut_1 (by decide +kernel) (by decide +kernel) (by decide) ?_
    have hx : x = -97 := by rw [← neg_neg' x, ← e_1]
    subst hx
    rw [stepI.eq_def] at hs
    rw [if_neg (by decide), if_pos (by decide), show (sgW (-97)).toNatClampNeg = 0 from by decide] at hs
    cases hs
    refine j_ald0 dX2_workOut_68 ?_
    refine j_ald0 dX2_workOut_69 ?_
    refine j_getI (k := 10) dX2_workOut_70 cX2_ok (Or.inl f2_98) rfl (by decide) (by decide) (by decide) ?_
    refine j_top (y := e 0) (h.2.1 0 (by decide)) ?_
    refine j_qvV1 dX2_workOut_73 kX2_push l2_116 rfl (by decide) rfl (Nat.le_of_ble_eq_true rfl) (Nat.le_of_ble_eq_true rfl) (by omega) (s_X2_push hl h) (fun S1 h1 => ?_)
    refine j_goto 174 dX2_workOut_76 (by decide) ?_
    refine j_vret dX2_workOut_174 rfl ?_
    exact ⟨rfl, h1⟩
  by_cases h_1_98 : y_1 = 98
  · rw [h_1_98] at e_1 ⊢
    refine j_lookup (78) 79 dX2_workOut_1 (by decide +kernel) (by decide +kernel) (by decide) ?_
    have hx : x = -98 := by rw [← neg_neg' x, ← e_1]
    subst hx
    rw [stepI.eq_def] at hs
    rw [if_neg (by decide), if_pos (by decide), show (sgW (-98)).toNatClampNeg = 1 from by decide] at hs
    cases hs
    refine j_ald0 dX2_workOut_79 ?_
    refine j_ald0 dX2_workOut_80 ?_
    refine j_getI (k := 11) dX2_workOut_81 cX2_ok (Or.inl f2_101) rfl (by decide) (by decide) (by decide) ?_
    refine j_top (y := e 1) (h.2.1 1 (by decide)) ?_
    refine j_qvV1 dX2_workOut_84 kX2_push l2_116 rfl (by decide) rfl (Nat.le_of_ble_eq_true rfl) (Nat.le_of_ble_eq_true rfl) (by omega) (s_X2_push hl h) (fun S1 h1 => ?_)
    refine j_goto 174 dX2_workOut_87 (by decide) ?_
    refine j_vret dX2_workOut_174 rfl ?_
    exact ⟨rfl, h1⟩
  by_cases h_1_109 : y_1 = 109
  · rw [h_1_109] at e_1 ⊢
    refine j_lookup (100) 101 dX2_workOut_1 (by decide +kernel) (by decide +kernel) (by decide) ?_
    have hx : x = -109 := by rw [← neg_neg' x, ← e_1]
    subst hx
    rw [stepI.eq_def] at hs
    rw [if_neg (by decide), if_pos (by decide), show (sgW (-109)).toNatClampNeg = 3 from by decide] at hs
    cases hs
    refine j_ald0 dX2_workOut_101 ?_
    refine j_ald0 dX2_workOut_102 ?_
    refine j_getI (k := 13) dX2_workOut_103 cX2_ok (Or.inl f2_107) rfl (by decide) (by decide) (by decide) ?_
    refine j_top (y := e 3) (h.2.1 3 (by decide)) ?_
    refine j_qvV1 dX2_workOut_106 kX2_push l2_116 rfl (by decide) rfl (Nat.le_of_ble_eq_true rfl) (Nat.le_of_ble_eq_true rfl) (by omega) (s_X2_push hl h) (fun S1 h1 => ?_)
    refine j_goto 174 dX2_workOut_109 (by decide) ?_
    refine j_vret dX2_workOut_174 rfl ?_
    exact ⟨rfl, h1⟩
  by_cases h_1_110 : y_1 = 110
  · rw [h_1_110] at e_1 ⊢
    refine j_lookup (89) 90 dX2_workOut_1 (by decide +kernel) (by decide +kernel) (by decide) ?_
    have hx : x = -110 := by rw [← neg_neg' x, ← e_1]
    subst hx
    rw [stepI.eq_def] at hs
    rw [if_neg (by decide), if_pos (by decide), show (sgW (-110)).toNatClampNeg = 2 from by decide] at hs
    cases hs
    refine j_ald0 dX2_workOut_90 ?_
    refine j_ald0 dX2_workOut_91 ?_
    refine j_getI (k := 12) dX2_workOut_92 cX2_ok (Or.inl f2_104) rfl (by decide) (by decide) (by decide) ?_
    refine j_top (y := e 2) (h.2.1 2 (by decide)) ?_
    refine j_qvV1 dX2_workOut_95 kX2_push l2_116 rfl (by decide) rfl (Nat.le_of_ble_eq_true rfl) (Nat.le_of_ble_eq_true rfl) (by omega) (s_X2_push hl h) (fun S1 h1 => ?_)
    refine j_goto 174 dX2_workOut_98 (by decide) ?_
    refine j_vret dX2_workOut_174 rfl ?_
    exact ⟨rfl, h1⟩
  by_cases h_1_115 : y_1 = 115
  · rw [h_1_115] at e_1 ⊢
    refine j_lookup (111) 112 dX2_workOut_1 (by decide +kernel) (by decide +kernel) (by decide) ?_
    have hx : x = -115 := by rw [← neg_neg' x, ← e_1]
    subst hx
    rw [stepI.eq_def] at hs
    rw [if_neg (by decide), if_pos (by decide), show (sgW (-115)).toNatClampNeg = 4 from by decide] at hs
    cases hs
    refine j_ald0 dX2_workOut_112 ?_
    refine j_ald0 dX2_workOut_113 ?_
    refine j_getI (k := 14) dX2_workOut_114 cX2_ok (Or.inl f2_110) rfl (by decide) (by decide) (by decide) ?_
    refine j_top (y := e 4) (h.2.1 4 (by decide)) ?_
    refine j_qvV1 dX2_workOut_117 kX2_push l2_116 rfl (by decide) rfl (Nat.le_of_ble_eq_true rfl) (Nat.le_of_ble_eq_true rfl) (by omega) (s_X2_push hl h) (fun S1 h1 => ?_)
    refine j_goto 174 dX2_workOut_120 (by decide) ?_
    refine j_vret dX2_workOut_174 rfl ?_
    exact ⟨rfl, h1⟩
  refine j_lookup (153) 154 dX2_workOut_1 (by decide +kernel) (lk_out (fun k hk => by
    simp at hk
    rcases hk with rfl | rfl | rfl | rfl | rfl | rfl | rfl
    · exact h_1_33
    · exact h_1_95
    · exact h_1_97
    · exact h_1_98
    · exact h_1_109
    · exact h_1_110
    · exact h_1_115)) (by decide) ?_
  have hns := stepI_two ok hneg (by rw [← e_1]; exact h_1_33) (by rw [← e_1]; exact h_1_95) (by rw [← e_1]; exact ⟨h_1_97, h_1_98, h_1_110, h_1_109, h_1_115⟩) hs
  obtain ⟨r, l, st2, rfl, rfl⟩ := hns
  rw [List.length_cons, List.length_cons] at hl
  refine j_ald0 dX2_workOut_154 ?_
  refine j_qiV0 dX2_workOut_155 kX2_pop l2_119 rfl (by decide) rfl (Nat.le_of_ble_eq_true rfl) (Nat.le_of_ble_eq_true rfl) (by omega) (s_X2_pop (by rw [List.length_cons]; omega) h) (fun y S1 h1 => ?_)
  obtain ⟨rfl, h1⟩ := h1
  refine j_ist2 dX2_workOut_158 rfl (by decide) ?_
  refine j_ald0 dX2_workOut_159 ?_
  refine j_qiV0 dX2_workOut_160 kX2_pop l2_119 rfl (by decide) rfl (Nat.le_of_ble_eq_true rfl) (Nat.le_of_ble_eq_true rfl) (by omega) (s_X2_pop (by omega) h1) (fun z S2 h2 => ?_)
  obtain ⟨rfl, h2⟩ := h2
  refine j_ist3 dX2_workOut_163 rfl (by decide) ?_
  refine j_ald0 dX2_workOut_164 ?_
  refine j_ild1 dX2_workOut_165 ?_
  refine j_ild3 dX2_workOut_166 ?_
  refine j_ild2 dX2_workOut_167 ?_
  refine j_cS3 dX2_workOut_168 kX2_joined zX2_joined (Or.inl l2_125) (Nat.le_of_ble_eq_true rfl) (Nat.le_of_ble_eq_true rfl) (by omega) (s_X2_joined) ?_
  refine j_qvV1 dX2_workOut_171 kX2_push l2_116 rfl (by decide) rfl (Nat.le_of_ble_eq_true rfl) (Nat.le_of_ble_eq_true rfl) (by omega) (s_X2_push (by omega) h2) (fun S3 h3 => ?_)
  refine j_vret dX2_workOut_174 rfl ?_
  exact ⟨rfl, h3⟩

end ValC

