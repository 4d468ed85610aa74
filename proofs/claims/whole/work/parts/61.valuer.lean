/-! what a law gives: the reference -/
theorem div_m1 (x : Int32) : x / -1 = -x := by
  have e : (-1 : Int32).toInt = -1 := by decide
  rw [← Int32.toInt_inj, Int32.toInt_div, e, Int.tdiv_neg, Int.tdiv_one, Int32.toInt_neg]
theorem rem_m1 (x : Int32) : x - x / -1 * -1 = 0 := by
  rw [div_m1]
  have : -x * -1 = x := by rw [Int32.mul_neg, Int32.mul_one, Int32.neg_neg]
  rw [this, Int32.sub_self]
theorem sg_num {x : Int32} (h : 0 ≤ x) : sgA x = 1 ∧ sgW x = x := ⟨by rw [sgA, if_pos h], by rw [sgW, if_pos h]⟩
theorem sg_nm {x : Int32} (h : isNm (-x) = true) : sgA x = 2 ∧ ∃ j, j < 5 ∧ sgW x = nI j ∧ (sgW x).toNatClampNeg = j := by
  rcases (of_decide_eq_true h : -x = 97 ∨ -x = 98 ∨ -x = 110 ∨ -x = 109 ∨ -x = 115) with e | e | e | e | e <;> (rw [show x = - -x from (neg_neg' x).symm, e])
  · exact ⟨by decide, 0, by decide, by decide, by decide⟩
  · exact ⟨by decide, 1, by decide, by decide, by decide⟩
  · exact ⟨by decide, 2, by decide, by decide, by decide⟩
  · exact ⟨by decide, 3, by decide, by decide, by decide⟩
  · exact ⟨by decide, 4, by decide, by decide, by decide⟩
theorem jn_or {lvl : Nat} {x : Int32} (h : jn lvl x = true) : x = 124 ∨ x = 38 ∨ x = 60 ∨ x = 61 ∨ x = 62 ∨ x = 43 ∨ x = 45 ∨ x = 42 ∨ x = 47 ∨ x = 37 := by
  match lvl, h with
  | 0, z => exact Or.inl (of_decide_eq_true z)
  | 1, z => exact Or.inr (Or.inl (of_decide_eq_true z))
  | 2, z => rcases of_decide_eq_true z with q | q | q <;> simp [q]
  | 3, z => rcases of_decide_eq_true z with q | q <;> simp [q]
  | n + 4, z => rcases (of_decide_eq_true z : x = 42 ∨ x = 47 ∨ x = 37) with q | q | q <;> simp [q]
theorem sg_jn {lvl : Nat} {x : Int32} (h : jn lvl (-x) = true) : sgA x = -x ∧ ¬ -x = 1 ∧ ¬ -x = 2 ∧ ¬ -x = 3 ∧ ¬ -x = 4 := by
  have h2 := jn_or h
  rw [← neg_neg' x]
  generalize -x = y at *
  rcases h2 with rfl | rfl | rfl | rfl | rfl | rfl | rfl | rfl | rfl | rfl <;> decide
section ValR
variable {a : Nat → Nat} {S0 S : St} {e : Nat → Int32}

set_option maxRecDepth 20000 in
theorem two_124 {l r : Int32} : Rt a mX8_twoOf 0 [.int 124, .int l, .int r] S (some (.int (twoV 124 l r))) S := by
  show J _ _ _ _ 0 [_, _, _] [] _
  refine j_ild0 dX8_twoOf_0 ?_
  refine j_tblOut 218 dX8_twoOf_1 (by decide) (by decide) ?_
  refine j_ild1 dX8_twoOf_218 ?_
  refine j_ifne 226 dX8_twoOf_219 (by decide) (fun c_219 => ?_) (fun c_219 => ?_)
  · refine j_iconst (1) dX8_twoOf_226 rfl ?_
    refine j_goto 231 dX8_twoOf_227 (by decide) ?_
    refine j_iret dX8_twoOf_231 rfl ?_
    exact ⟨by rw [twoV, if_pos rfl, if_pos (Or.inl c_219)], rfl⟩
  refine j_ild2 dX8_twoOf_222 ?_
  refine j_ifeq 230 dX8_twoOf_223 (by decide) (fun c_223 => ?_) (fun c_223 => ?_)
  · refine j_iconst (0) dX8_twoOf_230 rfl ?_
    refine j_iret dX8_twoOf_231 rfl ?_
    exact ⟨by rw [twoV, if_pos rfl, if_neg (fun z => z.elim c_219 (fun y => y c_223))], rfl⟩
  refine j_iconst (1) dX8_twoOf_226 rfl ?_
  refine j_goto 231 dX8_twoOf_227 (by decide) ?_
  refine j_iret dX8_twoOf_231 rfl ?_
  exact ⟨by rw [twoV, if_pos rfl, if_pos (Or.inr c_223)], rfl⟩

set_option maxRecDepth 20000 in
theorem two_38 {l r : Int32} : Rt a mX8_twoOf 0 [.int 38, .int l, .int r] S (some (.int (twoV 38 l r))) S := by
  show J _ _ _ _ 0 [_, _, _] [] _
  refine j_ild0 dX8_twoOf_0 ?_
  refine j_tblIn (203) 204 dX8_twoOf_1 (by decide) (by decide) rfl (by decide) ?_
  refine j_ild1 dX8_twoOf_204 ?_
  refine j_ifeq 216 dX8_twoOf_205 (by decide) (fun c_205 => ?_) (fun c_205 => ?_)
  · refine j_iconst (0) dX8_twoOf_216 rfl ?_
    refine j_iret dX8_twoOf_217 rfl ?_
    exact ⟨by rw [twoV, if_neg (by decide), if_pos rfl, if_neg (fun z => z.1 c_205)], rfl⟩
  refine j_ild2 dX8_twoOf_208 ?_
  refine j_ifeq 216 dX8_twoOf_209 (by decide) (fun c_209 => ?_) (fun c_209 => ?_)
  · refine j_iconst (0) dX8_twoOf_216 rfl ?_
    refine j_iret dX8_twoOf_217 rfl ?_
    exact ⟨by rw [twoV, if_neg (by decide), if_pos rfl, if_neg (fun z => z.2 c_209)], rfl⟩
  refine j_iconst (1) dX8_twoOf_212 rfl ?_
  refine j_goto 217 dX8_twoOf_213 (by decide) ?_
  refine j_iret dX8_twoOf_217 rfl ?_
  exact ⟨by rw [twoV, if_neg (by decide), if_pos rfl, if_pos ⟨c_205, c_209⟩], rfl⟩

set_option maxRecDepth 20000 in
theorem two_60 {l r : Int32} : Rt a mX8_twoOf 0 [.int 60, .int l, .int r] S (some (.int (twoV 60 l r))) S := by
  show J _ _ _ _ 0 [_, _, _] [] _
  refine j_ild0 dX8_twoOf_0 ?_
  refine j_tblIn (170) 171 dX8_twoOf_1 (by decide) (by decide) rfl (by decide) ?_
  refine j_ild1 dX8_twoOf_171 ?_
  refine j_ild2 dX8_twoOf_172 ?_
  refine j_icmpge 180 dX8_twoOf_173 (by decide) (fun c_173 => ?_) (fun c_173 => ?_)
  · refine j_iconst (0) dX8_twoOf_180 rfl ?_
    refine j_iret dX8_twoOf_181 rfl ?_
    exact ⟨by rw [twoV, if_neg (by decide), if_neg (by decide), if_pos rfl, if_neg (Int32.not_lt.mpr c_173)], rfl⟩
  refine j_iconst (1) dX8_twoOf_176 rfl ?_
  refine j_goto 181 dX8_twoOf_177 (by decide) ?_
  refine j_iret dX8_twoOf_181 rfl ?_
  exact ⟨by rw [twoV, if_neg (by decide), if_neg (by decide), if_pos rfl, if_pos (Int32.not_le.mp c_173)], rfl⟩

set_option maxRecDepth 20000 in
theorem two_61 {l r : Int32} : Rt a mX8_twoOf 0 [.int 61, .int l, .int r] S (some (.int (twoV 61 l r))) S := by
  show J _ _ _ _ 0 [_, _, _] [] _
  refine j_ild0 dX8_twoOf_0 ?_
  refine j_tblIn (181) 182 dX8_twoOf_1 (by decide) (by decide) rfl (by decide) ?_
  refine j_ild1 dX8_twoOf_182 ?_
  refine j_ild2 dX8_twoOf_183 ?_
  refine j_icmpne 191 dX8_twoOf_184 (by decide) (fun c_184 => ?_) (fun c_184 => ?_)
  · refine j_iconst (0) dX8_twoOf_191 rfl ?_
    refine j_iret dX8_twoOf_192 rfl ?_
    exact ⟨by rw [twoV, if_neg (by decide), if_neg (by decide), if_neg (by decide), if_pos rfl, if_neg c_184], rfl⟩
  refine j_iconst (1) dX8_twoOf_187 rfl ?_
  refine j_goto 192 dX8_twoOf_188 (by decide) ?_
  refine j_iret dX8_twoOf_192 rfl ?_
  exact ⟨by rw [twoV, if_neg (by decide), if_neg (by decide), if_neg (by decide), if_pos rfl, if_pos (Classical.not_not.mp c_184)], rfl⟩

set_option maxRecDepth 20000 in
theorem two_62 {l r : Int32} : Rt a mX8_twoOf 0 [.int 62, .int l, .int r] S (some (.int (twoV 62 l r))) S := by
  show J _ _ _ _ 0 [_, _, _] [] _
  refine j_ild0 dX8_twoOf_0 ?_
  refine j_tblIn (192) 193 dX8_twoOf_1 (by decide) (by decide) rfl (by decide) ?_
  refine j_ild1 dX8_twoOf_193 ?_
  refine j_ild2 dX8_twoOf_194 ?_
  refine j_icmple 202 dX8_twoOf_195 (by decide) (fun c_195 => ?_) (fun c_195 => ?_)
  · refine j_iconst (0) dX8_twoOf_202 rfl ?_
    refine j_iret dX8_twoOf_203 rfl ?_
    exact ⟨by rw [twoV, if_neg (by decide), if_neg (by decide), if_neg (by decide), if_neg (by decide), if_pos rfl, if_neg (Int32.not_lt.mpr c_195)], rfl⟩
  refine j_iconst (1) dX8_twoOf_198 rfl ?_
  refine j_goto 203 dX8_twoOf_199 (by decide) ?_
  refine j_iret dX8_twoOf_203 rfl ?_
  exact ⟨by rw [twoV, if_neg (by decide), if_neg (by decide), if_neg (by decide), if_neg (by decide), if_pos rfl, if_pos (Int32.not_le.mp c_195)], rfl⟩

set_option maxRecDepth 20000 in
theorem two_43 {l r : Int32} : Rt a mX8_twoOf 0 [.int 43, .int l, .int r] S (some (.int (twoV 43 l r))) S := by
  show J _ _ _ _ 0 [_, _, _] [] _
  refine j_ild0 dX8_twoOf_0 ?_
  refine j_tblIn (119) 120 dX8_twoOf_1 (by decide) (by decide) rfl (by decide) ?_
  refine j_ild1 dX8_twoOf_120 ?_
  refine j_ild2 dX8_twoOf_121 ?_
  refine j_iadd dX8_twoOf_122 ?_
  refine j_iret dX8_twoOf_123 rfl ?_
  exact ⟨by rw [twoV, if_neg (by decide), if_neg (by decide), if_neg (by decide), if_neg (by decide), if_neg (by decide), if_pos rfl], rfl⟩

set_option maxRecDepth 20000 in
theorem two_45 {l r : Int32} : Rt a mX8_twoOf 0 [.int 45, .int l, .int r] S (some (.int (twoV 45 l r))) S := by
  show J _ _ _ _ 0 [_, _, _] [] _
  refine j_ild0 dX8_twoOf_0 ?_
  refine j_tblIn (123) 124 dX8_twoOf_1 (by decide) (by decide) rfl (by decide) ?_
  refine j_ild1 dX8_twoOf_124 ?_
  refine j_ild2 dX8_twoOf_125 ?_
  refine j_isub dX8_twoOf_126 ?_
  refine j_iret dX8_twoOf_127 rfl ?_
  exact ⟨by rw [twoV, if_neg (by decide), if_neg (by decide), if_neg (by decide), if_neg (by decide), if_neg (by decide), if_neg (by decide), if_pos rfl], rfl⟩

set_option maxRecDepth 20000 in
theorem two_42 {l r : Int32} : Rt a mX8_twoOf 0 [.int 42, .int l, .int r] S (some (.int (twoV 42 l r))) S := by
  show J _ _ _ _ 0 [_, _, _] [] _
  refine j_ild0 dX8_twoOf_0 ?_
  refine j_tblIn (127) 128 dX8_twoOf_1 (by decide) (by decide) rfl (by decide) ?_
  refine j_ild1 dX8_twoOf_128 ?_
  refine j_ild2 dX8_twoOf_129 ?_
  refine j_imul dX8_twoOf_130 ?_
  refine j_iret dX8_twoOf_131 rfl ?_
  exact ⟨by rw [twoV, if_neg (by decide), if_neg (by decide), if_neg (by decide), if_neg (by decide), if_neg (by decide), if_neg (by decide), if_neg (by decide), if_pos rfl], rfl⟩

set_option maxRecDepth 20000 in
theorem two_47 {l r : Int32} : Rt a mX8_twoOf 0 [.int 47, .int l, .int r] S (some (.int (twoV 47 l r))) S := by
  show J _ _ _ _ 0 [_, _, _] [] _
  refine j_ild0 dX8_twoOf_0 ?_
  refine j_tblIn (131) 132 dX8_twoOf_1 (by decide) (by decide) rfl (by decide) ?_
  refine j_ild2 dX8_twoOf_132 ?_
  refine j_ifne 140 dX8_twoOf_133 (by decide) (fun c_133 => ?_) (fun c_133 => ?_)
  · refine j_ild2 dX8_twoOf_140 ?_
    refine j_iconst (-1) dX8_twoOf_141 rfl ?_
    refine j_icmpne 150 dX8_twoOf_142 (by decide) (fun c_142 => ?_) (fun c_142 => ?_)
    · refine j_ild1 dX8_twoOf_150 ?_
      refine j_ild2 dX8_twoOf_151 ?_
      refine j_idiv dX8_twoOf_152 c_133 ?_
      refine j_iret dX8_twoOf_153 rfl ?_
      exact ⟨by rw [twoV, if_neg (by decide), if_neg (by decide), if_neg (by decide), if_neg (by decide), if_neg (by decide), if_neg (by decide), if_neg (by decide), if_neg (by decide), if_pos rfl, if_neg c_133], rfl⟩
    refine j_ild1 dX8_twoOf_145 ?_
    refine j_ineg dX8_twoOf_146 ?_
    refine j_goto 153 dX8_twoOf_147 (by decide) ?_
    refine j_iret dX8_twoOf_153 rfl ?_
    exact ⟨by rw [twoV, if_neg (by decide), if_neg (by decide), if_neg (by decide), if_neg (by decide), if_neg (by decide), if_neg (by decide), if_neg (by decide), if_neg (by decide), if_pos rfl, if_neg c_133, Classical.not_not.mp c_142, div_m1], rfl⟩
  refine j_iconst (0) dX8_twoOf_136 rfl ?_
  refine j_goto 153 dX8_twoOf_137 (by decide) ?_
  refine j_iret dX8_twoOf_153 rfl ?_
  exact ⟨by rw [twoV, if_neg (by decide), if_neg (by decide), if_neg (by decide), if_neg (by decide), if_neg (by decide), if_neg (by decide), if_neg (by decide), if_neg (by decide), if_pos rfl, if_pos (Classical.not_not.mp c_133)], rfl⟩

set_option maxRecDepth 20000 in
theorem two_37 {l r : Int32} : Rt a mX8_twoOf 0 [.int 37, .int l, .int r] S (some (.int (twoV 37 l r))) S := by
  show J _ _ _ _ 0 [_, _, _] [] _
  refine j_ild0 dX8_twoOf_0 ?_
  refine j_tblIn (153) 154 dX8_twoOf_1 (by decide) (by decide) rfl (by decide) ?_
  refine j_ild2 dX8_twoOf_154 ?_
  refine j_ifeq 163 dX8_twoOf_155 (by decide) (fun c_155 => ?_) (fun c_155 => ?_)
  · refine j_iconst (0) dX8_twoOf_163 rfl ?_
    refine j_goto 170 dX8_twoOf_164 (by decide) ?_
    refine j_iret dX8_twoOf_170 rfl ?_
    exact ⟨by rw [twoV, if_neg (by decide), if_neg (by decide), if_neg (by decide), if_neg (by decide), if_neg (by decide), if_neg (by decide), if_neg (by decide), if_neg (by decide), if_neg (by decide), if_pos c_155], rfl⟩
  refine j_ild2 dX8_twoOf_158 ?_
  refine j_iconst (-1) dX8_twoOf_159 rfl ?_
  refine j_icmpne 167 dX8_twoOf_160 (by decide) (fun c_160 => ?_) (fun c_160 => ?_)
  · refine j_ild1 dX8_twoOf_167 ?_
    refine j_ild2 dX8_twoOf_168 ?_
    refine j_irem dX8_twoOf_169 c_155 ?_
    refine j_iret dX8_twoOf_170 rfl ?_
    exact ⟨by rw [twoV, if_neg (by decide), if_neg (by decide), if_neg (by decide), if_neg (by decide), if_neg (by decide), if_neg (by decide), if_neg (by decide), if_neg (by decide), if_neg (by decide), if_neg c_155], rfl⟩
  refine j_iconst (0) dX8_twoOf_163 rfl ?_
  refine j_goto 170 dX8_twoOf_164 (by decide) ?_
  refine j_iret dX8_twoOf_170 rfl ?_
  exact ⟨by rw [twoV, if_neg (by decide), if_neg (by decide), if_neg (by decide), if_neg (by decide), if_neg (by decide), if_neg (by decide), if_neg (by decide), if_neg (by decide), if_neg (by decide), if_neg c_155, Classical.not_not.mp c_160, rem_m1], rfl⟩

theorem s_X8_twoOf {x l r : Int32} {lvl : Nat} (h : jn lvl x = true) : Rt a mX8_twoOf 0 [.int x, .int l, .int r] S (some (.int (twoV x l r))) S := by
  rcases jn_or h with rfl | rfl | rfl | rfl | rfl | rfl | rfl | rfl | rfl | rfl
  · exact two_124
  · exact two_38
  · exact two_60
  · exact two_61
  · exact two_62
  · exact two_43
  · exact two_45
  · exact two_42
  · exact two_47
  · exact two_37
/-- while steps are worked: the pile -/
def VRq (S0 : St) (e : Nat → Int32) (st : List Int32) (S : St) : Prop := Kp [14] S0 S ∧ (∀ k, k < 5 → S.1 84 k = e k) ∧ ∀ i, i < st.length → S.1 85 i = st.getD (st.length - 1 - i) 0
theorem VRq.top {v : Int32} {st : List Int32} (h : VRq S0 e (v :: st) S) : S.1 85 st.length = v := by
  rw [h.2.2 st.length (by simp), List.length_cons, show st.length + 1 - 1 - st.length = 0 by omega]; rfl
theorem VRq.tl {v : Int32} {st : List Int32} (h : VRq S0 e (v :: st) S) : VRq S0 e st S := ⟨h.1, h.2.1, fun i hi => by
  rw [h.2.2 i (by rw [List.length_cons]; omega), List.length_cons, show st.length + 1 - 1 - i = (st.length - 1 - i) + 1 by omega]; rfl⟩
theorem VRq.push {v : Int32} {st : List Int32} (h : VRq S0 e st S) : VRq S0 e (v :: st) (uI S 85 st.length v) := by
  refine ⟨Kp_uI h.1 (by show 14 ∈ [14]; decide), fun k hk => by rw [uI_at, if_neg (by omega)]; exact h.2.1 k hk, fun i hi => ?_⟩
  rw [List.length_cons] at hi ⊢
  rw [uI_at]
  by_cases c : i = st.length
  · rw [if_pos ⟨rfl, c⟩, c, show st.length + 1 - 1 - st.length = 0 by omega]; rfl
  · rw [if_neg (fun z => c z.2), show st.length + 1 - 1 - i = (st.length - 1 - i) + 1 by omega]
    exact h.2.2 i (by omega)
set_option maxRecDepth 20000 in
theorem wr_run {g : GG} {w1 : Value} {c : List Int32} {E : Nat} (hpg : E ≤ 120 ∧ ∀ i, i < c.length → S0.1 79 i = sgA (c.getD i 0) ∧ S0.1 80 i = sgW (c.getD i 0)) : ∀ (xs0 pre post st st' : List Int32) (S : St) (w6 : Value), (∀ x ∈ xs0, OkI x) → runI e xs0 st = some st' → st.length + xs0.length ≤ 128 → c = pre ++ (xs0 ++ post) → (pre ++ xs0).length ≤ E → VRq S0 e st S → (∀ (S' : St) (w6 : Value), VRq S0 e st' S' → J a mX8_worked 1 g 12 [.ref (a 61), .int 0, w1, .int (nI E), .int (nI st'.length), .int (nI (pre ++ xs0).length), w6] [] S') → J a mX8_worked 1 g 12 [.ref (a 61), .int 0, w1, .int (nI E), .int (nI st.length), .int (nI pre.length), w6] [] S
  | [], pre, post, st, st', S, w6, hok, hr, hl, hc, hE, h, kk => by
    cases hr
    have := kk S w6 h
    rw [List.append_nil] at this
    exact this
  | x :: xs, pre, post, st, st', S, w6, hok, hr, hl, hc, hE, h, kk => by
    have hE' : pre.length + (xs.length + 1) ≤ E := by simpa using hE
    have hlen : c.length = pre.length + (xs.length + 1 + post.length) := by rw [hc]; simp; omega
    have hcx : c.getD pre.length 0 = x := by
      rw [hc]; exact getD_at (l1 := pre) (l2 := x :: xs ++ post) 0
    have ha : S.1 79 pre.length = sgA x := by
      rw [h.1.i (show rg 79 pre.length ∉ [14] from by show 13 ∉ [14]; decide), (hpg.2 _ (by omega)).1, hcx]
    have hw : S.1 80 pre.length = sgW x := by
      rw [h.1.i (show rg 80 pre.length ∉ [14] from by show 13 ∉ [14]; decide), (hpg.2 _ (by omega)).2, hcx]
    have hE1 := hpg.1
    rw [List.length_cons] at hl
    rw [runI] at hr
    rcases hs : stepI e x st with _ | s1
    · rw [hs] at hr; cases hr
    rw [hs] at hr
    have hr : runI e xs s1 = some st' := hr
    have hs1 : s1.length ≤ st.length + 1 := stepI_len hs
    rcases hok x (List.mem_cons_self ..) with hx | hx | hx | hx | ⟨lvl, hx⟩
    · rw [stepI.eq_def, if_pos hx] at hs
      cases hs
      have q := sg_num hx
      refine j_ild5 dX8_worked_12 ?_
      refine j_sipush (130) dX8_worked_14 rfl ?_
      refine j_ild1 dX8_worked_17 ?_
      refine j_imul dX8_worked_18 ?_
      refine j_ild3 dX8_worked_19 ?_
      refine j_iadd dX8_worked_20 ?_
      refine j_top (y := nI E) (by exact (congrArg (· + nI E) (show (130 : Int32) * 0 = 0 from rfl)).trans (Int32.zero_add _)) ?_
      refine j_icmpge 188 dX8_worked_21 (by decide) (fun c_21 => absurd c_21 (fun z => absurd ((nI_leI (a := E) (b := pre.length) (by omega) (by omega)).mp z) (by omega))) (fun c_21 => ?_)
      refine j_ald0 dX8_worked_24 ?_
      refine j_getR (k := 29) (79) dX8_worked_25 cX8_ok (Or.inl f8_74) rfl (by decide) (by decide) (by decide) rfl ?_
      refine j_ild5 dX8_worked_28 ?_
      refine j_bald (n := pre.length) dX8_worked_30 rfl (by decide) rfl (by omega) (by decide) ?_
      refine j_top (y := 1) (ha.trans q.1) ?_
      refine j_ist6 dX8_worked_31 rfl (by decide) ?_
      refine j_ild6 dX8_worked_33 ?_
      refine j_iconst (1) dX8_worked_35 rfl ?_
      refine j_icmpeq 45 dX8_worked_36 (by decide) (fun c_36 => ?_) (fun c_36 => absurd (rfl) c_36)
      refine j_ald0 dX8_worked_45 ?_
      refine j_getR (k := 35) (85) dX8_worked_46 cX8_ok (Or.inl f8_93) rfl (by decide) (by decide) (by decide) rfl ?_
      refine j_ild4 dX8_worked_49 ?_
      refine j_ild6 dX8_worked_51 ?_
      refine j_iconst (1) dX8_worked_53 rfl ?_
      refine j_icmpne 67 dX8_worked_54 (by decide) (fun c_54 => absurd c_54 (not_not_intro rfl)) (fun c_54 => ?_)
      refine j_ald0 dX8_worked_57 ?_
      refine j_getR (k := 30) (80) dX8_worked_58 cX8_ok (Or.inl f8_77) rfl (by decide) (by decide) (by decide) rfl ?_
      refine j_ild5 dX8_worked_61 ?_
      refine j_iald (n := pre.length) dX8_worked_63 rfl (by decide) rfl (by omega) (by decide) ?_
      refine j_top (y := x) (hw.trans q.2) ?_
      refine j_goto 79 dX8_worked_64 (by decide) ?_
      refine j_iast (n := st.length) dX8_worked_79 rfl (by decide) rfl (by omega) (by decide) ?_
      refine j_iinc4 (nI (st.length + 1)) dX8_worked_80 (nI_1 _) rfl (by decide) ?_
      refine j_goto 182 dX8_worked_83 (by decide) ?_
      refine j_iinc5 (nI (pre.length + 1)) dX8_worked_182 (nI_1 _) rfl (by decide) ?_
      refine j_goto 12 dX8_worked_185 (by decide) ?_
      have := wr_run (g := g) (w1 := w1) hpg xs (pre ++ [x]) post _ st' _ (.int 1) (fun y hy => hok y (List.mem_cons_of_mem _ hy)) hr (by simp only [List.length_cons] at *; omega) (by rw [List.append_assoc]; exact hc) (by rw [List.append_assoc]; exact hE) h.push (fun S' w6 h' => by have := kk S' w6 h'; rw [List.append_assoc]; exact this)
      rw [List.length_append, List.length_singleton] at this
      exact this
    · obtain ⟨q, j, hj, q2, q3⟩ := sg_nm hx
      rw [stepI.eq_def, if_neg (by intro z; rw [(sg_num z).1] at q; exact absurd q (by decide)), if_pos hx, q3] at hs
      cases hs
      refine j_ild5 dX8_worked_12 ?_
      refine j_sipush (130) dX8_worked_14 rfl ?_
      refine j_ild1 dX8_worked_17 ?_
      refine j_imul dX8_worked_18 ?_
      refine j_ild3 dX8_worked_19 ?_
      refine j_iadd dX8_worked_20 ?_
      refine j_top (y := nI E) (by exact (congrArg (· + nI E) (show (130 : Int32) * 0 = 0 from rfl)).trans (Int32.zero_add _)) ?_
      refine j_icmpge 188 dX8_worked_21 (by decide) (fun c_21 => absurd c_21 (fun z => absurd ((nI_leI (a := E) (b := pre.length) (by omega) (by omega)).mp z) (by omega))) (fun c_21 => ?_)
      refine j_ald0 dX8_worked_24 ?_
      refine j_getR (k := 29) (79) dX8_worked_25 cX8_ok (Or.inl f8_74) rfl (by decide) (by decide) (by decide) rfl ?_
      refine j_ild5 dX8_worked_28 ?_
      refine j_bald (n := pre.length) dX8_worked_30 rfl (by decide) rfl (by omega) (by decide) ?_
      refine j_top (y := 2) (ha.trans q) ?_
      refine j_ist6 dX8_worked_31 rfl (by decide) ?_
      refine j_ild6 dX8_worked_33 ?_
      refine j_iconst (1) dX8_worked_35 rfl ?_
      refine j_icmpeq 45 dX8_worked_36 (by decide) (fun c_36 => absurd c_36 (by decide)) (fun c_36 => ?_)
      refine j_ild6 dX8_worked_39 ?_
      refine j_iconst (2) dX8_worked_41 rfl ?_
      refine j_icmpne 86 dX8_worked_42 (by decide) (fun c_42 => absurd c_42 (not_not_intro rfl)) (fun c_42 => ?_)
      refine j_ald0 dX8_worked_45 ?_
      refine j_getR (k := 35) (85) dX8_worked_46 cX8_ok (Or.inl f8_93) rfl (by decide) (by decide) (by decide) rfl ?_
      refine j_ild4 dX8_worked_49 ?_
      refine j_ild6 dX8_worked_51 ?_
      refine j_iconst (1) dX8_worked_53 rfl ?_
      refine j_icmpne 67 dX8_worked_54 (by decide) (fun c_54 => ?_) (fun c_54 => absurd (by decide) c_54)
      refine j_ald0 dX8_worked_67 ?_
      refine j_getR (k := 34) (84) dX8_worked_68 cX8_ok (Or.inl f8_90) rfl (by decide) (by decide) (by decide) rfl ?_
      refine j_ald0 dX8_worked_71 ?_
      refine j_getR (k := 30) (80) dX8_worked_72 cX8_ok (Or.inl f8_77) rfl (by decide) (by decide) (by decide) rfl ?_
      refine j_ild5 dX8_worked_75 ?_
      refine j_iald (n := pre.length) dX8_worked_77 rfl (by decide) rfl (by omega) (by decide) ?_
      refine j_top (y := nI j) (hw.trans q2) ?_
      refine j_iald (n := j) dX8_worked_78 rfl (by decide) rfl hj (by decide) ?_
      refine j_top (y := e j) (h.2.1 j hj) ?_
      refine j_iast (n := st.length) dX8_worked_79 rfl (by decide) rfl (by omega) (by decide) ?_
      refine j_iinc4 (nI (st.length + 1)) dX8_worked_80 (nI_1 _) rfl (by decide) ?_
      refine j_goto 182 dX8_worked_83 (by decide) ?_
      refine j_iinc5 (nI (pre.length + 1)) dX8_worked_182 (nI_1 _) rfl (by decide) ?_
      refine j_goto 12 dX8_worked_185 (by decide) ?_
      have := wr_run (g := g) (w1 := w1) hpg xs (pre ++ [x]) post _ st' _ (.int 2) (fun y hy => hok y (List.mem_cons_of_mem _ hy)) hr (by simp only [List.length_cons] at *; omega) (by rw [List.append_assoc]; exact hc) (by rw [List.append_assoc]; exact hE) h.push (fun S' w6 h' => by have := kk S' w6 h'; rw [List.append_assoc]; exact this)
      rw [List.length_append, List.length_singleton] at this
      exact this
    · subst hx
      rw [stepI.eq_def, if_neg (by decide), if_neg (by decide), if_pos rfl] at hs
      rcases st with _ | ⟨v, st2⟩
      · cases hs
      cases hs
      rw [List.length_cons] at hl
      refine j_ild5 dX8_worked_12 ?_
      refine j_sipush (130) dX8_worked_14 rfl ?_
      refine j_ild1 dX8_worked_17 ?_
      refine j_imul dX8_worked_18 ?_
      refine j_ild3 dX8_worked_19 ?_
      refine j_iadd dX8_worked_20 ?_
      refine j_top (y := nI E) (by exact (congrArg (· + nI E) (show (130 : Int32) * 0 = 0 from rfl)).trans (Int32.zero_add _)) ?_
      refine j_icmpge 188 dX8_worked_21 (by decide) (fun c_21 => absurd c_21 (fun z => absurd ((nI_leI (a := E) (b := pre.length) (by omega) (by omega)).mp z) (by omega))) (fun c_21 => ?_)
      refine j_ald0 dX8_worked_24 ?_
      refine j_getR (k := 29) (79) dX8_worked_25 cX8_ok (Or.inl f8_74) rfl (by decide) (by decide) (by decide) rfl ?_
      refine j_ild5 dX8_worked_28 ?_
      refine j_bald (n := pre.length) dX8_worked_30 rfl (by decide) rfl (by omega) (by decide) ?_
      refine j_top (y := 3) (ha.trans (by decide)) ?_
      refine j_ist6 dX8_worked_31 rfl (by decide) ?_
      refine j_ild6 dX8_worked_33 ?_
      refine j_iconst (1) dX8_worked_35 rfl ?_
      refine j_icmpeq 45 dX8_worked_36 (by decide) (fun c_36 => absurd c_36 (by decide)) (fun c_36 => ?_)
      refine j_ild6 dX8_worked_39 ?_
      refine j_iconst (2) dX8_worked_41 rfl ?_
      refine j_icmpne 86 dX8_worked_42 (by decide) (fun c_42 => ?_) (fun c_42 => absurd (by decide) c_42)
      refine j_ild6 dX8_worked_86 ?_
      refine j_iconst (3) dX8_worked_88 rfl ?_
      refine j_icmpne 121 dX8_worked_89 (by decide) (fun c_89 => absurd c_89 (not_not_intro rfl)) (fun c_89 => ?_)
      refine j_ald0 dX8_worked_92 ?_
      refine j_getR (k := 35) (85) dX8_worked_93 cX8_ok (Or.inl f8_93) rfl (by decide) (by decide) (by decide) rfl ?_
      refine j_ild4 dX8_worked_96 ?_
      refine j_iconst (1) dX8_worked_98 rfl ?_
      refine j_isub dX8_worked_99 ?_
      refine j_top (y := nI st2.length) (by exact pk_sub (a := st2.length + 1) (b := 1) (by omega)) ?_
      refine j_ald0 dX8_worked_100 ?_
      refine j_getR (k := 35) (85) dX8_worked_101 cX8_ok (Or.inl f8_93) rfl (by decide) (by decide) (by decide) rfl ?_
      refine j_ild4 dX8_worked_104 ?_
      refine j_iconst (1) dX8_worked_106 rfl ?_
      refine j_isub dX8_worked_107 ?_
      refine j_top (y := nI st2.length) (by exact pk_sub (a := st2.length + 1) (b := 1) (by omega)) ?_
      refine j_iald (n := st2.length) dX8_worked_108 rfl (by decide) rfl (by omega) (by decide) ?_
      refine j_top (y := v) h.top ?_
      refine j_ifne 116 dX8_worked_109 (by decide) (fun c_109 => ?_) (fun c_109 => ?_)
      · rw [if_neg c_109] at hr
        refine j_iconst (0) dX8_worked_116 rfl ?_
        refine j_iast (n := st2.length) dX8_worked_117 rfl (by decide) rfl (by omega) (by decide) ?_
        refine j_goto 182 dX8_worked_118 (by decide) ?_
        refine j_iinc5 (nI (pre.length + 1)) dX8_worked_182 (nI_1 _) rfl (by decide) ?_
        refine j_goto 12 dX8_worked_185 (by decide) ?_
        have := wr_run (g := g) (w1 := w1) hpg xs (pre ++ [-33]) post _ st' _ (.int 3) (fun y hy => hok y (List.mem_cons_of_mem _ hy)) hr (by simp only [List.length_cons] at *; omega) (by rw [List.append_assoc]; exact hc) (by rw [List.append_assoc]; exact hE) h.tl.push (fun S' w6 h' => by have := kk S' w6 h'; rw [List.append_assoc]; exact this)
        rw [List.length_append, List.length_singleton] at this
        exact this
      rw [if_pos (Classical.not_not.mp c_109)] at hr
      refine j_iconst (1) dX8_worked_112 rfl ?_
      refine j_goto 117 dX8_worked_113 (by decide) ?_
      refine j_iast (n := st2.length) dX8_worked_117 rfl (by decide) rfl (by omega) (by decide) ?_
      refine j_goto 182 dX8_worked_118 (by decide) ?_
      refine j_iinc5 (nI (pre.length + 1)) dX8_worked_182 (nI_1 _) rfl (by decide) ?_
      refine j_goto 12 dX8_worked_185 (by decide) ?_
      have := wr_run (g := g) (w1 := w1) hpg xs (pre ++ [-33]) post _ st' _ (.int 3) (fun y hy => hok y (List.mem_cons_of_mem _ hy)) hr (by simp only [List.length_cons] at *; omega) (by rw [List.append_assoc]; exact hc) (by rw [List.append_assoc]; exact hE) h.tl.push (fun S' w6 h' => by have := kk S' w6 h'; rw [List.append_assoc]; exact this)
      rw [List.length_append, List.length_singleton] at this
      exact this
    · subst hx
      rw [stepI.eq_def, if_neg (by decide), if_neg (by decide), if_neg (by decide), if_pos rfl] at hs
      rcases st with _ | ⟨v, st2⟩
      · cases hs
      cases hs
      rw [List.length_cons] at hl
      refine j_ild5 dX8_worked_12 ?_
      refine j_sipush (130) dX8_worked_14 rfl ?_
      refine j_ild1 dX8_worked_17 ?_
      refine j_imul dX8_worked_18 ?_
      refine j_ild3 dX8_worked_19 ?_
      refine j_iadd dX8_worked_20 ?_
      refine j_top (y := nI E) (by exact (congrArg (· + nI E) (show (130 : Int32) * 0 = 0 from rfl)).trans (Int32.zero_add _)) ?_
      refine j_icmpge 188 dX8_worked_21 (by decide) (fun c_21 => absurd c_21 (fun z => absurd ((nI_leI (a := E) (b := pre.length) (by omega) (by omega)).mp z) (by omega))) (fun c_21 => ?_)
      refine j_ald0 dX8_worked_24 ?_
      refine j_getR (k := 29) (79) dX8_worked_25 cX8_ok (Or.inl f8_74) rfl (by decide) (by decide) (by decide) rfl ?_
      refine j_ild5 dX8_worked_28 ?_
      refine j_bald (n := pre.length) dX8_worked_30 rfl (by decide) rfl (by omega) (by decide) ?_
      refine j_top (y := 4) (ha.trans (by decide)) ?_
      refine j_ist6 dX8_worked_31 rfl (by decide) ?_
      refine j_ild6 dX8_worked_33 ?_
      refine j_iconst (1) dX8_worked_35 rfl ?_
      refine j_icmpeq 45 dX8_worked_36 (by decide) (fun c_36 => absurd c_36 (by decide)) (fun c_36 => ?_)
      refine j_ild6 dX8_worked_39 ?_
      refine j_iconst (2) dX8_worked_41 rfl ?_
      refine j_icmpne 86 dX8_worked_42 (by decide) (fun c_42 => ?_) (fun c_42 => absurd (by decide) c_42)
      refine j_ild6 dX8_worked_86 ?_
      refine j_iconst (3) dX8_worked_88 rfl ?_
      refine j_icmpne 121 dX8_worked_89 (by decide) (fun c_89 => ?_) (fun c_89 => absurd (by decide) c_89)
      refine j_ild6 dX8_worked_121 ?_
      refine j_iconst (4) dX8_worked_123 rfl ?_
      refine j_icmpne 149 dX8_worked_124 (by decide) (fun c_124 => absurd c_124 (not_not_intro rfl)) (fun c_124 => ?_)
      refine j_ald0 dX8_worked_127 ?_
      refine j_getR (k := 35) (85) dX8_worked_128 cX8_ok (Or.inl f8_93) rfl (by decide) (by decide) (by decide) rfl ?_
      refine j_ild4 dX8_worked_131 ?_
      refine j_iconst (1) dX8_worked_133 rfl ?_
      refine j_isub dX8_worked_134 ?_
      refine j_top (y := nI st2.length) (by exact pk_sub (a := st2.length + 1) (b := 1) (by omega)) ?_
      refine j_ald0 dX8_worked_135 ?_
      refine j_getR (k := 35) (85) dX8_worked_136 cX8_ok (Or.inl f8_93) rfl (by decide) (by decide) (by decide) rfl ?_
      refine j_ild4 dX8_worked_139 ?_
      refine j_iconst (1) dX8_worked_141 rfl ?_
      refine j_isub dX8_worked_142 ?_
      refine j_top (y := nI st2.length) (by exact pk_sub (a := st2.length + 1) (b := 1) (by omega)) ?_
      refine j_iald (n := st2.length) dX8_worked_143 rfl (by decide) rfl (by omega) (by decide) ?_
      refine j_top (y := v) h.top ?_
      refine j_ineg dX8_worked_144 ?_
      refine j_iast (n := st2.length) dX8_worked_145 rfl (by decide) rfl (by omega) (by decide) ?_
      refine j_goto 182 dX8_worked_146 (by decide) ?_
      refine j_iinc5 (nI (pre.length + 1)) dX8_worked_182 (nI_1 _) rfl (by decide) ?_
      refine j_goto 12 dX8_worked_185 (by decide) ?_
      have := wr_run (g := g) (w1 := w1) hpg xs (pre ++ [-95]) post _ st' _ (.int 4) (fun y hy => hok y (List.mem_cons_of_mem _ hy)) hr (by simp only [List.length_cons] at *; omega) (by rw [List.append_assoc]; exact hc) (by rw [List.append_assoc]; exact hE) h.tl.push (fun S' w6 h' => by have := kk S' w6 h'; rw [List.append_assoc]; exact this)
      rw [List.length_append, List.length_singleton] at this
      exact this
    · have n := jn_not hx
      rw [neg_neg'] at n
      rw [stepI.eq_def, if_neg n.1, if_neg n.2.1, if_neg n.2.2.1, if_neg n.2.2.2] at hs
      rcases st with _ | ⟨r, _ | ⟨l, st2⟩⟩
      · cases hs
      · cases hs
      cases hs
      rw [List.length_cons, List.length_cons] at hl
      have q := sg_jn hx
      refine j_ild5 dX8_worked_12 ?_
      refine j_sipush (130) dX8_worked_14 rfl ?_
      refine j_ild1 dX8_worked_17 ?_
      refine j_imul dX8_worked_18 ?_
      refine j_ild3 dX8_worked_19 ?_
      refine j_iadd dX8_worked_20 ?_
      refine j_top (y := nI E) (by exact (congrArg (· + nI E) (show (130 : Int32) * 0 = 0 from rfl)).trans (Int32.zero_add _)) ?_
      refine j_icmpge 188 dX8_worked_21 (by decide) (fun c_21 => absurd c_21 (fun z => absurd ((nI_leI (a := E) (b := pre.length) (by omega) (by omega)).mp z) (by omega))) (fun c_21 => ?_)
      refine j_ald0 dX8_worked_24 ?_
      refine j_getR (k := 29) (79) dX8_worked_25 cX8_ok (Or.inl f8_74) rfl (by decide) (by decide) (by decide) rfl ?_
      refine j_ild5 dX8_worked_28 ?_
      refine j_bald (n := pre.length) dX8_worked_30 rfl (by decide) rfl (by omega) (by decide) ?_
      refine j_top (y := -x) (ha.trans q.1) ?_
      refine j_ist6 dX8_worked_31 rfl (by decide) ?_
      refine j_ild6 dX8_worked_33 ?_
      refine j_iconst (1) dX8_worked_35 rfl ?_
      refine j_icmpeq 45 dX8_worked_36 (by decide) (fun c_36 => absurd c_36 (q.2.1)) (fun c_36 => ?_)
      refine j_ild6 dX8_worked_39 ?_
      refine j_iconst (2) dX8_worked_41 rfl ?_
      refine j_icmpne 86 dX8_worked_42 (by decide) (fun c_42 => ?_) (fun c_42 => absurd (q.2.2.1) c_42)
      refine j_ild6 dX8_worked_86 ?_
      refine j_iconst (3) dX8_worked_88 rfl ?_
      refine j_icmpne 121 dX8_worked_89 (by decide) (fun c_89 => ?_) (fun c_89 => absurd (q.2.2.2.1) c_89)
      refine j_ild6 dX8_worked_121 ?_
      refine j_iconst (4) dX8_worked_123 rfl ?_
      refine j_icmpne 149 dX8_worked_124 (by decide) (fun c_124 => ?_) (fun c_124 => absurd (q.2.2.2.2) c_124)
      refine j_iinc4 (nI (st2.length + 1)) dX8_worked_149 (pk_m1 _) rfl (by decide) ?_
      refine j_ald0 dX8_worked_152 ?_
      refine j_getR (k := 35) (85) dX8_worked_153 cX8_ok (Or.inl f8_93) rfl (by decide) (by decide) (by decide) rfl ?_
      refine j_ild4 dX8_worked_156 ?_
      refine j_iconst (1) dX8_worked_158 rfl ?_
      refine j_isub dX8_worked_159 ?_
      refine j_top (y := nI st2.length) (by exact pk_sub (a := st2.length + 1) (b := 1) (by omega)) ?_
      refine j_ild6 dX8_worked_160 ?_
      refine j_ald0 dX8_worked_162 ?_
      refine j_getR (k := 35) (85) dX8_worked_163 cX8_ok (Or.inl f8_93) rfl (by decide) (by decide) (by decide) rfl ?_
      refine j_ild4 dX8_worked_166 ?_
      refine j_iconst (1) dX8_worked_168 rfl ?_
      refine j_isub dX8_worked_169 ?_
      refine j_top (y := nI st2.length) (by exact pk_sub (a := st2.length + 1) (b := 1) (by omega)) ?_
      refine j_iald (n := st2.length) dX8_worked_170 rfl (by decide) rfl (by omega) (by decide) ?_
      refine j_top (y := l) h.tl.top ?_
      refine j_ald0 dX8_worked_171 ?_
      refine j_getR (k := 35) (85) dX8_worked_172 cX8_ok (Or.inl f8_93) rfl (by decide) (by decide) (by decide) rfl ?_
      refine j_ild4 dX8_worked_175 ?_
      refine j_iald (n := (st2.length + 1)) dX8_worked_177 rfl (by decide) rfl (by omega) (by decide) ?_
      refine j_top (y := r) h.top ?_
      refine j_cS3 dX8_worked_178 kX8_twoOf zX8_twoOf (Or.inl l8_256) (Nat.le_of_ble_eq_true rfl) (Nat.le_of_ble_eq_true rfl) (by omega) (s_X8_twoOf hx) ?_
      refine j_iast (n := st2.length) dX8_worked_181 rfl (by decide) rfl (by omega) (by decide) ?_
      refine j_iinc5 (nI (pre.length + 1)) dX8_worked_182 (nI_1 _) rfl (by decide) ?_
      refine j_goto 12 dX8_worked_185 (by decide) ?_
      have := wr_run (g := g) (w1 := w1) hpg xs (pre ++ [x]) post _ st' _ (.int (-x)) (fun y hy => hok y (List.mem_cons_of_mem _ hy)) hr (by simp only [List.length_cons] at *; omega) (by rw [List.append_assoc]; exact hc) (by rw [List.append_assoc]; exact hE) h.tl.tl.push (fun S' w6 h' => by have := kk S' w6 h'; rw [List.append_assoc]; exact this)
      rw [List.length_append, List.length_singleton] at this
      exact this

end ValR
