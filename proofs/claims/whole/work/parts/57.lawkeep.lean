/-! a law's text: how the reference keeps it -/
theorem stO_take {ls : List Line} (j : Nat) : (stO (ls.take j)).length ≤ (stO ls).length := by
  have e : stO ls = stO (ls.take j) ++ stO (ls.drop j) := by
    have : ls = ls.take j ++ ls.drop j := (List.take_append_drop j ls).symm
    unfold stO
    rw [← List.flatten_append, ← List.map_append, ← this]
  rw [e, List.length_append]; omega
theorem stO_succ {ls : List Line} {k : Nat} (h : k < ls.length) : stO (ls.take (k + 1)) = stO (ls.take k) ++ ((ls.getD k ([], [])).1 ++ (ls.getD k ([], [])).2) := by
  rw [List.take_succ, List.getElem?_eq_getElem h]
  show stO (ls.take k ++ [ls[k]]) = _
  rw [stO_snoc]
  simp [List.getD, h]
theorem tE_le {ls : List Line} {k : Nat} (h : k < ls.length) : tE ls k ≤ (stO ls).length ∧ lE ls k ≤ (stO ls).length := by
  have h1 := stO_take (ls := ls) (k + 1)
  refine ⟨?_, h1⟩
  rw [stO_succ h, List.length_append, List.length_append] at h1
  unfold tE; omega
section KeepRef
variable {a : Nat → Nat} {S0 S : St} {t : Nat → Nat} {len : Nat}
/-- a program in the reference's cells -/
def PgR (ls : List Line) (S : St) : Prop := (stO ls).length ≤ 120 ∧ ls.length ≤ 60 ∧ (∀ i, i < (stO ls).length → S.1 79 i = sgA ((stO ls).getD i 0) ∧ S.1 80 i = sgW ((stO ls).getD i 0)) ∧ S.1 81 0 = nI ls.length ∧ ∀ k, k < ls.length → S.1 82 k = nI (tE ls k) ∧ S.1 83 k = nI (lE ls k)
/-- the law in the reference's cells -/
def LawR (b : Option (List Line)) (S : St) : Prop := match b with
  | none => S.1 61 36 = 0
  | some ls => S.1 61 36 = 1 ∧ PgR ls S
theorem PgR.kp {ls : List Line} {S S' : St} {rs : List Nat} (h : PgR ls S) (hk : Kp rs S S') (hr : 13 ∉ rs) : PgR ls S' :=
  ⟨h.1, h.2.1, fun i hi => ⟨by rw [hk.i (show rg 79 i ∉ rs from hr)]; exact (h.2.2.1 i hi).1, by rw [hk.i (show rg 80 i ∉ rs from hr)]; exact (h.2.2.1 i hi).2⟩, by rw [hk.i (show rg 81 0 ∉ rs from hr)]; exact h.2.2.2.1, fun k hk2 => ⟨by rw [hk.i (show rg 82 k ∉ rs from hr)]; exact (h.2.2.2.2 k hk2).1, by rw [hk.i (show rg 83 k ∉ rs from hr)]; exact (h.2.2.2.2 k hk2).2⟩⟩
theorem LawR.kp {b : Option (List Line)} {S S' : St} {rs : List Nat} (h : LawR b S) (hk : Kp rs S S') (hr : 13 ∉ rs) : LawR b S' := by
  have e := hk.i (show rg 61 36 ∉ rs from hr)
  cases b with
  | none => exact e.trans h
  | some ls => exact ⟨e.trans h.1, h.2.kp hk hr⟩
def lowR (S0 S : St) : Prop := S.1 61 36 = S0.1 61 36 ∧ (∀ k, k < 130 → S.1 79 k = S0.1 79 k ∧ S.1 80 k = S0.1 80 k) ∧ S.1 81 0 = S0.1 81 0 ∧ ∀ k, k < 61 → S.1 82 k = S0.1 82 k ∧ S.1 83 k = S0.1 83 k
theorem LawR.keep {b : Option (List Line)} (h : LawR b S0) (hl : lowR S0 S) : LawR b S := by
  cases b with
  | none => exact hl.1.trans h
  | some ls =>
    obtain ⟨h1, h2, h3, h4, h5, h6⟩ := h
    exact ⟨hl.1.trans h1, h2, h3, fun i hi => ⟨((hl.2.1 i (by omega)).1).trans (h4 i hi).1, ((hl.2.1 i (by omega)).2).trans (h4 i hi).2⟩, hl.2.2.1.trans h5, fun k hk => ⟨((hl.2.2.2 k (by omega)).1).trans (h6 k hk).1, ((hl.2.2.2 k (by omega)).2).trans (h6 k hk).2⟩⟩
def RdR (S0 : St) (r : Nat × Option (List Line)) (x : Int32) (S : St) : Prop := match r with
  | (q, none) => x = nI q ∧ Kp [12, 13, 14] S0 S ∧ S.1 61 24 = 0 ∧ lowR S0 S
  | (_, some ls) => x = -1 ∧ Kp [12, 13, 14] S0 S ∧ S.1 61 24 = 0 ∧ PgR ls S
theorem RLq.o {p : Nat} {ls : List Line} (h : RLq S0 t len p ls S) : ROq S t len p 0 (stO ls) S := ⟨h.1.q, h.2.1, h.2.2.1, h.2.2.2.1, h.2.2.2.2.1, h.2.2.2.2.2.1⟩
/-- while it is copied -/
def CpA (S0 : St) (ls : List Line) (S : St) : Prop := Kp [12, 13, 14] S0 S ∧ S.1 61 24 = 0 ∧ S.1 61 28 = nI (stO ls).length ∧ S.1 81 1 = nI ls.length ∧ ∀ k, k < ls.length → S.1 82 (61 + k) = nI (tE ls k) ∧ S.1 83 (61 + k) = nI (lE ls k)
def CpS (ls : List Line) (n : Nat) (S : St) : Prop := ∀ i, i < n → S.1 79 i = sgA ((stO ls).getD i 0) ∧ S.1 80 i = sgW ((stO ls).getD i 0)
def CpE (ls : List Line) (n : Nat) (S : St) : Prop := S.1 81 0 = nI ls.length ∧ ∀ k, k < n → S.1 82 k = nI (tE ls k) ∧ S.1 83 k = nI (lE ls k)
theorem CpA.put {ls : List Line} {j k : Nat} {x : Int32} (h : CpA S0 ls S) (hj : j = 79 ∨ j = 80 ∨ (j = 81 ∧ k = 0) ∨ ((j = 82 ∨ j = 83) ∧ k < 61)) : CpA S0 ls (uI S j k x) := by
  refine ⟨Kp_uI h.1 ?_, ?_, ?_, ?_, fun i hi => ⟨?_, ?_⟩⟩
  · rcases hj with rfl | rfl | ⟨rfl, -⟩ | ⟨rfl | rfl, -⟩ <;> (show 13 ∈ [12, 13, 14]; decide)
  · rw [uI_at, if_neg (by omega)]; exact h.2.1
  · rw [uI_at, if_neg (by omega)]; exact h.2.2.1
  · rw [uI_at, if_neg (by omega)]; exact h.2.2.2.1
  · rw [uI_at, if_neg (by omega)]; exact (h.2.2.2.2 i hi).1
  · rw [uI_at, if_neg (by omega)]; exact (h.2.2.2.2 i hi).2

set_option maxRecDepth 20000 in
theorem rt_L2 {ls : List Line} {q : Nat} (h60 : ls.length ≤ 60) (hst : (stO ls).length ≤ 120) : ∀ (fu : Nat) (k : Nat) (S : St), ls.length - k < fu → (k ≤ ls.length) → (CpA S0 ls S) → (CpS ls (stO ls).length S) → (CpE ls k S) → J a mX8_readText 53 (gm a fun x S' => ∃ y, x = some (.int y) ∧ RdR S0 (q, some ls) y S') 177 [.ref (a 61), .int 0, .int (nI k)] [] S := by
  intro fu
  induction fu with
  | zero => intro k S hk; exact absurd hk (Nat.not_lt_zero _)
  | succ fu ih =>
    intro k S hk hkl hA hS hE
    refine j_ild2 dX8_readText_177 ?_
    refine j_ald0 dX8_readText_178 ?_
    refine j_getR (k := 31) (81) dX8_readText_179 cX8_ok (Or.inl f8_80) rfl (by decide) (by decide) (by decide) rfl ?_
    refine j_ild1 dX8_readText_182 ?_
    refine j_iald (n := 0) dX8_readText_183 rfl (by decide) rfl (by omega) (by decide) ?_
    refine j_top (y := nI ls.length) hE.1 ?_
    refine j_icmpge 233 dX8_readText_184 (by decide) (fun c_184 => ?_) (fun c_184 => ?_)
    · have q_184 : k = ls.length := by have := (nI_leI (a := ls.length) (b := k) (by omega) (by omega)).mp c_184; omega
      subst q_184
      refine j_iconst (-1) dX8_readText_233 rfl ?_
      refine j_iret dX8_readText_234 rfl ?_
      exact ⟨_, rfl, rfl, hA.1, hA.2.1, hst, h60, hS, hE.1, hE.2⟩
    have q_184 : k < ls.length := Nat.not_le.mp (fun z => c_184 ((nI_leI (a := ls.length) (b := k) (by omega) (by omega)).mpr z))
    have tl := tE_le q_184
    refine j_ald0 dX8_readText_187 ?_
    refine j_getR (k := 32) (82) dX8_readText_188 cX8_ok (Or.inl f8_83) rfl (by decide) (by decide) (by decide) rfl ?_
    refine j_bipush (61) dX8_readText_191 rfl ?_
    refine j_ild1 dX8_readText_193 ?_
    refine j_imul dX8_readText_194 ?_
    refine j_ild2 dX8_readText_195 ?_
    refine j_iadd dX8_readText_196 ?_
    refine j_top (y := nI k) (by exact (congrArg (· + nI k) (show (61 : Int32) * 0 = 0 from rfl)).trans (Int32.zero_add _)) ?_
    refine j_ald0 dX8_readText_197 ?_
    refine j_getR (k := 32) (82) dX8_readText_198 cX8_ok (Or.inl f8_83) rfl (by decide) (by decide) (by decide) rfl ?_
    refine j_bipush (61) dX8_readText_201 rfl ?_
    refine j_ild2 dX8_readText_203 ?_
    refine j_iadd dX8_readText_204 ?_
    refine j_top (y := nI (61 + k)) (by exact nI_add 61 k) ?_
    refine j_sald (n := (61 + k)) dX8_readText_205 rfl (by decide) rfl (by omega) (by decide) ?_
    refine j_top (y := nI (tE ls k)) (hA.2.2.2.2 k q_184).1 ?_
    refine j_sast (n := k) dX8_readText_206 rfl (by decide) rfl (by omega) (by decide) ?_
    rw [i16_b _ (by omega)]
    refine j_ald0 dX8_readText_207 ?_
    refine j_getR (k := 33) (83) dX8_readText_208 cX8_ok (Or.inl f8_87) rfl (by decide) (by decide) (by decide) rfl ?_
    refine j_bipush (61) dX8_readText_211 rfl ?_
    refine j_ild1 dX8_readText_213 ?_
    refine j_imul dX8_readText_214 ?_
    refine j_ild2 dX8_readText_215 ?_
    refine j_iadd dX8_readText_216 ?_
    refine j_top (y := nI k) (by exact (congrArg (· + nI k) (show (61 : Int32) * 0 = 0 from rfl)).trans (Int32.zero_add _)) ?_
    refine j_ald0 dX8_readText_217 ?_
    refine j_getR (k := 33) (83) dX8_readText_218 cX8_ok (Or.inl f8_87) rfl (by decide) (by decide) (by decide) rfl ?_
    refine j_bipush (61) dX8_readText_221 rfl ?_
    refine j_ild2 dX8_readText_223 ?_
    refine j_iadd dX8_readText_224 ?_
    refine j_top (y := nI (61 + k)) (by exact nI_add 61 k) ?_
    refine j_sald (n := (61 + k)) dX8_readText_225 rfl (by decide) rfl (by omega) (by decide) ?_
    refine j_top (y := nI (lE ls k)) (by rw [uI_at, if_neg (by omega)]; exact (hA.2.2.2.2 k q_184).2) ?_
    refine j_sast (n := k) dX8_readText_226 rfl (by decide) rfl (by omega) (by decide) ?_
    rw [i16_b _ (by omega)]
    refine j_iinc2 (nI (k + 1)) dX8_readText_227 (nI_1 k) rfl (by decide) ?_
    refine j_goto 177 dX8_readText_230 (by decide) ?_
    refine ih (k + 1) _ (by omega) (by omega) ((hA.put (by omega)).put (by omega)) (fun i hi => ?_) ⟨by simp [uI_at]; exact hE.1, fun i hi => ?_⟩
    · have := hS i hi
      simp [uI_at]; exact this
    · by_cases c : i = k
      · subst c; simp [uI_at]
      · have := hE.2 i (by omega)
        simp [uI_at, c]; exact this

set_option maxRecDepth 20000 in
theorem rt_L1 {ls : List Line} {q : Nat} (h60 : ls.length ≤ 60) (hst : (stO ls).length ≤ 120) : ∀ (fu : Nat) (k : Nat) (S : St), (stO ls).length - k < fu → (k ≤ (stO ls).length) → (CpA S0 ls S) → (stepsR (stO ls) S) → (CpS ls k S) → J a mX8_readText 53 (gm a fun x S' => ∃ y, x = some (.int y) ∧ RdR S0 (q, some ls) y S') 105 [.ref (a 61), .int 0, .int (nI k)] [] S := by
  intro fu
  induction fu with
  | zero => intro k S hk; exact absurd hk (Nat.not_lt_zero _)
  | succ fu ih =>
    intro k S hk hkl hA hR hS
    refine j_ild2 dX8_readText_105 ?_
    refine j_ald0 dX8_readText_106 ?_
    refine j_getI (k := 28) dX8_readText_107 cX8_ok (Or.inl f8_209) rfl (by decide) (by decide) (by decide) ?_
    refine j_top (y := nI (stO ls).length) (hA.2.2.1) ?_
    refine j_icmpge 163 dX8_readText_110 (by decide) (fun c_110 => ?_) (fun c_110 => ?_)
    · have q_110 : k = (stO ls).length := by have := (nI_leI (a := (stO ls).length) (b := k) (by omega) (by omega)).mp c_110; omega
      subst q_110
      refine j_ald0 dX8_readText_163 ?_
      refine j_getR (k := 31) (81) dX8_readText_164 cX8_ok (Or.inl f8_80) rfl (by decide) (by decide) (by decide) rfl ?_
      refine j_ild1 dX8_readText_167 ?_
      refine j_ald0 dX8_readText_168 ?_
      refine j_getR (k := 31) (81) dX8_readText_169 cX8_ok (Or.inl f8_80) rfl (by decide) (by decide) (by decide) rfl ?_
      refine j_iconst (1) dX8_readText_172 rfl ?_
      refine j_iald (n := 1) dX8_readText_173 rfl (by decide) rfl (by decide) (by decide) ?_
      refine j_top (y := nI ls.length) hA.2.2.2.1 ?_
      refine j_iast (n := 0) dX8_readText_174 rfl (by decide) rfl (by decide) (by decide) ?_
      refine j_iconst (0) dX8_readText_175 rfl ?_
      refine j_ist2 dX8_readText_176 rfl (by decide) ?_
      exact rt_L2 h60 hst (ls.length + 1) 0 _ (by omega) (by omega) (hA.put (by omega)) (fun i hi => by have := hS i hi; simp [uI_at]; exact this) ⟨by rw [uI_at, if_pos ⟨rfl, rfl⟩], fun i hi => absurd hi (Nat.not_lt_zero _)⟩
    have q_110 : k < (stO ls).length := Nat.not_le.mp (fun z => c_110 ((nI_leI (a := (stO ls).length) (b := k) (by omega) (by omega)).mpr z))
    have hRk := hR k q_110
    refine j_ald0 dX8_readText_113 ?_
    refine j_getR (k := 29) (79) dX8_readText_114 cX8_ok (Or.inl f8_74) rfl (by decide) (by decide) (by decide) rfl ?_
    refine j_sipush (130) dX8_readText_117 rfl ?_
    refine j_ild1 dX8_readText_120 ?_
    refine j_imul dX8_readText_121 ?_
    refine j_ild2 dX8_readText_122 ?_
    refine j_iadd dX8_readText_123 ?_
    refine j_top (y := nI k) (by exact (congrArg (· + nI k) (show (130 : Int32) * 0 = 0 from rfl)).trans (Int32.zero_add _)) ?_
    refine j_ald0 dX8_readText_124 ?_
    refine j_getR (k := 29) (79) dX8_readText_125 cX8_ok (Or.inl f8_74) rfl (by decide) (by decide) (by decide) rfl ?_
    refine j_sipush (130) dX8_readText_128 rfl ?_
    refine j_ild2 dX8_readText_131 ?_
    refine j_iadd dX8_readText_132 ?_
    refine j_top (y := nI (130 + k)) (by exact nI_add 130 k) ?_
    refine j_bald (n := (130 + k)) dX8_readText_133 rfl (by decide) rfl (by omega) (by decide) ?_
    refine j_top (y := sgA ((stO ls).getD k 0)) hRk.1 ?_
    refine j_bast (n := k) dX8_readText_134 rfl (by decide) rfl (by omega) (by decide) ?_
    rw [hRk.2.2]
    refine j_ald0 dX8_readText_135 ?_
    refine j_getR (k := 30) (80) dX8_readText_136 cX8_ok (Or.inl f8_77) rfl (by decide) (by decide) (by decide) rfl ?_
    refine j_sipush (130) dX8_readText_139 rfl ?_
    refine j_ild1 dX8_readText_142 ?_
    refine j_imul dX8_readText_143 ?_
    refine j_ild2 dX8_readText_144 ?_
    refine j_iadd dX8_readText_145 ?_
    refine j_top (y := nI k) (by exact (congrArg (· + nI k) (show (130 : Int32) * 0 = 0 from rfl)).trans (Int32.zero_add _)) ?_
    refine j_ald0 dX8_readText_146 ?_
    refine j_getR (k := 30) (80) dX8_readText_147 cX8_ok (Or.inl f8_77) rfl (by decide) (by decide) (by decide) rfl ?_
    refine j_sipush (130) dX8_readText_150 rfl ?_
    refine j_ild2 dX8_readText_153 ?_
    refine j_iadd dX8_readText_154 ?_
    refine j_top (y := nI (130 + k)) (by exact nI_add 130 k) ?_
    refine j_iald (n := (130 + k)) dX8_readText_155 rfl (by decide) rfl (by omega) (by decide) ?_
    refine j_top (y := sgW ((stO ls).getD k 0)) (by rw [uI_at, if_neg (by omega)]; exact hRk.2.1) ?_
    refine j_iast (n := k) dX8_readText_156 rfl (by decide) rfl (by omega) (by decide) ?_
    refine j_iinc2 (nI (k + 1)) dX8_readText_157 (nI_1 k) rfl (by decide) ?_
    refine j_goto 105 dX8_readText_160 (by decide) ?_
    refine ih (k + 1) _ (by omega) (by omega) ((hA.put (by omega)).put (by omega)) (fun i hi => ?_) (fun i hi => ?_)
    · have := hR i hi
      have e : ¬ 130 + i = k := by omega
      simp [uI_at, e]; exact this
    · by_cases c : i = k
      · subst c; simp [uI_at]
      · have := hS i (by omega)
        simp [uI_at, c]; exact this

theorem Kp_p24 {S0 S : St} {x : Int32} (h : Kp [13, 14] S0 S) : Kp [12, 13, 14] S0 (uI S 61 24 x) := Kp_uI (h.wk (by simp)) (by decide)
theorem RXq.low {q : Nat} {x : Int32} (h : RXq S0 t len q S) : lowR S0 (uI S 61 24 x) :=
  ⟨by rw [uI_at, if_neg (by omega)]; exact h.1.2.1, fun k hk => by rw [uI_at, if_neg (by omega), uI_at, if_neg (by omega)]; exact h.1.2.2.1 k hk, by rw [uI_at, if_neg (by omega)]; exact h.1.2.2.2.1, fun k hk => by rw [uI_at, if_neg (by omega), uI_at, if_neg (by omega)]; exact h.1.2.2.2.2.1 k hk⟩
set_option maxRecDepth 20000 in
theorem rt_86 {S : St} {q : Nat} {w2 : Value} (hl : len ≤ 120) (h : RXq S0 t len q S) : J a mX8_readText 53 (gm a fun x S' => ∃ y, x = some (.int y) ∧ RdR S0 (q, none) y S') 86 [.ref (a 61), .int 0, w2] [] S := by
  refine j_ald0 dX8_readText_86 ?_
  refine j_iconst (0) dX8_readText_87 rfl ?_
  refine j_putI (k := 24) dX8_readText_88 cX8_ok (Or.inl f8_200) rfl (by decide) (by decide) (by decide) rfl ?_
  refine j_ald0 dX8_readText_91 ?_
  refine j_getI (k := 26) dX8_readText_92 cX8_ok (Or.inl f8_206) rfl (by decide) (by decide) (by decide) ?_
  refine j_top (y := nI q) (by rw [uI_at, if_neg (by omega)]; exact h.2.2) ?_
  refine j_iflt 103 dX8_readText_95 (by decide) (fun c_95 => absurd c_95 (nI_pos (by have := h.2.1; omega))) (fun c_95 => ?_)
  refine j_ald0 dX8_readText_98 ?_
  refine j_getI (k := 26) dX8_readText_99 cX8_ok (Or.inl f8_206) rfl (by decide) (by decide) (by decide) ?_
  refine j_top (y := nI q) (by rw [uI_at, if_neg (by omega)]; exact h.2.2) ?_
  refine j_iret dX8_readText_102 rfl ?_
  exact ⟨_, rfl, rfl, Kp_p24 h.1.1, by rw [uI_at, if_pos ⟨rfl, rfl⟩], h.low⟩

set_option maxRecDepth 20000 in
theorem rt_X {S : St} {q : Nat} {w2 : Value} (hl : len ≤ 120) (h : RXq S0 t len q S) : J a mX8_readText 53 (gm a fun x S' => ∃ y, x = some (.int y) ∧ RdR S0 (q, none) y S') 31 [.ref (a 61), .int 0, w2] [] S := by
  refine j_ald0 dX8_readText_31 ?_
  refine j_getI (k := 26) dX8_readText_32 cX8_ok (Or.inl f8_206) rfl (by decide) (by decide) (by decide) ?_
  refine j_ifge 64 dX8_readText_35 (by decide) (fun c_35 => ?_) (fun c_35 => absurd (by rw [h.2.2]; exact nI_pos' (by have := h.2.1; omega)) c_35)
  refine j_ald0 dX8_readText_64 ?_
  refine j_getI (k := 26) dX8_readText_65 cX8_ok (Or.inl f8_206) rfl (by decide) (by decide) (by decide) ?_
  refine j_ifge 86 dX8_readText_68 (by decide) (fun c_68 => ?_) (fun c_68 => absurd (by rw [h.2.2]; exact nI_pos' (by have := h.2.1; omega)) c_68)
  exact rt_86 hl h

set_option maxRecDepth 20000 in
theorem rt_C (ht : ∀ i, t i < 256) (hl : len ≤ 120) {w2 : Value} : ∀ (m n : Nat), n < m → ∀ (p : Nat) (ls : List Line) (S : St) (q : Nat) (ln : Line) (r : Nat × Option (List Line)), lineR t len p = (q, some ln) → p ≤ len → (stO ls).length ≤ p → 2 * ls.length ≤ p → RLq S0 t len q (ls ++ [ln]) S → textR t len (n + 1) p ls = r → len ≤ p + n → J a mX8_readText 53 (gm a fun x S' => ∃ y, x = some (.int y) ∧ RdR S0 r y S') 31 [.ref (a 61), .int 0, w2] [] S := by
  intro m
  induction m with
  | zero => intro n hn; exact absurd hn (Nat.not_lt_zero _)
  | succ m ih =>
    intro n hn p ls S q ln r hE0 hp hL hls h hr hf
    have p8 := lineR_at (t := t) hl hp
    rw [hE0] at p8
    have p7 := p8.2.2 ln rfl
    have p6 : q ≤ len := p8.2.1
    simp only [] at p7
    have hc1 : (stO (ls ++ [ln])).length ≤ q + 1 := by rw [stO_snoc, List.length_append, List.length_append]; omega
    rw [textR, hE0] at hr
    simp only [] at hr
    refine j_ald0 dX8_readText_31 ?_
    refine j_getI (k := 26) dX8_readText_32 cX8_ok (Or.inl f8_206) rfl (by decide) (by decide) (by decide) ?_
    refine j_ifge 64 dX8_readText_35 (by decide) (fun c_35 => absurd c_35 (by rw [h.2.2.1]; decide)) (fun c_35 => ?_)
    refine j_ald0 dX8_readText_38 ?_
    refine j_cV0 dX8_readText_39 kX8_look l8_218 rfl (by decide) rfl (Nat.le_of_ble_eq_true rfl) (Nat.le_of_ble_eq_true rfl) (by omega) (s_X8_look hl p6 h.o) ?_
    refine j_bipush (59) dX8_readText_42 rfl ?_
    refine j_icmpne 64 dX8_readText_44 (by decide) (fun c_44 => ?_) (fun c_44 => ?_)
    · have hs : ¬ sv t len q = 59 := fun z => c_44 ((lk_c ht (by decide) (by decide)).mpr z)
      rw [if_neg hs] at hr
      refine j_ald0 dX8_readText_64 ?_
      refine j_getI (k := 26) dX8_readText_65 cX8_ok (Or.inl f8_206) rfl (by decide) (by decide) (by decide) ?_
      refine j_ifge 86 dX8_readText_68 (by decide) (fun c_68 => absurd c_68 (by rw [h.2.2.1]; decide)) (fun c_68 => ?_)
      refine j_ald0 dX8_readText_71 ?_
      refine j_getI (k := 25) dX8_readText_72 cX8_ok (Or.inl f8_203) rfl (by decide) (by decide) (by decide) ?_
      refine j_ald0 dX8_readText_75 ?_
      refine j_getI (k := 24) dX8_readText_76 cX8_ok (Or.inl f8_200) rfl (by decide) (by decide) (by decide) ?_
      refine j_icmpge 86 dX8_readText_79 (by decide) (fun c_79 => ?_) (fun c_79 => ?_)
      · have q_79 : len ≤ q := by
          have c := c_79
          rw [h.2.1, h.1.2.2.2.2.2.1] at c
          exact (nI_leI (a := len) (b := q) (by omega) (by omega)).mp c
        rw [if_neg (by omega)] at hr
        subst hr
        have hp6 : (stO (ls ++ [ln])).length ≤ 120 := by rw [stO_snoc, List.length_append, List.length_append]; omega
        have hp5 : (ls ++ [ln]).length ≤ 60 := by rw [List.length_append, List.length_singleton]; omega
        refine j_ald0 dX8_readText_86 ?_
        refine j_iconst (0) dX8_readText_87 rfl ?_
        refine j_putI (k := 24) dX8_readText_88 cX8_ok (Or.inl f8_200) rfl (by decide) (by decide) (by decide) rfl ?_
        refine j_ald0 dX8_readText_91 ?_
        refine j_getI (k := 26) dX8_readText_92 cX8_ok (Or.inl f8_206) rfl (by decide) (by decide) (by decide) ?_
        refine j_top (y := -1) (by rw [uI_at, if_neg (by omega)]; exact h.2.2.1) ?_
        refine j_iflt 103 dX8_readText_95 (by decide) (fun c_95 => ?_) (fun c_95 => absurd (by decide) c_95)
        refine j_iconst (0) dX8_readText_103 rfl ?_
        refine j_ist2 dX8_readText_104 rfl (by decide) ?_
        exact rt_L1 hp5 hp6 ((stO (ls ++ [ln])).length + 1) 0 _ (by omega) (by omega) ⟨Kp_p24 h.1.1, by rw [uI_at, if_pos ⟨rfl, rfl⟩], by rw [uI_at, if_neg (by omega)]; exact h.2.2.2.2.1, by rw [uI_at, if_neg (by omega)]; exact h.2.2.2.2.2.2.1, fun k hk => by rw [uI_at, if_neg (by omega), uI_at, if_neg (by omega)]; exact h.2.2.2.2.2.2.2 k hk⟩ h.2.2.2.2.2.1.put61 (fun i hi => absurd hi (Nat.not_lt_zero _))
      have q_79 : q < len := by
        have c := c_79
        rw [h.2.1, h.1.2.2.2.2.2.1] at c
        exact Nat.not_le.mp (fun z => c (nI_le z (by omega)))
      rw [if_pos q_79] at hr
      subst hr
      refine j_ald0 dX8_readText_82 ?_
      refine j_qvV0 dX8_readText_83 kX8_faulty l8_215 rfl (by decide) rfl (Nat.le_of_ble_eq_true rfl) (Nat.le_of_ble_eq_true rfl) (by omega) (s_X8_faulty p6 h.o) (fun S2 h2 => ?_)
      have hx : RXq S0 t len q S2 := ⟨h.1.tr h2.1, h2.2.1, h2.2.2.1.1⟩
      exact rt_86 hl hx
    have hs : sv t len q = 59 := (lk_c ht (by decide) (by decide)).mp (Classical.not_not.mp c_44)
    rw [if_pos hs] at hr
    have hlt := (sv_lt hs (by decide)).1
    refine j_ald0 dX8_readText_47 ?_
    refine j_dup dX8_readText_48 rfl ?_
    refine j_getI (k := 25) dX8_readText_49 cX8_ok (Or.inl f8_203) rfl (by decide) (by decide) (by decide) ?_
    refine j_top (y := nI q) (h.2.1) ?_
    refine j_iconst (1) dX8_readText_52 rfl ?_
    refine j_iadd dX8_readText_53 ?_
    refine j_top (y := nI (q + 1)) (nI_1 q) ?_
    refine j_putI (k := 25) dX8_readText_54 cX8_ok (Or.inl f8_203) rfl (by decide) (by decide) (by decide) rfl ?_
    refine j_ald0 dX8_readText_57 ?_
    refine j_qvV0 dX8_readText_58 kX8_line l8_253 rfl (by decide) rfl (Nat.le_of_ble_eq_true rfl) (Nat.le_of_ble_eq_true rfl) (by omega) (s_X8_line ht hl (p := q + 1) (ls := ls ++ [ln]) hlt hc1 (by rw [List.length_append, List.length_singleton]; omega) ⟨h.1.put61 (by decide) (by decide), by rw [uI_at, if_pos ⟨rfl, rfl⟩], by rw [uI_at, if_neg (by omega)]; exact h.2.2.1, by rw [uI_at, if_neg (by omega)]; exact h.2.2.2.1, by rw [uI_at, if_neg (by omega)]; exact h.2.2.2.2.1, h.2.2.2.2.2.1.put61, by rw [uI_at, if_neg (by omega)]; exact h.2.2.2.2.2.2.1, fun k hk => by rw [uI_at, if_neg (by omega), uI_at, if_neg (by omega)]; exact h.2.2.2.2.2.2.2 k hk⟩) (fun S2 h2 => ?_)
    have p9 := lineR_at (t := t) hl (p := q + 1) hlt
    rcases n with _ | n
    · omega
    · rcases hE : lineR t len (q + 1) with ⟨q2, _ | ln2⟩
      · try rw [hE] at h2
        have h2 : RXq S0 t len q2 S2 := h2
        have hr : r = (q2, none) := by rw [← hr, textR, hE]
        subst hr
        refine j_goto 31 dX8_readText_61 (by decide) ?_
        exact rt_X hl h2
      · try rw [hE] at h2
        have h2 : RLq S0 t len q2 (ls ++ [ln] ++ [ln2]) S2 := h2
        refine j_goto 31 dX8_readText_61 (by decide) ?_
        exact ih n (by omega) (q + 1) (ls ++ [ln]) S2 q2 ln2 r hE hlt hc1 (by rw [List.length_append, List.length_singleton]; omega) h2 hr (by omega)

set_option maxRecDepth 20000 in
theorem s_X8_readText {S : St} (ht : ∀ i, t i < 256) (hl : len ≤ 120) (hT : S.1 61 24 = nI len) (hTt : ∀ i, i < len → S.1 78 i = (nI (t i)).toInt8.toInt32) : Rqi a mX8_readText 53 [.ref (a 61), .int 0] S (RdR S (textR t len 121 0 [])) := by
  show J _ _ _ _ 0 [_, _, .null] [] _
  refine j_ald0 dX8_readText_0 ?_
  refine j_iconst (0) dX8_readText_1 rfl ?_
  refine j_putI (k := 25) dX8_readText_2 cX8_ok (Or.inl f8_203) rfl (by decide) (by decide) (by decide) rfl ?_
  refine j_ald0 dX8_readText_5 ?_
  refine j_iconst (-1) dX8_readText_6 rfl ?_
  refine j_putI (k := 26) dX8_readText_7 cX8_ok (Or.inl f8_206) rfl (by decide) (by decide) (by decide) rfl ?_
  refine j_ald0 dX8_readText_10 ?_
  refine j_iconst (0) dX8_readText_11 rfl ?_
  refine j_putI (k := 27) dX8_readText_12 cX8_ok (Or.inl f8_212) rfl (by decide) (by decide) (by decide) rfl ?_
  refine j_ald0 dX8_readText_15 ?_
  refine j_iconst (0) dX8_readText_16 rfl ?_
  refine j_putI (k := 28) dX8_readText_17 cX8_ok (Or.inl f8_209) rfl (by decide) (by decide) (by decide) rfl ?_
  refine j_ald0 dX8_readText_20 ?_
  refine j_getR (k := 31) (81) dX8_readText_21 cX8_ok (Or.inl f8_80) rfl (by decide) (by decide) (by decide) rfl ?_
  refine j_iconst (1) dX8_readText_24 rfl ?_
  refine j_iconst (0) dX8_readText_25 rfl ?_
  refine j_iast (n := 1) dX8_readText_26 rfl (by decide) rfl (by decide) (by decide) ?_
  have h0 : RLq S t len 0 [] (uI (uI (uI (uI (uI S 61 25 0) 61 26 (-1)) 61 27 0) 61 28 0) 81 1 0) := by
    have hb : RBt S t len S := ⟨Kp.rf, rfl, fun _ _ => ⟨rfl, rfl⟩, rfl, fun _ _ => ⟨rfl, rfl⟩, hT, hTt⟩
    refine ⟨((((hb.put61 (by decide) (by decide)).put61 (by decide) (by decide)).put61 (by decide) (by decide)).put61 (by decide) (by decide)).putE (Or.inl ⟨rfl, rfl⟩), ?_, ?_, ?_, ?_, fun i hi => absurd hi (Nat.not_lt_zero _), ?_, fun k hk => absurd hk (Nat.not_lt_zero _)⟩ <;> (simp [uI_at, stO] <;> rfl)
  refine j_ald0 dX8_readText_27 ?_
  refine j_qvV0 dX8_readText_28 kX8_line l8_253 rfl (by decide) rfl (Nat.le_of_ble_eq_true rfl) (Nat.le_of_ble_eq_true rfl) (by omega) (s_X8_line ht hl (p := 0) (ls := []) (by omega) (by decide) (by decide) h0) (fun S1 h1 => ?_)
  rcases hE : lineR t len 0 with ⟨q, _ | ln⟩
  · try rw [hE] at h1
    have h1 : RXq S t len q S1 := h1
    have hr : textR t len 121 0 [] = (q, none) := by rw [textR, hE]
    rw [hr]
    exact rt_X hl h1
  · try rw [hE] at h1
    have h1 : RLq S t len q ([] ++ [ln]) S1 := h1
    exact rt_C ht hl 121 120 (by decide) 0 [] S1 q ln _ hE (by omega) (by decide) (by decide) h1 rfl (by omega)

theorem rdR_all {S0 S : St} {y : Int32} {b : Option (List Line)} : ∀ {rr : Nat × Option (List Line)}, RdR S0 rr y S → LawR b S0 → y = rdV rr ∧ Kp [12, 13, 14] S0 S ∧ S.1 61 24 = 0 ∧ ((∃ q, rr = (q, none)) → LawR b S) ∧ ∀ q ls, rr = (q, some ls) → PgR ls S
  | (q, none), h, hb => ⟨h.1, h.2.1, h.2.2.1, fun _ => hb.keep h.2.2.2, fun _ _ z => by cases z⟩
  | (q, some ls), h, hb => ⟨h.1, h.2.1, h.2.2.1, (fun z => by obtain ⟨_, z⟩ := z; cases z), fun _ _ z => by cases z; exact h.2.2.2⟩
set_option maxRecDepth 20000 in
theorem s_X8_law {S : St} {b : Option (List Line)} {len : Nat} {t : Nat → Nat} (h : FR len t S) (hb : LawR b S) : Rqi a mX8_law 54 [.ref (a 61)] S fun x S' => x = lawV (lawT len t) ∧ FR 0 t S' ∧ Kp [12, 13, 14] S S' ∧ LawR (lawN (lawT len t) b) S' := by
  show J _ _ _ _ 0 [_, .null] [] _
  refine j_ald0 dX8_law_0 ?_
  refine j_iconst (0) dX8_law_1 rfl ?_
  refine j_qiV1 dX8_law_2 kX8_readText l8_262 rfl (by decide) rfl (Nat.le_of_ble_eq_true rfl) (Nat.le_of_ble_eq_true rfl) (by omega) (s_X8_readText (t := tt t) (tt_lt t) h.2.1 h.1 (fun i hi => by rw [tt_eq (h.2.2 i hi).2]; exact (h.2.2 i hi).1)) (fun y S1 h1 => ?_)
  refine j_ist1 dX8_law_5 rfl (by decide) ?_
  have hq := lawT_q (len := len) (t := t) h.2.1
  have hkp := rdR_all (rr := lawT len t) h1 hb
  clear h1
  obtain ⟨rfl, k1, k24, k4, k5⟩ := hkp
  generalize lawT len t = rr at *
  rcases rr with ⟨q, _ | ls⟩
  · refine j_ild1 dX8_law_6 ?_
    refine j_iflt 15 dX8_law_7 (by decide) (fun c_7 => absurd c_7 (nI_pos (by have : q ≤ len := hq; have := h.2.1; omega))) (fun c_7 => ?_)
    refine j_bipush (-100) dX8_law_10 rfl ?_
    refine j_ild1 dX8_law_12 ?_
    refine j_isub dX8_law_13 ?_
    refine j_iret dX8_law_14 rfl ?_
    exact ⟨_, rfl, rfl, ⟨k24, by decide, fun i hi => absurd hi (Nat.not_lt_zero _)⟩, k1, k4 ⟨_, rfl⟩⟩
  · refine j_ild1 dX8_law_6 ?_
    refine j_iflt 15 dX8_law_7 (by decide) (fun c_7 => ?_) (fun c_7 => absurd (by show (-1 : Int32) < 0; decide) c_7)
    refine j_ald0 dX8_law_15 ?_
    refine j_iconst (1) dX8_law_16 rfl ?_
    refine j_putZ (k := 36) (by decide) dX8_law_17 cX8_ok (Or.inl f8_265) rfl (by decide) (by decide) (by decide) rfl ?_
    refine j_iconst (1) dX8_law_20 rfl ?_
    refine j_iret dX8_law_21 rfl ?_
    exact ⟨_, rfl, rfl, ⟨by rw [uI_at, if_neg (by omega)]; exact k24, by decide, fun i hi => absurd hi (Nat.not_lt_zero _)⟩, Kp_uI k1 (by decide), by rw [uI_at, if_pos ⟨rfl, rfl⟩], (k5 _ _ rfl).1, (k5 _ _ rfl).2.1, fun i hi => by rw [uI_at, if_neg (by omega), uI_at, if_neg (by omega)]; exact (k5 _ _ rfl).2.2.1 i hi, by rw [uI_at, if_neg (by omega)]; exact (k5 _ _ rfl).2.2.2.1, fun k hk => by rw [uI_at, if_neg (by omega), uI_at, if_neg (by omega)]; exact (k5 _ _ rfl).2.2.2.2 k hk⟩

end KeepRef
