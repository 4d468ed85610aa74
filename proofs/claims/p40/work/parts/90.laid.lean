/-! beside the hat: urns, tests, lies, quotes -/
theorem sh_20 {X k : Nat} (hX : X < 2 ^ 31) (hk : k < 20) : nI X >>> (nI k &&& 31) = nI (X / 2 ^ k) := by
  by_cases h : k < 16
  · exact sh_any hX h
  · rcases (show k = 16 ∨ k = 17 ∨ k = 18 ∨ k = 19 by omega) with rfl | rfl | rfl | rfl <;> exact pk_shrN hX _ _ (by decide)
/-- what P says is as at first; the cards stay -/
def LI (n : Nat) (v : Nat → Nat → Nat) (S : St) (P : Nat → Nat → Prop) (S1 : St) : Prop := ∃ v', TC n v' S1 ∧ (∀ w, w < 3 → ∀ i, v' w i = v w i) ∧ (∃ kk u h, HC kk u h S1) ∧ Kp [1] S S1 ∧ ∀ w i, P w i → v' w i = v0 w i
theorem LI.wk {n : Nat} {v : Nat → Nat → Nat} {S S1 : St} {P P' : Nat → Nat → Prop} (h : LI n v S P S1) (hP : ∀ w i, P' w i → P w i) : LI n v S P' S1 := by
  obtain ⟨v', h1, h2, h3, h4, h5⟩ := h
  exact ⟨v', h1, h2, h3, h4, fun w i q => h5 w i (hP w i q)⟩
theorem LI_mend {a : Nat → Nat} {n : Nat} {v : Nat → Nat → Nat} {S S1 : St} {P P' : Nat → Nat → Prop} (hl : LI n v S P S1) {w i x : Nat} (hw3 : 3 ≤ w) (hw : w < 12) (hi : i < numN n w) (hx : x ≤ mostN w) (hp : P w i) (hP : ∀ w' i', P' w' i' → P w' i' ∧ ¬ (w' = w ∧ i' = i)) : Rqi a mX7_mend 3 [.ref (a 0), .int (nI i), .int (nI w), .int (nI x)] S1 (fun r S2 => r = nI (v0 w i) ∧ LI n v S P' S2) := by
  obtain ⟨v', h1, h2, ⟨kk, u, h, h3⟩, h4, h5⟩ := hl
  refine Rqi.up (s_X7_mend_ok h1 h3 hw hi hx) (Nat.le_refl _) (fun z S2 e => ?_)
  obtain ⟨e1, e2, e3, e4⟩ := e
  refine ⟨by rw [e1, h5 w i hp], up2 v' w i x, e3, fun w' hw' i' => ?_, ?_, h4.tr e2, fun w' i' q => ?_⟩
  · unfold up2
    rw [if_neg (by omega)]
    exact h2 w' hw' i'
  · split at e4
    · exact ⟨_, _, _, e4⟩
    · exact ⟨_, _, _, e4⟩
  · have := hP w' i' q
    unfold up2
    rw [if_neg this.2]
    exact h5 w' i' this.1
def P1 (i c : Nat) : Nat → Nat → Prop := fun w j => 3 ≤ w ∧ (w < 8 → i ≤ j ∧ (j = i → 3 + c ≤ w))
def P2 (i : Nat) : Nat → Nat → Prop := fun w j => 8 ≤ w ∧ (w = 8 → i ≤ j)
def P3 (m : Nat) : Nat → Nat → Prop := fun w _ => m ≤ w
def P6 (i : Nat) : Nat → Nat → Prop := fun w j => w = 11 ∧ i ≤ j
theorem first_v0 {c i : Nat} (hc : c < 5) (hi : i < 4) : nI (v0 (3 + c) i) = ([1, 1, 9, 9, 10, 3] : List Int32).getD c 0 := by
  rcases (show c = 0 ∨ c = 1 ∨ c = 2 ∨ c = 3 ∨ c = 4 by omega) with rfl | rfl | rfl | rfl | rfl <;> rcases (show i = 0 ∨ i = 1 ∨ i = 2 ∨ i = 3 by omega) with rfl | rfl | rfl | rfl <;> decide
theorem num_lo {n c : Nat} (hc : c < 5) : numN n (3 + c) = 4 := by
  rcases (show c = 0 ∨ c = 1 ∨ c = 2 ∨ c = 3 ∨ c = 4 by omega) with rfl | rfl | rfl | rfl | rfl <;> (unfold numN; rw [if_neg (by decide)]; rfl)
def LQ (n : Nat) (v : Nat → Nat → Nat) (S : St) (r : Option Value) (S1 : St) : Prop := r = some (.int 1) ∧ LI n v S (fun _ _ => False) S1
section Laid
variable {a : Nat → Nat} {S : St} {b Ls n : Nat} {v : Nat → Nat → Nat} {xs : Nat → Int32}

set_option maxRecDepth 20000 in
theorem lp_laid9 (hL : Ls ≤ 260) {i : Nat} (hi : i < 4) (kk : ∀ (w3 : Value) S2, LI n v S (P1 (i + 1) 0) S2 → J a mL_laid 5 (gx a b Ls xs (LQ n v S)) 44 [.ref (a 0), .ref b, .int (nI i), w3] [] S2) : ∀ (fu : Nat) (c : Nat) (S1 : St), 5 - c < fu → (c ≤ 5) → (LI n v S (P1 i c) S1) → J a mL_laid 5 (gx a b Ls xs (LQ n v S)) 9 [.ref (a 0), .ref b, .int (nI i), .int (nI c)] [] S1 := by
  intro fu
  induction fu with
  | zero => intro c S1 hk; exact absurd hk (Nat.not_lt_zero _)
  | succ fu ih =>
    intro c S1 hk hc hI
    refine j_ild3 dL_laid_9 ?_
    refine j_iconst (5) dL_laid_10 rfl ?_
    refine j_icmpge 44 dL_laid_11 (by decide) (fun c_11 => ?_) (fun c_11 => ?_)
    · have q_11 : c = 5 := by have := (nI_leI (a := 5) (b := c) (by omega) (by omega)).mp c_11; omega
      subst q_11
      exact kk _ _ (hI.wk (fun w j q => by unfold P1 at *; omega))
    have q_11 : c < 5 := Nat.not_le.mp (fun z => c_11 ((nI_leI (a := 5) (b := c) (by omega) (by omega)).mpr z))
    refine j_ald0 dL_laid_14 ?_
    refine j_ild2 dL_laid_15 ?_
    refine j_iconst (3) dL_laid_16 rfl ?_
    refine j_ild3 dL_laid_17 ?_
    refine j_iadd dL_laid_18 ?_
    refine j_top (y := nI (3 + c)) (nI_add 3 c) ?_
    refine j_ald1 dL_laid_19 ?_
    refine j_ild3 dL_laid_20 ?_
    refine j_ild2 dL_laid_21 ?_
    refine j_xcS3 (fun _ _ h => h) dL_laid_22 kL_beside zL_beside lL_102 (Nat.le_of_ble_eq_true rfl) (Nat.le_of_ble_eq_true rfl) (by omega) (s_L_beside hL (w := c) (n := i) (by omega) (by omega)) ?_
    refine j_qiV3 dL_laid_25 kX7_mend lL_105 rfl (by decide) rfl (Nat.le_of_ble_eq_true rfl) (Nat.le_of_ble_eq_true rfl) (by omega) (LI_mend (P' := P1 i (c + 1)) hI (w := 3 + c) (i := i) (x := bsF Ls xs c i) (by omega) (by omega) (by rw [num_lo q_11]; exact hi) (bsF_le (by omega)) (by unfold P1; omega) (fun w' i' q => by unfold P1 at *; omega)) (fun vm Sm hm => ?_)
    obtain ⟨rfl, hI2⟩ := hm
    refine j_gets (i := 3) dL_laid_28 rfl (Or.inl fL_98) ?_
    refine j_ild3 dL_laid_31 ?_
    refine j_tald (i := 3) (k := c) dL_laid_32 rfl rfl (show c < 6 by omega) (by decide) ?_
    refine j_icmpeq 38 dL_laid_33 (by decide) (fun c_33 => ?_) (fun c_33 => absurd (first_v0 q_11 hi) c_33)
    refine j_iinc3 (nI (c + 1)) dL_laid_38 (nI_1 c) rfl (by decide) ?_
    refine j_goto 9 dL_laid_41 (by decide) ?_
    exact ih (c + 1) _ (by omega) (by omega) hI2

set_option maxRecDepth 20000 in
theorem lp_laid2 (hL : Ls ≤ 260) (kk : ∀ (w3 : Value) S2, LI n v S (P2 0) S2 → J a mL_laid 5 (gx a b Ls xs (LQ n v S)) 50 [.ref (a 0), .ref b, .int (nI 4), w3] [] S2) : ∀ (fu : Nat) (i : Nat) (w3 : Value) (S1 : St), 4 - i < fu → (i ≤ 4) → (LI n v S (P1 i 0) S1) → J a mL_laid 5 (gx a b Ls xs (LQ n v S)) 2 [.ref (a 0), .ref b, .int (nI i), w3] [] S1 := by
  intro fu
  induction fu with
  | zero => intro i w3 S1 hk; exact absurd hk (Nat.not_lt_zero _)
  | succ fu ih =>
    intro i w3 S1 hk hi hI
    refine j_ild2 dL_laid_2 ?_
    refine j_iconst (4) dL_laid_3 rfl ?_
    refine j_icmpge 50 dL_laid_4 (by decide) (fun c_4 => ?_) (fun c_4 => ?_)
    · have q_4 : i = 4 := by have := (nI_leI (a := 4) (b := i) (by omega) (by omega)).mp c_4; omega
      subst q_4
      exact kk _ _ (hI.wk (fun w j q => by unfold P1; unfold P2 at q; omega))
    have q_4 : i < 4 := Nat.not_le.mp (fun z => c_4 ((nI_leI (a := 4) (b := i) (by omega) (by omega)).mpr z))
    refine j_iconst (0) dL_laid_7 rfl ?_
    refine j_ist3 dL_laid_8 rfl (by decide) ?_
    refine lp_laid9 hL q_4 (fun w3 S2 hI2 => ?_) 6 0 S1 (by decide) (by decide) hI
    refine j_iinc2 (nI (i + 1)) dL_laid_44 (nI_1 i) rfl (by decide) ?_
    refine j_goto 2 dL_laid_47 (by decide) ?_
    exact ih (i + 1) _ _ (by omega) (by omega) hI2

set_option maxRecDepth 20000 in
theorem lp_laid52 (hL : Ls ≤ 260) (kk : ∀ (w3 : Value) S2, LI n v S (P3 9) S2 → J a mL_laid 5 (gx a b Ls xs (LQ n v S)) 83 [.ref (a 0), .ref b, .int (nI 6), w3] [] S2) : ∀ (fu : Nat) (i : Nat) (w3 : Value) (S1 : St), 6 - i < fu → (i ≤ 6) → (LI n v S (P2 i) S1) → J a mL_laid 5 (gx a b Ls xs (LQ n v S)) 52 [.ref (a 0), .ref b, .int (nI i), w3] [] S1 := by
  intro fu
  induction fu with
  | zero => intro i w3 S1 hk; exact absurd hk (Nat.not_lt_zero _)
  | succ fu ih =>
    intro i w3 S1 hk hi hI
    refine j_ild2 dL_laid_52 ?_
    refine j_bipush (6) dL_laid_53 rfl ?_
    refine j_icmpge 83 dL_laid_55 (by decide) (fun c_55 => ?_) (fun c_55 => ?_)
    · have q_55 : i = 6 := by have := (nI_leI (a := 6) (b := i) (by omega) (by omega)).mp c_55; omega
      subst q_55
      exact kk _ _ (hI.wk (fun w j q => by unfold P2; unfold P3 at q; omega))
    have q_55 : i < 6 := Nat.not_le.mp (fun z => c_55 ((nI_leI (a := 6) (b := i) (by omega) (by omega)).mpr z))
    refine j_ald0 dL_laid_58 ?_
    refine j_ild2 dL_laid_59 ?_
    refine j_bipush (8) dL_laid_60 rfl ?_
    refine j_ald1 dL_laid_62 ?_
    refine j_iconst (5) dL_laid_63 rfl ?_
    refine j_ild2 dL_laid_64 ?_
    refine j_xcS3 (fun _ _ h => h) dL_laid_65 kL_beside zL_beside lL_102 (Nat.le_of_ble_eq_true rfl) (Nat.le_of_ble_eq_true rfl) (by omega) (s_L_beside hL (w := 5) (n := i) (by omega) (by omega)) ?_
    refine j_qiV3 dL_laid_68 kX7_mend lL_105 rfl (by decide) rfl (Nat.le_of_ble_eq_true rfl) (Nat.le_of_ble_eq_true rfl) (by omega) (LI_mend (P' := P2 (i + 1)) hI (w := 8) (i := i) (x := bsF Ls xs 5 i) (by omega) (by omega) (by show i < numN n 8; unfold numN; rw [if_neg (by decide)]; exact q_55) (bsF_le (w := 5) (by decide)) (by unfold P2; omega) (fun w' i' q => by unfold P2 at *; omega)) (fun vm Sm hm => ?_)
    obtain ⟨rfl, hI2⟩ := hm
    refine j_iconst (3) dL_laid_71 rfl ?_
    refine j_icmpeq 77 dL_laid_72 (by decide) (fun c_72 => ?_) (fun c_72 => absurd (by rcases (show i = 0 ∨ i = 1 ∨ i = 2 ∨ i = 3 ∨ i = 4 ∨ i = 5 by omega) with rfl | rfl | rfl | rfl | rfl | rfl <;> decide) c_72)
    refine j_iinc2 (nI (i + 1)) dL_laid_77 (nI_1 i) rfl (by decide) ?_
    refine j_goto 52 dL_laid_80 (by decide) ?_
    exact ih (i + 1) _ _ (by omega) (by omega) hI2

set_option maxRecDepth 20000 in
theorem lp_laid131 (hL : Ls ≤ 260) : ∀ (fu : Nat) (i : Nat) (w3 : Value) (S1 : St), 3 - i < fu → (i ≤ 3) → (LI n v S (P6 i) S1) → J a mL_laid 5 (gx a b Ls xs (LQ n v S)) 131 [.ref (a 0), .ref b, .int (nI i), w3] [] S1 := by
  intro fu
  induction fu with
  | zero => intro i w3 S1 hk; exact absurd hk (Nat.not_lt_zero _)
  | succ fu ih =>
    intro i w3 S1 hk hi hI
    refine j_ild2 dL_laid_131 ?_
    refine j_iconst (3) dL_laid_132 rfl ?_
    refine j_icmpge 171 dL_laid_133 (by decide) (fun c_133 => ?_) (fun c_133 => ?_)
    · have q_133 : i = 3 := by have := (nI_leI (a := 3) (b := i) (by omega) (by omega)).mp c_133; omega
      subst q_133
      refine j_iconst (1) dL_laid_171 rfl ?_
      refine j_xzret dL_laid_172 rfl (by decide) ?_
      exact ⟨rfl, hI.wk (fun _ _ q => q.elim)⟩
    have q_133 : i < 3 := Nat.not_le.mp (fun z => c_133 ((nI_leI (a := 3) (b := i) (by omega) (by omega)).mpr z))
    refine j_ald0 dL_laid_136 ?_
    refine j_ild2 dL_laid_137 ?_
    refine j_bipush (11) dL_laid_138 rfl ?_
    refine j_ald1 dL_laid_140 ?_
    refine j_bipush (34) dL_laid_141 rfl ?_
    refine j_xcS2 (fun _ _ h => h) dL_laid_143 kL_cell zL_cell lL_43 (Nat.le_of_ble_eq_true rfl) (Nat.le_of_ble_eq_true rfl) (by omega) (s_L_cell hL (i := 34) (by decide)) ?_
    refine j_bipush (11) dL_laid_146 rfl ?_
    refine j_iconst (4) dL_laid_148 rfl ?_
    refine j_ild2 dL_laid_149 ?_
    refine j_imul dL_laid_150 ?_
    refine j_top (y := nI (4 * i)) (pk_mul 4 i) ?_
    refine j_iadd dL_laid_151 ?_
    refine j_top (y := nI (11 + 4 * i)) (nI_add 11 (4 * i)) ?_
    refine j_ishr dL_laid_152 ?_
    refine j_top (y := nI (cl Ls xs 34 / 2 ^ (11 + 4 * i))) (sh_20 (by have := cl_lt (Ls := Ls) (xs := xs) (i := 34) (by omega); omega) (by omega)) ?_
    refine j_bipush (13) dL_laid_153 rfl ?_
    refine j_irem dL_laid_155 (by decide) ?_
    refine j_top (y := nI (cl Ls xs 34 / 2 ^ (11 + 4 * i) % 13)) (pk_rem (a := cl Ls xs 34 / 2 ^ (11 + 4 * i)) (d := 13) (Nat.lt_of_le_of_lt (Nat.div_le_self _ _) (by have := cl_lt (Ls := Ls) (xs := xs) (i := 34) (by omega); omega)) (by decide) (by decide)) ?_
    refine j_qiV3 dL_laid_156 kX7_mend lL_105 rfl (by decide) rfl (Nat.le_of_ble_eq_true rfl) (Nat.le_of_ble_eq_true rfl) (by omega) (LI_mend (P' := P6 (i + 1)) hI (w := 11) (i := i) (x := cl Ls xs 34 / 2 ^ (11 + 4 * i) % 13) (by omega) (by omega) (by show i < numN n 11; unfold numN; rw [if_neg (by decide)]; exact q_133) (by have := Nat.mod_lt (cl Ls xs 34 / 2 ^ (11 + 4 * i)) (show 0 < 13 by decide); show _ ≤ 12; omega) (by unfold P6; omega) (fun w' i' q => by unfold P6 at *; omega)) (fun vm Sm hm => ?_)
    obtain ⟨rfl, hI2⟩ := hm
    refine j_iconst (4) dL_laid_159 rfl ?_
    refine j_icmpeq 165 dL_laid_160 (by decide) (fun c_160 => ?_) (fun c_160 => absurd (by rcases (show i = 0 ∨ i = 1 ∨ i = 2 by omega) with rfl | rfl | rfl <;> decide) c_160)
    refine j_iinc2 (nI (i + 1)) dL_laid_165 (nI_1 i) rfl (by decide) ?_
    refine j_goto 131 dL_laid_168 (by decide) ?_
    exact ih (i + 1) _ _ (by omega) (by omega) hI2

theorem laid_83 (hL : Ls ≤ 260) {w2 w3 : Value} {S1 : St} (hI : LI n v S (P3 9) S1) : J a mL_laid 5 (gx a b Ls xs (LQ n v S)) 83 [.ref (a 0), .ref b, w2, w3] [] S1 := by
  refine j_ald0 dL_laid_83 ?_
  refine j_iconst (0) dL_laid_84 rfl ?_
  refine j_bipush (9) dL_laid_85 rfl ?_
  refine j_ald1 dL_laid_87 ?_
  refine j_bipush (34) dL_laid_88 rfl ?_
  refine j_xcS2 (fun _ _ h => h) dL_laid_90 kL_cell zL_cell lL_43 (Nat.le_of_ble_eq_true rfl) (Nat.le_of_ble_eq_true rfl) (by omega) (s_L_cell hL (i := 34) (by decide)) ?_
  refine j_bipush (100) dL_laid_93 rfl ?_
  refine j_irem dL_laid_95 (by decide) ?_
  refine j_top (y := nI (cl Ls xs 34 % 100)) (pk_rem (a := cl Ls xs 34) (d := 100) (by have := cl_lt (Ls := Ls) (xs := xs) (i := 34) (by omega); omega) (by decide) (by decide)) ?_
  refine j_qiV3 dL_laid_96 kX7_mend lL_105 rfl (by decide) rfl (Nat.le_of_ble_eq_true rfl) (Nat.le_of_ble_eq_true rfl) (by omega) (LI_mend (P' := P3 10) hI (w := 9) (i := 0) (x := cl Ls xs 34 % 100) (by omega) (by omega) (by show 0 < numN n 9; unfold numN; rw [if_neg (by decide)]; decide) (by have := Nat.mod_lt (cl Ls xs 34) (show 0 < 100 by decide); show _ ≤ 99; omega) (by unfold P3; omega) (fun w' i' q => by unfold P3 at *; omega)) (fun vm Sm hm => ?_)
  obtain ⟨rfl, hI2⟩ := hm
  refine j_bipush (10) dL_laid_99 rfl ?_
  refine j_icmpne 127 dL_laid_101 (by decide) (fun c_101 => absurd c_101 (not_not_intro rfl)) (fun c_101 => ?_)
  refine j_ald0 dL_laid_104 ?_
  refine j_iconst (0) dL_laid_105 rfl ?_
  refine j_bipush (10) dL_laid_106 rfl ?_
  refine j_ald1 dL_laid_108 ?_
  refine j_bipush (34) dL_laid_109 rfl ?_
  refine j_xcS2 (fun _ _ h => h) dL_laid_111 kL_cell zL_cell lL_43 (Nat.le_of_ble_eq_true rfl) (Nat.le_of_ble_eq_true rfl) (by omega) (s_L_cell hL (i := 34) (by decide)) ?_
  refine j_bipush (7) dL_laid_114 rfl ?_
  refine j_ishr dL_laid_116 ?_
  refine j_top (y := nI (cl Ls xs 34 / 2 ^ 7)) (sh_20 (k := 7) (by have := cl_lt (Ls := Ls) (xs := xs) (i := 34) (by omega); omega) (by omega)) ?_
  refine j_bipush (13) dL_laid_117 rfl ?_
  refine j_irem dL_laid_119 (by decide) ?_
  refine j_top (y := nI (cl Ls xs 34 / 2 ^ 7 % 13)) (pk_rem (a := cl Ls xs 34 / 2 ^ 7) (d := 13) (Nat.lt_of_le_of_lt (Nat.div_le_self _ _) (by have := cl_lt (Ls := Ls) (xs := xs) (i := 34) (by omega); omega)) (by decide) (by decide)) ?_
  refine j_qiV3 dL_laid_120 kX7_mend lL_105 rfl (by decide) rfl (Nat.le_of_ble_eq_true rfl) (Nat.le_of_ble_eq_true rfl) (by omega) (LI_mend (P' := P3 11) hI2 (w := 10) (i := 0) (x := cl Ls xs 34 / 2 ^ 7 % 13) (by omega) (by omega) (by show 0 < numN n 10; unfold numN; rw [if_neg (by decide)]; decide) (by have := Nat.mod_lt (cl Ls xs 34 / 2 ^ 7) (show 0 < 13 by decide); show _ ≤ 12; omega) (by unfold P3; omega) (fun w' i' q => by unfold P3 at *; omega)) (fun vm2 Sm2 hm2 => ?_)
  obtain ⟨rfl, hI3⟩ := hm2
  refine j_iconst (2) dL_laid_123 rfl ?_
  refine j_icmpeq 129 dL_laid_124 (by decide) (fun c_124 => ?_) (fun c_124 => absurd (rfl) c_124)
  refine j_iconst (0) dL_laid_129 rfl ?_
  refine j_ist2 dL_laid_130 rfl (by decide) ?_
  exact lp_laid131 hL 4 0 _ _ (by decide) (by decide) (hI3.wk (fun w j q => by unfold P6 at q; unfold P3; omega))

theorem s_L_laid (hL : Ls ≤ 260) (hT : TC n v S) {kk u : Nat} {h : Nat → Nat → Nat} (hH : HC kk u h S) (hv : ∀ w, 3 ≤ w → ∀ i, v w i = v0 w i) : J a mL_laid 5 (gx a b Ls xs (LQ n v S)) 0 [.ref (a 0), .ref b, .null, .null] [] S := by
  refine j_iconst (0) dL_laid_0 rfl ?_
  refine j_ist2 dL_laid_1 rfl (by decide) ?_
  refine lp_laid2 hL (fun w3 S2 hI2 => ?_) 5 0 _ S (by decide) (by decide) ⟨v, hT, fun _ _ _ => rfl, ⟨kk, u, h, hH⟩, Kp.rf, fun w i q => hv w q.1 i⟩
  refine j_iconst (0) dL_laid_50 rfl ?_
  refine j_ist2 dL_laid_51 rfl (by decide) ?_
  exact lp_laid52 hL (fun w3 S3 hI3 => laid_83 hL hI3) 7 0 _ S2 (by decide) (by decide) hI2
end Laid
