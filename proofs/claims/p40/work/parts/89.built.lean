/-! the hat is built: cards, perhaps a law -/
def t19 (i : Nat) : Nat := ([97, 42, 50, 45, 98, 43, 40, 110, 61, 49, 41, 42, 50, 45, 115, 43, 109, 37, 51] : List Nat).getD i 0
theorem t19_lt (i : Nat) : t19 i < 256 := by
  unfold t19
  rw [List.getD]
  cases h : ([97, 42, 50, 45, 98, 43, 40, 110, 61, 49, 41, 42, 50, 45, 115, 43, 109, 37, 51] : List Nat)[i]? with
  | none => decide
  | some x =>
    have hx := List.mem_of_getElem? h
    have : ∀ x ∈ ([97, 42, 50, 45, 98, 43, 40, 110, 61, 49, 41, 42, 50, 45, 115, 43, 109, 37, 51] : List Nat), x < 256 := by decide
    simpa using this x hx
theorem law19 : lawV (lawT 19 t19) = 1 := by decide +kernel
def at0 (w : Nat) : Nat := [0, 0, 0, 1, 1, 9, 9, 10, 3, 10, 2, 4].getD w 0
def v0 : Nat → Nat → Nat := fun w i => if i < capN w then at0 w else 0
def vB (Ls : Nat) (xs : Nat → Int32) : Nat → Nat → Nat → Nat
  | 0 => v0
  | k + 1 => addV (vB Ls xs k) k (sdF Ls xs k 0) (sdF Ls xs k 1) (mnyF Ls xs k)
theorem vB_hi {Ls : Nat} {xs : Nat → Int32} {w : Nat} (hw : 3 ≤ w) (i : Nat) : ∀ k, vB Ls xs k w i = v0 w i
  | 0 => rfl
  | k + 1 => by
    show addV (vB Ls xs k) k _ _ _ w i = _
    unfold addV
    split
    · rw [if_neg (by omega), if_neg (by omega), if_neg (by omega)]
      exact vB_hi hw i k
    · exact vB_hi hw i k
theorem vB_0 {Ls : Nat} {xs : Nat → Int32} {i : Nat} : ∀ k, i < k → vB Ls xs k 0 i = mnyF Ls xs i
  | 0, h => absurd h (Nat.not_lt_zero _)
  | k + 1, h => by
    show addV (vB Ls xs k) k _ _ _ 0 i = _
    unfold addV
    by_cases e : i = k
    · rw [if_pos e, if_pos rfl, e]
    · rw [if_neg e]
      exact vB_0 k (by omega)
theorem card_dec {x y z : Nat} (hx : x < 6) (hy : y < 6) (hz : z ≤ 9) : cX (nI (100 * x + 10 * y + z)) = nI x ∧ cY (nI (100 * x + 10 * y + z)) = nI y ∧ cZ (nI (100 * x + 10 * y + z)) = nI z := by
  have e1 : nI (100 * x + 10 * y + z) / 100 = nI ((100 * x + 10 * y + z) / 100) := pk_div (d := 100) (by omega) (by decide) (by decide)
  have e2 : nI (100 * x + 10 * y + z) / 10 = nI ((100 * x + 10 * y + z) / 10) := pk_div (d := 10) (by omega) (by decide) (by decide)
  have e3 : nI ((100 * x + 10 * y + z) / 10) - nI ((100 * x + 10 * y + z) / 10) / 10 * 10 = nI ((100 * x + 10 * y + z) / 10 % 10) := pk_rem (d := 10) (by omega) (by decide) (by decide)
  have e4 : nI (100 * x + 10 * y + z) - nI (100 * x + 10 * y + z) / 10 * 10 = nI ((100 * x + 10 * y + z) % 10) := pk_rem (d := 10) (by omega) (by decide) (by decide)
  refine ⟨?_, ?_, ?_⟩
  · unfold cX
    rw [e1, show (100 * x + 10 * y + z) / 100 = x by omega]
  · unfold cY
    rw [e2, e3, show (100 * x + 10 * y + z) / 10 % 10 = y by omega]
  · unfold cZ
    rw [e4, show (100 * x + 10 * y + z) % 10 = z by omega]
/-- k cards are there -/
def BI (Ls : Nat) (xs : Nat → Int32) (k : Nat) (S S1 : St) : Prop := TC k (vB Ls xs k) S1 ∧ (∃ kk u h, HC kk u h S1) ∧ Kp [1] S S1
theorem BI_step {Ls : Nat} {xs : Nat → Int32} {k : Nat} {S S1 S2 : St} (h : BI Ls xs k S S1) (h8 : k < 8) {m : Int32} (e1 : cX m = nI (sdF Ls xs k 0)) (e2 : cY m = nI (sdF Ls xs k 1)) (e3 : cZ m = nI (mnyF Ls xs k)) (e : S2 = uI (uI (uI (uI S1 17 k (cX m)) 18 k (cY m)) 16 k (cZ m)) 1 1 (nI (k + 1))) : BI Ls xs (k + 1) S S2 := by
  obtain ⟨hT, ⟨kk, u, hh, hH⟩, hK⟩ := h
  refine ⟨?_, ⟨kk, u, hh, ?_⟩, ?_⟩
  · rw [e, e1, e2, e3]
    exact TC.add hT h8 (sdF_lt _ _ _ _) (sdF_lt _ _ _ _) (by have := mnyF_le Ls xs k; omega)
  · rw [e]
    exact hH.add (n := k)
  · rw [e]
    exact Kp_uI (Kp_uI (Kp_uI (Kp_uI hK (by show 1 ∈ [1]; decide)) (by show 1 ∈ [1]; decide)) (by show 1 ∈ [1]; decide)) (by decide)
def st19P (k : Nat) (S S1 : St) : Prop := Kp [0] S S1 ∧ ∀ i, i < k → S1.1 61 i = nI (t19 i)
theorem st19_step {k : Nat} {S S1 : St} (h : st19P k S S1) : st19P (k + 1) S (uI S1 61 k (nI (t19 k))) := by
  refine ⟨Kp_uI h.1 (by show 0 ∈ [0]; decide), fun i hi => ?_⟩
  rw [uI_at]
  by_cases e : i = k
  · rw [if_pos ⟨rfl, e⟩, e]
  · rw [if_neg (fun z => e z.2)]
    exact h.2 i (by omega)
theorem FC.any {t t' : Nat → Nat} {S : St} (h : FC 0 t S) : FC 0 t' S := ⟨h.1, h.2.1, fun i hi => absurd hi (Nat.not_lt_zero _)⟩
/-- what building leaves -/
def BQ (Ls : Nat) (xs : Nat → Int32) (S : St) (r : Option Value) (S1 : St) : Prop := r = some (.int 1) ∧ TC (ncF Ls xs) (vB Ls xs (ncF Ls xs)) S1 ∧ (∃ kk u h, HC kk u h S1) ∧ (∃ bb, LawC bb S1 ∧ GoodB bb) ∧ Kp [0, 1, 2, 3, 4] S S1
section Built
variable {a : Nat → Nat} {S : St} {b Ls : Nat} {xs : Nat → Int32}

set_option maxHeartbeats 4000000 in
set_option maxRecDepth 20000 in
theorem built_64 (hN : 61 < NC a) (hl : xl a 61 = 19) {g : GG} {as : Nat → Nat} {ld : Nat → Int32} {l : Nat} (hD : DCb as ld l S) (ha : ∀ i, i < 8 → as i ≤ 2 ^ 20) {tt0 : Nat → Nat} (hF : FC 0 tt0 S) {bb : Option (List Line)} (hLw : LawC bb S)
    (kk : ∀ S2, Kp [0, 2, 3, 4] S S2 → LawC (lawN (lawT 19 t19) bb) S2 → J a mL_built 92 g 196 [.ref (a 0), .ref b, .ref (a 61)] [.int 1] S2) {w : Value} : J a mL_built 92 g 64 [.ref (a 0), .ref b, w] [.ref (a 61)] (sI S 61 (fun _ => 0)) := by
  have hz : st19P 0 S (sI S 61 (fun _ => 0)) := ⟨Kp_sI Kp.rf (fun k => by show 0 ∈ [0]; decide), fun i hi => absurd hi (Nat.not_lt_zero _)⟩
  generalize sI S 61 (fun _ => 0) = Sz at hz ⊢
  refine j_dup dL_built_64 rfl ?_
  refine j_iconst (0) dL_built_65 rfl ?_
  refine j_bipush (97) dL_built_66 rfl ?_
  refine j_top (y := nI (t19 0)) (rfl) ?_
  refine j_xast (n := 0) hN hl dL_built_68 rfl (by decide) (by decide) ?_
  have h0 := st19_step (k := 0) hz
  generalize uI Sz 61 0 (nI (t19 0)) = S0 at h0 ⊢
  clear hz
  refine j_dup dL_built_69 rfl ?_
  refine j_iconst (1) dL_built_70 rfl ?_
  refine j_bipush (42) dL_built_71 rfl ?_
  refine j_top (y := nI (t19 1)) (rfl) ?_
  refine j_xast (n := 1) hN hl dL_built_73 rfl (by decide) (by decide) ?_
  have h1 := st19_step (k := 1) h0
  generalize uI S0 61 1 (nI (t19 1)) = S1 at h1 ⊢
  clear h0
  refine j_dup dL_built_74 rfl ?_
  refine j_iconst (2) dL_built_75 rfl ?_
  refine j_bipush (50) dL_built_76 rfl ?_
  refine j_top (y := nI (t19 2)) (rfl) ?_
  refine j_xast (n := 2) hN hl dL_built_78 rfl (by decide) (by decide) ?_
  have h2 := st19_step (k := 2) h1
  generalize uI S1 61 2 (nI (t19 2)) = S2 at h2 ⊢
  clear h1
  refine j_dup dL_built_79 rfl ?_
  refine j_iconst (3) dL_built_80 rfl ?_
  refine j_bipush (45) dL_built_81 rfl ?_
  refine j_top (y := nI (t19 3)) (rfl) ?_
  refine j_xast (n := 3) hN hl dL_built_83 rfl (by decide) (by decide) ?_
  have h3 := st19_step (k := 3) h2
  generalize uI S2 61 3 (nI (t19 3)) = S3 at h3 ⊢
  clear h2
  refine j_dup dL_built_84 rfl ?_
  refine j_iconst (4) dL_built_85 rfl ?_
  refine j_bipush (98) dL_built_86 rfl ?_
  refine j_top (y := nI (t19 4)) (rfl) ?_
  refine j_xast (n := 4) hN hl dL_built_88 rfl (by decide) (by decide) ?_
  have h4 := st19_step (k := 4) h3
  generalize uI S3 61 4 (nI (t19 4)) = S4 at h4 ⊢
  clear h3
  refine j_dup dL_built_89 rfl ?_
  refine j_iconst (5) dL_built_90 rfl ?_
  refine j_bipush (43) dL_built_91 rfl ?_
  refine j_top (y := nI (t19 5)) (rfl) ?_
  refine j_xast (n := 5) hN hl dL_built_93 rfl (by decide) (by decide) ?_
  have h5 := st19_step (k := 5) h4
  generalize uI S4 61 5 (nI (t19 5)) = S5 at h5 ⊢
  clear h4
  refine j_dup dL_built_94 rfl ?_
  refine j_bipush (6) dL_built_95 rfl ?_
  refine j_bipush (40) dL_built_97 rfl ?_
  refine j_top (y := nI (t19 6)) (rfl) ?_
  refine j_xast (n := 6) hN hl dL_built_99 rfl (by decide) (by decide) ?_
  have h6 := st19_step (k := 6) h5
  generalize uI S5 61 6 (nI (t19 6)) = S6 at h6 ⊢
  clear h5
  refine j_dup dL_built_100 rfl ?_
  refine j_bipush (7) dL_built_101 rfl ?_
  refine j_bipush (110) dL_built_103 rfl ?_
  refine j_top (y := nI (t19 7)) (rfl) ?_
  refine j_xast (n := 7) hN hl dL_built_105 rfl (by decide) (by decide) ?_
  have h7 := st19_step (k := 7) h6
  generalize uI S6 61 7 (nI (t19 7)) = S7 at h7 ⊢
  clear h6
  refine j_dup dL_built_106 rfl ?_
  refine j_bipush (8) dL_built_107 rfl ?_
  refine j_bipush (61) dL_built_109 rfl ?_
  refine j_top (y := nI (t19 8)) (rfl) ?_
  refine j_xast (n := 8) hN hl dL_built_111 rfl (by decide) (by decide) ?_
  have h8 := st19_step (k := 8) h7
  generalize uI S7 61 8 (nI (t19 8)) = S8 at h8 ⊢
  clear h7
  refine j_dup dL_built_112 rfl ?_
  refine j_bipush (9) dL_built_113 rfl ?_
  refine j_bipush (49) dL_built_115 rfl ?_
  refine j_top (y := nI (t19 9)) (rfl) ?_
  refine j_xast (n := 9) hN hl dL_built_117 rfl (by decide) (by decide) ?_
  have h9 := st19_step (k := 9) h8
  generalize uI S8 61 9 (nI (t19 9)) = S9 at h9 ⊢
  clear h8
  refine j_dup dL_built_118 rfl ?_
  refine j_bipush (10) dL_built_119 rfl ?_
  refine j_bipush (41) dL_built_121 rfl ?_
  refine j_top (y := nI (t19 10)) (rfl) ?_
  refine j_xast (n := 10) hN hl dL_built_123 rfl (by decide) (by decide) ?_
  have h10 := st19_step (k := 10) h9
  generalize uI S9 61 10 (nI (t19 10)) = S10 at h10 ⊢
  clear h9
  refine j_dup dL_built_124 rfl ?_
  refine j_bipush (11) dL_built_125 rfl ?_
  refine j_bipush (42) dL_built_127 rfl ?_
  refine j_top (y := nI (t19 11)) (rfl) ?_
  refine j_xast (n := 11) hN hl dL_built_129 rfl (by decide) (by decide) ?_
  have h11 := st19_step (k := 11) h10
  generalize uI S10 61 11 (nI (t19 11)) = S11 at h11 ⊢
  clear h10
  refine j_dup dL_built_130 rfl ?_
  refine j_bipush (12) dL_built_131 rfl ?_
  refine j_bipush (50) dL_built_133 rfl ?_
  refine j_top (y := nI (t19 12)) (rfl) ?_
  refine j_xast (n := 12) hN hl dL_built_135 rfl (by decide) (by decide) ?_
  have h12 := st19_step (k := 12) h11
  generalize uI S11 61 12 (nI (t19 12)) = S12 at h12 ⊢
  clear h11
  refine j_dup dL_built_136 rfl ?_
  refine j_bipush (13) dL_built_137 rfl ?_
  refine j_bipush (45) dL_built_139 rfl ?_
  refine j_top (y := nI (t19 13)) (rfl) ?_
  refine j_xast (n := 13) hN hl dL_built_141 rfl (by decide) (by decide) ?_
  have h13 := st19_step (k := 13) h12
  generalize uI S12 61 13 (nI (t19 13)) = S13 at h13 ⊢
  clear h12
  refine j_dup dL_built_142 rfl ?_
  refine j_bipush (14) dL_built_143 rfl ?_
  refine j_bipush (115) dL_built_145 rfl ?_
  refine j_top (y := nI (t19 14)) (rfl) ?_
  refine j_xast (n := 14) hN hl dL_built_147 rfl (by decide) (by decide) ?_
  have h14 := st19_step (k := 14) h13
  generalize uI S13 61 14 (nI (t19 14)) = S14 at h14 ⊢
  clear h13
  refine j_dup dL_built_148 rfl ?_
  refine j_bipush (15) dL_built_149 rfl ?_
  refine j_bipush (43) dL_built_151 rfl ?_
  refine j_top (y := nI (t19 15)) (rfl) ?_
  refine j_xast (n := 15) hN hl dL_built_153 rfl (by decide) (by decide) ?_
  have h15 := st19_step (k := 15) h14
  generalize uI S14 61 15 (nI (t19 15)) = S15 at h15 ⊢
  clear h14
  refine j_dup dL_built_154 rfl ?_
  refine j_bipush (16) dL_built_155 rfl ?_
  refine j_bipush (109) dL_built_157 rfl ?_
  refine j_top (y := nI (t19 16)) (rfl) ?_
  refine j_xast (n := 16) hN hl dL_built_159 rfl (by decide) (by decide) ?_
  have h16 := st19_step (k := 16) h15
  generalize uI S15 61 16 (nI (t19 16)) = S16 at h16 ⊢
  clear h15
  refine j_dup dL_built_160 rfl ?_
  refine j_bipush (17) dL_built_161 rfl ?_
  refine j_bipush (37) dL_built_163 rfl ?_
  refine j_top (y := nI (t19 17)) (rfl) ?_
  refine j_xast (n := 17) hN hl dL_built_165 rfl (by decide) (by decide) ?_
  have h17 := st19_step (k := 17) h16
  generalize uI S16 61 17 (nI (t19 17)) = S17 at h17 ⊢
  clear h16
  refine j_dup dL_built_166 rfl ?_
  refine j_bipush (18) dL_built_167 rfl ?_
  refine j_bipush (51) dL_built_169 rfl ?_
  refine j_top (y := nI (t19 18)) (rfl) ?_
  refine j_xast (n := 18) hN hl dL_built_171 rfl (by decide) (by decide) ?_
  have h18 := st19_step (k := 18) h17
  generalize uI S17 61 18 (nI (t19 18)) = S18 at h18 ⊢
  clear h17
  refine j_ast2 dL_built_172 rfl (by decide) ?_
  refine j_ald0 dL_built_173 ?_
  refine j_ald2 dL_built_174 ?_
  refine j_ald2 dL_built_175 ?_
  refine j_xlen hN hl dL_built_176 rfl ?_
  refine j_qiS3 dL_built_177 kL_tell zL_tell (Or.inl lL_65) (Nat.le_of_ble_eq_true rfl) (Nat.le_of_ble_eq_true rfl) (by omega) (s_L_tell hN hl (by decide) h18.2 t19_lt (hD.kp h18.1 (by decide)) ha ((FC.any hF).kp h18.1 (by decide))) (fun vt St ht => ?_)
  obtain ⟨rfl, hFt, hKt⟩ := ht
  refine j_ifeq 195 dL_built_180 (by decide) (fun c_180 => absurd c_180 (by decide)) (fun c_180 => ?_)
  refine j_ald0 dL_built_183 ?_
  refine j_qiV0 dL_built_184 kX7_law lL_69 rfl (by decide) rfl (Nat.le_of_ble_eq_true rfl) (Nat.le_of_ble_eq_true rfl) (by omega) (s_X7_law hFt ((hLw.kp h18.1 (by decide)).kp hKt (by decide))) (fun vl Sl hl2 => ?_)
  obtain ⟨rfl, hFl, hKl, hLl⟩ := hl2
  rw [law19] at *
  refine j_iconst (1) dL_built_187 rfl ?_
  refine j_icmpne 195 dL_built_188 (by decide) (fun c_188 => absurd c_188 (not_not_intro law19)) (fun c_188 => ?_)
  refine j_iconst (1) dL_built_191 rfl ?_
  refine j_goto 196 dL_built_192 (by decide) ?_
  refine kk _ (((h18.1.wk (by decide)).tr (hKt.wk (by decide))).tr (hKl.wk (by decide))) hLl

theorem hc61 {bb : Option (List Line)} {S : St} (h : LawC bb S) : S.2.2.1 < 61 ∧ S.2.2.2 < 61 := by
  rcases h.1 with ⟨e1, e2⟩ | ⟨e1, e2⟩ <;> rw [e1, e2] <;> decide

set_option maxHeartbeats 4000000 in
set_option maxRecDepth 20000 in
theorem lp_L_built (hL : Ls ≤ 260) (h0 : a 300 = 0) {as : Nat → Nat} {ld : Nat → Int32} {l : Nat} (hD : DCb as ld l S) (ha : ∀ i, i < 8 → as i ≤ 2 ^ 20) {tt0 : Nat → Nat} (hF : FC 0 tt0 S) (hLw : LawC none S) : ∀ (fu : Nat) (k : Nat) (S1 : St), 8 - k < fu → (k ≤ ncF Ls xs) → (BI Ls xs k S S1) → J a mL_built 92 (gN a b Ls xs 1 19 (fun D => PQ D a (BQ Ls xs S))) 2 [.ref (a 0), .ref b, .int (nI k)] [] S1 := by
  intro fu
  induction fu with
  | zero => intro k S1 hk; exact absurd hk (Nat.not_lt_zero _)
  | succ fu ih =>
    intro k S1 hfu hk hB
    have hn7 := ncF_lt Ls xs
    refine j_ild2 dL_built_2 ?_
    refine j_ald1 dL_built_3 ?_
    refine j_xcS1 hE_N dL_built_4 kL_cards zL_cards lL_47 (Nat.le_of_ble_eq_true rfl) (Nat.le_of_ble_eq_true rfl) (by omega) (s_L_cards hL) ?_
    refine j_icmpge 51 dL_built_7 (by decide) (fun c_7 => ?_) (fun c_7 => ?_)
    · have q_7 : k = ncF Ls xs := by have := (nI_leI (a := ncF Ls xs) (b := k) (by omega) (by omega)).mp c_7; omega
      subst q_7
      refine j_ald1 dL_built_51 ?_
      refine j_xcS1 hE_N dL_built_52 kL_hasLaw zL_hasLaw lL_61 (Nat.le_of_ble_eq_true rfl) (Nat.le_of_ble_eq_true rfl) (by omega) (s_L_hasLaw hL) ?_
      refine j_ifneB 60 dL_built_55 (by decide) (fun c_55 => ?_) (fun c_55 => ?_)
      · refine j_bipush (19) dL_built_60 rfl ?_
        refine j_newI (len := 19) h0 (by have := hLw.kp hB.2.2 (by decide); exact hc61 this) hE_N (fun R s h => ⟨by have := h.2.1; show 0 + 1 ≤ _; omega, by have := h.2.2; show 0 + 19 ≤ _; omega⟩) dL_built_62 (by decide) (by decide) (by decide) (fun q => ?_)
        refine built_64 (a := aX a q 19) (by rw [aX_NC]; decide) rfl (hD.kp hB.2.2 (by decide)) ha (hF.kp hB.2.2 (by decide)) (hLw.kp hB.2.2 (by decide)) (fun S2 hk2 hl2 => ?_)
        refine j_zretN h0 (hc61 hl2) (fun R s h => h.2.2) (by show 0 + 1 ≤ 1; decide) (by show 0 + 19 ≤ 19; decide) dL_built_196 rfl (by decide) ⟨rfl, hB.1.kp hk2 (by decide), ?_, ⟨_, hl2, lawN_good (by decide) (fun ls h => by cases h)⟩, (hB.2.2.wk (by decide)).tr (hk2.wk (by decide))⟩
        obtain ⟨kk, u, h, hH⟩ := hB.2.1
        exact ⟨kk, u, h, hH.kp hk2 (by decide)⟩
      refine j_iconst (1) dL_built_58 rfl ?_
      exact j_zretN0 dL_built_59 rfl (by decide) ⟨rfl, hB.1, hB.2.1, ⟨none, hLw.kp hB.2.2 (by decide), fun ls h => by cases h⟩, hB.2.2.wk (by decide)⟩
    have q_7 : k < ncF Ls xs := Nat.not_le.mp (fun z => c_7 ((nI_leI (by omega) (by omega)).mpr z))
    refine j_ald0 dL_built_10 ?_
    refine j_bipush (100) dL_built_11 rfl ?_
    refine j_ald1 dL_built_13 ?_
    refine j_ild2 dL_built_14 ?_
    refine j_iconst (0) dL_built_15 rfl ?_
    refine j_xcS3 hE_N dL_built_16 kL_side zL_side lL_51 (Nat.le_of_ble_eq_true rfl) (Nat.le_of_ble_eq_true rfl) (by omega) (s_L_side hL (n := k) (s := 0) (by omega) (by decide)) ?_
    refine j_imul dL_built_19 ?_
    refine j_top (y := nI (100 * sdF Ls xs k 0)) (pk_mul 100 (sdF Ls xs k 0)) ?_
    refine j_bipush (10) dL_built_20 rfl ?_
    refine j_ald1 dL_built_22 ?_
    refine j_ild2 dL_built_23 ?_
    refine j_iconst (1) dL_built_24 rfl ?_
    refine j_xcS3 hE_N dL_built_25 kL_side zL_side lL_51 (Nat.le_of_ble_eq_true rfl) (Nat.le_of_ble_eq_true rfl) (by omega) (s_L_side hL (n := k) (s := 1) (by omega) (by decide)) ?_
    refine j_imul dL_built_28 ?_
    refine j_top (y := nI (10 * sdF Ls xs k 1)) (pk_mul 10 (sdF Ls xs k 1)) ?_
    refine j_iadd dL_built_29 ?_
    refine j_top (y := nI (100 * sdF Ls xs k 0 + 10 * sdF Ls xs k 1)) (nI_add _ _) ?_
    refine j_ald1 dL_built_30 ?_
    refine j_ild2 dL_built_31 ?_
    refine j_xcS2 hE_N dL_built_32 kL_many zL_many lL_55 (Nat.le_of_ble_eq_true rfl) (Nat.le_of_ble_eq_true rfl) (by omega) (s_L_many hL (n := k) (by omega)) ?_
    refine j_iadd dL_built_35 ?_
    refine j_top (y := nI (100 * sdF Ls xs k 0 + 10 * sdF Ls xs k 1 + mnyF Ls xs k)) (nI_add _ _) ?_
    have hs0 := sdF_lt Ls xs k 0
    have hs1 := sdF_lt Ls xs k 1
    have hm9 := mnyF_le Ls xs k
    obtain ⟨e1, e2, e3⟩ := card_dec hs0 hs1 hm9
    refine j_cV1 dL_built_36 kX7_card lL_58 rfl (by decide) rfl (Nat.le_of_ble_eq_true rfl) (Nat.le_of_ble_eq_true rfl) (by omega) (s_X7_card (n := k) ⟨nI_pos' (by omega), by rw [e1, e2, e3]; exact ⟨⟨nI_pos' (by omega), (nI_ltI (a := sdF Ls xs k 0) (b := 6) (by omega) (by decide)).mpr hs0⟩, ⟨nI_pos' (by omega), (nI_ltI (a := sdF Ls xs k 1) (b := 6) (by omega) (by decide)).mpr hs1⟩, ⟨nI_pos' (by omega), (nI_ltI (a := mnyF Ls xs k) (b := 10) (by omega) (by decide)).mpr (by omega)⟩⟩⟩ hB.1.1 (by omega)) ?_
    refine j_ild2 dL_built_39 ?_
    refine j_icmpeq 45 dL_built_40 (by decide) (fun c_40 => ?_) (fun c_40 => absurd (rfl) c_40)
    refine j_iinc2 (nI (k + 1)) dL_built_45 (nI_1 k) rfl (by decide) ?_
    refine j_goto 2 dL_built_48 (by decide) ?_
    exact ih (k + 1) _ (by omega) (by omega) (BI_step hB (by omega) e1 e2 e3 rfl)

theorem s_L_built (hL : Ls ≤ 260) (h0 : a 300 = 0) {as : Nat → Nat} {ld : Nat → Int32} {l : Nat} (hD : DCb as ld l S) (ha : ∀ i, i < 8 → as i ≤ 2 ^ 20) {tt0 : Nat → Nat} (hF : FC 0 tt0 S) (hLw : LawC none S) (hT : TC 0 v0 S) {kk u : Nat} {h : Nat → Nat → Nat} (hH : HC kk u h S) : J a mL_built 92 (gN a b Ls xs 1 19 (fun D => PQ D a (BQ Ls xs S))) 0 [.ref (a 0), .ref b, .null] [] S := by
  refine j_iconst (0) dL_built_0 rfl ?_
  refine j_ist2 dL_built_1 rfl (by decide) ?_
  exact lp_L_built hL h0 hD ha hF hLw 9 0 S (by decide) (Nat.zero_le _) ⟨hT, ⟨kk, u, h, hH⟩, Kp.rf⟩
end Built
