/-! the reference: changes, undone, done again -/
section RChanges
variable {a : Nat → Nat} {S : St} {n k u : Nat} {v h : Nat → Nat → Nat}
theorem TR.uI_v {n : Nat} {v : Nat → Nat → Nat} {S : St} (h : TR n v S) {w i x : Nat} (hw : w < 12) (hi : i < capN w) (hx : x ≤ mostN w) : TR n (up2 v w i x) (uI S (rj w) (rk w i) (nI x)) := by
  refine ⟨?_, h.2.1, fun w' hw' i' hi' => ?_, fun w' hw' i' hi' => ?_⟩
  · rw [uI_at, if_neg, h.1]
    rcases w12 hw with rfl | rfl | rfl | rfl | rfl | rfl | rfl | rfl | rfl | rfl | rfl | rfl <;> simp [rj, rk]
  · rw [uI_at]
    unfold up2
    by_cases e : w' = w ∧ i' = i
    · rw [if_pos (by rw [e.1, e.2]; exact ⟨rfl, rfl⟩), if_pos e]
    · rw [if_neg e, if_neg, h.2.2.1 w' hw' i' hi']
      intro z
      apply e
      rcases w12 hw with rfl | rfl | rfl | rfl | rfl | rfl | rfl | rfl | rfl | rfl | rfl | rfl <;> rcases w12 hw' with rfl | rfl | rfl | rfl | rfl | rfl | rfl | rfl | rfl | rfl | rfl | rfl <;> simp [rj, rk, capN] at z hi hi' ⊢ <;> omega
  · unfold up2
    split
    · next e => rw [e.1]; exact hx
    · exact h.2.2.2 w' hw' i' hi'
theorem rj_hj {w f : Nat} (hw : w < 12) (hf : f < 4) : hj f ≠ rj w := by
  rcases w12 hw with rfl | rfl | rfl | rfl | rfl | rfl | rfl | rfl | rfl | rfl | rfl | rfl <;> rcases f4 hf with rfl | rfl | rfl | rfl <;> decide
theorem rk_61 {w i : Nat} (hw : w < 12) : ¬ (61 = rj w ∧ 15 = rk w i) ∧ ¬ (61 = rj w ∧ 16 = rk w i) := by
  rcases w12 hw with rfl | rfl | rfl | rfl | rfl | rfl | rfl | rfl | rfl | rfl | rfl | rfl <;> simp [rj, rk]
theorem HR.uI_v {k u : Nat} {h : Nat → Nat → Nat} {S : St} {w i : Nat} {x : Int32} (hh : HR k u h S) (hw : w < 12) : HR k u h (uI S (rj w) (rk w i) x) := by
  refine ⟨?_, ?_, hh.2.2.1, fun i' hi f hf => ?_⟩
  · rw [uI_at, if_neg (rk_61 hw).1]; exact hh.1
  · rw [uI_at, if_neg (rk_61 hw).2]; exact hh.2.1
  · rw [uI_at, if_neg (fun z => rj_hj hw hf z.1)]; exact hh.2.2.2 i' hi f hf
theorem rg_rj {w i : Nat} (hw : w < 12) : rg (rj w) (rk w i) = 11 := by
  rcases w12 hw with rfl | rfl | rfl | rfl | rfl | rfl | rfl | rfl | rfl | rfl | rfl | rfl <;> rfl
set_option maxRecDepth 20000 in
theorem s_X8_lays {w i : Nat} {x : Int32} (hw : w < 12) (hi : i < capN w) : Rt a mX8_lays 0 [.ref (a 61), .int (nI w), .int (nI i), .int x] S none (uI S (rj w) (rk w i) x) := by
  show J _ _ _ _ 0 [_, _, _, _] [] _
  refine j_ild1 dX8_lays_0 ?_
  refine j_topi (fun y_1 e_1 => ?_)
  by_cases h_1_0 : y_1 = 0
  · rw [h_1_0] at e_1 ⊢
    refine j_tblIn (59) 60 dX8_lays_1 (by decide) (by decide) rfl (by decide) ?_
    have e : w = 0 := (nI_eq (a := w) (b := 0) (by omega) (by decide)).mp e_1.symm
    subst e
    refine j_ald0 dX8_lays_60 ?_
    refine j_getR (k := 2) (62) dX8_lays_61 cX8_ok (Or.inl f8_9) rfl (by decide) (by decide) (by decide) rfl ?_
    refine j_ild2 dX8_lays_64 ?_
    refine j_ild3 dX8_lays_65 ?_
    refine j_iast (n := i) dX8_lays_66 rfl (by decide) rfl hi (by decide) ?_
    refine j_goto 173 dX8_lays_67 (by decide) ?_
    refine j_vret dX8_lays_173 rfl ?_
    exact ⟨rfl, rfl⟩
  by_cases h_1_1 : y_1 = 1
  · rw [h_1_1] at e_1 ⊢
    refine j_tblIn (69) 70 dX8_lays_1 (by decide) (by decide) rfl (by decide) ?_
    have e : w = 1 := (nI_eq (a := w) (b := 1) (by omega) (by decide)).mp e_1.symm
    subst e
    refine j_ald0 dX8_lays_70 ?_
    refine j_getR (k := 3) (63) dX8_lays_71 cX8_ok (Or.inl f8_15) rfl (by decide) (by decide) (by decide) rfl ?_
    refine j_ild2 dX8_lays_74 ?_
    refine j_ild3 dX8_lays_75 ?_
    refine j_iast (n := i) dX8_lays_76 rfl (by decide) rfl hi (by decide) ?_
    refine j_goto 173 dX8_lays_77 (by decide) ?_
    refine j_vret dX8_lays_173 rfl ?_
    exact ⟨rfl, rfl⟩
  by_cases h_1_2 : y_1 = 2
  · rw [h_1_2] at e_1 ⊢
    refine j_tblIn (79) 80 dX8_lays_1 (by decide) (by decide) rfl (by decide) ?_
    have e : w = 2 := (nI_eq (a := w) (b := 2) (by omega) (by decide)).mp e_1.symm
    subst e
    refine j_ald0 dX8_lays_80 ?_
    refine j_getR (k := 4) (64) dX8_lays_81 cX8_ok (Or.inl f8_18) rfl (by decide) (by decide) (by decide) rfl ?_
    refine j_ild2 dX8_lays_84 ?_
    refine j_ild3 dX8_lays_85 ?_
    refine j_iast (n := i) dX8_lays_86 rfl (by decide) rfl hi (by decide) ?_
    refine j_goto 173 dX8_lays_87 (by decide) ?_
    refine j_vret dX8_lays_173 rfl ?_
    exact ⟨rfl, rfl⟩
  by_cases h_1_3 : y_1 = 3
  · rw [h_1_3] at e_1 ⊢
    refine j_tblIn (89) 90 dX8_lays_1 (by decide) (by decide) rfl (by decide) ?_
    have e : w = 3 := (nI_eq (a := w) (b := 3) (by omega) (by decide)).mp e_1.symm
    subst e
    refine j_ald0 dX8_lays_90 ?_
    refine j_getR (k := 6) (66) dX8_lays_91 cX8_ok (Or.inl f8_24) rfl (by decide) (by decide) (by decide) rfl ?_
    refine j_ild2 dX8_lays_94 ?_
    refine j_ild3 dX8_lays_95 ?_
    refine j_iast (n := i) dX8_lays_96 rfl (by decide) rfl hi (by decide) ?_
    refine j_goto 173 dX8_lays_97 (by decide) ?_
    refine j_vret dX8_lays_173 rfl ?_
    exact ⟨rfl, rfl⟩
  by_cases h_1_4 : y_1 = 4
  · rw [h_1_4] at e_1 ⊢
    refine j_tblIn (99) 100 dX8_lays_1 (by decide) (by decide) rfl (by decide) ?_
    have e : w = 4 := (nI_eq (a := w) (b := 4) (by omega) (by decide)).mp e_1.symm
    subst e
    refine j_ald0 dX8_lays_100 ?_
    refine j_getR (k := 7) (67) dX8_lays_101 cX8_ok (Or.inl f8_27) rfl (by decide) (by decide) (by decide) rfl ?_
    refine j_ild2 dX8_lays_104 ?_
    refine j_ild3 dX8_lays_105 ?_
    refine j_iast (n := i) dX8_lays_106 rfl (by decide) rfl hi (by decide) ?_
    refine j_goto 173 dX8_lays_107 (by decide) ?_
    refine j_vret dX8_lays_173 rfl ?_
    exact ⟨rfl, rfl⟩
  by_cases h_1_5 : y_1 = 5
  · rw [h_1_5] at e_1 ⊢
    refine j_tblIn (109) 110 dX8_lays_1 (by decide) (by decide) rfl (by decide) ?_
    have e : w = 5 := (nI_eq (a := w) (b := 5) (by omega) (by decide)).mp e_1.symm
    subst e
    refine j_ald0 dX8_lays_110 ?_
    refine j_getR (k := 8) (68) dX8_lays_111 cX8_ok (Or.inl f8_30) rfl (by decide) (by decide) (by decide) rfl ?_
    refine j_ild2 dX8_lays_114 ?_
    refine j_ild3 dX8_lays_115 ?_
    refine j_iast (n := i) dX8_lays_116 rfl (by decide) rfl hi (by decide) ?_
    refine j_goto 173 dX8_lays_117 (by decide) ?_
    refine j_vret dX8_lays_173 rfl ?_
    exact ⟨rfl, rfl⟩
  by_cases h_1_6 : y_1 = 6
  · rw [h_1_6] at e_1 ⊢
    refine j_tblIn (119) 120 dX8_lays_1 (by decide) (by decide) rfl (by decide) ?_
    have e : w = 6 := (nI_eq (a := w) (b := 6) (by omega) (by decide)).mp e_1.symm
    subst e
    refine j_ald0 dX8_lays_120 ?_
    refine j_getR (k := 9) (69) dX8_lays_121 cX8_ok (Or.inl f8_33) rfl (by decide) (by decide) (by decide) rfl ?_
    refine j_ild2 dX8_lays_124 ?_
    refine j_ild3 dX8_lays_125 ?_
    refine j_iast (n := i) dX8_lays_126 rfl (by decide) rfl hi (by decide) ?_
    refine j_goto 173 dX8_lays_127 (by decide) ?_
    refine j_vret dX8_lays_173 rfl ?_
    exact ⟨rfl, rfl⟩
  by_cases h_1_7 : y_1 = 7
  · rw [h_1_7] at e_1 ⊢
    refine j_tblIn (129) 130 dX8_lays_1 (by decide) (by decide) rfl (by decide) ?_
    have e : w = 7 := (nI_eq (a := w) (b := 7) (by omega) (by decide)).mp e_1.symm
    subst e
    refine j_ald0 dX8_lays_130 ?_
    refine j_getR (k := 10) (70) dX8_lays_131 cX8_ok (Or.inl f8_36) rfl (by decide) (by decide) (by decide) rfl ?_
    refine j_ild2 dX8_lays_134 ?_
    refine j_ild3 dX8_lays_135 ?_
    refine j_iast (n := i) dX8_lays_136 rfl (by decide) rfl hi (by decide) ?_
    refine j_goto 173 dX8_lays_137 (by decide) ?_
    refine j_vret dX8_lays_173 rfl ?_
    exact ⟨rfl, rfl⟩
  by_cases h_1_8 : y_1 = 8
  · rw [h_1_8] at e_1 ⊢
    refine j_tblIn (139) 140 dX8_lays_1 (by decide) (by decide) rfl (by decide) ?_
    have e : w = 8 := (nI_eq (a := w) (b := 8) (by omega) (by decide)).mp e_1.symm
    subst e
    refine j_ald0 dX8_lays_140 ?_
    refine j_getR (k := 11) (71) dX8_lays_141 cX8_ok (Or.inl f8_39) rfl (by decide) (by decide) (by decide) rfl ?_
    refine j_ild2 dX8_lays_144 ?_
    refine j_ild3 dX8_lays_145 ?_
    refine j_iast (n := i) dX8_lays_146 rfl (by decide) rfl hi (by decide) ?_
    refine j_goto 173 dX8_lays_147 (by decide) ?_
    refine j_vret dX8_lays_173 rfl ?_
    exact ⟨rfl, rfl⟩
  by_cases h_1_9 : y_1 = 9
  · rw [h_1_9] at e_1 ⊢
    refine j_tblIn (149) 150 dX8_lays_1 (by decide) (by decide) rfl (by decide) ?_
    have e : w = 9 := (nI_eq (a := w) (b := 9) (by omega) (by decide)).mp e_1.symm
    subst e
    refine j_ald0 dX8_lays_150 ?_
    refine j_ild3 dX8_lays_151 ?_
    have hi0 : i = 0 := Nat.lt_one_iff.mp hi
    subst hi0
    refine j_putI (k := 12) dX8_lays_152 cX8_ok (Or.inl f8_42) rfl (by decide) (by decide) (by decide) rfl ?_
    refine j_goto 173 dX8_lays_155 (by decide) ?_
    refine j_vret dX8_lays_173 rfl ?_
    exact ⟨rfl, rfl⟩
  by_cases h_1_10 : y_1 = 10
  · rw [h_1_10] at e_1 ⊢
    refine j_tblIn (157) 158 dX8_lays_1 (by decide) (by decide) rfl (by decide) ?_
    have e : w = 10 := (nI_eq (a := w) (b := 10) (by omega) (by decide)).mp e_1.symm
    subst e
    refine j_ald0 dX8_lays_158 ?_
    refine j_ild3 dX8_lays_159 ?_
    have hi0 : i = 0 := Nat.lt_one_iff.mp hi
    subst hi0
    refine j_putI (k := 13) dX8_lays_160 cX8_ok (Or.inl f8_46) rfl (by decide) (by decide) (by decide) rfl ?_
    refine j_goto 173 dX8_lays_163 (by decide) ?_
    refine j_vret dX8_lays_173 rfl ?_
    exact ⟨rfl, rfl⟩
  refine j_tblOut 166 dX8_lays_1 (tbl_out (fun k h1 h2 => by
    have hk : k = 0 ∨ k = 1 ∨ k = 2 ∨ k = 3 ∨ k = 4 ∨ k = 5 ∨ k = 6 ∨ k = 7 ∨ k = 8 ∨ k = 9 ∨ k = 10 := by omega
    rcases hk with rfl | rfl | rfl | rfl | rfl | rfl | rfl | rfl | rfl | rfl | rfl
    · exact h_1_0
    · exact h_1_1
    · exact h_1_2
    · exact h_1_3
    · exact h_1_4
    · exact h_1_5
    · exact h_1_6
    · exact h_1_7
    · exact h_1_8
    · exact h_1_9
    · exact h_1_10)) (by decide) ?_
  refine j_ald0 dX8_lays_166 ?_
  refine j_getR (k := 14) (72) dX8_lays_167 cX8_ok (Or.inl f8_49) rfl (by decide) (by decide) (by decide) rfl ?_
  refine j_ild2 dX8_lays_170 ?_
  refine j_ild3 dX8_lays_171 ?_
  have e : w = 11 := by
    rcases w12 hw with rfl | rfl | rfl | rfl | rfl | rfl | rfl | rfl | rfl | rfl | rfl | rfl <;> first | rfl | (exfalso; revert e_1; simp_all; done) | (exfalso; first | exact h_1_0 e_1 | exact h_1_1 e_1 | exact h_1_2 e_1 | exact h_1_3 e_1 | exact h_1_4 e_1 | exact h_1_5 e_1 | exact h_1_6 e_1 | exact h_1_7 e_1 | exact h_1_8 e_1 | exact h_1_9 e_1 | exact h_1_10 e_1)
  subst e
  refine j_iast (n := i) dX8_lays_172 rfl (by decide) rfl hi (by decide) ?_
  refine j_vret dX8_lays_173 rfl ?_
  exact ⟨rfl, rfl⟩

/-- the first i rows of changes, moved down by one -/
def shR (S : St) (i : Nat) : St := (fun j k => if (73 ≤ j ∧ j ≤ 76) ∧ k + 1 < i then S.1 j (k + 1) else S.1 j k, S.2)
theorem shR_1 (S : St) : shR S 1 = S := by
  unfold shR
  refine Prod.ext ?_ rfl
  funext j k
  simp
theorem shR_step (S : St) {i : Nat} (hi : 1 ≤ i) : uI (uI (uI (uI (shR S i) 73 (i - 1) (S.1 73 i)) 74 (i - 1) (S.1 74 i)) 75 (i - 1) (S.1 75 i)) 76 (i - 1) (S.1 76 i) = shR S (i + 1) := by
  refine Prod.ext ?_ rfl
  funext j k
  simp only [uI_at]
  by_cases hj : 73 ≤ j ∧ j ≤ 76
  · by_cases hk : k = i - 1
    · subst hk
      rcases (show j = 73 ∨ j = 74 ∨ j = 75 ∨ j = 76 by omega) with rfl | rfl | rfl | rfl <;> simp [shR, show i - 1 + 1 = i by omega] <;> (intro z; exact absurd z (by omega))
    · simp only [hk, and_false, if_false, shR, hj, true_and]
      by_cases h2 : k + 1 < i
      · rw [if_pos h2, if_pos (by omega)]
      · rw [if_neg (by omega), if_neg (by omega)]
  · rw [if_neg (by omega), if_neg (by omega), if_neg (by omega), if_neg (by omega)]
    simp only [shR, hj, false_and, if_false]
theorem shR_o (S : St) {i j k : Nat} (h : ¬ (73 ≤ j ∧ j ≤ 76)) : (shR S i).1 j k = S.1 j k := by simp [shR, h]
theorem shR_lo (S : St) {i j k : Nat} (h : i ≤ k + 1) : (shR S i).1 j k = S.1 j k := by simp only [shR]; rw [if_neg (by omega)]
theorem hj_in {f : Nat} (hf : f < 4) : 73 ≤ hj f ∧ hj f ≤ 76 := by rcases f4 hf with rfl | rfl | rfl | rfl <;> decide
def RCs (S : St) (k : Nat) (x : Nat → Nat) : St := uI (uI (uI (uI (uI S 73 k (nI (x 1))) 74 k (nI (x 0))) 75 k (nI (x 2))) 76 k (nI (x 3))) 61 15 (nI (k + 1))
theorem RCs_at (S : St) (k : Nat) (x : Nat → Nat) {f i : Nat} (hf : f < 4) : (RCs S k x).1 (hj f) i = if i = k then nI (x f) else S.1 (hj f) i := by
  unfold RCs
  simp only [uI_at]
  rcases f4 hf with rfl | rfl | rfl | rfl <;> simp [hj]
theorem RCs_o (S : St) (k : Nat) (x : Nat → Nat) {j i : Nat} (h1 : ¬ (j = 61 ∧ i = 15)) (h2 : ¬ (73 ≤ j ∧ j ≤ 76)) : (RCs S k x).1 j i = S.1 j i := by
  unfold RCs
  simp only [uI_at]
  repeat rw [if_neg (by omega)]
theorem RCs_TR {n : Nat} {v : Nat → Nat → Nat} {S : St} (h : TR n v S) (k : Nat) (x : Nat → Nat) : TR n v (RCs S k x) := by
  refine ⟨by rw [RCs_o _ _ _ (by omega) (by omega)]; exact h.1, h.2.1, fun w hw i hi => ?_, h.2.2.2⟩
  rw [RCs_o, h.2.2.1 w hw i hi]
  · rcases w12 hw with rfl | rfl | rfl | rfl | rfl | rfl | rfl | rfl | rfl | rfl | rfl | rfl <;> simp [rj, rk]
  · rcases w12 hw with rfl | rfl | rfl | rfl | rfl | rfl | rfl | rfl | rfl | rfl | rfl | rfl <;> simp [rj]
theorem RCs_Kp {S S1 : St} {k : Nat} {x : Nat → Nat} (h : Kp [11] S S1) : Kp [11] S (RCs S1 k x) := by
  unfold RCs
  exact Kp_uI (Kp_uI (Kp_uI (Kp_uI (Kp_uI h (List.mem_singleton.mpr rfl)) (List.mem_singleton.mpr rfl)) (List.mem_singleton.mpr rfl)) (List.mem_singleton.mpr rfl)) (List.mem_singleton.mpr rfl)
theorem shR_Kp {S S1 : St} {i : Nat} (h : Kp [11] S S1) : Kp [11] S (shR S1 i) := by
  refine ⟨fun j k hr => ?_, fun q => h.2 q⟩
  have : ¬ (73 ≤ j ∧ j ≤ 76) := by
    intro z
    apply hr
    rcases (show j = 73 ∨ j = 74 ∨ j = 75 ∨ j = 76 by omega) with rfl | rfl | rfl | rfl <;> exact List.mem_singleton.mpr rfl
  exact ⟨by rw [shR_o S1 this]; exact (h.1 j k hr).1, (h.1 j k hr).2⟩
theorem TR.kp2 (h : TR n v S) {x : Int32} : TR n v (uI S 61 16 x) := by
  refine ⟨by rw [uI_at, if_neg (by omega)]; exact h.1, h.2.1, fun w hw i hi => ?_, h.2.2.2⟩
  rw [uI_at, if_neg (fun z => (rk_61 (w := w) (i := i) hw).2 ⟨z.1.symm, z.2.symm⟩)]
  exact h.2.2.1 w hw i hi
theorem TR.kp1 (h : TR n v S) {x : Int32} : TR n v (uI S 61 15 x) := by
  refine ⟨by rw [uI_at, if_neg (by omega)]; exact h.1, h.2.1, fun w hw i hi => ?_, h.2.2.2⟩
  rw [uI_at, if_neg (fun z => (rk_61 (w := w) (i := i) hw).1 ⟨z.1.symm, z.2.symm⟩)]
  exact h.2.2.1 w hw i hi
theorem TR.kp3 (h : TR n v S) {x y : Int32} {q : Nat} : TR n v (uI (shR (uI S 61 16 x) q) 61 15 y) := by
  refine TR.kp1 ⟨by rw [shR_o _ (by omega)]; exact (h.kp2 (x := x)).1, h.2.1, fun w hw i hi => ?_, h.2.2.2⟩
  rw [shR_o _ (by rcases w12 hw with rfl | rfl | rfl | rfl | rfl | rfl | rfl | rfl | rfl | rfl | rfl | rfl <;> decide)]
  exact h.kp2.2.2.1 w hw i hi
set_option maxRecDepth 20000 in
theorem lp_X8_changes {g : GG} {x1 x2 x3 x4 : Int32} (kk : J a mX8_changes 1 g 111 [.ref (a 61), .int x1, .int x2, .int x3, .int x4, .int (nI 40)] [] (shR S 40)) : ∀ (k : Nat) (i : Nat), 40 - i < k → (i ≤ 40) → (1 ≤ i) → J a mX8_changes 1 g 34 [.ref (a 61), .int x1, .int x2, .int x3, .int x4, .int (nI i)] [] (shR S i) := by
  intro k
  induction k with
  | zero => intro i hk; exact absurd hk (Nat.not_lt_zero _)
  | succ k ih =>
    intro i hk hi hi1
    refine j_ild5 dX8_changes_34 ?_
    refine j_bipush (40) dX8_changes_36 rfl ?_
    refine j_icmpge 111 dX8_changes_38 (by decide) (fun c_38 => ?_) (fun c_38 => ?_)
    · have q_38 : i = 40 := by have := (nI_leI (a := 40) (b := i) (by decide) (by omega)).mp c_38; omega
      subst q_38
      exact kk
    have q_38 : i < 40 := Nat.not_le.mp (fun z => c_38 ((nI_leI (a := 40) (b := i) (by decide) (by omega)).mpr z))
    refine j_ald0 dX8_changes_41 ?_
    refine j_getR (k := 17) (73) dX8_changes_42 cX8_ok (Or.inl f8_52) rfl (by decide) (by decide) (by decide) rfl ?_
    refine j_ild5 dX8_changes_45 ?_
    refine j_iconst (1) dX8_changes_47 rfl ?_
    refine j_isub dX8_changes_48 ?_
    refine j_top (y := nI (i - 1)) (by obtain ⟨c, rfl⟩ : ∃ c, i = c + 1 := ⟨i - 1, by omega⟩; exact nI_pred c) ?_
    refine j_ald0 dX8_changes_49 ?_
    refine j_getR (k := 17) (73) dX8_changes_50 cX8_ok (Or.inl f8_52) rfl (by decide) (by decide) (by decide) rfl ?_
    refine j_ild5 dX8_changes_53 ?_
    refine j_iald dX8_changes_55 rfl (by decide) rfl (by omega) (by decide) ?_
    refine j_top (y := S.1 73 i) (by (try simp only [uI_at]); (repeat rw [if_neg (by omega)]); exact shR_lo S (by omega)) ?_
    refine j_iast (n := i - 1) dX8_changes_56 rfl (by decide) rfl (by omega) (by decide) ?_
    refine j_ald0 dX8_changes_57 ?_
    refine j_getR (k := 18) (74) dX8_changes_58 cX8_ok (Or.inl f8_55) rfl (by decide) (by decide) (by decide) rfl ?_
    refine j_ild5 dX8_changes_61 ?_
    refine j_iconst (1) dX8_changes_63 rfl ?_
    refine j_isub dX8_changes_64 ?_
    refine j_top (y := nI (i - 1)) (by obtain ⟨c, rfl⟩ : ∃ c, i = c + 1 := ⟨i - 1, by omega⟩; exact nI_pred c) ?_
    refine j_ald0 dX8_changes_65 ?_
    refine j_getR (k := 18) (74) dX8_changes_66 cX8_ok (Or.inl f8_55) rfl (by decide) (by decide) (by decide) rfl ?_
    refine j_ild5 dX8_changes_69 ?_
    refine j_iald dX8_changes_71 rfl (by decide) rfl (by omega) (by decide) ?_
    refine j_top (y := S.1 74 i) (by (try simp only [uI_at]); (repeat rw [if_neg (by omega)]); exact shR_lo S (by omega)) ?_
    refine j_iast (n := i - 1) dX8_changes_72 rfl (by decide) rfl (by omega) (by decide) ?_
    refine j_ald0 dX8_changes_73 ?_
    refine j_getR (k := 19) (75) dX8_changes_74 cX8_ok (Or.inl f8_58) rfl (by decide) (by decide) (by decide) rfl ?_
    refine j_ild5 dX8_changes_77 ?_
    refine j_iconst (1) dX8_changes_79 rfl ?_
    refine j_isub dX8_changes_80 ?_
    refine j_top (y := nI (i - 1)) (by obtain ⟨c, rfl⟩ : ∃ c, i = c + 1 := ⟨i - 1, by omega⟩; exact nI_pred c) ?_
    refine j_ald0 dX8_changes_81 ?_
    refine j_getR (k := 19) (75) dX8_changes_82 cX8_ok (Or.inl f8_58) rfl (by decide) (by decide) (by decide) rfl ?_
    refine j_ild5 dX8_changes_85 ?_
    refine j_iald dX8_changes_87 rfl (by decide) rfl (by omega) (by decide) ?_
    refine j_top (y := S.1 75 i) (by (try simp only [uI_at]); (repeat rw [if_neg (by omega)]); exact shR_lo S (by omega)) ?_
    refine j_iast (n := i - 1) dX8_changes_88 rfl (by decide) rfl (by omega) (by decide) ?_
    refine j_ald0 dX8_changes_89 ?_
    refine j_getR (k := 20) (76) dX8_changes_90 cX8_ok (Or.inl f8_61) rfl (by decide) (by decide) (by decide) rfl ?_
    refine j_ild5 dX8_changes_93 ?_
    refine j_iconst (1) dX8_changes_95 rfl ?_
    refine j_isub dX8_changes_96 ?_
    refine j_top (y := nI (i - 1)) (by obtain ⟨c, rfl⟩ : ∃ c, i = c + 1 := ⟨i - 1, by omega⟩; exact nI_pred c) ?_
    refine j_ald0 dX8_changes_97 ?_
    refine j_getR (k := 20) (76) dX8_changes_98 cX8_ok (Or.inl f8_61) rfl (by decide) (by decide) (by decide) rfl ?_
    refine j_ild5 dX8_changes_101 ?_
    refine j_iald dX8_changes_103 rfl (by decide) rfl (by omega) (by decide) ?_
    refine j_top (y := S.1 76 i) (by (try simp only [uI_at]); (repeat rw [if_neg (by omega)]); exact shR_lo S (by omega)) ?_
    refine j_iast (n := i - 1) dX8_changes_104 rfl (by decide) rfl (by omega) (by decide) ?_
    refine j_iinc5 (nI (i + 1)) dX8_changes_105 (nI_1 i) rfl (by decide) ?_
    refine j_goto 34 dX8_changes_108 (by decide) ?_
    refine j_S (S' := shR S (i + 1)) (shR_step S hi1) ?_
    exact ih (i + 1) (by omega) (by omega) (by omega)

set_option maxRecDepth 20000 in
theorem rc_121 {x : Nat → Nat} {w : Value} (hk : S.1 61 15 = nI k) (hk1 : k < 40) (hw : x 1 < 12) (hi : x 0 < capN (x 1)) : J a mX8_changes 1 (gm a fun r S' => r = some (.int (nI (x 2))) ∧ S' = uI (RCs S k x) (rj (x 1)) (rk (x 1) (x 0)) (nI (x 3))) 121 [.ref (a 61), .int (nI (x 1)), .int (nI (x 0)), .int (nI (x 3)), .int (nI (x 2)), w] [] S := by
  refine j_ald0 dX8_changes_121 ?_
  refine j_getR (k := 17) (73) dX8_changes_122 cX8_ok (Or.inl f8_52) rfl (by decide) (by decide) (by decide) rfl ?_
  refine j_ald0 dX8_changes_125 ?_
  refine j_getI (k := 15) dX8_changes_126 cX8_ok (Or.inl f8_175) rfl (by decide) (by decide) (by decide) ?_
  refine j_top (y := nI k) (hk) ?_
  refine j_ild1 dX8_changes_129 ?_
  refine j_iast (n := k) dX8_changes_130 rfl (by decide) rfl hk1 (by decide) ?_
  refine j_ald0 dX8_changes_131 ?_
  refine j_getR (k := 18) (74) dX8_changes_132 cX8_ok (Or.inl f8_55) rfl (by decide) (by decide) (by decide) rfl ?_
  refine j_ald0 dX8_changes_135 ?_
  refine j_getI (k := 15) dX8_changes_136 cX8_ok (Or.inl f8_175) rfl (by decide) (by decide) (by decide) ?_
  refine j_top (y := nI k) (by simp [uI_at, hk]) ?_
  refine j_ild2 dX8_changes_139 ?_
  refine j_iast (n := k) dX8_changes_140 rfl (by decide) rfl hk1 (by decide) ?_
  refine j_ald0 dX8_changes_141 ?_
  refine j_getR (k := 19) (75) dX8_changes_142 cX8_ok (Or.inl f8_58) rfl (by decide) (by decide) (by decide) rfl ?_
  refine j_ald0 dX8_changes_145 ?_
  refine j_getI (k := 15) dX8_changes_146 cX8_ok (Or.inl f8_175) rfl (by decide) (by decide) (by decide) ?_
  refine j_top (y := nI k) (by simp [uI_at, hk]) ?_
  refine j_ild4 dX8_changes_149 ?_
  refine j_iast (n := k) dX8_changes_151 rfl (by decide) rfl hk1 (by decide) ?_
  refine j_ald0 dX8_changes_152 ?_
  refine j_getR (k := 20) (76) dX8_changes_153 cX8_ok (Or.inl f8_61) rfl (by decide) (by decide) (by decide) rfl ?_
  refine j_ald0 dX8_changes_156 ?_
  refine j_getI (k := 15) dX8_changes_157 cX8_ok (Or.inl f8_175) rfl (by decide) (by decide) (by decide) ?_
  refine j_top (y := nI k) (by simp [uI_at, hk]) ?_
  refine j_ild3 dX8_changes_160 ?_
  refine j_iast (n := k) dX8_changes_161 rfl (by decide) rfl hk1 (by decide) ?_
  refine j_ald0 dX8_changes_162 ?_
  refine j_dup dX8_changes_163 rfl ?_
  refine j_getI (k := 15) dX8_changes_164 cX8_ok (Or.inl f8_175) rfl (by decide) (by decide) (by decide) ?_
  refine j_top (y := nI k) (by simp [uI_at, hk]) ?_
  refine j_iconst (1) dX8_changes_167 rfl ?_
  refine j_iadd dX8_changes_168 ?_
  refine j_top (y := nI (k + 1)) (nI_1 k) ?_
  refine j_putI (k := 15) dX8_changes_169 cX8_ok (Or.inl f8_175) rfl (by decide) (by decide) (by decide) rfl ?_
  refine j_ald0 dX8_changes_172 ?_
  refine j_ild1 dX8_changes_173 ?_
  refine j_ild2 dX8_changes_174 ?_
  refine j_ild3 dX8_changes_175 ?_
  refine j_vV3 dX8_changes_176 kX8_lays l8_178 rfl (by decide) rfl (Nat.le_of_ble_eq_true rfl) (Nat.le_of_ble_eq_true rfl) (by omega) (s_X8_lays hw hi) ?_
  refine j_ild4 dX8_changes_179 ?_
  refine j_iret dX8_changes_181 rfl ?_
  exact ⟨rfl, rfl⟩

set_option maxRecDepth 20000 in
theorem ch_111 {w i x : Nat} {w5 : Value} (ht : TR n v S) (hh : HR 40 u h S) (hw : w < 12) (hi : i < capN w) (hx : x ≤ mostN w) (e_11 : ¬ x = v w i) : J a mX8_changes 1 (gm a fun r S' => ∃ r', r = some (.int r') ∧ r' = nI (v w i) ∧ Kp [11] S S' ∧ TR n (up2 v w i x) S' ∧ (if x = v w i then HR 40 u h S' else HR (pushK 40) 0 (pushH 40 h (mk4 i w (v w i) x)) S')) 111 [.ref (a 61), .int (nI w), .int (nI i), .int (nI x), .int (nI (v w i)), w5] [] (shR (uI S 61 16 0) 40) := by
  refine j_ald0 dX8_changes_111 ?_
  refine j_dup dX8_changes_112 rfl ?_
  refine j_getI (k := 15) dX8_changes_113 cX8_ok (Or.inl f8_175) rfl (by decide) (by decide) (by decide) ?_
  refine j_top (y := nI 40) (by rw [shR_o _ (by omega), uI_at, if_neg (by omega)]; exact hh.1) ?_
  refine j_iconst (1) dX8_changes_116 rfl ?_
  refine j_isub dX8_changes_117 ?_
  refine j_top (y := nI 39) (by exact nI_pred 39) ?_
  refine j_putI (k := 15) dX8_changes_118 cX8_ok (Or.inl f8_175) rfl (by decide) (by decide) (by decide) rfl ?_
  refine J.post (rc_121 (x := mk4 i w (v w i) x) (k := 39) (by simp [uI_at]) (by omega) hw hi) (fun r S' e => ⟨_, e.1, rfl, ?_⟩)
  rw [e.2]
  have hT : TR n v (uI (shR (uI S 61 16 0) 40) 61 15 (nI 39)) := ht.kp3
  refine ⟨Kp_uI (RCs_Kp (Kp_uI (shR_Kp (Kp_uI Kp.rf (List.mem_singleton.mpr rfl))) (List.mem_singleton.mpr rfl))) (by show rg (rj w) (rk w i) ∈ _; rw [rg_rj hw]; decide), (RCs_TR hT _ _).uI_v hw hi hx, ?_⟩
  rw [if_neg e_11]
  refine HR.uI_v ⟨?_, ?_, ?_, fun i' hi' f hf => ?_⟩ hw
  · unfold RCs pushK; rw [if_pos rfl]; simp [uI_at]
  · rw [RCs_o _ _ _ (by omega) (by omega)]; rw [uI_at, if_neg (by omega), shR_o _ (by omega)]; simp [uI_at]; rfl
  · unfold pushK; rw [if_pos rfl]; decide
  · unfold pushK at hi'
    rw [if_pos rfl] at hi'
    rw [RCs_at _ _ _ hf]
    unfold pushH
    rw [if_pos rfl]
    by_cases e2 : i' = 39
    · subst e2; simp
    · simp only [e2, if_false]
      rw [uI_at, if_neg (fun z => by rcases f4 hf with rfl | rfl | rfl | rfl <;> simp [hj] at z)]
      have := hj_in hf
      unfold shR
      show (if (73 ≤ hj f ∧ hj f ≤ 76) ∧ i' + 1 < 40 then (uI S 61 16 0).1 (hj f) (i' + 1) else _) = _
      rw [if_pos (by omega), uI_at, if_neg (by omega)]
      have := hh.2.2.1
      exact hh.2.2.2 (i' + 1) (by omega) f hf

set_option maxRecDepth 20000 in
theorem s_X8_changes {w i x : Nat} (ht : TR n v S) (hh : HR k u h S) (hw : w < 12) (hi : i < capN w) (hx : x ≤ mostN w) : Rqi a mX8_changes 1 [.ref (a 61), .int (nI w), .int (nI i), .int (nI x)] S (fun r S' => r = nI (v w i) ∧ Kp [11] S S' ∧ TR n (up2 v w i x) S' ∧ (if x = v w i then HR k u h S' else HR (pushK k) 0 (pushH k h (mk4 i w (v w i) x)) S')) := by
  have b1 : v w i ≤ 99 := Nat.le_trans (ht.2.2.2 w hw i (Nat.lt_of_lt_of_le hi (capN_le hw))) (mostN_le w)
  have b2 := mostN_le w
  have hkp := hh.2.2.1
  show J _ _ _ _ 0 [_, _, _, _, .null, .null] [] _
  refine j_ald0 dX8_changes_0 ?_
  refine j_ild1 dX8_changes_1 ?_
  refine j_ild2 dX8_changes_2 ?_
  refine j_cV2 dX8_changes_3 kX8_valueAt l8_168 rfl (by decide) rfl (Nat.le_of_ble_eq_true rfl) (Nat.le_of_ble_eq_true rfl) (by omega) (s_X8_valueAt ht hw hi) ?_
  refine j_ist4 dX8_changes_6 rfl (by decide) ?_
  refine j_ild4 dX8_changes_8 ?_
  refine j_ild3 dX8_changes_10 ?_
  refine j_icmpne 17 dX8_changes_11 (by decide) (fun c_11 => ?_) (fun c_11 => ?_)
  · have e_11 : ¬ x = v w i := fun z => c_11 (by rw [z])
    refine j_ald0 dX8_changes_17 ?_
    refine j_iconst (0) dX8_changes_18 rfl ?_
    refine j_putI (k := 16) dX8_changes_19 cX8_ok (Or.inl f8_172) rfl (by decide) (by decide) (by decide) rfl ?_
    refine j_ald0 dX8_changes_22 ?_
    refine j_getI (k := 15) dX8_changes_23 cX8_ok (Or.inl f8_175) rfl (by decide) (by decide) (by decide) ?_
    refine j_top (y := nI k) (by rw [uI_at, if_neg (by omega)]; exact hh.1) ?_
    refine j_bipush (40) dX8_changes_26 rfl ?_
    refine j_icmpne 121 dX8_changes_28 (by decide) (fun c_28 => ?_) (fun c_28 => ?_)
    · have q_28 : ¬ k = 40 := fun z => c_28 (by rw [z]; rfl)
      refine J.post (rc_121 (x := mk4 i w (v w i) x) (k := k) (by rw [uI_at, if_neg (by omega)]; exact hh.1) (by omega) hw hi) (fun r S' e => ⟨_, e.1, rfl, ?_⟩)
      rw [e.2]
      have hT : TR n v (uI S 61 16 0) := ht.kp2
      refine ⟨Kp_uI (RCs_Kp (Kp_uI Kp.rf (List.mem_singleton.mpr rfl))) (by show rg (rj w) (rk w i) ∈ _; rw [rg_rj hw]; decide), (RCs_TR hT _ _).uI_v hw hi hx, ?_⟩
      rw [if_neg e_11]
      refine HR.uI_v ⟨?_, ?_, ?_, fun i' hi' f hf => ?_⟩ hw
      · unfold RCs pushK; rw [if_neg q_28]; simp [uI_at]
      · rw [RCs_o _ _ _ (by omega) (by omega)]; simp [uI_at]; rfl
      · unfold pushK; rw [if_neg q_28]; omega
      · unfold pushK at hi'
        rw [if_neg q_28] at hi'
        rw [RCs_at _ _ _ hf]
        unfold pushH
        rw [if_neg q_28]
        by_cases e2 : i' = k
        · subst e2; simp
        · simp only [e2, if_false]
          rw [uI_at, if_neg (fun z => by rcases f4 hf with rfl | rfl | rfl | rfl <;> simp [hj] at z)]
          exact hh.2.2.2 i' (by omega) f hf
    have q_28 : k = 40 := (nI_eq (a := k) (b := 40) (by omega) (by decide)).mp (Classical.not_not.mp c_28)
    subst q_28
    refine j_iconst (1) dX8_changes_31 rfl ?_
    refine j_ist5 dX8_changes_32 rfl (by decide) ?_
    rw [show (uI S 61 16 0) = shR (uI S 61 16 0) 1 from (shR_1 _).symm]
    exact lp_X8_changes (ch_111 ht hh hw hi hx e_11) 40 1 (by omega) (by omega) (by omega)
  have e_11 : x = v w i := ((nI_eq (by omega) (by omega)).mp (Classical.not_not.mp c_11)).symm
  refine j_ild4 dX8_changes_14 ?_
  refine j_iret dX8_changes_16 rfl ?_
  exact ⟨_, rfl, rfl, Kp.rf, by rw [e_11, up2_same]; exact ht, by rw [if_pos e_11]; exact hh⟩

set_option maxRecDepth 20000 in
theorem s_X8_undo0 (hh : HR 0 u h S) : Rt a mX8_undo 1 [.ref (a 61)] S (some (.int (-5))) S := by
  show J _ _ _ _ 0 [_] [] _
  refine j_ald0 dX8_undo_0 ?_
  refine j_getI (k := 15) dX8_undo_1 cX8_ok (Or.inl f8_175) rfl (by decide) (by decide) (by decide) ?_
  refine j_top (y := nI 0) (hh.1) ?_
  refine j_ifne 10 dX8_undo_4 (by decide) (fun c_4 => absurd c_4 (fun z => z rfl)) (fun c_4 => ?_)
  refine j_bipush (-5) dX8_undo_7 rfl ?_
  refine j_iret dX8_undo_9 rfl ?_
  exact ⟨rfl, rfl⟩

set_option maxRecDepth 20000 in
theorem s_X8_undo (ht : TR n v S) (hh : HR (k + 1) u h S) (hok : Hok n (k + 1) u h) : Rqi a mX8_undo 1 [.ref (a 61)] S (fun r S' => r = nI k ∧ Kp [11] S S' ∧ TR n (up2 v (h k 1) (h k 0) (h k 2)) S' ∧ HR k (u + 1) h S') := by
  obtain ⟨h3, h4, h5, h6⟩ := hh
  obtain ⟨hw, hi, hx, -⟩ := hok k (by omega)
  have hi : h k 0 < capN (h k 1) := Nat.lt_of_lt_of_le hi (numN_cap ht.2.1 hw)
  show J _ _ _ _ 0 [_] [] _
  refine j_ald0 dX8_undo_0 ?_
  refine j_getI (k := 15) dX8_undo_1 cX8_ok (Or.inl f8_175) rfl (by decide) (by decide) (by decide) ?_
  refine j_top (y := nI (k + 1)) (h3) ?_
  refine j_ifne 10 dX8_undo_4 (by decide) (fun c_4 => ?_) (fun c_4 => absurd (fun z => nI_ne0 (by omega) (by omega) z) c_4)
  refine j_ald0 dX8_undo_10 ?_
  refine j_dup dX8_undo_11 rfl ?_
  refine j_getI (k := 15) dX8_undo_12 cX8_ok (Or.inl f8_175) rfl (by decide) (by decide) (by decide) ?_
  refine j_top (y := nI (k + 1)) (h3) ?_
  refine j_iconst (1) dX8_undo_15 rfl ?_
  refine j_isub dX8_undo_16 ?_
  refine j_top (y := nI k) (by exact nI_pred k) ?_
  refine j_putI (k := 15) dX8_undo_17 cX8_ok (Or.inl f8_175) rfl (by decide) (by decide) (by decide) rfl ?_
  refine j_ald0 dX8_undo_20 ?_
  refine j_dup dX8_undo_21 rfl ?_
  refine j_getI (k := 16) dX8_undo_22 cX8_ok (Or.inl f8_172) rfl (by decide) (by decide) (by decide) ?_
  refine j_top (y := nI u) (by rw [uI_at, if_neg (by omega)]; exact h4) ?_
  refine j_iconst (1) dX8_undo_25 rfl ?_
  refine j_iadd dX8_undo_26 ?_
  refine j_top (y := nI (u + 1)) (nI_1 u) ?_
  refine j_putI (k := 16) dX8_undo_27 cX8_ok (Or.inl f8_172) rfl (by decide) (by decide) (by decide) rfl ?_
  refine j_ald0 dX8_undo_30 ?_
  refine j_ald0 dX8_undo_31 ?_
  refine j_getR (k := 17) (73) dX8_undo_32 cX8_ok (Or.inl f8_52) rfl (by decide) (by decide) (by decide) rfl ?_
  refine j_ald0 dX8_undo_35 ?_
  refine j_getI (k := 15) dX8_undo_36 cX8_ok (Or.inl f8_175) rfl (by decide) (by decide) (by decide) ?_
  refine j_top (y := nI k) (by rw [uI_at, if_neg (by omega)]; simp [uI_at]) ?_
  refine j_iald (n := k) dX8_undo_39 rfl (by decide) rfl (by omega) (by decide) ?_
  refine j_top (y := nI (h k 1)) (by rw [uI_at, if_neg (by omega), uI_at, if_neg (by omega)]; exact h6 k (by omega) 1 (by decide)) ?_
  refine j_ald0 dX8_undo_40 ?_
  refine j_getR (k := 18) (74) dX8_undo_41 cX8_ok (Or.inl f8_55) rfl (by decide) (by decide) (by decide) rfl ?_
  refine j_ald0 dX8_undo_44 ?_
  refine j_getI (k := 15) dX8_undo_45 cX8_ok (Or.inl f8_175) rfl (by decide) (by decide) (by decide) ?_
  refine j_top (y := nI k) (by rw [uI_at, if_neg (by omega)]; simp [uI_at]) ?_
  refine j_iald (n := k) dX8_undo_48 rfl (by decide) rfl (by omega) (by decide) ?_
  refine j_top (y := nI (h k 0)) (by rw [uI_at, if_neg (by omega), uI_at, if_neg (by omega)]; exact h6 k (by omega) 0 (by decide)) ?_
  refine j_ald0 dX8_undo_49 ?_
  refine j_getR (k := 19) (75) dX8_undo_50 cX8_ok (Or.inl f8_58) rfl (by decide) (by decide) (by decide) rfl ?_
  refine j_ald0 dX8_undo_53 ?_
  refine j_getI (k := 15) dX8_undo_54 cX8_ok (Or.inl f8_175) rfl (by decide) (by decide) (by decide) ?_
  refine j_top (y := nI k) (by rw [uI_at, if_neg (by omega)]; simp [uI_at]) ?_
  refine j_iald (n := k) dX8_undo_57 rfl (by decide) rfl (by omega) (by decide) ?_
  refine j_top (y := nI (h k 2)) (by rw [uI_at, if_neg (by omega), uI_at, if_neg (by omega)]; exact h6 k (by omega) 2 (by decide)) ?_
  refine j_vV3 dX8_undo_58 kX8_lays l8_178 rfl (by decide) rfl (Nat.le_of_ble_eq_true rfl) (Nat.le_of_ble_eq_true rfl) (by omega) (s_X8_lays hw hi) ?_
  refine j_ald0 dX8_undo_61 ?_
  refine j_getI (k := 15) dX8_undo_62 cX8_ok (Or.inl f8_175) rfl (by decide) (by decide) (by decide) ?_
  refine j_top (y := nI k) (by rw [uI_at, if_neg (rk_61 hw).1, uI_at, if_neg (by omega)]; simp [uI_at]) ?_
  refine j_iret dX8_undo_65 rfl ?_
  refine ⟨_, rfl, rfl, Kp_uI (Kp_uI (Kp_uI Kp.rf (List.mem_singleton.mpr rfl)) (List.mem_singleton.mpr rfl)) (by rw [rg_rj hw]; decide), TR.uI_v (TR.kp2 (TR.kp1 ht)) hw hi hx, HR.uI_v ⟨?_, ?_, by omega, fun i hi f hf => ?_⟩ hw⟩
  · simp [uI_at]
  · simp [uI_at]
  · have := hj_in hf
    rw [uI_at, if_neg (by omega), uI_at, if_neg (by omega)]; exact h6 i (by omega) f hf

set_option maxRecDepth 20000 in
theorem s_X8_redo0 (hh : HR k 0 h S) : Rt a mX8_redo 1 [.ref (a 61)] S (some (.int (-5))) S := by
  show J _ _ _ _ 0 [_] [] _
  refine j_ald0 dX8_redo_0 ?_
  refine j_getI (k := 16) dX8_redo_1 cX8_ok (Or.inl f8_172) rfl (by decide) (by decide) (by decide) ?_
  refine j_top (y := nI 0) (hh.2.1) ?_
  refine j_ifne 10 dX8_redo_4 (by decide) (fun c_4 => absurd c_4 (fun z => z rfl)) (fun c_4 => ?_)
  refine j_bipush (-5) dX8_redo_7 rfl ?_
  refine j_iret dX8_redo_9 rfl ?_
  exact ⟨rfl, rfl⟩

set_option maxRecDepth 20000 in
theorem s_X8_redo (ht : TR n v S) (hh : HR k (u + 1) h S) (hok : Hok n k (u + 1) h) : Rqi a mX8_redo 1 [.ref (a 61)] S (fun r S' => r = nI u ∧ Kp [11] S S' ∧ TR n (up2 v (h k 1) (h k 0) (h k 3)) S' ∧ HR (k + 1) u h S') := by
  obtain ⟨h3, h4, h5, h6⟩ := hh
  obtain ⟨hw, hi, -, hx⟩ := hok k (by omega)
  have hi : h k 0 < capN (h k 1) := Nat.lt_of_lt_of_le hi (numN_cap ht.2.1 hw)
  show J _ _ _ _ 0 [_] [] _
  refine j_ald0 dX8_redo_0 ?_
  refine j_getI (k := 16) dX8_redo_1 cX8_ok (Or.inl f8_172) rfl (by decide) (by decide) (by decide) ?_
  refine j_top (y := nI (u + 1)) (h4) ?_
  refine j_ifne 10 dX8_redo_4 (by decide) (fun c_4 => ?_) (fun c_4 => absurd (fun z => nI_ne0 (by omega) (by omega) z) c_4)
  refine j_ald0 dX8_redo_10 ?_
  refine j_ald0 dX8_redo_11 ?_
  refine j_getR (k := 17) (73) dX8_redo_12 cX8_ok (Or.inl f8_52) rfl (by decide) (by decide) (by decide) rfl ?_
  refine j_ald0 dX8_redo_15 ?_
  refine j_getI (k := 15) dX8_redo_16 cX8_ok (Or.inl f8_175) rfl (by decide) (by decide) (by decide) ?_
  refine j_top (y := nI k) (h3) ?_
  refine j_iald (n := k) dX8_redo_19 rfl (by decide) rfl (by omega) (by decide) ?_
  refine j_top (y := nI (h k 1)) (h6 k (by omega) 1 (by decide)) ?_
  refine j_ald0 dX8_redo_20 ?_
  refine j_getR (k := 18) (74) dX8_redo_21 cX8_ok (Or.inl f8_55) rfl (by decide) (by decide) (by decide) rfl ?_
  refine j_ald0 dX8_redo_24 ?_
  refine j_getI (k := 15) dX8_redo_25 cX8_ok (Or.inl f8_175) rfl (by decide) (by decide) (by decide) ?_
  refine j_top (y := nI k) (h3) ?_
  refine j_iald (n := k) dX8_redo_28 rfl (by decide) rfl (by omega) (by decide) ?_
  refine j_top (y := nI (h k 0)) (h6 k (by omega) 0 (by decide)) ?_
  refine j_ald0 dX8_redo_29 ?_
  refine j_getR (k := 20) (76) dX8_redo_30 cX8_ok (Or.inl f8_61) rfl (by decide) (by decide) (by decide) rfl ?_
  refine j_ald0 dX8_redo_33 ?_
  refine j_getI (k := 15) dX8_redo_34 cX8_ok (Or.inl f8_175) rfl (by decide) (by decide) (by decide) ?_
  refine j_top (y := nI k) (h3) ?_
  refine j_iald (n := k) dX8_redo_37 rfl (by decide) rfl (by omega) (by decide) ?_
  refine j_top (y := nI (h k 3)) (h6 k (by omega) 3 (by decide)) ?_
  refine j_vV3 dX8_redo_38 kX8_lays l8_178 rfl (by decide) rfl (Nat.le_of_ble_eq_true rfl) (Nat.le_of_ble_eq_true rfl) (by omega) (s_X8_lays hw hi) ?_
  refine j_ald0 dX8_redo_41 ?_
  refine j_dup dX8_redo_42 rfl ?_
  refine j_getI (k := 15) dX8_redo_43 cX8_ok (Or.inl f8_175) rfl (by decide) (by decide) (by decide) ?_
  refine j_top (y := nI k) (by rw [uI_at, if_neg (rk_61 hw).1]; exact h3) ?_
  refine j_iconst (1) dX8_redo_46 rfl ?_
  refine j_iadd dX8_redo_47 ?_
  refine j_top (y := nI (k + 1)) (nI_1 k) ?_
  refine j_putI (k := 15) dX8_redo_48 cX8_ok (Or.inl f8_175) rfl (by decide) (by decide) (by decide) rfl ?_
  refine j_ald0 dX8_redo_51 ?_
  refine j_dup dX8_redo_52 rfl ?_
  refine j_getI (k := 16) dX8_redo_53 cX8_ok (Or.inl f8_172) rfl (by decide) (by decide) (by decide) ?_
  refine j_top (y := nI (u + 1)) (by rw [uI_at, if_neg (by omega), uI_at, if_neg (rk_61 hw).2]; exact h4) ?_
  refine j_iconst (1) dX8_redo_56 rfl ?_
  refine j_isub dX8_redo_57 ?_
  refine j_top (y := nI u) (by exact nI_pred u) ?_
  refine j_putI (k := 16) dX8_redo_58 cX8_ok (Or.inl f8_172) rfl (by decide) (by decide) (by decide) rfl ?_
  refine j_ald0 dX8_redo_61 ?_
  refine j_getI (k := 16) dX8_redo_62 cX8_ok (Or.inl f8_172) rfl (by decide) (by decide) (by decide) ?_
  refine j_top (y := nI u) (by simp [uI_at]) ?_
  refine j_iret dX8_redo_65 rfl ?_
  have hh2 : HR k (u + 1) h (uI S (rj (h k 1)) (rk (h k 1) (h k 0)) (nI (h k 3))) := HR.uI_v ⟨h3, h4, h5, h6⟩ hw
  refine ⟨_, rfl, rfl, Kp_uI (Kp_uI (Kp_uI Kp.rf (by rw [rg_rj hw]; decide)) (List.mem_singleton.mpr rfl)) (List.mem_singleton.mpr rfl), TR.kp2 (TR.kp1 (TR.uI_v ht hw hi hx)), ⟨?_, ?_, by omega, fun i hi f hf => ?_⟩⟩
  · simp [uI_at]
  · simp [uI_at]
  · have := hj_in hf
    rw [uI_at, if_neg (by omega), uI_at, if_neg (by omega)]; exact hh2.2.2.2 i (by omega) f hf

end RChanges
