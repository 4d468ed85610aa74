/-! weights: the reference -/
section WeighR
variable {a : Nat → Nat} {S0 S : St} {e : Nat → Int32}
theorem tE_mid {ls1 ls2 : List Line} {ln : Line} : tE (ls1 ++ ln :: ls2) ls1.length = (stO ls1).length + ln.1.length ∧ lE (ls1 ++ ln :: ls2) ls1.length = (stO (ls1 ++ [ln])).length := by
  refine ⟨?_, ?_⟩
  · unfold tE
    rw [List.take_append_of_le_length (Nat.le_refl _), List.take_length]
    simp [List.getD]
  · unfold lE
    rw [show ls1 ++ ln :: ls2 = (ls1 ++ [ln]) ++ ls2 by simp, List.take_append_of_le_length (by simp), List.take_of_length_le (by simp)]
theorem stO_app (ls1 ls2 : List Line) : stO (ls1 ++ ls2) = stO ls1 ++ stO ls2 := by simp [stO]

set_option maxRecDepth 20000 in
theorem wr_end {v w4 : Int32} {E : Nat} {w1 w6 : Value} (h : VRq S0 e [v] S) : J a mX8_worked 1 (gm a fun r S' => ∃ x, r = some (.int x) ∧ x = v ∧ Kp [14] S0 S' ∧ ∀ k, k < 5 → S'.1 84 k = e k) 12 [.ref (a 61), .int 0, w1, .int (nI E), .int w4, .int (nI E), w6] [] S := by
  refine j_ild5 dX8_worked_12 ?_
  refine j_sipush (130) dX8_worked_14 rfl ?_
  refine j_ild1 dX8_worked_17 ?_
  refine j_imul dX8_worked_18 ?_
  refine j_ild3 dX8_worked_19 ?_
  refine j_iadd dX8_worked_20 ?_
  refine j_top (y := nI E) (by exact (congrArg (· + nI E) (show (130 : Int32) * 0 = 0 from rfl)).trans (Int32.zero_add _)) ?_
  refine j_icmpge 188 dX8_worked_21 (by decide) (fun c_21 => ?_) (fun c_21 => absurd (Int32.le_refl _) c_21)
  refine j_ald0 dX8_worked_188 ?_
  refine j_getR (k := 35) (85) dX8_worked_189 cX8_ok (Or.inl f8_93) rfl (by decide) (by decide) (by decide) rfl ?_
  refine j_iconst (0) dX8_worked_192 rfl ?_
  refine j_iald (n := 0) dX8_worked_193 rfl (by decide) rfl (by decide) (by decide) ?_
  refine j_top (y := v) h.top ?_
  refine j_iret dX8_worked_194 rfl ?_
  exact ⟨_, rfl, rfl, h.1, h.2.1⟩

set_option maxRecDepth 20000 in
theorem s_X8_worked {c pre l post : List Int32} {E : Nat} (hE : (pre ++ l).length = E) (h120 : (pre ++ l).length ≤ 120) (hp : ∀ i, i < c.length → S.1 79 i = sgA (c.getD i 0) ∧ S.1 80 i = sgW (c.getD i 0)) (hg : Good l) (hc : c = pre ++ (l ++ post)) (hf : ∀ k, k < 5 → S.1 84 k = e k) : Rqi a mX8_worked 1 [.ref (a 61), .int 0, .int (nI pre.length), .int (nI E)] S fun y S' => y = valI e l ∧ Kp [14] S S' ∧ ∀ k, k < 5 → S'.1 84 k = e k := by
  show J _ _ _ _ 0 [_, _, _, _, .null, .null, .null] [] _
  refine j_iconst (0) dX8_worked_0 rfl ?_
  refine j_ist4 dX8_worked_1 rfl (by decide) ?_
  refine j_sipush (130) dX8_worked_3 rfl ?_
  refine j_ild1 dX8_worked_6 ?_
  refine j_imul dX8_worked_7 ?_
  refine j_ild2 dX8_worked_8 ?_
  refine j_iadd dX8_worked_9 ?_
  refine j_top (y := nI pre.length) (by exact (congrArg (· + nI pre.length) (show (130 : Int32) * 0 = 0 from rfl)).trans (Int32.zero_add _)) ?_
  refine j_ist5 dX8_worked_10 rfl (by decide) ?_
  subst hE
  refine wr_run (a := a) (S0 := S) (e := e) ⟨h120, hp⟩ l pre post [] [valI e l] S _ hg.1 (hg.run e []) (by rw [List.length_append] at h120; simp only [List.length_nil]; omega) hc (Nat.le_refl _) ⟨Kp.rf, hf, fun i hi => absurd hi (Nat.not_lt_zero _)⟩ (fun S1 w6 h1 => ?_)
  exact wr_end h1

set_option maxRecDepth 20000 in
theorem gv_lines : ∀ (ls2 ls1 : List Line) (S : St), (∀ x ∈ ls2, GoodL x) → PgR (ls1 ++ ls2) S → Kp [14] S0 S → (∀ k, k < 5 → S.1 84 k = e k) → J a mX8_gives 2 (gm a fun r S' => ∃ x, r = some (.int x) ∧ x = lawI e ls2 ∧ Kp [14] S0 S') 7 [.ref (a 61), .int 0, .int (nI (stO ls1).length), .int (nI ls1.length)] [] S
  | [], ls1, S, hg, hq, hkp, hf => by
    refine j_ild3 dX8_gives_7 ?_
    refine j_bipush (61) dX8_gives_8 rfl ?_
    refine j_ild1 dX8_gives_10 ?_
    refine j_imul dX8_gives_11 ?_
    refine j_ald0 dX8_gives_12 ?_
    refine j_getR (k := 31) (81) dX8_gives_13 cX8_ok (Or.inl f8_80) rfl (by decide) (by decide) (by decide) rfl ?_
    refine j_ild1 dX8_gives_16 ?_
    refine j_iald (n := 0) dX8_gives_17 rfl (by decide) rfl (by decide) (by decide) ?_
    refine j_top (y := nI ls1.length) (by have := hq.2.2.2.1; rw [List.append_nil] at this; exact this) ?_
    refine j_iadd dX8_gives_18 ?_
    refine j_top (y := nI ls1.length) (by exact (congrArg (· + nI ls1.length) (show (61 : Int32) * 0 = 0 from rfl)).trans (Int32.zero_add _)) ?_
    refine j_icmpge 78 dX8_gives_19 (by decide) (fun c_19 => ?_) (fun c_19 => absurd (Int32.le_refl _) c_19)
    refine j_iconst (0) dX8_gives_78 rfl ?_
    refine j_iret dX8_gives_79 rfl ?_
    exact ⟨_, rfl, rfl, hkp⟩
  | (t, w) :: ls2, ls1, S, hg, hq, hkp, hf => by
    obtain ⟨g1, g2⟩ := hg _ (List.mem_cons_self ..)
    have hs : stO (ls1 ++ (t, w) :: ls2) = stO ls1 ++ (t ++ w ++ stO ls2) := by rw [stO_app]; rfl
    have hb1 := hq.1
    have hb2 := hq.2.1
    rw [hs] at hb1
    simp only [List.length_append, List.length_cons] at hb1 hb2
    have hlt : ls1.length < (ls1 ++ (t, w) :: ls2).length := by rw [List.length_append, List.length_cons]; omega
    have hlt2 : (ls1 ++ (t, w) :: ls2).length ≤ 60 := hq.2.1
    have hm := hq.2.2.2.2 ls1.length hlt
    rw [tE_mid.1, tE_mid.2] at hm
    refine j_ild3 dX8_gives_7 ?_
    refine j_bipush (61) dX8_gives_8 rfl ?_
    refine j_ild1 dX8_gives_10 ?_
    refine j_imul dX8_gives_11 ?_
    refine j_ald0 dX8_gives_12 ?_
    refine j_getR (k := 31) (81) dX8_gives_13 cX8_ok (Or.inl f8_80) rfl (by decide) (by decide) (by decide) rfl ?_
    refine j_ild1 dX8_gives_16 ?_
    refine j_iald (n := 0) dX8_gives_17 rfl (by decide) rfl (by decide) (by decide) ?_
    refine j_top (y := nI (ls1 ++ (t, w) :: ls2).length) hq.2.2.2.1 ?_
    refine j_iadd dX8_gives_18 ?_
    refine j_top (y := nI (ls1 ++ (t, w) :: ls2).length) (by exact (congrArg (· + nI (ls1 ++ (t, w) :: ls2).length) (show (61 : Int32) * 0 = 0 from rfl)).trans (Int32.zero_add _)) ?_
    refine j_icmpge 78 dX8_gives_19 (by decide) (fun c_19 => absurd c_19 (fun z => absurd ((nI_leI (a := (ls1 ++ (t, w) :: ls2).length) (b := ls1.length) (by omega) (by omega)).mp z) (by omega))) (fun c_19 => ?_)
    refine j_ald0 dX8_gives_22 ?_
    refine j_getR (k := 32) (82) dX8_gives_23 cX8_ok (Or.inl f8_83) rfl (by decide) (by decide) (by decide) rfl ?_
    refine j_ild3 dX8_gives_26 ?_
    refine j_sald (n := ls1.length) dX8_gives_27 rfl (by decide) rfl (by omega) (by decide) ?_
    refine j_top (y := nI ((stO ls1).length + t.length)) hm.1 ?_
    refine j_ild2 dX8_gives_28 ?_
    refine j_icmpeq 47 dX8_gives_29 (by decide) (fun c_29 => ?_) (fun c_29 => ?_)
    · have q_29 : t = [] := by
        have := (nI_eq (a := (stO ls1).length + t.length) (b := (stO ls1).length) (by omega) (by omega)).mp c_29
        exact List.length_eq_zero_iff.mp (by omega)
      refine j_ald0 dX8_gives_47 ?_
      refine j_ild1 dX8_gives_48 ?_
      refine j_ald0 dX8_gives_49 ?_
      refine j_getR (k := 32) (82) dX8_gives_50 cX8_ok (Or.inl f8_83) rfl (by decide) (by decide) (by decide) rfl ?_
      refine j_ild3 dX8_gives_53 ?_
      refine j_sald (n := ls1.length) dX8_gives_54 rfl (by decide) rfl (by omega) (by decide) ?_
      refine j_top (y := nI (stO ls1 ++ t).length) (by rw [List.length_append]; exact hm.1) ?_
      refine j_ald0 dX8_gives_55 ?_
      refine j_getR (k := 33) (83) dX8_gives_56 cX8_ok (Or.inl f8_87) rfl (by decide) (by decide) (by decide) rfl ?_
      refine j_ild3 dX8_gives_59 ?_
      refine j_sald (n := ls1.length) dX8_gives_60 rfl (by decide) rfl (by omega) (by decide) ?_
      refine j_top (y := nI (stO (ls1 ++ [(t, w)])).length) hm.2 ?_
      refine j_qiV3 dX8_gives_61 kX8_worked l8_259 rfl (by decide) rfl (Nat.le_of_ble_eq_true rfl) (Nat.le_of_ble_eq_true rfl) (by omega) (s_X8_worked (c := stO (ls1 ++ (t, w) :: ls2)) (pre := stO ls1 ++ t) (l := w) (post := stO ls2) (by rw [stO_snoc, List.append_assoc]) (by simp only [List.length_append]; omega) hq.2.2.1 g2 (by rw [hs]; simp only [List.append_assoc]) hf) (fun z S2 h2 => ?_)
      obtain ⟨rfl, hk2, -⟩ := h2
      refine j_iret dX8_gives_64 rfl ?_
      exact ⟨_, rfl, by rw [lawI, if_pos (Or.inl q_29)], hkp.tr hk2⟩
    have q_29 : ¬ t = [] := fun z => c_29 (by rw [z]; rfl)
    have gt : Good t := g1.resolve_left q_29
    refine j_ald0 dX8_gives_32 ?_
    refine j_ild1 dX8_gives_33 ?_
    refine j_ild2 dX8_gives_34 ?_
    refine j_ald0 dX8_gives_35 ?_
    refine j_getR (k := 32) (82) dX8_gives_36 cX8_ok (Or.inl f8_83) rfl (by decide) (by decide) (by decide) rfl ?_
    refine j_ild3 dX8_gives_39 ?_
    refine j_sald (n := ls1.length) dX8_gives_40 rfl (by decide) rfl (by omega) (by decide) ?_
    refine j_top (y := nI ((stO ls1).length + t.length)) hm.1 ?_
    refine j_qiV3 dX8_gives_41 kX8_worked l8_259 rfl (by decide) rfl (Nat.le_of_ble_eq_true rfl) (Nat.le_of_ble_eq_true rfl) (by omega) (s_X8_worked (c := stO (ls1 ++ (t, w) :: ls2)) (pre := stO ls1) (l := t) (post := w ++ stO ls2) (by rw [List.length_append]) (by rw [List.length_append]; omega) hq.2.2.1 gt (by rw [hs]; simp only [List.append_assoc]) hf) (fun y S1 h1 => ?_)
    obtain ⟨rfl, hk1, hf1⟩ := h1
    have hq1 := hq.kp hk1 (by decide)
    have hm1 := hq1.2.2.2.2 ls1.length (by omega)
    rw [tE_mid.1, tE_mid.2] at hm1
    refine j_ifeq 65 dX8_gives_44 (by decide) (fun c_44 => ?_) (fun c_44 => ?_)
    · have q_44 : valI e t = 0 := c_44
      refine j_ald0 dX8_gives_65 ?_
      refine j_getR (k := 33) (83) dX8_gives_66 cX8_ok (Or.inl f8_87) rfl (by decide) (by decide) (by decide) rfl ?_
      refine j_ild3 dX8_gives_69 ?_
      refine j_sald (n := ls1.length) dX8_gives_70 rfl (by decide) rfl (by omega) (by decide) ?_
      refine j_top (y := nI (stO (ls1 ++ [(t, w)])).length) hm1.2 ?_
      refine j_ist2 dX8_gives_71 rfl (by decide) ?_
      refine j_iinc3 (nI (ls1.length + 1)) dX8_gives_72 (nI_1 _) rfl (by decide) ?_
      refine j_goto 7 dX8_gives_75 (by decide) ?_
      rw [lawI, if_neg (fun z => z.elim q_29 (fun y => y q_44))]
      have := gv_lines ls2 (ls1 ++ [(t, w)]) S1 (fun x hx => hg x (List.mem_cons_of_mem _ hx)) (by rw [List.append_assoc]; exact hq1) (hkp.tr hk1) hf1
      rw [List.length_append, List.length_singleton] at this
      exact this
    have q_44 : ¬ valI e t = 0 := c_44
    refine j_ald0 dX8_gives_47 ?_
    refine j_ild1 dX8_gives_48 ?_
    refine j_ald0 dX8_gives_49 ?_
    refine j_getR (k := 32) (82) dX8_gives_50 cX8_ok (Or.inl f8_83) rfl (by decide) (by decide) (by decide) rfl ?_
    refine j_ild3 dX8_gives_53 ?_
    refine j_sald (n := ls1.length) dX8_gives_54 rfl (by decide) rfl (by omega) (by decide) ?_
    refine j_top (y := nI (stO ls1 ++ t).length) (by rw [List.length_append]; exact hm1.1) ?_
    refine j_ald0 dX8_gives_55 ?_
    refine j_getR (k := 33) (83) dX8_gives_56 cX8_ok (Or.inl f8_87) rfl (by decide) (by decide) (by decide) rfl ?_
    refine j_ild3 dX8_gives_59 ?_
    refine j_sald (n := ls1.length) dX8_gives_60 rfl (by decide) rfl (by omega) (by decide) ?_
    refine j_top (y := nI (stO (ls1 ++ [(t, w)])).length) hm1.2 ?_
    refine j_qiV3 dX8_gives_61 kX8_worked l8_259 rfl (by decide) rfl (Nat.le_of_ble_eq_true rfl) (Nat.le_of_ble_eq_true rfl) (by omega) (s_X8_worked (c := stO (ls1 ++ (t, w) :: ls2)) (pre := stO ls1 ++ t) (l := w) (post := stO ls2) (by rw [stO_snoc, List.append_assoc]) (by simp only [List.length_append]; omega) hq1.2.2.1 g2 (by rw [hs]; simp only [List.append_assoc]) hf1) (fun z S2 h2 => ?_)
    obtain ⟨rfl, hk2, -⟩ := h2
    refine j_iret dX8_gives_64 rfl ?_
    exact ⟨_, rfl, by rw [lawI, if_pos (Or.inr q_44)], hkp.tr (hk1.tr hk2)⟩
set_option maxRecDepth 20000 in
theorem s_X8_gives {ls : List Line} (hg : ∀ x ∈ ls, GoodL x) (hq : PgR ls S) (hf : ∀ k, k < 5 → S.1 84 k = e k) : Rqi a mX8_gives 2 [.ref (a 61), .int 0] S fun y S' => y = lawI e ls ∧ Kp [14] S S' := by
  show J _ _ _ _ 0 [_, _, .null, .null] [] _
  refine j_iconst (0) dX8_gives_0 rfl ?_
  refine j_ist2 dX8_gives_1 rfl (by decide) ?_
  refine j_bipush (61) dX8_gives_2 rfl ?_
  refine j_ild1 dX8_gives_4 ?_
  refine j_imul dX8_gives_5 ?_
  refine j_ist3 dX8_gives_6 rfl (by decide) ?_
  exact gv_lines ls [] S hg hq Kp.rf hf

def clm (x : Int32) : Int32 := if x < 0 then 0 else if 3 < x then 3 else x
theorem clm_n (x : Int32) : ∃ k, k ≤ 3 ∧ clm x = nI k := by
  unfold clm
  split
  · exact ⟨0, by decide, rfl⟩
  · next c =>
    split
    · exact ⟨3, by decide, rfl⟩
    · next c2 =>
      obtain ⟨k, hk, e⟩ := in_nI (x := x) (n := 4) (by decide) ⟨Int32.not_lt.mp c, (le_lt (c := 3) (by decide)).mp (Int32.not_lt.mp c2)⟩
      exact ⟨k, by omega, e⟩
def ownN (v : Nat → Nat → Nat) (b : Option (List Line)) (i s : Nat) : Nat := match b with
  | none => 1
  | some ls => (clm (lawI (envC v i s) ls)).toNatClampNeg
theorem ownN_le (v : Nat → Nat → Nat) (b : Option (List Line)) (i s : Nat) : ownN v b i s ≤ 3 := by
  cases b with
  | none => exact (by decide : (1 : Nat) ≤ 3)
  | some ls =>
    obtain ⟨k, hk, e⟩ := clm_n (lawI (envC v i s) ls)
    show (clm _).toNatClampNeg ≤ 3
    rw [e, nI_clamp (by omega)]; exact hk
theorem clm_own (v : Nat → Nat → Nat) (ls : List Line) (i s : Nat) : clm (lawI (envC v i s) ls) = nI (ownN v (some ls) i s) := by
  obtain ⟨k, hk, e⟩ := clm_n (lawI (envC v i s) ls)
  show _ = nI (clm _).toNatClampNeg
  rw [e, nI_clamp (by omega)]
/-- the weight of a side -/
def wtN (v : Nat → Nat → Nat) (b : Option (List Line)) (i s : Nat) : Nat := if ownN v b i 0 = 0 ∧ ownN v b i 1 = 0 then 1 else ownN v b i s
theorem wtN_le (v : Nat → Nat → Nat) (b : Option (List Line)) (i s : Nat) : wtN v b i s ≤ 3 := by
  unfold wtN; split
  · decide
  · exact ownN_le v b i s
theorem wtN_sum (v : Nat → Nat → Nat) (b : Option (List Line)) (i : Nat) : 1 ≤ wtN v b i 0 + wtN v b i 1 := by
  unfold wtN; split <;> omega
def WRq (v : Nat → Nat → Nat) (b : Option (List Line)) (n : Nat) (S : St) : Prop := ∀ i, i < n → S.1 86 (2 * i) = nI (wtN v b i 0) ∧ S.1 86 (2 * i + 1) = nI (wtN v b i 1)
def WCq (v : Nat → Nat → Nat) (b : Option (List Line)) (n : Nat) (S : St) : Prop := ∀ i, i < n → S.1 (37 + i) 0 = nI (wtN v b i 0) ∧ S.1 (37 + i) 1 = nI (wtN v b i 1)
end WeighR
section WeighR2
variable {a : Nat → Nat} {S : St} {n : Nat} {v : Nat → Nat → Nat} {b : Option (List Line)}
set_option maxRecDepth 20000 in
theorem own_some {i s : Nat} {ls : List Line} (h : TR n v S) (hb : LawR (some ls) S) (hg : GoodB (some ls)) (hi : i < 8) (hs : s < 2) : Rqi a mX8_ownWeight 3 [.ref (a 61), .int (nI i), .int (nI s)] S fun y S' => y = nI (ownN v (some ls) i s) ∧ Kp [14] S S' := by
  show J _ _ _ _ 0 [_, _, _, .null] [] _
  refine j_ald0 dX8_ownWeight_0 ?_
  refine j_getI (k := 36) dX8_ownWeight_1 cX8_ok (Or.inl f8_265) rfl (by decide) (by decide) (by decide) ?_
  refine j_ifne 9 dX8_ownWeight_4 (by decide) (fun c_4 => ?_) (fun c_4 => absurd (by rw [hb.1]; decide) c_4)
  refine j_ald0 dX8_ownWeight_9 ?_
  refine j_getR (k := 34) (84) dX8_ownWeight_10 cX8_ok (Or.inl f8_90) rfl (by decide) (by decide) (by decide) rfl ?_
  refine j_iconst (0) dX8_ownWeight_13 rfl ?_
  refine j_ild2 dX8_ownWeight_14 ?_
  refine j_ifne 27 dX8_ownWeight_15 (by decide) (fun c_15 => ?_) (fun c_15 => ?_)
  · have q_15 : s = 1 := by
      have : ¬ s = 0 := fun z => c_15 (by rw [z]; rfl)
      omega
    subst q_15
    refine j_ald0 dX8_ownWeight_27 ?_
    refine j_getR (k := 4) (64) dX8_ownWeight_28 cX8_ok (Or.inl f8_18) rfl (by decide) (by decide) (by decide) rfl ?_
    refine j_ild1 dX8_ownWeight_31 ?_
    refine j_iald (n := i) dX8_ownWeight_32 rfl (by decide) rfl (by omega) (by decide) ?_
    refine j_top (y := nI (v 2 i)) (h.second hi) ?_
    refine j_iast (n := 0) dX8_ownWeight_33 rfl (by decide) rfl (by decide) (by decide) ?_
    refine j_ald0 dX8_ownWeight_34 ?_
    refine j_getR (k := 34) (84) dX8_ownWeight_35 cX8_ok (Or.inl f8_90) rfl (by decide) (by decide) (by decide) rfl ?_
    refine j_iconst (1) dX8_ownWeight_38 rfl ?_
    refine j_ild2 dX8_ownWeight_39 ?_
    refine j_ifne 52 dX8_ownWeight_40 (by decide) (fun c_40 => ?_) (fun c_40 => absurd (by decide) c_40)
    refine j_ald0 dX8_ownWeight_52 ?_
    refine j_getR (k := 3) (63) dX8_ownWeight_53 cX8_ok (Or.inl f8_15) rfl (by decide) (by decide) (by decide) rfl ?_
    refine j_ild1 dX8_ownWeight_56 ?_
    refine j_iald (n := i) dX8_ownWeight_57 rfl (by decide) rfl (by omega) (by decide) ?_
    refine j_top (y := nI (v 1 i)) (by rw [uI_at, if_neg (by omega)]; exact h.first hi) ?_
    refine j_iast (n := 1) dX8_ownWeight_58 rfl (by decide) rfl (by decide) (by decide) ?_
    refine j_ald0 dX8_ownWeight_59 ?_
    refine j_getR (k := 34) (84) dX8_ownWeight_60 cX8_ok (Or.inl f8_90) rfl (by decide) (by decide) (by decide) rfl ?_
    refine j_iconst (2) dX8_ownWeight_63 rfl ?_
    refine j_ild1 dX8_ownWeight_64 ?_
    refine j_iast (n := 2) dX8_ownWeight_65 rfl (by decide) rfl (by decide) (by decide) ?_
    refine j_ald0 dX8_ownWeight_66 ?_
    refine j_getR (k := 34) (84) dX8_ownWeight_67 cX8_ok (Or.inl f8_90) rfl (by decide) (by decide) (by decide) rfl ?_
    refine j_iconst (3) dX8_ownWeight_70 rfl ?_
    refine j_ald0 dX8_ownWeight_71 ?_
    refine j_getR (k := 2) (62) dX8_ownWeight_72 cX8_ok (Or.inl f8_9) rfl (by decide) (by decide) (by decide) rfl ?_
    refine j_ild1 dX8_ownWeight_75 ?_
    refine j_iald (n := i) dX8_ownWeight_76 rfl (by decide) rfl (by omega) (by decide) ?_
    refine j_top (y := nI (v 0 i)) (by rw [uI_at, if_neg (by omega), uI_at, if_neg (by omega), uI_at, if_neg (by omega)]; exact h.many hi) ?_
    refine j_iast (n := 3) dX8_ownWeight_77 rfl (by decide) rfl (by decide) (by decide) ?_
    refine j_ald0 dX8_ownWeight_78 ?_
    refine j_getR (k := 34) (84) dX8_ownWeight_79 cX8_ok (Or.inl f8_90) rfl (by decide) (by decide) (by decide) rfl ?_
    refine j_iconst (4) dX8_ownWeight_82 rfl ?_
    refine j_ild2 dX8_ownWeight_83 ?_
    refine j_iast (n := 4) dX8_ownWeight_84 rfl (by decide) rfl (by decide) (by decide) ?_
    refine j_ald0 dX8_ownWeight_85 ?_
    refine j_iconst (0) dX8_ownWeight_86 rfl ?_
    have hkf : Kp [14] S (uI (uI (uI (uI (uI S 84 0 (nI (v (1 + 1) i))) 84 1 (nI (v (2 - 1) i))) 84 2 (nI i)) 84 3 (nI (v 0 i))) 84 4 (nI 1)) := Kp_uI (Kp_uI (Kp_uI (Kp_uI (Kp_uI Kp.rf (by decide)) (by decide)) (by decide)) (by decide)) (by decide)
    have hfs : ∀ k, k < 5 → (uI (uI (uI (uI (uI S 84 0 (nI (v (1 + 1) i))) 84 1 (nI (v (2 - 1) i))) 84 2 (nI i)) 84 3 (nI (v 0 i))) 84 4 (nI 1)).1 84 k = envC v i 1 k := by
      intro k hk
      rcases (show k = 0 ∨ k = 1 ∨ k = 2 ∨ k = 3 ∨ k = 4 by omega) with rfl | rfl | rfl | rfl | rfl <;> simp [uI_at, envC]
    refine j_qiV1 dX8_ownWeight_87 kX8_gives l8_269 rfl (by decide) rfl (Nat.le_of_ble_eq_true rfl) (Nat.le_of_ble_eq_true rfl) (by omega) (s_X8_gives (e := envC v i 1) (hg _ rfl) (hb.2.kp hkf (by decide)) hfs) (fun y S1 h1 => ?_)
    obtain ⟨rfl, hk1⟩ := h1
    refine j_ist3 dX8_ownWeight_90 rfl (by decide) ?_
    refine j_ild3 dX8_ownWeight_91 ?_
    refine j_ifge 99 dX8_ownWeight_92 (by decide) (fun c_92 => ?_) (fun c_92 => ?_)
    · refine j_ild3 dX8_ownWeight_99 ?_
      refine j_iconst (3) dX8_ownWeight_100 rfl ?_
      refine j_icmple 108 dX8_ownWeight_101 (by decide) (fun c_101 => ?_) (fun c_101 => ?_)
      · refine j_ild3 dX8_ownWeight_108 ?_
        refine j_iret dX8_ownWeight_109 rfl ?_
        exact ⟨_, rfl, by rw [← clm_own, clm, if_neg (Int32.not_lt.mpr c_92), if_neg (Int32.not_lt.mpr c_101)], hkf.tr hk1⟩
      refine j_iconst (3) dX8_ownWeight_104 rfl ?_
      refine j_goto 109 dX8_ownWeight_105 (by decide) ?_
      refine j_iret dX8_ownWeight_109 rfl ?_
      exact ⟨_, rfl, by rw [← clm_own, clm, if_neg (Int32.not_lt.mpr c_92), if_pos (Int32.not_le.mp c_101)], hkf.tr hk1⟩
    refine j_iconst (0) dX8_ownWeight_95 rfl ?_
    refine j_goto 109 dX8_ownWeight_96 (by decide) ?_
    refine j_iret dX8_ownWeight_109 rfl ?_
    exact ⟨_, rfl, by rw [← clm_own, clm, if_pos (Int32.not_le.mp c_92)], hkf.tr hk1⟩
  have q_15 : s = 0 := (nI_eq (a := s) (b := 0) (by omega) (by decide)).mp (Classical.not_not.mp c_15)
  subst q_15
  refine j_ald0 dX8_ownWeight_18 ?_
  refine j_getR (k := 3) (63) dX8_ownWeight_19 cX8_ok (Or.inl f8_15) rfl (by decide) (by decide) (by decide) rfl ?_
  refine j_ild1 dX8_ownWeight_22 ?_
  refine j_iald (n := i) dX8_ownWeight_23 rfl (by decide) rfl (by omega) (by decide) ?_
  refine j_top (y := nI (v 1 i)) (h.first hi) ?_
  refine j_goto 33 dX8_ownWeight_24 (by decide) ?_
  refine j_iast (n := 0) dX8_ownWeight_33 rfl (by decide) rfl (by decide) (by decide) ?_
  refine j_ald0 dX8_ownWeight_34 ?_
  refine j_getR (k := 34) (84) dX8_ownWeight_35 cX8_ok (Or.inl f8_90) rfl (by decide) (by decide) (by decide) rfl ?_
  refine j_iconst (1) dX8_ownWeight_38 rfl ?_
  refine j_ild2 dX8_ownWeight_39 ?_
  refine j_ifne 52 dX8_ownWeight_40 (by decide) (fun c_40 => absurd c_40 (not_not_intro rfl)) (fun c_40 => ?_)
  refine j_ald0 dX8_ownWeight_43 ?_
  refine j_getR (k := 4) (64) dX8_ownWeight_44 cX8_ok (Or.inl f8_18) rfl (by decide) (by decide) (by decide) rfl ?_
  refine j_ild1 dX8_ownWeight_47 ?_
  refine j_iald (n := i) dX8_ownWeight_48 rfl (by decide) rfl (by omega) (by decide) ?_
  refine j_top (y := nI (v 2 i)) (by rw [uI_at, if_neg (by omega)]; exact h.second hi) ?_
  refine j_goto 58 dX8_ownWeight_49 (by decide) ?_
  refine j_iast (n := 1) dX8_ownWeight_58 rfl (by decide) rfl (by decide) (by decide) ?_
  refine j_ald0 dX8_ownWeight_59 ?_
  refine j_getR (k := 34) (84) dX8_ownWeight_60 cX8_ok (Or.inl f8_90) rfl (by decide) (by decide) (by decide) rfl ?_
  refine j_iconst (2) dX8_ownWeight_63 rfl ?_
  refine j_ild1 dX8_ownWeight_64 ?_
  refine j_iast (n := 2) dX8_ownWeight_65 rfl (by decide) rfl (by decide) (by decide) ?_
  refine j_ald0 dX8_ownWeight_66 ?_
  refine j_getR (k := 34) (84) dX8_ownWeight_67 cX8_ok (Or.inl f8_90) rfl (by decide) (by decide) (by decide) rfl ?_
  refine j_iconst (3) dX8_ownWeight_70 rfl ?_
  refine j_ald0 dX8_ownWeight_71 ?_
  refine j_getR (k := 2) (62) dX8_ownWeight_72 cX8_ok (Or.inl f8_9) rfl (by decide) (by decide) (by decide) rfl ?_
  refine j_ild1 dX8_ownWeight_75 ?_
  refine j_iald (n := i) dX8_ownWeight_76 rfl (by decide) rfl (by omega) (by decide) ?_
  refine j_top (y := nI (v 0 i)) (by rw [uI_at, if_neg (by omega), uI_at, if_neg (by omega), uI_at, if_neg (by omega)]; exact h.many hi) ?_
  refine j_iast (n := 3) dX8_ownWeight_77 rfl (by decide) rfl (by decide) (by decide) ?_
  refine j_ald0 dX8_ownWeight_78 ?_
  refine j_getR (k := 34) (84) dX8_ownWeight_79 cX8_ok (Or.inl f8_90) rfl (by decide) (by decide) (by decide) rfl ?_
  refine j_iconst (4) dX8_ownWeight_82 rfl ?_
  refine j_ild2 dX8_ownWeight_83 ?_
  refine j_iast (n := 4) dX8_ownWeight_84 rfl (by decide) rfl (by decide) (by decide) ?_
  refine j_ald0 dX8_ownWeight_85 ?_
  refine j_iconst (0) dX8_ownWeight_86 rfl ?_
  have hkf : Kp [14] S (uI (uI (uI (uI (uI S 84 0 (nI (v (1 + 0) i))) 84 1 (nI (v (2 - 0) i))) 84 2 (nI i)) 84 3 (nI (v 0 i))) 84 4 (nI 0)) := Kp_uI (Kp_uI (Kp_uI (Kp_uI (Kp_uI Kp.rf (by decide)) (by decide)) (by decide)) (by decide)) (by decide)
  have hfs : ∀ k, k < 5 → (uI (uI (uI (uI (uI S 84 0 (nI (v (1 + 0) i))) 84 1 (nI (v (2 - 0) i))) 84 2 (nI i)) 84 3 (nI (v 0 i))) 84 4 (nI 0)).1 84 k = envC v i 0 k := by
    intro k hk
    rcases (show k = 0 ∨ k = 1 ∨ k = 2 ∨ k = 3 ∨ k = 4 by omega) with rfl | rfl | rfl | rfl | rfl <;> simp [uI_at, envC]
  refine j_qiV1 dX8_ownWeight_87 kX8_gives l8_269 rfl (by decide) rfl (Nat.le_of_ble_eq_true rfl) (Nat.le_of_ble_eq_true rfl) (by omega) (s_X8_gives (e := envC v i 0) (hg _ rfl) (hb.2.kp hkf (by decide)) hfs) (fun y S1 h1 => ?_)
  obtain ⟨rfl, hk1⟩ := h1
  refine j_ist3 dX8_ownWeight_90 rfl (by decide) ?_
  refine j_ild3 dX8_ownWeight_91 ?_
  refine j_ifge 99 dX8_ownWeight_92 (by decide) (fun c_92 => ?_) (fun c_92 => ?_)
  · refine j_ild3 dX8_ownWeight_99 ?_
    refine j_iconst (3) dX8_ownWeight_100 rfl ?_
    refine j_icmple 108 dX8_ownWeight_101 (by decide) (fun c_101 => ?_) (fun c_101 => ?_)
    · refine j_ild3 dX8_ownWeight_108 ?_
      refine j_iret dX8_ownWeight_109 rfl ?_
      exact ⟨_, rfl, by rw [← clm_own, clm, if_neg (Int32.not_lt.mpr c_92), if_neg (Int32.not_lt.mpr c_101)], hkf.tr hk1⟩
    refine j_iconst (3) dX8_ownWeight_104 rfl ?_
    refine j_goto 109 dX8_ownWeight_105 (by decide) ?_
    refine j_iret dX8_ownWeight_109 rfl ?_
    exact ⟨_, rfl, by rw [← clm_own, clm, if_neg (Int32.not_lt.mpr c_92), if_pos (Int32.not_le.mp c_101)], hkf.tr hk1⟩
  refine j_iconst (0) dX8_ownWeight_95 rfl ?_
  refine j_goto 109 dX8_ownWeight_96 (by decide) ?_
  refine j_iret dX8_ownWeight_109 rfl ?_
  exact ⟨_, rfl, by rw [← clm_own, clm, if_pos (Int32.not_le.mp c_92)], hkf.tr hk1⟩

set_option maxRecDepth 20000 in
theorem own_none {i s : Nat} (hb : LawR none S) : Rqi a mX8_ownWeight 3 [.ref (a 61), .int (nI i), .int (nI s)] S fun y S' => y = nI (ownN v none i s) ∧ Kp [14] S S' := by
  show J _ _ _ _ 0 [_, _, _, .null] [] _
  refine j_ald0 dX8_ownWeight_0 ?_
  refine j_getI (k := 36) dX8_ownWeight_1 cX8_ok (Or.inl f8_265) rfl (by decide) (by decide) (by decide) ?_
  refine j_ifne 9 dX8_ownWeight_4 (by decide) (fun c_4 => absurd c_4 (not_not_intro hb)) (fun c_4 => ?_)
  refine j_iconst (1) dX8_ownWeight_7 rfl ?_
  refine j_iret dX8_ownWeight_8 rfl ?_
  exact ⟨_, rfl, rfl, Kp.rf⟩

theorem s_X8_ownWeight {i s : Nat} (h : TR n v S) (hb : LawR b S) (hg : GoodB b) (hi : i < 8) (hs : s < 2) : Rqi a mX8_ownWeight 3 [.ref (a 61), .int (nI i), .int (nI s)] S fun y S' => y = nI (ownN v b i s) ∧ Kp [14] S S' := by
  cases b with
  | none => exact own_none hb
  | some ls => exact own_some h hb hg hi hs
end WeighR2
