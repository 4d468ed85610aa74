/-! a law's text: how the class reads it whole -/
def cdO (b : Option (List Line)) : List Int32 := match b with
  | none => []
  | some ls => codeOf ls
/-- the law in the class's cells -/
def LawC (b : Option (List Line)) (S : St) : Prop := G2 S ∧ S.1 2 1 = nI (cdO b).length ∧ (cdO b).length ≤ 128 ∧ ∀ i, i < (cdO b).length → S.1 S.2.2.1 i = (cdO b).getD i 0
theorem LawC.kp {b : Option (List Line)} {S S' : St} {rs : List Nat} (h : LawC b S) (hk : Kp rs S S') (hr : 3 ∉ rs) : LawC b S' := by
  have e := hk.2 hr
  refine ⟨by unfold G2; rw [e]; exact h.1, by rw [hk.i (show rg 2 1 ∉ rs from hr)]; exact h.2.1, h.2.2.1, fun i hi => ?_⟩
  rw [e, hk.i (by rw [h.1.ck1.2.2]; exact hr)]
  exact h.2.2.2 i hi
theorem LawC.keep {b : Option (List Line)} {S0 S : St} {t : Nat → Nat} {len : Nat} (h : LawC b S0) (hb : LBq S0 t len S) : LawC b S := by
  refine ⟨by unfold G2; rw [hb.2.1]; exact h.1, by rw [hb.2.2.1]; exact h.2.1, h.2.2.1, fun i hi => ?_⟩
  rw [hb.2.1, hb.2.2.2.1]
  exact h.2.2.2 i hi
theorem codeOf_snoc (ls : List Line) (ln : Line) : codeOf (ls ++ [ln]) = codeOf ls ++ codeL ln := by simp [codeOf]
theorem codeL_0 (l : List Int32) : codeL ([], l) = l ++ [-59] := by simp [codeL]
theorem codeL_1 {l l2 : List Int32} (h : 0 < l.length) : codeL (l, l2) = l ++ l2 ++ [-63] := by
  have : ¬ l = [] := fun z => by rw [z] at h; exact absurd h (by decide)
  simp [codeL, this]
section LawRead
variable {a : Nat → Nat} {S0 : St} {t : Nat → Nat} {len : Nat}
def LLq (S0 : St) (t : Nat → Nat) (len : Nat) (L : List Int32) (r : LR) (S : St) : Prop := match r with
  | (q, none) => LFq S0 t len q S
  | (q, some ln) => LOq S0 t len q (L ++ codeL ln) S

set_option maxRecDepth 20000 in
theorem s_X2_readLine {S : St} {p : Nat} {L : List Int32} (g : G2 S0) (ht : ∀ i, t i < 256) (hl : len ≤ 120) (hp : p ≤ len) (hL : L.length ≤ p) (h : LOq S0 t len p L S) : Rqv a mX2_readLine 87 [.ref (a 2)] S (LLq S0 t len L (lineR t len p)) := by
  show J _ _ _ _ 0 [_] [] _
  refine j_ald0 dX2_readLine_0 ?_
  refine j_iconst (0) dX2_readLine_1 rfl ?_
  refine j_iconst (0) dX2_readLine_2 rfl ?_
  refine j_qvV2 dX2_readLine_3 kX2_readJoined l2_62 rfl (by decide) rfl (Nat.le_of_ble_eq_true rfl) (Nat.le_of_ble_eq_true rfl) (by omega) ((s_X2_all g ht hl 2000).1 0 0 p L _ _ (by decide) (by decide) hp hL h (PE_eq hl hp)) (fun S1 h1 => ?_)
  have p0 := PE_at (t := t) hl hp
  unfold lineR
  rcases hE : PE t len p with ⟨q1, _ | l1⟩
  · rw [hE] at h1
    have h1 : LFq S0 t len q1 S1 := h1
    simp only []
    refine j_ald0 dX2_readLine_6 ?_
    refine j_bipush (63) dX2_readLine_7 rfl ?_
    refine j_cV1 dX2_readLine_9 kX2_takes l2_55 rfl (by decide) rfl (Nat.le_of_ble_eq_true rfl) (Nat.le_of_ble_eq_true rfl) (by omega) (s_X2_takes_f hl h1 (by decide) (by decide)) ?_
    refine j_ifeqB 30 dX2_readLine_12 (by decide) (fun c_12 => ?_) (fun c_12 => absurd c_12 (id))
    refine j_ald0 dX2_readLine_30 ?_
    refine j_bipush (-59) dX2_readLine_31 rfl ?_
    refine j_qvV1 dX2_readLine_33 kX2_emit l2_66 rfl (by decide) rfl (Nat.le_of_ble_eq_true rfl) (Nat.le_of_ble_eq_true rfl) (by omega) (s_X2_emit_f g h1) (fun S2 h2 => ?_)
    have h9 : LLq S0 t len L (q1, none) S2 := h2
    refine j_vret dX2_readLine_36 rfl ?_
    exact ⟨rfl, h9⟩
  · rw [hE] at h1 p0
    have h1 : LOq S0 t len q1 (L ++ l1) S1 := h1
    have p2 : q1 ≤ len := p0.2.1
    have p1 := p0.2.2 l1 rfl
    simp only [] at p1
    simp only []
    refine j_ald0 dX2_readLine_6 ?_
    refine j_bipush (63) dX2_readLine_7 rfl ?_
    refine j_cV1 dX2_readLine_9 kX2_takes l2_55 rfl (by decide) rfl (Nat.le_of_ble_eq_true rfl) (Nat.le_of_ble_eq_true rfl) (by omega) (s_X2_takes hl p2 h1) ?_
    refine j_ifeqB 30 dX2_readLine_12 (by decide) (fun c_12 => ?_) (fun c_12 => ?_)
    · refine j_S (if_neg c_12) ?_
      rw [if_neg c_12]
      refine j_ald0 dX2_readLine_30 ?_
      refine j_bipush (-59) dX2_readLine_31 rfl ?_
      refine j_qvV1 dX2_readLine_33 kX2_emit l2_66 rfl (by decide) rfl (Nat.le_of_ble_eq_true rfl) (Nat.le_of_ble_eq_true rfl) (by omega) (s_X2_emit g (by rw [List.length_append]; omega) h1) (fun S2 h2 => ?_)
      have h9 : LLq S0 t len L (q1, some ([], l1)) S2 := by
        show LOq S0 t len q1 (L ++ codeL ([], l1)) S2
        rw [codeL_0, ← List.append_assoc]; exact h2
      refine j_vret dX2_readLine_36 rfl ?_
      exact ⟨rfl, h9⟩
    refine j_S (if_pos c_12) ?_
    rw [if_pos c_12]
    have hlt := (sv_lt c_12 (by decide)).1
    have p3 := PE_at (t := t) hl (p := q1 + 1) hlt
    refine j_ald0 dX2_readLine_15 ?_
    refine j_iconst (0) dX2_readLine_16 rfl ?_
    refine j_iconst (0) dX2_readLine_17 rfl ?_
    refine j_qvV2 dX2_readLine_18 kX2_readJoined l2_62 rfl (by decide) rfl (Nat.le_of_ble_eq_true rfl) (Nat.le_of_ble_eq_true rfl) (by omega) ((s_X2_all g ht hl 2000).1 0 0 (q1 + 1) (L ++ l1) _ _ (by decide) (by decide) hlt (by rw [List.length_append]; omega) (h1.adv g) (PE_eq hl hlt)) (fun S2 h3 => ?_)
    rcases hE2 : PE t len (q1 + 1) with ⟨q2, _ | l2⟩
    · try rw [hE2] at h3
      try rw [hE2]
      have h3 : LFq S0 t len q2 _ := h3
      refine j_ald0 dX2_readLine_21 ?_
      refine j_bipush (-63) dX2_readLine_22 rfl ?_
      refine j_qvV1 dX2_readLine_24 kX2_emit l2_66 rfl (by decide) rfl (Nat.le_of_ble_eq_true rfl) (Nat.le_of_ble_eq_true rfl) (by omega) (s_X2_emit_f g h3) (fun S3 h4 => ?_)
      refine j_goto 36 dX2_readLine_27 (by decide) ?_
      refine j_vret dX2_readLine_36 rfl ?_
      exact ⟨rfl, h4⟩
    · try rw [hE2] at h3
      try rw [hE2] at p3
      try rw [hE2]
      have h3 : LOq S0 t len q2 (L ++ l1 ++ l2) _ := h3
      have p4 := p3.2.2 l2 rfl
      have p5 := p3.2.1
      simp only [] at p4 p5
      refine j_ald0 dX2_readLine_21 ?_
      refine j_bipush (-63) dX2_readLine_22 rfl ?_
      refine j_qvV1 dX2_readLine_24 kX2_emit l2_66 rfl (by decide) rfl (Nat.le_of_ble_eq_true rfl) (Nat.le_of_ble_eq_true rfl) (by omega) (s_X2_emit g (by simp only [List.length_append] at *; omega) h3) (fun S3 h4 => ?_)
      refine j_goto 36 dX2_readLine_27 (by decide) ?_
      refine j_vret dX2_readLine_36 rfl ?_
      refine ⟨rfl, ?_⟩
      show LOq S0 t len q2 (L ++ codeL (l1, l2)) S3
      rw [codeL_1 p1.2.2]
      simpa only [List.append_assoc] using h4

/-- what reading gives -/
def RdC (S0 : St) (t : Nat → Nat) (len : Nat) (r : Nat × Option (List Line)) (x : Int32) (S : St) : Prop := match r with
  | (q, none) => x = nI q ∧ LBq S0 t len S
  | (_, some ls) => x = -1 ∧ Kp [3, 4] S0 S ∧ LawC (some ls) S
set_option maxRecDepth 20000 in
theorem rd_A {S : St} {q : Nat} {w1 : Value} {w2 w3 : Int32} (hl : len ≤ 120) (h : LSq S0 t len q S) : J a mX2_read 88 (gm a fun x S' => ∃ y, x = some (.int y) ∧ RdC S0 t len (q, none) y S') 45 [.ref (a 2), w1, .int w2, .int w3] [] S := by
  refine j_ild3 dX2_read_45 ?_
  refine j_ald0 dX2_read_46 ?_
  refine j_getI (k := 5) dX2_read_47 cX2_ok (Or.inl f2_34) rfl (by decide) (by decide) (by decide) ?_
  refine j_icmpge 97 dX2_read_50 (by decide) (fun c_50 => ?_) (fun c_50 => ?_)
  · refine j_ald0 dX2_read_97 ?_
    refine j_getI (k := 7) dX2_read_98 cX2_ok (Or.inl f2_46) rfl (by decide) (by decide) (by decide) ?_
    refine j_ifge 130 dX2_read_101 (by decide) (fun c_101 => ?_) (fun c_101 => absurd (by rw [h.2.2.2]; exact nI_pos' (by have := h.2.1; omega)) c_101)
    refine j_ald0 dX2_read_130 ?_
    refine j_getI (k := 7) dX2_read_131 cX2_ok (Or.inl f2_46) rfl (by decide) (by decide) (by decide) ?_
    refine j_iret dX2_read_134 rfl ?_
    exact ⟨_, rfl, h.2.2.2, h.1⟩
  refine j_ald0 dX2_read_53 ?_
  refine j_getI (k := 7) dX2_read_54 cX2_ok (Or.inl f2_46) rfl (by decide) (by decide) (by decide) ?_
  refine j_ifge 97 dX2_read_57 (by decide) (fun c_57 => ?_) (fun c_57 => absurd (by rw [h.2.2.2]; exact nI_pos' (by have := h.2.1; omega)) c_57)
  refine j_ald0 dX2_read_97 ?_
  refine j_getI (k := 7) dX2_read_98 cX2_ok (Or.inl f2_46) rfl (by decide) (by decide) (by decide) ?_
  refine j_ifge 130 dX2_read_101 (by decide) (fun c_101 => ?_) (fun c_101 => absurd (by rw [h.2.2.2]; exact nI_pos' (by have := h.2.1; omega)) c_101)
  refine j_ald0 dX2_read_130 ?_
  refine j_getI (k := 7) dX2_read_131 cX2_ok (Or.inl f2_46) rfl (by decide) (by decide) (by decide) ?_
  refine j_iret dX2_read_134 rfl ?_
  exact ⟨_, rfl, h.2.2.2, h.1⟩

set_option maxRecDepth 20000 in
theorem rd_B {S : St} {q k : Nat} {w1 : Value} {w2 : Int32} (g : G2 S0) (hl : len ≤ 120) (hk : k ≤ q) (h : LFq S0 t len q S) (h0 : S.1 2 7 = -1 ∧ S.1 2 6 = nI q ∧ q < len ∧ isDg (nI (t q)) = true) : J a mX2_read 88 (gm a fun x S' => ∃ y, x = some (.int y) ∧ RdC S0 t len (q, none) y S') 45 [.ref (a 2), w1, .int w2, .int (nI k)] [] S := by
  refine j_ild3 dX2_read_45 ?_
  refine j_ald0 dX2_read_46 ?_
  refine j_getI (k := 5) dX2_read_47 cX2_ok (Or.inl f2_34) rfl (by decide) (by decide) (by decide) ?_
  refine j_icmpge 97 dX2_read_50 (by decide) (fun c_50 => absurd c_50 (fun z => by
    rw [h.1.2.2.2.2.1] at z
    exact absurd ((nI_leI (a := len) (b := k) (by omega) (by omega)).mp z) (by omega))) (fun c_50 => ?_)
  refine j_ald0 dX2_read_53 ?_
  refine j_getI (k := 7) dX2_read_54 cX2_ok (Or.inl f2_46) rfl (by decide) (by decide) (by decide) ?_
  refine j_ifge 97 dX2_read_57 (by decide) (fun c_57 => absurd c_57 (by rw [h0.1]; decide)) (fun c_57 => ?_)
  refine j_ald0 dX2_read_60 ?_
  refine j_getI (k := 6) dX2_read_61 cX2_ok (Or.inl f2_43) rfl (by decide) (by decide) (by decide) ?_
  refine j_ald0 dX2_read_64 ?_
  refine j_getI (k := 5) dX2_read_65 cX2_ok (Or.inl f2_34) rfl (by decide) (by decide) (by decide) ?_
  refine j_icmpge 97 dX2_read_68 (by decide) (fun c_68 => absurd c_68 (fun z => by
    rw [h0.2.1, h.1.2.2.2.2.1] at z
    exact absurd ((nI_leI (a := len) (b := q) (by omega) (by omega)).mp z) (by omega))) (fun c_68 => ?_)
  refine j_ald0 dX2_read_71 ?_
  refine j_bipush (59) dX2_read_72 rfl ?_
  refine j_cV1 dX2_read_74 kX2_takes l2_55 rfl (by decide) rfl (Nat.le_of_ble_eq_true rfl) (Nat.le_of_ble_eq_true rfl) (by omega) (s_X2_takes_f hl h (by decide) (by decide)) ?_
  refine j_ifeqB 87 dX2_read_77 (by decide) (fun c_77 => ?_) (fun c_77 => absurd c_77 (id))
  refine j_ald0 dX2_read_87 ?_
  refine j_qvV0 dX2_read_88 kX2_fail l2_59 rfl (by decide) rfl (Nat.le_of_ble_eq_true rfl) (Nat.le_of_ble_eq_true rfl) (by omega) (s_X2_fail_f g hl h) (fun S2 h2 => ?_)
  refine j_iinc3 (nI (k + 1)) dX2_read_91 (nI_1 k) rfl (by decide) ?_
  refine j_goto 45 dX2_read_94 (by decide) ?_
  exact rd_A hl h2

theorem rd_F {S : St} {q k : Nat} {w1 : Value} {w2 : Int32} (g : G2 S0) (hl : len ≤ 120) (hk : k ≤ q) (h : LFq S0 t len q S) : J a mX2_read 88 (gm a fun x S' => ∃ y, x = some (.int y) ∧ RdC S0 t len (q, none) y S') 45 [.ref (a 2), w1, .int w2, .int (nI k)] [] S := by
  rcases h.2.2.2 with e | e
  · exact rd_A hl ⟨h.1, h.2.1, h.2.2.1, e⟩
  · exact rd_B g hl hk h e
set_option maxRecDepth 20000 in
theorem rd_E {S : St} {q : Nat} {ls : List Line} {w1 : Value} {w2 w3 : Int32} (g : G2 S0) (hL2 : (codeOf ls).length ≤ 128) (h : LOq S0 t len q (codeOf ls) S) : J a mX2_read 88 (gm a fun x S' => ∃ y, x = some (.int y) ∧ RdC S0 t len (q, some ls) y S') 97 [.ref (a 2), w1, .int w2, .int w3] [] S := by
  refine j_ald0 dX2_read_97 ?_
  refine j_getI (k := 7) dX2_read_98 cX2_ok (Or.inl f2_46) rfl (by decide) (by decide) (by decide) ?_
  refine j_ifge 130 dX2_read_101 (by decide) (fun c_101 => absurd c_101 (by rw [h.2.2.1]; decide)) (fun c_101 => ?_)
  refine j_ald0 dX2_read_104 ?_
  refine j_getR (k := 0) (S0.2.2.1) dX2_read_105 cX2_ok (Or.inl f2_9) rfl (by decide) (by decide) (by decide) (congrArg Prod.fst h.1.2.1) ?_
  refine j_ast3 dX2_read_108 rfl (by decide) ?_
  refine j_ald0 dX2_read_109 ?_
  refine j_ald0 dX2_read_110 ?_
  refine j_getR (k := 2) (S0.2.2.2) dX2_read_111 cX2_ok (Or.inl f2_15) rfl (by decide) (by decide) (by decide) (congrArg Prod.snd h.1.2.1) ?_
  refine j_putR (k := 0) dX2_read_114 cX2_ok (Or.inl f2_9) (by decide) rfl (by decide +kernel) ?_
  refine j_ald0 dX2_read_117 ?_
  refine j_ald0 dX2_read_118 ?_
  refine j_getI (k := 3) dX2_read_119 cX2_ok (Or.inl f2_49) rfl (by decide) (by decide) (by decide) ?_
  refine j_putI (k := 1) dX2_read_122 cX2_ok (Or.inl f2_24) rfl (by decide) (by decide) (by decide) rfl ?_
  refine j_ald0 dX2_read_125 ?_
  refine j_ald3 dX2_read_126 ?_
  refine j_putR (k := 2) dX2_read_127 cX2_ok (Or.inl f2_15) (by decide) rfl (by decide +kernel) ?_
  refine j_ald0 dX2_read_130 ?_
  refine j_getI (k := 7) dX2_read_131 cX2_ok (Or.inl f2_46) rfl (by decide) (by decide) (by decide) ?_
  refine j_iret dX2_read_134 rfl ?_
  have c2 := g.ck2
  have n2 := g.ne (j := 2) (by decide)
  refine ⟨_, rfl, h.2.2.1, ⟨fun j k hr => ?_, fun hr => absurd (by decide) hr⟩, ?_, ?_, hL2, fun i hi => ?_⟩
  · have := (h.1.1.1 j k hr)
    refine ⟨?_, this.2⟩
    show (uI S 2 1 (S.1 2 3)).1 j k = _
    rw [uI_at, if_neg (fun z => hr (by rw [z.1, z.2]; decide))]
    exact this.1
  · rcases g with ⟨g1, g2⟩ | ⟨g1, g2⟩
    · exact Or.inr ⟨g2, g1⟩
    · exact Or.inl ⟨g2, g1⟩
  · show (uI S 2 1 (S.1 2 3)).1 2 1 = _
    rw [uI_at, if_pos ⟨rfl, rfl⟩]; exact h.2.2.2.1
  · show (uI S 2 1 (S.1 2 3)).1 S0.2.2.2 i = _
    rw [uI_at, if_neg (fun z => n2.1 z.1.symm)]; exact h.2.2.2.2 i hi

set_option maxRecDepth 20000 in
theorem rd_C (g : G2 S0) (ht : ∀ i, t i < 256) (hl : len ≤ 120) {w1 : Value} {w2 : Int32} : ∀ (m n : Nat), n < m → ∀ (p : Nat) (ls : List Line) (S : St) (k q : Nat) (ln : Line) (r : Nat × Option (List Line)), lineR t len p = (q, some ln) → p ≤ len → (codeOf ls).length ≤ p → k ≤ p → LOq S0 t len q (codeOf (ls ++ [ln])) S → textR t len (n + 1) p ls = r → len ≤ p + n → J a mX2_read 88 (gm a fun x S' => ∃ y, x = some (.int y) ∧ RdC S0 t len r y S') 45 [.ref (a 2), w1, .int w2, .int (nI k)] [] S := by
  intro m
  induction m with
  | zero => intro n hn; exact absurd hn (Nat.not_lt_zero _)
  | succ m ih =>
    intro n hn p ls S k q ln r hE0 hp hL hk h hr hf
    have p8 := lineR_at (t := t) hl hp
    rw [hE0] at p8
    have p7 := p8.2.2 ln rfl
    have p6 : q ≤ len := p8.2.1
    simp only [] at p7
    rw [textR, hE0] at hr
    simp only [] at hr
    have hc1 : (codeOf (ls ++ [ln])).length ≤ q + 1 := by
      rw [codeOf_snoc, List.length_append]; omega
    refine j_ild3 dX2_read_45 ?_
    refine j_ald0 dX2_read_46 ?_
    refine j_getI (k := 5) dX2_read_47 cX2_ok (Or.inl f2_34) rfl (by decide) (by decide) (by decide) ?_
    refine j_icmpge 97 dX2_read_50 (by decide) (fun c_50 => absurd c_50 (fun z => by
      rw [h.1.2.2.2.2.1] at z
      exact absurd ((nI_leI (a := len) (b := k) (by omega) (by omega)).mp z) (by omega))) (fun c_50 => ?_)
    refine j_ald0 dX2_read_53 ?_
    refine j_getI (k := 7) dX2_read_54 cX2_ok (Or.inl f2_46) rfl (by decide) (by decide) (by decide) ?_
    refine j_ifge 97 dX2_read_57 (by decide) (fun c_57 => absurd c_57 (by rw [h.2.2.1]; decide)) (fun c_57 => ?_)
    refine j_ald0 dX2_read_60 ?_
    refine j_getI (k := 6) dX2_read_61 cX2_ok (Or.inl f2_43) rfl (by decide) (by decide) (by decide) ?_
    refine j_ald0 dX2_read_64 ?_
    refine j_getI (k := 5) dX2_read_65 cX2_ok (Or.inl f2_34) rfl (by decide) (by decide) (by decide) ?_
    refine j_icmpge 97 dX2_read_68 (by decide) (fun c_68 => ?_) (fun c_68 => ?_)
    · have q_68 : len ≤ q := by
        have c := c_68
        rw [h.2.1, h.1.2.2.2.2.1] at c
        exact (nI_leI (a := len) (b := q) (by omega) (by omega)).mp c
      have hsv : sv t len q = -1 := by rw [sv, if_neg (by omega)]
      rw [hsv, if_neg (by decide), if_neg (by omega)] at hr
      subst hr
      exact rd_E g (by omega) h
    have q_68 : q < len := by
      have c := c_68
      rw [h.2.1, h.1.2.2.2.2.1] at c
      exact Nat.not_le.mp (fun z => c (nI_le z (by omega)))
    refine j_ald0 dX2_read_71 ?_
    refine j_bipush (59) dX2_read_72 rfl ?_
    refine j_cV1 dX2_read_74 kX2_takes l2_55 rfl (by decide) rfl (Nat.le_of_ble_eq_true rfl) (Nat.le_of_ble_eq_true rfl) (by omega) (s_X2_takes hl (by omega) h) ?_
    refine j_ifeqB 87 dX2_read_77 (by decide) (fun c_77 => ?_) (fun c_77 => ?_)
    · refine j_S (if_neg c_77) ?_
      rw [if_neg c_77, if_pos q_68] at hr
      subst hr
      refine j_ald0 dX2_read_87 ?_
      refine j_qvV0 dX2_read_88 kX2_fail l2_59 rfl (by decide) rfl (Nat.le_of_ble_eq_true rfl) (Nat.le_of_ble_eq_true rfl) (by omega) (s_X2_fail g (by omega) (by omega) h) (fun S2 h2 => ?_)
      refine j_iinc3 (nI (k + 1)) dX2_read_91 (nI_1 k) rfl (by decide) ?_
      refine j_goto 45 dX2_read_94 (by decide) ?_
      exact rd_A hl h2
    refine j_S (if_pos c_77) ?_
    rw [if_pos c_77] at hr
    have hlt := (sv_lt c_77 (by decide)).1
    refine j_ald0 dX2_read_80 ?_
    refine j_qvV0 dX2_read_81 kX2_readLine l2_52 rfl (by decide) rfl (Nat.le_of_ble_eq_true rfl) (Nat.le_of_ble_eq_true rfl) (by omega) (s_X2_readLine g ht hl (p := q + 1) hlt hc1 (h.adv g)) (fun S2 h2 => ?_)
    have p9 := lineR_at (t := t) hl (p := q + 1) hlt
    rcases n with _ | n
    · omega
    · rcases hE : lineR t len (q + 1) with ⟨q2, _ | ln2⟩
      · rw [hE] at h2 p9
        have h2 : LFq S0 t len q2 S2 := h2
        have hr : r = (q2, none) := by rw [← hr, textR, hE]
        subst hr
        refine j_goto 91 dX2_read_84 (by decide) ?_
        refine j_iinc3 (nI (k + 1)) dX2_read_91 (nI_1 k) rfl (by decide) ?_
        refine j_goto 45 dX2_read_94 (by decide) ?_
        exact rd_F g hl (by have := p9.1; simp only [] at this; omega) h2
      · rw [hE] at h2
        have h2 : LOq S0 t len q2 (codeOf (ls ++ [ln]) ++ codeL ln2) S2 := h2
        rw [← codeOf_snoc] at h2
        refine j_goto 91 dX2_read_84 (by decide) ?_
        refine j_iinc3 (nI (k + 1)) dX2_read_91 (nI_1 k) rfl (by decide) ?_
        refine j_goto 45 dX2_read_94 (by decide) ?_
        exact ih n (by omega) (q + 1) (ls ++ [ln]) S2 (k + 1) q2 ln2 r hE hlt hc1 (by omega) h2 hr (by omega)

set_option maxRecDepth 20000 in
theorem s_X2_read {S : St} (g : G2 S) (ht : ∀ i, t i < 256) (hl : len ≤ 120) (hT : ∀ i, i < len → S.1 14 i = nI (t i)) : Rqi a mX2_read 88 [.ref (a 2), .ref (a 14), .int (nI len)] S (RdC S t len (textR t len 121 0 [])) := by
  show J _ _ _ _ 0 [_, _, _, .null] [] _
  refine j_ald0 dX2_read_0 ?_
  refine j_ild2 dX2_read_1 ?_
  refine j_bipush (120) dX2_read_2 rfl ?_
  refine j_min dX2_read_4 l2_28 t_min_s t_mini t_min_c (Nat.le_of_ble_eq_true rfl) (by omega) ?_
  refine j_top (y := nI len) (if_neg (show ¬ (120 : Int32) < nI len from fun z => absurd ((nI_ltI (a := 120) (b := len) (by decide) (by omega)).mp z) (by omega))) ?_
  refine j_putI (k := 5) dX2_read_7 cX2_ok (Or.inl f2_34) rfl (by decide) (by decide) (by decide) rfl ?_
  refine j_ald1 dX2_read_10 ?_
  refine j_iconst (0) dX2_read_11 rfl ?_
  refine j_ald0 dX2_read_12 ?_
  refine j_getR (k := 4) (34) dX2_read_13 cX2_ok (Or.inl f2_18) rfl (by decide) (by decide) (by decide) rfl ?_
  refine j_iconst (0) dX2_read_16 rfl ?_
  refine j_ald0 dX2_read_17 ?_
  refine j_getI (k := 5) dX2_read_18 cX2_ok (Or.inl f2_34) rfl (by decide) (by decide) (by decide) ?_
  refine j_top (y := nI len) (by rw [uI_at, if_pos ⟨rfl, rfl⟩]) ?_
  refine j_copyi (sp := 0) (dp := 0) (n := len) dX2_read_21 l2_37 t_cp_n t_cp_s t_sysini rfl rfl (by decide) (by decide) rfl rfl rfl (by omega) (by omega) (by decide) (by decide) (Nat.le_of_ble_eq_true rfl) (by omega) ?_
  refine j_ald0 dX2_read_24 ?_
  refine j_iconst (0) dX2_read_25 rfl ?_
  refine j_putI (k := 6) dX2_read_26 cX2_ok (Or.inl f2_43) rfl (by decide) (by decide) (by decide) rfl ?_
  refine j_ald0 dX2_read_29 ?_
  refine j_iconst (-1) dX2_read_30 rfl ?_
  refine j_putI (k := 7) dX2_read_31 cX2_ok (Or.inl f2_46) rfl (by decide) (by decide) (by decide) rfl ?_
  refine j_ald0 dX2_read_34 ?_
  refine j_iconst (0) dX2_read_35 rfl ?_
  refine j_putI (k := 3) dX2_read_36 cX2_ok (Or.inl f2_49) rfl (by decide) (by decide) (by decide) rfl ?_
  have n34 := g.ne (j := 34) (by decide)
  have n2 := g.ne (j := 2) (by decide)
  have h0 : LOq S t len 0 (codeOf []) (uI (uI (uI (sI (uI S 2 5 (nI len)) 34 (va_cpy ((uI S 2 5 (nI len)).1 14) ((uI S 2 5 (nI len)).1 34) 0 0 len)) 2 6 0) 2 7 (-1)) 2 3 0) := by
    refine ⟨⟨Kp_uI (Kp_uI (Kp_uI (Kp_sI (Kp_uI Kp.rf (by decide)) (fun _ => by show 4 ∈ [3, 4]; decide)) (by decide)) (by decide)) (by decide), rfl, ?_, fun k => ?_, ?_, fun i hi => ?_⟩, ?_, ?_, ?_, fun i hi => absurd hi (Nat.not_lt_zero _)⟩
    · simp [uI_at, sI_at]
    · rw [uI_at, if_neg (fun z => n2.2 z.1.symm), uI_at, if_neg (fun z => n2.2 z.1.symm), uI_at, if_neg (fun z => n2.2 z.1.symm), sI_at, if_neg (fun z => n34.2 z.symm), uI_at, if_neg (fun z => n2.2 z.1.symm)]
    · simp [uI_at, sI_at]
    · rw [uI_at, if_neg (by omega), uI_at, if_neg (by omega), uI_at, if_neg (by omega), sI_at, if_pos rfl, pk_cpy_in (by omega) (by omega), uI_at, if_neg (by omega)]
      exact (congrArg _ (show 0 + (i - 0) = i by omega)).trans (hT i hi)
    · simp [uI_at]; rfl
    · simp [uI_at]
    · simp [uI_at, codeOf]; rfl
  refine j_ald0 dX2_read_39 ?_
  refine j_qvV0 dX2_read_40 kX2_readLine l2_52 rfl (by decide) rfl (Nat.le_of_ble_eq_true rfl) (Nat.le_of_ble_eq_true rfl) (by omega) (s_X2_readLine g ht hl (p := 0) (by omega) (by decide) h0) (fun S1 h1 => ?_)
  refine j_iconst (0) dX2_read_43 rfl ?_
  refine j_ist3 dX2_read_44 rfl (by decide) ?_
  rcases hE : lineR t len 0 with ⟨q, _ | ln⟩
  · rw [hE] at h1
    have h1 : LFq S t len q S1 := h1
    have hr : textR t len 121 0 [] = (q, none) := by rw [textR, hE]
    rw [hr]
    exact rd_F (k := 0) g hl (by omega) h1
  · rw [hE] at h1
    have h1 : LOq S t len q (codeOf [] ++ codeL ln) S1 := h1
    rw [← codeOf_snoc] at h1
    exact rd_C g ht hl 121 120 (by decide) 0 [] S1 0 q ln _ hE (by omega) (by decide) (by omega) h1 rfl (by omega)

def tt (t : Nat → Nat) (i : Nat) : Nat := t i % 256
theorem tt_lt (t : Nat → Nat) (i : Nat) : tt t i < 256 := Nat.mod_lt _ (by decide)
theorem tt_eq {t : Nat → Nat} {i : Nat} (h : t i < 256) : tt t i = t i := Nat.mod_eq_of_lt h
/-- the law that a text tells, or where it fails -/
def lawT (len : Nat) (t : Nat → Nat) : Nat × Option (List Line) := textR (tt t) len 121 0 []
def lawV (r : Nat × Option (List Line)) : Int32 := match r with
  | (q, none) => -100 - nI q
  | (_, some _) => 1
def lawN (r : Nat × Option (List Line)) (b : Option (List Line)) : Option (List Line) := match r with
  | (_, none) => b
  | (_, some ls) => some ls
def rdV (r : Nat × Option (List Line)) : Int32 := match r with
  | (q, none) => nI q
  | (_, some _) => -1
theorem rdC_all {S0 S : St} {t : Nat → Nat} {len : Nat} {y : Int32} {b : Option (List Line)} : ∀ {rr : Nat × Option (List Line)}, RdC S0 t len rr y S → LawC b S0 → Kp [3, 4] S0 S ∧ y = rdV rr ∧ LawC (lawN rr b) S
  | (q, none), h, hb => ⟨h.2.1, h.1, hb.keep h.2⟩
  | (q, some ls), h, hb => ⟨h.2.1, h.1, h.2.2⟩
theorem textR_q : ∀ (n p : Nat) (ls : List Line), len ≤ 120 → p ≤ len → (textR t len n p ls).1 ≤ len
  | 0, p, ls, hl, hp => hp
  | n + 1, p, ls, hl, hp => by
    have := (lineR_at (t := t) hl hp).2.1
    rw [textR]
    split
    · exact this
    · split
      · next c =>
        exact textR_q n _ _ hl (sv_lt c (by decide)).1
      · split <;> exact this
theorem lawT_q {len : Nat} {t : Nat → Nat} (hl : len ≤ 120) : (lawT len t).1 ≤ len := textR_q 121 0 [] hl (by omega)
set_option maxRecDepth 20000 in
theorem s_X7_law {S : St} {b : Option (List Line)} {len : Nat} {t : Nat → Nat} (h : FC len t S) (hb : LawC b S) : Rqi a mX7_law 89 [.ref (a 0)] S fun x S' => x = lawV (lawT len t) ∧ FC 0 t S' ∧ Kp [2, 3, 4] S S' ∧ LawC (lawN (lawT len t) b) S' := by
  show J _ _ _ _ 0 [_, .null] [] _
  refine j_ald0 dX7_law_0 ?_
  refine j_getR (k := 1) (2) dX7_law_1 cX7_ok (Or.inl f7_21) rfl (by decide) (by decide) (by decide) rfl ?_
  refine j_ald0 dX7_law_4 ?_
  refine j_getR (k := 7) (14) dX7_law_5 cX7_ok (Or.inl f7_59) rfl (by decide) (by decide) (by decide) rfl ?_
  refine j_ald0 dX7_law_8 ?_
  refine j_getI (k := 8) dX7_law_9 cX7_ok (Or.inl f7_124) rfl (by decide) (by decide) (by decide) ?_
  refine j_top (y := nI len) (h.1) ?_
  refine j_qiV2 dX7_law_12 kX2_read l7_127 rfl (by decide) rfl (Nat.le_of_ble_eq_true rfl) (Nat.le_of_ble_eq_true rfl) (by omega) (s_X2_read (t := tt t) hb.1 (tt_lt t) h.2.1 (fun i hi => by rw [tt_eq (h.2.2 i hi).2]; exact (h.2.2 i hi).1)) (fun y S1 h1 => ?_)
  refine j_ist1 dX7_law_15 rfl (by decide) ?_
  refine j_ald0 dX7_law_16 ?_
  refine j_iconst (0) dX7_law_17 rfl ?_
  refine j_putI (k := 8) dX7_law_18 cX7_ok (Or.inl f7_124) rfl (by decide) (by decide) (by decide) rfl ?_
  have hq := lawT_q (len := len) (t := t) h.2.1
  have hkp := rdC_all h1 hb
  change Kp [3, 4] S S1 ∧ y = rdV (lawT len t) ∧ LawC (lawN (lawT len t) b) S1 at hkp
  clear h1
  obtain ⟨k1, rfl, k3⟩ := hkp
  generalize lawT len t = rr at *
  have hpost : FC 0 t (uI S1 0 8 0) ∧ Kp [2, 3, 4] S (uI S1 0 8 0) ∧ LawC (lawN rr b) (uI S1 0 8 0) := ⟨⟨by rw [uI_at, if_pos ⟨rfl, rfl⟩]; rfl, by decide, fun i hi => absurd hi (Nat.not_lt_zero _)⟩, Kp_uI (k1.wk (by simp)) (by decide), k3.kp (Kp_uI (rs := [2]) Kp.rf (by decide)) (by decide)⟩
  rcases rr with ⟨q, _ | ls⟩
  · refine j_ild1 dX7_law_21 ?_
    refine j_ifge 29 dX7_law_22 (by decide) (fun c_22 => ?_) (fun c_22 => absurd (nI_pos' (by have : q ≤ len := hq; have := h.2.1; omega)) c_22)
    refine j_bipush (-100) dX7_law_29 rfl ?_
    refine j_ild1 dX7_law_31 ?_
    refine j_isub dX7_law_32 ?_
    refine j_iret dX7_law_33 rfl ?_
    exact ⟨_, rfl, rfl, hpost⟩
  · refine j_ild1 dX7_law_21 ?_
    refine j_ifge 29 dX7_law_22 (by decide) (fun c_22 => absurd c_22 (by show ¬ (0 : Int32) ≤ -1; decide)) (fun c_22 => ?_)
    refine j_iconst (1) dX7_law_25 rfl ?_
    refine j_goto 33 dX7_law_26 (by decide) ?_
    refine j_iret dX7_law_33 rfl ?_
    exact ⟨_, rfl, rfl, hpost⟩

end LawRead

