/-! what a law gives a side: the class -/
section ForC
variable {a : Nat → Nat} {S0 S : St} {e : Nat → Int32} {b : Option (List Line)}
theorem law_at {S : St} (h : LawC b S0) (hk : Kp [4] S0 S) : S.1 2 1 = nI (cdO b).length ∧ S.2.2 = S0.2.2 ∧ ∀ i, i < (cdO b).length → S.1 S0.2.2.1 i = (cdO b).getD i 0 :=
  ⟨by rw [hk.i (show rg 2 1 ∉ [4] from by decide)]; exact h.2.1, hk.2 (by decide), fun i hi => by rw [hk.i (by rw [h.1.ck1.2.2]; decide)]; exact h.2.2.2 i hi⟩

theorem stepI_len {x : Int32} {st s1 : List Int32} (h : stepI e x st = some s1) : s1.length ≤ st.length + 1 := by
  rw [stepI.eq_def] at h
  split at h
  · cases h; simp
  · split at h
    · cases h; simp
    · split at h
      · split at h
        · cases h; simp
        · cases h
      · split at h
        · split at h
          · cases h; simp
          · cases h
        · split at h
          · cases h; simp
          · cases h
set_option maxRecDepth 20000 in
theorem vl_run {g : GG} {w1 w2 w3 : Value} {w4 : Int32} (hb : LawC b S0) : ∀ (l pre post st st' : List Int32) (S : St) (w6 w7 : Value), (∀ x ∈ l, OkI x) → runI e l st = some st' → st.length + l.length ≤ 128 → cdO b = pre ++ (l ++ post) → VCq S0 e st S → (∀ (S' : St) (w6 w7 : Value), VCq S0 e st' S' → J a mX2_valueFor 2 g 46 [.ref (a 2), w1, w2, w3, .int w4, .int (nI (pre ++ l).length), w6, w7] [] S') → J a mX2_valueFor 2 g 46 [.ref (a 2), w1, w2, w3, .int w4, .int (nI pre.length), w6, w7] [] S
  | [], pre, post, st, st', S, w6, w7, hok, hr, hl, hc, h, kk => by
    cases hr
    have := kk S w6 w7 h
    rw [List.append_nil] at this
    exact this
  | x :: xs, pre, post, st, st', S, w6, w7, hok, hr, hl, hc, h, kk => by
    have hla := law_at hb h.1
    have hlen : (cdO b).length = pre.length + (xs.length + 1 + post.length) := by rw [hc]; simp; omega
    have h128 := hb.2.2.1
    have hit : S.1 S0.2.2.1 pre.length = x := by
      rw [hla.2.2 _ (by omega), hc]
      have := getD_at (l1 := pre) (l2 := x :: xs ++ post) 0
      exact this
    rw [List.length_cons] at hl
    rw [runI] at hr
    rcases hs : stepI e x st with _ | s1
    · rw [hs] at hr; cases hr
    rw [hs] at hr
    have hr : runI e xs s1 = some st' := hr
    have hs1 : s1.length ≤ st.length + 1 := stepI_len hs
    refine j_ild5 dX2_valueFor_46 ?_
    refine j_ald0 dX2_valueFor_48 ?_
    refine j_getI (k := 1) dX2_valueFor_49 cX2_ok (Or.inl f2_24) rfl (by decide) (by decide) (by decide) ?_
    refine j_top (y := nI (cdO b).length) (hla.1) ?_
    refine j_icmpge 129 dX2_valueFor_52 (by decide) (fun c_52 => absurd c_52 (fun z => absurd ((nI_leI (a := (cdO b).length) (b := pre.length) (by omega) (by omega)).mp z) (by omega))) (fun c_52 => ?_)
    refine j_ald0 dX2_valueFor_55 ?_
    refine j_getR (k := 0) (S0.2.2.1) dX2_valueFor_56 cX2_ok (Or.inl f2_9) rfl (by decide) (by decide) (by decide) (congrArg Prod.fst hla.2.1) ?_
    refine j_ild5 dX2_valueFor_59 ?_
    refine j_iald (n := pre.length) dX2_valueFor_61 hb.1.ck1.1 hb.1.ck1.2.1 rfl (by omega) (by decide) ?_
    refine j_top (y := x) hit ?_
    refine j_ist6 dX2_valueFor_62 rfl (by decide) ?_
    refine j_ild6 dX2_valueFor_64 ?_
    refine j_iflt 78 dX2_valueFor_66 (by decide) (fun c_66 => ?_) (fun c_66 => ?_)
    · have hneg : ¬ 0 ≤ x := Int32.not_le.mpr c_66
      refine j_ild6 dX2_valueFor_78 ?_
      refine j_bipush (-59) dX2_valueFor_80 rfl ?_
      refine j_icmpne 90 dX2_valueFor_82 (by decide) (fun c_82 => ?_) (fun c_82 => absurd ((hok x (List.mem_cons_self ..)).ne.1) c_82)
      refine j_ild6 dX2_valueFor_90 ?_
      refine j_bipush (-63) dX2_valueFor_92 rfl ?_
      refine j_icmpne 116 dX2_valueFor_94 (by decide) (fun c_94 => ?_) (fun c_94 => absurd ((hok x (List.mem_cons_self ..)).ne.2) c_94)
      refine j_ald0 dX2_valueFor_116 ?_
      refine j_ild6 dX2_valueFor_117 ?_
      refine j_ineg dX2_valueFor_119 ?_
      refine j_qvV1 dX2_valueFor_120 kX2_workOut l2_122 rfl (by decide) rfl (Nat.le_of_ble_eq_true rfl) (Nat.le_of_ble_eq_true rfl) (by omega) (s_X2_workOut (hok x (List.mem_cons_self ..)) hneg (by omega) hs h) (fun S1 h1 => ?_)
      refine j_iinc5 (nI (pre.length + 1)) dX2_valueFor_123 (nI_1 _) rfl (by decide) ?_
      refine j_goto 46 dX2_valueFor_126 (by decide) ?_
      have := vl_run (g := g) (w1 := w1) (w2 := w2) (w3 := w3) (w4 := w4) hb xs (pre ++ [x]) post _ st' S1 (.int x) w7 (fun y hy => hok y (List.mem_cons_of_mem _ hy)) hr (by omega) (by rw [List.append_assoc]; exact hc) h1 (fun S' w6 w7 h' => by have := kk S' w6 w7 h'; rw [List.append_assoc]; exact this)
      rw [List.length_append, List.length_singleton] at this
      exact this
    have hpos : 0 ≤ x := Int32.not_lt.mp c_66
    have es : s1 = x :: st := by
      rw [stepI.eq_def, if_pos hpos] at hs
      cases hs; rfl
    subst es
    refine j_ald0 dX2_valueFor_69 ?_
    refine j_ild6 dX2_valueFor_70 ?_
    refine j_qvV1 dX2_valueFor_72 kX2_push l2_116 rfl (by decide) rfl (Nat.le_of_ble_eq_true rfl) (Nat.le_of_ble_eq_true rfl) (by omega) (s_X2_push (by omega) h) (fun S1 h1 => ?_)
    refine j_goto 123 dX2_valueFor_75 (by decide) ?_
    refine j_iinc5 (nI (pre.length + 1)) dX2_valueFor_123 (nI_1 _) rfl (by decide) ?_
    refine j_goto 46 dX2_valueFor_126 (by decide) ?_
    have := vl_run (g := g) (w1 := w1) (w2 := w2) (w3 := w3) (w4 := w4) hb xs (pre ++ [x]) post _ st' S1 (.int x) w7 (fun y hy => hok y (List.mem_cons_of_mem _ hy)) hr (by omega) (by rw [List.append_assoc]; exact hc) h1 (fun S' w6 w7 h' => by have := kk S' w6 w7 h'; rw [List.append_assoc]; exact this)
    rw [List.length_append, List.length_singleton] at this
    exact this
set_option maxRecDepth 20000 in
theorem vl_A {w1 w2 w3 w6 w7 : Value} {w4 : Int32} {pre : List Int32} {v : Int32} (hb : LawC b S0) (hp : pre.length < (cdO b).length) (hit : S.1 S0.2.2.1 pre.length = -59) (h : VCq S0 e [v] S) : J a mX2_valueFor 2 (gm a fun r S' => ∃ x, r = some (.int x) ∧ x = v ∧ Kp [4] S0 S') 46 [.ref (a 2), w1, w2, w3, .int w4, .int (nI pre.length), w6, w7] [] S := by
  have hla := law_at hb h.1
  have h128 := hb.2.2.1
  refine j_ild5 dX2_valueFor_46 ?_
  refine j_ald0 dX2_valueFor_48 ?_
  refine j_getI (k := 1) dX2_valueFor_49 cX2_ok (Or.inl f2_24) rfl (by decide) (by decide) (by decide) ?_
  refine j_top (y := nI (cdO b).length) (hla.1) ?_
  refine j_icmpge 129 dX2_valueFor_52 (by decide) (fun c_52 => absurd c_52 (fun z => absurd ((nI_leI (a := (cdO b).length) (b := pre.length) (by omega) (by omega)).mp z) (by omega))) (fun c_52 => ?_)
  refine j_ald0 dX2_valueFor_55 ?_
  refine j_getR (k := 0) (S0.2.2.1) dX2_valueFor_56 cX2_ok (Or.inl f2_9) rfl (by decide) (by decide) (by decide) (congrArg Prod.fst hla.2.1) ?_
  refine j_ild5 dX2_valueFor_59 ?_
  refine j_iald (n := pre.length) dX2_valueFor_61 hb.1.ck1.1 hb.1.ck1.2.1 rfl (by omega) (by decide) ?_
  refine j_top (y := -59) hit ?_
  refine j_ist6 dX2_valueFor_62 rfl (by decide) ?_
  refine j_ild6 dX2_valueFor_64 ?_
  refine j_iflt 78 dX2_valueFor_66 (by decide) (fun c_66 => ?_) (fun c_66 => absurd (by decide) c_66)
  refine j_ild6 dX2_valueFor_78 ?_
  refine j_bipush (-59) dX2_valueFor_80 rfl ?_
  refine j_icmpne 90 dX2_valueFor_82 (by decide) (fun c_82 => absurd c_82 (not_not_intro rfl)) (fun c_82 => ?_)
  refine j_ald0 dX2_valueFor_85 ?_
  refine j_qiV0 dX2_valueFor_86 kX2_pop l2_119 rfl (by decide) rfl (Nat.le_of_ble_eq_true rfl) (Nat.le_of_ble_eq_true rfl) (by omega) (s_X2_pop (by simp) h) (fun y S1 h1 => ?_)
  obtain ⟨rfl, h1⟩ := h1
  refine j_iret dX2_valueFor_89 rfl ?_
  exact ⟨_, rfl, rfl, h1.1⟩

set_option maxRecDepth 20000 in
theorem vl_W1 {w1 w2 w3 w6 w7 : Value} {w4 : Int32} {pre : List Int32} {u v : Int32} (hb : LawC b S0) (hp : pre.length < (cdO b).length) (hit : S.1 S0.2.2.1 pre.length = -63) (hu : ¬ u = 0) (h : VCq S0 e [v, u] S) : J a mX2_valueFor 2 (gm a fun r S' => ∃ x, r = some (.int x) ∧ x = v ∧ Kp [4] S0 S') 46 [.ref (a 2), w1, w2, w3, .int w4, .int (nI pre.length), w6, w7] [] S := by
  have hla := law_at hb h.1
  have h128 := hb.2.2.1
  refine j_ild5 dX2_valueFor_46 ?_
  refine j_ald0 dX2_valueFor_48 ?_
  refine j_getI (k := 1) dX2_valueFor_49 cX2_ok (Or.inl f2_24) rfl (by decide) (by decide) (by decide) ?_
  refine j_top (y := nI (cdO b).length) (hla.1) ?_
  refine j_icmpge 129 dX2_valueFor_52 (by decide) (fun c_52 => absurd c_52 (fun z => absurd ((nI_leI (a := (cdO b).length) (b := pre.length) (by omega) (by omega)).mp z) (by omega))) (fun c_52 => ?_)
  refine j_ald0 dX2_valueFor_55 ?_
  refine j_getR (k := 0) (S0.2.2.1) dX2_valueFor_56 cX2_ok (Or.inl f2_9) rfl (by decide) (by decide) (by decide) (congrArg Prod.fst hla.2.1) ?_
  refine j_ild5 dX2_valueFor_59 ?_
  refine j_iald (n := pre.length) dX2_valueFor_61 hb.1.ck1.1 hb.1.ck1.2.1 rfl (by omega) (by decide) ?_
  refine j_top (y := -63) hit ?_
  refine j_ist6 dX2_valueFor_62 rfl (by decide) ?_
  refine j_ild6 dX2_valueFor_64 ?_
  refine j_iflt 78 dX2_valueFor_66 (by decide) (fun c_66 => ?_) (fun c_66 => absurd (by decide) c_66)
  refine j_ild6 dX2_valueFor_78 ?_
  refine j_bipush (-59) dX2_valueFor_80 rfl ?_
  refine j_icmpne 90 dX2_valueFor_82 (by decide) (fun c_82 => ?_) (fun c_82 => absurd (by decide) c_82)
  refine j_ild6 dX2_valueFor_90 ?_
  refine j_bipush (-63) dX2_valueFor_92 rfl ?_
  refine j_icmpne 116 dX2_valueFor_94 (by decide) (fun c_94 => absurd c_94 (not_not_intro rfl)) (fun c_94 => ?_)
  refine j_ald0 dX2_valueFor_97 ?_
  refine j_qiV0 dX2_valueFor_98 kX2_pop l2_119 rfl (by decide) rfl (Nat.le_of_ble_eq_true rfl) (Nat.le_of_ble_eq_true rfl) (by omega) (s_X2_pop (by simp) h) (fun y S1 h1 => ?_)
  obtain ⟨rfl, h1⟩ := h1
  refine j_ist7 dX2_valueFor_101 rfl (by decide) ?_
  refine j_ald0 dX2_valueFor_103 ?_
  refine j_qiV0 dX2_valueFor_104 kX2_pop l2_119 rfl (by decide) rfl (Nat.le_of_ble_eq_true rfl) (Nat.le_of_ble_eq_true rfl) (by omega) (s_X2_pop (by simp) h1) (fun z S2 h2 => ?_)
  obtain ⟨rfl, h2⟩ := h2
  refine j_ifeq 113 dX2_valueFor_107 (by decide) (fun c_107 => absurd c_107 (hu)) (fun c_107 => ?_)
  refine j_ild7 dX2_valueFor_110 ?_
  refine j_iret dX2_valueFor_112 rfl ?_
  exact ⟨_, rfl, rfl, h2.1⟩

set_option maxRecDepth 20000 in
theorem vl_W0 {g : GG} {w1 w2 w3 w6 w7 : Value} {w4 : Int32} {pre : List Int32} {v : Int32} (hb : LawC b S0) (hp : pre.length < (cdO b).length) (hit : S.1 S0.2.2.1 pre.length = -63) (h : VCq S0 e [v, 0] S) (kk : ∀ (S' : St) (w6 w7 : Value), VCq S0 e [] S' → J a mX2_valueFor 2 g 46 [.ref (a 2), w1, w2, w3, .int w4, .int (nI (pre.length + 1)), w6, w7] [] S') : J a mX2_valueFor 2 g 46 [.ref (a 2), w1, w2, w3, .int w4, .int (nI pre.length), w6, w7] [] S := by
  have hla := law_at hb h.1
  have h128 := hb.2.2.1
  refine j_ild5 dX2_valueFor_46 ?_
  refine j_ald0 dX2_valueFor_48 ?_
  refine j_getI (k := 1) dX2_valueFor_49 cX2_ok (Or.inl f2_24) rfl (by decide) (by decide) (by decide) ?_
  refine j_top (y := nI (cdO b).length) (hla.1) ?_
  refine j_icmpge 129 dX2_valueFor_52 (by decide) (fun c_52 => absurd c_52 (fun z => absurd ((nI_leI (a := (cdO b).length) (b := pre.length) (by omega) (by omega)).mp z) (by omega))) (fun c_52 => ?_)
  refine j_ald0 dX2_valueFor_55 ?_
  refine j_getR (k := 0) (S0.2.2.1) dX2_valueFor_56 cX2_ok (Or.inl f2_9) rfl (by decide) (by decide) (by decide) (congrArg Prod.fst hla.2.1) ?_
  refine j_ild5 dX2_valueFor_59 ?_
  refine j_iald (n := pre.length) dX2_valueFor_61 hb.1.ck1.1 hb.1.ck1.2.1 rfl (by omega) (by decide) ?_
  refine j_top (y := -63) hit ?_
  refine j_ist6 dX2_valueFor_62 rfl (by decide) ?_
  refine j_ild6 dX2_valueFor_64 ?_
  refine j_iflt 78 dX2_valueFor_66 (by decide) (fun c_66 => ?_) (fun c_66 => absurd (by decide) c_66)
  refine j_ild6 dX2_valueFor_78 ?_
  refine j_bipush (-59) dX2_valueFor_80 rfl ?_
  refine j_icmpne 90 dX2_valueFor_82 (by decide) (fun c_82 => ?_) (fun c_82 => absurd (by decide) c_82)
  refine j_ild6 dX2_valueFor_90 ?_
  refine j_bipush (-63) dX2_valueFor_92 rfl ?_
  refine j_icmpne 116 dX2_valueFor_94 (by decide) (fun c_94 => absurd c_94 (not_not_intro rfl)) (fun c_94 => ?_)
  refine j_ald0 dX2_valueFor_97 ?_
  refine j_qiV0 dX2_valueFor_98 kX2_pop l2_119 rfl (by decide) rfl (Nat.le_of_ble_eq_true rfl) (Nat.le_of_ble_eq_true rfl) (by omega) (s_X2_pop (by simp) h) (fun y S1 h1 => ?_)
  obtain ⟨rfl, h1⟩ := h1
  refine j_ist7 dX2_valueFor_101 rfl (by decide) ?_
  refine j_ald0 dX2_valueFor_103 ?_
  refine j_qiV0 dX2_valueFor_104 kX2_pop l2_119 rfl (by decide) rfl (Nat.le_of_ble_eq_true rfl) (Nat.le_of_ble_eq_true rfl) (by omega) (s_X2_pop (by simp) h1) (fun z S2 h2 => ?_)
  obtain ⟨rfl, h2⟩ := h2
  refine j_ifeq 113 dX2_valueFor_107 (by decide) (fun c_107 => ?_) (fun c_107 => absurd (rfl) c_107)
  refine j_goto 123 dX2_valueFor_113 (by decide) ?_
  refine j_iinc5 (nI (pre.length + 1)) dX2_valueFor_123 (nI_1 _) rfl (by decide) ?_
  refine j_goto 46 dX2_valueFor_126 (by decide) ?_
  exact kk _ _ _ h2

set_option maxRecDepth 20000 in
theorem vl_lines {w1 w2 w3 : Value} {w4 : Int32} (hb : LawC b S0) : ∀ (ls : List Line) (pre : List Int32) (S : St) (w6 w7 : Value), (∀ x ∈ ls, GoodL x) → cdO b = pre ++ codeOf ls → VCq S0 e [] S → J a mX2_valueFor 2 (gm a fun r S' => ∃ x, r = some (.int x) ∧ x = lawI e ls ∧ Kp [4] S0 S') 46 [.ref (a 2), w1, w2, w3, .int w4, .int (nI pre.length), w6, w7] [] S
  | [], pre, S, w6, w7, hg, hc, h => by
    have hla := law_at hb h.1
    have h128 := hb.2.2.1
    rw [show codeOf ([] : List Line) = [] from rfl, List.append_nil] at hc
    refine j_ild5 dX2_valueFor_46 ?_
    refine j_ald0 dX2_valueFor_48 ?_
    refine j_getI (k := 1) dX2_valueFor_49 cX2_ok (Or.inl f2_24) rfl (by decide) (by decide) (by decide) ?_
    refine j_top (y := nI (cdO b).length) (hla.1) ?_
    refine j_icmpge 129 dX2_valueFor_52 (by decide) (fun c_52 => ?_) (fun c_52 => absurd (nI_le (by rw [hc]; exact Nat.le_refl _) (by rw [← hc]; omega)) c_52)
    refine j_iconst (0) dX2_valueFor_129 rfl ?_
    refine j_iret dX2_valueFor_130 rfl ?_
    exact ⟨_, rfl, rfl, h.1⟩
  | (t, w) :: ls, pre, S, w6, w7, hg, hc, h => by
    obtain ⟨g1, g2⟩ := hg _ (List.mem_cons_self ..)
    have h128 := hb.2.2.1
    have hc0 : codeOf ((t, w) :: ls) = codeL (t, w) ++ codeOf ls := rfl
    rw [hc0] at hc
    have hlen : (cdO b).length = pre.length + ((t.length + w.length + 1) + (codeOf ls).length) := by rw [hc, codeL]; simp; omega
    rw [lawI]
    by_cases ht : t = []
    · subst ht
      rw [if_pos (Or.inl rfl)]
      have hc2 : cdO b = pre ++ (w ++ ([-59] ++ codeOf ls)) := by rw [hc, codeL]; simp
      have hr := g2.run e []
      simp only [List.length_nil] at hlen
      refine vl_run hb w pre _ [] _ S w6 w7 g2.1 hr (by simp only [List.length_nil]; omega) hc2 h (fun S' w6 w7 h' => ?_)
      refine vl_A hb (by rw [List.length_append]; omega) ?_ h'
      rw [(law_at hb h'.1).2.2 _ (by rw [List.length_append]; omega), hc2, ← List.append_assoc]
      exact getD_at (l1 := pre ++ w) (l2 := [-59] ++ codeOf ls) 0
    · have g3 : Good t := g1.resolve_left ht
      have hc2 : cdO b = pre ++ (t ++ (w ++ ([-63] ++ codeOf ls))) := by rw [hc, codeL, if_neg ht]; simp
      have hr := g3.run e []
      refine vl_run hb t pre _ [] _ S w6 w7 g3.1 hr (by simp only [List.length_nil]; omega) hc2 h (fun S1 w6 w7 h1 => ?_)
      have hc3 : cdO b = (pre ++ t) ++ (w ++ ([-63] ++ codeOf ls)) := by rw [hc2, List.append_assoc]
      have hr2 := g2.run e [valI e t]
      refine vl_run hb w (pre ++ t) _ _ _ S1 w6 w7 g2.1 hr2 (by simp only [List.length_singleton]; omega) hc3 h1 (fun S2 w6 w7 h2 => ?_)
      have hp : (pre ++ t ++ w).length < (cdO b).length := by simp only [List.length_append]; omega
      have hit : S2.1 S0.2.2.1 (pre ++ t ++ w).length = -63 := by
        rw [(law_at hb h2.1).2.2 _ hp, hc3, ← List.append_assoc]
        exact getD_at (l1 := pre ++ t ++ w) (l2 := [-63] ++ codeOf ls) 0
      by_cases hv : valI e t = 0
      · rw [if_neg (fun z => z.elim ht (fun y => y hv))]
        rw [hv] at h2
        refine vl_W0 hb hp hit h2 (fun S3 w6 w7 h3 => ?_)
        have hc4 : cdO b = (pre ++ t ++ w ++ [-63]) ++ codeOf ls := by rw [hc2]; simp
        have := vl_lines (w1 := w1) (w2 := w2) (w3 := w3) (w4 := w4) hb ls (pre ++ t ++ w ++ [-63]) S3 w6 w7 (fun x hx => hg x (List.mem_cons_of_mem _ hx)) hc4 h3
        rw [List.length_append (bs := [-63]), List.length_singleton] at this
        exact this
      · rw [if_pos (Or.inr hv)]
        exact vl_W1 hb hp hit hv h2
def envC (v : Nat → Nat → Nat) (i s : Nat) (k : Nat) : Int32 := if k = 0 then nI (v (1 + s) i) else if k = 1 then nI (v (2 - s) i) else if k = 2 then nI i else if k = 3 then nI (v 0 i) else nI s
end ForC
section ForC2
variable {a : Nat → Nat} {S : St} {n : Nat} {v : Nat → Nat → Nat} {b : Option (List Line)}
set_option maxRecDepth 20000 in
theorem sC_colour {i s : Nat} (h : TC n v S) (hi : i < 8) (hs : s < 2) : Rt a mX6_colour 0 [.ref (a 1), .int (nI i), .int (nI s)] S (some (.int (nI (v (1 + s) i))))  S := by
  show J _ _ _ _ 0 [_, _, _] [] _
  refine j_ald0 dX6_colour_0 ?_
  refine j_getR (k := 0) (15) dX6_colour_1 cX6_ok (Or.inl f6_13) rfl (by decide) (by decide) (by decide) rfl ?_
  refine j_ild2 dX6_colour_4 ?_
  refine j_ifne 12 dX6_colour_5 (by decide) (fun c_5 => ?_) (fun c_5 => ?_)
  · have q_5 : s = 1 := by
      have : ¬ s = 0 := fun z => c_5 (by rw [z]; rfl)
      omega
    subst q_5
    refine j_iconst (2) dX6_colour_12 rfl ?_
    refine j_aald (n := 2) (18) dX6_colour_13 (Or.inr rfl) (by decide) rfl (by decide) (by decide) rfl ?_
    refine j_ild1 dX6_colour_14 ?_
    refine j_iald (n := i) dX6_colour_15 rfl (by decide) rfl (by omega) (by decide) ?_
    refine j_top (y := nI (v 2 i)) (h.2.2.1 2 (by decide) i hi) ?_
    refine j_iret dX6_colour_16 rfl ?_
    exact ⟨rfl, rfl⟩
  have q_5 : s = 0 := (nI_eq (a := s) (b := 0) (by omega) (by decide)).mp (Classical.not_not.mp c_5)
  subst q_5
  refine j_iconst (1) dX6_colour_8 rfl ?_
  refine j_goto 13 dX6_colour_9 (by decide) ?_
  refine j_aald (n := 1) (17) dX6_colour_13 (Or.inr rfl) (by decide) rfl (by decide) (by decide) rfl ?_
  refine j_ild1 dX6_colour_14 ?_
  refine j_iald (n := i) dX6_colour_15 rfl (by decide) rfl (by omega) (by decide) ?_
  refine j_top (y := nI (v 1 i)) (h.2.2.1 1 (by decide) i hi) ?_
  refine j_iret dX6_colour_16 rfl ?_
  exact ⟨rfl, rfl⟩

set_option maxRecDepth 20000 in
theorem s_X2_valueFor {i s : Nat} {ls : List Line} (h : TC n v S) (hb : LawC (some ls) S) (hg : GoodB (some ls)) (hi : i < 8) (hs : s < 2) : Rqi a mX2_valueFor 2 [.ref (a 2), .ref (a 1), .int (nI i), .int (nI s), .int (nI (v 0 i))] S fun x S' => x = lawI (envC v i s) ls ∧ Kp [4] S S' := by
  show J _ _ _ _ 0 [_, _, _, _, _, .null, .null, .null] [] _
  refine j_ald0 dX2_valueFor_0 ?_
  refine j_ald1 dX2_valueFor_1 ?_
  refine j_ild2 dX2_valueFor_2 ?_
  refine j_ild3 dX2_valueFor_3 ?_
  refine j_cV2 dX2_valueFor_4 kX6_colour l2_93 rfl (by decide) rfl (Nat.le_of_ble_eq_true rfl) (Nat.le_of_ble_eq_true rfl) (by omega) (sC_colour h hi hs) ?_
  refine j_putI (k := 10) dX2_valueFor_7 cX2_ok (Or.inl f2_98) rfl (by decide) (by decide) (by decide) rfl ?_
  refine j_ald0 dX2_valueFor_10 ?_
  refine j_ald1 dX2_valueFor_11 ?_
  refine j_ild2 dX2_valueFor_12 ?_
  refine j_iconst (1) dX2_valueFor_13 rfl ?_
  refine j_ild3 dX2_valueFor_14 ?_
  refine j_isub dX2_valueFor_15 ?_
  refine j_top (y := nI (1 - s)) (by exact pk_sub (a := 1) (b := s) (by omega)) ?_
  refine j_cV2 dX2_valueFor_16 kX6_colour l2_93 rfl (by decide) rfl (Nat.le_of_ble_eq_true rfl) (Nat.le_of_ble_eq_true rfl) (by omega) (sC_colour (i := i) (s := 1 - s) (h.kp (Kp_uI (rs := [4]) Kp.rf (by decide)) (by decide)) hi (by omega)) ?_
  refine j_top (y := nI (v (2 - s) i)) (by rw [show 1 + (1 - s) = 2 - s by omega]) ?_
  refine j_putI (k := 11) dX2_valueFor_19 cX2_ok (Or.inl f2_101) rfl (by decide) (by decide) (by decide) rfl ?_
  refine j_ald0 dX2_valueFor_22 ?_
  refine j_ild2 dX2_valueFor_23 ?_
  refine j_putI (k := 12) dX2_valueFor_24 cX2_ok (Or.inl f2_104) rfl (by decide) (by decide) (by decide) rfl ?_
  refine j_ald0 dX2_valueFor_27 ?_
  refine j_ild4 dX2_valueFor_28 ?_
  refine j_putI (k := 13) dX2_valueFor_30 cX2_ok (Or.inl f2_107) rfl (by decide) (by decide) (by decide) rfl ?_
  refine j_ald0 dX2_valueFor_33 ?_
  refine j_ild3 dX2_valueFor_34 ?_
  refine j_putI (k := 14) dX2_valueFor_35 cX2_ok (Or.inl f2_110) rfl (by decide) (by decide) (by decide) rfl ?_
  refine j_ald0 dX2_valueFor_38 ?_
  refine j_iconst (0) dX2_valueFor_39 rfl ?_
  refine j_putI (k := 9) dX2_valueFor_40 cX2_ok (Or.inl f2_113) rfl (by decide) (by decide) (by decide) rfl ?_
  refine j_iconst (0) dX2_valueFor_43 rfl ?_
  refine j_ist5 dX2_valueFor_44 rfl (by decide) ?_
  have hv : VCq S (envC v i s) [] (uI (uI (uI (uI (uI (uI S 2 10 (nI (v (1 + s) i))) 2 11 (nI (v (2 - s) i))) 2 12 (nI i)) 2 13 (nI (v 0 i))) 2 14 (nI s)) 2 9 0) := by
    refine ⟨Kp_uI (Kp_uI (Kp_uI (Kp_uI (Kp_uI (Kp_uI Kp.rf (by decide)) (by decide)) (by decide)) (by decide)) (by decide)) (by decide), fun k hk => ?_, ?_, fun i hi => absurd hi (Nat.not_lt_zero _)⟩
    · rcases (show k = 0 ∨ k = 1 ∨ k = 2 ∨ k = 3 ∨ k = 4 by omega) with rfl | rfl | rfl | rfl | rfl <;> simp [uI_at, envC]
    · simp [uI_at]; rfl
  exact vl_lines hb ls [] _ _ _ (hg ls rfl) rfl hv

end ForC2

