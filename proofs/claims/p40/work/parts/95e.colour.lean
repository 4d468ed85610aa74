/-! the law, from behind: a colour -/
section Col
variable {a : Nat → Nat} {n b Ls : Nat} {v : Nat → Nat → Nat} {bb : Option (List Line)} {xs : Nat → Int32}

theorem law_390a {g : GG} (hR : HR a g) (hN : 61 < NC a) (hl : xl a 61 = n) (hn7 : n ≤ 7) (hg : GoodB bb) (hE : HE g a b Ls xs) (hL : Ls ≤ 260) {S : St} (h : LW0 n v bb S) {c : Nat} (hc : c < 6) {acc : UInt64} (K : ∀ S', LW0 n v bb S' → J a mL_law 100 g 50 [.ref b, .ref (a 0), .ref (a 61), .int (bi (hatN v n = 0)), .double acc, .null, .int (nI (c + 1)), .null, .null, .null, .null, .null, .null, .null, .null, .null, .null, .null] [] S') : J a mL_law 100 g 390 [.ref b, .ref (a 0), .ref (a 61), .int (bi (hatN v n = 0)), .double acc, .null, .int (nI c), .double (dq (lkA v bb n c 1) (60 * hatN v n)), .null, .null, .null, .null, .null, .null, .null, .null, .null, .null] [.int (-2)] S := by
  have hv : ∀ i, i < 8 → v 0 i ≤ 9 := fun i hi => h.1.many9 hi
  have hh : hatN v n ≤ 63 := hat_le hv hn7
  have hmh := lk1_hat (v := v) (b := bb) (n := n) c
  have d1 := dq_in (A := lkA v bb n c 1) (B := 60 * hatN v n) (by omega) (by omega) hmh
  refine j_ist13 dL_law_390 rfl (by decide) ?_
  refine j_dld7 dL_law_392 ?_
  refine j_dconst1 dL_law_394 ?_
  refine j_dcmp dL_law_395 (d1.1) (d1_DF.1) ?_
  refine j_ifne 406 dL_law_396 (by decide) (fun c_396 => ?_) (fun c_396 => ?_)
  · refine j_ild13 dL_law_406 ?_
    refine j_ald2 dL_law_408 ?_
    refine j_xlen hN hl dL_law_409 rfl ?_
    refine j_icmplt 415 dL_law_410 (by decide) (fun c_410 => ?_) (fun c_410 => absurd (neg2_lt (by omega)) c_410)
    refine j_ild13 dL_law_415 ?_
    refine j_iflt 494 dL_law_417 (by decide) (fun c_417 => ?_) (fun c_417 => absurd (by decide) c_417)
    refine j_iinc6 (nI (c + 1)) dL_law_494 (nI_1 c) rfl (by decide) ?_
    refine j_goto 50 dL_law_497 (by decide) ?_
    refine j_cut [_, _, _, _, _, _, _] [_, _, _, _, _, _, _, _, _, _, _] ?_
    exact K _ h
  refine j_ild13 dL_law_399 ?_
  refine j_bipush (-2) dL_law_401 rfl ?_
  refine j_icmpne 413 dL_law_403 (by decide) (fun c_403 => absurd c_403 (not_not_intro rfl)) (fun c_403 => ?_)
  refine j_ild13 dL_law_406 ?_
  refine j_ald2 dL_law_408 ?_
  refine j_xlen hN hl dL_law_409 rfl ?_
  refine j_icmplt 415 dL_law_410 (by decide) (fun c_410 => ?_) (fun c_410 => absurd (neg2_lt (by omega)) c_410)
  refine j_ild13 dL_law_415 ?_
  refine j_iflt 494 dL_law_417 (by decide) (fun c_417 => ?_) (fun c_417 => absurd (by decide) c_417)
  refine j_iinc6 (nI (c + 1)) dL_law_494 (nI_1 c) rfl (by decide) ?_
  refine j_goto 50 dL_law_497 (by decide) ?_
  refine j_cut [_, _, _, _, _, _, _] [_, _, _, _, _, _, _, _, _, _, _] ?_
  exact K _ h

theorem law_390b {g : GG} (hR : HR a g) (hN : 61 < NC a) (hl : xl a 61 = n) (hn7 : n ≤ 7) (hg : GoodB bb) (hE : HE g a b Ls xs) (hL : Ls ≤ 260) {S : St} (h : LW0 n v bb S) {c : Nat} (hc : c < 6) {acc : UInt64} (K : ∀ S', LW0 n v bb S' → J a mL_law 100 g 50 [.ref b, .ref (a 0), .ref (a 61), .int (bi (hatN v n = 0)), .double acc, .null, .int (nI (c + 1)), .null, .null, .null, .null, .null, .null, .null, .null, .null, .null, .null] [] S') {m : Nat} (hm : m < n) (hlt : lkA v bb n c 1 * (60 * (hatN v n + 1)) < lkA (mo1 v m) bb n c 1 * (if hatN v n = 0 then 1 else 60 * hatN v n)) : J a mL_law 100 g 390 [.ref b, .ref (a 0), .ref (a 61), .int (bi (hatN v n = 0)), .double acc, .null, .int (nI c), .double (dq (lkA v bb n c 1) (60 * hatN v n)), .null, .null, .null, .null, .null, .null, .null, .null, .null, .null] [.int (nI m)] S := by
  have hv : ∀ i, i < 8 → v 0 i ≤ 9 := fun i hi => h.1.many9 hi
  have hh : hatN v n ≤ 63 := hat_le hv hn7
  have hmh := lk1_hat (v := v) (b := bb) (n := n) c
  have d1 := dq_in (A := lkA v bb n c 1) (B := 60 * hatN v n) (by omega) (by omega) hmh
  have hW := lk1_hat (v := mo1 v m) (b := bb) (n := n) c
  rw [mo1_hat hm] at hW
  have hne := p_lt1 hh hmh hW hlt
  have hpp : zv (dq (lkA v bb n c 1) (60 * hatN v n)) < zv (dq (lkA (mo1 v m) bb n c 1) (60 * hatN (mo1 v m) n)) := by
    rw [mo1_hat hm]
    exact pp_lt hh hmh hW hlt
  have d2 := dq_in (A := lkA (mo1 v m) bb n c 1) (B := 60 * hatN (mo1 v m) n) (by omega) (by rw [mo1_hat hm]; omega) (by rw [mo1_hat hm]; exact hW)
  refine j_ist13 dL_law_390 rfl (by decide) ?_
  refine j_dld7 dL_law_392 ?_
  refine j_dconst1 dL_law_394 ?_
  refine j_dcmp dL_law_395 (d1.1) (d1_DF.1) ?_
  refine j_ifne 406 dL_law_396 (by decide) (fun c_396 => ?_) (fun c_396 => absurd (fun z => absurd (cz_eq.mp z) (by rw [d1_DF.2]; omega)) c_396)
  refine j_ild13 dL_law_406 ?_
  refine j_ald2 dL_law_408 ?_
  refine j_xlen hN hl dL_law_409 rfl ?_
  refine j_icmplt 415 dL_law_410 (by decide) (fun c_410 => ?_) (fun c_410 => absurd ((nI_ltI (a := m) (b := n) (by omega) (by omega)).mpr hm) c_410)
  refine j_ild13 dL_law_415 ?_
  refine j_iflt 494 dL_law_417 (by decide) (fun c_417 => absurd c_417 (nI_pos (by omega))) (fun c_417 => ?_)
  refine j_ald2 dL_law_420 ?_
  refine j_ild13 dL_law_421 ?_
  refine j_xald (n := m) hN hl dL_law_423 rfl hm (by have := hn7; omega) ?_
  refine j_top (y := nI (v 0 m)) (h.2.2.2.2.2.2 m hm) ?_
  refine j_bipush (9) dL_law_424 rfl ?_
  refine j_icmpge 494 dL_law_426 (by decide) (fun c_426 => ?_) (fun c_426 => ?_)
  · refine j_iinc6 (nI (c + 1)) dL_law_494 (nI_1 c) rfl (by decide) ?_
    refine j_goto 50 dL_law_497 (by decide) ?_
    refine j_cut [_, _, _, _, _, _, _] [_, _, _, _, _, _, _, _, _, _, _] ?_
    exact K _ h
  have q_426 : v 0 m < 9 := Nat.not_le.mp (fun z => c_426 ((nI_leI (a := 9) (b := v 0 m) (by decide) (by have := hv m (by omega); omega)).mpr z))
  refine j_ald1 dL_law_429 ?_
  refine j_ild13 dL_law_430 ?_
  refine j_iconst (0) dL_law_432 rfl ?_
  refine j_ald2 dL_law_433 ?_
  refine j_ild13 dL_law_434 ?_
  refine j_xald (n := m) hN hl dL_law_436 rfl hm (by have := hn7; omega) ?_
  refine j_top (y := nI (v 0 m)) (h.2.2.2.2.2.2 m hm) ?_
  refine j_iconst (1) dL_law_437 rfl ?_
  refine j_iadd dL_law_438 ?_
  refine j_top (y := nI (v 0 m + 1)) (nI_1 (v 0 m)) ?_
  refine j_qiV3 dL_law_439 kX7_mend lL_105 rfl (by decide) rfl (Nat.le_of_ble_eq_true rfl) (Nat.le_of_ble_eq_true rfl) (by omega) (q_mend (show LSm n v v bb S from h) hm (x := v 0 m + 1) (by omega)) (fun v1 S1 h1 => ?_)
  obtain ⟨rfl, h2⟩ := h1
  refine j_ald2 dL_law_442 ?_
  refine j_ild13 dL_law_443 ?_
  refine j_xald (n := m) hN hl dL_law_445 rfl hm (by have := hn7; omega) ?_
  refine j_top (y := nI (v 0 m)) (h2.2.2.2.2.2.2 m hm) ?_
  refine j_icmpne 492 dL_law_446 (by decide) (fun c_446 => absurd c_446 (not_not_intro rfl)) (fun c_446 => ?_)
  refine j_ald1 dL_law_449 ?_
  refine j_ild6 dL_law_450 ?_
  refine j_iconst (0) dL_law_452 rfl ?_
  refine j_qlV2 dL_law_453 kX7_shown lL_130 rfl (by decide) rfl (Nat.le_of_ble_eq_true rfl) (Nat.le_of_ble_eq_true rfl) (by omega) (qm_shown h2 hg hc (Or.inl rfl)) (fun v2 S2 h3 => ?_)
  obtain ⟨rfl, h4⟩ := h3
  refine j_ald1 dL_law_456 ?_
  refine j_ild6 dL_law_457 ?_
  refine j_iconst (1) dL_law_459 rfl ?_
  refine j_qlV2 dL_law_460 kX7_shown lL_130 rfl (by decide) rfl (Nat.le_of_ble_eq_true rfl) (Nat.le_of_ble_eq_true rfl) (by omega) (qm_shown h4 hg hc (Or.inr rfl)) (fun v3 S3 h5 => ?_)
  obtain ⟨rfl, h6⟩ := h5
  refine j_cS2 dL_law_463 kL_of zL_of (Or.inl lL_134) (Nat.le_of_ble_eq_true rfl) (Nat.le_of_ble_eq_true rfl) (by omega) (s_L_of (A := lkA (mo1 v m) bb n c 1) (B := 60 * hatN (mo1 v m) n) d2.1) ?_
  refine j_dld7 dL_law_466 ?_
  refine j_dcmp dL_law_468 (d2.1) (d1.1) ?_
  refine j_ifle 492 dL_law_469 (by decide) (fun c_469 => absurd c_469 (Int32.not_le.mpr (cz_gt.mpr hpp))) (fun c_469 => ?_)
  refine j_ald1 dL_law_472 ?_
  refine j_ild13 dL_law_473 ?_
  refine j_iconst (0) dL_law_475 rfl ?_
  refine j_ald2 dL_law_476 ?_
  refine j_ild13 dL_law_477 ?_
  refine j_xald (n := m) hN hl dL_law_479 rfl hm (by have := hn7; omega) ?_
  refine j_top (y := nI (v 0 m)) (h6.2.2.2.2.2.2 m hm) ?_
  refine j_qiV3 dL_law_480 kX7_mend lL_105 rfl (by decide) rfl (Nat.le_of_ble_eq_true rfl) (Nat.le_of_ble_eq_true rfl) (by omega) (q_mend h6 hm (x := v 0 m) (by omega)) (fun v4 S4 h7 => ?_)
  obtain ⟨e7, h8⟩ := h7
  rw [up2_at] at e7
  subst e7
  rw [up2_back] at h8
  refine j_ald2 dL_law_483 ?_
  refine j_ild13 dL_law_484 ?_
  refine j_xald (n := m) hN hl dL_law_486 rfl hm (by have := hn7; omega) ?_
  refine j_top (y := nI (v 0 m)) (h8.2.2.2.2.2.2 m hm) ?_
  refine j_iconst (1) dL_law_487 rfl ?_
  refine j_iadd dL_law_488 ?_
  refine j_top (y := nI (v 0 m + 1)) (nI_1 (v 0 m)) ?_
  refine j_icmpeq 494 dL_law_489 (by decide) (fun c_489 => ?_) (fun c_489 => absurd (rfl) c_489)
  refine j_iinc6 (nI (c + 1)) dL_law_494 (nI_1 c) rfl (by decide) ?_
  refine j_goto 50 dL_law_497 (by decide) ?_
  refine j_cut [_, _, _, _, _, _, _] [_, _, _, _, _, _, _, _, _, _, _] ?_
  exact K _ h8

theorem law_385 {g : GG} (hR : HR a g) (hN : 61 < NC a) (hl : xl a 61 = n) (hn7 : n ≤ 7) (hg : GoodB bb) (hE : HE g a b Ls xs) (hL : Ls ≤ 260) {S : St} {c : Nat} (hc : c < 6) (h : LSr n v bb c S) {acc : UInt64} (K : ∀ S', LW0 n v bb S' → J a mL_law 100 g 50 [.ref b, .ref (a 0), .ref (a 61), .int (bi (hatN v n = 0)), .double acc, .null, .int (nI (c + 1)), .null, .null, .null, .null, .null, .null, .null, .null, .null, .null, .null] [] S') : J a mL_law 100 g 385 [.ref b, .ref (a 0), .ref (a 61), .int (bi (hatN v n = 0)), .double acc, .null, .int (nI c), .double (dq (lkA v bb n c 1) (60 * hatN v n)), .null, .null, .null, .null, .null, .null, .null, .null, .null, .null] [] S := by
  refine j_ald1 dL_law_385 ?_
  refine j_iconst (0) dL_law_386 rfl ?_
  refine j_qiV1 dL_law_387 kX7_cheated lL_162 rfl (by decide) rfl (Nat.le_of_ble_eq_true rfl) (Nat.le_of_ble_eq_true rfl) (by omega) (q_cheated hc hg h) (fun v1 S1 h1 => ?_)
  obtain ⟨rfl, h2⟩ := h1
  rcases mlF_is (W := fun i => lkA (mo1 v i) bb n c 1) (A := 60 * (hatN v n + 1)) (w0 := lkA v bb n c 1) (b0 := if hatN v n = 0 then 1 else 60 * hatN v n) (by omega) n with e | ⟨m, hm, e, hlt⟩
  · rw [e]
    exact law_390a hR hN hl hn7 hg hE hL h2 hc K
  · rw [e]
    exact law_390b hR hN hl hn7 hg hE hL h2 hc K hm hlt

theorem law_338 {g : GG} (hR : HR a g) (hN : 61 < NC a) (hl : xl a 61 = n) (hn7 : n ≤ 7) (hg : GoodB bb) (hE : HE g a b Ls xs) (hL : Ls ≤ 260) {S : St} (h : LW0 n v bb S) {c : Nat} (hc : c < 6) {acc : UInt64} (K : ∀ S', LW0 n v bb S' → J a mL_law 100 g 50 [.ref b, .ref (a 0), .ref (a 61), .int (bi (hatN v n = 0)), .double acc, .null, .int (nI (c + 1)), .null, .null, .null, .null, .null, .null, .null, .null, .null, .null, .null] [] S') : J a mL_law 100 g 338 [.ref b, .ref (a 0), .ref (a 61), .int (bi (hatN v n = 0)), .double acc, .null, .int (nI c), .double (dq (lkA v bb n c 1) (60 * hatN v n)), .null, .null, .null, .null, .null, .null, .null, .null, .null, .null] [] S := by
  have hv : ∀ i, i < 8 → v 0 i ≤ 9 := fun i hi => h.1.many9 hi
  have hh : hatN v n ≤ 63 := hat_le hv hn7
  have hmh := lk1_hat (v := v) (b := bb) (n := n) c
  have d1 := dq_in (A := lkA v bb n c 1) (B := 60 * hatN v n) (by omega) (by omega) hmh
  refine j_ald1 dL_law_338 ?_
  refine j_iconst (0) dL_law_339 rfl ?_
  refine j_iconst (0) dL_law_340 rfl ?_
  refine j_iconst (1) dL_law_341 rfl ?_
  refine j_qiV3 dL_law_342 kX7_row lL_152 rfl (by decide) rfl (Nat.le_of_ble_eq_true rfl) (Nat.le_of_ble_eq_true rfl) (by omega) (q_row h) (fun v1 S1 h1 => ?_)
  obtain ⟨rfl, h2, h3⟩ := h1
  refine j_iconst (1) dL_law_345 rfl ?_
  refine j_icmpne 383 dL_law_346 (by decide) (fun c_346 => absurd c_346 (not_not_intro rfl)) (fun c_346 => ?_)
  refine j_ald1 dL_law_349 ?_
  refine j_iconst (0) dL_law_350 rfl ?_
  refine j_iconst (0) dL_law_351 rfl ?_
  refine j_ild6 dL_law_352 ?_
  refine j_i2l dL_law_354 ?_
  refine j_qiV3 dL_law_355 kX7_put lL_155 rfl (by decide) rfl (Nat.le_of_ble_eq_true rfl) (Nat.le_of_ble_eq_true rfl) (by omega) (q_put hc h2 h3) (fun v2 S2 h4 => ?_)
  obtain ⟨rfl, h5⟩ := h4
  refine j_iconst (1) dL_law_358 rfl ?_
  refine j_icmpne 383 dL_law_359 (by decide) (fun c_359 => absurd c_359 (not_not_intro rfl)) (fun c_359 => ?_)
  refine j_ald1 dL_law_362 ?_
  refine j_iconst (0) dL_law_363 rfl ?_
  refine j_qiV1 dL_law_364 kX7_judge lL_159 rfl (by decide) rfl (Nat.le_of_ble_eq_true rfl) (Nat.le_of_ble_eq_true rfl) (by omega) (q_judge hc hg h5) (fun v3 S3 h6 => ?_)
  obtain ⟨rfl, h7⟩ := h6
  refine j_dld7 dL_law_367 ?_
  refine j_dconst0 dL_law_369 ?_
  refine j_dcmp dL_law_370 (d1.1) (d0_DF.1) ?_
  refine j_ifle 379 dL_law_371 (by decide) (fun c_371 => ?_) (fun c_371 => ?_)
  · have hM : lkA v bb n c 1 = 0 := (p_c0 hmh (by omega)).mp c_371
    rw [if_pos hM]
    refine j_iconst (0) dL_law_379 rfl ?_
    refine j_icmpeq 385 dL_law_380 (by decide) (fun c_380 => ?_) (fun c_380 => absurd (rfl) c_380)
    exact law_385 hR hN hl hn7 hg hE hL hc h7 K
  have hM : ¬ lkA v bb n c 1 = 0 := fun q => c_371 ((p_c0 hmh (by omega)).mpr q)
  rw [if_neg hM]
  refine j_bipush (-2) dL_law_374 rfl ?_
  refine j_goto 380 dL_law_376 (by decide) ?_
  refine j_icmpeq 385 dL_law_380 (by decide) (fun c_380 => ?_) (fun c_380 => absurd (rfl) c_380)
  exact law_385 hR hN hl hn7 hg hE hL hc h7 K

theorem law_232 {g : GG} (hR : HR a g) (hN : 61 < NC a) (hl : xl a 61 = n) (hn7 : n ≤ 7) (hg : GoodB bb) (hE : HE g a b Ls xs) (hL : Ls ≤ 260) {c : Nat} (hc : c < 6) {acc : UInt64} {S : St} (h : LW0 n v bb S) {w9 : Value} {k : Nat} (hk1 : 1 ≤ k) (hk5 : k < 5) {was : UInt64} (hw : WI v bb n c k was) (K2 : ∀ S' x', WI v bb n c (k + 1) x' → LW0 n v bb S' → J a mL_law 100 g 169 [.ref b, .ref (a 0), .ref (a 61), .int (bi (hatN v n = 0)), .double acc, .null, .int (nI c), .double (dq (lkA v bb n c 1) (60 * hatN v n)), .null, w9, .null, .double x', .null, .int (nI (k + 1)), .null, .null, .null, .null] [] S') {y : UInt64} {w16 : Value} (hy : Sp y (lkA v bb n c k) (Dn (lkA v bb n c k)) (2 * n)) : J a mL_law 100 g 232 [.ref b, .ref (a 0), .ref (a 61), .int (bi (hatN v n = 0)), .double acc, .null, .int (nI c), .double (dq (lkA v bb n c 1) (60 * hatN v n)), .null, w9, .null, .double was, .null, .int (nI k), .double y, .null, w16, .null] [] S := by
  have hv : ∀ i, i < 8 → v 0 i ≤ 9 := fun i hi => h.1.many9 hi
  have hh : hatN v n ≤ 63 := hat_le hv hn7
  have hmh := lk1_hat (v := v) (b := bb) (n := n) c
  have d1 := dq_in (A := lkA v bb n c 1) (B := 60 * hatN v n) (by omega) (by omega) hmh
  have ho : 0 < oneU := Int.mul_pos (by decide) uu_pos
  have hu := uu_pos
  have ai := ag_in (bb := bb) (c := c) hh (show k ≤ 5 by omega)
  have sbp : DF (FP.dsub (dq (lkA v bb n c 1) (60 * hatN v n)) (4472406533629990549 : UInt64)) ∧ zv (FP.dsub (dq (lkA v bb n c 1) (60 * hatN v n)) (4472406533629990549 : UInt64)) ≤ zv (dq (lkA v bb n c 1) (60 * hatN v n)) - 4397 * uu := subc d1.1 d1.2.1 (by have := d1.2.2.1; omega)
  have sbw : DF (FP.dsub was (4472406533629990549 : UInt64)) ∧ zv (FP.dsub was (4472406533629990549 : UInt64)) ≤ zv was - 4397 * uu := subc hw.1 hw.2.1 (by have := hw.2.2.1; omega)
  refine j_ald1 dL_law_232 ?_
  refine j_bipush (10) dL_law_233 rfl ?_
  refine j_ild6 dL_law_235 ?_
  refine j_imul dL_law_237 ?_
  refine j_top (y := nI (10 * c)) (pk_mul 10 c) ?_
  refine j_ild13 dL_law_238 ?_
  refine j_iadd dL_law_240 ?_
  refine j_top (y := nI (10 * c + k)) (nI_add _ _) ?_
  refine j_iconst (0) dL_law_241 rfl ?_
  refine j_qlV2 dL_law_242 kX7_again lL_149 rfl (by decide) rfl (Nat.le_of_ble_eq_true rfl) (Nat.le_of_ble_eq_true rfl) (by omega) (q_again h hg hc hk1 (by omega) (Or.inl rfl)) (fun v242 S242 h_242 => ?_)
  obtain ⟨rfl, h2⟩ := h_242
  refine j_ald1 dL_law_245 ?_
  refine j_bipush (10) dL_law_246 rfl ?_
  refine j_ild6 dL_law_248 ?_
  refine j_imul dL_law_250 ?_
  refine j_top (y := nI (10 * c)) (pk_mul 10 c) ?_
  refine j_ild13 dL_law_251 ?_
  refine j_iadd dL_law_253 ?_
  refine j_top (y := nI (10 * c + k)) (nI_add _ _) ?_
  refine j_iconst (1) dL_law_254 rfl ?_
  refine j_qlV2 dL_law_255 kX7_again lL_149 rfl (by decide) rfl (Nat.le_of_ble_eq_true rfl) (Nat.le_of_ble_eq_true rfl) (by omega) (q_again h2 hg hc hk1 (by omega) (Or.inr rfl)) (fun v255 S255 h_255 => ?_)
  obtain ⟨rfl, h3⟩ := h_255
  refine j_cS2 dL_law_258 kL_of zL_of (Or.inl lL_134) (Nat.le_of_ble_eq_true rfl) (Nat.le_of_ble_eq_true rfl) (by omega) (s_L_of (A := lkA v bb n c (k + 1)) (B := lkA v bb n c k * 60) ai.1) ?_
  refine j_dst16 dL_law_261 rfl (by decide) ?_
  refine j_dld7 dL_law_263 ?_
  refine j_dconst0 dL_law_265 ?_
  refine j_dcmp dL_law_266 (d1.1) (d0_DF.1) ?_
  refine j_ifle 312 dL_law_267 (by decide) (fun c_267 => ?_) (fun c_267 => ?_)
  · have hM : lkA v bb n c 1 = 0 := (p_c0 hmh (by omega)).mp c_267
    have hMk : lkA v bb n c k = 0 := by
      obtain ⟨j, rfl⟩ : ∃ j, k = j + 1 := ⟨k - 1, by omega⟩
      exact lk_z hM
    refine j_dld14 dL_law_312 ?_
    refine j_dconst0 dL_law_314 ?_
    refine j_dcmp dL_law_315 (hy.1.1) (d0_DF.1) ?_
    refine j_ifne 326 dL_law_316 (by decide) (fun c_316 => absurd c_316 (not_not_intro (cz_eq.mpr (by rw [d0_DF.2]; exact sp_is0 hy hMk)))) (fun c_316 => ?_)
    refine j_dld16 dL_law_319 ?_
    refine j_dconst0 dL_law_321 ?_
    refine j_dcmp dL_law_322 (ai.1) (d0_DF.1) ?_
    refine j_ifeq 328 dL_law_323 (by decide) (fun c_323 => ?_) (fun c_323 => absurd (cz_eq.mpr (by rw [d0_DF.2]; exact p_z (lk_z hM))) c_323)
    refine j_dld16 dL_law_328 ?_
    refine j_dst11 dL_law_330 rfl (by decide) ?_
    refine j_iinc13 (nI (k + 1)) dL_law_332 (nI_1 k) rfl (by decide) ?_
    refine j_goto 169 dL_law_335 (by decide) ?_
    refine j_cut [_, _, _, _, _, _, _, _, _, _, _, _, _, _] [_, _, _, _] ?_
    exact K2 _ _ (WI_s hh (by omega)) h3
  have hM : 0 < lkA v bb n c 1 := Nat.pos_of_ne_zero (fun q => c_267 ((p_c0 hmh (by omega)).mpr q))
  have i1 := sp_is1 hy (lk_pos hM) (by omega)
  refine j_dld14 dL_law_270 ?_
  refine j_cS1 dL_law_272 kL_isOne zL_isOne (Or.inl lL_141) (Nat.le_of_ble_eq_true rfl) (Nat.le_of_ble_eq_true rfl) (by omega) (s_L_isOne hy.1.1 i1.1 i1.2) ?_
  refine j_ifeq 326 dL_law_275 (by decide) (fun c_275 => absurd c_275 (by decide)) (fun c_275 => ?_)
  refine j_dld16 dL_law_278 ?_
  refine j_dld7 dL_law_280 ?_
  refine j_ldc2_wD (v := 4472406533629990549) dL_law_282 qL_113 ?_
  refine j_dsub dL_law_285 (sbp.1) ?_
  refine j_dcmp dL_law_286 (ai.1) (sbp.1) ?_
  refine j_iflt 326 dL_law_287 (by decide) (fun c_287 => absurd c_287 (fun z => absurd (cz_lt.mp z) (by have h5 : _ ≤ zv (dq (lkA v bb n c (k + 1)) (lkA v bb n c k * 60)) + _ := ag_p hh hM (k := k) (by omega); have := sbp.2; omega))) (fun c_287 => ?_)
  refine j_dld16 dL_law_290 ?_
  refine j_dld11 dL_law_292 ?_
  refine j_ldc2_wD (v := 4472406533629990549) dL_law_294 qL_113 ?_
  refine j_dsub dL_law_297 (sbw.1) ?_
  refine j_dcmp dL_law_298 (ai.1) (sbw.1) ?_
  refine j_iflt 326 dL_law_299 (by decide) (fun c_299 => absurd c_299 (fun z => absurd (cz_lt.mp z) (by have h5 : _ ≤ zv (dq (lkA v bb n c (k + 1)) (lkA v bb n c k * 60)) + _ := hw.2.2.2 hM; have := sbw.2; omega))) (fun c_299 => ?_)
  refine j_dld16 dL_law_302 ?_
  refine j_dconst1 dL_law_304 ?_
  refine j_dcmp dL_law_305 (ai.1) (d1_DF.1) ?_
  refine j_ifle 328 dL_law_306 (by decide) (fun c_306 => ?_) (fun c_306 => absurd (Int32.not_lt.mp (fun z => absurd (cz_gt.mp z) (by rw [d1_DF.2]; exact Int.not_lt.mpr ai.2.2))) c_306)
  refine j_dld16 dL_law_328 ?_
  refine j_dst11 dL_law_330 rfl (by decide) ?_
  refine j_iinc13 (nI (k + 1)) dL_law_332 (nI_1 k) rfl (by decide) ?_
  refine j_goto 169 dL_law_335 (by decide) ?_
  refine j_cut [_, _, _, _, _, _, _, _, _, _, _, _, _, _] [_, _, _, _] ?_
  exact K2 _ _ (WI_s hh (by omega)) h3

set_option maxRecDepth 20000 in
theorem law_181 {g : GG} (hR : HR a g) (hN : 61 < NC a) (hl : xl a 61 = n) (hn7 : n ≤ 7) (hg : GoodB bb) (hE : HE g a b Ls xs) (hL : Ls ≤ 260) {c : Nat} (hc : c < 6) {acc : UInt64} {w9 : Value} {k : Nat} (hk1 : 1 ≤ k) (hk5 : k < 5) {was : UInt64} (hw : WI v bb n c k was) (K2 : ∀ S' x', WI v bb n c (k + 1) x' → LW0 n v bb S' → J a mL_law 100 g 169 [.ref b, .ref (a 0), .ref (a 61), .int (bi (hatN v n = 0)), .double acc, .null, .int (nI c), .double (dq (lkA v bb n c 1) (60 * hatN v n)), .null, w9, .null, .double x', .null, .int (nI (k + 1)), .null, .null, .null, .null] [] S') : ∀ (fu : Nat) (i : Nat) (y : UInt64) (S : St), n - i < fu → (i ≤ n) → (Sp y (sumN (fun i => lkO v bb i c k) i) (Dn (lkA v bb n c k)) (2 * i)) → (LW0 n v bb S) → J a mL_law 100 g 181 [.ref b, .ref (a 0), .ref (a 61), .int (bi (hatN v n = 0)), .double acc, .null, .int (nI c), .double (dq (lkA v bb n c 1) (60 * hatN v n)), .null, w9, .null, .double was, .null, .int (nI k), .double y, .null, .int (nI i), .null] [] S := by
  intro fu
  induction fu with
  | zero => intro i y S hk; exact absurd hk (Nat.not_lt_zero _)
  | succ fu ih =>
    intro i y S hk hi hy h
    have hv : ∀ i, i < 8 → v 0 i ≤ 9 := fun i hi => h.1.many9 hi
    have hh : hatN v n ≤ 63 := hat_le hv hn7
    refine j_ild16 dL_law_181 ?_
    refine j_ald2 dL_law_183 ?_
    refine j_xlen hN hl dL_law_184 rfl ?_
    refine j_icmpge 232 dL_law_185 (by decide) (fun c_185 => ?_) (fun c_185 => ?_)
    · have q_185 : i = n := by have := (nI_leI (a := n) (b := i) (by omega) (by omega)).mp c_185; omega
      rw [q_185] at hy
      exact law_232 hR hN hl hn7 hg hE hL hc h hk1 hk5 hw K2 hy
    have q_185 : i < n := Nat.not_le.mp (fun z => c_185 ((nI_leI (a := n) (b := i) (by omega) (by omega)).mpr z))
    have hd := dqs (A := lkO v bb i c k) (B := lkA v bb n c k) (lkO_A q_185) (by have := lk_b6 (bb := bb) (c := c) hh (show k ≤ 6 by omega); omega)
    have hy2 := sps (f := fun i => lkO v bb i c k) hy hd (fun j hj => lkO_A (by omega)) (lkO_A q_185) (by omega)
    refine j_dld14 dL_law_188 ?_
    refine j_ald1 dL_law_190 ?_
    refine j_ild16 dL_law_191 ?_
    refine j_bipush (10) dL_law_193 rfl ?_
    refine j_ild6 dL_law_195 ?_
    refine j_imul dL_law_197 ?_
    refine j_top (y := nI (10 * c)) (pk_mul 10 c) ?_
    refine j_ild13 dL_law_198 ?_
    refine j_iadd dL_law_200 ?_
    refine j_top (y := nI (10 * c + k)) (nI_add _ _) ?_
    refine j_iconst (0) dL_law_201 rfl ?_
    refine j_qlV3 dL_law_202 kX7_which lL_145 rfl (by decide) rfl (Nat.le_of_ble_eq_true rfl) (Nat.le_of_ble_eq_true rfl) (by omega) (q_which h hg q_185 hc hk1 (by omega) (Or.inl rfl)) (fun v1 S1 h1 => ?_)
    obtain ⟨rfl, h2⟩ := h1
    refine j_ald1 dL_law_205 ?_
    refine j_ild16 dL_law_206 ?_
    refine j_bipush (10) dL_law_208 rfl ?_
    refine j_ild6 dL_law_210 ?_
    refine j_imul dL_law_212 ?_
    refine j_top (y := nI (10 * c)) (pk_mul 10 c) ?_
    refine j_ild13 dL_law_213 ?_
    refine j_iadd dL_law_215 ?_
    refine j_top (y := nI (10 * c + k)) (nI_add _ _) ?_
    refine j_iconst (1) dL_law_216 rfl ?_
    refine j_qlV3 dL_law_217 kX7_which lL_145 rfl (by decide) rfl (Nat.le_of_ble_eq_true rfl) (Nat.le_of_ble_eq_true rfl) (by omega) (q_which h2 hg q_185 hc hk1 (by omega) (Or.inr rfl)) (fun v2 S2 h3 => ?_)
    obtain ⟨rfl, h4⟩ := h3
    refine j_cS2 dL_law_220 kL_of zL_of (Or.inl lL_134) (Nat.le_of_ble_eq_true rfl) (Nat.le_of_ble_eq_true rfl) (by omega) (s_L_of (A := lkO v bb i c k) (B := lkA v bb n c k) hd.1.1) ?_
    refine j_dadd dL_law_223 (hy2.1.1) ?_
    refine j_dst14 dL_law_224 rfl (by decide) ?_
    refine j_iinc16 (nI (i + 1)) dL_law_226 (nI_1 i) rfl (by decide) ?_
    refine j_goto 181 dL_law_229 (by decide) ?_
    exact ih (i + 1) _ _ (by omega) (by omega) hy2 h4

set_option maxRecDepth 20000 in
theorem law_169 {g : GG} (hR : HR a g) (hN : 61 < NC a) (hl : xl a 61 = n) (hn7 : n ≤ 7) (hg : GoodB bb) (hE : HE g a b Ls xs) (hL : Ls ≤ 260) {c : Nat} (hc : c < 6) {acc : UInt64} (K : ∀ S', LW0 n v bb S' → J a mL_law 100 g 50 [.ref b, .ref (a 0), .ref (a 61), .int (bi (hatN v n = 0)), .double acc, .null, .int (nI (c + 1)), .null, .null, .null, .null, .null, .null, .null, .null, .null, .null, .null] [] S') {w9 : Value} : ∀ (fu : Nat) (k : Nat) (was : UInt64) (S : St), 5 - k < fu → (1 ≤ k) → (k ≤ 5) → (WI v bb n c k was) → (LW0 n v bb S) → J a mL_law 100 g 169 [.ref b, .ref (a 0), .ref (a 61), .int (bi (hatN v n = 0)), .double acc, .null, .int (nI c), .double (dq (lkA v bb n c 1) (60 * hatN v n)), .null, w9, .null, .double was, .null, .int (nI k), .null, .null, .null, .null] [] S := by
  intro fu
  induction fu with
  | zero => intro k was S hk; exact absurd hk (Nat.not_lt_zero _)
  | succ fu ih =>
    intro k was S hk hk hk5 hw h
    refine j_ild13 dL_law_169 ?_
    refine j_iconst (5) dL_law_171 rfl ?_
    refine j_icmpge 338 dL_law_172 (by decide) (fun c_172 => ?_) (fun c_172 => ?_)
    · refine j_cut [_, _, _, _, _, _, _, _, _] [_, _, _, _, _, _, _, _, _] ?_
      exact law_338 hR hN hl hn7 hg hE hL h hc K
    have q_172 : k < 5 := Nat.not_le.mp (fun z => c_172 ((nI_leI (a := 5) (b := k) (by decide) (by omega)).mpr z))
    refine j_dconst0 dL_law_175 ?_
    refine j_dst14 dL_law_176 rfl (by decide) ?_
    refine j_iconst (0) dL_law_178 rfl ?_
    refine j_ist16 dL_law_179 rfl (by decide) ?_
    exact law_181 hR hN hl hn7 hg hE hL hc hk q_172 hw (fun S2 x2 hx2 h2 => ih (k + 1) x2 S2 (by omega) (by omega) (by omega) hx2 h2) (n + 1) 0 0 S (by omega) (Nat.zero_le _) (sp_0 _) h

set_option maxRecDepth 20000 in
theorem law_89 {g : GG} (hR : HR a g) (hN : 61 < NC a) (hl : xl a 61 = n) (hn7 : n ≤ 7) (hg : GoodB bb) (hE : HE g a b Ls xs) (hL : Ls ≤ 260) {c : Nat} (hc : c < 6) {acc : UInt64} (K : ∀ S', LW0 n v bb S' → J a mL_law 100 g 50 [.ref b, .ref (a 0), .ref (a 61), .int (bi (hatN v n = 0)), .double acc, .null, .int (nI (c + 1)), .null, .null, .null, .null, .null, .null, .null, .null, .null, .null, .null] [] S') : ∀ (fu : Nat) (d : Nat) (y : UInt64) (S : St), 6 - d < fu → (d ≤ 6) → (Sp y (sumN (fun d => lbA v bb n c d) d) (Dn (lkA v bb n c 1)) (2 * d)) → (LW0 n v bb S) → J a mL_law 100 g 89 [.ref b, .ref (a 0), .ref (a 61), .int (bi (hatN v n = 0)), .double acc, .null, .int (nI c), .double (dq (lkA v bb n c 1) (60 * hatN v n)), .null, .double y, .null, .int (nI d), .null, .null, .null, .null, .null, .null] [] S := by
  intro fu
  induction fu with
  | zero => intro d y S hk; exact absurd hk (Nat.not_lt_zero _)
  | succ fu ih =>
    intro d y S hk hd hy h
    have hv : ∀ i, i < 8 → v 0 i ≤ 9 := fun i hi => h.1.many9 hi
    have hh : hatN v n ≤ 63 := hat_le hv hn7
    have hmh := lk1_hat (v := v) (b := bb) (n := n) c
    have d1 := dq_in (A := lkA v bb n c 1) (B := 60 * hatN v n) (by omega) (by omega) hmh
    have h1 : ∀ i, i < n → v 1 i < 6 := fun i hi => Nat.lt_succ_of_le (h.1.2.2.2 1 (by decide) i (by omega))
    have h2 : ∀ i, i < n → v 2 i < 6 := fun i hi => Nat.lt_succ_of_le (h.1.2.2.2 2 (by decide) i (by omega))
    have hs6 := lbA_sum (v := v) (b := bb) (n := n) (c := c) h1 h2
    refine j_ild11 dL_law_89 ?_
    refine j_bipush (6) dL_law_91 rfl ?_
    refine j_icmpge 136 dL_law_93 (by decide) (fun c_93 => ?_) (fun c_93 => ?_)
    · have q_93 : d = 6 := by have := (nI_leI (a := 6) (b := d) (by decide) (by omega)).mp c_93; omega
      rw [q_93, hs6] at hy
      refine j_dld7 dL_law_136 ?_
      refine j_dconst0 dL_law_138 ?_
      refine j_dcmp dL_law_139 (d1.1) (d0_DF.1) ?_
      refine j_ifle 154 dL_law_140 (by decide) (fun c_140 => ?_) (fun c_140 => ?_)
      · have hM : lkA v bb n c 1 = 0 := (p_c0 hmh (by omega)).mp c_140
        refine j_dld9 dL_law_154 ?_
        refine j_dconst0 dL_law_156 ?_
        refine j_dcmp dL_law_157 (hy.1.1) (d0_DF.1) ?_
        refine j_ifeq 163 dL_law_158 (by decide) (fun c_158 => ?_) (fun c_158 => absurd (cz_eq.mpr (by rw [d0_DF.2]; exact sp_is0 hy hM)) c_158)
        refine j_dconst0 dL_law_163 ?_
        refine j_dst11 dL_law_164 rfl (by decide) ?_
        refine j_iconst (1) dL_law_166 rfl ?_
        refine j_ist13 dL_law_167 rfl (by decide) ?_
        exact law_169 hR hN hl hn7 hg hE hL hc K 5 1 _ _ (by decide) (by decide) (by decide) (WI_0 hh) h
      have hM : 0 < lkA v bb n c 1 := Nat.pos_of_ne_zero (fun q => c_140 ((p_c0 hmh (by omega)).mpr q))
      have i1 := sp_is1 hy hM (by decide)
      refine j_dld9 dL_law_143 ?_
      refine j_cS1 dL_law_145 kL_isOne zL_isOne (Or.inl lL_141) (Nat.le_of_ble_eq_true rfl) (Nat.le_of_ble_eq_true rfl) (by omega) (s_L_isOne hy.1.1 i1.1 i1.2) ?_
      refine j_ifne 163 dL_law_148 (by decide) (fun c_148 => ?_) (fun c_148 => absurd (by decide) c_148)
      refine j_dconst0 dL_law_163 ?_
      refine j_dst11 dL_law_164 rfl (by decide) ?_
      refine j_iconst (1) dL_law_166 rfl ?_
      refine j_ist13 dL_law_167 rfl (by decide) ?_
      exact law_169 hR hN hl hn7 hg hE hL hc K 5 1 _ _ (by decide) (by decide) (by decide) (WI_0 hh) h
    have q_93 : d < 6 := Nat.not_le.mp (fun z => c_93 ((nI_leI (a := 6) (b := d) (by decide) (by omega)).mpr z))
    have hd := dqs (A := lbA v bb n c d) (B := lkA v bb n c 1) (lbA_A q_93 h1 h2) (by omega)
    have hy2 := sps (f := fun d => lbA v bb n c d) hy hd (fun j hj => lbA_A (by omega) h1 h2) (lbA_A q_93 h1 h2) (by omega)
    refine j_dld9 dL_law_96 ?_
    refine j_ald1 dL_law_98 ?_
    refine j_bipush (10) dL_law_99 rfl ?_
    refine j_ild6 dL_law_101 ?_
    refine j_imul dL_law_103 ?_
    refine j_top (y := nI (10 * c)) (pk_mul 10 c) ?_
    refine j_ild11 dL_law_104 ?_
    refine j_iadd dL_law_106 ?_
    refine j_top (y := nI (10 * c + d)) (nI_add _ _) ?_
    refine j_iconst (0) dL_law_107 rfl ?_
    refine j_qlV2 dL_law_108 kX7_other lL_138 rfl (by decide) rfl (Nat.le_of_ble_eq_true rfl) (Nat.le_of_ble_eq_true rfl) (by omega) (q_other h hg hc q_93 (Or.inl rfl)) (fun v3 S3 h3 => ?_)
    obtain ⟨rfl, h4⟩ := h3
    refine j_ald1 dL_law_111 ?_
    refine j_bipush (10) dL_law_112 rfl ?_
    refine j_ild6 dL_law_114 ?_
    refine j_imul dL_law_116 ?_
    refine j_top (y := nI (10 * c)) (pk_mul 10 c) ?_
    refine j_ild11 dL_law_117 ?_
    refine j_iadd dL_law_119 ?_
    refine j_top (y := nI (10 * c + d)) (nI_add _ _) ?_
    refine j_iconst (1) dL_law_120 rfl ?_
    refine j_qlV2 dL_law_121 kX7_other lL_138 rfl (by decide) rfl (Nat.le_of_ble_eq_true rfl) (Nat.le_of_ble_eq_true rfl) (by omega) (q_other h4 hg hc q_93 (Or.inr rfl)) (fun v5 S5 h5 => ?_)
    obtain ⟨rfl, h6⟩ := h5
    refine j_cS2 dL_law_124 kL_of zL_of (Or.inl lL_134) (Nat.le_of_ble_eq_true rfl) (Nat.le_of_ble_eq_true rfl) (by omega) (s_L_of (A := lbA v bb n c d) (B := lkA v bb n c 1) hd.1.1) ?_
    refine j_dadd dL_law_127 (hy2.1.1) ?_
    refine j_dst9 dL_law_128 rfl (by decide) ?_
    refine j_iinc11 (nI (d + 1)) dL_law_130 (nI_1 d) rfl (by decide) ?_
    refine j_goto 89 dL_law_133 (by decide) ?_
    exact ih (d + 1) _ _ (by omega) (by omega) hy2 h6

set_option maxRecDepth 20000 in
theorem law_50 {g : GG} (hR : HR a g) (hN : 61 < NC a) (hl : xl a 61 = n) (hn7 : n ≤ 7) (hg : GoodB bb) (hE : HE g a b Ls xs) (hL : Ls ≤ 260) : ∀ (fu : Nat) (c : Nat) (acc : UInt64) (S : St), 6 - c < fu → (c ≤ 6) → (Sp acc (sumN (fun c => lkA v bb n c 1) c) (Dn (60 * hatN v n)) (2 * c)) → (LW0 n v bb S) → J a mL_law 100 g 50 [.ref b, .ref (a 0), .ref (a 61), .int (bi (hatN v n = 0)), .double acc, .null, .int (nI c), .null, .null, .null, .null, .null, .null, .null, .null, .null, .null, .null] [] S := by
  intro fu
  induction fu with
  | zero => intro c acc S hk; exact absurd hk (Nat.not_lt_zero _)
  | succ fu ih =>
    intro c acc S hk hc6 hy h
    have hv : ∀ i, i < 8 → v 0 i ≤ 9 := fun i hi => h.1.many9 hi
    have hh : hatN v n ≤ 63 := hat_le hv hn7
    have hmh := lk1_hat (v := v) (b := bb) (n := n) c
    have d1 := dq_in (A := lkA v bb n c 1) (B := 60 * hatN v n) (by omega) (by omega) hmh
    have h1 : ∀ i, i < n → v 1 i < 6 := fun i hi => Nat.lt_succ_of_le (h.1.2.2.2 1 (by decide) i (by omega))
    have h2 : ∀ i, i < n → v 2 i < 6 := fun i hi => Nat.lt_succ_of_le (h.1.2.2.2 2 (by decide) i (by omega))
    have hs6 := lkA_sum (v := v) (b := bb) (n := n) h1 h2
    refine j_ild6 dL_law_50 ?_
    refine j_bipush (6) dL_law_52 rfl ?_
    refine j_icmpge 500 dL_law_54 (by decide) (fun c_54 => ?_) (fun c_54 => ?_)
    · have q_54 : c = 6 := by have := (nI_leI (a := 6) (b := c) (by decide) (by omega)).mp c_54; omega
      rw [q_54, hs6] at hy
      have hall : AllOk n v acc := ⟨hy.1.1, fun z => sp_is0 hy (by omega), fun q => sp_is1 hy (by omega) (by decide)⟩
      refine j_cut [_, _, _, _, _, _] [_, _, _, _, _, _, _, _, _, _, _, _] ?_
      exact law_500 hR hN hl hn7 hg hE hL hall h
    have q_54 : c < 6 := Nat.not_le.mp (fun z => c_54 ((nI_leI (a := 6) (b := c) (by decide) (by omega)).mpr z))
    have hd := dqs (A := lkA v bb n c 1) (B := 60 * hatN v n) hmh (by omega)
    have hy2 := sps (f := fun c => lkA v bb n c 1) hy hd (fun j hj => lk1_hat j) hmh (by omega)
    refine j_ald1 dL_law_57 ?_
    refine j_ild6 dL_law_58 ?_
    refine j_iconst (0) dL_law_60 rfl ?_
    refine j_qlV2 dL_law_61 kX7_shown lL_130 rfl (by decide) rfl (Nat.le_of_ble_eq_true rfl) (Nat.le_of_ble_eq_true rfl) (by omega) (q_shown h hg q_54 (Or.inl rfl)) (fun v3 S3 h3 => ?_)
    obtain ⟨rfl, h4⟩ := h3
    refine j_ald1 dL_law_64 ?_
    refine j_ild6 dL_law_65 ?_
    refine j_iconst (1) dL_law_67 rfl ?_
    refine j_qlV2 dL_law_68 kX7_shown lL_130 rfl (by decide) rfl (Nat.le_of_ble_eq_true rfl) (Nat.le_of_ble_eq_true rfl) (by omega) (q_shown h4 hg q_54 (Or.inr rfl)) (fun v5 S5 h5 => ?_)
    obtain ⟨rfl, h6⟩ := h5
    refine j_cS2 dL_law_71 kL_of zL_of (Or.inl lL_134) (Nat.le_of_ble_eq_true rfl) (Nat.le_of_ble_eq_true rfl) (by omega) (s_L_of (A := lkA v bb n c 1) (B := 60 * hatN v n) hd.1.1) ?_
    refine j_dst7 dL_law_74 rfl (by decide) ?_
    refine j_dld4 dL_law_76 ?_
    refine j_dld7 dL_law_78 ?_
    refine j_dadd dL_law_80 (hy2.1.1) ?_
    refine j_dst4 dL_law_81 rfl (by decide) ?_
    refine j_dconst0 dL_law_83 ?_
    refine j_dst9 dL_law_84 rfl (by decide) ?_
    refine j_iconst (0) dL_law_86 rfl ?_
    refine j_ist11 dL_law_87 rfl (by decide) ?_
    exact law_89 hR hN hl hn7 hg hE hL q_54 (fun S7 h7 => ih (c + 1) _ S7 (by omega) (by omega) hy2 h7) 7 0 0 _ (by decide) (by decide) (sp_0 _) h6

end Col
