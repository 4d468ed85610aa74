/-! the law, from behind: cards drawn in deed -/

abbrev mL_law : MI := (yL_law, code, 18, ret)
/-- where the law ends -/
abbrev HR (a : Nat → Nat) (g : GG) : Prop := ∀ (pc : Nat) (L : List Value) (S : St), decode code pc = .ok (.ireturn, 1) → J a mL_law 100 g pc L [.int 1] S
theorem j_cut {a : Nat → Nat} {mi : MI} {d : Nat} {g : GG} {pc : Nat} {st : List Value} {S : St} (A B : List Value) (k : J a mi d g pc (A ++ B.map (fun _ => .null)) st S) : J a mi d g pc (A ++ B) st S := by
  refine j_less (fun i w h hn => ?_) k
  rw [List.getElem?_append] at h ⊢
  split at h
  · next q => rw [if_pos q]; exact h
  · next q =>
    rw [List.getElem?_map] at h
    cases e : B[i - A.length]? with
    | none => rw [e] at h; cases h
    | some y => rw [e] at h; cases h; exact absurd rfl hn
/-- k cards lie aside -/
def DI (n : Nat) (v : Nat → Nat → Nat) (bb : Option (List Line)) (k : Nat) (S : St) : Prop := ∃ v' as ld l, TC n v' S ∧ (∃ kk u h, HC kk u h S) ∧ DCb as ld l S ∧ (∃ im, ImC im S) ∧ LawC bb S ∧ (∀ i, i < n → S.1 61 i = nI (v 0 i)) ∧ (∀ i, i < n → v' 0 i + as i = v 0 i) ∧ (∀ i, n ≤ i → as i = 0) ∧ sumN as 8 = k ∧ hatN v' n + k = hatN v n
theorem dec_hat {h k : Nat} (hk : k < h) : nI (h - k) + Int32.ofInt (-1) = nI (h - (k + 1)) := by
  rw [show h - k = h - (k + 1) + 1 by omega]
  exact pk_m1 _
section Tail
variable {a : Nat → Nat} {S : St} {n b Ls : Nat} {v : Nat → Nat → Nat} {bb : Option (List Line)} {xs : Nat → Int32}
theorem DI_0 (h : LW0 n v bb S) : DI n v bb 0 S := by
  obtain ⟨h1, h2, ⟨ld, l, h3⟩, h4, -, h8, h9⟩ := h
  exact ⟨v, fun _ => 0, ld, l, h1, h2, h3, h4, h8, h9, fun i _ => rfl, fun i _ => rfl, rfl, rfl⟩
theorem sum_up {f : Nat → Nat} {d x : Nat} : ∀ m, d < m → sumN (up1 f d x) m + f d = sumN f m + x
  | 0, h => absurd h (Nat.not_lt_zero _)
  | m + 1, h => by
    simp only [sumN]
    by_cases e : d = m
    · subst e
      have h1 : sumN (up1 f d x) d = sumN f d := sumN_congr (fun k hk => by unfold up1; rw [if_neg (by omega)])
      have h2 : up1 f d x d = x := by unfold up1; rw [if_pos rfl]
      rw [h1, h2]; omega
    · have ih := sum_up (f := f) (d := d) (x := x) m (by omega)
      have h2 : up1 f d x m = f m := by unfold up1; rw [if_neg (fun z => e z.symm)]
      rw [h2]; omega
theorem q_draw (hg : GoodB bb) {k : Nat} (h : DI n v bb k S) (hk : k < hatN v n) (x : Int32) : Rqi a mX7_draw 6 [.ref (a 0), .int x] S fun z S' => (∃ m, m ≤ 55 ∧ z = nI m) ∧ DI n v bb (k + 1) S' := by
  obtain ⟨v', as, ld, l, h1, ⟨kk, u, hh, h2⟩, h3, ⟨im, h4⟩, h5, h6, h7, h8, h9, h10⟩ := h
  have h0 : 0 < sumN (v' 0) n := by
    show 0 < hatN v' n
    omega
  refine Rqi.up (s_X7_draw (x := x) h1 h5 hg h2 h3 h4 h0) (Nat.le_refl _) (fun z S1 e => ?_)
  obtain ⟨e1, hkp, e2, e3, e4, e5⟩ := e
  have hdc := dcd_ok (s := x) h0
  have hn8 := h1.2.1
  have c1 : ∀ w i, w = 1 ∨ w = 2 → i < 8 → v' w i ≤ 5 := fun w i hw hi => by
    have := h1.2.2.2 w (by omega) i hi
    rcases hw with rfl | rfl <;> exact this
  refine ⟨⟨shwN v' bb n x, ?_, e1⟩, ?_⟩
  · unfold shwN
    have d2 := dsd_2 v' bb (dcd v' n x) (rnd x)
    have a1 := c1 (1 + dsd v' bb (dcd v' n x) (rnd x)) (dcd v' n x) (by omega) (by omega)
    have a2 := c1 (2 - dsd v' bb (dcd v' n x) (rnd x)) (dcd v' n x) (by omega) (by omega)
    omega
  · generalize dcd v' n x = d at *
    have hp : 0 < v' 0 d := hdc.2
    refine ⟨_, _, _, _, e2, ⟨kk, u, hh, e3⟩, e4, ⟨im, e5⟩, h5.kp hkp (by decide), fun i hi => (hkp.i (show rg 61 i ∉ [1, 4, 5, 8] from (by show ¬ (0 ∈ [1, 4, 5, 8]); decide))).trans (h6 i hi), fun i hi => ?_, fun i hi => ?_, ?_, ?_⟩
    · unfold up2 up1
      have := h7 i hi
      by_cases e : i = d
      · subst e
        rw [if_pos ⟨rfl, rfl⟩, if_pos rfl]
        omega
      · rw [if_neg (fun z => e z.2), if_neg e]
        exact this
    · unfold up1
      rw [if_neg (by omega)]
      exact h8 i hi
    · have := sum_up (f := as) (d := d) (x := as d + 1) 8 (by omega)
      omega
    · have hu : hatN (up2 v' 0 d (v' 0 d - 1)) n = sumN (up1 (v' 0) d (v' 0 d - 1)) n := by
        unfold hatN
        refine sumN_congr (fun i _ => ?_)
        unfold up2 up1
        by_cases e : i = d
        · rw [if_pos ⟨rfl, e⟩, if_pos e]
        · rw [if_neg (fun z => e z.2), if_neg e]
      have := sum_up (f := v' 0) (d := d) (x := v' 0 d - 1) n (by omega)
      rw [hu]
      unfold hatN at *
      omega
theorem DI_as {k : Nat} (h : DI n v bb k S) (hv : ∀ i, i < 8 → v 0 i ≤ 9) : ∃ as ld l, DCb as ld l S ∧ (∀ i, i < 8 → as i ≤ 2 ^ 20) ∧ sumN as 8 = k := by
  obtain ⟨v', as, ld, l, h1, -, h3, -, h5, h6, h7, h8, h9, h10⟩ := h
  refine ⟨as, ld, l, h3, fun i hi => ?_, h9⟩
  by_cases e : i < n
  · have := h7 i e
    have := hv i hi
    omega
  · rw [h8 i (by omega)]
    exact Nat.zero_le _
theorem q_count1 {k : Nat} (h : DI n v bb k S) (hv : ∀ i, i < 8 → v 0 i ≤ 9) : Rt a mX7_count 2 [.ref (a 0), .int 1] S (some (.int (nI k))) S := by
  obtain ⟨as, ld, l, h1, h2, h3⟩ := DI_as h hv
  have := s_X7_count (a := a) (x := 1) h1 h2
  rw [h3] at this
  exact this
theorem q_hatk {k : Nat} (h : DI n v bb k S) : Rt a mX7_of 2 [.ref (a 0), .int 0, .int 15] S (some (.int (nI (hatN v n - k)))) S := by
  obtain ⟨v', as, ld, l, h1, -, h3, -, h5, h6, h7, h8, h9, h10⟩ := h
  have := q_hat0 (a := a) h1
  rw [show hatN v' n = hatN v n - k by omega] at this
  exact this
theorem q_putBack {k : Nat} (h : DI n v bb k S) (hv : ∀ i, i < 8 → v 0 i ≤ 9) : Rqi a mX7_putBack 4 [.ref (a 0)] S fun z S' => z = nI k ∧ ∃ v', TC n v' S' ∧ hatN v' n = hatN v n ∧ LawC bb S' ∧ ∀ i, i < n → S'.1 61 i = nI (v 0 i) := by
  obtain ⟨as0, ld0, l0, g1, g2, g3⟩ := DI_as h hv
  obtain ⟨v', as, ld, l, h1, ⟨kk, u, hh, h2⟩, h3, ⟨im, h4⟩, h5, h6, h7, h8, h9, h10⟩ := h
  have hn8 := h1.2.1
  have ha : ∀ i, i < 8 → as i ≤ 2 ^ 20 := fun i hi => by
    by_cases e : i < n
    · have := h7 i e
      have := hv i hi
      omega
    · rw [h8 i (by omega)]
      exact Nat.zero_le _
  refine Rqi.up (s_X7_putBack h1 h2 h3 h4 ha) (Nat.le_refl _) (fun z S1 e => ?_)
  obtain ⟨e1, e2, e3, e4, e5, hkp⟩ := e
  refine ⟨by rw [e1, h9], _, e2, ?_, h5.kp hkp (by decide), fun i hi => (hkp.i (show rg 61 i ∉ [1, 5] from (by show ¬ (0 ∈ [1, 5]); decide))).trans (h6 i hi)⟩
  unfold hatN
  refine sumN_congr (fun i hi => ?_)
  unfold seg mn9
  rw [if_pos ⟨rfl, by omega⟩, h7 i hi]
  have := hv i (by omega)
  split <;> omega
theorem q_drawn (hg : GoodB bb) {v' : Nat → Nat → Nat} (h : TC n v' S) (hl : LawC bb S) : Rqi a mX7_drawn 6 [.ref (a 0), .int 9, .int 20, .int 0] S fun z _ => z ≤ 20 := by
  refine Rqi.up (s_X7_drawn_ok (x := 9) (y := 20) (z := 0) h hl hg (by decide)) (Nat.le_refl _) (fun z S1 e => ?_)
  rw [e.1, dnV]
  split
  · decide
  · refine (nI_leI (a := dnF v' bb n (0 : Int32).toNatClampNeg 9 (20 : Int32).toNatClampNeg) (b := 20) (Nat.lt_of_le_of_lt (dnF_le _ _ _ _ _ _) (by decide)) (by decide)).mpr (Nat.le_trans (dnF_le _ _ _ _ _ _) (by decide))

theorem law_empty {g : GG} (hR : HR a g) (hN : 61 < NC a) (hl : xl a 61 = n) (hn7 : n ≤ 7) (hg : GoodB bb) {S : St} (h : LW0 n v bb S) (h0 : hatN v n = 0) : J a mL_law 100 g 1388 [.ref b, .ref (a 0), .ref (a 61), .int (bi (hatN v n = 0)), .null, .null, .null, .null, .null, .null, .null, .null, .null, .null, .null, .null, .null, .null] [] S := by
  refine j_ald1 dL_law_1388 ?_
  refine j_iconst (1) dL_law_1389 rfl ?_
  refine j_cV1 dL_law_1390 kX7_draw lL_188 rfl (by decide) rfl (Nat.le_of_ble_eq_true rfl) (Nat.le_of_ble_eq_true rfl) (by omega) (s_X7_draw_0 h.1 h0) ?_
  refine j_bipush (-5) dL_law_1393 rfl ?_
  refine j_icmpne 1402 dL_law_1395 (by decide) (fun c_1395 => absurd c_1395 (not_not_intro rfl)) (fun c_1395 => ?_)
  refine j_iconst (1) dL_law_1398 rfl ?_
  refine j_goto 1403 dL_law_1399 (by decide) ?_
  exact hR _ _ _ dL_law_1403

theorem law_1486 {g : GG} (hR : HR a g) (hN : 61 < NC a) (hl : xl a 61 = n) (hn7 : n ≤ 7) (hg : GoodB bb) {S : St} {w14 w15 w16 w17 : Value} {k : Nat} (h : DI n v bb k S) (hv : ∀ i, i < 8 → v 0 i ≤ 9) (hk : 0 < k) (hk5 : k ≤ 5) : J a mL_law 100 g 1486 [.ref b, .ref (a 0), .ref (a 61), .int (bi (hatN v n = 0)), .null, .null, .null, .null, .null, .null, .null, .null, .null, .null, w14, w15, w16, w17] [] S := by
  have hh := hat_le hv hn7
  refine j_ald1 dL_law_1486 ?_
  refine j_qiV0 dL_law_1487 kX7_putBack lL_191 rfl (by decide) rfl (Nat.le_of_ble_eq_true rfl) (Nat.le_of_ble_eq_true rfl) (by omega) (q_putBack h hv) (fun vp Sp hp => ?_)
  obtain ⟨rfl, v2, ht2, hh2, hl2, hm2⟩ := hp
  refine j_ifle 1525 dL_law_1490 (by decide) (fun c_1490 => absurd c_1490 (nI_nle hk (by omega))) (fun c_1490 => ?_)
  refine j_ald1 dL_law_1493 ?_
  refine j_iconst (0) dL_law_1494 rfl ?_
  refine j_bipush (15) dL_law_1495 rfl ?_
  refine j_cV2 dL_law_1497 kX7_of lL_171 rfl (by decide) rfl (Nat.le_of_ble_eq_true rfl) (Nat.le_of_ble_eq_true rfl) (by omega) (q_hat0 ht2) ?_
  rw [hh2]
  refine j_ald2 dL_law_1500 ?_
  refine j_cS1 dL_law_1501 kL_hat zL_hat (Or.inl lL_127) (Nat.le_of_ble_eq_true rfl) (Nat.le_of_ble_eq_true rfl) (by omega) (s_L_hat hN hl (by omega) hm2) ?_
  refine j_icmpne 1525 dL_law_1504 (by decide) (fun c_1504 => absurd c_1504 (not_not_intro rfl)) (fun c_1504 => ?_)
  refine j_ald1 dL_law_1507 ?_
  refine j_bipush (9) dL_law_1508 rfl ?_
  refine j_bipush (20) dL_law_1510 rfl ?_
  refine j_iconst (0) dL_law_1512 rfl ?_
  refine j_qiV3 dL_law_1513 kX7_drawn lL_194 rfl (by decide) rfl (Nat.le_of_ble_eq_true rfl) (Nat.le_of_ble_eq_true rfl) (by omega) (q_drawn hg ht2 hl2) (fun vd Sd hd => ?_)
  refine j_bipush (20) dL_law_1516 rfl ?_
  refine j_icmpgt 1525 dL_law_1518 (by decide) (fun c_1518 => absurd c_1518 (Int32.not_lt.mpr hd)) (fun c_1518 => ?_)
  refine j_iconst (1) dL_law_1521 rfl ?_
  refine j_goto 1526 dL_law_1522 (by decide) ?_
  exact hR _ _ _ dL_law_1526

set_option maxRecDepth 20000 in
theorem law_1413 {g : GG} (hR : HR a g) (hN : 61 < NC a) (hl : xl a 61 = n) (hn7 : n ≤ 7) (hg : GoodB bb) (hE : HE g a b Ls xs) (hL : Ls ≤ 260) (hv : ∀ i, i < 8 → v 0 i ≤ 9) (h0 : 0 < hatN v n) : ∀ (fu : Nat) (k : Nat) (w16 : Value) (S1 : St), 5 - k < fu → (k ≤ 5) → (k ≤ hatN v n) → (DI n v bb k S1) → J a mL_law 100 g 1413 [.ref b, .ref (a 0), .ref (a 61), .int (bi (hatN v n = 0)), .null, .null, .null, .null, .null, .null, .null, .null, .null, .null, .int (nI (hatN v n - k)), .int (nI k), w16, .null] [] S1 := by
  intro fu
  induction fu with
  | zero => intro k w16 S1 hk; exact absurd hk (Nat.not_lt_zero _)
  | succ fu ih =>
    intro k w16 S1 hk hk hkh hD
    have hh := hat_le hv hn7
    refine j_ild15 dL_law_1413 ?_
    refine j_iconst (5) dL_law_1415 rfl ?_
    refine j_icmpge 1486 dL_law_1416 (by decide) (fun c_1416 => ?_) (fun c_1416 => ?_)
    · have q_1 : 5 ≤ k := (nI_leI (a := 5) (b := k) (by decide) (by omega)).mp c_1416
      exact law_1486 hR hN hl hn7 hg hD hv (by omega) (by omega)
    have q_1 : k < 5 := Nat.not_le.mp (fun z => c_1416 ((nI_leI (a := 5) (b := k) (by decide) (by omega)).mpr z))
    refine j_ild14 dL_law_1419 ?_
    refine j_ifle 1486 dL_law_1421 (by decide) (fun c_1421 => ?_) (fun c_1421 => ?_)
    · have q_2 : ¬ 0 < hatN v n - k := fun z => absurd c_1421 (nI_nle z (by omega))
      exact law_1486 hR hN hl hn7 hg hD hv (by omega) (by omega)
    have q_2 : 0 < hatN v n - k := Nat.pos_of_ne_zero (fun z => c_1421 (by rw [z]; decide))
    refine j_ald1 dL_law_1424 ?_
    refine j_ald0 dL_law_1425 ?_
    refine j_bipush (40) dL_law_1426 rfl ?_
    refine j_ild15 dL_law_1428 ?_
    refine j_iadd dL_law_1430 ?_
    refine j_top (y := nI (40 + k)) (nI_add 40 k) ?_
    refine j_xcS2 hE dL_law_1431 kL_cell zL_cell lL_43 (Nat.le_of_ble_eq_true rfl) (Nat.le_of_ble_eq_true rfl) (by omega) (s_L_cell hL (i := 40 + k) (by omega)) ?_
    refine j_qiV1 dL_law_1434 kX7_draw lL_188 rfl (by decide) rfl (Nat.le_of_ble_eq_true rfl) (Nat.le_of_ble_eq_true rfl) (by omega) (q_draw hg hD (by omega) _) (fun vd Sd hd => ?_)
    obtain ⟨⟨m, hm, rfl⟩, hD2⟩ := hd
    refine j_ist16 dL_law_1437 rfl (by decide) ?_
    refine j_ild16 dL_law_1439 ?_
    refine j_iflt 1478 dL_law_1441 (by decide) (fun c_1441 => absurd c_1441 (nI_pos (by omega))) (fun c_1441 => ?_)
    refine j_ild16 dL_law_1444 ?_
    refine j_bipush (55) dL_law_1446 rfl ?_
    refine j_icmpgt 1478 dL_law_1448 (by decide) (fun c_1448 => absurd c_1448 (Int32.not_lt.mpr ((nI_leI (a := m) (b := 55) (by omega) (by decide)).mpr hm))) (fun c_1448 => ?_)
    refine j_ald1 dL_law_1451 ?_
    refine j_iconst (0) dL_law_1452 rfl ?_
    refine j_bipush (15) dL_law_1453 rfl ?_
    refine j_cV2 dL_law_1455 kX7_of lL_171 rfl (by decide) rfl (Nat.le_of_ble_eq_true rfl) (Nat.le_of_ble_eq_true rfl) (by omega) (q_hatk hD2) ?_
    refine j_iinc14 (nI (hatN v n - (k + 1))) dL_law_1458 (dec_hat (by omega)) rfl (by decide) ?_
    refine j_ild14 dL_law_1461 ?_
    refine j_icmpne 1478 dL_law_1463 (by decide) (fun c_1463 => absurd c_1463 (not_not_intro rfl)) (fun c_1463 => ?_)
    refine j_ald1 dL_law_1466 ?_
    refine j_iconst (1) dL_law_1467 rfl ?_
    refine j_cV1 dL_law_1468 kX7_count lL_13 rfl (by decide) rfl (Nat.le_of_ble_eq_true rfl) (Nat.le_of_ble_eq_true rfl) (by omega) (q_count1 hD2 hv) ?_
    refine j_ild15 dL_law_1471 ?_
    refine j_iconst (1) dL_law_1473 rfl ?_
    refine j_iadd dL_law_1474 ?_
    refine j_top (y := nI (k + 1)) (nI_1 k) ?_
    refine j_icmpeq 1480 dL_law_1475 (by decide) (fun c_1475 => ?_) (fun c_1475 => absurd (rfl) c_1475)
    refine j_iinc15 (nI (k + 1)) dL_law_1480 (nI_1 k) rfl (by decide) ?_
    refine j_goto 1413 dL_law_1483 (by decide) ?_
    exact ih (k + 1) _ _ (by omega) (by omega) (by omega) hD2

theorem law_1384 {g : GG} (hR : HR a g) (hN : 61 < NC a) (hl : xl a 61 = n) (hn7 : n ≤ 7) (hg : GoodB bb) (hE : HE g a b Ls xs) (hL : Ls ≤ 260) {S : St} (h : LW0 n v bb S) : J a mL_law 100 g 1384 [.ref b, .ref (a 0), .ref (a 61), .int (bi (hatN v n = 0)), .null, .null, .null, .null, .null, .null, .null, .null, .null, .null, .null, .null, .null, .null] [] S := by
  have hv : ∀ i, i < 8 → v 0 i ≤ 9 := fun i hi => h.1.many9 hi
  refine j_ild3 dL_law_1384 ?_
  refine j_ifeqB 1404 dL_law_1385 (by decide) (fun c_1385 => ?_) (fun c_1385 => ?_)
  · refine j_ald2 dL_law_1404 ?_
    refine j_cS1 dL_law_1405 kL_hat zL_hat (Or.inl lL_127) (Nat.le_of_ble_eq_true rfl) (Nat.le_of_ble_eq_true rfl) (by omega) (s_L_hat hN hl (by omega) h.2.2.2.2.2.2) ?_
    refine j_ist14 dL_law_1408 rfl (by decide) ?_
    refine j_iconst (0) dL_law_1410 rfl ?_
    refine j_ist15 dL_law_1411 rfl (by decide) ?_
    exact law_1413 hR hN hl hn7 hg hE hL hv (Nat.pos_of_ne_zero c_1385) 6 0 _ _ (by decide) (Nat.zero_le _) (Nat.zero_le _) (DI_0 h)
  exact law_empty hR hN hl hn7 hg h c_1385

end Tail
