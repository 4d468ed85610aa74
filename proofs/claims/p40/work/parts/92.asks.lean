/-! the law's questions, and what their answers are as numbers -/
def LW0 (n : Nat) (v : Nat → Nat → Nat) (bb : Option (List Line)) (S : St) : Prop := TC n v S ∧ (∃ kk u h, HC kk u h S) ∧ (∃ ld l, DCb (fun _ => 0) ld l S) ∧ (∃ im, ImC im S) ∧ (∃ bq sh el, SC sh el S ∧ SOk bq sh ∧ BOk sh el) ∧ LawC bb S ∧ ∀ i, i < n → S.1 61 i = nI (v 0 i)
section Asks
variable {a : Nat → Nat} {S S' : St} {n : Nat} {v : Nat → Nat → Nat} {bb : Option (List Line)}
theorem LW0.kp {rs : List Nat} (h : LW0 n v bb S) (hk : Kp rs S S') (hr : ∀ x ∈ rs, x = 4 ∨ x = 8) : LW0 n v bb S' := by
  obtain ⟨h1, ⟨kk, u, hh, h2⟩, ⟨ld, l, h3⟩, ⟨im, h4⟩, ⟨bq, sh, el, h5, h6, h7⟩, h8, h9⟩ := h
  have q : ∀ x, x ≠ 4 → x ≠ 8 → x ∉ rs := fun x a b c => (hr x c).elim a b
  exact ⟨h1.kp hk (q 1 (by decide) (by decide)), ⟨kk, u, hh, h2.kp hk (q 1 (by decide) (by decide))⟩, ⟨ld, l, h3.kp hk (q 5 (by decide) (by decide))⟩, ⟨im, h4.kp hk (q 5 (by decide) (by decide))⟩, ⟨bq, sh, el, h5.kp hk (q 7 (by decide) (by decide)), h6, h7⟩, h8.kp hk (q 3 (by decide) (by decide)), fun i hi => (hk.i (show rg 61 i ∉ rs from q 0 (by decide) (by decide))).trans (h9 i hi)⟩
theorem in48 : ∀ x ∈ [4, 8], x = 4 ∨ x = 8 := by decide
theorem in4 : ∀ x ∈ [4], x = 4 ∨ x = 8 := by decide
theorem pr01 {p : Int32} (h : p = 0 ∨ p = 1) : prt p := by rcases h with rfl | rfl <;> decide
theorem q_shown (h : LW0 n v bb S) (hg : GoodB bb) {c : Nat} (hc : c < 6) {p : Int32} (hp : p = 0 ∨ p = 1) : Rql a mX7_shown 6 [.ref (a 0), .int (nI c), .int p] S fun z S' => z = lowV (lkA v bb n c 1) (60 * hatN v n) p ∧ LW0 n v bb S' := by
  refine Rql.up (s_X7_shown_ok h.1 h.2.2.2.2.2.1 hg ⟨⟨nI_pos' (by omega), (nI_ltI (a := c) (b := 6) (by omega) (by decide)).mpr hc⟩, pr01 hp⟩) (Nat.le_refl _) (fun z S1 e => ⟨?_, h.kp e.2 in48⟩)
  rw [e.1, shnV, nI_clamp (by omega)]
theorem ck_of {c k : Nat} (hc : c < 6) (hk : 1 ≤ k) (hk4 : k ≤ 4) : ckOk (nI (10 * c + k)) ∧ (nI (10 * c + k)).toNatClampNeg / 10 = c ∧ (nI (10 * c + k)).toNatClampNeg % 10 = k := by
  have e1 : nI (10 * c + k) / 10 = nI ((10 * c + k) / 10) := pk_div (d := 10) (by omega) (by decide) (by decide)
  have e2 : nI (10 * c + k) - nI (10 * c + k) / 10 * 10 = nI ((10 * c + k) % 10) := pk_rem (d := 10) (by omega) (by decide) (by decide)
  have d1 : (10 * c + k) / 10 = c := by omega
  have d2 : (10 * c + k) % 10 = k := by omega
  refine ⟨⟨nI_pos' (by omega), ?_, ?_, ?_⟩, ?_, ?_⟩
  · rw [e1, d1]; exact (nI_ltI (a := c) (b := 6) (by omega) (by decide)).mpr hc
  · rw [e2, d2]; exact (nI_leI (a := 1) (b := k) (by decide) (by omega)).mpr hk
  · rw [e2, d2]; exact (nI_leI (a := k) (b := 4) (by omega) (by decide)).mpr hk4
  · rw [nI_clamp (by omega)]; exact d1
  · rw [nI_clamp (by omega)]; exact d2
theorem q_again (h : LW0 n v bb S) (hg : GoodB bb) {c k : Nat} (hc : c < 6) (hk : 1 ≤ k) (hk4 : k ≤ 4) {p : Int32} (hp : p = 0 ∨ p = 1) : Rql a mX7_again 6 [.ref (a 0), .int (nI (10 * c + k)), .int p] S fun z S' => z = lowV (lkA v bb n c (k + 1)) (lkA v bb n c k * 60) p ∧ LW0 n v bb S' := by
  obtain ⟨h1, h2, h3⟩ := ck_of hc hk hk4
  refine Rql.up (s_X7_again_ok h.1 h.2.2.2.2.2.1 hg ⟨h1, pr01 hp⟩) (Nat.le_refl _) (fun z S1 e => ⟨?_, h.kp e.2 in48⟩)
  rw [e.1, agV, h2, h3]
theorem q_which (h : LW0 n v bb S) (hg : GoodB bb) {i c k : Nat} (hi : i < n) (hc : c < 6) (hk : 1 ≤ k) (hk4 : k ≤ 4) {p : Int32} (hp : p = 0 ∨ p = 1) : Rql a mX7_which 6 [.ref (a 0), .int (nI i), .int (nI (10 * c + k)), .int p] S fun z S' => z = lowV (lkO v bb i c k) (lkA v bb n c k) p ∧ LW0 n v bb S' := by
  obtain ⟨h1, h2, h3⟩ := ck_of hc hk hk4
  have hn := h.1.2.1
  refine Rql.up (s_X7_which_ok h.1 h.2.2.2.2.2.1 hg ⟨⟨nI_pos' (by omega), (nI_ltI (a := i) (b := n) (by omega) (by omega)).mpr hi⟩, h1, pr01 hp⟩) (Nat.le_refl _) (fun z S1 e => ⟨?_, h.kp e.2 in48⟩)
  rw [e.1, whV, h2, h3, nI_clamp (by omega)]
theorem q_other (h : LW0 n v bb S) (hg : GoodB bb) {c d : Nat} (hc : c < 6) (hd : d < 6) {p : Int32} (hp : p = 0 ∨ p = 1) : Rql a mX7_other 6 [.ref (a 0), .int (nI (10 * c + d)), .int p] S fun z S' => z = lowV (lbA v bb n c d) (lkA v bb n c 1) p ∧ LW0 n v bb S' := by
  have e1 : nI (10 * c + d) / 10 = nI ((10 * c + d) / 10) := pk_div (d := 10) (by omega) (by decide) (by decide)
  have e2 : nI (10 * c + d) - nI (10 * c + d) / 10 * 10 = nI ((10 * c + d) % 10) := pk_rem (d := 10) (by omega) (by decide) (by decide)
  have d1 : (10 * c + d) / 10 = c := by omega
  have d2 : (10 * c + d) % 10 = d := by omega
  refine Rql.up (s_X7_other_ok h.1 h.2.2.2.2.2.1 hg ⟨nI_pos' (by omega), by rw [e1, d1]; exact (nI_ltI (a := c) (b := 6) (by omega) (by decide)).mpr hc, ⟨by rw [e2]; exact nI_pos' (by omega), by rw [e2, d2]; exact (nI_ltI (a := d) (b := 6) (by omega) (by decide)).mpr hd⟩, pr01 hp⟩) (Nat.le_refl _) (fun z S1 e => ⟨?_, h.kp e.2 in48⟩)
  rw [e.1, otV, nI_clamp (by omega), d1, d2]
theorem q_of (h : LW0 n v bb S) {i w : Nat} (hw : w < 12) (hi : i < numN n w) : Rt a mX7_of 2 [.ref (a 0), .int (nI i), .int (nI w)] S (some (.int (nI (v w i)))) S := by
  have h1 := s_X7_of (a := a) (x := nI i) (y := nI w) h.1
  have hn8 := numN_le (n := n) (w := w) h.1.2.1
  have e : ofV n v (S.1 48) (S.1 49) (if S.1 5 3 < 0 then -2 else S.1 5 3) (nI i) (nI w) = nI (v w i) := by
    unfold ofV
    rw [if_pos ⟨nI_pos' (by omega), (nI_ltI (a := w) (b := 12) (by omega) (by decide)).mpr hw⟩, nI_clamp (n := w) (by omega), if_pos ⟨nI_pos' (by omega), (nI_ltI (by omega) (by omega)).mpr hi⟩, nI_clamp (n := i) (by omega)]
  rw [e] at h1
  exact h1
theorem q_hat0 (h : TC n v S) : Rt a mX7_of 2 [.ref (a 0), .int 0, .int 15] S (some (.int (nI (hatN v n)))) S := by
  have h1 := s_X7_of (a := a) (x := 0) (y := 15) h
  have e : ofV n v (S.1 48) (S.1 49) (if S.1 5 3 < 0 then -2 else S.1 5 3) 0 15 = nI (hatN v n) := by
    unfold ofV
    rw [if_neg (by decide), if_neg (by decide), if_neg (by decide), if_neg (by decide), if_pos (by decide), if_pos (by decide)]
    rfl
  rw [e] at h1
  exact h1
theorem q_handed (h : LW0 n v bb S) {u : Nat} (hu : 1 ≤ u) (hu4 : u < 4) {y : Int32} (hy : y = 0 ∨ y = 1) {p : Int32} (hp : p = 0 ∨ p = 1) : Rt a mX7_handed 2 [.ref (a 0), .int (nI u), .int y, .int p] S (some (.long (handV v u y p))) S := by
  have h1 := s_X7_handed (a := a) (x := nI u) (y := y) (p := p) h.1
  have e : hdV v (nI u) y p = handV v u y p := by
    unfold hdV
    rw [if_pos ⟨⟨(nI_leI (a := 1) (b := u) (by decide) (by omega)).mpr hu, (nI_ltI (a := u) (b := 4) (by omega) (by decide)).mpr hu4⟩, (pr01 hy : prt y), pr01 hp⟩, nI_clamp (by omega)]
  rw [e] at h1
  exact h1
theorem td16 : ∀ t, t < 4 → tdOk 16 (nI (17 * 2 ^ t)) ∧ tdOk 16 (nI (2 ^ t)) := by decide +kernel
theorem td64 : ∀ t, t < 6 → tdOk 64 (nI (65 * 2 ^ t)) := by decide +kernel
theorem il_at : ∀ t, t < 4 → 17 * 2 ^ t % 16 = 2 ^ t ∧ 17 * 2 ^ t / 16 = 2 ^ t ∧ 2 ^ t % 16 = 2 ^ t ∧ 2 ^ t / 16 = 0 := by decide
theorem so_at : ∀ t, t < 6 → 65 * 2 ^ t % 64 = 2 ^ t ∧ 65 * 2 ^ t / 64 = 2 ^ t := by decide
theorem p2lt {t : Nat} (h : t < 6) : 2 ^ t ≤ 32 := by
  have := Nat.pow_le_pow_right (n := 2) (by decide) (show t ≤ 5 by omega)
  omega
theorem q_ill0 (h : LW0 n v bb S) {p : Int32} (hp : p = 0 ∨ p = 1) : Rt a mX7_ill 3 [.ref (a 0), .int 0, .int p] S (some (.long (lowV (v 9 0) (v 9 0 + (100 - v 9 0)) p))) S := by
  have h1 := s_X7_ill_ok (a := a) (x := 0) (p := p) h.1 ⟨by decide, pr01 hp⟩
  have e : ilV v 0 p = lowV (v 9 0) (v 9 0 + (100 - v 9 0)) p := by
    show lowV (illW v 0 0) (illW v 0 0 + welW v 0 0) p = _
    rw [ill_none.1, ill_none.2]
  rw [e] at h1
  exact h1
theorem q_ills (h : LW0 n v bb S) {t : Nat} (ht : t < 4) {p : Int32} (hp : p = 0 ∨ p = 1) : Rt a mX7_ill 3 [.ref (a 0), .int (nI (17 * 2 ^ t)), .int p] S (some (.long (lowV (v 9 0 * v 5 t) (v 9 0 * v 5 t + (100 - v 9 0) * (12 - v 6 t)) p))) S := by
  have h1 := s_X7_ill_ok (a := a) (x := nI (17 * 2 ^ t)) (p := p) h.1 ⟨(td16 t ht).1, pr01 hp⟩
  have h2 := p2lt (t := t) (by omega)
  have e : ilV v (nI (17 * 2 ^ t)) p = lowV (v 9 0 * v 5 t) (v 9 0 * v 5 t + (100 - v 9 0) * (12 - v 6 t)) p := by
    unfold ilV
    rw [nI_clamp (by omega), (il_at t ht).1, (il_at t ht).2.1, (ill_says ht).1, (ill_says ht).2]
  rw [e] at h1
  exact h1
theorem q_illw (h : LW0 n v bb S) {t : Nat} (ht : t < 4) {p : Int32} (hp : p = 0 ∨ p = 1) : Rt a mX7_ill 3 [.ref (a 0), .int (nI (2 ^ t)), .int p] S (some (.long (lowV (v 9 0 * (12 - v 5 t)) (v 9 0 * (12 - v 5 t) + (100 - v 9 0) * v 6 t) p))) S := by
  have h1 := s_X7_ill_ok (a := a) (x := nI (2 ^ t)) (p := p) h.1 ⟨(td16 t ht).2, pr01 hp⟩
  have h2 := p2lt (t := t) (by omega)
  have e : ilV v (nI (2 ^ t)) p = lowV (v 9 0 * (12 - v 5 t)) (v 9 0 * (12 - v 5 t) + (100 - v 9 0) * v 6 t) p := by
    unfold ilV
    rw [nI_clamp (by omega), (il_at t ht).2.2.1, (il_at t ht).2.2.2, (ill_well ht).1, (ill_well ht).2]
  rw [e] at h1
  exact h1
theorem q_order (h : LW0 n v bb S) {p : Int32} (hp : p = 0 ∨ p = 1) : Rql a mX7_order 3 [.ref (a 0), .int (-1), .int p] S fun z S' => z = lowV (meanP v (bestP v)) 172800 p ∧ LW0 n v bb S' := by
  refine Rql.up (s_X7_order_ok (x := -1) h.1 ⟨by decide, pr01 hp⟩) (Nat.le_refl _) (fun z S1 e => ⟨?_, h.kp e.2 in4⟩)
  rw [e.1, ordV, if_pos (by decide)]
theorem q_orderk (h : LW0 n v bb S) {k : Nat} (hk : k < 4) : Rql a mX7_order 3 [.ref (a 0), .int (nI k), .int 0] S fun z S' => z = lN (dg (bestP v) k) ∧ LW0 n v bb S' := by
  refine Rql.up (s_X7_order_ok (x := nI k) h.1 ⟨⟨?_, (nI_ltI (a := k) (b := 4) (by omega) (by decide)).mpr hk⟩, by decide⟩) (Nat.le_refl _) (fun z S1 e => ⟨?_, h.kp e.2 in4⟩)
  · rcases (show k = 0 ∨ k = 1 ∨ k = 2 ∨ k = 3 by omega) with rfl | rfl | rfl | rfl <;> decide
  · rw [e.1, ordV, if_neg (nI_pos (by omega)), nI_clamp (by omega)]
theorem q_so0 (h : LW0 n v bb S) {p : Int32} (hp : p = 0 ∨ p = 1) : Rt a mX7_isSo 3 [.ref (a 0), .int 0, .int p] S (some (.long (lowV (v 10 0) (v 10 0 + (12 - v 10 0)) p))) S := by
  have h1 := s_X7_isSo_ok (a := a) (x := 0) (p := p) h.1 ⟨by decide, pr01 hp⟩
  have e : isV v 0 p = lowV (v 10 0) (v 10 0 + (12 - v 10 0)) p := by
    show lowV (soW v 0 0) (soW v 0 0 + noW v 0 0) p = _
    rw [so_none.1, so_none.2]
  rw [e] at h1
  exact h1
theorem q_sot (h : LW0 n v bb S) {t : Nat} (ht : t < 6) {p : Int32} (hp : p = 0 ∨ p = 1) : Rt a mX7_isSo 3 [.ref (a 0), .int (nI (65 * 2 ^ t)), .int p] S (some (.long (lowV (v 10 0 * (12 - v 8 t)) (v 10 0 * (12 - v 8 t) + (12 - v 10 0) * v 8 t) p))) S := by
  have h1 := s_X7_isSo_ok (a := a) (x := nI (65 * 2 ^ t)) (p := p) h.1 ⟨td64 t ht, pr01 hp⟩
  have h2 := p2lt (t := t) (by omega)
  have e : isV v (nI (65 * 2 ^ t)) p = lowV (v 10 0 * (12 - v 8 t)) (v 10 0 * (12 - v 8 t) + (12 - v 10 0) * v 8 t) p := by
    unfold isV
    rw [nI_clamp (by omega), (so_at t ht).1, (so_at t ht).2, (so_t ht).1, (so_t ht).2]
  rw [e] at h1
  exact h1
theorem q_tooMany (h : LW0 n v bb S) {t : Nat} (ht : t < 6) {p : Int32} (hp : p = 0 ∨ p = 1) : Rt a mX7_tooMany 2 [.ref (a 0), .int (nI (2 ^ t)), .int p] S (some (.long 1)) S := by
  have h2 := p2lt (t := t) (by omega)
  have h0 : 0 < 2 ^ t := Nat.two_pow_pos t
  have h1 := s_X7_tooMany_ok (a := a) (x := nI (2 ^ t)) (p := p) h.1 ⟨⟨nI_pos' (by omega), (nI_ltI (a := 2 ^ t) (b := 64) (by omega) (by decide)).mpr (by omega)⟩, pr01 hp⟩
  have h8 := h.1.b8 t (by omega)
  have e : tmV v (nI (2 ^ t)).toNatClampNeg p = 1 := by
    unfold tmV
    rw [nI_clamp (by omega), if_neg (by omega), (sa_t (v := v) ht).1, (sa_t (v := v) ht).2.1, (sa_t (v := v) ht).2.2, show 12 - v 8 t + v 8 t = 12 by omega]
    rcases hp with rfl | rfl <;> decide
  rw [e] at h1
  exact h1
theorem q_next {x y : Nat} (hx : x ≤ y) (hy : y < 100) {p : Int32} (hp : p = 0 ∨ p = 1) : Rt a mX7_next 2 [.ref (a 0), .int (nI (100 * x + y)), .int p] S (some (.long (lowV (x + 1) (y + 2) p))) S := by
  have e1 : nI (100 * x + y) / 100 = nI ((100 * x + y) / 100) := pk_div (d := 100) (by omega) (by decide) (by decide)
  have e2 : nI (100 * x + y) - nI (100 * x + y) / 100 * 100 = nI ((100 * x + y) % 100) := pk_rem (d := 100) (by omega) (by decide) (by decide)
  have d1 : (100 * x + y) / 100 = x := by omega
  have d2 : (100 * x + y) % 100 = y := by omega
  have h1 := s_X7_next_ok (a := a) (S := S) (x := nI (100 * x + y)) (p := p) ⟨nI_pos' (by omega), by rw [e2, e1, d1, d2]; exact (nI_leI (by omega) (by omega)).mpr hx, pr01 hp⟩
  have e : nxV (nI (100 * x + y)) p = lowV (x + 1) (y + 2) p := by
    unfold nxV
    rw [nI_clamp (by omega), d1, d2]
  rw [e] at h1
  exact h1
theorem q_sure (h : LW0 n v bb S) {x : Int32} (hk : suOk x) : Rqi a mX7_sure 3 [.ref (a 0), .int x] S fun y S' => y = sureV v x ∧ LW0 n v bb S' :=
  Rqi.up (s_X7_sure_ok h.1 hk) (Nat.le_refl _) (fun z S1 e => ⟨e.1, h.kp e.2 in4⟩)
/-- a row of one showing, and what is read off it -/
def LSr (n : Nat) (v : Nat → Nat → Nat) (bb : Option (List Line)) (c : Nat) (S : St) : Prop := LW0 n v bb S ∧ ∃ bq sh el, SC (shC sh) (elC el c) S ∧ SOk bq (shC sh) ∧ BOk (shC sh) (elC el c)
theorem q_row (h : LW0 n v bb S) : Rqi a mX7_row 1 [.ref (a 0), .int 0, .int 0, .int 1] S fun y S' => y = 1 ∧ LW0 n v bb S' ∧ ∃ bq sh el, SC (shC sh) (zE el 0) S' ∧ SOk bq (shC sh) ∧ BOk (shC sh) (zE el 0) := by
  obtain ⟨h1, ⟨kk, u, hh, h2⟩, ⟨ld, l, h3⟩, ⟨im, h4⟩, ⟨bq, sh, el, h5, h6, h7⟩, h8, h9⟩ := h
  refine Rqi.up (Rqi.of (s_X7_row (a := a) (S := S) (i := 0) (so := 0) (ln := 1) (by decide) (by decide) (by decide))) (Nat.le_refl _) (fun z S1 e => ?_)
  obtain ⟨rfl, e1⟩ := e
  have hk : Kp [7] S S1 := by
    rw [e1]
    exact Kp_zL (Kp_uI (Kp_uI (Kp_uI Kp.rf (by rw [rg_sh (by decide)]; decide)) (by rw [rg_sh (by decide)]; decide)) (by rw [rg_sh (by decide)]; decide)) (fun q => by rw [rg_el (by decide)]; decide)
  have c1 : SC (shC sh) (zE el 0) S1 := by rw [e1]; exact h5.row
  exact ⟨rfl, ⟨h1.kp hk (by decide), ⟨kk, u, hh, h2.kp hk (by decide)⟩, ⟨ld, l, h3.kp hk (by decide)⟩, ⟨im, h4.kp hk (by decide)⟩, ⟨bq, shC sh, zE el 0, c1, h6.row (by decide) (by decide), h7.row⟩, h8.kp hk (by decide), fun i hi => (hk.i (show rg 61 i ∉ [7] from (by show ¬ (0 ∈ [7]); decide))).trans (h9 i hi)⟩, bq, sh, el, c1, h6.row (by decide) (by decide), h7.row⟩
theorem q_put {c : Nat} (hc : c < 6) (h : LW0 n v bb S) (h2 : ∃ bq sh el, SC (shC sh) (zE el 0) S ∧ SOk bq (shC sh) ∧ BOk (shC sh) (zE el 0)) : Rqi a mX7_put 2 [.ref (a 0), .int 0, .int 0, .long (nI c).toInt64] S fun y S' => y = 1 ∧ LSr n v bb c S' := by
  obtain ⟨h1, ⟨kk, u, hh, hh2⟩, ⟨ld, l, h3⟩, ⟨im, h4⟩, -, h8, h9⟩ := h
  obtain ⟨bq, sh, el, h5, h6, h7⟩ := h2
  have hr : refV (shC sh) (nI 0) (nI 0) = 0 := by
    unfold refV shC upR
    rw [if_neg (by decide)]
    rfl
  refine Rqi.up (Rqi.of (s_X7_put (a := a) (i := 0) (k := 0) (v := (nI c).toInt64) h5 h6 (by decide) (by decide) rfl hr)) (Nat.le_refl _) (fun z S1 e => ?_)
  obtain ⟨rfl, e1⟩ := e
  have hk : Kp [7] S S1 := by rw [e1]; exact Kp_uL Kp.rf (by rw [rg_el (by decide)]; decide)
  have c1 : SC (shC sh) (elC el c) S1 := by rw [e1]; exact h5.put (by decide)
  have c2 : BOk (shC sh) (elC el c) := h7.put
  exact ⟨rfl, ⟨h1.kp hk (by decide), ⟨kk, u, hh, hh2.kp hk (by decide)⟩, ⟨ld, l, h3.kp hk (by decide)⟩, ⟨im, h4.kp hk (by decide)⟩, ⟨bq, shC sh, elC el c, c1, h6, c2⟩, h8.kp hk (by decide), fun i hi => (hk.i (show rg 61 i ∉ [7] from (by show ¬ (0 ∈ [7]); decide))).trans (h9 i hi)⟩, bq, sh, el, c1, h6, c2⟩
theorem LSr.kp {c : Nat} (h : LSr n v bb c S) (hk : Kp [4, 8] S S') : LSr n v bb c S' := by
  obtain ⟨h1, bq, sh, el, h2, h3, h4⟩ := h
  exact ⟨h1.kp hk in48, bq, sh, el, h2.kp hk (by decide), h3, h4⟩
theorem q_judge {c : Nat} (hc : c < 6) (hg : GoodB bb) (h : LSr n v bb c S) : Rqi a mX7_judge 6 [.ref (a 0), .int 0] S fun y S' => y = (if lkA v bb n c 1 = 0 then 0 else -2) ∧ LSr n v bb c S' := by
  obtain ⟨h1, bq, sh, el, h2, h3, h4⟩ := id h
  refine Rqi.up (s_X7_judge (x := 0) h1.1 h1.2.2.2.2.2.1 hg h2 h3 h4) (Nat.le_refl _) (fun z S1 e => ⟨?_, h.kp e.2⟩)
  rw [e.1, jg_C hc]
theorem q_cheated {c : Nat} (hc : c < 6) (hg : GoodB bb) (h : LSr n v bb c S) : Rqi a mX7_cheated 6 [.ref (a 0), .int 0] S fun y S' => y = (mlF (fun i => lkA (mo1 v i) bb n c 1) (60 * (hatN v n + 1)) (lkA v bb n c 1) (if hatN v n = 0 then 1 else 60 * hatN v n) n).1 ∧ LW0 n v bb S' := by
  obtain ⟨h1, bq, sh, el, h2, h3, h4⟩ := id h
  refine Rqi.up (s_X7_cheated (x := 0) h1.1 h1.2.2.2.2.2.1 hg h2 h3 h4) (Nat.le_refl _) (fun z S1 e => ⟨?_, h1.kp e.2 in48⟩)
  rw [e.1, ch_C hc]
/-- all but the row of MANYs of the law -/
def LSm (n : Nat) (v vm : Nat → Nat → Nat) (bb : Option (List Line)) (S : St) : Prop := TC n v S ∧ (∃ kk u h, HC kk u h S) ∧ (∃ ld l, DCb (fun _ => 0) ld l S) ∧ (∃ im, ImC im S) ∧ (∃ bq sh el, SC sh el S ∧ SOk bq sh ∧ BOk sh el) ∧ LawC bb S ∧ ∀ i, i < n → S.1 61 i = nI (vm 0 i)
theorem q_mend {vm : Nat → Nat → Nat} (h : LSm n v vm bb S) {i x : Nat} (hi : i < n) (hx : x ≤ 9) : Rqi a mX7_mend 3 [.ref (a 0), .int (nI i), .int 0, .int (nI x)] S fun r S' => r = nI (v 0 i) ∧ LSm n (up2 v 0 i x) vm bb S' := by
  obtain ⟨h1, ⟨kk, u, hh, h2⟩, ⟨ld, l, h3⟩, ⟨im, h4⟩, ⟨bq, sh, el, h5, h6, h7⟩, h8, h9⟩ := h
  refine Rqi.up (s_X7_mend_ok (a := a) (w := 0) h1 h2 (by decide) (by show i < numN n 0; exact hi) hx) (Nat.le_refl _) (fun z S1 e => ?_)
  obtain ⟨e1, hk, e3, e4⟩ := e
  refine ⟨e1, e3, ?_, ⟨ld, l, h3.kp hk (by decide)⟩, ⟨im, h4.kp hk (by decide)⟩, ⟨bq, sh, el, h5.kp hk (by decide), h6, h7⟩, h8.kp hk (by decide), fun j hj => (hk.i (show rg 61 j ∉ [1] from (by show ¬ (0 ∈ [1]); decide))).trans (h9 j hj)⟩
  split at e4
  · exact ⟨_, _, _, e4⟩
  · exact ⟨_, _, _, e4⟩
theorem LSm.kp {vm : Nat → Nat → Nat} (h : LSm n v vm bb S) (hk : Kp [4, 8] S S') : LSm n v vm bb S' := by
  obtain ⟨h1, ⟨kk, u, hh, h2⟩, ⟨ld, l, h3⟩, ⟨im, h4⟩, ⟨bq, sh, el, h5, h6, h7⟩, h8, h9⟩ := h
  exact ⟨h1.kp hk (by decide), ⟨kk, u, hh, h2.kp hk (by decide)⟩, ⟨ld, l, h3.kp hk (by decide)⟩, ⟨im, h4.kp hk (by decide)⟩, ⟨bq, sh, el, h5.kp hk (by decide), h6, h7⟩, h8.kp hk (by decide), fun i hi => (hk.i (show rg 61 i ∉ [4, 8] from (by show ¬ (0 ∈ [4, 8]); decide))).trans (h9 i hi)⟩
theorem qm_shown {vm : Nat → Nat → Nat} (h : LSm n v vm bb S) (hg : GoodB bb) {c : Nat} (hc : c < 6) {p : Int32} (hp : p = 0 ∨ p = 1) : Rql a mX7_shown 6 [.ref (a 0), .int (nI c), .int p] S fun z S' => z = lowV (lkA v bb n c 1) (60 * hatN v n) p ∧ LSm n v vm bb S' := by
  refine Rql.up (s_X7_shown_ok h.1 h.2.2.2.2.2.1 hg ⟨⟨nI_pos' (by omega), (nI_ltI (a := c) (b := 6) (by omega) (by decide)).mpr hc⟩, pr01 hp⟩) (Nat.le_refl _) (fun z S1 e => ⟨?_, h.kp e.2⟩)
  rw [e.1, shnV, nI_clamp (by omega)]
end Asks
