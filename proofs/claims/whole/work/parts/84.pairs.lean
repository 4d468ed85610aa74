/-! pairs of calls that change something -/
theorem a_S_len (K N : Nat) (x : Int32) : (a_S K N x).2.length ≤ 3 := by
  unfold a_S a_tS a_pS
  split
  · simp
  · split
    · simp
    · split <;> simp
theorem a_L_len (K N : Nat) (x : Int32) : (a_L K N x).2.length ≤ 8 := by
  have h := a_S_len K N 2
  unfold a_L a_tL a_pL
  split
  · simp; omega
  · split <;> simp
theorem a_pD_len (K N : Nat) (x : Int32) : (a_pD K N x).2.length ≤ 4 := by
  have h := a_S_len K N x
  unfold a_pD; simp; omega
theorem a_uD_len (K N : Nat) (x : Int32) : (a_uD K N x).2.length ≤ 5 := by
  have h := a_pD_len K N x
  unfold a_uD; simp; omega
theorem a_D_len (K N : Nat) (x : Int32) : (a_D K N x).2.length ≤ 20 := by
  have h1 := a_uD_len K N (x + 1)
  have h2 := a_pD_len K N x
  have h3 := a_L_len K N 2
  have h4 := a_uD_len K N x
  unfold a_D
  split
  · simp; omega
  · split
    · simp; omega
    · split <;> omega
theorem a_pT_len (K N : Nat) (x : Int32) : (a_pT K N x).2.length ≤ 30 := by
  have h1 := a_D_len K N x
  have h2 := a_L_len K N 1
  unfold a_pT; simp; omega
theorem a_act_len (K N ac : Nat) (x : Int32) : (a_act K N ac x).2.length ≤ 40 := by
  have h1 := a_S_len K N x
  have h2 := a_D_len K N x
  have h3 := a_L_len K N x
  have h4 := a_pT_len K N x
  unfold a_act a_T
  split
  · omega
  · split
    · omega
    · split
      · omega
      · split
        · simp; omega
        · split
          · simp; omega
          · omega
theorem actV_len (b : Nat) (kd : Nat → Nat) (i y x : Int32) : (actV b kd i y x).2.length < 2 ^ 30 := by
  unfold actV
  split
  · exact Nat.lt_of_le_of_lt (a_act_len _ _ _ _) (by decide)
  · exact (by decide : (0 : Nat) < 2 ^ 30)
theorem Kp_zL {rs : List Nat} {S S1 : St} {j p k : Nat} (h : Kp rs S S1) (hr : ∀ q, rg j q ∈ rs) : Kp rs S (zL S1 j p k) := by
  refine ⟨fun j' k' q => ⟨(h.1 j' k' q).1, ?_⟩, h.2⟩
  have hne : ¬ j' = j := fun e => q (by rw [e]; exact hr k')
  show (if _ then _ else _) = _
  rw [if_neg (fun z => hne z.1)]
  exact (h.1 j' k' q).2
theorem Kp_mL {rs : List Nat} {S S1 : St} {j0 j1 p q c : Nat} (h : Kp rs S S1) (hr : ∀ k, rg j1 k ∈ rs) : Kp rs S (mL S1 j0 j1 p q c) := by
  refine ⟨fun j' k' z => ⟨(h.1 j' k' z).1, ?_⟩, h.2⟩
  have hne : ¬ j' = j1 := fun e => z (by rw [e]; exact hr k')
  rw [mL_other S1 hne]
  exact (h.1 j' k' z).2
section ChangeHelp
variable {t n n' k u l i x bd c j : Nat} {v v' h : Nat → Nat → Nat} {S S1 : St} {as : Nat → Nat} {ld : Nat → Int32} {im : Option Img} {sh : Nat → Nat → Nat} {el : Nat → Nat → Int64}
theorem Hok.up (h0 : Hok n k u h) (hn : n ≤ n') : Hok n' k u h := fun i hi => by
  obtain ⟨h1, h2, h3⟩ := h0 i hi
  refine ⟨h1, ?_, h3⟩
  unfold numN at h2 ⊢
  split
  · next e => rw [if_pos e] at h2; omega
  · next e => rw [if_neg e] at h2; exact h2
theorem Hok.push {w q : Nat} (h0 : Hok n k u h) (hk : k ≤ 40) (hw : w < 12) (hi : i < numN n w) (hv : v w i ≤ mostN w) (hq : q ≤ mostN w) : Hok n (pushK k) 0 (pushH k h (mk4 i w (v w i) q)) := fun j hj => by
  unfold pushK at hj
  unfold pushH
  have hm : mk4 i w (v w i) q 1 < 12 ∧ mk4 i w (v w i) q 0 < numN n (mk4 i w (v w i) q 1) ∧ mk4 i w (v w i) q 2 ≤ mostN (mk4 i w (v w i) q 1) ∧ mk4 i w (v w i) q 3 ≤ mostN (mk4 i w (v w i) q 1) := ⟨hw, hi, hv, hq⟩
  by_cases e : k = 40
  · rw [if_pos e] at hj ⊢
    by_cases e2 : j = 39
    · simp only [e2, if_true]; exact hm
    · simp only [e2, if_false]; exact h0 (j + 1) (by omega)
  · rw [if_neg e] at hj ⊢
    by_cases e2 : j = k
    · simp only [e2, if_true]; exact hm
    · simp only [e2, if_false]; exact h0 j (by omega)
theorem DOk.wn (h0 : DOk t n as l im) (hn : n ≤ n') : DOk t n' as l im := ⟨h0.1, fun i hi => h0.2.1 i (by omega), h0.2.2.1, fun m hm => ⟨Nat.le_trans (h0.2.2.2 m hm).1 hn, (h0.2.2.2 m hm).2⟩⟩
theorem DRb.ka (hd : DRb as ld l S) (hka : Ka n S S1) (h0 : ∀ i, n ≤ i → as i = 0) : DRb as ld l S1 := by
  refine ⟨fun i hi => ?_, fun c hc => (hka.1 77 c rfl (by decide)).trans (hd.2.1 c hc), (hka.1 61 22 rfl (by decide)).trans hd.2.2⟩
  rcases hka.2 i with e | e
  · exact e.trans (hd.1 i hi)
  · rw [e.1, h0 i e.2]; rfl
theorem ImR.ka (hd : ImR im S) (hka : Ka n S S1) : ImR im S1 := by
  cases im with
  | none => exact (hka.1 61 45 rfl (by decide)).trans hd
  | some m => exact ⟨(hka.1 61 45 rfl (by decide)).trans hd.1, fun i hi => ⟨(hka.1 91 i rfl (by decide)).trans (hd.2.1 i hi).1, (hka.1 92 i rfl (by decide)).trans (hd.2.1 i hi).2⟩, fun c hc => (hka.1 93 c rfl (by decide)).trans (hd.2.2.1 c hc), (hka.1 61 46 rfl (by decide)).trans hd.2.2.2⟩
theorem cdF_n : ∀ (j ln : Nat) (e : Nat → Int64) (t n : Nat) (v : Nat → Nat → Nat), n ≤ (cdF j ln e t n v).2.1
  | 0, _, _, _, _, _ => Nat.le_refl _
  | j + 1, ln, e, t, n, v => by
    rw [cdF]
    split
    · exact Nat.le_trans (Nat.le_succ n) (cdF_n j ln e (t + 3) (n + 1) _)
    · exact Nat.le_refl _
theorem TR.congr (ht : TR n v S) (he : ∀ w i, i < 8 → v w i = v' w i) : TR n v' S := ⟨ht.1, ht.2.1, fun w hw i hi => by rw [← he w i (Nat.lt_of_lt_of_le hi (capN_le hw))]; exact ht.2.2.1 w hw i hi, fun w hw i hi => by rw [← he w i hi]; exact ht.2.2.2 w hw i hi⟩
theorem SOk.up (h0 : SOk bd sh) (hb : bd < 50) : SOk (bd + 1) sh := ⟨by omega, fun i hi => ⟨(h0.2 i hi).1, fun e => Nat.lt_succ_of_lt ((h0.2 i hi).2.1 e), (h0.2 i hi).2.2⟩⟩
theorem BOk.up (h0 : BOk sh el) {f x : Nat} (hx : ¬ (f = 0 ∧ x = 2)) (hf : f < 2) : BOk (upS sh i f x) el := fun i' hi' h2 h0' k hk => by
  unfold upS at h2 h0'
  refine h0 i' hi' ?_ ?_ k hk
  · by_cases e : i' = i ∧ (0 : Nat) = f
    · rw [if_pos e] at h2; exact absurd ⟨e.2.symm, h2⟩ hx
    · rw [if_neg e] at h2; exact h2
  · rw [if_neg (by omega)] at h0'; exact h0'
theorem BOk.row (h0 : BOk sh el) {so ln : Nat} : BOk (upR sh i so ln) (zE el i) := fun i' hi' h2 h0' k hk => by
  unfold zE
  unfold upR at h2 h0'
  by_cases e : i' = i
  · rw [if_pos e]; rfl
  · rw [if_neg e]
    rw [if_neg e] at h2 h0'
    exact h0 i' hi' h2 h0' k hk
theorem BOk.put (h0 : BOk sh el) {w : Int64} : BOk sh (upE el i k (keptV (sh i 2) w)) := fun i' hi' h2 h0' k' hk => by
  unfold upE
  by_cases e : i' = i ∧ k' = k
  · rw [if_pos e]
    rw [e.1] at h0'
    rw [h0', keptV, if_pos rfl, jd64]
  · rw [if_neg e]; exact h0 i' hi' h2 h0' k' hk
theorem BOk.shift (h0 : BOk sh el) {x i o j n : Nat} (hx : x < 6) (hx2 : sh x 0 = 2) (hso : sh o 2 = sh x 2) (hi : i + n ≤ 60) : BOk sh (shE el x i o j n) := fun i' hi' h2 h0' k' hk => by
  unfold shE
  by_cases e : i' = o ∧ j ≤ k' ∧ k' < j + n
  · rw [if_pos e]
    rw [e.1, hso] at h0'
    exact h0 x hx hx2 h0' _ (by omega)
  · rw [if_neg e]; exact h0 i' hi' h2 h0' k' hk
end ChangeHelp
section Pairs2
variable {a : Nat → Nat} {t : Nat} {S : St}

theorem pr_card {m : Int32} (hI : Inv t S) : PrI a mX7_card mX8_card [.int m] S (Inv (t + 1)) := by
  obtain ⟨n, v, k, u, h, as, ld, l, im, bd, kd, T, sh, el, len, tp, b, ⟨cT, cH, cD, cI, cA, cS, cF, cL⟩, ⟨rT, rH, rD, rI, rA, rS, rF, rL⟩, oH, oD, oS, oB, oG, oT⟩ := id hI
  by_cases hb : 0 ≤ m ∧ CardOk (cX m) (cY m) (cZ m)
  · by_cases h8 : n < 8
    · refine Rqi.up (Rqi.of (s_X7_card hb cT.1 h8)) (by decide) (fun z S1 e1 => ?_)
      obtain ⟨rfl, e1⟩ := e1
      obtain ⟨p, q, r, hp, hq, hr, ep, eq, er⟩ := CardOk.nat hb.2
      have hk1 : Kp [1] S S1 := by rw [e1]; exact Kp_uI (Kp_uI (Kp_uI (Kp_uI Kp.rf (by show 1 ∈ [1]; decide)) (by show 1 ∈ [1]; decide)) (by show 1 ∈ [1]; decide)) (by decide)
      have c1 : TC (n + 1) (addV v n p q r) S1 := by rw [e1, ep, eq, er]; exact TC.add cT h8 hp hq hr
      have c2 : HC k u h S1 := by rw [e1]; exact cH.add (n := n)
      have rT1 := rT.kp hk1 (by decide)
      refine Rqi.up (Rqi.of (s_X8_card hb rT1.1 h8)) (by decide) (fun z' S2 e2 => ?_)
      obtain ⟨rfl, e2⟩ := e2
      have hk2 : Kp [11, 15] S1 S2 := by rw [e2]; exact Kp_uI (Kp_uI (Kp_uI (Kp_uI (Kp_uI Kp.rf (by show 11 ∈ [11, 15]; decide)) (by show 11 ∈ [11, 15]; decide)) (by show 11 ∈ [11, 15]; decide)) (by show 15 ∈ [11, 15]; decide)) (by decide)
      have r1 : TR (n + 1) (addV v n p q r) S2 := by rw [e2, ep, eq, er]; exact TR.add rT1 h8 hp hq hr
      have r2 : HR k u h S2 := by rw [e2]; exact (rH.kp hk1 (by decide)).add (n := n)
      have ka : Ka n S1 S2 := by rw [e2]; exact Ka.one
      exact ⟨rfl, ⟨n + 1, addV v n p q r, k, u, h, as, ld, l, im, bd, kd, T, sh, el, len, tp, b, ⟨(c1).kp hk2 (by decide), (c2).kp hk2 (by decide), (cD.kp hk1 (by decide)).kp hk2 (by decide), (cI.kp hk1 (by decide)).kp hk2 (by decide), (cA.kp hk1 (by decide)).kp hk2 (by decide), (cS.kp hk1 (by decide)).kp hk2 (by decide), (cF.kp hk1 (by decide)).kp hk2 (by decide), (cL.kp hk1 (by decide)).kp hk2 (by decide)⟩, ⟨r1, r2, (rD.kp hk1 (by decide)).ka ka oD.2.1, (rI.kp hk1 (by decide)).ka ka, (rA.kp hk1 (by decide)).kp hk2 (by decide), (rS.kp hk1 (by decide)).kp hk2 (by decide), (rF.kp hk1 (by decide)).kp hk2 (by decide), (rL.kp hk1 (by decide)).kp hk2 (by decide)⟩, oH.up (Nat.le_succ n), oD.up.wn (Nat.le_succ n), oS, oB, oG, oT⟩⟩
    · have e8 : n = 8 := by have := cT.2.1; omega
      exact PrI.s hI (s_X7_card_full hb (by rw [cT.1, e8])) (by decide) (s_X8_card_full hb (by rw [rT.1, e8])) (by decide)
  · exact PrI.s hI (s_X7_card_bad hb) (by decide) (s_X8_card_bad hb) (by decide)

theorem pr_cards {x y m : Int32} (hI : Inv t S) : PrI a mX7_cards mX8_cards [.int x, .int y, .int m] S (Inv (t + 1)) := by
  obtain ⟨n, v, k, u, h, as, ld, l, im, bd, kd, T, sh, el, len, tp, b, ⟨cT, cH, cD, cI, cA, cS, cF, cL⟩, ⟨rT, rH, rD, rI, rA, rS, rF, rL⟩, oH, oD, oS, oB, oG, oT⟩ := id hI
  by_cases hb : cdOk sh x y m
  · obtain ⟨⟨hx, hm1, hm8⟩, ⟨h2, h0⟩, hy⟩ := hb
    obtain ⟨i, hi, rfl⟩ := in_nI (n := 6) (by decide) hx
    have hcl : (nI i).toNatClampNeg = i := nI_clamp (by omega)
    rw [hcl] at h2 h0
    obtain ⟨s, hs, rfl⟩ := nI_ge0 hy
    obtain ⟨c, hc, rfl⟩ := nI_ge0 (Int32.le_trans (by decide) hm1)
    have k1 : 1 ≤ c := (nI_leI (a := 1) (b := c) (by decide) hc).mp hm1
    have k8 : c ≤ 8 := (nI_leI (a := c) (b := 8) hc (by decide)).mp hm8
    refine Rqi.up (s_X7_cards hi oS cT cH cS h2 h0 k1 k8 hs) (by decide) (fun z S1 e1 => ?_)
    obtain ⟨rfl, hk1, c1, c2⟩ := e1
    refine Rqi.up (g_X8_cards hi oS (rT.kp hk1 (by decide)) (rH.kp hk1 (by decide)) (rS.kp hk1 (by decide)) h2 h0 k1 k8 hs) (by decide) (fun z' S2 e2 => ?_)
    obtain ⟨rfl, hk2, r1, r2, ka⟩ := e2
    exact ⟨rfl, ⟨(cdF c (sh i 3) (el i) s n v).2.1, (cdF c (sh i 3) (el i) s n v).2.2, k, u, h, as, ld, l, im, bd, kd, T, sh, el, len, tp, b, ⟨(c1).kp hk2 (by decide), (c2).kp hk2 (by decide), (cD.kp hk1 (by decide)).kp hk2 (by decide), (cI.kp hk1 (by decide)).kp hk2 (by decide), (cA.kp hk1 (by decide)).kp hk2 (by decide), (cS.kp hk1 (by decide)).kp hk2 (by decide), (cF.kp hk1 (by decide)).kp hk2 (by decide), (cL.kp hk1 (by decide)).kp hk2 (by decide)⟩, ⟨r1, r2, (rD.kp hk1 (by decide)).ka ka oD.2.1, (rI.kp hk1 (by decide)).ka ka, (rA.kp hk1 (by decide)).kp hk2 (by decide), (rS.kp hk1 (by decide)).kp hk2 (by decide), (rF.kp hk1 (by decide)).kp hk2 (by decide), (rL.kp hk1 (by decide)).kp hk2 (by decide)⟩, oH.up (cdF_n _ _ _ _ _ _), oD.up.wn (cdF_n _ _ _ _ _ _), oS, oB, oG, oT⟩⟩
  · exact PrI.s hI (s_X7_cards_bad cS oS hb) (by decide) (s_X8_cards_bad rS oS hb) (by decide)

theorem pr_mend {x y z : Int32} (hI : Inv t S) : PrI a mX7_mend mX8_mend [.int x, .int y, .int z] S (Inv (t + 1)) := by
  obtain ⟨n, v, k, u, h, as, ld, l, im, bd, kd, T, sh, el, len, tp, b, ⟨cT, cH, cD, cI, cA, cS, cF, cL⟩, ⟨rT, rH, rD, rI, rA, rS, rF, rL⟩, oH, oD, oS, oB, oG, oT⟩ := id hI
  by_cases hb : ThOk n x y ∧ (0 ≤ z ∧ z ≤ nI (mostN y.toNatClampNeg))
  · obtain ⟨⟨hy, hx⟩, hz0, hz⟩ := hb
    obtain ⟨w, hw, rfl⟩ := in_nI (n := 12) (by decide) hy
    have hcl : (nI w).toNatClampNeg = w := nI_clamp (by omega)
    rw [hcl] at hx hz
    have hnl := numN_le (n := n) (w := w) cT.2.1
    have hml := mostN_le w
    obtain ⟨i, hi, rfl⟩ := in_nI (by omega) hx
    obtain ⟨q, hq0, rfl⟩ := nI_ge0 hz0
    have hq : q ≤ mostN w := (nI_leI (a := q) (b := mostN w) hq0 (by omega)).mp hz
    have hv : v w i ≤ mostN w := cT.2.2.2 w hw i (by omega)
    refine Rqi.up (s_X7_mend_ok cT cH hw hi hq) (by decide) (fun z S1 e1 => ?_)
    obtain ⟨rfl, hk1, c1, c2⟩ := e1
    refine Rqi.up (s_X8_mend_ok (rT.kp hk1 (by decide)) (rH.kp hk1 (by decide)) hw hi hq) (by decide) (fun z' S2 e2 => ?_)
    obtain ⟨rfl, hk2, r1, r2⟩ := e2
    by_cases e : q = v w i
    · rw [if_pos e] at c2 r2
      exact ⟨rfl, ⟨n, up2 v w i q, k, u, h, as, ld, l, im, bd, kd, T, sh, el, len, tp, b, ⟨(c1).kp hk2 (by decide), (c2).kp hk2 (by decide), (cD.kp hk1 (by decide)).kp hk2 (by decide), (cI.kp hk1 (by decide)).kp hk2 (by decide), (cA.kp hk1 (by decide)).kp hk2 (by decide), (cS.kp hk1 (by decide)).kp hk2 (by decide), (cF.kp hk1 (by decide)).kp hk2 (by decide), (cL.kp hk1 (by decide)).kp hk2 (by decide)⟩, ⟨r1, r2, (rD.kp hk1 (by decide)).kp hk2 (by decide), (rI.kp hk1 (by decide)).kp hk2 (by decide), (rA.kp hk1 (by decide)).kp hk2 (by decide), (rS.kp hk1 (by decide)).kp hk2 (by decide), (rF.kp hk1 (by decide)).kp hk2 (by decide), (rL.kp hk1 (by decide)).kp hk2 (by decide)⟩, oH, oD.up, oS, oB, oG, oT⟩⟩
    · rw [if_neg e] at c2 r2
      have hk40 : k ≤ 40 := by have := rH.2.2.1; omega
      exact ⟨rfl, ⟨n, up2 v w i q, pushK k, 0, pushH k h (mk4 i w (v w i) q), as, ld, l, im, bd, kd, T, sh, el, len, tp, b, ⟨(c1).kp hk2 (by decide), (c2).kp hk2 (by decide), (cD.kp hk1 (by decide)).kp hk2 (by decide), (cI.kp hk1 (by decide)).kp hk2 (by decide), (cA.kp hk1 (by decide)).kp hk2 (by decide), (cS.kp hk1 (by decide)).kp hk2 (by decide), (cF.kp hk1 (by decide)).kp hk2 (by decide), (cL.kp hk1 (by decide)).kp hk2 (by decide)⟩, ⟨r1, r2, (rD.kp hk1 (by decide)).kp hk2 (by decide), (rI.kp hk1 (by decide)).kp hk2 (by decide), (rA.kp hk1 (by decide)).kp hk2 (by decide), (rS.kp hk1 (by decide)).kp hk2 (by decide), (rF.kp hk1 (by decide)).kp hk2 (by decide), (rL.kp hk1 (by decide)).kp hk2 (by decide)⟩, oH.push hk40 hw hi hv hq, oD.up, oS, oB, oG, oT⟩⟩
  · exact PrI.s hI (s_X7_mend_bad cT hb) (by decide) (s_X8_mend_bad rT hb) (by decide)

theorem pr_feed {x : Int32} (hI : Inv t S) : PrI a mX7_feed mX8_feed [.int x] S (Inv (t + 1)) := by
  obtain ⟨n, v, k, u, h, as, ld, l, im, bd, kd, T, sh, el, len, tp, b, ⟨cT, cH, cD, cI, cA, cS, cF, cL⟩, ⟨rT, rH, rD, rI, rA, rS, rF, rL⟩, oH, oD, oS, oB, oG, oT⟩ := id hI
  by_cases hb : 0 ≤ x ∧ x < 256
  · obtain ⟨c, hc, rfl⟩ := in_nI (n := 256) (by decide) hb
    by_cases hl : len < 120
    · refine Rqi.up (Rqi.of (s_X7_feed cF hl hc)) (by decide) (fun z S1 e1 => ?_)
      obtain ⟨rfl, e1⟩ := e1
      have hk1 : Kp [2] S S1 := by rw [e1]; exact Kp_uI (Kp_uI Kp.rf (by show 2 ∈ [2]; decide)) (by decide)
      have c1 : FC (len + 1) (fun i => if i = len then c else tp i) S1 := by rw [e1]; exact cF.feed hl hc
      have rF1 := rF.kp hk1 (by decide)
      refine Rqi.up (Rqi.of (s_X8_feed rF1 hl hc)) (by decide) (fun z' S2 e2 => ?_)
      obtain ⟨rfl, e2⟩ := e2
      have hk2 : Kp [12] S1 S2 := by rw [e2]; exact Kp_uI (Kp_uI Kp.rf (by show 12 ∈ [12]; decide)) (by decide)
      have r1 : FR (len + 1) (fun i => if i = len then c else tp i) S2 := by rw [e2]; exact rF1.feed hl hc
      exact ⟨rfl, ⟨n, v, k, u, h, as, ld, l, im, bd, kd, T, sh, el, len + 1, fun i => if i = len then c else tp i, b, ⟨(cT.kp hk1 (by decide)).kp hk2 (by decide), (cH.kp hk1 (by decide)).kp hk2 (by decide), (cD.kp hk1 (by decide)).kp hk2 (by decide), (cI.kp hk1 (by decide)).kp hk2 (by decide), (cA.kp hk1 (by decide)).kp hk2 (by decide), (cS.kp hk1 (by decide)).kp hk2 (by decide), (c1).kp hk2 (by decide), (cL.kp hk1 (by decide)).kp hk2 (by decide)⟩, ⟨(rT.kp hk1 (by decide)).kp hk2 (by decide), (rH.kp hk1 (by decide)).kp hk2 (by decide), (rD.kp hk1 (by decide)).kp hk2 (by decide), (rI.kp hk1 (by decide)).kp hk2 (by decide), (rA.kp hk1 (by decide)).kp hk2 (by decide), (rS.kp hk1 (by decide)).kp hk2 (by decide), r1, (rL.kp hk1 (by decide)).kp hk2 (by decide)⟩, oH, oD.up, oS, oB, oG, oT⟩⟩
    · have e8 : len = 120 := by have := cF.2.1; omega
      subst e8
      exact PrI.s hI (s_X7_feed_full hb cF) (by decide) (s_X8_feed_full hb rF) (by decide)
  · exact PrI.s hI (s_X7_feed_bad hb) (by decide) (s_X8_feed_bad hb) (by decide)

theorem pr_law (hI : Inv t S) : PrI a mX7_law mX8_law [] S (Inv (t + 1)) := by
  obtain ⟨n, v, k, u, h, as, ld, l, im, bd, kd, T, sh, el, len, tp, b, ⟨cT, cH, cD, cI, cA, cS, cF, cL⟩, ⟨rT, rH, rD, rI, rA, rS, rF, rL⟩, oH, oD, oS, oB, oG, oT⟩ := id hI
  refine Rqi.up (s_X7_law cF cL) (by decide) (fun z S1 e1 => ?_)
  obtain ⟨rfl, c1, hk1, c2⟩ := e1
  refine Rqi.up (s_X8_law (rF.kp hk1 (by decide)) (rL.kp hk1 (by decide))) (by decide) (fun z' S2 e2 => ?_)
  obtain ⟨rfl, r1, hk2, r2⟩ := e2
  exact ⟨rfl, ⟨n, v, k, u, h, as, ld, l, im, bd, kd, T, sh, el, 0, tp, lawN (lawT len tp) b, ⟨(cT.kp hk1 (by decide)).kp hk2 (by decide), (cH.kp hk1 (by decide)).kp hk2 (by decide), (cD.kp hk1 (by decide)).kp hk2 (by decide), (cI.kp hk1 (by decide)).kp hk2 (by decide), (cA.kp hk1 (by decide)).kp hk2 (by decide), (cS.kp hk1 (by decide)).kp hk2 (by decide), (c1).kp hk2 (by decide), (c2).kp hk2 (by decide)⟩, ⟨(rT.kp hk1 (by decide)).kp hk2 (by decide), (rH.kp hk1 (by decide)).kp hk2 (by decide), (rD.kp hk1 (by decide)).kp hk2 (by decide), (rI.kp hk1 (by decide)).kp hk2 (by decide), (rA.kp hk1 (by decide)).kp hk2 (by decide), (rS.kp hk1 (by decide)).kp hk2 (by decide), r1, r2⟩, oH, oD.up, oS, oB, lawN_good cF.2.1 oG, oT⟩⟩

theorem pr_draw {x : Int32} (hI : Inv t S) : PrI a mX7_draw mX8_draw [.int x] S (Inv (t + 1)) := by
  obtain ⟨n, v, k, u, h, as, ld, l, im, bd, kd, T, sh, el, len, tp, b, ⟨cT, cH, cD, cI, cA, cS, cF, cL⟩, ⟨rT, rH, rD, rI, rA, rS, rF, rL⟩, oH, oD, oS, oB, oG, oT⟩ := id hI
  by_cases h0 : sumN (v 0) n = 0
  · exact PrI.s hI (s_X7_draw_0 cT h0) (by decide) (s_X8_draw_0 rT h0) (by decide)
  · have h0 : 0 < sumN (v 0) n := Nat.pos_of_ne_zero h0
    refine Rqi.up (s_X7_draw (x := x) cT cL oG cH cD cI h0) (by decide) (fun z S1 e1 => ?_)
    obtain ⟨rfl, hk1, c1, c2, c3, c4⟩ := e1
    refine Rqi.up (s_X8_draw (x := x) (rT.kp hk1 (by decide)) (rL.kp hk1 (by decide)) oG (rH.kp hk1 (by decide)) (rD.kp hk1 (by decide)) (rI.kp hk1 (by decide)) h0) (by decide) (fun z' S2 e2 => ?_)
    obtain ⟨rfl, hk2, r1, r2, r3, r4⟩ := e2
    have hdc := (dcd_ok (s := x) h0).1
    have hn8 := cT.2.1
    generalize dcd v n x = c at *
    generalize v (1 + dsd v b c (rnd x)) c = e at *
    have d1 : DOk (t + 1) n (up1 as c (as c + 1)) (c + 1) im := by
      refine ⟨fun i hi => ?_, fun i hi => ?_, by omega, oD.up.2.2.2⟩
      · unfold up1
        have := oD.1 i hi
        split
        · next q => rw [q] at this; omega
        · omega
      · unfold up1
        rw [if_neg (by omega)]; exact oD.2.1 i hi
    exact ⟨rfl, ⟨n, up2 v 0 c (v 0 c - 1), k, u, h, up1 as c (as c + 1), up1 ld e (ld e + 1), c + 1, im, bd, kd, T, sh, el, len, tp, b, ⟨(c1).kp hk2 (by decide), (c2).kp hk2 (by decide), (c3).kp hk2 (by decide), (c4).kp hk2 (by decide), (cA.kp hk1 (by decide)).kp hk2 (by decide), (cS.kp hk1 (by decide)).kp hk2 (by decide), (cF.kp hk1 (by decide)).kp hk2 (by decide), (cL.kp hk1 (by decide)).kp hk2 (by decide)⟩, ⟨r1, r2, r3, r4, (rA.kp hk1 (by decide)).kp hk2 (by decide), (rS.kp hk1 (by decide)).kp hk2 (by decide), (rF.kp hk1 (by decide)).kp hk2 (by decide), (rL.kp hk1 (by decide)).kp hk2 (by decide)⟩, oH, d1, oS, oB, oG, oT⟩⟩

theorem pr_putBack (ht : t ≤ 2 ^ 20) (hI : Inv t S) : PrI a mX7_putBack mX8_putBack [] S (Inv (t + 1)) := by
  obtain ⟨n, v, k, u, h, as, ld, l, im, bd, kd, T, sh, el, len, tp, b, ⟨cT, cH, cD, cI, cA, cS, cF, cL⟩, ⟨rT, rH, rD, rI, rA, rS, rF, rL⟩, oH, oD, oS, oB, oG, oT⟩ := id hI
  have ha : ∀ i, i < 8 → as i ≤ 2 ^ 20 := fun i hi => Nat.le_trans (oD.1 i hi) ht
  refine Rqi.up (s_X7_putBack cT cH cD cI ha) (by decide) (fun z S1 e1 => ?_)
  obtain ⟨rfl, c1, c2, c3, c4, hk1⟩ := e1
  refine Rqi.up (s_X8_putBack (rT.kp hk1 (by decide)) (rH.kp hk1 (by decide)) (rD.kp hk1 (by decide)) (rI.kp hk1 (by decide)) ha) (by decide) (fun z' S2 e2 => ?_)
  obtain ⟨rfl, r1, r2, r3, r4, hk2⟩ := e2
  have hn8 := cT.2.1
  have z8 : seg1 as (fun _ => 0) 8 = fun _ => 0 := by
    funext i
    unfold seg1
    split
    · rfl
    · exact oD.2.1 i (by omega)
  have zn : seg1 as (fun _ => 0) n = fun _ => 0 := by
    funext i
    unfold seg1
    split
    · rfl
    · exact oD.2.1 i (by omega)
  rw [z8] at c3
  rw [zn] at r3
  have r1' : TR n (seg v (mn9 v as) 8) S2 := r1.congr (fun w i hi => by
    unfold seg
    by_cases e : w = 0 ∧ i < n
    · rw [if_pos e, if_pos (by omega)]
    · rw [if_neg e]
      by_cases e2 : w = 0
      · subst e2
        rw [if_pos ⟨rfl, hi⟩]
        have h9 := cT.many9 hi
        have h0 := oD.2.1 i (by omega)
        unfold mn9
        split <;> omega
      · rw [if_neg (fun z => e2 z.1)])
  have d1 : DOk (t + 1) n (fun _ => 0) l im := ⟨fun i _ => Nat.zero_le _, fun i _ => rfl, oD.2.2.1, oD.up.2.2.2⟩
  exact ⟨by rw [sumN_tail oD.2.1 8 hn8], ⟨n, seg v (mn9 v as) 8, k, u, h, fun _ => 0, ld, l, im, bd, kd, T, sh, el, len, tp, b, ⟨(c1).kp hk2 (by decide), (c2).kp hk2 (by decide), (c3).kp hk2 (by decide), (c4).kp hk2 (by decide), (cA.kp hk1 (by decide)).kp hk2 (by decide), (cS.kp hk1 (by decide)).kp hk2 (by decide), (cF.kp hk1 (by decide)).kp hk2 (by decide), (cL.kp hk1 (by decide)).kp hk2 (by decide)⟩, ⟨r1', r2, r3, r4, (rA.kp hk1 (by decide)).kp hk2 (by decide), (rS.kp hk1 (by decide)).kp hk2 (by decide), (rF.kp hk1 (by decide)).kp hk2 (by decide), (rL.kp hk1 (by decide)).kp hk2 (by decide)⟩, oH, d1, oS, oB, oG, oT⟩⟩

theorem pr_image (hI : Inv t S) : PrI a mX7_image mX8_image [] S (Inv (t + 1)) := by
  obtain ⟨n, v, k, u, h, as, ld, l, im, bd, kd, T, sh, el, len, tp, b, ⟨cT, cH, cD, cI, cA, cS, cF, cL⟩, ⟨rT, rH, rD, rI, rA, rS, rF, rL⟩, oH, oD, oS, oB, oG, oT⟩ := id hI
  refine Rqi.up (s_X7_image cT cH cD) (by decide) (fun z S1 e1 => ?_)
  obtain ⟨rfl, hk1, c1, c2⟩ := e1
  refine Rqi.up (s_X8_image (rT.kp hk1 (by decide)) (rD.kp hk1 (by decide))) (by decide) (fun z' S2 e2 => ?_)
  obtain ⟨rfl, hk2, r1, r2⟩ := e2
  have hn8 := cT.2.1
  have d1 : DOk (t + 1) n as l (some (n, v 0, as, ld, l)) := ⟨oD.up.1, oD.2.1, oD.2.2.1, fun m hm => by
    cases hm
    exact ⟨Nat.le_refl _, fun i (hi : i < n) => ⟨cT.many9 (by omega), oD.up.1 i (by omega)⟩, oD.2.2.1⟩⟩
  exact ⟨rfl, ⟨n, v, k, u, h, as, ld, l, some (n, v 0, as, ld, l), bd, kd, T, sh, el, len, tp, b, ⟨(cT.kp hk1 (by decide)).kp hk2 (by decide), (cH.kp hk1 (by decide)).kp hk2 (by decide), (c1).kp hk2 (by decide), (c2).kp hk2 (by decide), (cA.kp hk1 (by decide)).kp hk2 (by decide), (cS.kp hk1 (by decide)).kp hk2 (by decide), (cF.kp hk1 (by decide)).kp hk2 (by decide), (cL.kp hk1 (by decide)).kp hk2 (by decide)⟩, ⟨(rT.kp hk1 (by decide)).kp hk2 (by decide), (rH.kp hk1 (by decide)).kp hk2 (by decide), r1, r2, (rA.kp hk1 (by decide)).kp hk2 (by decide), (rS.kp hk1 (by decide)).kp hk2 (by decide), (rF.kp hk1 (by decide)).kp hk2 (by decide), (rL.kp hk1 (by decide)).kp hk2 (by decide)⟩, oH, d1, oS, oB, oG, oT⟩⟩

theorem pr_back (hI : Inv t S) : PrI a mX7_back mX8_back [] S (Inv (t + 1)) := by
  obtain ⟨n, v, k, u, h, as, ld, l, im, bd, kd, T, sh, el, len, tp, b, ⟨cT, cH, cD, cI, cA, cS, cF, cL⟩, ⟨rT, rH, rD, rI, rA, rS, rF, rL⟩, oH, oD, oS, oB, oG, oT⟩ := id hI
  rcases im with _ | m
  · exact PrI.s hI (s_X7_back_0 cI) (by decide) (s_X8_back_0 rI) (by decide)
  · obtain ⟨hm, hmi, hml⟩ := oD.2.2.2 m rfl
    refine Rqi.up (s_X7_back cT cH cD cI hm (fun i hi => (hmi i hi).1)) (by decide) (fun z S1 e1 => ?_)
    obtain ⟨rfl, c1, c2, c3, c4, hk1⟩ := e1
    refine Rqi.up (s_X8_back (rT.kp hk1 (by decide)) (rH.kp hk1 (by decide)) (rD.kp hk1 (by decide)) (rI.kp hk1 (by decide)) hm (fun i hi => (hmi i hi).1)) (by decide) (fun z' S2 e2 => ?_)
    obtain ⟨rfl, r1, r2, r3, r4, hk2⟩ := e2
    have d1 : DOk (t + 1) n (seg1 as m.2.2.1 m.1) m.2.2.2.2 (some m) := by
      refine ⟨fun i hi => ?_, fun i hi => ?_, hml, oD.up.2.2.2⟩
      · unfold seg1
        split
        · next q => exact Nat.le_succ_of_le (hmi i q).2
        · exact oD.up.1 i hi
      · unfold seg1
        rw [if_neg (by omega)]; exact oD.2.1 i hi
    exact ⟨rfl, ⟨n, seg v m.2.1 m.1, k, u, h, seg1 as m.2.2.1 m.1, m.2.2.2.1, m.2.2.2.2, some m, bd, kd, T, sh, el, len, tp, b, ⟨(c1).kp hk2 (by decide), (c2).kp hk2 (by decide), (c3).kp hk2 (by decide), (c4).kp hk2 (by decide), (cA.kp hk1 (by decide)).kp hk2 (by decide), (cS.kp hk1 (by decide)).kp hk2 (by decide), (cF.kp hk1 (by decide)).kp hk2 (by decide), (cL.kp hk1 (by decide)).kp hk2 (by decide)⟩, ⟨r1, r2, r3, r4, (rA.kp hk1 (by decide)).kp hk2 (by decide), (rS.kp hk1 (by decide)).kp hk2 (by decide), (rF.kp hk1 (by decide)).kp hk2 (by decide), (rL.kp hk1 (by decide)).kp hk2 (by decide)⟩, oH, d1, oS, oB, oG, oT⟩⟩

theorem pr_undo (hI : Inv t S) : PrI a mX7_undo mX8_undo [] S (Inv (t + 1)) := by
  obtain ⟨n, v, k, u, h, as, ld, l, im, bd, kd, T, sh, el, len, tp, b, ⟨cT, cH, cD, cI, cA, cS, cF, cL⟩, ⟨rT, rH, rD, rI, rA, rS, rF, rL⟩, oH, oD, oS, oB, oG, oT⟩ := id hI
  rcases k with _ | k
  · exact PrI.s hI (s_X7_undo0 cH) (by decide) (s_X8_undo0 rH) (by decide)
  · refine Rqi.up (s_X7_undo cT cH oH) (by decide) (fun z S1 e1 => ?_)
    obtain ⟨rfl, hk1, c1, c2⟩ := e1
    refine Rqi.up (s_X8_undo (rT.kp hk1 (by decide)) (rH.kp hk1 (by decide)) oH) (by decide) (fun z' S2 e2 => ?_)
    obtain ⟨rfl, hk2, r1, r2⟩ := e2
    have o1 : Hok n k (u + 1) h := fun i hi => oH i (by omega)
    exact ⟨rfl, ⟨n, up2 v (h k 1) (h k 0) (h k 2), k, u + 1, h, as, ld, l, im, bd, kd, T, sh, el, len, tp, b, ⟨(c1).kp hk2 (by decide), (c2).kp hk2 (by decide), (cD.kp hk1 (by decide)).kp hk2 (by decide), (cI.kp hk1 (by decide)).kp hk2 (by decide), (cA.kp hk1 (by decide)).kp hk2 (by decide), (cS.kp hk1 (by decide)).kp hk2 (by decide), (cF.kp hk1 (by decide)).kp hk2 (by decide), (cL.kp hk1 (by decide)).kp hk2 (by decide)⟩, ⟨r1, r2, (rD.kp hk1 (by decide)).kp hk2 (by decide), (rI.kp hk1 (by decide)).kp hk2 (by decide), (rA.kp hk1 (by decide)).kp hk2 (by decide), (rS.kp hk1 (by decide)).kp hk2 (by decide), (rF.kp hk1 (by decide)).kp hk2 (by decide), (rL.kp hk1 (by decide)).kp hk2 (by decide)⟩, o1, oD.up, oS, oB, oG, oT⟩⟩

theorem pr_redo (hI : Inv t S) : PrI a mX7_redo mX8_redo [] S (Inv (t + 1)) := by
  obtain ⟨n, v, k, u, h, as, ld, l, im, bd, kd, T, sh, el, len, tp, b, ⟨cT, cH, cD, cI, cA, cS, cF, cL⟩, ⟨rT, rH, rD, rI, rA, rS, rF, rL⟩, oH, oD, oS, oB, oG, oT⟩ := id hI
  rcases u with _ | u
  · exact PrI.s hI (s_X7_redo0 cH) (by decide) (s_X8_redo0 rH) (by decide)
  · refine Rqi.up (s_X7_redo cT cH oH) (by decide) (fun z S1 e1 => ?_)
    obtain ⟨rfl, hk1, c1, c2⟩ := e1
    refine Rqi.up (s_X8_redo (rT.kp hk1 (by decide)) (rH.kp hk1 (by decide)) oH) (by decide) (fun z' S2 e2 => ?_)
    obtain ⟨rfl, hk2, r1, r2⟩ := e2
    have o1 : Hok n (k + 1) u h := fun i hi => oH i (by omega)
    exact ⟨rfl, ⟨n, up2 v (h k 1) (h k 0) (h k 3), k + 1, u, h, as, ld, l, im, bd, kd, T, sh, el, len, tp, b, ⟨(c1).kp hk2 (by decide), (c2).kp hk2 (by decide), (cD.kp hk1 (by decide)).kp hk2 (by decide), (cI.kp hk1 (by decide)).kp hk2 (by decide), (cA.kp hk1 (by decide)).kp hk2 (by decide), (cS.kp hk1 (by decide)).kp hk2 (by decide), (cF.kp hk1 (by decide)).kp hk2 (by decide), (cL.kp hk1 (by decide)).kp hk2 (by decide)⟩, ⟨r1, r2, (rD.kp hk1 (by decide)).kp hk2 (by decide), (rI.kp hk1 (by decide)).kp hk2 (by decide), (rA.kp hk1 (by decide)).kp hk2 (by decide), (rS.kp hk1 (by decide)).kp hk2 (by decide), (rF.kp hk1 (by decide)).kp hk2 (by decide), (rL.kp hk1 (by decide)).kp hk2 (by decide)⟩, o1, oD.up, oS, oB, oG, oT⟩⟩

theorem pr_body {x : Int32} (hI : Inv t S) : PrI a mX7_body mX8_body [.int x] S (Inv (t + 1)) := by
  obtain ⟨n, v, k, u, h, as, ld, l, im, bd, kd, T, sh, el, len, tp, b, ⟨cT, cH, cD, cI, cA, cS, cF, cL⟩, ⟨rT, rH, rD, rI, rA, rS, rF, rL⟩, oH, oD, oS, oB, oG, oT⟩ := id hI
  by_cases hb : 0 ≤ x ∧ x < 8
  · obtain ⟨c, hc, rfl⟩ := in_nI (n := 8) (by decide) hb
    by_cases hl : bd < 50
    · refine Rqi.up (Rqi.of (s_X7_body hc cA hl)) (by decide) (fun z S1 e1 => ?_)
      obtain ⟨rfl, e1⟩ := e1
      have hk1 : Kp [6] S S1 := by rw [e1]; exact Kp_uI (Kp_uI Kp.rf (by show 6 ∈ [6]; decide)) (by decide)
      have c1 : AC (bd + 1) (upk kd bd c) T S1 := by rw [e1]; exact cA.body hl hc
      have rA1 := rA.kp hk1 (by decide)
      refine Rqi.up (Rqi.of (s_X8_body hc rA1 hl)) (by decide) (fun z' S2 e2 => ?_)
      obtain ⟨rfl, e2⟩ := e2
      have hk2 : Kp [16] S1 S2 := by rw [e2]; exact Kp_uI (Kp_uI Kp.rf (by show 16 ∈ [16]; decide)) (by decide)
      have r1 : AR (bd + 1) (upk kd bd c) T S2 := by rw [e2]; exact rA1.body hl hc
      exact ⟨rfl, ⟨n, v, k, u, h, as, ld, l, im, bd + 1, upk kd bd c, T, sh, el, len, tp, b, ⟨(cT.kp hk1 (by decide)).kp hk2 (by decide), (cH.kp hk1 (by decide)).kp hk2 (by decide), (cD.kp hk1 (by decide)).kp hk2 (by decide), (cI.kp hk1 (by decide)).kp hk2 (by decide), (c1).kp hk2 (by decide), (cS.kp hk1 (by decide)).kp hk2 (by decide), (cF.kp hk1 (by decide)).kp hk2 (by decide), (cL.kp hk1 (by decide)).kp hk2 (by decide)⟩, ⟨(rT.kp hk1 (by decide)).kp hk2 (by decide), (rH.kp hk1 (by decide)).kp hk2 (by decide), (rD.kp hk1 (by decide)).kp hk2 (by decide), (rI.kp hk1 (by decide)).kp hk2 (by decide), r1, (rS.kp hk1 (by decide)).kp hk2 (by decide), (rF.kp hk1 (by decide)).kp hk2 (by decide), (rL.kp hk1 (by decide)).kp hk2 (by decide)⟩, oH, oD.up, oS.up hl, oB, oG, oT⟩⟩
    · have e8 : bd = 50 := by have := cA.2.1; omega
      subst e8
      exact PrI.s hI (s_X7_body_full hb cA) (by decide) (s_X8_body_full hb rA) (by decide)
  · exact PrI.s hI (s_X7_body_bad hb) (by decide) (s_X8_body_bad hb) (by decide)

theorem pr_act {i y x : Int32} (hI : Inv t S) : PrI a mX7_act mX8_act [.int i, .int y, .int x] S (Inv (t + 1)) := by
  obtain ⟨n, v, k, u, h, as, ld, l, im, bd, kd, T, sh, el, len, tp, b, ⟨cT, cH, cD, cI, cA, cS, cF, cL⟩, ⟨rT, rH, rD, rI, rA, rS, rF, rL⟩, oH, oD, oS, oB, oG, oT⟩ := id hI
  refine Rqi.up (s_X7_act (i := i) (y := y) (x := x) cA) (by decide) (fun z S1 e1 => ?_)
  obtain ⟨rfl, c1, hk1⟩ := e1
  refine Rqi.up (s_X8_act (i := i) (y := y) (x := x) (rA.kp hk1 (by decide))) (by decide) (fun z' S2 e2 => ?_)
  obtain ⟨rfl, r1, hk2⟩ := e2
  exact ⟨rfl, ⟨n, v, k, u, h, as, ld, l, im, bd, kd, (actV bd kd i y x).2, sh, el, len, tp, b, ⟨(cT.kp hk1 (by decide)).kp hk2 (by decide), (cH.kp hk1 (by decide)).kp hk2 (by decide), (cD.kp hk1 (by decide)).kp hk2 (by decide), (cI.kp hk1 (by decide)).kp hk2 (by decide), (c1).kp hk2 (by decide), (cS.kp hk1 (by decide)).kp hk2 (by decide), (cF.kp hk1 (by decide)).kp hk2 (by decide), (cL.kp hk1 (by decide)).kp hk2 (by decide)⟩, ⟨(rT.kp hk1 (by decide)).kp hk2 (by decide), (rH.kp hk1 (by decide)).kp hk2 (by decide), (rD.kp hk1 (by decide)).kp hk2 (by decide), (rI.kp hk1 (by decide)).kp hk2 (by decide), r1, (rS.kp hk1 (by decide)).kp hk2 (by decide), (rF.kp hk1 (by decide)).kp hk2 (by decide), (rL.kp hk1 (by decide)).kp hk2 (by decide)⟩, oH, oD.up, oS, oB, oG, actV_len _ _ _ _ _⟩⟩

theorem pr_keep {x y : Int32} (hI : Inv t S) : PrI a mX7_keep mX8_keep [.int x, .int y] S (Inv (t + 1)) := by
  obtain ⟨n, v, k, u, h, as, ld, l, im, bd, kd, T, sh, el, len, tp, b, ⟨cT, cH, cD, cI, cA, cS, cF, cL⟩, ⟨rT, rH, rD, rI, rA, rS, rF, rL⟩, oH, oD, oS, oB, oG, oT⟩ := id hI
  by_cases hb : kpB bd x y
  · obtain ⟨hx, hy1, hy2⟩ := hb
    obtain ⟨i, hi, rfl⟩ := in_nI (n := 6) (by decide) hx
    rcases m1_or hy1 with rfl | hy
    · refine Rqi.up (Rqi.of (s_X7_keep_none hi cA.1 cA.2.1)) (by decide) (fun z S1 e1 => ?_)
      obtain ⟨rfl, e1⟩ := e1
      have hk1 : Kp [7] S S1 := by rw [e1]; exact Kp_uI (Kp_uI Kp.rf (by rw [rg_sh hi]; decide)) (by rw [rg_sh hi]; decide)
      have c1 : SC (upS sh i 0 0) el S1 := by rw [e1]; exact cS.none
      have rS1 := rS.kp hk1 (by decide)
      refine Rqi.up (Rqi.of (s_X8_keep_none hi)) (by decide) (fun z' S2 e2 => ?_)
      obtain ⟨rfl, e2⟩ := e2
      have hk2 : Kp [17] S1 S2 := by rw [e2]; exact Kp_uI Kp.rf (by show 17 ∈ [17]; decide)
      have r1 : SR (upS sh i 0 0) el S2 := by rw [e2]; exact rS1.none
      exact ⟨rfl, ⟨n, v, k, u, h, as, ld, l, im, bd, kd, T, (upS sh i 0 0), el, len, tp, b, ⟨(cT.kp hk1 (by decide)).kp hk2 (by decide), (cH.kp hk1 (by decide)).kp hk2 (by decide), (cD.kp hk1 (by decide)).kp hk2 (by decide), (cI.kp hk1 (by decide)).kp hk2 (by decide), (cA.kp hk1 (by decide)).kp hk2 (by decide), (c1).kp hk2 (by decide), (cF.kp hk1 (by decide)).kp hk2 (by decide), (cL.kp hk1 (by decide)).kp hk2 (by decide)⟩, ⟨(rT.kp hk1 (by decide)).kp hk2 (by decide), (rH.kp hk1 (by decide)).kp hk2 (by decide), (rD.kp hk1 (by decide)).kp hk2 (by decide), (rI.kp hk1 (by decide)).kp hk2 (by decide), (rA.kp hk1 (by decide)).kp hk2 (by decide), r1, (rF.kp hk1 (by decide)).kp hk2 (by decide), (rL.kp hk1 (by decide)).kp hk2 (by decide)⟩, oH, oD.up, oS.none, oB.up (by decide) (by decide), oG, oT⟩⟩
    · obtain ⟨j, hj, rfl⟩ := in_nI (n := bd) (by have := cA.2.1; omega) ⟨hy, hy2⟩
      refine Rqi.up (Rqi.of (s_X7_keep_body hi cA.1 cA.2.1 hj)) (by decide) (fun z S1 e1 => ?_)
      obtain ⟨rfl, e1⟩ := e1
      have hk1 : Kp [7] S S1 := by rw [e1]; exact Kp_uI (Kp_uI Kp.rf (by rw [rg_sh hi]; decide)) (by rw [rg_sh hi]; decide)
      have c1 : SC (upS (upS sh i 0 1) i 1 j) el S1 := by rw [e1]; exact cS.body
      have rS1 := rS.kp hk1 (by decide)
      refine Rqi.up (Rqi.of (s_X8_keep_body hi (rA.kp hk1 (by decide)).1 rA.2.1 hj)) (by decide) (fun z' S2 e2 => ?_)
      obtain ⟨rfl, e2⟩ := e2
      have hk2 : Kp [17] S1 S2 := by rw [e2]; exact Kp_uI Kp.rf (by show 17 ∈ [17]; decide)
      have r1 : SR (upS (upS sh i 0 1) i 1 j) el S2 := by rw [e2]; exact rS1.body
      exact ⟨rfl, ⟨n, v, k, u, h, as, ld, l, im, bd, kd, T, (upS (upS sh i 0 1) i 1 j), el, len, tp, b, ⟨(cT.kp hk1 (by decide)).kp hk2 (by decide), (cH.kp hk1 (by decide)).kp hk2 (by decide), (cD.kp hk1 (by decide)).kp hk2 (by decide), (cI.kp hk1 (by decide)).kp hk2 (by decide), (cA.kp hk1 (by decide)).kp hk2 (by decide), (c1).kp hk2 (by decide), (cF.kp hk1 (by decide)).kp hk2 (by decide), (cL.kp hk1 (by decide)).kp hk2 (by decide)⟩, ⟨(rT.kp hk1 (by decide)).kp hk2 (by decide), (rH.kp hk1 (by decide)).kp hk2 (by decide), (rD.kp hk1 (by decide)).kp hk2 (by decide), (rI.kp hk1 (by decide)).kp hk2 (by decide), (rA.kp hk1 (by decide)).kp hk2 (by decide), r1, (rF.kp hk1 (by decide)).kp hk2 (by decide), (rL.kp hk1 (by decide)).kp hk2 (by decide)⟩, oH, oD.up, oS.body hj, (oB.up (by decide) (by decide)).up (by omega) (by decide), oG, oT⟩⟩
  · exact PrI.s hI (s_X7_keep_bad cA.1 hb) (by decide) (s_X8_keep_bad rA.1 rA.2.1 hb) (by decide)

theorem pr_row {x y z : Int32} (hI : Inv t S) : PrI a mX7_row mX8_row [.int x, .int y, .int z] S (Inv (t + 1)) := by
  obtain ⟨n, v, k, u, h, as, ld, l, im, bd, kd, T, sh, el, len, tp, b, ⟨cT, cH, cD, cI, cA, cS, cF, cL⟩, ⟨rT, rH, rD, rI, rA, rS, rF, rL⟩, oH, oD, oS, oB, oG, oT⟩ := id hI
  by_cases hb : ((0 ≤ x ∧ x < 6) ∧ (0 ≤ y ∧ y < 5) ∧ z ≤ 60) ∧ 0 ≤ z
  · obtain ⟨⟨hx, hy, hz6⟩, hz0⟩ := hb
    obtain ⟨i, hi, rfl⟩ := in_nI (n := 6) (by decide) hx
    obtain ⟨so, hs, rfl⟩ := in_nI (n := 5) (by decide) hy
    obtain ⟨ln, hl0, rfl⟩ := nI_ge0 hz0
    have hl : ln ≤ 60 := (nI_leI (a := ln) (b := 60) hl0 (by decide)).mp hz6
    refine Rqi.up (Rqi.of (s_X7_row hi hs hl)) (by decide) (fun z S1 e1 => ?_)
    obtain ⟨rfl, e1⟩ := e1
    have hk1 : Kp [7] S S1 := by
      rw [e1]
      exact Kp_zL (Kp_uI (Kp_uI (Kp_uI Kp.rf (by rw [rg_sh hi]; decide)) (by rw [rg_sh hi]; decide)) (by rw [rg_sh hi]; decide)) (fun q => by rw [rg_el hi]; decide)
    have c1 : SC (upR sh i so ln) (zE el i) S1 := by rw [e1]; exact cS.row
    have rS1 := rS.kp hk1 (by decide)
    refine Rqi.up (Rqi.of (s_X8_row hi hs hl)) (by decide) (fun z' S2 e2 => ?_)
    obtain ⟨rfl, e2⟩ := e2
    have hk2 : Kp [17] S1 S2 := by
      rw [e2]
      exact Kp_zL (Kp_uI (Kp_uI Kp.rf (by show 17 ∈ [17]; decide)) (by show 17 ∈ [17]; decide)) (fun q => by show 17 ∈ [17]; decide)
    have r1 : SR (upR sh i so ln) (zE el i) S2 := by rw [e2]; exact rS1.row
    exact ⟨rfl, ⟨n, v, k, u, h, as, ld, l, im, bd, kd, T, upR sh i so ln, zE el i, len, tp, b, ⟨(cT.kp hk1 (by decide)).kp hk2 (by decide), (cH.kp hk1 (by decide)).kp hk2 (by decide), (cD.kp hk1 (by decide)).kp hk2 (by decide), (cI.kp hk1 (by decide)).kp hk2 (by decide), (cA.kp hk1 (by decide)).kp hk2 (by decide), (c1).kp hk2 (by decide), (cF.kp hk1 (by decide)).kp hk2 (by decide), (cL.kp hk1 (by decide)).kp hk2 (by decide)⟩, ⟨(rT.kp hk1 (by decide)).kp hk2 (by decide), (rH.kp hk1 (by decide)).kp hk2 (by decide), (rD.kp hk1 (by decide)).kp hk2 (by decide), (rI.kp hk1 (by decide)).kp hk2 (by decide), (rA.kp hk1 (by decide)).kp hk2 (by decide), r1, (rF.kp hk1 (by decide)).kp hk2 (by decide), (rL.kp hk1 (by decide)).kp hk2 (by decide)⟩, oH, oD.up, oS.row hs hl, oB.row, oG, oT⟩⟩
  · exact PrI.s hI (s_X7_row_bad hb) (by decide) (s_X8_row_bad hb) (by decide)

theorem pr_put {x y : Int32} {w : Int64} (hI : Inv t S) : PrI a mX7_put mX8_put [.int x, .int y, .long w] S (Inv (t + 1)) := by
  obtain ⟨n, v, k, u, h, as, ld, l, im, bd, kd, T, sh, el, len, tp, b, ⟨cT, cH, cD, cI, cA, cS, cF, cL⟩, ⟨rT, rH, rD, rI, rA, rS, rF, rL⟩, oH, oD, oS, oB, oG, oT⟩ := id hI
  by_cases hb : refV sh x y < 0
  · exact PrI.s hI (s_X7_put_bad cS oS hb) (by decide) (s_X8_put_bad rS oS hb) (by decide)
  · obtain ⟨i, c, hi, rfl, rfl, h2, hc3, hc, hr⟩ := refV_ok hb oS
    refine Rqi.up (Rqi.of (s_X7_put (v := w) cS oS hi hc h2 hr)) (by decide) (fun z S1 e1 => ?_)
    obtain ⟨rfl, e1⟩ := e1
    have hk1 : Kp [7] S S1 := by rw [e1]; exact Kp_uL Kp.rf (by rw [rg_el hi]; decide)
    have c1 : SC sh (upE el i c (keptV (sh i 2) w)) S1 := by rw [e1]; exact cS.put hi
    have rS1 := rS.kp hk1 (by decide)
    refine Rqi.up (Rqi.of (s_X8_put (v := w) rS1 oS hi hc h2 hr)) (by decide) (fun z' S2 e2 => ?_)
    obtain ⟨rfl, e2⟩ := e2
    have hk2 : Kp [17] S1 S2 := by rw [e2]; exact Kp_uL Kp.rf (by show 17 ∈ [17]; decide)
    have r1 : SR sh (upE el i c (keptV (sh i 2) w)) S2 := by rw [e2]; exact rS1.put hi hc
    exact ⟨rfl, ⟨n, v, k, u, h, as, ld, l, im, bd, kd, T, sh, upE el i c (keptV (sh i 2) w), len, tp, b, ⟨(cT.kp hk1 (by decide)).kp hk2 (by decide), (cH.kp hk1 (by decide)).kp hk2 (by decide), (cD.kp hk1 (by decide)).kp hk2 (by decide), (cI.kp hk1 (by decide)).kp hk2 (by decide), (cA.kp hk1 (by decide)).kp hk2 (by decide), (c1).kp hk2 (by decide), (cF.kp hk1 (by decide)).kp hk2 (by decide), (cL.kp hk1 (by decide)).kp hk2 (by decide)⟩, ⟨(rT.kp hk1 (by decide)).kp hk2 (by decide), (rH.kp hk1 (by decide)).kp hk2 (by decide), (rD.kp hk1 (by decide)).kp hk2 (by decide), (rI.kp hk1 (by decide)).kp hk2 (by decide), (rA.kp hk1 (by decide)).kp hk2 (by decide), r1, (rF.kp hk1 (by decide)).kp hk2 (by decide), (rL.kp hk1 (by decide)).kp hk2 (by decide)⟩, oH, oD.up, oS, oB.put, oG, oT⟩⟩

theorem pr_shift {x i o j q : Int32} (hI : Inv t S) : PrI a mX7_shift mX8_shift [.int x, .int i, .int o, .int j, .int q] S (Inv (t + 1)) := by
  obtain ⟨n, v, k, u, h, as, ld, l, im, bd, kd, T, sh, el, len, tp, b, ⟨cT, cH, cD, cI, cA, cS, cF, cL⟩, ⟨rT, rH, rD, rI, rA, rS, rF, rL⟩, oH, oD, oS, oB, oG, oT⟩ := id hI
  by_cases hb : shOk sh x i o j q
  · obtain ⟨x', i', o', j', n', rfl, rfl, rfl, rfl, rfl, hx, ho, hx2, ho2, hso, hi, hj⟩ := shOk_iff oS hb
    have b1 := (oS.2 x' hx).2.2.2
    have b2 := (oS.2 o' ho).2.2.2
    refine Rqi.up (Rqi.of (s_X7_shift cS oS hx ho hx2 ho2 hso hi hj)) (by decide) (fun z S1 e1 => ?_)
    obtain ⟨rfl, e1⟩ := e1
    have hk1 : Kp [7] S S1 := by rw [e1]; exact Kp_sL Kp.rf (fun k => by rw [rg_el ho]; decide)
    have c1 : SC sh (shE el x' i' o' j' n') S1 := by rw [e1]; exact cS.shift hx ho (by omega) (by omega)
    have rS1 := rS.kp hk1 (by decide)
    refine Rqi.up (Rqi.of (s_X8_shift rS1 oS hx ho hx2 ho2 hso hi hj)) (by decide) (fun z' S2 e2 => ?_)
    obtain ⟨rfl, e2⟩ := e2
    have hk2 : Kp [14, 17] S1 S2 := by rw [e2]; exact Kp_mL (Kp_mL Kp.rf (fun k => by show 14 ∈ [14, 17]; decide)) (fun k => by show 17 ∈ [14, 17]; decide)
    have r1 : SR sh (shE el x' i' o' j' n') S2 := by rw [e2]; exact rS1.shift hx ho (by omega) (by omega)
    exact ⟨rfl, ⟨n, v, k, u, h, as, ld, l, im, bd, kd, T, sh, shE el x' i' o' j' n', len, tp, b, ⟨(cT.kp hk1 (by decide)).kp hk2 (by decide), (cH.kp hk1 (by decide)).kp hk2 (by decide), (cD.kp hk1 (by decide)).kp hk2 (by decide), (cI.kp hk1 (by decide)).kp hk2 (by decide), (cA.kp hk1 (by decide)).kp hk2 (by decide), (c1).kp hk2 (by decide), (cF.kp hk1 (by decide)).kp hk2 (by decide), (cL.kp hk1 (by decide)).kp hk2 (by decide)⟩, ⟨(rT.kp hk1 (by decide)).kp hk2 (by decide), (rH.kp hk1 (by decide)).kp hk2 (by decide), (rD.kp hk1 (by decide)).kp hk2 (by decide), (rI.kp hk1 (by decide)).kp hk2 (by decide), (rA.kp hk1 (by decide)).kp hk2 (by decide), r1, (rF.kp hk1 (by decide)).kp hk2 (by decide), (rL.kp hk1 (by decide)).kp hk2 (by decide)⟩, oH, oD.up, oS, oB.shift hx hx2 hso (by omega), oG, oT⟩⟩
  · exact PrI.s hI (s_X7_shift_bad cS oS hb) (by decide) (s_X8_shift_bad rS oS hb) (by decide)

end Pairs2
