/-! the law, from the new hat on -/
section Top
variable {a : Nat → Nat} {n b Ls : Nat} {v : Nat → Nat → Nat} {bb : Option (List Line)} {xs : Nat → Int32}

theorem law_31 {g : GG} (hR : HR a g) (hN : 61 < NC a) (hl : xl a 61 = n) (hn7 : n ≤ 7) (hg : GoodB bb) (hE : HE g a b Ls xs) (hL : Ls ≤ 260) {S : St} (h : LW0 n v bb S) : J a mL_law 100 g 31 [.ref b, .ref (a 0), .ref (a 61), .null, .null, .null, .null, .null, .null, .null, .null, .null, .null, .null, .null, .null, .null, .null] [] S := by
  have hh : hatN v n ≤ 63 := hat_le (fun i hi => h.1.many9 hi) hn7
  refine j_ald2 dL_law_31 ?_
  refine j_cS1 dL_law_32 kL_hat zL_hat (Or.inl lL_127) (Nat.le_of_ble_eq_true rfl) (Nat.le_of_ble_eq_true rfl) (by omega) (s_L_hat hN hl (by omega) h.2.2.2.2.2.2) ?_
  refine j_ifne 42 dL_law_35 (by decide) (fun c_35 => ?_) (fun c_35 => ?_)
  · have q_35 : ¬ hatN v n = 0 := fun z => c_35 (by show nI (hatN v n) = 0; rw [z]; rfl)
    refine j_iconst (0) dL_law_42 rfl ?_
    refine j_top (y := bi (hatN v n = 0)) (bi_f q_35).symm ?_
    refine j_ist3 dL_law_43 rfl (by decide) ?_
    refine j_dconst0 dL_law_44 ?_
    refine j_dst4 dL_law_45 rfl (by decide) ?_
    refine j_iconst (0) dL_law_47 rfl ?_
    refine j_ist6 dL_law_48 rfl (by decide) ?_
    exact law_50 hR hN hl hn7 hg hE hL 7 0 0 S (by decide) (by decide) (sp_0 _) h
  have q_35 : hatN v n = 0 := (nI_eq (a := hatN v n) (b := 0) (by omega) (by decide)).mp (Classical.not_not.mp c_35)
  refine j_iconst (1) dL_law_38 rfl ?_
  refine j_goto 43 dL_law_39 (by decide) ?_
  refine j_top (y := bi (hatN v n = 0)) (bi_t q_35).symm ?_
  refine j_ist3 dL_law_43 rfl (by decide) ?_
  refine j_dconst0 dL_law_44 ?_
  refine j_dst4 dL_law_45 rfl (by decide) ?_
  refine j_iconst (0) dL_law_47 rfl ?_
  refine j_ist6 dL_law_48 rfl (by decide) ?_
  exact law_50 hR hN hl hn7 hg hE hL 7 0 0 S (by decide) (by decide) (sp_0 _) h

theorem law_8 {S : St} {kc ks : Nat} {E : Room → State → Prop} {Z : List Frame → Array Value → State → DD → State → Prop} (hE : ∀ R s, E R s → EX a b Ls xs s ∧ 600000 ≤ R.cells ∧ 7302250 ≤ R.slots) (hk : kc ≤ 599000) (hn : ks ≤ 7302000) (h0 : a 300 = 0) (hL : Ls ≤ 260) {ld : Nat → Int32} {l : Nat} (hD : DCb (fun _ => 0) ld l S) {tt0 : Nat → Nat} (hF : FC 0 tt0 S) (hLw : LawC none S) (hT : TC 0 v0 S) {k u : Nat} {hh : Nat → Nat → Nat} (hH : HC k u hh S) {im : Option Img} (hI : ImC im S) {bq : Nat} {sh : Nat → Nat → Nat} {el : Nat → Nat → Int64} (hS : SC sh el S) (hS2 : SOk bq sh) (hS3 : BOk sh el)
    (hR : ∀ q, HR (aX a q (ncF Ls xs)) (600000, 7302250, (fun R s => E R s ∧ EX (aX a q (ncF Ls xs)) b Ls xs s ∧ s.heap.size ≤ q), Z)) : J a mL_law 100 (kc, ks, E, Z) 8 [.ref b, .ref (a 0), .null, .null, .null, .null, .null, .null, .null, .null, .null, .null, .null, .null, .null, .null, .null, .null] [] S := by
  have hn7 := ncF_lt Ls xs
  refine j_ald1 dL_law_8 ?_
  refine j_ald0 dL_law_9 ?_
  refine j_callN (mi' := mL_built) (g := (kc, ks, E, Z)) (As := [.ref (a 0), .ref b]) (st := []) (mc := 1) (ms := 19) (fun R s h => (hE R s h).1) (fun R s h => ⟨by have := (hE R s h).2.1; show kc + 1 ≤ _; omega, by have := (hE R s h).2.2; show ks + 19 ≤ _; omega⟩) dL_law_10 lL_116 kL_built zL_built rfl rfl (Nat.le_of_ble_eq_true rfl) (Nat.le_of_ble_eq_true rfl) (by omega) (s_L_built hL h0 hD (fun i _ => Nat.zero_le _) hF hLw hT hH) (fun r S1 h1 => ?_)
  obtain ⟨rfl, hT1, ⟨k1, u1, hh1, hH1⟩, ⟨bb, hl1, hg⟩, hk1⟩ := h1
  show J a mL_law 100 _ 13 _ [.int 1] S1
  refine j_ifeq 24 dL_law_13 (by decide) (fun c_13 => absurd c_13 (by decide)) (fun c_13 => ?_)
  refine j_ald1 dL_law_16 ?_
  refine j_ald0 dL_law_17 ?_
  refine j_callX (mi' := mL_laid) (g := (kc + 1, ks + 19, E, Z)) (As := [.ref (a 0), .ref b]) (st := []) (fun R s h => (hE R s h).1) dL_law_18 lL_120 kL_laid zL_laid rfl rfl (Nat.le_of_ble_eq_true rfl) (Nat.le_of_ble_eq_true rfl) (by omega) (s_L_laid hL hT1 hH1 (fun w hw i => vB_hi hw i _)) (fun r S2 h2 => ?_)
  obtain ⟨rfl, v, hT2, hv2, ⟨k2, u2, hh2, hH2⟩, hk2, -⟩ := h2
  show J a mL_law 100 _ 21 _ [.int 1] S2
  refine j_ifne 26 dL_law_21 (by decide) (fun c_21 => ?_) (fun c_21 => absurd (by decide) c_21)
  refine j_ald0 dL_law_26 ?_
  have hl2 : LawC bb S2 := hl1.kp hk2 (by decide)
  refine j_callA (mi' := mL_manys) (g := (kc + 1, ks + 19, E, Z)) (As := [.ref b]) (st := []) h0 (fun R s h => (hE R s h).1) (fun R s h => ⟨by have := (hE R s h).2.1; show kc + 1 + 1 ≤ _; omega, by have := (hE R s h).2.2; show ks + 19 + ncF Ls xs ≤ _; omega⟩) dL_law_27 lL_123 kL_manys zL_manys rfl rfl (Nat.le_of_ble_eq_true rfl) (Nat.le_of_ble_eq_true rfl) (by omega) (s_L_manys hL h0 (hc61 hl2)) (fun q S3 h3 => ?_)
  obtain ⟨hk3, hm3⟩ := h3
  refine j_ast2 dL_law_30 rfl (by decide) ?_
  refine j_widen (k' := 600000) (n' := 7302250) (by show kc + 1 + 1 ≤ _; omega) (by show ks + 19 + ncF Ls xs ≤ _; omega) (fun R s h => (hE R s h.1).2) ?_
  refine law_31 (n := ncF Ls xs) (v := v) (bb := bb) (hR q) (by rw [aX_NC]; decide) rfl (by omega) hg (fun R s h => h.2.1) hL ?_
  exact ⟨hT2.kp hk3 (by decide), ⟨k2, u2, hh2, hH2.kp hk3 (by decide)⟩, ⟨ld, l, ((hD.kp hk1 (by decide)).kp hk2 (by decide)).kp hk3 (by decide)⟩, ⟨im, ((hI.kp hk1 (by decide)).kp hk2 (by decide)).kp hk3 (by decide)⟩, ⟨bq, sh, el, ((hS.kp hk1 (by decide)).kp hk2 (by decide)).kp hk3 (by decide), hS2, hS3⟩, hl2.kp hk3 (by decide), fun i hi => (hm3 i hi).trans (by rw [hv2 0 (by decide) i, vB_0 _ hi])⟩
end Top
