/-! a law's text: how the reference reads expressions -/
section PKF
variable {t : Nat → Nat} {len f op p : Nat}
theorem nm_dg {x : Int32} (h : isNm x = true) : ¬ isDg x = true := by
  rcases (of_decide_eq_true h : x = 97 ∨ x = 98 ∨ x = 110 ∨ x = 109 ∨ x = 115) with rfl | rfl | rfl | rfl | rfl <;> decide
theorem PK5_nm (h : isNm (sv t len p) = true) : PK t len (f + 1) none 5 op p = some (p + 1, some [-sv t len p]) := by
  rw [PK, if_neg (by decide), if_neg (nm_dg h), if_pos h]
theorem PK5_full {c : Int32} (h : sv t len p = c) (hc : c = 40 ∨ c = 33 ∨ c = 45) (h6 : 6 ≤ op) : PK t len (f + 1) none 5 op p = some (p, none) := by
  rw [PK, if_neg (by decide), h]
  rcases hc with rfl | rfl | rfl <;> rw [if_neg (by decide), if_neg (by decide), if_pos h6]
theorem PK5_par (h : sv t len p = 40) (h6 : op < 6) : PK t len (f + 1) none 5 op p = thn (PK t len f none 0 (op + 1) (p + 1)) fun q l => if sv t len q = 41 then some (q + 1, some l) else some (q, none) := by
  rw [PK, if_neg (by decide), h, if_neg (by decide), if_neg (by decide), if_neg (by omega), if_pos rfl]
theorem PK5_not (h : sv t len p = 33) (h6 : op < 6) : PK t len (f + 1) none 5 op p = thn (PK t len f none 5 (op + 1) (p + 1)) fun q l => some (q, some (l ++ [-33])) := by
  rw [PK, if_neg (by decide), h, if_neg (by decide), if_neg (by decide), if_neg (by omega), if_neg (by decide), if_pos rfl]
theorem PK5_neg (h : sv t len p = 45) (h6 : op < 6) : PK t len (f + 1) none 5 op p = thn (PK t len f none 5 (op + 1) (p + 1)) fun q l => some (q, some (l ++ [-95])) := by
  rw [PK, if_neg (by decide), h, if_neg (by decide), if_neg (by decide), if_neg (by omega), if_neg (by decide), if_neg (by decide), if_pos rfl]
theorem PK5_fig (hn : ¬ isNm (sv t len p) = true) (h1 : ¬ sv t len p = 40) (h2 : ¬ sv t len p = 33) (h3 : ¬ sv t len p = 45) : PK t len (f + 1) none 5 op p = if isDg (sv t len p) = true then (if isDg (sv t len (numR t len 4 p 0).1) = true then some ((numR t len 4 p 0).1, none) else some ((numR t len 4 p 0).1, some [nI (numR t len 4 p 0).2])) else some (p, none) := by
  rw [PK, if_neg (by decide), if_neg hn, if_neg h1, if_neg h2, if_neg h3, ite_self]
end PKF
section ExprR
variable {a : Nat → Nat} {S0 : St} {t : Nat → Nat} {len : Nat}
def RPq (S0 : St) (t : Nat → Nat) (len : Nat) (L : List Int32) (p op : Nat) (r : Rs) (S : St) : Prop := match r with
  | (q, none) => RFq S0 t len q (L.length + (q - p) + 1) S
  | (q, some l) => ROq S0 t len q op (L ++ l) S
abbrev rvS (a : Nat → Nat) (S0 : St) (t : Nat → Nat) (len f lvl : Nat) (mi : MI) : Prop := ∀ (op p : Nat) (L : List Int32) (S : St) (r : Rs), op ≤ 6 → p ≤ len → L.length ≤ p → ROq S0 t len p op L S → PK t len f none lvl op p = some r → Rqv a mi (4 + 7 * (6 - op) + (5 - lvl)) [.ref (a 61)] S (RPq S0 t len L p op r)
abbrev rwS (a : Nat → Nat) (S0 : St) (t : Nat → Nat) (len f lvl : Nat) (mi : MI) (ws : List Value → Prop) : Prop := ∀ (op p p0 : Nat) (L l : List Int32) (S : St) (r : Rs) (w : List Value), ws w → op ≤ 6 → p ≤ len → p0 ≤ p → L.length ≤ p0 → l.length ≤ p - p0 → ROq S0 t len p op (L ++ l) S → PK t len f (some l) lvl op p = some r → J a mi (4 + 7 * (6 - op) + (5 - lvl)) (gm a fun x S' => x = none ∧ RPq S0 t len L p0 op r S') 4 (.ref (a 61) :: w) [] S
def ws0 (w : List Value) : Prop := w = []
def ws1 (w : List Value) : Prop := ∃ x, w = [x]

set_option maxRecDepth 20000 in
theorem kf_X8_product {S : St} {q m dd : Nat} {w1 : Value} (hl : len ≤ 120) (h : RFq S0 t len q m S) : J a mX8_product (4 + dd) (gm a fun x S' => x = none ∧ RFq S0 t len q m S') 4 [.ref (a 61), w1] [] S := by
  refine j_ald0 dX8_product_4 ?_
  refine j_getI (k := 26) dX8_product_5 cX8_ok (Or.inl f8_206) rfl (by decide) (by decide) (by decide) ?_
  refine j_ifge 66 dX8_product_8 (by decide) (fun c_8 => ?_) (fun c_8 => absurd (by rw [h.2.2.1.1]; exact nI_pos' (by have := h.2.1; omega)) c_8)
  refine j_vret dX8_product_66 rfl ?_
  exact ⟨rfl, h⟩

set_option maxRecDepth 20000 in
theorem k_X8_product {f : Nat} (ht : ∀ i, t i < 256) (hl : len ≤ 120) (hc : rvS a S0 t len f 5 mX8_operand) (hk : rwS a S0 t len f 4 mX8_product ws1) : rwS a S0 t len (f + 1) 4 mX8_product ws1 := by
  intro op p p0 L l S r w hw ho hp hp0 hL hll h hr
  obtain ⟨w1, rfl⟩ := hw
  refine j_ald0 dX8_product_4 ?_
  refine j_getI (k := 26) dX8_product_5 cX8_ok (Or.inl f8_206) rfl (by decide) (by decide) (by decide) ?_
  refine j_ifge 66 dX8_product_8 (by decide) (fun c_8 => absurd c_8 (by rw [h.2.2.1]; decide)) (fun c_8 => ?_)
  refine j_ald0 dX8_product_11 ?_
  refine j_cV0 dX8_product_12 kX8_look l8_218 rfl (by decide) rfl (Nat.le_of_ble_eq_true rfl) (Nat.le_of_ble_eq_true rfl) (by omega) (s_X8_look hl hp h) ?_
  refine j_bipush (42) dX8_product_15 rfl ?_
  refine j_icmpeq 38 dX8_product_17 (by decide) (fun c_17 => ?_) (fun c_17 => ?_)
  · have hjn : jn 4 (sv t len p) = true := jn_e4t rfl (Or.inl ((lk_c ht (by decide) (by decide)).mp c_17))
    rw [PK, if_pos hjn] at hr
    obtain ⟨r1, er⟩ := thn_ex hr
    have hlt := jn_1 hjn
    have hst := jn_st hjn
    have hlk := jn_lk ht hjn
    refine j_ald0 dX8_product_38 ?_
    refine j_cV0 dX8_product_39 kX8_look l8_218 rfl (by decide) rfl (Nat.le_of_ble_eq_true rfl) (Nat.le_of_ble_eq_true rfl) (by omega) (s_X8_look hl hp h) ?_
    refine j_ist1 dX8_product_42 rfl (by decide) ?_
    refine j_ald0 dX8_product_43 ?_
    refine j_dup dX8_product_44 rfl ?_
    refine j_getI (k := 25) dX8_product_45 cX8_ok (Or.inl f8_203) rfl (by decide) (by decide) (by decide) ?_
    refine j_top (y := nI p) (h.2.1) ?_
    refine j_iconst (1) dX8_product_48 rfl ?_
    refine j_iadd dX8_product_49 ?_
    refine j_top (y := nI (p + 1)) (nI_1 p) ?_
    refine j_putI (k := 25) dX8_product_50 cX8_ok (Or.inl f8_203) rfl (by decide) (by decide) (by decide) rfl ?_
    refine j_ald0 dX8_product_53 ?_
    refine j_qvV0 dX8_product_54 kX8_operand l8_232 rfl (by decide) rfl (Nat.le_of_ble_eq_true rfl) (Nat.le_of_ble_eq_true rfl) (by omega) (hc op (p + 1) (L ++ l) _ r1 ho hlt (by rw [List.length_append]; omega) h.adv er) (fun S1 h1 => ?_)
    rcases thn_some hr with ⟨q1, e1, e2⟩ | ⟨q1, l1, e1, e2⟩
    · rw [er] at e1
      cases e1
      cases e2
      have h1 : RFq S0 t len q1 ((L ++ l).length + (q1 - (p + 1)) + 1) S1 := h1
      have a1 := PK_at f none _ _ _ _ _ er hlt
      have a2 := a1.1
      have a3 := a1.2.1
      rw [List.length_append] at h1
      have hmm : L.length + l.length + (q1 - (p + 1)) + 1 + 1 ≤ L.length + (q1 - p0) + 1 := by omega
      refine j_ald0 dX8_product_57 ?_
      refine j_ild1 dX8_product_58 ?_
      refine j_iconst (0) dX8_product_59 rfl ?_
      refine j_qvV2 dX8_product_60 kX8_addStep l8_221 rfl (by decide) rfl (Nat.le_of_ble_eq_true rfl) (Nat.le_of_ble_eq_true rfl) (by omega) (s_X8_addStep_f (by omega) h1) (fun S2 h2 => ?_)
      refine j_goto 4 dX8_product_63 (by decide) ?_
      have := kf_X8_product (a := a) (dd := 7 * (6 - op) + (5 - 4)) (w1 := .int (lk t len p)) hl (h2.mono hmm)
      rw [← Nat.add_assoc] at this
      exact this
    · rw [er] at e1
      cases e1
      have h1 : ROq S0 t len q1 op (L ++ l ++ l1) S1 := h1
      have a1 := PK_at f none _ _ _ _ _ er hlt
      have a2 := a1.2.2.1 rfl l1 rfl
      have a3 := a1.2.1
      have ass : L ++ l ++ l1 ++ [-sv t len p] = L ++ (l ++ l1 ++ [-sv t len p]) := by simp only [List.append_assoc]
      rw [if_neg (by decide)] at e2
      refine j_ald0 dX8_product_57 ?_
      refine j_ild1 dX8_product_58 ?_
      refine j_iconst (0) dX8_product_59 rfl ?_
      refine j_qvV2 dX8_product_60 kX8_addStep l8_221 rfl (by decide) rfl (Nat.le_of_ble_eq_true rfl) (Nat.le_of_ble_eq_true rfl) (by omega) (s_X8_addStep (x := -sv t len p) (by simp only [List.length_append] at *; omega) (by rw [hlk]; exact hst.1.1) hst.1.2 h1) (fun S2 h2 => ?_)
      refine j_goto 4 dX8_product_63 (by decide) ?_
      exact hk op q1 p0 L (l ++ l1 ++ [-sv t len p]) S2 r _ ⟨_, rfl⟩ ho a1.2.1 (by omega) hL (by simp only [List.length_append, List.length_singleton]; omega) (by rw [ass] at h2; exact h2) e2
  refine j_ald0 dX8_product_20 ?_
  refine j_cV0 dX8_product_21 kX8_look l8_218 rfl (by decide) rfl (Nat.le_of_ble_eq_true rfl) (Nat.le_of_ble_eq_true rfl) (by omega) (s_X8_look hl hp h) ?_
  refine j_bipush (47) dX8_product_24 rfl ?_
  refine j_icmpeq 38 dX8_product_26 (by decide) (fun c_26 => ?_) (fun c_26 => ?_)
  · have hjn : jn 4 (sv t len p) = true := jn_e4t rfl (Or.inr (Or.inl ((lk_c ht (by decide) (by decide)).mp c_26)))
    rw [PK, if_pos hjn] at hr
    obtain ⟨r1, er⟩ := thn_ex hr
    have hlt := jn_1 hjn
    have hst := jn_st hjn
    have hlk := jn_lk ht hjn
    refine j_ald0 dX8_product_38 ?_
    refine j_cV0 dX8_product_39 kX8_look l8_218 rfl (by decide) rfl (Nat.le_of_ble_eq_true rfl) (Nat.le_of_ble_eq_true rfl) (by omega) (s_X8_look hl hp h) ?_
    refine j_ist1 dX8_product_42 rfl (by decide) ?_
    refine j_ald0 dX8_product_43 ?_
    refine j_dup dX8_product_44 rfl ?_
    refine j_getI (k := 25) dX8_product_45 cX8_ok (Or.inl f8_203) rfl (by decide) (by decide) (by decide) ?_
    refine j_top (y := nI p) (h.2.1) ?_
    refine j_iconst (1) dX8_product_48 rfl ?_
    refine j_iadd dX8_product_49 ?_
    refine j_top (y := nI (p + 1)) (nI_1 p) ?_
    refine j_putI (k := 25) dX8_product_50 cX8_ok (Or.inl f8_203) rfl (by decide) (by decide) (by decide) rfl ?_
    refine j_ald0 dX8_product_53 ?_
    refine j_qvV0 dX8_product_54 kX8_operand l8_232 rfl (by decide) rfl (Nat.le_of_ble_eq_true rfl) (Nat.le_of_ble_eq_true rfl) (by omega) (hc op (p + 1) (L ++ l) _ r1 ho hlt (by rw [List.length_append]; omega) h.adv er) (fun S1 h1 => ?_)
    rcases thn_some hr with ⟨q1, e1, e2⟩ | ⟨q1, l1, e1, e2⟩
    · rw [er] at e1
      cases e1
      cases e2
      have h1 : RFq S0 t len q1 ((L ++ l).length + (q1 - (p + 1)) + 1) S1 := h1
      have a1 := PK_at f none _ _ _ _ _ er hlt
      have a2 := a1.1
      have a3 := a1.2.1
      rw [List.length_append] at h1
      have hmm : L.length + l.length + (q1 - (p + 1)) + 1 + 1 ≤ L.length + (q1 - p0) + 1 := by omega
      refine j_ald0 dX8_product_57 ?_
      refine j_ild1 dX8_product_58 ?_
      refine j_iconst (0) dX8_product_59 rfl ?_
      refine j_qvV2 dX8_product_60 kX8_addStep l8_221 rfl (by decide) rfl (Nat.le_of_ble_eq_true rfl) (Nat.le_of_ble_eq_true rfl) (by omega) (s_X8_addStep_f (by omega) h1) (fun S2 h2 => ?_)
      refine j_goto 4 dX8_product_63 (by decide) ?_
      have := kf_X8_product (a := a) (dd := 7 * (6 - op) + (5 - 4)) (w1 := .int (lk t len p)) hl (h2.mono hmm)
      rw [← Nat.add_assoc] at this
      exact this
    · rw [er] at e1
      cases e1
      have h1 : ROq S0 t len q1 op (L ++ l ++ l1) S1 := h1
      have a1 := PK_at f none _ _ _ _ _ er hlt
      have a2 := a1.2.2.1 rfl l1 rfl
      have a3 := a1.2.1
      have ass : L ++ l ++ l1 ++ [-sv t len p] = L ++ (l ++ l1 ++ [-sv t len p]) := by simp only [List.append_assoc]
      rw [if_neg (by decide)] at e2
      refine j_ald0 dX8_product_57 ?_
      refine j_ild1 dX8_product_58 ?_
      refine j_iconst (0) dX8_product_59 rfl ?_
      refine j_qvV2 dX8_product_60 kX8_addStep l8_221 rfl (by decide) rfl (Nat.le_of_ble_eq_true rfl) (Nat.le_of_ble_eq_true rfl) (by omega) (s_X8_addStep (x := -sv t len p) (by simp only [List.length_append] at *; omega) (by rw [hlk]; exact hst.1.1) hst.1.2 h1) (fun S2 h2 => ?_)
      refine j_goto 4 dX8_product_63 (by decide) ?_
      exact hk op q1 p0 L (l ++ l1 ++ [-sv t len p]) S2 r _ ⟨_, rfl⟩ ho a1.2.1 (by omega) hL (by simp only [List.length_append, List.length_singleton]; omega) (by rw [ass] at h2; exact h2) e2
  refine j_ald0 dX8_product_29 ?_
  refine j_cV0 dX8_product_30 kX8_look l8_218 rfl (by decide) rfl (Nat.le_of_ble_eq_true rfl) (Nat.le_of_ble_eq_true rfl) (by omega) (s_X8_look hl hp h) ?_
  refine j_bipush (37) dX8_product_33 rfl ?_
  refine j_icmpne 66 dX8_product_35 (by decide) (fun c_35 => ?_) (fun c_35 => ?_)
  · have hjn : ¬ jn 4 (sv t len p) = true := jn_e4f rfl (fun z => by rcases z with z | z | z <;> first | exact c_17 ((lk_c ht (by decide) (by decide)).mpr z) | exact c_26 ((lk_c ht (by decide) (by decide)).mpr z) | exact c_35 ((lk_c ht (by decide) (by decide)).mpr z))
    rw [PK, if_neg hjn] at hr
    cases hr
    refine j_vret dX8_product_66 rfl ?_
    exact ⟨rfl, h⟩
  have hjn : jn 4 (sv t len p) = true := jn_e4t rfl (Or.inr (Or.inr ((lk_c ht (by decide) (by decide)).mp (Classical.not_not.mp c_35))))
  rw [PK, if_pos hjn] at hr
  obtain ⟨r1, er⟩ := thn_ex hr
  have hlt := jn_1 hjn
  have hst := jn_st hjn
  have hlk := jn_lk ht hjn
  refine j_ald0 dX8_product_38 ?_
  refine j_cV0 dX8_product_39 kX8_look l8_218 rfl (by decide) rfl (Nat.le_of_ble_eq_true rfl) (Nat.le_of_ble_eq_true rfl) (by omega) (s_X8_look hl hp h) ?_
  refine j_ist1 dX8_product_42 rfl (by decide) ?_
  refine j_ald0 dX8_product_43 ?_
  refine j_dup dX8_product_44 rfl ?_
  refine j_getI (k := 25) dX8_product_45 cX8_ok (Or.inl f8_203) rfl (by decide) (by decide) (by decide) ?_
  refine j_top (y := nI p) (h.2.1) ?_
  refine j_iconst (1) dX8_product_48 rfl ?_
  refine j_iadd dX8_product_49 ?_
  refine j_top (y := nI (p + 1)) (nI_1 p) ?_
  refine j_putI (k := 25) dX8_product_50 cX8_ok (Or.inl f8_203) rfl (by decide) (by decide) (by decide) rfl ?_
  refine j_ald0 dX8_product_53 ?_
  refine j_qvV0 dX8_product_54 kX8_operand l8_232 rfl (by decide) rfl (Nat.le_of_ble_eq_true rfl) (Nat.le_of_ble_eq_true rfl) (by omega) (hc op (p + 1) (L ++ l) _ r1 ho hlt (by rw [List.length_append]; omega) h.adv er) (fun S1 h1 => ?_)
  rcases thn_some hr with ⟨q1, e1, e2⟩ | ⟨q1, l1, e1, e2⟩
  · rw [er] at e1
    cases e1
    cases e2
    have h1 : RFq S0 t len q1 ((L ++ l).length + (q1 - (p + 1)) + 1) S1 := h1
    have a1 := PK_at f none _ _ _ _ _ er hlt
    have a2 := a1.1
    have a3 := a1.2.1
    rw [List.length_append] at h1
    have hmm : L.length + l.length + (q1 - (p + 1)) + 1 + 1 ≤ L.length + (q1 - p0) + 1 := by omega
    refine j_ald0 dX8_product_57 ?_
    refine j_ild1 dX8_product_58 ?_
    refine j_iconst (0) dX8_product_59 rfl ?_
    refine j_qvV2 dX8_product_60 kX8_addStep l8_221 rfl (by decide) rfl (Nat.le_of_ble_eq_true rfl) (Nat.le_of_ble_eq_true rfl) (by omega) (s_X8_addStep_f (by omega) h1) (fun S2 h2 => ?_)
    refine j_goto 4 dX8_product_63 (by decide) ?_
    have := kf_X8_product (a := a) (dd := 7 * (6 - op) + (5 - 4)) (w1 := .int (lk t len p)) hl (h2.mono hmm)
    rw [← Nat.add_assoc] at this
    exact this
  · rw [er] at e1
    cases e1
    have h1 : ROq S0 t len q1 op (L ++ l ++ l1) S1 := h1
    have a1 := PK_at f none _ _ _ _ _ er hlt
    have a2 := a1.2.2.1 rfl l1 rfl
    have a3 := a1.2.1
    have ass : L ++ l ++ l1 ++ [-sv t len p] = L ++ (l ++ l1 ++ [-sv t len p]) := by simp only [List.append_assoc]
    rw [if_neg (by decide)] at e2
    refine j_ald0 dX8_product_57 ?_
    refine j_ild1 dX8_product_58 ?_
    refine j_iconst (0) dX8_product_59 rfl ?_
    refine j_qvV2 dX8_product_60 kX8_addStep l8_221 rfl (by decide) rfl (Nat.le_of_ble_eq_true rfl) (Nat.le_of_ble_eq_true rfl) (by omega) (s_X8_addStep (x := -sv t len p) (by simp only [List.length_append] at *; omega) (by rw [hlk]; exact hst.1.1) hst.1.2 h1) (fun S2 h2 => ?_)
    refine j_goto 4 dX8_product_63 (by decide) ?_
    exact hk op q1 p0 L (l ++ l1 ++ [-sv t len p]) S2 r _ ⟨_, rfl⟩ ho a1.2.1 (by omega) hL (by simp only [List.length_append, List.length_singleton]; omega) (by rw [ass] at h2; exact h2) e2

set_option maxRecDepth 20000 in
theorem j_X8_product {f : Nat} (hl : len ≤ 120) (hc : rvS a S0 t len f 5 mX8_operand) (hk : rwS a S0 t len f 4 mX8_product ws1) : rvS a S0 t len (f + 1) 4 mX8_product := by
  intro op p L S r ho hp hL h hr
  show J _ _ _ _ 0 [_, .null] [] _
  rw [PK, if_pos (show 4 < 5 by decide)] at hr
  obtain ⟨r1, er⟩ := thn_ex hr
  refine j_ald0 dX8_product_0 ?_
  refine j_qvV0 dX8_product_1 kX8_operand l8_232 rfl (by decide) rfl (Nat.le_of_ble_eq_true rfl) (Nat.le_of_ble_eq_true rfl) (by omega) (hc op p L S r1 ho hp hL h er) (fun S1 h1 => ?_)
  rcases thn_some hr with ⟨q1, e1, e2⟩ | ⟨q1, l1, e1, e2⟩
  · rw [er] at e1
    cases e1
    cases e2
    have h1 : RFq S0 t len q1 (L.length + (q1 - p) + 1) S1 := h1
    have := kf_X8_product (a := a) (dd := 7 * (6 - op) + (5 - 4)) (w1 := .null) hl h1
    rw [← Nat.add_assoc] at this
    exact this
  · rw [er] at e1
    cases e1
    have h1 : ROq S0 t len q1 op (L ++ l1) S1 := h1
    have a1 := PK_at f none _ _ _ _ _ er hp
    have a2 := a1.2.2.1 rfl l1 rfl
    exact hk op q1 p L l1 S1 r _ ⟨_, rfl⟩ ho a1.2.1 (by omega) hL (by omega) h1 e2

set_option maxRecDepth 20000 in
theorem kf_X8_sum {S : St} {q m dd : Nat} {w1 : Value} (hl : len ≤ 120) (h : RFq S0 t len q m S) : J a mX8_sum (4 + dd) (gm a fun x S' => x = none ∧ RFq S0 t len q m S') 4 [.ref (a 61), w1] [] S := by
  refine j_ald0 dX8_sum_4 ?_
  refine j_getI (k := 26) dX8_sum_5 cX8_ok (Or.inl f8_206) rfl (by decide) (by decide) (by decide) ?_
  refine j_ifge 57 dX8_sum_8 (by decide) (fun c_8 => ?_) (fun c_8 => absurd (by rw [h.2.2.1.1]; exact nI_pos' (by have := h.2.1; omega)) c_8)
  refine j_vret dX8_sum_57 rfl ?_
  exact ⟨rfl, h⟩

set_option maxRecDepth 20000 in
theorem k_X8_sum {f : Nat} (ht : ∀ i, t i < 256) (hl : len ≤ 120) (hc : rvS a S0 t len f 4 mX8_product) (hk : rwS a S0 t len f 3 mX8_sum ws1) : rwS a S0 t len (f + 1) 3 mX8_sum ws1 := by
  intro op p p0 L l S r w hw ho hp hp0 hL hll h hr
  obtain ⟨w1, rfl⟩ := hw
  refine j_ald0 dX8_sum_4 ?_
  refine j_getI (k := 26) dX8_sum_5 cX8_ok (Or.inl f8_206) rfl (by decide) (by decide) (by decide) ?_
  refine j_ifge 57 dX8_sum_8 (by decide) (fun c_8 => absurd c_8 (by rw [h.2.2.1]; decide)) (fun c_8 => ?_)
  refine j_ald0 dX8_sum_11 ?_
  refine j_cV0 dX8_sum_12 kX8_look l8_218 rfl (by decide) rfl (Nat.le_of_ble_eq_true rfl) (Nat.le_of_ble_eq_true rfl) (by omega) (s_X8_look hl hp h) ?_
  refine j_bipush (43) dX8_sum_15 rfl ?_
  refine j_icmpeq 29 dX8_sum_17 (by decide) (fun c_17 => ?_) (fun c_17 => ?_)
  · have hjn : jn 3 (sv t len p) = true := jn_e3t rfl (Or.inl ((lk_c ht (by decide) (by decide)).mp c_17))
    rw [PK, if_pos hjn] at hr
    obtain ⟨r1, er⟩ := thn_ex hr
    have hlt := jn_1 hjn
    have hst := jn_st hjn
    have hlk := jn_lk ht hjn
    refine j_ald0 dX8_sum_29 ?_
    refine j_cV0 dX8_sum_30 kX8_look l8_218 rfl (by decide) rfl (Nat.le_of_ble_eq_true rfl) (Nat.le_of_ble_eq_true rfl) (by omega) (s_X8_look hl hp h) ?_
    refine j_ist1 dX8_sum_33 rfl (by decide) ?_
    refine j_ald0 dX8_sum_34 ?_
    refine j_dup dX8_sum_35 rfl ?_
    refine j_getI (k := 25) dX8_sum_36 cX8_ok (Or.inl f8_203) rfl (by decide) (by decide) (by decide) ?_
    refine j_top (y := nI p) (h.2.1) ?_
    refine j_iconst (1) dX8_sum_39 rfl ?_
    refine j_iadd dX8_sum_40 ?_
    refine j_top (y := nI (p + 1)) (nI_1 p) ?_
    refine j_putI (k := 25) dX8_sum_41 cX8_ok (Or.inl f8_203) rfl (by decide) (by decide) (by decide) rfl ?_
    refine j_ald0 dX8_sum_44 ?_
    refine j_qvV0 dX8_sum_45 kX8_product l8_241 rfl (by decide) rfl (Nat.le_of_ble_eq_true rfl) (Nat.le_of_ble_eq_true rfl) (by omega) (hc op (p + 1) (L ++ l) _ r1 ho hlt (by rw [List.length_append]; omega) h.adv er) (fun S1 h1 => ?_)
    rcases thn_some hr with ⟨q1, e1, e2⟩ | ⟨q1, l1, e1, e2⟩
    · rw [er] at e1
      cases e1
      cases e2
      have h1 : RFq S0 t len q1 ((L ++ l).length + (q1 - (p + 1)) + 1) S1 := h1
      have a1 := PK_at f none _ _ _ _ _ er hlt
      have a2 := a1.1
      have a3 := a1.2.1
      rw [List.length_append] at h1
      have hmm : L.length + l.length + (q1 - (p + 1)) + 1 + 1 ≤ L.length + (q1 - p0) + 1 := by omega
      refine j_ald0 dX8_sum_48 ?_
      refine j_ild1 dX8_sum_49 ?_
      refine j_iconst (0) dX8_sum_50 rfl ?_
      refine j_qvV2 dX8_sum_51 kX8_addStep l8_221 rfl (by decide) rfl (Nat.le_of_ble_eq_true rfl) (Nat.le_of_ble_eq_true rfl) (by omega) (s_X8_addStep_f (by omega) h1) (fun S2 h2 => ?_)
      refine j_goto 4 dX8_sum_54 (by decide) ?_
      have := kf_X8_sum (a := a) (dd := 7 * (6 - op) + (5 - 3)) (w1 := .int (lk t len p)) hl (h2.mono hmm)
      rw [← Nat.add_assoc] at this
      exact this
    · rw [er] at e1
      cases e1
      have h1 : ROq S0 t len q1 op (L ++ l ++ l1) S1 := h1
      have a1 := PK_at f none _ _ _ _ _ er hlt
      have a2 := a1.2.2.1 rfl l1 rfl
      have a3 := a1.2.1
      have ass : L ++ l ++ l1 ++ [-sv t len p] = L ++ (l ++ l1 ++ [-sv t len p]) := by simp only [List.append_assoc]
      rw [if_neg (by decide)] at e2
      refine j_ald0 dX8_sum_48 ?_
      refine j_ild1 dX8_sum_49 ?_
      refine j_iconst (0) dX8_sum_50 rfl ?_
      refine j_qvV2 dX8_sum_51 kX8_addStep l8_221 rfl (by decide) rfl (Nat.le_of_ble_eq_true rfl) (Nat.le_of_ble_eq_true rfl) (by omega) (s_X8_addStep (x := -sv t len p) (by simp only [List.length_append] at *; omega) (by rw [hlk]; exact hst.1.1) hst.1.2 h1) (fun S2 h2 => ?_)
      refine j_goto 4 dX8_sum_54 (by decide) ?_
      exact hk op q1 p0 L (l ++ l1 ++ [-sv t len p]) S2 r _ ⟨_, rfl⟩ ho a1.2.1 (by omega) hL (by simp only [List.length_append, List.length_singleton]; omega) (by rw [ass] at h2; exact h2) e2
  refine j_ald0 dX8_sum_20 ?_
  refine j_cV0 dX8_sum_21 kX8_look l8_218 rfl (by decide) rfl (Nat.le_of_ble_eq_true rfl) (Nat.le_of_ble_eq_true rfl) (by omega) (s_X8_look hl hp h) ?_
  refine j_bipush (45) dX8_sum_24 rfl ?_
  refine j_icmpne 57 dX8_sum_26 (by decide) (fun c_26 => ?_) (fun c_26 => ?_)
  · have hjn : ¬ jn 3 (sv t len p) = true := jn_e3f rfl (fun z => by rcases z with z | z <;> first | exact c_17 ((lk_c ht (by decide) (by decide)).mpr z) | exact c_26 ((lk_c ht (by decide) (by decide)).mpr z))
    rw [PK, if_neg hjn] at hr
    cases hr
    refine j_vret dX8_sum_57 rfl ?_
    exact ⟨rfl, h⟩
  have hjn : jn 3 (sv t len p) = true := jn_e3t rfl (Or.inr ((lk_c ht (by decide) (by decide)).mp (Classical.not_not.mp c_26)))
  rw [PK, if_pos hjn] at hr
  obtain ⟨r1, er⟩ := thn_ex hr
  have hlt := jn_1 hjn
  have hst := jn_st hjn
  have hlk := jn_lk ht hjn
  refine j_ald0 dX8_sum_29 ?_
  refine j_cV0 dX8_sum_30 kX8_look l8_218 rfl (by decide) rfl (Nat.le_of_ble_eq_true rfl) (Nat.le_of_ble_eq_true rfl) (by omega) (s_X8_look hl hp h) ?_
  refine j_ist1 dX8_sum_33 rfl (by decide) ?_
  refine j_ald0 dX8_sum_34 ?_
  refine j_dup dX8_sum_35 rfl ?_
  refine j_getI (k := 25) dX8_sum_36 cX8_ok (Or.inl f8_203) rfl (by decide) (by decide) (by decide) ?_
  refine j_top (y := nI p) (h.2.1) ?_
  refine j_iconst (1) dX8_sum_39 rfl ?_
  refine j_iadd dX8_sum_40 ?_
  refine j_top (y := nI (p + 1)) (nI_1 p) ?_
  refine j_putI (k := 25) dX8_sum_41 cX8_ok (Or.inl f8_203) rfl (by decide) (by decide) (by decide) rfl ?_
  refine j_ald0 dX8_sum_44 ?_
  refine j_qvV0 dX8_sum_45 kX8_product l8_241 rfl (by decide) rfl (Nat.le_of_ble_eq_true rfl) (Nat.le_of_ble_eq_true rfl) (by omega) (hc op (p + 1) (L ++ l) _ r1 ho hlt (by rw [List.length_append]; omega) h.adv er) (fun S1 h1 => ?_)
  rcases thn_some hr with ⟨q1, e1, e2⟩ | ⟨q1, l1, e1, e2⟩
  · rw [er] at e1
    cases e1
    cases e2
    have h1 : RFq S0 t len q1 ((L ++ l).length + (q1 - (p + 1)) + 1) S1 := h1
    have a1 := PK_at f none _ _ _ _ _ er hlt
    have a2 := a1.1
    have a3 := a1.2.1
    rw [List.length_append] at h1
    have hmm : L.length + l.length + (q1 - (p + 1)) + 1 + 1 ≤ L.length + (q1 - p0) + 1 := by omega
    refine j_ald0 dX8_sum_48 ?_
    refine j_ild1 dX8_sum_49 ?_
    refine j_iconst (0) dX8_sum_50 rfl ?_
    refine j_qvV2 dX8_sum_51 kX8_addStep l8_221 rfl (by decide) rfl (Nat.le_of_ble_eq_true rfl) (Nat.le_of_ble_eq_true rfl) (by omega) (s_X8_addStep_f (by omega) h1) (fun S2 h2 => ?_)
    refine j_goto 4 dX8_sum_54 (by decide) ?_
    have := kf_X8_sum (a := a) (dd := 7 * (6 - op) + (5 - 3)) (w1 := .int (lk t len p)) hl (h2.mono hmm)
    rw [← Nat.add_assoc] at this
    exact this
  · rw [er] at e1
    cases e1
    have h1 : ROq S0 t len q1 op (L ++ l ++ l1) S1 := h1
    have a1 := PK_at f none _ _ _ _ _ er hlt
    have a2 := a1.2.2.1 rfl l1 rfl
    have a3 := a1.2.1
    have ass : L ++ l ++ l1 ++ [-sv t len p] = L ++ (l ++ l1 ++ [-sv t len p]) := by simp only [List.append_assoc]
    rw [if_neg (by decide)] at e2
    refine j_ald0 dX8_sum_48 ?_
    refine j_ild1 dX8_sum_49 ?_
    refine j_iconst (0) dX8_sum_50 rfl ?_
    refine j_qvV2 dX8_sum_51 kX8_addStep l8_221 rfl (by decide) rfl (Nat.le_of_ble_eq_true rfl) (Nat.le_of_ble_eq_true rfl) (by omega) (s_X8_addStep (x := -sv t len p) (by simp only [List.length_append] at *; omega) (by rw [hlk]; exact hst.1.1) hst.1.2 h1) (fun S2 h2 => ?_)
    refine j_goto 4 dX8_sum_54 (by decide) ?_
    exact hk op q1 p0 L (l ++ l1 ++ [-sv t len p]) S2 r _ ⟨_, rfl⟩ ho a1.2.1 (by omega) hL (by simp only [List.length_append, List.length_singleton]; omega) (by rw [ass] at h2; exact h2) e2

set_option maxRecDepth 20000 in
theorem j_X8_sum {f : Nat} (hl : len ≤ 120) (hc : rvS a S0 t len f 4 mX8_product) (hk : rwS a S0 t len f 3 mX8_sum ws1) : rvS a S0 t len (f + 1) 3 mX8_sum := by
  intro op p L S r ho hp hL h hr
  show J _ _ _ _ 0 [_, .null] [] _
  rw [PK, if_pos (show 3 < 5 by decide)] at hr
  obtain ⟨r1, er⟩ := thn_ex hr
  refine j_ald0 dX8_sum_0 ?_
  refine j_qvV0 dX8_sum_1 kX8_product l8_241 rfl (by decide) rfl (Nat.le_of_ble_eq_true rfl) (Nat.le_of_ble_eq_true rfl) (by omega) (hc op p L S r1 ho hp hL h er) (fun S1 h1 => ?_)
  rcases thn_some hr with ⟨q1, e1, e2⟩ | ⟨q1, l1, e1, e2⟩
  · rw [er] at e1
    cases e1
    cases e2
    have h1 : RFq S0 t len q1 (L.length + (q1 - p) + 1) S1 := h1
    have := kf_X8_sum (a := a) (dd := 7 * (6 - op) + (5 - 3)) (w1 := .null) hl h1
    rw [← Nat.add_assoc] at this
    exact this
  · rw [er] at e1
    cases e1
    have h1 : ROq S0 t len q1 op (L ++ l1) S1 := h1
    have a1 := PK_at f none _ _ _ _ _ er hp
    have a2 := a1.2.2.1 rfl l1 rfl
    exact hk op q1 p L l1 S1 r _ ⟨_, rfl⟩ ho a1.2.1 (by omega) hL (by omega) h1 e2

set_option maxRecDepth 20000 in
theorem kf_X8_compared {S : St} {q m dd : Nat} {w1 : Value} (hl : len ≤ 120) (h : RFq S0 t len q m S) : J a mX8_compared (4 + dd) (gm a fun x S' => x = none ∧ RFq S0 t len q m S') 4 [.ref (a 61), w1] [] S := by
  refine j_ald0 dX8_compared_4 ?_
  refine j_cV0 dX8_compared_5 kX8_look l8_218 rfl (by decide) rfl (Nat.le_of_ble_eq_true rfl) (Nat.le_of_ble_eq_true rfl) (by omega) (s_X8_look_g hl h.2.1 h.1 h.2.2.1.2) ?_
  refine j_ist1 dX8_compared_8 rfl (by decide) ?_
  refine j_ald0 dX8_compared_9 ?_
  refine j_getI (k := 26) dX8_compared_10 cX8_ok (Or.inl f8_206) rfl (by decide) (by decide) (by decide) ?_
  refine j_ifge 34 dX8_compared_13 (by decide) (fun c_13 => ?_) (fun c_13 => absurd (by rw [h.2.2.1.1]; exact nI_pos' (by have := h.2.1; omega)) c_13)
  refine j_vret dX8_compared_34 rfl ?_
  exact ⟨rfl, h⟩

set_option maxRecDepth 20000 in
theorem k_X8_compared {f : Nat} (ht : ∀ i, t i < 256) (hl : len ≤ 120) (hc : rvS a S0 t len f 3 mX8_sum) : rwS a S0 t len (f + 1) 2 mX8_compared ws1 := by
  intro op p p0 L l S r w hw ho hp hp0 hL hll h hr
  obtain ⟨w1, rfl⟩ := hw
  refine j_ald0 dX8_compared_4 ?_
  refine j_cV0 dX8_compared_5 kX8_look l8_218 rfl (by decide) rfl (Nat.le_of_ble_eq_true rfl) (Nat.le_of_ble_eq_true rfl) (by omega) (s_X8_look hl hp h) ?_
  refine j_ist1 dX8_compared_8 rfl (by decide) ?_
  refine j_ald0 dX8_compared_9 ?_
  refine j_getI (k := 26) dX8_compared_10 cX8_ok (Or.inl f8_206) rfl (by decide) (by decide) (by decide) ?_
  refine j_ifge 34 dX8_compared_13 (by decide) (fun c_13 => absurd c_13 (by rw [h.2.2.1]; decide)) (fun c_13 => ?_)
  refine j_ild1 dX8_compared_16 ?_
  refine j_bipush (60) dX8_compared_17 rfl ?_
  refine j_icmpeq 35 dX8_compared_19 (by decide) (fun c_19 => ?_) (fun c_19 => ?_)
  · have hjn : jn 2 (sv t len p) = true := jn_e2t rfl (Or.inl ((lk_c ht (by decide) (by decide)).mp c_19))
    rw [PK, if_pos hjn] at hr
    obtain ⟨r1, er⟩ := thn_ex hr
    have hlt := jn_1 hjn
    have hst := jn_st hjn
    have hlk := jn_lk ht hjn
    refine j_ald0 dX8_compared_35 ?_
    refine j_dup dX8_compared_36 rfl ?_
    refine j_getI (k := 25) dX8_compared_37 cX8_ok (Or.inl f8_203) rfl (by decide) (by decide) (by decide) ?_
    refine j_top (y := nI p) (h.2.1) ?_
    refine j_iconst (1) dX8_compared_40 rfl ?_
    refine j_iadd dX8_compared_41 ?_
    refine j_top (y := nI (p + 1)) (nI_1 p) ?_
    refine j_putI (k := 25) dX8_compared_42 cX8_ok (Or.inl f8_203) rfl (by decide) (by decide) (by decide) rfl ?_
    refine j_ald0 dX8_compared_45 ?_
    refine j_qvV0 dX8_compared_46 kX8_sum l8_244 rfl (by decide) rfl (Nat.le_of_ble_eq_true rfl) (Nat.le_of_ble_eq_true rfl) (by omega) (hc op (p + 1) (L ++ l) _ r1 ho hlt (by rw [List.length_append]; omega) h.adv er) (fun S1 h1 => ?_)
    rcases thn_some hr with ⟨q1, e1, e2⟩ | ⟨q1, l1, e1, e2⟩
    · rw [er] at e1
      cases e1
      cases e2
      have h1 : RFq S0 t len q1 ((L ++ l).length + (q1 - (p + 1)) + 1) S1 := h1
      have a1 := PK_at f none _ _ _ _ _ er hlt
      have a2 := a1.1
      have a3 := a1.2.1
      rw [List.length_append] at h1
      have hmm : L.length + l.length + (q1 - (p + 1)) + 1 + 1 ≤ L.length + (q1 - p0) + 1 := by omega
      refine j_ald0 dX8_compared_49 ?_
      refine j_ild1 dX8_compared_50 ?_
      refine j_iconst (0) dX8_compared_51 rfl ?_
      refine j_qvV2 dX8_compared_52 kX8_addStep l8_221 rfl (by decide) rfl (Nat.le_of_ble_eq_true rfl) (Nat.le_of_ble_eq_true rfl) (by omega) (s_X8_addStep_f (by omega) h1) (fun S2 h2 => ?_)
      refine j_vret dX8_compared_55 rfl ?_
      exact ⟨rfl, h2.mono hmm⟩
    · rw [er] at e1
      cases e1
      have h1 : ROq S0 t len q1 op (L ++ l ++ l1) S1 := h1
      have a1 := PK_at f none _ _ _ _ _ er hlt
      have a2 := a1.2.2.1 rfl l1 rfl
      have a3 := a1.2.1
      have ass : L ++ l ++ l1 ++ [-sv t len p] = L ++ (l ++ l1 ++ [-sv t len p]) := by simp only [List.append_assoc]
      rw [if_pos rfl] at e2
      cases e2
      refine j_ald0 dX8_compared_49 ?_
      refine j_ild1 dX8_compared_50 ?_
      refine j_iconst (0) dX8_compared_51 rfl ?_
      refine j_qvV2 dX8_compared_52 kX8_addStep l8_221 rfl (by decide) rfl (Nat.le_of_ble_eq_true rfl) (Nat.le_of_ble_eq_true rfl) (by omega) (s_X8_addStep (x := -sv t len p) (by simp only [List.length_append] at *; omega) (by rw [hlk]; exact hst.1.1) hst.1.2 h1) (fun S2 h2 => ?_)
      refine j_vret dX8_compared_55 rfl ?_
      exact ⟨rfl, by rw [ass] at h2; exact h2⟩
  refine j_ild1 dX8_compared_22 ?_
  refine j_bipush (61) dX8_compared_23 rfl ?_
  refine j_icmpeq 35 dX8_compared_25 (by decide) (fun c_25 => ?_) (fun c_25 => ?_)
  · have hjn : jn 2 (sv t len p) = true := jn_e2t rfl (Or.inr (Or.inl ((lk_c ht (by decide) (by decide)).mp c_25)))
    rw [PK, if_pos hjn] at hr
    obtain ⟨r1, er⟩ := thn_ex hr
    have hlt := jn_1 hjn
    have hst := jn_st hjn
    have hlk := jn_lk ht hjn
    refine j_ald0 dX8_compared_35 ?_
    refine j_dup dX8_compared_36 rfl ?_
    refine j_getI (k := 25) dX8_compared_37 cX8_ok (Or.inl f8_203) rfl (by decide) (by decide) (by decide) ?_
    refine j_top (y := nI p) (h.2.1) ?_
    refine j_iconst (1) dX8_compared_40 rfl ?_
    refine j_iadd dX8_compared_41 ?_
    refine j_top (y := nI (p + 1)) (nI_1 p) ?_
    refine j_putI (k := 25) dX8_compared_42 cX8_ok (Or.inl f8_203) rfl (by decide) (by decide) (by decide) rfl ?_
    refine j_ald0 dX8_compared_45 ?_
    refine j_qvV0 dX8_compared_46 kX8_sum l8_244 rfl (by decide) rfl (Nat.le_of_ble_eq_true rfl) (Nat.le_of_ble_eq_true rfl) (by omega) (hc op (p + 1) (L ++ l) _ r1 ho hlt (by rw [List.length_append]; omega) h.adv er) (fun S1 h1 => ?_)
    rcases thn_some hr with ⟨q1, e1, e2⟩ | ⟨q1, l1, e1, e2⟩
    · rw [er] at e1
      cases e1
      cases e2
      have h1 : RFq S0 t len q1 ((L ++ l).length + (q1 - (p + 1)) + 1) S1 := h1
      have a1 := PK_at f none _ _ _ _ _ er hlt
      have a2 := a1.1
      have a3 := a1.2.1
      rw [List.length_append] at h1
      have hmm : L.length + l.length + (q1 - (p + 1)) + 1 + 1 ≤ L.length + (q1 - p0) + 1 := by omega
      refine j_ald0 dX8_compared_49 ?_
      refine j_ild1 dX8_compared_50 ?_
      refine j_iconst (0) dX8_compared_51 rfl ?_
      refine j_qvV2 dX8_compared_52 kX8_addStep l8_221 rfl (by decide) rfl (Nat.le_of_ble_eq_true rfl) (Nat.le_of_ble_eq_true rfl) (by omega) (s_X8_addStep_f (by omega) h1) (fun S2 h2 => ?_)
      refine j_vret dX8_compared_55 rfl ?_
      exact ⟨rfl, h2.mono hmm⟩
    · rw [er] at e1
      cases e1
      have h1 : ROq S0 t len q1 op (L ++ l ++ l1) S1 := h1
      have a1 := PK_at f none _ _ _ _ _ er hlt
      have a2 := a1.2.2.1 rfl l1 rfl
      have a3 := a1.2.1
      have ass : L ++ l ++ l1 ++ [-sv t len p] = L ++ (l ++ l1 ++ [-sv t len p]) := by simp only [List.append_assoc]
      rw [if_pos rfl] at e2
      cases e2
      refine j_ald0 dX8_compared_49 ?_
      refine j_ild1 dX8_compared_50 ?_
      refine j_iconst (0) dX8_compared_51 rfl ?_
      refine j_qvV2 dX8_compared_52 kX8_addStep l8_221 rfl (by decide) rfl (Nat.le_of_ble_eq_true rfl) (Nat.le_of_ble_eq_true rfl) (by omega) (s_X8_addStep (x := -sv t len p) (by simp only [List.length_append] at *; omega) (by rw [hlk]; exact hst.1.1) hst.1.2 h1) (fun S2 h2 => ?_)
      refine j_vret dX8_compared_55 rfl ?_
      exact ⟨rfl, by rw [ass] at h2; exact h2⟩
  refine j_ild1 dX8_compared_28 ?_
  refine j_bipush (62) dX8_compared_29 rfl ?_
  refine j_icmpeq 35 dX8_compared_31 (by decide) (fun c_31 => ?_) (fun c_31 => ?_)
  · have hjn : jn 2 (sv t len p) = true := jn_e2t rfl (Or.inr (Or.inr ((lk_c ht (by decide) (by decide)).mp c_31)))
    rw [PK, if_pos hjn] at hr
    obtain ⟨r1, er⟩ := thn_ex hr
    have hlt := jn_1 hjn
    have hst := jn_st hjn
    have hlk := jn_lk ht hjn
    refine j_ald0 dX8_compared_35 ?_
    refine j_dup dX8_compared_36 rfl ?_
    refine j_getI (k := 25) dX8_compared_37 cX8_ok (Or.inl f8_203) rfl (by decide) (by decide) (by decide) ?_
    refine j_top (y := nI p) (h.2.1) ?_
    refine j_iconst (1) dX8_compared_40 rfl ?_
    refine j_iadd dX8_compared_41 ?_
    refine j_top (y := nI (p + 1)) (nI_1 p) ?_
    refine j_putI (k := 25) dX8_compared_42 cX8_ok (Or.inl f8_203) rfl (by decide) (by decide) (by decide) rfl ?_
    refine j_ald0 dX8_compared_45 ?_
    refine j_qvV0 dX8_compared_46 kX8_sum l8_244 rfl (by decide) rfl (Nat.le_of_ble_eq_true rfl) (Nat.le_of_ble_eq_true rfl) (by omega) (hc op (p + 1) (L ++ l) _ r1 ho hlt (by rw [List.length_append]; omega) h.adv er) (fun S1 h1 => ?_)
    rcases thn_some hr with ⟨q1, e1, e2⟩ | ⟨q1, l1, e1, e2⟩
    · rw [er] at e1
      cases e1
      cases e2
      have h1 : RFq S0 t len q1 ((L ++ l).length + (q1 - (p + 1)) + 1) S1 := h1
      have a1 := PK_at f none _ _ _ _ _ er hlt
      have a2 := a1.1
      have a3 := a1.2.1
      rw [List.length_append] at h1
      have hmm : L.length + l.length + (q1 - (p + 1)) + 1 + 1 ≤ L.length + (q1 - p0) + 1 := by omega
      refine j_ald0 dX8_compared_49 ?_
      refine j_ild1 dX8_compared_50 ?_
      refine j_iconst (0) dX8_compared_51 rfl ?_
      refine j_qvV2 dX8_compared_52 kX8_addStep l8_221 rfl (by decide) rfl (Nat.le_of_ble_eq_true rfl) (Nat.le_of_ble_eq_true rfl) (by omega) (s_X8_addStep_f (by omega) h1) (fun S2 h2 => ?_)
      refine j_vret dX8_compared_55 rfl ?_
      exact ⟨rfl, h2.mono hmm⟩
    · rw [er] at e1
      cases e1
      have h1 : ROq S0 t len q1 op (L ++ l ++ l1) S1 := h1
      have a1 := PK_at f none _ _ _ _ _ er hlt
      have a2 := a1.2.2.1 rfl l1 rfl
      have a3 := a1.2.1
      have ass : L ++ l ++ l1 ++ [-sv t len p] = L ++ (l ++ l1 ++ [-sv t len p]) := by simp only [List.append_assoc]
      rw [if_pos rfl] at e2
      cases e2
      refine j_ald0 dX8_compared_49 ?_
      refine j_ild1 dX8_compared_50 ?_
      refine j_iconst (0) dX8_compared_51 rfl ?_
      refine j_qvV2 dX8_compared_52 kX8_addStep l8_221 rfl (by decide) rfl (Nat.le_of_ble_eq_true rfl) (Nat.le_of_ble_eq_true rfl) (by omega) (s_X8_addStep (x := -sv t len p) (by simp only [List.length_append] at *; omega) (by rw [hlk]; exact hst.1.1) hst.1.2 h1) (fun S2 h2 => ?_)
      refine j_vret dX8_compared_55 rfl ?_
      exact ⟨rfl, by rw [ass] at h2; exact h2⟩
  have hjn : ¬ jn 2 (sv t len p) = true := jn_e2f rfl (fun z => by rcases z with z | z | z <;> first | exact c_19 ((lk_c ht (by decide) (by decide)).mpr z) | exact c_25 ((lk_c ht (by decide) (by decide)).mpr z) | exact c_31 ((lk_c ht (by decide) (by decide)).mpr z))
  rw [PK, if_neg hjn] at hr
  cases hr
  refine j_vret dX8_compared_34 rfl ?_
  exact ⟨rfl, h⟩

set_option maxRecDepth 20000 in
theorem j_X8_compared {f : Nat} (hl : len ≤ 120) (hc : rvS a S0 t len f 3 mX8_sum) (hk : rwS a S0 t len f 2 mX8_compared ws1) : rvS a S0 t len (f + 1) 2 mX8_compared := by
  intro op p L S r ho hp hL h hr
  show J _ _ _ _ 0 [_, .null] [] _
  rw [PK, if_pos (show 2 < 5 by decide)] at hr
  obtain ⟨r1, er⟩ := thn_ex hr
  refine j_ald0 dX8_compared_0 ?_
  refine j_qvV0 dX8_compared_1 kX8_sum l8_244 rfl (by decide) rfl (Nat.le_of_ble_eq_true rfl) (Nat.le_of_ble_eq_true rfl) (by omega) (hc op p L S r1 ho hp hL h er) (fun S1 h1 => ?_)
  rcases thn_some hr with ⟨q1, e1, e2⟩ | ⟨q1, l1, e1, e2⟩
  · rw [er] at e1
    cases e1
    cases e2
    have h1 : RFq S0 t len q1 (L.length + (q1 - p) + 1) S1 := h1
    have := kf_X8_compared (a := a) (dd := 7 * (6 - op) + (5 - 2)) (w1 := .null) hl h1
    rw [← Nat.add_assoc] at this
    exact this
  · rw [er] at e1
    cases e1
    have h1 : ROq S0 t len q1 op (L ++ l1) S1 := h1
    have a1 := PK_at f none _ _ _ _ _ er hp
    have a2 := a1.2.2.1 rfl l1 rfl
    exact hk op q1 p L l1 S1 r _ ⟨_, rfl⟩ ho a1.2.1 (by omega) hL (by omega) h1 e2

set_option maxRecDepth 20000 in
theorem kf_X8_both {S : St} {q m dd : Nat} (hl : len ≤ 120) (h : RFq S0 t len q m S) : J a mX8_both (4 + dd) (gm a fun x S' => x = none ∧ RFq S0 t len q m S') 4 [.ref (a 61)] [] S := by
  refine j_ald0 dX8_both_4 ?_
  refine j_getI (k := 26) dX8_both_5 cX8_ok (Or.inl f8_206) rfl (by decide) (by decide) (by decide) ?_
  refine j_ifge 44 dX8_both_8 (by decide) (fun c_8 => ?_) (fun c_8 => absurd (by rw [h.2.2.1.1]; exact nI_pos' (by have := h.2.1; omega)) c_8)
  refine j_vret dX8_both_44 rfl ?_
  exact ⟨rfl, h⟩

set_option maxRecDepth 20000 in
theorem k_X8_both {f : Nat} (ht : ∀ i, t i < 256) (hl : len ≤ 120) (hc : rvS a S0 t len f 2 mX8_compared) (hk : rwS a S0 t len f 1 mX8_both ws0) : rwS a S0 t len (f + 1) 1 mX8_both ws0 := by
  intro op p p0 L l S r w hw ho hp hp0 hL hll h hr
  cases hw
  refine j_ald0 dX8_both_4 ?_
  refine j_getI (k := 26) dX8_both_5 cX8_ok (Or.inl f8_206) rfl (by decide) (by decide) (by decide) ?_
  refine j_ifge 44 dX8_both_8 (by decide) (fun c_8 => absurd c_8 (by rw [h.2.2.1]; decide)) (fun c_8 => ?_)
  refine j_ald0 dX8_both_11 ?_
  refine j_cV0 dX8_both_12 kX8_look l8_218 rfl (by decide) rfl (Nat.le_of_ble_eq_true rfl) (Nat.le_of_ble_eq_true rfl) (by omega) (s_X8_look hl hp h) ?_
  refine j_bipush (38) dX8_both_15 rfl ?_
  refine j_icmpne 44 dX8_both_17 (by decide) (fun c_17 => ?_) (fun c_17 => ?_)
  · have hjn : ¬ jn 1 (sv t len p) = true := jn_e1f rfl (fun z => by exact c_17 ((lk_c ht (by decide) (by decide)).mpr z))
    rw [PK, if_neg hjn] at hr
    cases hr
    refine j_vret dX8_both_44 rfl ?_
    exact ⟨rfl, h⟩
  have hjn : jn 1 (sv t len p) = true := jn_e1t rfl ((lk_c ht (by decide) (by decide)).mp (Classical.not_not.mp c_17))
  rw [PK, if_pos hjn] at hr
  obtain ⟨r1, er⟩ := thn_ex hr
  have hlt := jn_1 hjn
  have hst := jn_st hjn
  have hlk := jn_lk ht hjn
  refine j_ald0 dX8_both_20 ?_
  refine j_dup dX8_both_21 rfl ?_
  refine j_getI (k := 25) dX8_both_22 cX8_ok (Or.inl f8_203) rfl (by decide) (by decide) (by decide) ?_
  refine j_top (y := nI p) (h.2.1) ?_
  refine j_iconst (1) dX8_both_25 rfl ?_
  refine j_iadd dX8_both_26 ?_
  refine j_top (y := nI (p + 1)) (nI_1 p) ?_
  refine j_putI (k := 25) dX8_both_27 cX8_ok (Or.inl f8_203) rfl (by decide) (by decide) (by decide) rfl ?_
  refine j_ald0 dX8_both_30 ?_
  refine j_qvV0 dX8_both_31 kX8_compared l8_247 rfl (by decide) rfl (Nat.le_of_ble_eq_true rfl) (Nat.le_of_ble_eq_true rfl) (by omega) (hc op (p + 1) (L ++ l) _ r1 ho hlt (by rw [List.length_append]; omega) h.adv er) (fun S1 h1 => ?_)
  rcases thn_some hr with ⟨q1, e1, e2⟩ | ⟨q1, l1, e1, e2⟩
  · rw [er] at e1
    cases e1
    cases e2
    have h1 : RFq S0 t len q1 ((L ++ l).length + (q1 - (p + 1)) + 1) S1 := h1
    have a1 := PK_at f none _ _ _ _ _ er hlt
    have a2 := a1.1
    have a3 := a1.2.1
    rw [List.length_append] at h1
    have hmm : L.length + l.length + (q1 - (p + 1)) + 1 + 1 ≤ L.length + (q1 - p0) + 1 := by omega
    refine j_ald0 dX8_both_34 ?_
    refine j_bipush (38) dX8_both_35 rfl ?_
    refine j_iconst (0) dX8_both_37 rfl ?_
    refine j_qvV2 dX8_both_38 kX8_addStep l8_221 rfl (by decide) rfl (Nat.le_of_ble_eq_true rfl) (Nat.le_of_ble_eq_true rfl) (by omega) (s_X8_addStep_f (by omega) h1) (fun S2 h2 => ?_)
    refine j_goto 4 dX8_both_41 (by decide) ?_
    have := kf_X8_both (a := a) (dd := 7 * (6 - op) + (5 - 1)) hl (h2.mono hmm)
    rw [← Nat.add_assoc] at this
    exact this
  · rw [er] at e1
    cases e1
    have h1 : ROq S0 t len q1 op (L ++ l ++ l1) S1 := h1
    have a1 := PK_at f none _ _ _ _ _ er hlt
    have a2 := a1.2.2.1 rfl l1 rfl
    have a3 := a1.2.1
    have ass : L ++ l ++ l1 ++ [-sv t len p] = L ++ (l ++ l1 ++ [-sv t len p]) := by simp only [List.append_assoc]
    rw [if_neg (by decide)] at e2
    refine j_ald0 dX8_both_34 ?_
    refine j_bipush (38) dX8_both_35 rfl ?_
    refine j_iconst (0) dX8_both_37 rfl ?_
    refine j_qvV2 dX8_both_38 kX8_addStep l8_221 rfl (by decide) rfl (Nat.le_of_ble_eq_true rfl) (Nat.le_of_ble_eq_true rfl) (by omega) (s_X8_addStep (x := -sv t len p) (by simp only [List.length_append] at *; omega) (by have z := hst.1.1; rw [of_decide_eq_true hjn] at z ⊢; exact z) hst.1.2 h1) (fun S2 h2 => ?_)
    refine j_goto 4 dX8_both_41 (by decide) ?_
    exact hk op q1 p0 L (l ++ l1 ++ [-sv t len p]) S2 r _ rfl ho a1.2.1 (by omega) hL (by simp only [List.length_append, List.length_singleton]; omega) (by rw [ass] at h2; exact h2) e2

set_option maxRecDepth 20000 in
theorem j_X8_both {f : Nat} (hl : len ≤ 120) (hc : rvS a S0 t len f 2 mX8_compared) (hk : rwS a S0 t len f 1 mX8_both ws0) : rvS a S0 t len (f + 1) 1 mX8_both := by
  intro op p L S r ho hp hL h hr
  show J _ _ _ _ 0 [_] [] _
  rw [PK, if_pos (show 1 < 5 by decide)] at hr
  obtain ⟨r1, er⟩ := thn_ex hr
  refine j_ald0 dX8_both_0 ?_
  refine j_qvV0 dX8_both_1 kX8_compared l8_247 rfl (by decide) rfl (Nat.le_of_ble_eq_true rfl) (Nat.le_of_ble_eq_true rfl) (by omega) (hc op p L S r1 ho hp hL h er) (fun S1 h1 => ?_)
  rcases thn_some hr with ⟨q1, e1, e2⟩ | ⟨q1, l1, e1, e2⟩
  · rw [er] at e1
    cases e1
    cases e2
    have h1 : RFq S0 t len q1 (L.length + (q1 - p) + 1) S1 := h1
    have := kf_X8_both (a := a) (dd := 7 * (6 - op) + (5 - 1)) hl h1
    rw [← Nat.add_assoc] at this
    exact this
  · rw [er] at e1
    cases e1
    have h1 : ROq S0 t len q1 op (L ++ l1) S1 := h1
    have a1 := PK_at f none _ _ _ _ _ er hp
    have a2 := a1.2.2.1 rfl l1 rfl
    exact hk op q1 p L l1 S1 r _ rfl ho a1.2.1 (by omega) hL (by omega) h1 e2

set_option maxRecDepth 20000 in
theorem kf_X8_either {S : St} {q m dd : Nat} (hl : len ≤ 120) (h : RFq S0 t len q m S) : J a mX8_either (4 + dd) (gm a fun x S' => x = none ∧ RFq S0 t len q m S') 4 [.ref (a 61)] [] S := by
  refine j_ald0 dX8_either_4 ?_
  refine j_getI (k := 26) dX8_either_5 cX8_ok (Or.inl f8_206) rfl (by decide) (by decide) (by decide) ?_
  refine j_ifge 44 dX8_either_8 (by decide) (fun c_8 => ?_) (fun c_8 => absurd (by rw [h.2.2.1.1]; exact nI_pos' (by have := h.2.1; omega)) c_8)
  refine j_vret dX8_either_44 rfl ?_
  exact ⟨rfl, h⟩

set_option maxRecDepth 20000 in
theorem k_X8_either {f : Nat} (ht : ∀ i, t i < 256) (hl : len ≤ 120) (hc : rvS a S0 t len f 1 mX8_both) (hk : rwS a S0 t len f 0 mX8_either ws0) : rwS a S0 t len (f + 1) 0 mX8_either ws0 := by
  intro op p p0 L l S r w hw ho hp hp0 hL hll h hr
  cases hw
  refine j_ald0 dX8_either_4 ?_
  refine j_getI (k := 26) dX8_either_5 cX8_ok (Or.inl f8_206) rfl (by decide) (by decide) (by decide) ?_
  refine j_ifge 44 dX8_either_8 (by decide) (fun c_8 => absurd c_8 (by rw [h.2.2.1]; decide)) (fun c_8 => ?_)
  refine j_ald0 dX8_either_11 ?_
  refine j_cV0 dX8_either_12 kX8_look l8_218 rfl (by decide) rfl (Nat.le_of_ble_eq_true rfl) (Nat.le_of_ble_eq_true rfl) (by omega) (s_X8_look hl hp h) ?_
  refine j_bipush (124) dX8_either_15 rfl ?_
  refine j_icmpne 44 dX8_either_17 (by decide) (fun c_17 => ?_) (fun c_17 => ?_)
  · have hjn : ¬ jn 0 (sv t len p) = true := jn_e0f rfl (fun z => by exact c_17 ((lk_c ht (by decide) (by decide)).mpr z))
    rw [PK, if_neg hjn] at hr
    cases hr
    refine j_vret dX8_either_44 rfl ?_
    exact ⟨rfl, h⟩
  have hjn : jn 0 (sv t len p) = true := jn_e0t rfl ((lk_c ht (by decide) (by decide)).mp (Classical.not_not.mp c_17))
  rw [PK, if_pos hjn] at hr
  obtain ⟨r1, er⟩ := thn_ex hr
  have hlt := jn_1 hjn
  have hst := jn_st hjn
  have hlk := jn_lk ht hjn
  refine j_ald0 dX8_either_20 ?_
  refine j_dup dX8_either_21 rfl ?_
  refine j_getI (k := 25) dX8_either_22 cX8_ok (Or.inl f8_203) rfl (by decide) (by decide) (by decide) ?_
  refine j_top (y := nI p) (h.2.1) ?_
  refine j_iconst (1) dX8_either_25 rfl ?_
  refine j_iadd dX8_either_26 ?_
  refine j_top (y := nI (p + 1)) (nI_1 p) ?_
  refine j_putI (k := 25) dX8_either_27 cX8_ok (Or.inl f8_203) rfl (by decide) (by decide) (by decide) rfl ?_
  refine j_ald0 dX8_either_30 ?_
  refine j_qvV0 dX8_either_31 kX8_both l8_250 rfl (by decide) rfl (Nat.le_of_ble_eq_true rfl) (Nat.le_of_ble_eq_true rfl) (by omega) (hc op (p + 1) (L ++ l) _ r1 ho hlt (by rw [List.length_append]; omega) h.adv er) (fun S1 h1 => ?_)
  rcases thn_some hr with ⟨q1, e1, e2⟩ | ⟨q1, l1, e1, e2⟩
  · rw [er] at e1
    cases e1
    cases e2
    have h1 : RFq S0 t len q1 ((L ++ l).length + (q1 - (p + 1)) + 1) S1 := h1
    have a1 := PK_at f none _ _ _ _ _ er hlt
    have a2 := a1.1
    have a3 := a1.2.1
    rw [List.length_append] at h1
    have hmm : L.length + l.length + (q1 - (p + 1)) + 1 + 1 ≤ L.length + (q1 - p0) + 1 := by omega
    refine j_ald0 dX8_either_34 ?_
    refine j_bipush (124) dX8_either_35 rfl ?_
    refine j_iconst (0) dX8_either_37 rfl ?_
    refine j_qvV2 dX8_either_38 kX8_addStep l8_221 rfl (by decide) rfl (Nat.le_of_ble_eq_true rfl) (Nat.le_of_ble_eq_true rfl) (by omega) (s_X8_addStep_f (by omega) h1) (fun S2 h2 => ?_)
    refine j_goto 4 dX8_either_41 (by decide) ?_
    have := kf_X8_either (a := a) (dd := 7 * (6 - op) + (5 - 0)) hl (h2.mono hmm)
    rw [← Nat.add_assoc] at this
    exact this
  · rw [er] at e1
    cases e1
    have h1 : ROq S0 t len q1 op (L ++ l ++ l1) S1 := h1
    have a1 := PK_at f none _ _ _ _ _ er hlt
    have a2 := a1.2.2.1 rfl l1 rfl
    have a3 := a1.2.1
    have ass : L ++ l ++ l1 ++ [-sv t len p] = L ++ (l ++ l1 ++ [-sv t len p]) := by simp only [List.append_assoc]
    rw [if_neg (by decide)] at e2
    refine j_ald0 dX8_either_34 ?_
    refine j_bipush (124) dX8_either_35 rfl ?_
    refine j_iconst (0) dX8_either_37 rfl ?_
    refine j_qvV2 dX8_either_38 kX8_addStep l8_221 rfl (by decide) rfl (Nat.le_of_ble_eq_true rfl) (Nat.le_of_ble_eq_true rfl) (by omega) (s_X8_addStep (x := -sv t len p) (by simp only [List.length_append] at *; omega) (by have z := hst.1.1; rw [of_decide_eq_true hjn] at z ⊢; exact z) hst.1.2 h1) (fun S2 h2 => ?_)
    refine j_goto 4 dX8_either_41 (by decide) ?_
    exact hk op q1 p0 L (l ++ l1 ++ [-sv t len p]) S2 r _ rfl ho a1.2.1 (by omega) hL (by simp only [List.length_append, List.length_singleton]; omega) (by rw [ass] at h2; exact h2) e2

set_option maxRecDepth 20000 in
theorem j_X8_either {f : Nat} (hl : len ≤ 120) (hc : rvS a S0 t len f 1 mX8_both) (hk : rwS a S0 t len f 0 mX8_either ws0) : rvS a S0 t len (f + 1) 0 mX8_either := by
  intro op p L S r ho hp hL h hr
  show J _ _ _ _ 0 [_] [] _
  rw [PK, if_pos (show 0 < 5 by decide)] at hr
  obtain ⟨r1, er⟩ := thn_ex hr
  refine j_ald0 dX8_either_0 ?_
  refine j_qvV0 dX8_either_1 kX8_both l8_250 rfl (by decide) rfl (Nat.le_of_ble_eq_true rfl) (Nat.le_of_ble_eq_true rfl) (by omega) (hc op p L S r1 ho hp hL h er) (fun S1 h1 => ?_)
  rcases thn_some hr with ⟨q1, e1, e2⟩ | ⟨q1, l1, e1, e2⟩
  · rw [er] at e1
    cases e1
    cases e2
    have h1 : RFq S0 t len q1 (L.length + (q1 - p) + 1) S1 := h1
    have := kf_X8_either (a := a) (dd := 7 * (6 - op) + (5 - 0)) hl h1
    rw [← Nat.add_assoc] at this
    exact this
  · rw [er] at e1
    cases e1
    have h1 : ROq S0 t len q1 op (L ++ l1) S1 := h1
    have a1 := PK_at f none _ _ _ _ _ er hp
    have a2 := a1.2.2.1 rfl l1 rfl
    exact hk op q1 p L l1 S1 r _ rfl ho a1.2.1 (by omega) hL (by omega) h1 e2

set_option maxRecDepth 20000 in
theorem j_X8_operand {f : Nat} (ht : ∀ i, t i < 256) (hl : len ≤ 120) (hj : rvS a S0 t len f 0 mX8_either) (hq : rvS a S0 t len f 5 mX8_operand) : rvS a S0 t len (f + 1) 5 mX8_operand := by
  intro op p L S r ho hp hL h hr
  show J _ _ _ _ 0 [_, .null] [] _
  refine j_ald0 dX8_operand_0 ?_
  refine j_cV0 dX8_operand_1 kX8_look l8_218 rfl (by decide) rfl (Nat.le_of_ble_eq_true rfl) (Nat.le_of_ble_eq_true rfl) (by omega) (s_X8_look hl hp h) ?_
  refine j_ist1 dX8_operand_4 rfl (by decide) ?_
  refine j_ild1 dX8_operand_5 ?_
  refine j_cS1 dX8_operand_6 kX8_nameOf zX8_nameOf (Or.inl l8_225) (Nat.le_of_ble_eq_true rfl) (Nat.le_of_ble_eq_true rfl) (by omega) (s_X8_nameOf) ?_
  refine j_iflt 34 dX8_operand_9 (by decide) (fun c_9 => ?_) (fun c_9 => ?_)
  · have q_9 : ¬ isNm (sv t len p) = true := fun z => absurd (nm_iff.mpr (show isNm (lk t len p) = true by rw [nm_lk ht]; exact z)) (Int32.not_le.mpr c_9)
    refine j_ild1 dX8_operand_34 ?_
    refine j_bipush (33) dX8_operand_35 rfl ?_
    refine j_icmpeq 46 dX8_operand_37 (by decide) (fun c_37 => ?_) (fun c_37 => ?_)
    · have hlk := c_37
      have hsv : sv t len p = 33 := (lk_c ht (by decide) (by decide)).mp c_37
      have hlt := (sv_lt hsv (by decide)).1
      rcases Nat.lt_or_ge op 6 with o6 | o6
      · rw [PK5_not hsv o6] at hr
        obtain ⟨r1, er⟩ := thn_ex hr
        refine j_ald0 dX8_operand_46 ?_
        refine j_qiV0 dX8_operand_47 kX8_opens l8_228 rfl (by decide) rfl (Nat.le_of_ble_eq_true rfl) (Nat.le_of_ble_eq_true rfl) (by omega) (s_X8_opens o6 h) (fun x1 S1 h1 => ?_)
        obtain ⟨rfl, h1⟩ := h1
        refine j_ifne 54 dX8_operand_50 (by decide) (fun c_50 => ?_) (fun c_50 => absurd (by decide) c_50)
        refine j_ald0 dX8_operand_54 ?_
        refine j_qvV0 dX8_operand_55 kX8_operand l8_232 rfl (by decide) rfl (Nat.le_of_ble_eq_true rfl) (Nat.le_of_ble_eq_true rfl) (by omega) (hq (op + 1) (p + 1) L S1 r1 (by omega) hlt (by omega) h1 er) (fun S2 h2 => ?_)
        rcases thn_some hr with ⟨q1, e1, e2⟩ | ⟨q1, l1, e1, e2⟩
        · rw [er] at e1
          cases e1
          cases e2
          have h2 : RFq S0 t len q1 (L.length + (q1 - (p + 1)) + 1) S2 := h2
          have a1 := PK_at f none _ _ _ _ _ er hlt
          have a2 := a1.1
          have a3 := a1.2.1
          refine j_ald0 dX8_operand_58 ?_
          refine j_dup dX8_operand_59 rfl ?_
          refine j_getI (k := 27) dX8_operand_60 cX8_ok (Or.inl f8_212) rfl (by decide) (by decide) (by decide) ?_
          refine j_iconst (1) dX8_operand_63 rfl ?_
          refine j_isub dX8_operand_64 ?_
          refine j_putI (k := 27) dX8_operand_65 cX8_ok (Or.inl f8_212) rfl (by decide) (by decide) (by decide) rfl ?_
          refine j_ald0 dX8_operand_68 ?_
          refine j_ild1 dX8_operand_69 ?_
          refine j_bipush (33) dX8_operand_70 rfl ?_
          refine j_icmpne 79 dX8_operand_72 (by decide) (fun c_72 => absurd c_72 (not_not_intro hlk)) (fun c_72 => ?_)
          refine j_iconst (3) dX8_operand_75 rfl ?_
          refine j_goto 80 dX8_operand_76 (by decide) ?_
          refine j_iconst (0) dX8_operand_80 rfl ?_
          refine j_qvV2 dX8_operand_81 kX8_addStep l8_221 rfl (by decide) rfl (Nat.le_of_ble_eq_true rfl) (Nat.le_of_ble_eq_true rfl) (by omega) (s_X8_addStep_f (by omega) h2.opn) (fun S3 h3 => ?_)
          refine j_goto 154 dX8_operand_84 (by decide) ?_
          refine j_vret dX8_operand_154 rfl ?_
          exact ⟨rfl, h3.mono (by omega)⟩
        · rw [er] at e1
          cases e1
          cases e2
          have h2 : ROq S0 t len q1 (op + 1) (L ++ l1) S2 := h2
          have a1 := PK_at f none _ _ _ _ _ er hlt
          have a2 := a1.2.2.1 rfl l1 rfl
          have a3 := a1.2.1
          refine j_ald0 dX8_operand_58 ?_
          refine j_dup dX8_operand_59 rfl ?_
          refine j_getI (k := 27) dX8_operand_60 cX8_ok (Or.inl f8_212) rfl (by decide) (by decide) (by decide) ?_
          refine j_top (y := nI (op + 1)) (h2.2.2.2.1) ?_
          refine j_iconst (1) dX8_operand_63 rfl ?_
          refine j_isub dX8_operand_64 ?_
          refine j_top (y := nI op) (by exact pk_sub (a := op + 1) (b := 1) (by omega)) ?_
          refine j_putI (k := 27) dX8_operand_65 cX8_ok (Or.inl f8_212) rfl (by decide) (by decide) (by decide) rfl ?_
          refine j_ald0 dX8_operand_68 ?_
          refine j_ild1 dX8_operand_69 ?_
          refine j_bipush (33) dX8_operand_70 rfl ?_
          refine j_icmpne 79 dX8_operand_72 (by decide) (fun c_72 => absurd c_72 (not_not_intro hlk)) (fun c_72 => ?_)
          refine j_iconst (3) dX8_operand_75 rfl ?_
          refine j_goto 80 dX8_operand_76 (by decide) ?_
          refine j_iconst (0) dX8_operand_80 rfl ?_
          refine j_qvV2 dX8_operand_81 kX8_addStep l8_221 rfl (by decide) rfl (Nat.le_of_ble_eq_true rfl) (Nat.le_of_ble_eq_true rfl) (by omega) (s_X8_addStep (x := -33) (by simp only [List.length_append] at *; omega) (by decide) (by decide) (h2.opn (q := op))) (fun S3 h3 => ?_)
          refine j_goto 154 dX8_operand_84 (by decide) ?_
          refine j_vret dX8_operand_154 rfl ?_
          exact ⟨rfl, by rw [List.append_assoc] at h3; exact h3⟩
      · rw [PK5_full hsv (by decide) o6] at hr
        cases hr
        have e6 : op = 6 := by omega
        subst e6
        refine j_ald0 dX8_operand_46 ?_
        refine j_qiV0 dX8_operand_47 kX8_opens l8_228 rfl (by decide) rfl (Nat.le_of_ble_eq_true rfl) (Nat.le_of_ble_eq_true rfl) (by omega) (s_X8_opens_no hp h) (fun x1 S1 h1 => ?_)
        obtain ⟨rfl, h1⟩ := h1
        refine j_ifne 54 dX8_operand_50 (by decide) (fun c_50 => absurd c_50 (not_not_intro rfl)) (fun c_50 => ?_)
        refine j_vret dX8_operand_53 rfl ?_
        exact ⟨rfl, h1.mono (by omega)⟩
    refine j_ild1 dX8_operand_40 ?_
    refine j_bipush (45) dX8_operand_41 rfl ?_
    refine j_icmpne 87 dX8_operand_43 (by decide) (fun c_43 => ?_) (fun c_43 => ?_)
    · refine j_ild1 dX8_operand_87 ?_
      refine j_bipush (40) dX8_operand_88 rfl ?_
      refine j_icmpne 150 dX8_operand_90 (by decide) (fun c_90 => ?_) (fun c_90 => ?_)
      · refine j_ald0 dX8_operand_150 ?_
        refine j_qvV0 dX8_operand_151 kX8_figure l8_238 rfl (by decide) rfl (Nat.le_of_ble_eq_true rfl) (Nat.le_of_ble_eq_true rfl) (by omega) (s_X8_figure ht hl hp (by omega) h) (fun S1 h1 => ?_)
        refine j_vret dX8_operand_154 rfl ?_
        refine ⟨rfl, ?_⟩
        rw [PK5_fig q_9 (fun z => c_90 ((lk_c ht (by decide) (by decide)).mpr z)) (fun z => c_37 ((lk_c ht (by decide) (by decide)).mpr z)) (fun z => c_43 ((lk_c ht (by decide) (by decide)).mpr z))] at hr
        by_cases d0 : isDg (sv t len p) = true
        · rw [if_pos d0] at hr
          have n4 := numR_4 d0
          by_cases d1 : isDg (sv t len (numR t len 4 p 0).1) = true
          · rw [if_pos d1] at hr
            cases hr
            exact (h1.1 (Or.inr d1)).mono (by omega)
          · rw [if_neg d1] at hr
            cases hr
            exact h1.2 (fun z => z.elim (fun y => y d0) d1)
        · rw [if_neg d0] at hr
          cases hr
          have e4 : numR t len 4 p 0 = (p, 0) := by rw [numR, if_neg d0]
          rw [e4] at h1
          exact (h1.1 (Or.inl d0)).mono (by omega)
      have hsv : sv t len p = 40 := (lk_c ht (by decide) (by decide)).mp (Classical.not_not.mp c_90)
      have hlt := (sv_lt hsv (by decide)).1
      rcases Nat.lt_or_ge op 6 with o6 | o6
      · rw [PK5_par hsv o6] at hr
        obtain ⟨r1, er⟩ := thn_ex hr
        refine j_ald0 dX8_operand_93 ?_
        refine j_qiV0 dX8_operand_94 kX8_opens l8_228 rfl (by decide) rfl (Nat.le_of_ble_eq_true rfl) (Nat.le_of_ble_eq_true rfl) (by omega) (s_X8_opens o6 h) (fun x1 S1 h1 => ?_)
        obtain ⟨rfl, h1⟩ := h1
        refine j_ifne 101 dX8_operand_97 (by decide) (fun c_97 => ?_) (fun c_97 => absurd (by decide) c_97)
        refine j_ald0 dX8_operand_101 ?_
        refine j_qvV0 dX8_operand_102 kX8_either l8_235 rfl (by decide) rfl (Nat.le_of_ble_eq_true rfl) (Nat.le_of_ble_eq_true rfl) (by omega) (hj (op + 1) (p + 1) L S1 r1 (by omega) hlt (by omega) h1 er) (fun S2 h2 => ?_)
        rcases thn_some hr with ⟨q1, e1, e2⟩ | ⟨q1, l1, e1, e2⟩
        · rw [er] at e1
          cases e1
          cases e2
          have h2 : RFq S0 t len q1 (L.length + (q1 - (p + 1)) + 1) S2 := h2
          have a1 := PK_at f none _ _ _ _ _ er hlt
          have a2 := a1.1
          refine j_ald0 dX8_operand_105 ?_
          refine j_getI (k := 26) dX8_operand_106 cX8_ok (Or.inl f8_206) rfl (by decide) (by decide) (by decide) ?_
          refine j_iflt 113 dX8_operand_109 (by decide) (fun c_109 => absurd c_109 (by rw [h2.2.2.1.1]; exact nI_pos (by have := h2.2.1; omega))) (fun c_109 => ?_)
          refine j_vret dX8_operand_112 rfl ?_
          exact ⟨rfl, h2.mono (by omega)⟩
        · rw [er] at e1
          cases e1
          have h2 : ROq S0 t len q1 (op + 1) (L ++ l1) S2 := h2
          have a1 := PK_at f none _ _ _ _ _ er hlt
          have a2 := a1.2.2.1 rfl l1 rfl
          have a3 := a1.2.1
          refine j_ald0 dX8_operand_105 ?_
          refine j_getI (k := 26) dX8_operand_106 cX8_ok (Or.inl f8_206) rfl (by decide) (by decide) (by decide) ?_
          refine j_iflt 113 dX8_operand_109 (by decide) (fun c_109 => ?_) (fun c_109 => absurd (by rw [h2.2.2.1]; decide) c_109)
          refine j_ald0 dX8_operand_113 ?_
          refine j_cV0 dX8_operand_114 kX8_look l8_218 rfl (by decide) rfl (Nat.le_of_ble_eq_true rfl) (Nat.le_of_ble_eq_true rfl) (by omega) (s_X8_look hl a3 h2) ?_
          refine j_bipush (41) dX8_operand_117 rfl ?_
          refine j_icmpeq 127 dX8_operand_119 (by decide) (fun c_119 => ?_) (fun c_119 => ?_)
          · have hs2 : sv t len q1 = 41 := (lk_c ht (by decide) (by decide)).mp c_119
            rw [if_pos hs2] at e2
            cases e2
            refine j_ald0 dX8_operand_127 ?_
            refine j_dup dX8_operand_128 rfl ?_
            refine j_getI (k := 25) dX8_operand_129 cX8_ok (Or.inl f8_203) rfl (by decide) (by decide) (by decide) ?_
            refine j_top (y := nI q1) (h2.2.1) ?_
            refine j_iconst (1) dX8_operand_132 rfl ?_
            refine j_iadd dX8_operand_133 ?_
            refine j_top (y := nI (q1 + 1)) (nI_1 q1) ?_
            refine j_putI (k := 25) dX8_operand_134 cX8_ok (Or.inl f8_203) rfl (by decide) (by decide) (by decide) rfl ?_
            refine j_ald0 dX8_operand_137 ?_
            refine j_dup dX8_operand_138 rfl ?_
            refine j_getI (k := 27) dX8_operand_139 cX8_ok (Or.inl f8_212) rfl (by decide) (by decide) (by decide) ?_
            refine j_top (y := nI (op + 1)) (by rw [uI_at, if_neg (by omega)]; exact h2.2.2.2.1) ?_
            refine j_iconst (1) dX8_operand_142 rfl ?_
            refine j_isub dX8_operand_143 ?_
            refine j_top (y := nI op) (by exact pk_sub (a := op + 1) (b := 1) (by omega)) ?_
            refine j_putI (k := 27) dX8_operand_144 cX8_ok (Or.inl f8_212) rfl (by decide) (by decide) (by decide) rfl ?_
            refine j_goto 154 dX8_operand_147 (by decide) ?_
            refine j_vret dX8_operand_154 rfl ?_
            exact ⟨rfl, (h2.adv (q := q1 + 1)).opn⟩
          have hs2 : ¬ sv t len q1 = 41 := fun z => c_119 ((lk_c ht (by decide) (by decide)).mpr z)
          rw [if_neg hs2] at e2
          cases e2
          refine j_ald0 dX8_operand_122 ?_
          refine j_qvV0 dX8_operand_123 kX8_faulty l8_215 rfl (by decide) rfl (Nat.le_of_ble_eq_true rfl) (Nat.le_of_ble_eq_true rfl) (by omega) (s_X8_faulty a3 h2) (fun S3 h3 => ?_)
          refine j_vret dX8_operand_126 rfl ?_
          exact ⟨rfl, h3.mono (by simp only [List.length_append] at *; omega)⟩
      · rw [PK5_full hsv (by decide) o6] at hr
        cases hr
        have e6 : op = 6 := by omega
        subst e6
        refine j_ald0 dX8_operand_93 ?_
        refine j_qiV0 dX8_operand_94 kX8_opens l8_228 rfl (by decide) rfl (Nat.le_of_ble_eq_true rfl) (Nat.le_of_ble_eq_true rfl) (by omega) (s_X8_opens_no hp h) (fun x1 S1 h1 => ?_)
        obtain ⟨rfl, h1⟩ := h1
        refine j_ifne 101 dX8_operand_97 (by decide) (fun c_97 => absurd c_97 (not_not_intro rfl)) (fun c_97 => ?_)
        refine j_vret dX8_operand_100 rfl ?_
        exact ⟨rfl, h1.mono (by omega)⟩
    have hlk : lk t len p = 45 := Classical.not_not.mp c_43
    have hsv : sv t len p = 45 := (lk_c ht (by decide) (by decide)).mp hlk
    have hlt := (sv_lt hsv (by decide)).1
    rcases Nat.lt_or_ge op 6 with o6 | o6
    · rw [PK5_neg hsv o6] at hr
      obtain ⟨r1, er⟩ := thn_ex hr
      refine j_ald0 dX8_operand_46 ?_
      refine j_qiV0 dX8_operand_47 kX8_opens l8_228 rfl (by decide) rfl (Nat.le_of_ble_eq_true rfl) (Nat.le_of_ble_eq_true rfl) (by omega) (s_X8_opens o6 h) (fun x1 S1 h1 => ?_)
      obtain ⟨rfl, h1⟩ := h1
      refine j_ifne 54 dX8_operand_50 (by decide) (fun c_50 => ?_) (fun c_50 => absurd (by decide) c_50)
      refine j_ald0 dX8_operand_54 ?_
      refine j_qvV0 dX8_operand_55 kX8_operand l8_232 rfl (by decide) rfl (Nat.le_of_ble_eq_true rfl) (Nat.le_of_ble_eq_true rfl) (by omega) (hq (op + 1) (p + 1) L S1 r1 (by omega) hlt (by omega) h1 er) (fun S2 h2 => ?_)
      rcases thn_some hr with ⟨q1, e1, e2⟩ | ⟨q1, l1, e1, e2⟩
      · rw [er] at e1
        cases e1
        cases e2
        have h2 : RFq S0 t len q1 (L.length + (q1 - (p + 1)) + 1) S2 := h2
        have a1 := PK_at f none _ _ _ _ _ er hlt
        have a2 := a1.1
        have a3 := a1.2.1
        refine j_ald0 dX8_operand_58 ?_
        refine j_dup dX8_operand_59 rfl ?_
        refine j_getI (k := 27) dX8_operand_60 cX8_ok (Or.inl f8_212) rfl (by decide) (by decide) (by decide) ?_
        refine j_iconst (1) dX8_operand_63 rfl ?_
        refine j_isub dX8_operand_64 ?_
        refine j_putI (k := 27) dX8_operand_65 cX8_ok (Or.inl f8_212) rfl (by decide) (by decide) (by decide) rfl ?_
        refine j_ald0 dX8_operand_68 ?_
        refine j_ild1 dX8_operand_69 ?_
        refine j_bipush (33) dX8_operand_70 rfl ?_
        refine j_icmpne 79 dX8_operand_72 (by decide) (fun c_72 => ?_) (fun c_72 => absurd (by rw [hlk]; decide) c_72)
        refine j_iconst (4) dX8_operand_79 rfl ?_
        refine j_iconst (0) dX8_operand_80 rfl ?_
        refine j_qvV2 dX8_operand_81 kX8_addStep l8_221 rfl (by decide) rfl (Nat.le_of_ble_eq_true rfl) (Nat.le_of_ble_eq_true rfl) (by omega) (s_X8_addStep_f (by omega) h2.opn) (fun S3 h3 => ?_)
        refine j_goto 154 dX8_operand_84 (by decide) ?_
        refine j_vret dX8_operand_154 rfl ?_
        exact ⟨rfl, h3.mono (by omega)⟩
      · rw [er] at e1
        cases e1
        cases e2
        have h2 : ROq S0 t len q1 (op + 1) (L ++ l1) S2 := h2
        have a1 := PK_at f none _ _ _ _ _ er hlt
        have a2 := a1.2.2.1 rfl l1 rfl
        have a3 := a1.2.1
        refine j_ald0 dX8_operand_58 ?_
        refine j_dup dX8_operand_59 rfl ?_
        refine j_getI (k := 27) dX8_operand_60 cX8_ok (Or.inl f8_212) rfl (by decide) (by decide) (by decide) ?_
        refine j_top (y := nI (op + 1)) (h2.2.2.2.1) ?_
        refine j_iconst (1) dX8_operand_63 rfl ?_
        refine j_isub dX8_operand_64 ?_
        refine j_top (y := nI op) (by exact pk_sub (a := op + 1) (b := 1) (by omega)) ?_
        refine j_putI (k := 27) dX8_operand_65 cX8_ok (Or.inl f8_212) rfl (by decide) (by decide) (by decide) rfl ?_
        refine j_ald0 dX8_operand_68 ?_
        refine j_ild1 dX8_operand_69 ?_
        refine j_bipush (33) dX8_operand_70 rfl ?_
        refine j_icmpne 79 dX8_operand_72 (by decide) (fun c_72 => ?_) (fun c_72 => absurd (by rw [hlk]; decide) c_72)
        refine j_iconst (4) dX8_operand_79 rfl ?_
        refine j_iconst (0) dX8_operand_80 rfl ?_
        refine j_qvV2 dX8_operand_81 kX8_addStep l8_221 rfl (by decide) rfl (Nat.le_of_ble_eq_true rfl) (Nat.le_of_ble_eq_true rfl) (by omega) (s_X8_addStep (x := -95) (by simp only [List.length_append] at *; omega) (by decide) (by decide) (h2.opn (q := op))) (fun S3 h3 => ?_)
        refine j_goto 154 dX8_operand_84 (by decide) ?_
        refine j_vret dX8_operand_154 rfl ?_
        exact ⟨rfl, by rw [List.append_assoc] at h3; exact h3⟩
    · rw [PK5_full hsv (by decide) o6] at hr
      cases hr
      have e6 : op = 6 := by omega
      subst e6
      refine j_ald0 dX8_operand_46 ?_
      refine j_qiV0 dX8_operand_47 kX8_opens l8_228 rfl (by decide) rfl (Nat.le_of_ble_eq_true rfl) (Nat.le_of_ble_eq_true rfl) (by omega) (s_X8_opens_no hp h) (fun x1 S1 h1 => ?_)
      obtain ⟨rfl, h1⟩ := h1
      refine j_ifne 54 dX8_operand_50 (by decide) (fun c_50 => absurd c_50 (not_not_intro rfl)) (fun c_50 => ?_)
      refine j_vret dX8_operand_53 rfl ?_
      exact ⟨rfl, h1.mono (by omega)⟩
  have q_9 : isNm (sv t len p) = true := by
    rw [← nm_lk ht]; exact nm_iff.mp (Int32.not_lt.mp c_9)
  rw [PK5_nm q_9] at hr
  cases hr
  have hlt := nm_1 q_9
  refine j_ald0 dX8_operand_12 ?_
  refine j_iconst (2) dX8_operand_13 rfl ?_
  refine j_ild1 dX8_operand_14 ?_
  refine j_cS1 dX8_operand_15 kX8_nameOf zX8_nameOf (Or.inl l8_225) (Nat.le_of_ble_eq_true rfl) (Nat.le_of_ble_eq_true rfl) (by omega) (s_X8_nameOf) ?_
  refine j_qvV2 dX8_operand_18 kX8_addStep l8_221 rfl (by decide) rfl (Nat.le_of_ble_eq_true rfl) (Nat.le_of_ble_eq_true rfl) (by omega) (s_X8_addStep (x := -sv t len p) (by omega) (nm_st q_9).1 (by rw [nm_lkv ht q_9]; exact (nm_st q_9).2) h) (fun S1 h1 => ?_)
  refine j_ald0 dX8_operand_21 ?_
  refine j_dup dX8_operand_22 rfl ?_
  refine j_getI (k := 25) dX8_operand_23 cX8_ok (Or.inl f8_203) rfl (by decide) (by decide) (by decide) ?_
  refine j_top (y := nI p) (h1.2.1) ?_
  refine j_iconst (1) dX8_operand_26 rfl ?_
  refine j_iadd dX8_operand_27 ?_
  refine j_top (y := nI (p + 1)) (nI_1 p) ?_
  refine j_putI (k := 25) dX8_operand_28 cX8_ok (Or.inl f8_203) rfl (by decide) (by decide) (by decide) rfl ?_
  refine j_goto 154 dX8_operand_31 (by decide) ?_
  refine j_vret dX8_operand_154 rfl ?_
  exact ⟨rfl, h1.adv⟩

theorem PK_0 {m : Option (List Int32)} {lvl op p : Nat} {r : Rs} (h : PK t len 0 m lvl op p = some r) : False := by rw [PK] at h; cases h
theorem s_X8_all (ht : ∀ i, t i < 256) (hl : len ≤ 120) : ∀ f, (rvS a S0 t len f 5 mX8_operand ∧ rvS a S0 t len f 4 mX8_product ∧ rvS a S0 t len f 3 mX8_sum ∧ rvS a S0 t len f 2 mX8_compared ∧ rvS a S0 t len f 1 mX8_both ∧ rvS a S0 t len f 0 mX8_either) ∧ rwS a S0 t len f 4 mX8_product ws1 ∧ rwS a S0 t len f 3 mX8_sum ws1 ∧ rwS a S0 t len f 2 mX8_compared ws1 ∧ rwS a S0 t len f 1 mX8_both ws0 ∧ rwS a S0 t len f 0 mX8_either ws0
  | 0 => ⟨⟨fun _ _ _ _ _ _ _ _ _ h => (PK_0 h).elim, fun _ _ _ _ _ _ _ _ _ h => (PK_0 h).elim, fun _ _ _ _ _ _ _ _ _ h => (PK_0 h).elim, fun _ _ _ _ _ _ _ _ _ h => (PK_0 h).elim, fun _ _ _ _ _ _ _ _ _ h => (PK_0 h).elim, fun _ _ _ _ _ _ _ _ _ h => (PK_0 h).elim⟩, fun _ _ _ _ _ _ _ _ _ _ _ _ _ _ _ h => (PK_0 h).elim, fun _ _ _ _ _ _ _ _ _ _ _ _ _ _ _ h => (PK_0 h).elim, fun _ _ _ _ _ _ _ _ _ _ _ _ _ _ _ h => (PK_0 h).elim, fun _ _ _ _ _ _ _ _ _ _ _ _ _ _ _ h => (PK_0 h).elim, fun _ _ _ _ _ _ _ _ _ _ _ _ _ _ _ h => (PK_0 h).elim⟩
  | f + 1 => by
    obtain ⟨⟨h5, h4, h3, h2, h1, h0⟩, k4, k3, k2, k1, k0⟩ := s_X8_all ht hl f
    exact ⟨⟨j_X8_operand ht hl h0 h5, j_X8_product hl h5 k4, j_X8_sum hl h4 k3, j_X8_compared hl h3 k2, j_X8_both hl h2 k1, j_X8_either hl h1 k0⟩, k_X8_product ht hl h5 k4, k_X8_sum ht hl h4 k3, k_X8_compared ht hl h3, k_X8_both ht hl h2 k1, k_X8_either ht hl h1 k0⟩
end ExprR
