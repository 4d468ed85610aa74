/-! a law's text: how the class reads expressions -/
theorem thn_ex {r : Option Rs} {k : Nat → List Int32 → Option Rs} {z : Rs} (h : thn r k = some z) : ∃ r1, r = some r1 := by
  rcases thn_some h with ⟨q, e, -⟩ | ⟨q, l, e, -⟩ <;> exact ⟨_, e⟩
section ExprC
variable {a : Nat → Nat} {S0 : St} {t : Nat → Nat} {len : Nat}
def LPq (S0 : St) (t : Nat → Nat) (len : Nat) (L : List Int32) (r : Rs) (S : St) : Prop := match r with
  | (q, none) => LFq S0 t len q S
  | (q, some l) => LOq S0 t len q (L ++ l) S
abbrev rjS (a : Nat → Nat) (S0 : St) (t : Nat → Nat) (len f : Nat) : Prop := ∀ (lvl op p : Nat) (L : List Int32) (S : St) (r : Rs), lvl ≤ 4 → op ≤ 6 → p ≤ len → L.length ≤ p → LOq S0 t len p L S → PK t len f none lvl op p = some r → Rqv a mX2_readJoined (4 + 12 * (6 - op) + 2 * (5 - lvl)) [.ref (a 2), .int (nI lvl), .int (nI op)] S (LPq S0 t len L r)
abbrev roS (a : Nat → Nat) (S0 : St) (t : Nat → Nat) (len f : Nat) : Prop := ∀ (op p : Nat) (L : List Int32) (S : St) (r : Rs), op ≤ 6 → p ≤ len → L.length ≤ p → LOq S0 t len p L S → PK t len f none 5 op p = some r → Rqv a mX2_readOperand (4 + 12 * (6 - op)) [.ref (a 2), .int (nI op)] S (LPq S0 t len L r)
abbrev rtS (a : Nat → Nat) (S0 : St) (t : Nat → Nat) (len f : Nat) : Prop := ∀ (lvl op p : Nat) (L : List Int32) (S : St) (r : Rs), lvl ≤ 4 → op ≤ 6 → p ≤ len → L.length ≤ p → LOq S0 t len p L S → PK t len f none (lvl + 1) op p = some r → Rqv a mX2_readTighter (3 + 12 * (6 - op) + 2 * (5 - lvl)) [.ref (a 2), .int (nI lvl), .int (nI op)] S (LPq S0 t len L r)
abbrev rkS (a : Nat → Nat) (S0 : St) (t : Nat → Nat) (len f : Nat) : Prop := ∀ (lvl op p : Nat) (L l : List Int32) (S : St) (r : Rs) (turn : Nat) (w4 : Value), lvl ≤ 4 → op ≤ 6 → p ≤ len → (L ++ l).length ≤ p → turn ≤ p → LOq S0 t len p (L ++ l) S → PK t len f (some l) lvl op p = some r → J a mX2_readJoined (4 + 12 * (6 - op) + 2 * (5 - lvl)) (gm a fun x S' => x = none ∧ LPq S0 t len L r S') 8 [.ref (a 2), .int (nI lvl), .int (nI op), .int (nI turn), w4] [] S

set_option maxRecDepth 20000 in
theorem k_X2_fault {S : St} {lvl q dd : Nat} {w3 : Int32} {w2 w4 : Value} (hl : len ≤ 120) (hv : lvl ≤ 4) (h : LFq S0 t len q S) : J a mX2_readJoined (4 + dd) (gm a fun x S' => x = none ∧ LFq S0 t len q S') 8 [.ref (a 2), .int (nI lvl), w2, .int w3, w4] [] S := by
  refine j_ild3 dX2_readJoined_8 ?_
  refine j_ald0 dX2_readJoined_9 ?_
  refine j_getI (k := 5) dX2_readJoined_10 cX2_ok (Or.inl f2_34) rfl (by decide) (by decide) (by decide) ?_
  refine j_icmpge 68 dX2_readJoined_13 (by decide) (fun c_13 => ?_) (fun c_13 => ?_)
  · refine j_vret dX2_readJoined_68 rfl ?_
    exact ⟨rfl, h⟩
  refine j_ild1 dX2_readJoined_16 ?_
  refine j_ald0 dX2_readJoined_17 ?_
  refine j_cV0 dX2_readJoined_18 kX2_sign l2_73 rfl (by decide) rfl (Nat.le_of_ble_eq_true rfl) (Nat.le_of_ble_eq_true rfl) (by omega) (s_X2_sign_f hl h) ?_
  refine j_cS2 dX2_readJoined_21 kX2_joins zX2_joins (Or.inl l2_77) (Nat.le_of_ble_eq_true rfl) (Nat.le_of_ble_eq_true rfl) (by omega) (s_X2_joins hv) ?_
  refine j_ifeqB 68 dX2_readJoined_24 (by decide) (fun c_24 => ?_) (fun c_24 => absurd c_24 (dg_jn (h.sg hl)))
  refine j_vret dX2_readJoined_68 rfl ?_
  exact ⟨rfl, h⟩

set_option maxRecDepth 20000 in
theorem s_X2_readTighter {f : Nat} (hj : rjS a S0 t len f) (hq : roS a S0 t len f) : rtS a S0 t len f := by
  intro lvl op p L S r hv ho hp hL h hr
  show J _ _ _ _ 0 [_, _, _] [] _
  refine j_ild1 dX2_readTighter_0 ?_
  refine j_iconst (4) dX2_readTighter_1 rfl ?_
  refine j_icmpge 16 dX2_readTighter_2 (by decide) (fun c_2 => ?_) (fun c_2 => ?_)
  · have q_2 : lvl = 4 := by have := (nI_leI (a := 4) (b := lvl) (by decide) (by omega)).mp c_2; omega
    subst q_2
    refine j_ald0 dX2_readTighter_16 ?_
    refine j_ild2 dX2_readTighter_17 ?_
    refine j_qvV1 dX2_readTighter_18 kX2_readOperand l2_81 rfl (by decide) rfl (Nat.le_of_ble_eq_true rfl) (Nat.le_of_ble_eq_true rfl) (by omega) (hq op p L S r ho hp hL h hr) (fun S1 h1 => ?_)
    refine j_vret dX2_readTighter_21 rfl ?_
    exact ⟨rfl, h1⟩
  have q_2 : lvl < 4 := Nat.not_le.mp (fun z => c_2 ((nI_leI (a := 4) (b := lvl) (by decide) (by omega)).mpr z))
  refine j_ald0 dX2_readTighter_5 ?_
  refine j_ild1 dX2_readTighter_6 ?_
  refine j_iconst (1) dX2_readTighter_7 rfl ?_
  refine j_iadd dX2_readTighter_8 ?_
  refine j_top (y := nI (lvl + 1)) (nI_1 lvl) ?_
  refine j_ild2 dX2_readTighter_9 ?_
  refine j_qvV2 dX2_readTighter_10 kX2_readJoined l2_62 rfl (by decide) rfl (Nat.le_of_ble_eq_true rfl) (Nat.le_of_ble_eq_true rfl) (by omega) (hj (lvl + 1) op p L S r (by omega) ho hp hL h hr) (fun S1 h1 => ?_)
  refine j_goto 21 dX2_readTighter_13 (by decide) ?_
  refine j_vret dX2_readTighter_21 rfl ?_
  exact ⟨rfl, h1⟩

set_option maxRecDepth 20000 in
theorem s_X2_k {f : Nat} (g : G2 S0) (hl : len ≤ 120) (ht2 : rtS a S0 t len f) (hk : rkS a S0 t len f) : rkS a S0 t len (f + 1) := by
  intro lvl op p L l S r turn w4 hv ho hp hL htu h hr
  refine j_ild3 dX2_readJoined_8 ?_
  refine j_ald0 dX2_readJoined_9 ?_
  refine j_getI (k := 5) dX2_readJoined_10 cX2_ok (Or.inl f2_34) rfl (by decide) (by decide) (by decide) ?_
  refine j_icmpge 68 dX2_readJoined_13 (by decide) (fun c_13 => ?_) (fun c_13 => ?_)
  · have q_13 : ¬ jn lvl (sv t len p) = true := fun z => by
      have := jn_1 z
      have c := c_13
      rw [h.1.2.2.2.2.1] at c
      have := (nI_leI (a := len) (b := turn) (by omega) (by omega)).mp c
      omega
    rw [PK, if_neg q_13] at hr
    cases hr
    refine j_vret dX2_readJoined_68 rfl ?_
    exact ⟨rfl, h⟩
  refine j_ild1 dX2_readJoined_16 ?_
  refine j_ald0 dX2_readJoined_17 ?_
  refine j_cV0 dX2_readJoined_18 kX2_sign l2_73 rfl (by decide) rfl (Nat.le_of_ble_eq_true rfl) (Nat.le_of_ble_eq_true rfl) (by omega) (s_X2_sign hl hp h) ?_
  refine j_cS2 dX2_readJoined_21 kX2_joins zX2_joins (Or.inl l2_77) (Nat.le_of_ble_eq_true rfl) (Nat.le_of_ble_eq_true rfl) (by omega) (s_X2_joins hv) ?_
  refine j_ifeqB 68 dX2_readJoined_24 (by decide) (fun c_24 => ?_) (fun c_24 => ?_)
  · rw [PK, if_neg c_24] at hr
    cases hr
    refine j_vret dX2_readJoined_68 rfl ?_
    exact ⟨rfl, h⟩
  rw [PK, if_pos c_24] at hr
  have hlt := jn_1 c_24
  obtain ⟨r1, er⟩ := thn_ex hr
  refine j_ald0 dX2_readJoined_27 ?_
  refine j_cV0 dX2_readJoined_28 kX2_sign l2_73 rfl (by decide) rfl (Nat.le_of_ble_eq_true rfl) (Nat.le_of_ble_eq_true rfl) (by omega) (s_X2_sign hl hp h) ?_
  refine j_ist4 dX2_readJoined_31 rfl (by decide) ?_
  refine j_ald0 dX2_readJoined_33 ?_
  refine j_dup dX2_readJoined_34 rfl ?_
  refine j_getI (k := 6) dX2_readJoined_35 cX2_ok (Or.inl f2_43) rfl (by decide) (by decide) (by decide) ?_
  refine j_top (y := nI p) (h.2.1) ?_
  refine j_iconst (1) dX2_readJoined_38 rfl ?_
  refine j_iadd dX2_readJoined_39 ?_
  refine j_top (y := nI (p + 1)) (nI_1 p) ?_
  refine j_putI (k := 6) dX2_readJoined_40 cX2_ok (Or.inl f2_43) rfl (by decide) (by decide) (by decide) rfl ?_
  refine j_ald0 dX2_readJoined_43 ?_
  refine j_ild1 dX2_readJoined_44 ?_
  refine j_ild2 dX2_readJoined_45 ?_
  refine j_qvV2 dX2_readJoined_46 kX2_readTighter l2_70 rfl (by decide) rfl (Nat.le_of_ble_eq_true rfl) (Nat.le_of_ble_eq_true rfl) (by omega) (ht2 lvl op (p + 1) (L ++ l) _ r1 hv ho hlt (by omega) (h.adv g) er) (fun S1 h1 => ?_)
  rcases thn_some hr with ⟨q1, e1, e2⟩ | ⟨q1, l1, e1, e2⟩
  · rw [er] at e1
    cases e1
    cases e2
    have h1 : LFq S0 t len q1 S1 := h1
    refine j_ald0 dX2_readJoined_49 ?_
    refine j_ild4 dX2_readJoined_50 ?_
    refine j_ineg dX2_readJoined_52 ?_
    refine j_qvV1 dX2_readJoined_53 kX2_emit l2_66 rfl (by decide) rfl (Nat.le_of_ble_eq_true rfl) (Nat.le_of_ble_eq_true rfl) (by omega) (s_X2_emit_f g h1) (fun S2 h2 => ?_)
    refine j_ild1 dX2_readJoined_56 ?_
    refine j_iconst (2) dX2_readJoined_57 rfl ?_
    refine j_icmpne 62 dX2_readJoined_58 (by decide) (fun c_58 => ?_) (fun c_58 => ?_)
    · refine j_iinc3 (nI (turn + 1)) dX2_readJoined_62 (nI_1 turn) rfl (by decide) ?_
      refine j_goto 8 dX2_readJoined_65 (by decide) ?_
      have := k_X2_fault (a := a) (dd := 12 * (6 - op) + 2 * (5 - lvl)) (w2 := .int (nI op)) (w3 := nI (turn + 1)) (w4 := .int (sv t len p)) hl hv h2
      rw [← Nat.add_assoc] at this
      exact this
    refine j_vret dX2_readJoined_61 rfl ?_
    exact ⟨rfl, h2⟩
  · rw [er] at e1
    cases e1
    have h1 : LOq S0 t len q1 (L ++ l ++ l1) S1 := h1
    have a1 := PK_at f none _ _ _ _ _ er hlt
    have a2 := a1.2.2.1 rfl l1 rfl
    have hlen1 : (L ++ l ++ l1).length ≤ q1 - 1 := by simp only [List.length_append] at *; omega
    have ass : L ++ l ++ l1 ++ [-sv t len p] = L ++ (l ++ l1 ++ [-sv t len p]) := by simp only [List.append_assoc]
    refine j_ald0 dX2_readJoined_49 ?_
    refine j_ild4 dX2_readJoined_50 ?_
    refine j_ineg dX2_readJoined_52 ?_
    refine j_qvV1 dX2_readJoined_53 kX2_emit l2_66 rfl (by decide) rfl (Nat.le_of_ble_eq_true rfl) (Nat.le_of_ble_eq_true rfl) (by omega) (s_X2_emit g (by omega) h1) (fun S2 h2 => ?_)
    refine j_ild1 dX2_readJoined_56 ?_
    refine j_iconst (2) dX2_readJoined_57 rfl ?_
    refine j_icmpne 62 dX2_readJoined_58 (by decide) (fun c_58 => ?_) (fun c_58 => ?_)
    · have q_58 : ¬ lvl = 2 := fun z => c_58 (by rw [z]; rfl)
      rw [if_neg q_58] at e2
      refine j_iinc3 (nI (turn + 1)) dX2_readJoined_62 (nI_1 turn) rfl (by decide) ?_
      refine j_goto 8 dX2_readJoined_65 (by decide) ?_
      exact hk lvl op q1 L (l ++ l1 ++ [-sv t len p]) S2 r (turn + 1) _ hv ho a1.2.1 (by simp only [List.length_append, List.length_singleton] at *; omega) (by omega) (by rw [ass] at h2; exact h2) e2
    have q_58 : lvl = 2 := (nI_eq (a := lvl) (b := 2) (by omega) (by decide)).mp (Classical.not_not.mp c_58)
    rw [if_pos q_58] at e2
    cases e2
    refine j_vret dX2_readJoined_61 rfl ?_
    exact ⟨rfl, by rw [ass] at h2; exact h2⟩

set_option maxRecDepth 20000 in
theorem s_X2_j {f : Nat} (hl : len ≤ 120) (ht2 : rtS a S0 t len f) (hk : rkS a S0 t len f) : rjS a S0 t len (f + 1) := by
  intro lvl op p L S r hv ho hp hL h hr
  show J _ _ _ _ 0 [_, _, _, .null, .null] [] _
  rw [PK, if_pos (show lvl < 5 by omega)] at hr
  obtain ⟨r1, er⟩ := thn_ex hr
  refine j_ald0 dX2_readJoined_0 ?_
  refine j_ild1 dX2_readJoined_1 ?_
  refine j_ild2 dX2_readJoined_2 ?_
  refine j_qvV2 dX2_readJoined_3 kX2_readTighter l2_70 rfl (by decide) rfl (Nat.le_of_ble_eq_true rfl) (Nat.le_of_ble_eq_true rfl) (by omega) (ht2 lvl op p L S r1 hv ho hp hL h er) (fun S1 h1 => ?_)
  refine j_iconst (0) dX2_readJoined_6 rfl ?_
  refine j_ist3 dX2_readJoined_7 rfl (by decide) ?_
  rcases thn_some hr with ⟨q1, e1, e2⟩ | ⟨q1, l1, e1, e2⟩
  · rw [er] at e1
    cases e1
    cases e2
    have h1 : LFq S0 t len q1 S1 := h1
    have := k_X2_fault (a := a) (dd := 12 * (6 - op) + 2 * (5 - lvl)) (w2 := .int (nI op)) (w3 := 0) (w4 := .null) hl hv h1
    rw [← Nat.add_assoc] at this
    exact this
  · rw [er] at e1
    cases e1
    have h1 : LOq S0 t len q1 (L ++ l1) S1 := h1
    have a1 := PK_at f none _ _ _ _ _ er hp
    have a2 := a1.2.2.1 rfl l1 rfl
    exact hk lvl op q1 L l1 S1 r 0 _ hv ho a1.2.1 (by simp only [List.length_append] at *; omega) (by omega) h1 e2

def bhR (r : Rs) (x : Int32) : Rs := match r with
  | (q, none) => (q, none)
  | (q, some l) => (q, some (l ++ [-x]))
set_option maxRecDepth 20000 in
theorem s_X2_readBehind {S : St} {f op p : Nat} {L : List Int32} {r : Rs} {x : Int32} (g : G2 S0) (hq : roS a S0 t len f) (ho : op < 6) (hp : p ≤ len) (hL : L.length ≤ p) (h : LOq S0 t len p L S) (hr : PK t len f none 5 (op + 1) p = some r) (h3 : ∀ l, r.2 = some l → (L ++ l).length < 128) : Rqv a mX2_readBehind (3 + 12 * (6 - op)) [.ref (a 2), .int x, .int (nI op)] S (LPq S0 t len L (bhR r x)) := by
  show J _ _ _ _ 0 [_, _, _] [] _
  refine j_ald0 dX2_readBehind_0 ?_
  refine j_ild2 dX2_readBehind_1 ?_
  refine j_iconst (1) dX2_readBehind_2 rfl ?_
  refine j_iadd dX2_readBehind_3 ?_
  refine j_top (y := nI (op + 1)) (nI_1 op) ?_
  refine j_qvV1 dX2_readBehind_4 kX2_readOperand l2_81 rfl (by decide) rfl (Nat.le_of_ble_eq_true rfl) (Nat.le_of_ble_eq_true rfl) (by omega) (hq (op + 1) p L S r (by omega) hp hL h hr) (fun S1 h1 => ?_)
  rcases r with ⟨q1, _ | l1⟩
  · have h1 : LFq S0 t len q1 S1 := h1
    refine j_ald0 dX2_readBehind_7 ?_
    refine j_ild1 dX2_readBehind_8 ?_
    refine j_ineg dX2_readBehind_9 ?_
    refine j_qvV1 dX2_readBehind_10 kX2_emit l2_66 rfl (by decide) rfl (Nat.le_of_ble_eq_true rfl) (Nat.le_of_ble_eq_true rfl) (by omega) (s_X2_emit_f g h1) (fun S2 h2 => ?_)
    refine j_vret dX2_readBehind_13 rfl ?_
    exact ⟨rfl, h2⟩
  · have h1 : LOq S0 t len q1 (L ++ l1) S1 := h1
    refine j_ald0 dX2_readBehind_7 ?_
    refine j_ild1 dX2_readBehind_8 ?_
    refine j_ineg dX2_readBehind_9 ?_
    refine j_qvV1 dX2_readBehind_10 kX2_emit l2_66 rfl (by decide) rfl (Nat.le_of_ble_eq_true rfl) (Nat.le_of_ble_eq_true rfl) (by omega) (s_X2_emit g (by have := h3 l1 rfl; omega) h1) (fun S2 h2 => ?_)
    refine j_vret dX2_readBehind_13 rfl ?_
    exact ⟨rfl, by rw [List.append_assoc] at h2; exact h2⟩

set_option maxRecDepth 20000 in
theorem s_X2_o {f : Nat} (g : G2 S0) (ht : ∀ i, t i < 256) (hl : len ≤ 120) (hj : rjS a S0 t len f) (hq : roS a S0 t len f) : roS a S0 t len (f + 1) := by
  intro op p L S r ho hp hL h hr
  show J _ _ _ _ 0 [_, _, .null] [] _
  rw [PK, if_neg (show ¬ 5 < 5 by decide)] at hr
  refine j_ald0 dX2_readOperand_0 ?_
  refine j_cV0 dX2_readOperand_1 kX2_sign l2_73 rfl (by decide) rfl (Nat.le_of_ble_eq_true rfl) (Nat.le_of_ble_eq_true rfl) (by omega) (s_X2_sign hl hp h) ?_
  refine j_ist2 dX2_readOperand_4 rfl (by decide) ?_
  refine j_ild2 dX2_readOperand_5 ?_
  refine j_cS1 dX2_readOperand_6 kX2_isDigit zX2_isDigit (Or.inl l2_84) (Nat.le_of_ble_eq_true rfl) (Nat.le_of_ble_eq_true rfl) (by omega) (s_X2_isDigit) ?_
  refine j_ifeqB 19 dX2_readOperand_9 (by decide) (fun c_9 => ?_) (fun c_9 => ?_)
  · rw [if_neg c_9] at hr
    refine j_ild2 dX2_readOperand_19 ?_
    refine j_bipush (97) dX2_readOperand_20 rfl ?_
    refine j_icmpeq 49 dX2_readOperand_22 (by decide) (fun c_22 => ?_) (fun c_22 => ?_)
    · have q_nm : isNm (sv t len p) = true := decide_eq_true (Or.inl (c_22))
      rw [if_pos q_nm] at hr
      cases hr
      have hlt := nm_1 q_nm
      refine j_ald0 dX2_readOperand_49 ?_
      refine j_dup dX2_readOperand_50 rfl ?_
      refine j_getI (k := 6) dX2_readOperand_51 cX2_ok (Or.inl f2_43) rfl (by decide) (by decide) (by decide) ?_
      refine j_top (y := nI p) (h.2.1) ?_
      refine j_iconst (1) dX2_readOperand_54 rfl ?_
      refine j_iadd dX2_readOperand_55 ?_
      refine j_top (y := nI (p + 1)) (nI_1 p) ?_
      refine j_putI (k := 6) dX2_readOperand_56 cX2_ok (Or.inl f2_43) rfl (by decide) (by decide) (by decide) rfl ?_
      refine j_ald0 dX2_readOperand_59 ?_
      refine j_ild2 dX2_readOperand_60 ?_
      refine j_ineg dX2_readOperand_61 ?_
      refine j_qvV1 dX2_readOperand_62 kX2_emit l2_66 rfl (by decide) rfl (Nat.le_of_ble_eq_true rfl) (Nat.le_of_ble_eq_true rfl) (by omega) (s_X2_emit g (by omega) (h.adv g (q := p + 1))) (fun S1 h1 => ?_)
      have h9 : LPq S0 t len L (p + 1, some [-sv t len p]) S1 := h1
      refine j_goto 156 dX2_readOperand_65 (by decide) ?_
      refine j_vret dX2_readOperand_156 rfl ?_
      exact ⟨rfl, h9⟩
    refine j_ild2 dX2_readOperand_25 ?_
    refine j_bipush (98) dX2_readOperand_26 rfl ?_
    refine j_icmpeq 49 dX2_readOperand_28 (by decide) (fun c_28 => ?_) (fun c_28 => ?_)
    · have q_nm : isNm (sv t len p) = true := decide_eq_true (Or.inr (Or.inl (c_28)))
      rw [if_pos q_nm] at hr
      cases hr
      have hlt := nm_1 q_nm
      refine j_ald0 dX2_readOperand_49 ?_
      refine j_dup dX2_readOperand_50 rfl ?_
      refine j_getI (k := 6) dX2_readOperand_51 cX2_ok (Or.inl f2_43) rfl (by decide) (by decide) (by decide) ?_
      refine j_top (y := nI p) (h.2.1) ?_
      refine j_iconst (1) dX2_readOperand_54 rfl ?_
      refine j_iadd dX2_readOperand_55 ?_
      refine j_top (y := nI (p + 1)) (nI_1 p) ?_
      refine j_putI (k := 6) dX2_readOperand_56 cX2_ok (Or.inl f2_43) rfl (by decide) (by decide) (by decide) rfl ?_
      refine j_ald0 dX2_readOperand_59 ?_
      refine j_ild2 dX2_readOperand_60 ?_
      refine j_ineg dX2_readOperand_61 ?_
      refine j_qvV1 dX2_readOperand_62 kX2_emit l2_66 rfl (by decide) rfl (Nat.le_of_ble_eq_true rfl) (Nat.le_of_ble_eq_true rfl) (by omega) (s_X2_emit g (by omega) (h.adv g (q := p + 1))) (fun S1 h1 => ?_)
      have h9 : LPq S0 t len L (p + 1, some [-sv t len p]) S1 := h1
      refine j_goto 156 dX2_readOperand_65 (by decide) ?_
      refine j_vret dX2_readOperand_156 rfl ?_
      exact ⟨rfl, h9⟩
    refine j_ild2 dX2_readOperand_31 ?_
    refine j_bipush (110) dX2_readOperand_32 rfl ?_
    refine j_icmpeq 49 dX2_readOperand_34 (by decide) (fun c_34 => ?_) (fun c_34 => ?_)
    · have q_nm : isNm (sv t len p) = true := decide_eq_true (Or.inr (Or.inr (Or.inl (c_34))))
      rw [if_pos q_nm] at hr
      cases hr
      have hlt := nm_1 q_nm
      refine j_ald0 dX2_readOperand_49 ?_
      refine j_dup dX2_readOperand_50 rfl ?_
      refine j_getI (k := 6) dX2_readOperand_51 cX2_ok (Or.inl f2_43) rfl (by decide) (by decide) (by decide) ?_
      refine j_top (y := nI p) (h.2.1) ?_
      refine j_iconst (1) dX2_readOperand_54 rfl ?_
      refine j_iadd dX2_readOperand_55 ?_
      refine j_top (y := nI (p + 1)) (nI_1 p) ?_
      refine j_putI (k := 6) dX2_readOperand_56 cX2_ok (Or.inl f2_43) rfl (by decide) (by decide) (by decide) rfl ?_
      refine j_ald0 dX2_readOperand_59 ?_
      refine j_ild2 dX2_readOperand_60 ?_
      refine j_ineg dX2_readOperand_61 ?_
      refine j_qvV1 dX2_readOperand_62 kX2_emit l2_66 rfl (by decide) rfl (Nat.le_of_ble_eq_true rfl) (Nat.le_of_ble_eq_true rfl) (by omega) (s_X2_emit g (by omega) (h.adv g (q := p + 1))) (fun S1 h1 => ?_)
      have h9 : LPq S0 t len L (p + 1, some [-sv t len p]) S1 := h1
      refine j_goto 156 dX2_readOperand_65 (by decide) ?_
      refine j_vret dX2_readOperand_156 rfl ?_
      exact ⟨rfl, h9⟩
    refine j_ild2 dX2_readOperand_37 ?_
    refine j_bipush (109) dX2_readOperand_38 rfl ?_
    refine j_icmpeq 49 dX2_readOperand_40 (by decide) (fun c_40 => ?_) (fun c_40 => ?_)
    · have q_nm : isNm (sv t len p) = true := decide_eq_true (Or.inr (Or.inr (Or.inr (Or.inl (c_40)))))
      rw [if_pos q_nm] at hr
      cases hr
      have hlt := nm_1 q_nm
      refine j_ald0 dX2_readOperand_49 ?_
      refine j_dup dX2_readOperand_50 rfl ?_
      refine j_getI (k := 6) dX2_readOperand_51 cX2_ok (Or.inl f2_43) rfl (by decide) (by decide) (by decide) ?_
      refine j_top (y := nI p) (h.2.1) ?_
      refine j_iconst (1) dX2_readOperand_54 rfl ?_
      refine j_iadd dX2_readOperand_55 ?_
      refine j_top (y := nI (p + 1)) (nI_1 p) ?_
      refine j_putI (k := 6) dX2_readOperand_56 cX2_ok (Or.inl f2_43) rfl (by decide) (by decide) (by decide) rfl ?_
      refine j_ald0 dX2_readOperand_59 ?_
      refine j_ild2 dX2_readOperand_60 ?_
      refine j_ineg dX2_readOperand_61 ?_
      refine j_qvV1 dX2_readOperand_62 kX2_emit l2_66 rfl (by decide) rfl (Nat.le_of_ble_eq_true rfl) (Nat.le_of_ble_eq_true rfl) (by omega) (s_X2_emit g (by omega) (h.adv g (q := p + 1))) (fun S1 h1 => ?_)
      have h9 : LPq S0 t len L (p + 1, some [-sv t len p]) S1 := h1
      refine j_goto 156 dX2_readOperand_65 (by decide) ?_
      refine j_vret dX2_readOperand_156 rfl ?_
      exact ⟨rfl, h9⟩
    refine j_ild2 dX2_readOperand_43 ?_
    refine j_bipush (115) dX2_readOperand_44 rfl ?_
    refine j_icmpne 68 dX2_readOperand_46 (by decide) (fun c_46 => ?_) (fun c_46 => ?_)
    · have q_nm : ¬ isNm (sv t len p) = true := fun z => by rcases (of_decide_eq_true z : sv t len p = 97 ∨ sv t len p = 98 ∨ sv t len p = 110 ∨ sv t len p = 109 ∨ sv t len p = 115) with z | z | z | z | z <;> first | exact c_22 z | exact c_28 z | exact c_34 z | exact c_40 z | exact c_46 z
      rw [if_neg q_nm] at hr
      refine j_ild1 dX2_readOperand_68 ?_
      refine j_bipush (6) dX2_readOperand_69 rfl ?_
      refine j_icmplt 81 dX2_readOperand_71 (by decide) (fun c_71 => ?_) (fun c_71 => ?_)
      · have q_71 : op < 6 := (nI_ltI (by omega) (by decide)).mp c_71
        rw [if_neg (Nat.not_le.mpr q_71)] at hr
        refine j_ald0 dX2_readOperand_81 ?_
        refine j_bipush (40) dX2_readOperand_82 rfl ?_
        refine j_cV1 dX2_readOperand_84 kX2_takes l2_55 rfl (by decide) rfl (Nat.le_of_ble_eq_true rfl) (Nat.le_of_ble_eq_true rfl) (by omega) (s_X2_takes hl hp h) ?_
        refine j_ifeqB 114 dX2_readOperand_87 (by decide) (fun c_87 => ?_) (fun c_87 => ?_)
        · refine j_S (if_neg c_87) ?_
          rw [if_neg c_87] at hr
          refine j_ald0 dX2_readOperand_114 ?_
          refine j_bipush (33) dX2_readOperand_115 rfl ?_
          refine j_cV1 dX2_readOperand_117 kX2_takes l2_55 rfl (by decide) rfl (Nat.le_of_ble_eq_true rfl) (Nat.le_of_ble_eq_true rfl) (by omega) (s_X2_takes hl hp h) ?_
          refine j_ifeqB 133 dX2_readOperand_120 (by decide) (fun c_120 => ?_) (fun c_120 => ?_)
          · refine j_S (if_neg c_120) ?_
            rw [if_neg c_120] at hr
            refine j_ald0 dX2_readOperand_133 ?_
            refine j_bipush (45) dX2_readOperand_134 rfl ?_
            refine j_cV1 dX2_readOperand_136 kX2_takes l2_55 rfl (by decide) rfl (Nat.le_of_ble_eq_true rfl) (Nat.le_of_ble_eq_true rfl) (by omega) (s_X2_takes hl hp h) ?_
            refine j_ifeqB 152 dX2_readOperand_139 (by decide) (fun c_139 => ?_) (fun c_139 => ?_)
            · refine j_S (if_neg c_139) ?_
              rw [if_neg c_139] at hr
              cases hr
              refine j_ald0 dX2_readOperand_152 ?_
              refine j_qvV0 dX2_readOperand_153 kX2_fail l2_59 rfl (by decide) rfl (Nat.le_of_ble_eq_true rfl) (Nat.le_of_ble_eq_true rfl) (by omega) (s_X2_fail g hp (by omega) h) (fun S1 h1 => ?_)
              have h9 := h1.f
              refine j_vret dX2_readOperand_156 rfl ?_
              exact ⟨rfl, h9⟩
            rw [if_pos c_139] at hr
            obtain ⟨⟨q1, r1⟩, er⟩ := thn_ex hr
            have hlt := (sv_lt c_139 (by decide)).1
            refine j_S (if_pos c_139) ?_
            have er2 : r = bhR (q1, r1) 95 := by
              rw [er] at hr
              cases r1 <;> (cases hr; rfl)
            subst er2
            refine j_ald0 dX2_readOperand_142 ?_
            refine j_bipush (95) dX2_readOperand_143 rfl ?_
            refine j_ild1 dX2_readOperand_145 ?_
            refine j_qvV2 dX2_readOperand_146 kX2_readBehind l2_90 rfl (by decide) rfl (Nat.le_of_ble_eq_true rfl) (Nat.le_of_ble_eq_true rfl) (by omega) (s_X2_readBehind g hq q_71 hlt (by omega) (h.adv g) er (fun l z => by have a1 := PK_at f none _ _ _ _ _ er hlt; have := a1.2.1; have := (a1.2.2.1 rfl l z).2.1; have := (a1.2.2.1 rfl l z).1; rw [List.length_append]; omega)) (fun S1 h1 => ?_)
            have h9 := h1
            refine j_goto 156 dX2_readOperand_149 (by decide) ?_
            refine j_vret dX2_readOperand_156 rfl ?_
            exact ⟨rfl, h9⟩
          rw [if_pos c_120] at hr
          obtain ⟨⟨q1, r1⟩, er⟩ := thn_ex hr
          have hlt := (sv_lt c_120 (by decide)).1
          refine j_S (if_pos c_120) ?_
          have er2 : r = bhR (q1, r1) 33 := by
            rw [er] at hr
            cases r1 <;> (cases hr; rfl)
          subst er2
          refine j_ald0 dX2_readOperand_123 ?_
          refine j_bipush (33) dX2_readOperand_124 rfl ?_
          refine j_ild1 dX2_readOperand_126 ?_
          refine j_qvV2 dX2_readOperand_127 kX2_readBehind l2_90 rfl (by decide) rfl (Nat.le_of_ble_eq_true rfl) (Nat.le_of_ble_eq_true rfl) (by omega) (s_X2_readBehind g hq q_71 hlt (by omega) (h.adv g) er (fun l z => by have a1 := PK_at f none _ _ _ _ _ er hlt; have := a1.2.1; have := (a1.2.2.1 rfl l z).2.1; have := (a1.2.2.1 rfl l z).1; rw [List.length_append]; omega)) (fun S1 h1 => ?_)
          have h9 := h1
          refine j_goto 156 dX2_readOperand_130 (by decide) ?_
          refine j_vret dX2_readOperand_156 rfl ?_
          exact ⟨rfl, h9⟩
        rw [if_pos c_87] at hr
        obtain ⟨r1, er⟩ := thn_ex hr
        have hlt := (sv_lt c_87 (by decide)).1
        refine j_S (if_pos c_87) ?_
        refine j_ald0 dX2_readOperand_90 ?_
        refine j_iconst (0) dX2_readOperand_91 rfl ?_
        refine j_ild1 dX2_readOperand_92 ?_
        refine j_iconst (1) dX2_readOperand_93 rfl ?_
        refine j_iadd dX2_readOperand_94 ?_
        refine j_top (y := nI (op + 1)) (nI_1 op) ?_
        refine j_qvV2 dX2_readOperand_95 kX2_readJoined l2_62 rfl (by decide) rfl (Nat.le_of_ble_eq_true rfl) (Nat.le_of_ble_eq_true rfl) (by omega) (hj 0 (op + 1) (p + 1) L _ r1 (by decide) (by omega) hlt (by omega) (h.adv g) er) (fun S1 h1 => ?_)
        rcases thn_some hr with ⟨q1, e1, e2⟩ | ⟨q1, l1, e1, e2⟩
        · rw [er] at e1
          cases e1
          cases e2
          have h1 : LFq S0 t len q1 S1 := h1
          refine j_ald0 dX2_readOperand_98 ?_
          refine j_bipush (41) dX2_readOperand_99 rfl ?_
          refine j_cV1 dX2_readOperand_101 kX2_takes l2_55 rfl (by decide) rfl (Nat.le_of_ble_eq_true rfl) (Nat.le_of_ble_eq_true rfl) (by omega) (s_X2_takes_f hl h1 (by decide) (by decide)) ?_
          refine j_ifneB 156 dX2_readOperand_104 (by decide) (fun c_104 => absurd c_104 (id)) (fun c_104 => ?_)
          refine j_ald0 dX2_readOperand_107 ?_
          refine j_qvV0 dX2_readOperand_108 kX2_fail l2_59 rfl (by decide) rfl (Nat.le_of_ble_eq_true rfl) (Nat.le_of_ble_eq_true rfl) (by omega) (s_X2_fail_f g hl h1) (fun S2 h2 => ?_)
          have h9 := h2.f
          refine j_goto 156 dX2_readOperand_111 (by decide) ?_
          refine j_vret dX2_readOperand_156 rfl ?_
          exact ⟨rfl, h9⟩
        · rw [er] at e1
          cases e1
          have h1 : LOq S0 t len q1 (L ++ l1) S1 := h1
          have a1 := PK_at f none _ _ _ _ _ er hlt
          have a2 := a1.2.2.1 rfl l1 rfl
          have hlen1 : (L ++ l1).length ≤ 120 := by simp only [List.length_append] at *; omega
          refine j_ald0 dX2_readOperand_98 ?_
          refine j_bipush (41) dX2_readOperand_99 rfl ?_
          refine j_cV1 dX2_readOperand_101 kX2_takes l2_55 rfl (by decide) rfl (Nat.le_of_ble_eq_true rfl) (Nat.le_of_ble_eq_true rfl) (by omega) (s_X2_takes hl a1.2.1 h1) ?_
          refine j_ifneB 156 dX2_readOperand_104 (by decide) (fun c_104 => ?_) (fun c_104 => ?_)
          · refine j_S (if_pos c_104) ?_
            rw [if_pos c_104] at e2
            cases e2
            have h9 : LPq S0 t len L (q1 + 1, some l1) _ := h1.adv g (q := q1 + 1)
            refine j_vret dX2_readOperand_156 rfl ?_
            exact ⟨rfl, h9⟩
          refine j_S (if_neg c_104) ?_
          rw [if_neg c_104] at e2
          cases e2
          refine j_ald0 dX2_readOperand_107 ?_
          refine j_qvV0 dX2_readOperand_108 kX2_fail l2_59 rfl (by decide) rfl (Nat.le_of_ble_eq_true rfl) (Nat.le_of_ble_eq_true rfl) (by omega) (s_X2_fail g a1.2.1 (by omega) h1) (fun S2 h2 => ?_)
          have h9 := h2.f
          refine j_goto 156 dX2_readOperand_111 (by decide) ?_
          refine j_vret dX2_readOperand_156 rfl ?_
          exact ⟨rfl, h9⟩
      have q_71 : 6 ≤ op := Nat.not_lt.mp (fun z => c_71 (nI_lt z (by decide)))
      rw [if_pos q_71] at hr
      cases hr
      refine j_ald0 dX2_readOperand_74 ?_
      refine j_qvV0 dX2_readOperand_75 kX2_fail l2_59 rfl (by decide) rfl (Nat.le_of_ble_eq_true rfl) (Nat.le_of_ble_eq_true rfl) (by omega) (s_X2_fail g hp (by omega) h) (fun S1 h1 => ?_)
      have h9 := h1.f
      refine j_goto 156 dX2_readOperand_78 (by decide) ?_
      refine j_vret dX2_readOperand_156 rfl ?_
      exact ⟨rfl, h9⟩
    have q_nm : isNm (sv t len p) = true := decide_eq_true (Or.inr (Or.inr (Or.inr (Or.inr (Classical.not_not.mp c_46)))))
    rw [if_pos q_nm] at hr
    cases hr
    have hlt := nm_1 q_nm
    refine j_ald0 dX2_readOperand_49 ?_
    refine j_dup dX2_readOperand_50 rfl ?_
    refine j_getI (k := 6) dX2_readOperand_51 cX2_ok (Or.inl f2_43) rfl (by decide) (by decide) (by decide) ?_
    refine j_top (y := nI p) (h.2.1) ?_
    refine j_iconst (1) dX2_readOperand_54 rfl ?_
    refine j_iadd dX2_readOperand_55 ?_
    refine j_top (y := nI (p + 1)) (nI_1 p) ?_
    refine j_putI (k := 6) dX2_readOperand_56 cX2_ok (Or.inl f2_43) rfl (by decide) (by decide) (by decide) rfl ?_
    refine j_ald0 dX2_readOperand_59 ?_
    refine j_ild2 dX2_readOperand_60 ?_
    refine j_ineg dX2_readOperand_61 ?_
    refine j_qvV1 dX2_readOperand_62 kX2_emit l2_66 rfl (by decide) rfl (Nat.le_of_ble_eq_true rfl) (Nat.le_of_ble_eq_true rfl) (by omega) (s_X2_emit g (by omega) (h.adv g (q := p + 1))) (fun S1 h1 => ?_)
    have h9 : LPq S0 t len L (p + 1, some [-sv t len p]) S1 := h1
    refine j_goto 156 dX2_readOperand_65 (by decide) ?_
    refine j_vret dX2_readOperand_156 rfl ?_
    exact ⟨rfl, h9⟩
  rw [if_pos c_9] at hr
  refine j_ald0 dX2_readOperand_12 ?_
  refine j_qvV0 dX2_readOperand_13 kX2_readNumber l2_87 rfl (by decide) rfl (Nat.le_of_ble_eq_true rfl) (Nat.le_of_ble_eq_true rfl) (by omega) (s_X2_readNumber g ht hl hp (by omega) h) (fun S1 h1 => ?_)
  have h9 : LPq S0 t len L r S1 := by
    have n4 := numR_4 c_9
    split at hr
    · next c =>
      cases hr
      exact h1.dg n4.2 (by simp only [List.length_append, List.length_singleton]; omega) c
    · cases hr; exact h1
  refine j_goto 156 dX2_readOperand_16 (by decide) ?_
  refine j_vret dX2_readOperand_156 rfl ?_
  exact ⟨rfl, h9⟩

theorem s_X2_all (g : G2 S0) (ht : ∀ i, t i < 256) (hl : len ≤ 120) : ∀ f, rjS a S0 t len f ∧ roS a S0 t len f ∧ rkS a S0 t len f
  | 0 => ⟨fun _ _ _ _ _ _ _ _ _ _ _ h => (by rw [PK] at h; cases h), fun _ _ _ _ _ _ _ _ _ h => (by rw [PK] at h; cases h), fun _ _ _ _ _ _ _ _ _ _ _ _ _ _ _ h => (by rw [PK] at h; cases h)⟩
  | f + 1 => by
    obtain ⟨h1, h2, h3⟩ := s_X2_all g ht hl f
    have h4 := s_X2_readTighter h1 h2
    exact ⟨s_X2_j hl h4 h3, s_X2_o g ht hl h1 h2, s_X2_k g hl h4 h3⟩
end ExprC

