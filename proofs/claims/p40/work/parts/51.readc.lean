/-! a law's text: how the class reads it -/
/-- where the two rows of code are -/
def G2 (S : St) : Prop := (S.2.2.1 = 32 ∧ S.2.2.2 = 33) ∨ (S.2.2.1 = 33 ∧ S.2.2.2 = 32)
theorem G2.ck2 {S : St} (h : G2 S) : ck S.2.2.2 = (1, 128) ∧ S.2.2.2 < 61 ∧ S.2.2.2 ≠ S.2.2.1 ∧ ∀ k, rg S.2.2.2 k = 3 := by
  rcases h with h | h <;> rw [h.1, h.2] <;> exact ⟨rfl, by decide, by decide, fun _ => rfl⟩
theorem G2.ck1 {S : St} (h : G2 S) : ck S.2.2.1 = (1, 128) ∧ S.2.2.1 < 61 ∧ ∀ k, rg S.2.2.1 k = 3 := by
  rcases h with h | h <;> rw [h.1] <;> exact ⟨rfl, by decide, fun _ => rfl⟩
theorem G2.ne {S : St} (h : G2 S) {j : Nat} (hj : j ≠ 32 ∧ j ≠ 33) : j ≠ S.2.2.2 ∧ j ≠ S.2.2.1 := by
  rcases h with h | h <;> rw [h.1, h.2] <;> exact ⟨by omega, by omega⟩
section ReadC
variable {a : Nat → Nat} {S0 S : St} {t : Nat → Nat} {len : Nat}
/-- while a text is read: what stays, and the text -/
def LBq (S0 : St) (t : Nat → Nat) (len : Nat) (S : St) : Prop := Kp [3, 4] S0 S ∧ S.2.2 = S0.2.2 ∧ S.1 2 1 = S0.1 2 1 ∧ (∀ k, S.1 S0.2.2.1 k = S0.1 S0.2.2.1 k) ∧ S.1 2 5 = nI len ∧ ∀ i, i < len → S.1 34 i = nI (t i)
/-- up to p with no fault, the code so far being l -/
def LOq (S0 : St) (t : Nat → Nat) (len p : Nat) (l : List Int32) (S : St) : Prop := LBq S0 t len S ∧ S.1 2 6 = nI p ∧ S.1 2 7 = -1 ∧ S.1 2 3 = nI l.length ∧ ∀ i, i < l.length → S.1 S0.2.2.2 i = l.getD i 0
/-- a fault at q, found or still to be found -/
def LFq (S0 : St) (t : Nat → Nat) (len q : Nat) (S : St) : Prop := LBq S0 t len S ∧ q ≤ len ∧ (∃ k, k ≤ 128 ∧ S.1 2 3 = nI k) ∧ (S.1 2 7 = nI q ∨ (S.1 2 7 = -1 ∧ S.1 2 6 = nI q ∧ q < len ∧ isDg (nI (t q)) = true))
/-- a fault found -/
def LSq (S0 : St) (t : Nat → Nat) (len q : Nat) (S : St) : Prop := LBq S0 t len S ∧ q ≤ len ∧ (∃ k, k ≤ 128 ∧ S.1 2 3 = nI k) ∧ S.1 2 7 = nI q
theorem LSq.f {q : Nat} (h : LSq S0 t len q S) : LFq S0 t len q S := ⟨h.1, h.2.1, h.2.2.1, Or.inl h.2.2.2⟩
theorem LBq.putI {k : Nat} {x : Int32} (h : LBq S0 t len S) (g : G2 S0) (hk : k ≠ 1 ∧ k ≠ 5) (hr : rg 2 k ∈ [3, 4]) : LBq S0 t len (uI S 2 k x) := by
  have n2 := g.ne (j := 2) (by decide)
  refine ⟨Kp_uI h.1 hr, h.2.1, ?_, fun i => ?_, ?_, fun i hi => ?_⟩
  · rw [uI_at, if_neg (by omega)]; exact h.2.2.1
  · rw [uI_at, if_neg (fun z => n2.2 z.1.symm)]; exact h.2.2.2.1 i
  · rw [uI_at, if_neg (by omega)]; exact h.2.2.2.2.1
  · rw [uI_at, if_neg (by omega)]; exact h.2.2.2.2.2 i hi
theorem LBq.putC {k : Nat} {x : Int32} (h : LBq S0 t len S) (g : G2 S0) : LBq S0 t len (uI S S0.2.2.2 k x) := by
  have c2 := g.ck2
  have n2 := g.ne (j := 2) (by decide)
  have n34 := g.ne (j := 34) (by decide)
  refine ⟨Kp_uI h.1 (by rw [c2.2.2.2 k]; decide), h.2.1, ?_, fun i => ?_, ?_, fun i hi => ?_⟩
  · rw [uI_at, if_neg (fun z => n2.1 z.1)]; exact h.2.2.1
  · rw [uI_at, if_neg (fun z => c2.2.2.1 z.1.symm)]; exact h.2.2.2.1 i
  · rw [uI_at, if_neg (fun z => n2.1 z.1)]; exact h.2.2.2.2.1
  · rw [uI_at, if_neg (fun z => n34.1 z.1)]; exact h.2.2.2.2.2 i hi
theorem LOq.adv {p : Nat} {l : List Int32} (h : LOq S0 t len p l S) (g : G2 S0) {q : Nat} : LOq S0 t len q l (uI S 2 6 (nI q)) := by
  have n2 := g.ne (j := 2) (by decide)
  refine ⟨h.1.putI g (by decide) (by decide), by rw [uI_at, if_pos ⟨rfl, rfl⟩], by rw [uI_at, if_neg (by omega)]; exact h.2.2.1, by rw [uI_at, if_neg (by omega)]; exact h.2.2.2.1, fun i hi => ?_⟩
  rw [uI_at, if_neg (fun z => n2.1 z.1.symm)]; exact h.2.2.2.2 i hi
theorem LOq.dg {p : Nat} {l : List Int32} (h : LOq S0 t len p l S) (hp : p ≤ len) (hl : l.length ≤ 128) (hd : isDg (sv t len p) = true) : LFq S0 t len p S := by
  have := dg_1 hd
  exact ⟨h.1, hp, ⟨_, hl, h.2.2.2.1⟩, Or.inr ⟨h.2.2.1, h.2.1, this.1, by rw [← this.2]; exact hd⟩⟩
/-- the sign met where there is a fault -/
def fsg (S : St) (t : Nat → Nat) (q : Nat) : Int32 := if S.1 2 7 = -1 then nI (t q) else -1
theorem nI_m1 {q : Nat} (h : q < 2 ^ 31) : ¬ nI q = -1 := fun z => by
  have := nI_pos (n := q) h
  rw [z] at this; exact this (by decide)
theorem LFq.sg {q : Nat} (hl : len ≤ 120) (h : LFq S0 t len q S) : fsg S t q = -1 ∨ isDg (fsg S t q) = true := by
  unfold fsg
  rcases h.2.2.2 with e | e
  · left
    rw [e, if_neg (nI_m1 (by have := h.2.1; omega))]
  · right; rw [if_pos e.1]; exact e.2.2.2
theorem dg_jn {x : Int32} (h : x = -1 ∨ isDg x = true) {lvl : Nat} : ¬ jn lvl x = true := by
  have h2 : ¬ (x = 124 ∨ x = 38 ∨ x = 60 ∨ x = 61 ∨ x = 62 ∨ x = 43 ∨ x = 45 ∨ x = 42 ∨ x = 47 ∨ x = 37) := by
    rintro z
    rcases h with h | h
    · subst h; exact absurd z (by decide)
    · rcases z with rfl | rfl | rfl | rfl | rfl | rfl | rfl | rfl | rfl | rfl <;> exact absurd h (by decide)
  intro z
  apply h2
  match lvl, z with
  | 0, z => exact Or.inl (of_decide_eq_true z)
  | 1, z => exact Or.inr (Or.inl (of_decide_eq_true z))
  | 2, z => rcases of_decide_eq_true z with q | q | q <;> simp [q]
  | 3, z => rcases of_decide_eq_true z with q | q <;> simp [q]
  | n + 4, z => rcases (of_decide_eq_true z : x = 42 ∨ x = 47 ∨ x = 37) with q | q | q <;> simp [q]
theorem dg_ne {x : Int32} (h : x = -1 ∨ isDg x = true) {c : Int32} (h1 : ¬ c = -1) (h2 : ¬ isDg c = true) : ¬ x = c := by
  rintro rfl
  rcases h with h | h
  · exact h1 h
  · exact h2 h

set_option maxRecDepth 20000 in
theorem s_X2_sign {p : Nat} {l : List Int32} (hl : len ≤ 120) (hp : p ≤ len) (h : LOq S0 t len p l S) : Rt a mX2_sign 0 [.ref (a 2)] S (some (.int (sv t len p))) S := by
  show J _ _ _ _ 0 [_] [] _
  refine j_ald0 dX2_sign_0 ?_
  refine j_getI (k := 7) dX2_sign_1 cX2_ok (Or.inl f2_46) rfl (by decide) (by decide) (by decide) ?_
  refine j_ifge 30 dX2_sign_4 (by decide) (fun c_4 => absurd c_4 (by rw [h.2.2.1]; decide)) (fun c_4 => ?_)
  refine j_ald0 dX2_sign_7 ?_
  refine j_getI (k := 6) dX2_sign_8 cX2_ok (Or.inl f2_43) rfl (by decide) (by decide) (by decide) ?_
  refine j_ald0 dX2_sign_11 ?_
  refine j_getI (k := 5) dX2_sign_12 cX2_ok (Or.inl f2_34) rfl (by decide) (by decide) (by decide) ?_
  refine j_icmpge 30 dX2_sign_15 (by decide) (fun c_15 => ?_) (fun c_15 => ?_)
  · have q_15 : ¬ p < len := by
      have c := c_15
      rw [h.2.1, h.1.2.2.2.2.1] at c
      have := (nI_leI (a := len) (b := p) (by omega) (by omega)).mp c
      omega
    refine j_iconst (-1) dX2_sign_30 rfl ?_
    refine j_iret dX2_sign_31 rfl ?_
    exact ⟨by rw [sv, if_neg q_15], rfl⟩
  have q_15 : p < len := by
    have c := c_15
    rw [h.2.1, h.1.2.2.2.2.1] at c
    exact Nat.not_le.mp (fun z => c (nI_le z (by omega)))
  refine j_ald0 dX2_sign_18 ?_
  refine j_getR (k := 4) (34) dX2_sign_19 cX2_ok (Or.inl f2_18) rfl (by decide) (by decide) (by decide) rfl ?_
  refine j_ald0 dX2_sign_22 ?_
  refine j_getI (k := 6) dX2_sign_23 cX2_ok (Or.inl f2_43) rfl (by decide) (by decide) (by decide) ?_
  refine j_iald (n := p) dX2_sign_26 rfl (by decide) h.2.1 (by omega) (by decide) ?_
  refine j_top (y := nI (t p)) (h.1.2.2.2.2.2 p q_15) ?_
  refine j_goto 31 dX2_sign_27 (by decide) ?_
  refine j_iret dX2_sign_31 rfl ?_
  exact ⟨by rw [sv, if_pos q_15], rfl⟩

set_option maxRecDepth 20000 in
theorem s_X2_sign_f {q : Nat} (hl : len ≤ 120) (h : LFq S0 t len q S) : Rt a mX2_sign 0 [.ref (a 2)] S (some (.int (fsg S t q))) S := by
  show J _ _ _ _ 0 [_] [] _
  refine j_ald0 dX2_sign_0 ?_
  refine j_getI (k := 7) dX2_sign_1 cX2_ok (Or.inl f2_46) rfl (by decide) (by decide) (by decide) ?_
  refine j_ifge 30 dX2_sign_4 (by decide) (fun c_4 => ?_) (fun c_4 => ?_)
  · have q_4 : ¬ S.1 2 7 = -1 := fun z => by
      have c := c_4
      rw [z] at c; exact absurd c (by decide)
    refine j_iconst (-1) dX2_sign_30 rfl ?_
    refine j_iret dX2_sign_31 rfl ?_
    exact ⟨by rw [fsg, if_neg q_4], rfl⟩
  have q_4 : S.1 2 7 = -1 ∧ S.1 2 6 = nI q ∧ q < len ∧ isDg (nI (t q)) = true := by
    rcases h.2.2.2 with e | e
    · exact absurd (show (0 : Int32) ≤ S.1 2 7 by rw [e]; exact nI_pos' (by have := h.2.1; omega)) c_4
    · exact e
  refine j_ald0 dX2_sign_7 ?_
  refine j_getI (k := 6) dX2_sign_8 cX2_ok (Or.inl f2_43) rfl (by decide) (by decide) (by decide) ?_
  refine j_ald0 dX2_sign_11 ?_
  refine j_getI (k := 5) dX2_sign_12 cX2_ok (Or.inl f2_34) rfl (by decide) (by decide) (by decide) ?_
  refine j_icmpge 30 dX2_sign_15 (by decide) (fun c_15 => absurd c_15 (fun z => by
    rw [q_4.2.1, h.1.2.2.2.2.1] at z
    exact absurd ((nI_leI (a := len) (b := q) (by omega) (by omega)).mp z) (by omega))) (fun c_15 => ?_)
  refine j_ald0 dX2_sign_18 ?_
  refine j_getR (k := 4) (34) dX2_sign_19 cX2_ok (Or.inl f2_18) rfl (by decide) (by decide) (by decide) rfl ?_
  refine j_ald0 dX2_sign_22 ?_
  refine j_getI (k := 6) dX2_sign_23 cX2_ok (Or.inl f2_43) rfl (by decide) (by decide) (by decide) ?_
  refine j_iald (n := q) dX2_sign_26 rfl (by decide) q_4.2.1 (by omega) (by decide) ?_
  refine j_top (y := nI (t q)) (h.1.2.2.2.2.2 q q_4.2.2.1) ?_
  refine j_goto 31 dX2_sign_27 (by decide) ?_
  refine j_iret dX2_sign_31 rfl ?_
  exact ⟨by rw [fsg, if_pos q_4.1], rfl⟩

set_option maxRecDepth 20000 in
theorem s_X2_isDigit {x : Int32} : Rt a mX2_isDigit 0 [.int x] S (some (.int (bi (isDg x = true)))) S := by
  show J _ _ _ _ 0 [_] [] _
  refine j_ild0 dX2_isDigit_0 ?_
  refine j_bipush (48) dX2_isDigit_1 rfl ?_
  refine j_icmplt 16 dX2_isDigit_3 (by decide) (fun c_3 => ?_) (fun c_3 => ?_)
  · refine j_iconst (0) dX2_isDigit_16 rfl ?_
    refine j_zret dX2_isDigit_17 rfl (by decide) ?_
    exact ⟨by rw [bi_f (fun z => absurd c_3 (Int32.not_lt.mpr (of_decide_eq_true z).1))], rfl⟩
  refine j_ild0 dX2_isDigit_6 ?_
  refine j_bipush (57) dX2_isDigit_7 rfl ?_
  refine j_icmpgt 16 dX2_isDigit_9 (by decide) (fun c_9 => ?_) (fun c_9 => ?_)
  · refine j_iconst (0) dX2_isDigit_16 rfl ?_
    refine j_zret dX2_isDigit_17 rfl (by decide) ?_
    exact ⟨by rw [bi_f (fun z => absurd c_9 (Int32.not_lt.mpr (of_decide_eq_true z).2))], rfl⟩
  refine j_iconst (1) dX2_isDigit_12 rfl ?_
  refine j_goto 17 dX2_isDigit_13 (by decide) ?_
  refine j_zret dX2_isDigit_17 rfl (by decide) ?_
  exact ⟨by rw [bi_t (show isDg x = true from decide_eq_true ⟨Int32.not_lt.mp c_3, Int32.not_lt.mp c_9⟩)], rfl⟩

theorem jn_e0t {lvl : Nat} {x : Int32} (h : lvl = 0) (c : x = 124) : jn lvl x = true := by subst h; exact decide_eq_true c
theorem jn_e1t {lvl : Nat} {x : Int32} (h : lvl = 1) (c : x = 38) : jn lvl x = true := by subst h; exact decide_eq_true c
theorem jn_e2t {lvl : Nat} {x : Int32} (h : lvl = 2) (c : x = 60 ∨ x = 61 ∨ x = 62) : jn lvl x = true := by subst h; exact decide_eq_true c
theorem jn_e3t {lvl : Nat} {x : Int32} (h : lvl = 3) (c : x = 43 ∨ x = 45) : jn lvl x = true := by subst h; exact decide_eq_true c
theorem jn_e4t {lvl : Nat} {x : Int32} (h : lvl = 4) (c : x = 42 ∨ x = 47 ∨ x = 37) : jn lvl x = true := by subst h; exact decide_eq_true c
theorem jn_e0f {lvl : Nat} {x : Int32} (h : lvl = 0) (c : ¬ x = 124) : ¬ jn lvl x = true := by subst h; exact fun z => c (of_decide_eq_true z)
theorem jn_e1f {lvl : Nat} {x : Int32} (h : lvl = 1) (c : ¬ x = 38) : ¬ jn lvl x = true := by subst h; exact fun z => c (of_decide_eq_true z)
theorem jn_e2f {lvl : Nat} {x : Int32} (h : lvl = 2) (c : ¬ (x = 60 ∨ x = 61 ∨ x = 62)) : ¬ jn lvl x = true := by subst h; exact fun z => c (of_decide_eq_true z)
theorem jn_e3f {lvl : Nat} {x : Int32} (h : lvl = 3) (c : ¬ (x = 43 ∨ x = 45)) : ¬ jn lvl x = true := by subst h; exact fun z => c (of_decide_eq_true z)
theorem jn_e4f {lvl : Nat} {x : Int32} (h : lvl = 4) (c : ¬ (x = 42 ∨ x = 47 ∨ x = 37)) : ¬ jn lvl x = true := by subst h; exact fun z => c (of_decide_eq_true z)
set_option maxRecDepth 20000 in
theorem s_X2_joins {lvl : Nat} {x : Int32} (hl : lvl ≤ 4) : Rt a mX2_joins 0 [.int (nI lvl), .int x] S (some (.int (bi (jn lvl x = true)))) S := by
  show J _ _ _ _ 0 [_, _] [] _
  refine j_ild0 dX2_joins_0 ?_
  refine j_topi (fun y_1 e_1 => ?_)
  by_cases h_1_0 : y_1 = 0
  · rw [h_1_0] at e_1 ⊢
    refine j_tblIn (31) 32 dX2_joins_1 (by decide) (by decide) rfl (by decide) ?_
    have hlv : lvl = 0 := (nI_eq (a := lvl) (b := 0) (by omega) (by decide)).mp e_1.symm
    refine j_ild1 dX2_joins_32 ?_
    refine j_bipush (124) dX2_joins_33 rfl ?_
    refine j_icmpne 42 dX2_joins_35 (by decide) (fun c_35 => ?_) (fun c_35 => ?_)
    · refine j_iconst (0) dX2_joins_42 rfl ?_
      refine j_zret dX2_joins_43 rfl (by decide) ?_
      exact ⟨by rw [bi_f (jn_e0f hlv (fun z => c_35 z))], rfl⟩
    refine j_iconst (1) dX2_joins_38 rfl ?_
    refine j_goto 43 dX2_joins_39 (by decide) ?_
    refine j_zret dX2_joins_43 rfl (by decide) ?_
    exact ⟨by rw [bi_t (jn_e0t hlv (Classical.not_not.mp c_35))], rfl⟩
  by_cases h_1_1 : y_1 = 1
  · rw [h_1_1] at e_1 ⊢
    refine j_tblIn (43) 44 dX2_joins_1 (by decide) (by decide) rfl (by decide) ?_
    have hlv : lvl = 1 := (nI_eq (a := lvl) (b := 1) (by omega) (by decide)).mp e_1.symm
    refine j_ild1 dX2_joins_44 ?_
    refine j_bipush (38) dX2_joins_45 rfl ?_
    refine j_icmpne 54 dX2_joins_47 (by decide) (fun c_47 => ?_) (fun c_47 => ?_)
    · refine j_iconst (0) dX2_joins_54 rfl ?_
      refine j_zret dX2_joins_55 rfl (by decide) ?_
      exact ⟨by rw [bi_f (jn_e1f hlv (fun z => c_47 z))], rfl⟩
    refine j_iconst (1) dX2_joins_50 rfl ?_
    refine j_goto 55 dX2_joins_51 (by decide) ?_
    refine j_zret dX2_joins_55 rfl (by decide) ?_
    exact ⟨by rw [bi_t (jn_e1t hlv (Classical.not_not.mp c_47))], rfl⟩
  by_cases h_1_2 : y_1 = 2
  · rw [h_1_2] at e_1 ⊢
    refine j_tblIn (55) 56 dX2_joins_1 (by decide) (by decide) rfl (by decide) ?_
    have hlv : lvl = 2 := (nI_eq (a := lvl) (b := 2) (by omega) (by decide)).mp e_1.symm
    refine j_ild1 dX2_joins_56 ?_
    refine j_bipush (60) dX2_joins_57 rfl ?_
    refine j_icmpeq 74 dX2_joins_59 (by decide) (fun c_59 => ?_) (fun c_59 => ?_)
    · refine j_iconst (1) dX2_joins_74 rfl ?_
      refine j_goto 79 dX2_joins_75 (by decide) ?_
      refine j_zret dX2_joins_79 rfl (by decide) ?_
      exact ⟨by rw [bi_t (jn_e2t hlv ((Or.inl (c_59))))], rfl⟩
    refine j_ild1 dX2_joins_62 ?_
    refine j_bipush (61) dX2_joins_63 rfl ?_
    refine j_icmpeq 74 dX2_joins_65 (by decide) (fun c_65 => ?_) (fun c_65 => ?_)
    · refine j_iconst (1) dX2_joins_74 rfl ?_
      refine j_goto 79 dX2_joins_75 (by decide) ?_
      refine j_zret dX2_joins_79 rfl (by decide) ?_
      exact ⟨by rw [bi_t (jn_e2t hlv ((Or.inr (Or.inl (c_65)))))], rfl⟩
    refine j_ild1 dX2_joins_68 ?_
    refine j_bipush (62) dX2_joins_69 rfl ?_
    refine j_icmpne 78 dX2_joins_71 (by decide) (fun c_71 => ?_) (fun c_71 => ?_)
    · refine j_iconst (0) dX2_joins_78 rfl ?_
      refine j_zret dX2_joins_79 rfl (by decide) ?_
      exact ⟨by rw [bi_f (jn_e2f hlv (fun z => by rcases z with z | z | z <;> first | exact c_59 z | exact c_65 z | exact c_71 z))], rfl⟩
    refine j_iconst (1) dX2_joins_74 rfl ?_
    refine j_goto 79 dX2_joins_75 (by decide) ?_
    refine j_zret dX2_joins_79 rfl (by decide) ?_
    exact ⟨by rw [bi_t (jn_e2t hlv ((Or.inr (Or.inr (Classical.not_not.mp c_71)))))], rfl⟩
  by_cases h_1_3 : y_1 = 3
  · rw [h_1_3] at e_1 ⊢
    refine j_tblIn (79) 80 dX2_joins_1 (by decide) (by decide) rfl (by decide) ?_
    have hlv : lvl = 3 := (nI_eq (a := lvl) (b := 3) (by omega) (by decide)).mp e_1.symm
    refine j_ild1 dX2_joins_80 ?_
    refine j_bipush (43) dX2_joins_81 rfl ?_
    refine j_icmpeq 92 dX2_joins_83 (by decide) (fun c_83 => ?_) (fun c_83 => ?_)
    · refine j_iconst (1) dX2_joins_92 rfl ?_
      refine j_goto 97 dX2_joins_93 (by decide) ?_
      refine j_zret dX2_joins_97 rfl (by decide) ?_
      exact ⟨by rw [bi_t (jn_e3t hlv ((Or.inl (c_83))))], rfl⟩
    refine j_ild1 dX2_joins_86 ?_
    refine j_bipush (45) dX2_joins_87 rfl ?_
    refine j_icmpne 96 dX2_joins_89 (by decide) (fun c_89 => ?_) (fun c_89 => ?_)
    · refine j_iconst (0) dX2_joins_96 rfl ?_
      refine j_zret dX2_joins_97 rfl (by decide) ?_
      exact ⟨by rw [bi_f (jn_e3f hlv (fun z => by rcases z with z | z <;> first | exact c_83 z | exact c_89 z))], rfl⟩
    refine j_iconst (1) dX2_joins_92 rfl ?_
    refine j_goto 97 dX2_joins_93 (by decide) ?_
    refine j_zret dX2_joins_97 rfl (by decide) ?_
    exact ⟨by rw [bi_t (jn_e3t hlv ((Or.inr (Classical.not_not.mp c_89))))], rfl⟩
  refine j_tblOut 98 dX2_joins_1 (tbl_out (fun k h1 h2 => by
    have hk : k = 0 ∨ k = 1 ∨ k = 2 ∨ k = 3 := by omega
    rcases hk with rfl | rfl | rfl | rfl
    · exact h_1_0
    · exact h_1_1
    · exact h_1_2
    · exact h_1_3)) (by decide) ?_
  have hlv : lvl = 4 := by
    rcases (show lvl = 0 ∨ lvl = 1 ∨ lvl = 2 ∨ lvl = 3 ∨ lvl = 4 by omega) with rfl | rfl | rfl | rfl | rfl
    · exact (h_1_0 e_1).elim
    · exact (h_1_1 e_1).elim
    · exact (h_1_2 e_1).elim
    · exact (h_1_3 e_1).elim
    · rfl
  refine j_ild1 dX2_joins_98 ?_
  refine j_bipush (42) dX2_joins_99 rfl ?_
  refine j_icmpeq 116 dX2_joins_101 (by decide) (fun c_101 => ?_) (fun c_101 => ?_)
  · refine j_iconst (1) dX2_joins_116 rfl ?_
    refine j_goto 121 dX2_joins_117 (by decide) ?_
    refine j_zret dX2_joins_121 rfl (by decide) ?_
    exact ⟨by rw [bi_t (jn_e4t hlv ((Or.inl (c_101))))], rfl⟩
  refine j_ild1 dX2_joins_104 ?_
  refine j_bipush (47) dX2_joins_105 rfl ?_
  refine j_icmpeq 116 dX2_joins_107 (by decide) (fun c_107 => ?_) (fun c_107 => ?_)
  · refine j_iconst (1) dX2_joins_116 rfl ?_
    refine j_goto 121 dX2_joins_117 (by decide) ?_
    refine j_zret dX2_joins_121 rfl (by decide) ?_
    exact ⟨by rw [bi_t (jn_e4t hlv ((Or.inr (Or.inl (c_107)))))], rfl⟩
  refine j_ild1 dX2_joins_110 ?_
  refine j_bipush (37) dX2_joins_111 rfl ?_
  refine j_icmpne 120 dX2_joins_113 (by decide) (fun c_113 => ?_) (fun c_113 => ?_)
  · refine j_iconst (0) dX2_joins_120 rfl ?_
    refine j_zret dX2_joins_121 rfl (by decide) ?_
    exact ⟨by rw [bi_f (jn_e4f hlv (fun z => by rcases z with z | z | z <;> first | exact c_101 z | exact c_107 z | exact c_113 z))], rfl⟩
  refine j_iconst (1) dX2_joins_116 rfl ?_
  refine j_goto 121 dX2_joins_117 (by decide) ?_
  refine j_zret dX2_joins_121 rfl (by decide) ?_
  exact ⟨by rw [bi_t (jn_e4t hlv ((Or.inr (Or.inr (Classical.not_not.mp c_113)))))], rfl⟩

set_option maxRecDepth 20000 in
theorem s_X2_takes {p : Nat} {l : List Int32} {x : Int32} (hl : len ≤ 120) (hp : p ≤ len) (h : LOq S0 t len p l S) : Rt a mX2_takes 1 [.ref (a 2), .int x] S (some (.int (bi (sv t len p = x)))) (if sv t len p = x then uI S 2 6 (nI (p + 1)) else S) := by
  show J _ _ _ _ 0 [_, _] [] _
  refine j_ald0 dX2_takes_0 ?_
  refine j_cV0 dX2_takes_1 kX2_sign l2_73 rfl (by decide) rfl (Nat.le_of_ble_eq_true rfl) (Nat.le_of_ble_eq_true rfl) (by omega) (s_X2_sign hl hp h) ?_
  refine j_ild1 dX2_takes_4 ?_
  refine j_icmpeq 10 dX2_takes_5 (by decide) (fun c_5 => ?_) (fun c_5 => ?_)
  · refine j_ald0 dX2_takes_10 ?_
    refine j_dup dX2_takes_11 rfl ?_
    refine j_getI (k := 6) dX2_takes_12 cX2_ok (Or.inl f2_43) rfl (by decide) (by decide) (by decide) ?_
    refine j_top (y := nI p) (h.2.1) ?_
    refine j_iconst (1) dX2_takes_15 rfl ?_
    refine j_iadd dX2_takes_16 ?_
    refine j_top (y := nI (p + 1)) (nI_1 p) ?_
    refine j_putI (k := 6) dX2_takes_17 cX2_ok (Or.inl f2_43) rfl (by decide) (by decide) (by decide) rfl ?_
    refine j_iconst (1) dX2_takes_20 rfl ?_
    refine j_zret dX2_takes_21 rfl (by decide) ?_
    exact ⟨by rw [bi_t c_5], by rw [if_pos c_5]⟩
  refine j_iconst (0) dX2_takes_8 rfl ?_
  refine j_zret dX2_takes_9 rfl (by decide) ?_
  exact ⟨by rw [bi_f c_5], by rw [if_neg c_5]⟩

set_option maxRecDepth 20000 in
theorem s_X2_takes_f {q : Nat} {x : Int32} (hl : len ≤ 120) (h : LFq S0 t len q S) (h1 : ¬ x = -1) (h2 : ¬ isDg x = true) : Rt a mX2_takes 1 [.ref (a 2), .int x] S (some (.int (bi False))) S := by
  show J _ _ _ _ 0 [_, _] [] _
  refine j_ald0 dX2_takes_0 ?_
  refine j_cV0 dX2_takes_1 kX2_sign l2_73 rfl (by decide) rfl (Nat.le_of_ble_eq_true rfl) (Nat.le_of_ble_eq_true rfl) (by omega) (s_X2_sign_f hl h) ?_
  refine j_ild1 dX2_takes_4 ?_
  refine j_icmpeq 10 dX2_takes_5 (by decide) (fun c_5 => absurd c_5 (dg_ne (h.sg hl) h1 h2)) (fun c_5 => ?_)
  refine j_iconst (0) dX2_takes_8 rfl ?_
  refine j_zret dX2_takes_9 rfl (by decide) ?_
  exact ⟨by rw [bi_f id], rfl⟩

set_option maxRecDepth 20000 in
theorem s_X2_fail {p : Nat} {l : List Int32} (g : G2 S0) (hp : p ≤ len) (hL : l.length ≤ 128) (h : LOq S0 t len p l S) : Rqv a mX2_fail 0 [.ref (a 2)] S (LSq S0 t len p) := by
  show J _ _ _ _ 0 [_] [] _
  refine j_ald0 dX2_fail_0 ?_
  refine j_getI (k := 7) dX2_fail_1 cX2_ok (Or.inl f2_46) rfl (by decide) (by decide) (by decide) ?_
  refine j_ifge 15 dX2_fail_4 (by decide) (fun c_4 => absurd c_4 (by rw [h.2.2.1]; decide)) (fun c_4 => ?_)
  refine j_ald0 dX2_fail_7 ?_
  refine j_ald0 dX2_fail_8 ?_
  refine j_getI (k := 6) dX2_fail_9 cX2_ok (Or.inl f2_43) rfl (by decide) (by decide) (by decide) ?_
  refine j_top (y := nI p) (h.2.1) ?_
  refine j_putI (k := 7) dX2_fail_12 cX2_ok (Or.inl f2_46) rfl (by decide) (by decide) (by decide) rfl ?_
  refine j_vret dX2_fail_15 rfl ?_
  exact ⟨rfl, h.1.putI g (by decide) (by decide), hp, ⟨_, hL, by rw [uI_at, if_neg (by omega)]; exact h.2.2.2.1⟩, by rw [uI_at, if_pos ⟨rfl, rfl⟩]⟩

set_option maxRecDepth 20000 in
theorem s_X2_fail_f {q : Nat} (g : G2 S0) (hl : len ≤ 120) (h : LFq S0 t len q S) : Rqv a mX2_fail 0 [.ref (a 2)] S (LSq S0 t len q) := by
  show J _ _ _ _ 0 [_] [] _
  refine j_ald0 dX2_fail_0 ?_
  refine j_getI (k := 7) dX2_fail_1 cX2_ok (Or.inl f2_46) rfl (by decide) (by decide) (by decide) ?_
  refine j_ifge 15 dX2_fail_4 (by decide) (fun c_4 => ?_) (fun c_4 => ?_)
  · have q_4 : S.1 2 7 = nI q := by
      rcases h.2.2.2 with e | e
      · exact e
      · have c := c_4
        rw [e.1] at c; exact absurd c (by decide)
    refine j_vret dX2_fail_15 rfl ?_
    exact ⟨rfl, h.1, h.2.1, h.2.2.1, q_4⟩
  have q_4 : S.1 2 6 = nI q := by
    rcases h.2.2.2 with e | e
    · exact absurd (show (0 : Int32) ≤ S.1 2 7 by rw [e]; exact nI_pos' (by have := h.2.1; omega)) c_4
    · exact e.2.1
  refine j_ald0 dX2_fail_7 ?_
  refine j_ald0 dX2_fail_8 ?_
  refine j_getI (k := 6) dX2_fail_9 cX2_ok (Or.inl f2_43) rfl (by decide) (by decide) (by decide) ?_
  refine j_top (y := nI q) (q_4) ?_
  refine j_putI (k := 7) dX2_fail_12 cX2_ok (Or.inl f2_46) rfl (by decide) (by decide) (by decide) rfl ?_
  refine j_vret dX2_fail_15 rfl ?_
  obtain ⟨k, hk1, hk2⟩ := h.2.2.1
  exact ⟨rfl, h.1.putI g (by decide) (by decide), h.2.1, ⟨k, hk1, by rw [uI_at, if_neg (by omega)]; exact hk2⟩, by rw [uI_at, if_pos ⟨rfl, rfl⟩]⟩

theorem lw_snoc {l : List Int32} {x : Int32} {i : Nat} : (l ++ [x]).getD i 0 = if i = l.length then x else l.getD i 0 := by
  by_cases c : i = l.length
  · subst c; simp
  · rw [if_neg c]
    rcases Nat.lt_or_ge i l.length with h | h
    · simp [List.getD, List.getElem?_append_left h]
    · simp [List.getD, List.getElem?_append_right h, List.getElem?_eq_none h, show i - l.length ≠ 0 by omega]
set_option maxRecDepth 20000 in
theorem s_X2_emit {p : Nat} {l : List Int32} {x : Int32} (g : G2 S0) (hL : l.length < 128) (h : LOq S0 t len p l S) : Rqv a mX2_emit 0 [.ref (a 2), .int x] S (LOq S0 t len p (l ++ [x])) := by
  have n2 := g.ne (j := 2) (by decide)
  show J _ _ _ _ 0 [_, _] [] _
  refine j_ald0 dX2_emit_0 ?_
  refine j_getI (k := 3) dX2_emit_1 cX2_ok (Or.inl f2_49) rfl (by decide) (by decide) (by decide) ?_
  refine j_ald0 dX2_emit_4 ?_
  refine j_getR (k := 2) (S0.2.2.2) dX2_emit_5 cX2_ok (Or.inl f2_15) rfl (by decide) (by decide) (by decide) (congrArg Prod.snd h.1.2.1) ?_
  refine j_alen (kd := 0) (v := 128) dX2_emit_8 g.ck2.1 g.ck2.2.1 rfl ?_
  refine j_icmpge 32 dX2_emit_9 (by decide) (fun c_9 => absurd c_9 (fun z => absurd ((nI_leI (a := 128) (b := l.length) (by decide) (by omega)).mp (h.2.2.2.1 ▸ z)) (by omega))) (fun c_9 => ?_)
  refine j_ald0 dX2_emit_12 ?_
  refine j_getR (k := 2) (S0.2.2.2) dX2_emit_13 cX2_ok (Or.inl f2_15) rfl (by decide) (by decide) (by decide) (congrArg Prod.snd h.1.2.1) ?_
  refine j_ald0 dX2_emit_16 ?_
  refine j_getI (k := 3) dX2_emit_17 cX2_ok (Or.inl f2_49) rfl (by decide) (by decide) (by decide) ?_
  refine j_ild1 dX2_emit_20 ?_
  refine j_iast (n := l.length) dX2_emit_21 g.ck2.1 g.ck2.2.1 h.2.2.2.1 hL (by decide) ?_
  refine j_ald0 dX2_emit_22 ?_
  refine j_dup dX2_emit_23 rfl ?_
  refine j_getI (k := 3) dX2_emit_24 cX2_ok (Or.inl f2_49) rfl (by decide) (by decide) (by decide) ?_
  refine j_top (y := nI l.length) (by rw [uI_at, if_neg (fun z => n2.1 z.1)]; exact h.2.2.2.1) ?_
  refine j_iconst (1) dX2_emit_27 rfl ?_
  refine j_iadd dX2_emit_28 ?_
  refine j_top (y := nI (l.length + 1)) (nI_1 _) ?_
  refine j_putI (k := 3) dX2_emit_29 cX2_ok (Or.inl f2_49) rfl (by decide) (by decide) (by decide) rfl ?_
  refine j_vret dX2_emit_32 rfl ?_
  refine ⟨rfl, (h.1.putC g).putI g (by decide) (by decide), ?_, ?_, ?_, fun i hi => ?_⟩
  · rw [uI_at, if_neg (by omega), uI_at, if_neg (fun z => n2.1 z.1)]; exact h.2.1
  · rw [uI_at, if_neg (by omega), uI_at, if_neg (fun z => n2.1 z.1)]; exact h.2.2.1
  · rw [uI_at, if_pos ⟨rfl, rfl⟩, List.length_append]; rfl
  · rw [uI_at, if_neg (fun z => n2.1 z.1.symm), uI_at, lw_snoc]
    by_cases c : i = l.length
    · rw [if_pos ⟨rfl, c⟩, if_pos c]
    · rw [if_neg (fun z => c z.2), if_neg c]
      exact h.2.2.2.2 i (by rw [List.length_append, List.length_singleton] at hi; omega)

set_option maxRecDepth 20000 in
theorem s_X2_emit_f {q : Nat} {x : Int32} (g : G2 S0) (h : LFq S0 t len q S) : Rqv a mX2_emit 0 [.ref (a 2), .int x] S (LFq S0 t len q) := by
  have n2 := g.ne (j := 2) (by decide)
  obtain ⟨k, hk1, hk2⟩ := h.2.2.1
  show J _ _ _ _ 0 [_, _] [] _
  refine j_ald0 dX2_emit_0 ?_
  refine j_getI (k := 3) dX2_emit_1 cX2_ok (Or.inl f2_49) rfl (by decide) (by decide) (by decide) ?_
  refine j_ald0 dX2_emit_4 ?_
  refine j_getR (k := 2) (S0.2.2.2) dX2_emit_5 cX2_ok (Or.inl f2_15) rfl (by decide) (by decide) (by decide) (congrArg Prod.snd h.1.2.1) ?_
  refine j_alen (kd := 0) (v := 128) dX2_emit_8 g.ck2.1 g.ck2.2.1 rfl ?_
  refine j_icmpge 32 dX2_emit_9 (by decide) (fun c_9 => ?_) (fun c_9 => ?_)
  · refine j_vret dX2_emit_32 rfl ?_
    exact ⟨rfl, h⟩
  have q_9 : k < 128 := by
    rw [hk2] at c_9
    exact Nat.not_le.mp (fun z => c_9 (nI_le z (by omega)))
  refine j_ald0 dX2_emit_12 ?_
  refine j_getR (k := 2) (S0.2.2.2) dX2_emit_13 cX2_ok (Or.inl f2_15) rfl (by decide) (by decide) (by decide) (congrArg Prod.snd h.1.2.1) ?_
  refine j_ald0 dX2_emit_16 ?_
  refine j_getI (k := 3) dX2_emit_17 cX2_ok (Or.inl f2_49) rfl (by decide) (by decide) (by decide) ?_
  refine j_ild1 dX2_emit_20 ?_
  refine j_iast (n := k) dX2_emit_21 g.ck2.1 g.ck2.2.1 hk2 q_9 (by decide) ?_
  refine j_ald0 dX2_emit_22 ?_
  refine j_dup dX2_emit_23 rfl ?_
  refine j_getI (k := 3) dX2_emit_24 cX2_ok (Or.inl f2_49) rfl (by decide) (by decide) (by decide) ?_
  refine j_top (y := nI k) (by rw [uI_at, if_neg (fun z => n2.1 z.1)]; exact hk2) ?_
  refine j_iconst (1) dX2_emit_27 rfl ?_
  refine j_iadd dX2_emit_28 ?_
  refine j_top (y := nI (k + 1)) (nI_1 _) ?_
  refine j_putI (k := 3) dX2_emit_29 cX2_ok (Or.inl f2_49) rfl (by decide) (by decide) (by decide) rfl ?_
  refine j_vret dX2_emit_32 rfl ?_
  refine ⟨rfl, (h.1.putC g).putI g (by decide) (by decide), h.2.1, ⟨k + 1, q_9, by rw [uI_at, if_pos ⟨rfl, rfl⟩]⟩, ?_⟩
  rw [uI_at, if_neg (by omega), uI_at, if_neg (fun z => n2.1 z.1), uI_at, if_neg (by omega), uI_at, if_neg (fun z => n2.1 z.1)]
  exact h.2.2.2

set_option maxRecDepth 20000 in
theorem lp_X2_readNumber (g : G2 S0) (ht : ∀ i, t i < 256) (hl : len ≤ 120) {l : List Int32} (hL : l.length < 128) {q w : Nat} : ∀ (fu : Nat) (k : Nat) (p : Nat) (x : Nat) (S : St), 4 - k < fu → (k ≤ 4) → (p ≤ len) → (LOq S0 t len p l S) → (numR t len (4 - k) p x = (q, w)) → J a mX2_readNumber 1 (gm a fun r S' => r = none ∧ LOq S0 t len q (l ++ [nI w]) S') 4 [.ref (a 2), .int (nI x), .int (nI k)] [] S := by
  intro fu
  induction fu with
  | zero => intro k p x S hk; exact absurd hk (Nat.not_lt_zero _)
  | succ fu ih =>
    intro k p x S hk hk4 hp h hn
    refine j_ild2 dX2_readNumber_4 ?_
    refine j_iconst (4) dX2_readNumber_5 rfl ?_
    refine j_icmpge 48 dX2_readNumber_6 (by decide) (fun c_6 => ?_) (fun c_6 => ?_)
    · have q_6 : k = 4 := by have := (nI_leI (a := 4) (b := k) (by decide) (by omega)).mp c_6; omega
      subst q_6
      have e : (p, x) = (q, w) := hn
      cases e
      refine j_ald0 dX2_readNumber_48 ?_
      refine j_ild1 dX2_readNumber_49 ?_
      refine j_qvV1 dX2_readNumber_50 kX2_emit l2_66 rfl (by decide) rfl (Nat.le_of_ble_eq_true rfl) (Nat.le_of_ble_eq_true rfl) (by omega) (s_X2_emit g hL h) (fun S1 h1 => ?_)
      refine j_vret dX2_readNumber_53 rfl ?_
      exact ⟨rfl, h1⟩
    have q_6 : k < 4 := Nat.not_le.mp (fun z => c_6 ((nI_leI (a := 4) (b := k) (by decide) (by omega)).mpr z))
    rw [show 4 - k = (4 - (k + 1)) + 1 by omega, numR] at hn
    refine j_ald0 dX2_readNumber_9 ?_
    refine j_cV0 dX2_readNumber_10 kX2_sign l2_73 rfl (by decide) rfl (Nat.le_of_ble_eq_true rfl) (Nat.le_of_ble_eq_true rfl) (by omega) (s_X2_sign hl hp h) ?_
    refine j_cS1 dX2_readNumber_13 kX2_isDigit zX2_isDigit (Or.inl l2_84) (Nat.le_of_ble_eq_true rfl) (Nat.le_of_ble_eq_true rfl) (by omega) (s_X2_isDigit) ?_
    refine j_ifeqB 48 dX2_readNumber_16 (by decide) (fun c_16 => ?_) (fun c_16 => ?_)
    · rw [if_neg c_16] at hn
      cases hn
      refine j_ald0 dX2_readNumber_48 ?_
      refine j_ild1 dX2_readNumber_49 ?_
      refine j_qvV1 dX2_readNumber_50 kX2_emit l2_66 rfl (by decide) rfl (Nat.le_of_ble_eq_true rfl) (Nat.le_of_ble_eq_true rfl) (by omega) (s_X2_emit g hL h) (fun S1 h1 => ?_)
      refine j_vret dX2_readNumber_53 rfl ?_
      exact ⟨rfl, h1⟩
    rw [if_pos c_16] at hn
    have hd := dg_1 c_16
    have hb := dg_b (ht p) c_16
    refine j_ild1 dX2_readNumber_19 ?_
    refine j_bipush (10) dX2_readNumber_20 rfl ?_
    refine j_imul dX2_readNumber_22 ?_
    refine j_top (y := nI (x * 10)) (by exact pk_mul x 10) ?_
    refine j_ald0 dX2_readNumber_23 ?_
    refine j_cV0 dX2_readNumber_24 kX2_sign l2_73 rfl (by decide) rfl (Nat.le_of_ble_eq_true rfl) (Nat.le_of_ble_eq_true rfl) (by omega) (s_X2_sign hl hp h) ?_
    refine j_top (y := nI (t p)) hd.2 ?_
    refine j_iadd dX2_readNumber_27 ?_
    refine j_top (y := nI (x * 10 + t p)) (nI_add _ _) ?_
    refine j_bipush (48) dX2_readNumber_28 rfl ?_
    refine j_isub dX2_readNumber_30 ?_
    refine j_top (y := nI (x * 10 + t p - 48)) (by exact pk_sub (a := x * 10 + t p) (b := 48) (by omega)) ?_
    refine j_ist1 dX2_readNumber_31 rfl (by decide) ?_
    refine j_ald0 dX2_readNumber_32 ?_
    refine j_dup dX2_readNumber_33 rfl ?_
    refine j_getI (k := 6) dX2_readNumber_34 cX2_ok (Or.inl f2_43) rfl (by decide) (by decide) (by decide) ?_
    refine j_top (y := nI p) (h.2.1) ?_
    refine j_iconst (1) dX2_readNumber_37 rfl ?_
    refine j_iadd dX2_readNumber_38 ?_
    refine j_top (y := nI (p + 1)) (nI_1 p) ?_
    refine j_putI (k := 6) dX2_readNumber_39 cX2_ok (Or.inl f2_43) rfl (by decide) (by decide) (by decide) rfl ?_
    refine j_iinc2 (nI (k + 1)) dX2_readNumber_42 (nI_1 k) rfl (by decide) ?_
    refine j_goto 4 dX2_readNumber_45 (by decide) ?_
    exact ih (k + 1) (p + 1) _ _ (by omega) (by omega) (by omega) (h.adv g) hn

set_option maxRecDepth 20000 in
theorem s_X2_readNumber {p : Nat} {l : List Int32} (g : G2 S0) (ht : ∀ i, t i < 256) (hl : len ≤ 120) (hp : p ≤ len) (hL : l.length < 128) (h : LOq S0 t len p l S) : Rqv a mX2_readNumber 1 [.ref (a 2)] S (LOq S0 t len (numR t len 4 p 0).1 (l ++ [nI (numR t len 4 p 0).2])) := by
  show J _ _ _ _ 0 [_, .null, .null] [] _
  refine j_iconst (0) dX2_readNumber_0 rfl ?_
  refine j_ist1 dX2_readNumber_1 rfl (by decide) ?_
  refine j_iconst (0) dX2_readNumber_2 rfl ?_
  refine j_ist2 dX2_readNumber_3 rfl (by decide) ?_
  exact lp_X2_readNumber g ht hl hL 5 0 p 0 S (by omega) (by omega) hp h rfl

end ReadC

