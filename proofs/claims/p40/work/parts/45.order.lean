/-! the cheapest order: both sides -/
def dg (p i : Nat) : Nat := p / 4 ^ (3 - i) % 4
theorem dg_lt (p i : Nat) : dg p i < 4 := Nat.mod_lt _ (by decide)
def mst (v : Nat → Nat → Nat) (t : Nat) (q : Nat × Nat × Nat) : Nat × Nat × Nat := (q.1 * 12 + v 7 t * (q.2.1 + q.2.2), q.2.1 * v 5 t, q.2.2 * (12 - v 6 t))
def mnp (v : Nat → Nat → Nat) (p : Nat) : Nat → Nat × Nat × Nat
  | 0 => (0, v 9 0, 100 - v 9 0)
  | i + 1 => mst v (dg p i) (mnp v p i)
def meanP (v : Nat → Nat → Nat) (p : Nat) : Nat := (mnp v p 4).1
theorem mnp_b {v : Nat → Nat → Nat} (h : ∀ w, w < 12 → ∀ i, i < 8 → v w i ≤ mostN w) (p : Nat) : ∀ i, (mnp v p i).2.1 + (mnp v p i).2.2 ≤ 100 * 12 ^ i ∧ (mnp v p i).1 ≤ i * 9900 * 12 ^ i
  | 0 => by
    have := h 9 (by decide) 0 (by decide)
    rw [show mostN 9 = 99 from rfl] at this
    simp only [mnp]; omega
  | i + 1 => by
    obtain ⟨h1, h2⟩ := mnp_b h p i
    have d4 := dg_lt p i
    have p7 := h 7 (by decide) (dg p i) (by omega)
    have p5 := h 5 (by decide) (dg p i) (by omega)
    rw [show mostN 7 = 99 from rfl] at p7
    rw [show mostN 5 = 12 from rfl] at p5
    simp only [mnp, mst]
    have a1 := Nat.mul_le_mul_left (mnp v p i).2.1 p5
    have a2 := Nat.mul_le_mul_left (mnp v p i).2.2 (Nat.sub_le 12 (v 6 (dg p i)))
    have a3 := Nat.mul_le_mul p7 h1
    rw [Nat.pow_succ]
    have e1 : (i + 1) * 9900 * (12 ^ i * 12) = (i * 9900 * 12 ^ i) * 12 + 118800 * 12 ^ i := by
      rw [Nat.add_mul, Nat.add_mul, Nat.mul_assoc (i * 9900)]; omega
    rw [e1]
    have a4 : (mnp v p i).1 * 12 ≤ i * 9900 * 12 ^ i * 12 := Nat.mul_le_mul_right 12 h2
    constructor <;> omega
theorem meanP_b {v : Nat → Nat → Nat} (h : ∀ w, w < 12 → ∀ i, i < 8 → v w i ≤ mostN w) (p : Nat) : meanP v p < 2 ^ 40 := by
  have := (mnp_b h p 4).2
  unfold meanP; omega
def bst (v : Nat → Nat → Nat) (b : Option Nat) (p : Nat) : Option Nat := match b with
  | none => some p
  | some q => if meanP v p < meanP v q then some p else some q
def seen (p : Nat) : Nat → Nat
  | 0 => 0
  | i + 1 => seen p i ||| 2 ^ dg p i
abbrev isP (p : Nat) : Prop := seen p 4 = 15
def fo (v : Nat → Nat → Nat) : Nat → Option Nat
  | 0 => none
  | i + 1 => if isP i then bst v (fo v i) i else fo v i
def lstT (f : Nat → List Nat) : Nat → List Nat
  | 0 => []
  | t + 1 => lstT f t ++ f t
def lst : Nat → Nat → Nat → List Nat
  | 0, _, pre => [pre]
  | r + 1, used, pre => lstT (fun t => if bt used t = 1 then [] else lst r (used ||| 2 ^ t) (pre * 4 + t)) 4
theorem fo_l (v : Nat → Nat → Nat) : ∀ n, fo v n = ((List.range n).filter fun p => decide (isP p)).foldl (bst v) none
  | 0 => rfl
  | n + 1 => by
    rw [List.range_succ, List.filter_append, List.foldl_append, ← fo_l v n, fo]
    by_cases h : isP n
    · rw [if_pos h, List.filter_cons_of_pos (by simpa using h)]; rfl
    · rw [if_neg h, List.filter_cons_of_neg (by simpa using h)]; rfl
theorem lst_eq : lst 4 0 0 = (List.range 256).filter fun p => decide (isP p) := by decide +kernel
theorem bst_some {v : Nat → Nat → Nat} : ∀ (l : List Nat) (q : Nat), ∃ r, l.foldl (bst v) (some q) = some r
  | [], q => ⟨q, rfl⟩
  | p :: l, q => by
    rw [List.foldl_cons, bst]
    split
    · exact bst_some l p
    · exact bst_some l q
theorem fo_some (v : Nat → Nat → Nat) : ∃ q, fo v 256 = some q := by
  rw [fo_l, ← lst_eq, show lst 4 0 0 = 27 :: (lst 4 0 0).tail from by decide +kernel, List.foldl_cons]
  exact bst_some _ _
def bestP (v : Nat → Nat → Nat) : Nat := (fo v 256).getD 0
theorem fo_best (v : Nat → Nat → Nat) : fo v 256 = some (bestP v) := by
  obtain ⟨q, h⟩ := fo_some v
  rw [bestP, h]; rfl
theorem f_dg : ∀ p, p < 256 → ∀ k, k < 4 → (nI p >>> ((2 * (3 - nI k)) &&& 31)) &&& 3 = nI (dg p k) := by decide +kernel
theorem f_seen : ∀ s, s < 16 → ∀ d, d < 4 → nI s ||| (1 <<< (nI d &&& 31)) = nI (s ||| 2 ^ d) := by decide +kernel
theorem f_sn : ∀ p, p < 256 → ∀ k, k < 5 → seen p k < 16 := by decide +kernel
def ordV (v : Nat → Nat → Nat) (x p : Int32) : Int64 := if x < 0 then lowV (meanP v (bestP v)) 172800 p else lN (dg (bestP v) x.toNatClampNeg)
abbrev orOk (x p : Int32) : Prop := (-1 ≤ x ∧ x < 4) ∧ prt p
def oc (v : Nat → Nat → Nat) (b : Option Nat) (x : Int64) (S : St) : Prop := match b with
  | none => x = 9223372036854775807
  | some q => x = lN (meanP v q) ∧ ∀ i, i < 4 → S.1 45 i = nI (dg q i)
theorem oc_lt {v : Nat → Nat → Nat} (hv : ∀ w, w < 12 → ∀ i, i < 8 → v w i ≤ mostN w) {b : Option Nat} {x : Int64} {S : St} (h : oc v b x S) {p : Nat} (hl : lN (meanP v p) < x) : bst v b p = some p := by
  cases b with
  | none => rfl
  | some q =>
    obtain ⟨rfl, -⟩ := h
    have := (pk_lLT (by have := meanP_b hv p; omega) (by have := meanP_b hv q; omega)).mp hl
    rw [bst, if_pos this]
theorem oc_ge {v : Nat → Nat → Nat} (hv : ∀ w, w < 12 → ∀ i, i < 8 → v w i ≤ mostN w) {b : Option Nat} {x : Int64} {S : St} (h : oc v b x S) {p : Nat} (hl : ¬ lN (meanP v p) < x) : bst v b p = b := by
  cases b with
  | none =>
    have h : x = lN 9223372036854775807 := h
    rw [h] at hl
    exact absurd ((pk_lLT (by have := meanP_b hv p; omega) (by decide)).mpr (by have := meanP_b hv p; omega)) hl
  | some q =>
    obtain ⟨rfl, -⟩ := h
    rw [bst, if_neg (fun z => hl ((pk_lLT (by have := meanP_b hv p; omega) (by have := meanP_b hv q; omega)).mpr z))]
section Order
variable {a : Nat → Nat} {S : St} {n : Nat} {v : Nat → Nat → Nat}
def tr4 (S : St) (p : Nat) : St := uI (uI (uI (uI S 46 0 (nI (dg p 0))) 46 1 (nI (dg p 1))) 46 2 (nI (dg p 2))) 46 3 (nI (dg p 3))
theorem tr4_at {S : St} {p i : Nat} (hi : i < 4) : (tr4 S p).1 46 i = nI (dg p i) := by
  unfold tr4
  rcases (show i = 0 ∨ i = 1 ∨ i = 2 ∨ i = 3 by omega) with rfl | rfl | rfl | rfl <;> simp [uI_at]
theorem tr4_kp {S S1 : St} {p : Nat} (h : Kp [4] S S1) : Kp [4] S (tr4 S1 p) := Kp_uI (Kp_uI (Kp_uI (Kp_uI h (List.mem_singleton.mpr rfl)) (List.mem_singleton.mpr rfl)) (List.mem_singleton.mpr rfl)) (List.mem_singleton.mpr rfl)
theorem oc_tr {b : Option Nat} {x : Int64} {S : St} {p : Nat} (h : oc v b x S) : oc v b x (tr4 S p) := by
  cases b with
  | none => exact h
  | some q => exact h

set_option maxRecDepth 20000 in
theorem s_X3_isOrder {p : Nat} (hp : p < 256) : Rt a mX3_isOrder 0 [.ref (a 4), .int (nI p)] S (some (.int (bi (isP p)))) (tr4 S p) := by
  show J _ _ _ _ 0 [_, _, .null, .null] [] _
  refine j_iconst (0) dX3_isOrder_0 rfl ?_
  refine j_top (y := nI (seen p 0)) (rfl) ?_
  refine j_ist2 dX3_isOrder_1 rfl (by decide) ?_
  refine j_iconst (0) dX3_isOrder_2 rfl ?_
  refine j_ist3 dX3_isOrder_3 rfl (by decide) ?_
  refine j_ild3 dX3_isOrder_4 ?_
  refine j_iconst (4) dX3_isOrder_5 rfl ?_
  refine j_icmpge 41 dX3_isOrder_6 (by decide) (fun c_6 => absurd c_6 (by decide)) (fun c_6 => ?_)
  refine j_ald0 dX3_isOrder_9 ?_
  refine j_getR (k := 1) (46) dX3_isOrder_10 cX3_ok (Or.inl f3_15) rfl (by decide) (by decide) (by decide) rfl ?_
  refine j_ild3 dX3_isOrder_13 ?_
  refine j_ild1 dX3_isOrder_14 ?_
  refine j_iconst (2) dX3_isOrder_15 rfl ?_
  refine j_iconst (3) dX3_isOrder_16 rfl ?_
  refine j_ild3 dX3_isOrder_17 ?_
  refine j_isub dX3_isOrder_18 ?_
  refine j_imul dX3_isOrder_19 ?_
  refine j_ishr dX3_isOrder_20 ?_
  refine j_iconst (3) dX3_isOrder_21 rfl ?_
  refine j_iand dX3_isOrder_22 ?_
  refine j_top (y := nI (dg p 0)) (by exact f_dg p hp 0 (by decide)) ?_
  refine j_iast (n := 0) dX3_isOrder_23 rfl (by decide) rfl (by decide) (by decide) ?_
  refine j_ild2 dX3_isOrder_24 ?_
  refine j_iconst (1) dX3_isOrder_25 rfl ?_
  refine j_ald0 dX3_isOrder_26 ?_
  refine j_getR (k := 1) (46) dX3_isOrder_27 cX3_ok (Or.inl f3_15) rfl (by decide) (by decide) (by decide) rfl ?_
  refine j_ild3 dX3_isOrder_30 ?_
  refine j_iald (n := 0) dX3_isOrder_31 rfl (by decide) rfl (by decide) (by decide) ?_
  refine j_top (y := nI (dg p 0)) (by simp [uI_at]) ?_
  refine j_ishl dX3_isOrder_32 ?_
  refine j_ior dX3_isOrder_33 ?_
  refine j_top (y := nI (seen p 1)) (by exact f_seen _ (f_sn p hp 0 (by decide)) _ (dg_lt p 0)) ?_
  refine j_ist2 dX3_isOrder_34 rfl (by decide) ?_
  refine j_iinc3 (1) dX3_isOrder_35 rfl rfl (by decide) ?_
  refine j_goto 4 dX3_isOrder_38 (by decide) ?_
  refine j_ild3 dX3_isOrder_4 ?_
  refine j_iconst (4) dX3_isOrder_5 rfl ?_
  refine j_icmpge 41 dX3_isOrder_6 (by decide) (fun c_6 => absurd c_6 (by decide)) (fun c_6 => ?_)
  refine j_ald0 dX3_isOrder_9 ?_
  refine j_getR (k := 1) (46) dX3_isOrder_10 cX3_ok (Or.inl f3_15) rfl (by decide) (by decide) (by decide) rfl ?_
  refine j_ild3 dX3_isOrder_13 ?_
  refine j_ild1 dX3_isOrder_14 ?_
  refine j_iconst (2) dX3_isOrder_15 rfl ?_
  refine j_iconst (3) dX3_isOrder_16 rfl ?_
  refine j_ild3 dX3_isOrder_17 ?_
  refine j_isub dX3_isOrder_18 ?_
  refine j_imul dX3_isOrder_19 ?_
  refine j_ishr dX3_isOrder_20 ?_
  refine j_iconst (3) dX3_isOrder_21 rfl ?_
  refine j_iand dX3_isOrder_22 ?_
  refine j_top (y := nI (dg p 1)) (by exact f_dg p hp 1 (by decide)) ?_
  refine j_iast (n := 1) dX3_isOrder_23 rfl (by decide) rfl (by decide) (by decide) ?_
  refine j_ild2 dX3_isOrder_24 ?_
  refine j_iconst (1) dX3_isOrder_25 rfl ?_
  refine j_ald0 dX3_isOrder_26 ?_
  refine j_getR (k := 1) (46) dX3_isOrder_27 cX3_ok (Or.inl f3_15) rfl (by decide) (by decide) (by decide) rfl ?_
  refine j_ild3 dX3_isOrder_30 ?_
  refine j_iald (n := 1) dX3_isOrder_31 rfl (by decide) rfl (by omega) (by decide) ?_
  refine j_top (y := nI (dg p 1)) (by simp [uI_at]) ?_
  refine j_ishl dX3_isOrder_32 ?_
  refine j_ior dX3_isOrder_33 ?_
  refine j_top (y := nI (seen p 2)) (by exact f_seen _ (f_sn p hp 1 (by decide)) _ (dg_lt p 1)) ?_
  refine j_ist2 dX3_isOrder_34 rfl (by decide) ?_
  refine j_iinc3 (2) dX3_isOrder_35 rfl rfl (by decide) ?_
  refine j_goto 4 dX3_isOrder_38 (by decide) ?_
  refine j_ild3 dX3_isOrder_4 ?_
  refine j_iconst (4) dX3_isOrder_5 rfl ?_
  refine j_icmpge 41 dX3_isOrder_6 (by decide) (fun c_6 => absurd c_6 (by decide)) (fun c_6 => ?_)
  refine j_ald0 dX3_isOrder_9 ?_
  refine j_getR (k := 1) (46) dX3_isOrder_10 cX3_ok (Or.inl f3_15) rfl (by decide) (by decide) (by decide) rfl ?_
  refine j_ild3 dX3_isOrder_13 ?_
  refine j_ild1 dX3_isOrder_14 ?_
  refine j_iconst (2) dX3_isOrder_15 rfl ?_
  refine j_iconst (3) dX3_isOrder_16 rfl ?_
  refine j_ild3 dX3_isOrder_17 ?_
  refine j_isub dX3_isOrder_18 ?_
  refine j_imul dX3_isOrder_19 ?_
  refine j_ishr dX3_isOrder_20 ?_
  refine j_iconst (3) dX3_isOrder_21 rfl ?_
  refine j_iand dX3_isOrder_22 ?_
  refine j_top (y := nI (dg p 2)) (by exact f_dg p hp 2 (by decide)) ?_
  refine j_iast (n := 2) dX3_isOrder_23 rfl (by decide) rfl (by decide) (by decide) ?_
  refine j_ild2 dX3_isOrder_24 ?_
  refine j_iconst (1) dX3_isOrder_25 rfl ?_
  refine j_ald0 dX3_isOrder_26 ?_
  refine j_getR (k := 1) (46) dX3_isOrder_27 cX3_ok (Or.inl f3_15) rfl (by decide) (by decide) (by decide) rfl ?_
  refine j_ild3 dX3_isOrder_30 ?_
  refine j_iald (n := 2) dX3_isOrder_31 rfl (by decide) rfl (by omega) (by decide) ?_
  refine j_top (y := nI (dg p 2)) (by simp [uI_at]) ?_
  refine j_ishl dX3_isOrder_32 ?_
  refine j_ior dX3_isOrder_33 ?_
  refine j_top (y := nI (seen p 3)) (by exact f_seen _ (f_sn p hp 2 (by decide)) _ (dg_lt p 2)) ?_
  refine j_ist2 dX3_isOrder_34 rfl (by decide) ?_
  refine j_iinc3 (3) dX3_isOrder_35 rfl rfl (by decide) ?_
  refine j_goto 4 dX3_isOrder_38 (by decide) ?_
  refine j_ild3 dX3_isOrder_4 ?_
  refine j_iconst (4) dX3_isOrder_5 rfl ?_
  refine j_icmpge 41 dX3_isOrder_6 (by decide) (fun c_6 => absurd c_6 (by decide)) (fun c_6 => ?_)
  refine j_ald0 dX3_isOrder_9 ?_
  refine j_getR (k := 1) (46) dX3_isOrder_10 cX3_ok (Or.inl f3_15) rfl (by decide) (by decide) (by decide) rfl ?_
  refine j_ild3 dX3_isOrder_13 ?_
  refine j_ild1 dX3_isOrder_14 ?_
  refine j_iconst (2) dX3_isOrder_15 rfl ?_
  refine j_iconst (3) dX3_isOrder_16 rfl ?_
  refine j_ild3 dX3_isOrder_17 ?_
  refine j_isub dX3_isOrder_18 ?_
  refine j_imul dX3_isOrder_19 ?_
  refine j_ishr dX3_isOrder_20 ?_
  refine j_iconst (3) dX3_isOrder_21 rfl ?_
  refine j_iand dX3_isOrder_22 ?_
  refine j_top (y := nI (dg p 3)) (by exact f_dg p hp 3 (by decide)) ?_
  refine j_iast (n := 3) dX3_isOrder_23 rfl (by decide) rfl (by decide) (by decide) ?_
  refine j_ild2 dX3_isOrder_24 ?_
  refine j_iconst (1) dX3_isOrder_25 rfl ?_
  refine j_ald0 dX3_isOrder_26 ?_
  refine j_getR (k := 1) (46) dX3_isOrder_27 cX3_ok (Or.inl f3_15) rfl (by decide) (by decide) (by decide) rfl ?_
  refine j_ild3 dX3_isOrder_30 ?_
  refine j_iald (n := 3) dX3_isOrder_31 rfl (by decide) rfl (by omega) (by decide) ?_
  refine j_top (y := nI (dg p 3)) (by simp [uI_at]) ?_
  refine j_ishl dX3_isOrder_32 ?_
  refine j_ior dX3_isOrder_33 ?_
  refine j_top (y := nI (seen p 4)) (by exact f_seen _ (f_sn p hp 3 (by decide)) _ (dg_lt p 3)) ?_
  refine j_ist2 dX3_isOrder_34 rfl (by decide) ?_
  refine j_iinc3 (4) dX3_isOrder_35 rfl rfl (by decide) ?_
  refine j_goto 4 dX3_isOrder_38 (by decide) ?_
  refine j_ild3 dX3_isOrder_4 ?_
  refine j_iconst (4) dX3_isOrder_5 rfl ?_
  refine j_icmpge 41 dX3_isOrder_6 (by decide) (fun c_6 => ?_) (fun c_6 => absurd (by decide) c_6)
  refine j_ild2 dX3_isOrder_41 ?_
  refine j_bipush (15) dX3_isOrder_42 rfl ?_
  refine j_icmpne 51 dX3_isOrder_44 (by decide) (fun c_44 => ?_) (fun c_44 => ?_)
  · refine j_iconst (0) dX3_isOrder_51 rfl ?_
    refine j_zret dX3_isOrder_52 rfl (by decide) ?_
    exact ⟨by rw [bi_f (fun z : isP p => c_44 (by rw [z]; rfl))], rfl⟩
  refine j_iconst (1) dX3_isOrder_47 rfl ?_
  refine j_goto 52 dX3_isOrder_48 (by decide) ?_
  refine j_zret dX3_isOrder_52 rfl (by decide) ?_
  exact ⟨by rw [bi_t (show isP p from (nI_eq (a := seen p 4) (b := 15) (by have := f_sn p hp 4 (by decide); omega) (by decide)).mp (Classical.not_not.mp c_44))], rfl⟩

set_option maxRecDepth 20000 in
theorem lp_X3_meanPrice (h : TC n v S) {c p : Nat} (hc : ck c = (1, 4)) (hc1 : c < 61) (hd : ∀ i, i < 4 → S.1 c i = nI (dg p i)) : ∀ (fu : Nat) (i : Nat) (w10 : Value), 4 - i < fu → (i ≤ 4) → J a mX3_meanPrice 1 (gm a fun r S' => r = some (.long (lN (meanP v p))) ∧ S' = S) 24 [.ref (a 4), .ref (a 1), .ref (a c), .long (lN (mnp v p i).2.1), .null, .long (lN (mnp v p i).2.2), .null, .long (lN (mnp v p i).1), .null, .int (nI i), w10] [] S := by
  intro fu
  induction fu with
  | zero => intro i w10 hk; exact absurd hk (Nat.not_lt_zero _)
  | succ fu ih =>
    intro i w10 hk hi
    refine j_ild9 dX3_meanPrice_24 ?_
    refine j_iconst (4) dX3_meanPrice_26 rfl ?_
    refine j_icmpge 108 dX3_meanPrice_27 (by decide) (fun c_27 => ?_) (fun c_27 => ?_)
    · have q_27 : i = 4 := by have := (nI_leI (a := 4) (b := i) (by decide) (by omega)).mp c_27; omega
      subst q_27
      refine j_lld7 dX3_meanPrice_108 ?_
      refine j_lret dX3_meanPrice_110 rfl ?_
      exact ⟨rfl, rfl⟩
    have q_27 : i < 4 := Nat.not_le.mp (fun z => c_27 ((nI_leI (a := 4) (b := i) (by decide) (by omega)).mpr z))
    have d4 := dg_lt p i
    refine j_ald2 dX3_meanPrice_30 ?_
    refine j_ild9 dX3_meanPrice_31 ?_
    refine j_iald (n := i) dX3_meanPrice_33 hc hc1 rfl (by omega) (by decide) ?_
    refine j_top (y := nI (dg p i)) (hd i q_27) ?_
    refine j_ist10 dX3_meanPrice_34 rfl (by decide) ?_
    refine j_ild10 dX3_meanPrice_36 ?_
    refine j_iconst (4) dX3_meanPrice_38 rfl ?_
    refine j_cS2 dX3_meanPrice_39 kX7_within zX7_within (Or.inr ⟨_, l3_51⟩) (Nat.le_of_ble_eq_true rfl) (Nat.le_of_ble_eq_true rfl) (by omega) (s_X7_within) ?_
    refine j_ifeqB 102 dX3_meanPrice_42 (by decide) (fun c_42 => absurd c_42 (not_not_intro (nI_in' (n := 4) d4 (by decide)))) (fun c_42 => ?_)
    refine j_lld7 dX3_meanPrice_45 ?_
    refine j_ldc2_w (v := 12) dX3_meanPrice_47 q3_55 ?_
    refine j_lmul dX3_meanPrice_50 ?_
    refine j_topL (y := lN ((mnp v p i).1 * 12)) (lN_mul _ 12) ?_
    refine j_ald1 dX3_meanPrice_51 ?_
    refine j_getR (k := 0) (15) dX3_meanPrice_52 cX6_ok (Or.inr ⟨_, f3_21⟩) rfl (by decide) (by decide) (by decide) rfl ?_
    refine j_bipush (7) dX3_meanPrice_55 rfl ?_
    refine j_aald (n := 7) (23) dX3_meanPrice_57 (Or.inr rfl) (by decide) rfl (by decide) (by decide) rfl ?_
    refine j_ild10 dX3_meanPrice_58 ?_
    refine j_iald (n := dg p i) dX3_meanPrice_60 rfl (by decide) rfl (by omega) (by decide) ?_
    refine j_top (y := nI (v 7 (dg p i))) (h.2.2.1 7 (by decide) _ (by omega)) ?_
    refine j_i2l dX3_meanPrice_61 ?_
    refine j_topL (y := lN (v 7 (dg p i))) (nI_l (by have := h.le99 (w := 7) (i := dg p i) (by decide) (by omega); omega)) ?_
    refine j_lld3 dX3_meanPrice_62 ?_
    refine j_lld5 dX3_meanPrice_63 ?_
    refine j_ladd dX3_meanPrice_65 ?_
    refine j_topL (y := lN ((mnp v p i).2.1 + (mnp v p i).2.2)) (lN_add _ _) ?_
    refine j_lmul dX3_meanPrice_66 ?_
    refine j_topL (y := lN (v 7 (dg p i) * ((mnp v p i).2.1 + (mnp v p i).2.2))) (lN_mul _ _) ?_
    refine j_ladd dX3_meanPrice_67 ?_
    refine j_topL (y := lN (mnp v p (i + 1)).1) (lN_add _ _) ?_
    refine j_lst7 dX3_meanPrice_68 rfl (by decide) ?_
    refine j_lld3 dX3_meanPrice_70 ?_
    refine j_ald1 dX3_meanPrice_71 ?_
    refine j_getR (k := 0) (15) dX3_meanPrice_72 cX6_ok (Or.inr ⟨_, f3_21⟩) rfl (by decide) (by decide) (by decide) rfl ?_
    refine j_iconst (5) dX3_meanPrice_75 rfl ?_
    refine j_aald (n := 5) (21) dX3_meanPrice_76 (Or.inr rfl) (by decide) rfl (by decide) (by decide) rfl ?_
    refine j_ild10 dX3_meanPrice_77 ?_
    refine j_iald (n := dg p i) dX3_meanPrice_79 rfl (by decide) rfl (by omega) (by decide) ?_
    refine j_top (y := nI (v 5 (dg p i))) (h.2.2.1 5 (by decide) _ (by omega)) ?_
    refine j_i2l dX3_meanPrice_80 ?_
    refine j_topL (y := lN (v 5 (dg p i))) (nI_l (by have := h.le99 (w := 5) (i := dg p i) (by decide) (by omega); omega)) ?_
    refine j_lmul dX3_meanPrice_81 ?_
    refine j_topL (y := lN (mnp v p (i + 1)).2.1) (lN_mul _ _) ?_
    refine j_lst3 dX3_meanPrice_82 rfl (by decide) ?_
    refine j_lld5 dX3_meanPrice_83 ?_
    refine j_bipush (12) dX3_meanPrice_85 rfl ?_
    refine j_ald1 dX3_meanPrice_87 ?_
    refine j_getR (k := 0) (15) dX3_meanPrice_88 cX6_ok (Or.inr ⟨_, f3_21⟩) rfl (by decide) (by decide) (by decide) rfl ?_
    refine j_bipush (6) dX3_meanPrice_91 rfl ?_
    refine j_aald (n := 6) (22) dX3_meanPrice_93 (Or.inr rfl) (by decide) rfl (by decide) (by decide) rfl ?_
    refine j_ild10 dX3_meanPrice_94 ?_
    refine j_iald (n := dg p i) dX3_meanPrice_96 rfl (by decide) rfl (by omega) (by decide) ?_
    refine j_top (y := nI (v 6 (dg p i))) (h.2.2.1 6 (by decide) _ (by omega)) ?_
    refine j_isub dX3_meanPrice_97 ?_
    refine j_top (y := nI (12 - v 6 (dg p i))) (by exact pk_sub (a := 12) (b := v 6 (dg p i)) (h.b12 (w := 6) (by omega) (by omega))) ?_
    refine j_i2l dX3_meanPrice_98 ?_
    refine j_topL (y := lN (12 - v 6 (dg p i))) (nI_l (by omega)) ?_
    refine j_lmul dX3_meanPrice_99 ?_
    refine j_topL (y := lN (mnp v p (i + 1)).2.2) (lN_mul _ _) ?_
    refine j_lst5 dX3_meanPrice_100 rfl (by decide) ?_
    refine j_iinc9 (nI (i + 1)) dX3_meanPrice_102 (nI_1 i) rfl (by decide) ?_
    refine j_goto 24 dX3_meanPrice_105 (by decide) ?_
    exact ih (i + 1) _ (by omega) (by omega)

set_option maxRecDepth 20000 in
theorem s_X3_meanPrice {c p : Nat} (h : TC n v S) (hc : ck c = (1, 4)) (hc1 : c < 61) (hd : ∀ i, i < 4 → S.1 c i = nI (dg p i)) : Rt a mX3_meanPrice 1 [.ref (a 4), .ref (a 1), .ref (a c)] S (some (.long (lN (meanP v p)))) S := by
  show J _ _ _ _ 0 [_, _, _, .null, .null, .null, .null, .null, .null, .null, .null] [] _
  refine j_ald1 dX3_meanPrice_0 ?_
  refine j_getR (k := 0) (15) dX3_meanPrice_1 cX6_ok (Or.inr ⟨_, f3_21⟩) rfl (by decide) (by decide) (by decide) rfl ?_
  refine j_bipush (9) dX3_meanPrice_4 rfl ?_
  refine j_aald (n := 9) (25) dX3_meanPrice_6 (Or.inr rfl) (by decide) rfl (by decide) (by decide) rfl ?_
  refine j_iconst (0) dX3_meanPrice_7 rfl ?_
  refine j_iald (n := 0) dX3_meanPrice_8 rfl (by decide) rfl (by omega) (by decide) ?_
  refine j_top (y := nI (v 9 0)) (h.2.2.1 9 (by decide) 0 (by omega)) ?_
  refine j_i2l dX3_meanPrice_9 ?_
  refine j_topL (y := lN (v 9 0)) (nI_l (by have := h.c99; omega)) ?_
  refine j_lst3 dX3_meanPrice_10 rfl (by decide) ?_
  refine j_ldc2_w (v := 100) dX3_meanPrice_11 q3_49 ?_
  refine j_topL (y := lN 100) (rfl) ?_
  refine j_lld3 dX3_meanPrice_14 ?_
  refine j_lsub dX3_meanPrice_15 ?_
  refine j_topL (y := lN (100 - v 9 0)) (lN_sub (by have := h.c99; omega)) ?_
  refine j_lst5 dX3_meanPrice_16 rfl (by decide) ?_
  refine j_lconst (0) dX3_meanPrice_18 rfl ?_
  refine j_topL (y := lN (mnp v p 0).1) (rfl) ?_
  refine j_lst7 dX3_meanPrice_19 rfl (by decide) ?_
  refine j_iconst (0) dX3_meanPrice_21 rfl ?_
  refine j_ist9 dX3_meanPrice_22 rfl (by decide) ?_
  exact lp_X3_meanPrice h hc hc1 hd 5 0 .null (by omega) (by omega)

set_option maxRecDepth 20000 in
theorem lp_X3_findOrder (h : TC n v S) : ∀ (fu : Nat) (i : Nat) (S1 : St) (x : Int64) (w5 w6 : Value), 256 - i < fu → (i ≤ 256) → (Kp [4] S S1) → (oc v (fo v i) x S1) → J a mX3_findOrder 2 (gm a fun r S' => r = none ∧ Kp [4] S S' ∧ oc v (fo v 256) (lN (meanP v (bestP v))) S') 7 [.ref (a 4), .ref (a 1), .long x, .null, .int (nI i), w5, w6] [] S1 := by
  intro fu
  induction fu with
  | zero => intro i S1 x w5 w6 hk; exact absurd hk (Nat.not_lt_zero _)
  | succ fu ih =>
    intro i S1 x w5 w6 hk hi hkp hoc
    refine j_ild4 dX3_findOrder_7 ?_
    refine j_sipush (256) dX3_findOrder_9 rfl ?_
    refine j_icmpge 65 dX3_findOrder_12 (by decide) (fun c_12 => ?_) (fun c_12 => ?_)
    · have q_12 : i = 256 := by have := (nI_leI (a := 256) (b := i) (by decide) (by omega)).mp c_12; omega
      subst q_12
      refine j_vret dX3_findOrder_65 rfl ?_
      exact ⟨rfl, hkp, by rw [fo_best] at hoc ⊢; exact ⟨rfl, hoc.2⟩⟩
    have q_12 : i < 256 := Nat.not_le.mp (fun z => c_12 ((nI_leI (a := 256) (b := i) (by decide) (by omega)).mpr z))
    refine j_ald0 dX3_findOrder_15 ?_
    refine j_ild4 dX3_findOrder_16 ?_
    refine j_cV1 dX3_findOrder_18 kX3_isOrder l3_35 rfl (by decide) rfl (Nat.le_of_ble_eq_true rfl) (Nat.le_of_ble_eq_true rfl) (by omega) (s_X3_isOrder q_12) ?_
    refine j_ifeqB 59 dX3_findOrder_21 (by decide) (fun c_21 => ?_) (fun c_21 => ?_)
    · refine j_iinc4 (nI (i + 1)) dX3_findOrder_59 (nI_1 i) rfl (by decide) ?_
      refine j_goto 7 dX3_findOrder_62 (by decide) ?_
      have e : fo v (i + 1) = fo v i := by rw [fo, if_neg c_21]
      exact ih (i + 1) (tr4 S1 i) x _ _ (by omega) (by omega) (tr4_kp hkp) (by rw [e]; exact oc_tr hoc)
    refine j_ald0 dX3_findOrder_24 ?_
    refine j_ald1 dX3_findOrder_25 ?_
    refine j_ald0 dX3_findOrder_26 ?_
    refine j_getR (k := 1) (46) dX3_findOrder_27 cX3_ok (Or.inl f3_15) rfl (by decide) (by decide) (by decide) rfl ?_
    refine j_cV2 dX3_findOrder_30 kX3_meanPrice l3_39 rfl (by decide) rfl (Nat.le_of_ble_eq_true rfl) (Nat.le_of_ble_eq_true rfl) (by omega) (s_X3_meanPrice (c := 46) (p := i) (h.kp (tr4_kp hkp) (by decide)) rfl (by decide) (fun k hk4 => tr4_at hk4)) ?_
    refine j_lst5 dX3_findOrder_33 rfl (by decide) ?_
    refine j_lld5 dX3_findOrder_35 ?_
    refine j_lld2 dX3_findOrder_37 ?_
    refine j_lcmp dX3_findOrder_38 ?_
    refine j_ifge 59 dX3_findOrder_39 (by decide) (fun c_39 => ?_) (fun c_39 => ?_)
    · refine j_iinc4 (nI (i + 1)) dX3_findOrder_59 (nI_1 i) rfl (by decide) ?_
      refine j_goto 7 dX3_findOrder_62 (by decide) ?_
      have e : fo v (i + 1) = fo v i := by rw [fo, if_pos c_21, oc_ge h.2.2.2 hoc (Int64.not_lt.mpr ((lg_cmp_ge _ _).mp c_39))]
      exact ih (i + 1) (tr4 S1 i) x _ _ (by omega) (by omega) (tr4_kp hkp) (by rw [e]; exact oc_tr hoc)
    refine j_lld5 dX3_findOrder_42 ?_
    refine j_lst2 dX3_findOrder_44 rfl (by decide) ?_
    refine j_ald0 dX3_findOrder_45 ?_
    refine j_getR (k := 1) (46) dX3_findOrder_46 cX3_ok (Or.inl f3_15) rfl (by decide) (by decide) (by decide) rfl ?_
    refine j_iconst (0) dX3_findOrder_49 rfl ?_
    refine j_ald0 dX3_findOrder_50 ?_
    refine j_getR (k := 0) (45) dX3_findOrder_51 cX3_ok (Or.inl f3_9) rfl (by decide) (by decide) (by decide) rfl ?_
    refine j_iconst (0) dX3_findOrder_54 rfl ?_
    refine j_iconst (4) dX3_findOrder_55 rfl ?_
    refine j_copyi (sp := 0) (dp := 0) (n := 4) dX3_findOrder_56 l3_43 t_cp_n t_cp_s t_sysini rfl rfl (by decide) (by decide) rfl rfl rfl (by decide) (by decide) (by decide) (by decide) (Nat.le_of_ble_eq_true rfl) (by omega) ?_
    refine j_iinc4 (nI (i + 1)) dX3_findOrder_59 (nI_1 i) rfl (by decide) ?_
    refine j_goto 7 dX3_findOrder_62 (by decide) ?_
    have e : fo v (i + 1) = some i := by rw [fo, if_pos c_21, oc_lt h.2.2.2 hoc (Int64.not_le.mp (fun z => c_39 ((lg_cmp_ge _ _).mpr z)))]
    refine ih (i + 1) _ (lN (meanP v i)) _ _ (by omega) (by omega) (Kp_sI (tr4_kp hkp) (fun _ => List.mem_singleton.mpr rfl)) ?_
    rw [e]
    refine ⟨rfl, fun k hk4 => ?_⟩
    rw [sI_at, if_pos rfl, pk_cpy_in (by omega) (by omega)]
    exact (congrArg _ (show 0 + (k - 0) = k by omega)).trans (tr4_at hk4)

set_option maxRecDepth 20000 in
theorem s_X3_findOrder (h : TC n v S) : Rqv a mX3_findOrder 2 [.ref (a 4), .ref (a 1)] S fun S' => Kp [4] S S' ∧ oc v (fo v 256) (lN (meanP v (bestP v))) S' := by
  show J _ _ _ _ 0 [_, _, .null, .null, .null, .null, .null] [] _
  refine j_ldc2_w (v := 9223372036854775807) dX3_findOrder_0 q3_33 ?_
  refine j_lst2 dX3_findOrder_3 rfl (by decide) ?_
  refine j_iconst (0) dX3_findOrder_4 rfl ?_
  refine j_ist4 dX3_findOrder_5 rfl (by decide) ?_
  exact lp_X3_findOrder h 257 0 S _ _ _ (by omega) (by omega) Kp.rf rfl

set_option maxRecDepth 20000 in
theorem s_X7_order_ok {x p : Int32} (h : TC n v S) (hk : orOk x p) : Rql a mX7_order 3 [.ref (a 0), .int x, .int p] S fun y S' => y = ordV v x p ∧ Kp [4] S S' := by
  show J _ _ _ _ 0 [_, _, _] [] _
  refine j_ild1 dX7_order_0 ?_
  refine j_iconst (-1) dX7_order_1 rfl ?_
  refine j_icmplt 18 dX7_order_2 (by decide) (fun c_2 => absurd c_2 (Int32.not_lt.mpr hk.1.1)) (fun c_2 => ?_)
  refine j_ild1 dX7_order_5 ?_
  refine j_iconst (4) dX7_order_6 rfl ?_
  refine j_icmpge 18 dX7_order_7 (by decide) (fun c_7 => absurd c_7 (Int32.not_le.mpr hk.1.2)) (fun c_7 => ?_)
  refine j_ild2 dX7_order_10 ?_
  refine j_iconst (2) dX7_order_11 rfl ?_
  refine j_cS2 dX7_order_12 kX7_within zX7_within (Or.inl l7_72) (Nat.le_of_ble_eq_true rfl) (Nat.le_of_ble_eq_true rfl) (by omega) (s_X7_within) ?_
  refine j_ifneB 22 dX7_order_15 (by decide) (fun c_15 => ?_) (fun c_15 => absurd (hk.2) c_15)
  refine j_ald0 dX7_order_22 ?_
  refine j_getR (k := 3) (4) dX7_order_23 cX7_ok (Or.inl f7_35) rfl (by decide) (by decide) (by decide) rfl ?_
  refine j_ald0 dX7_order_26 ?_
  refine j_getR (k := 0) (1) dX7_order_27 cX7_ok (Or.inl f7_12) rfl (by decide) (by decide) (by decide) rfl ?_
  refine j_qvV1 dX7_order_30 kX3_findOrder l7_190 rfl (by decide) rfl (Nat.le_of_ble_eq_true rfl) (Nat.le_of_ble_eq_true rfl) (by omega) (s_X3_findOrder h) (fun S_30 h_30 => ?_)
  obtain ⟨hkp, hoc⟩ := h_30
  rw [fo_best] at hoc
  have hoc2 := hoc.2
  refine j_ild1 dX7_order_33 ?_
  refine j_ifge 65 dX7_order_34 (by decide) (fun c_34 => ?_) (fun c_34 => ?_)
  · have q_34 := in_nI (n := 4) (by decide) ⟨c_34, hk.1.2⟩
    obtain ⟨k, hk4, rfl⟩ := q_34
    refine j_ald0 dX7_order_65 ?_
    refine j_getR (k := 3) (4) dX7_order_66 cX7_ok (Or.inl f7_35) rfl (by decide) (by decide) (by decide) rfl ?_
    refine j_getR (k := 0) (45) dX7_order_69 cX3_ok (Or.inr ⟨_, f7_194⟩) rfl (by decide) (by decide) (by decide) rfl ?_
    refine j_ild1 dX7_order_72 ?_
    refine j_iald (n := k) dX7_order_73 rfl (by decide) rfl (by omega) (by decide) ?_
    refine j_top (y := nI (dg (bestP v) k)) (hoc2 k hk4) ?_
    refine j_i2l dX7_order_74 ?_
    refine j_topL (y := lN (dg (bestP v) k)) (nI_l (by have := dg_lt (bestP v) k; omega)) ?_
    refine j_lret dX7_order_75 rfl ?_
    exact ⟨_, rfl, by rw [ordV, if_neg (nI_pos (by omega)), nI_clamp (by omega)], hkp⟩
  refine j_ald0 dX7_order_37 ?_
  refine j_getR (k := 3) (4) dX7_order_38 cX7_ok (Or.inl f7_35) rfl (by decide) (by decide) (by decide) rfl ?_
  refine j_ald0 dX7_order_41 ?_
  refine j_getR (k := 0) (1) dX7_order_42 cX7_ok (Or.inl f7_12) rfl (by decide) (by decide) (by decide) rfl ?_
  refine j_ald0 dX7_order_45 ?_
  refine j_getR (k := 3) (4) dX7_order_46 cX7_ok (Or.inl f7_35) rfl (by decide) (by decide) (by decide) rfl ?_
  refine j_getR (k := 0) (45) dX7_order_49 cX3_ok (Or.inr ⟨_, f7_194⟩) rfl (by decide) (by decide) (by decide) rfl ?_
  refine j_cV2 dX7_order_52 kX3_meanPrice l7_197 rfl (by decide) rfl (Nat.le_of_ble_eq_true rfl) (Nat.le_of_ble_eq_true rfl) (by omega) (s_X3_meanPrice (c := 45) (p := bestP v) (h.kp hkp (by decide)) rfl (by decide) hoc2) ?_
  refine j_ldc2_w (v := 172800) dX7_order_55 q7_201 ?_
  refine j_topL (y := lN 172800) (rfl) ?_
  refine j_ild2 dX7_order_58 ?_
  refine j_cS3 dX7_order_59 kX7_lowest zX7_lowest (Or.inl l7_150) (Nat.le_of_ble_eq_true rfl) (Nat.le_of_ble_eq_true rfl) (by omega) (s_X7_lowest (by have := meanP_b h.2.2.2 (bestP v); omega) (by decide)) ?_
  refine j_goto 75 dX7_order_62 (by decide) ?_
  refine j_lret dX7_order_75 rfl ?_
  exact ⟨_, rfl, by rw [ordV, if_pos (Int32.not_le.mp c_34)], hkp⟩

end Order

