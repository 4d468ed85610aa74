/-! the law's own helpers: what they read off the script -/
def cl (Ls : Nat) (xs : Nat → Int32) (i : Nat) : Nat := if i < Ls then (xs i).toBitVec.toNat % 2 ^ 24 else i * 8707
theorem cl_lt {Ls : Nat} {xs : Nat → Int32} {i : Nat} (hi : i ≤ 60) : cl Ls xs i < 2 ^ 24 := by
  unfold cl
  split
  · exact Nat.mod_lt _ (by decide)
  · omega
def ncF (Ls : Nat) (xs : Nat → Int32) : Nat := cl Ls xs 0 % 7
def mnyF (Ls : Nat) (xs : Nat → Int32) (n : Nat) : Nat := cl Ls xs (1 + n) % (if bt (cl Ls xs 0) 3 = 0 then 10 else 4)
def sdF (Ls : Nat) (xs : Nat → Int32) (n s : Nat) : Nat := cl Ls xs (1 + n) / 2 ^ (6 + 4 * s) % (if bt (cl Ls xs 0) 4 = 0 then 6 else 3)
def bsF (Ls : Nat) (xs : Nat → Int32) (w n : Nat) : Nat := if w < 2 then cl Ls xs (20 + 4 * (w / 2) + n) / 2 ^ (8 * (w % 2)) % 10 else if w = 4 then cl Ls xs (20 + 4 * (w / 2) + n) / 2 ^ (8 * (w % 2)) % 100 else if bt (cl Ls xs (20 + 4 * (w / 2) + n) / 2 ^ (8 * (w % 2))) 7 = 0 then cl Ls xs (20 + 4 * (w / 2) + n) / 2 ^ (8 * (w % 2)) % 13 else if w = 5 then 3 else 9
theorem ncF_lt (Ls : Nat) (xs : Nat → Int32) : ncF Ls xs < 7 := Nat.mod_lt _ (by decide)
theorem mnyF_le (Ls : Nat) (xs : Nat → Int32) (n : Nat) : mnyF Ls xs n ≤ 9 := by
  unfold mnyF
  split
  · have := Nat.mod_lt (cl Ls xs (1 + n)) (show 0 < 10 by decide); omega
  · have := Nat.mod_lt (cl Ls xs (1 + n)) (show 0 < 4 by decide); omega
theorem sdF_lt (Ls : Nat) (xs : Nat → Int32) (n s : Nat) : sdF Ls xs n s < 6 := by
  unfold sdF
  split
  · exact Nat.mod_lt _ (by decide)
  · have := Nat.mod_lt (cl Ls xs (1 + n) / 2 ^ (6 + 4 * s)) (show 0 < 3 by decide); omega
theorem bsF_le {Ls : Nat} {xs : Nat → Int32} {w n : Nat} (hw : w < 6) : bsF Ls xs w n ≤ mostN (3 + w) := by
  unfold bsF
  generalize cl Ls xs (20 + 4 * (w / 2) + n) / 2 ^ (8 * (w % 2)) = v
  have h1 := Nat.mod_lt v (show 0 < 10 by decide)
  have h2 := Nat.mod_lt v (show 0 < 100 by decide)
  have h3 := Nat.mod_lt v (show 0 < 13 by decide)
  rcases (show w = 0 ∨ w = 1 ∨ w = 2 ∨ w = 3 ∨ w = 4 ∨ w = 5 by omega) with rfl | rfl | rfl | rfl | rfl | rfl <;> simp only [mostN] <;> simp <;> (try split) <;> omega
section Helpers
variable {a : Nat → Nat} {S : St} {b Ls : Nat} {xs : Nat → Int32}

set_option maxRecDepth 20000 in
theorem s_L_cell (hL : Ls ≤ 260) {i : Nat} (hi : i ≤ 60) : Rtx a b Ls xs mL_cell 0 [.ref b, .int (nI i)] S (some (.int (nI (cl Ls xs i)))) S := by
  show J _ _ _ _ 0 [_, _] [] _
  refine j_ild1 dL_cell_0 ?_
  refine j_ald0 dL_cell_1 ?_
  refine j_slen (fun _ _ h => h) dL_cell_2 ?_
  refine j_icmpge 15 dL_cell_3 (by decide) (fun c_3 => ?_) (fun c_3 => ?_)
  · have q_3 : ¬ i < Ls := fun z => absurd c_3 (Int32.not_le.mpr ((nI_ltI (a := i) (b := Ls) (by omega) (by omega)).mpr z))
    refine j_ild1 dL_cell_15 ?_
    refine j_sipush (8707) dL_cell_16 rfl ?_
    refine j_imul dL_cell_19 ?_
    refine j_top (y := nI (i * 8707)) (pk_mul i 8707) ?_
    refine j_xiret dL_cell_20 rfl ?_
    exact ⟨by rw [cl, if_neg q_3], rfl⟩
  have q_3 : i < Ls := Nat.not_le.mp (fun z => c_3 ((nI_leI (a := Ls) (b := i) (by omega) (by omega)).mpr z))
  refine j_ald0 dL_cell_6 ?_
  refine j_ild1 dL_cell_7 ?_
  refine j_sld (fun _ _ h => h) dL_cell_8 i q_3 hL ?_
  refine j_ldc (v := 16777215) dL_cell_9 qL_16 ?_
  refine j_iand dL_cell_11 ?_
  refine j_top (y := nI ((xs i).toBitVec.toNat % 2 ^ 24)) (pk_and (xs i) 24 (by decide)) ?_
  refine j_goto 20 dL_cell_12 (by decide) ?_
  refine j_xiret dL_cell_20 rfl ?_
  exact ⟨by rw [cl, if_pos q_3], rfl⟩

set_option maxRecDepth 20000 in
theorem s_L_cards (hL : Ls ≤ 260) : Rtx a b Ls xs mL_cards 1 [.ref b] S (some (.int (nI (ncF Ls xs)))) S := by
  show J _ _ _ _ 0 [_] [] _
  refine j_ald0 dL_cards_0 ?_
  refine j_iconst (0) dL_cards_1 rfl ?_
  refine j_xcS2 (fun _ _ h => h) dL_cards_2 kL_cell zL_cell lL_43 (Nat.le_of_ble_eq_true rfl) (Nat.le_of_ble_eq_true rfl) (by omega) (s_L_cell hL (i := 0) (by omega)) ?_
  refine j_bipush (7) dL_cards_5 rfl ?_
  refine j_irem dL_cards_7 (by decide) ?_
  refine j_top (y := nI (ncF Ls xs)) (pk_rem (a := cl Ls xs 0) (d := 7) (by have := cl_lt (Ls := Ls) (xs := xs) (i := 0) (by omega); omega) (by decide) (by decide)) ?_
  refine j_xiret dL_cards_8 rfl ?_
  exact ⟨rfl, rfl⟩

set_option maxRecDepth 20000 in
theorem s_L_many (hL : Ls ≤ 260) {n : Nat} (hn : n < 8) : Rtx a b Ls xs mL_many 1 [.ref b, .int (nI n)] S (some (.int (nI (mnyF Ls xs n)))) S := by
  show J _ _ _ _ 0 [_, _] [] _
  refine j_ald0 dL_many_0 ?_
  refine j_iconst (1) dL_many_1 rfl ?_
  refine j_ild1 dL_many_2 ?_
  refine j_iadd dL_many_3 ?_
  refine j_top (y := nI (1 + n)) (nI_add 1 n) ?_
  refine j_xcS2 (fun _ _ h => h) dL_many_4 kL_cell zL_cell lL_43 (Nat.le_of_ble_eq_true rfl) (Nat.le_of_ble_eq_true rfl) (by omega) (s_L_cell hL (i := 1 + n) (by omega)) ?_
  refine j_ald0 dL_many_7 ?_
  refine j_iconst (0) dL_many_8 rfl ?_
  refine j_xcS2 (fun _ _ h => h) dL_many_9 kL_cell zL_cell lL_43 (Nat.le_of_ble_eq_true rfl) (Nat.le_of_ble_eq_true rfl) (by omega) (s_L_cell hL (i := 0) (by omega)) ?_
  refine j_iconst (3) dL_many_12 rfl ?_
  refine j_ishr dL_many_13 ?_
  refine j_iconst (1) dL_many_14 rfl ?_
  refine j_iand dL_many_15 ?_
  refine j_top (y := nI (bt (cl Ls xs 0) 3)) (sh_bit (X := cl Ls xs 0) (i := 3) (by have := cl_lt (Ls := Ls) (xs := xs) (i := 0) (by omega); omega) (by omega)) ?_
  refine j_ifne 24 dL_many_16 (by decide) (fun c_16 => ?_) (fun c_16 => ?_)
  · have q_16 : ¬ bt (cl Ls xs 0) 3 = 0 := fun z => c_16 (by rw [z]; rfl)
    refine j_iconst (4) dL_many_24 rfl ?_
    refine j_irem dL_many_25 (by decide) ?_
    refine j_top (y := nI (cl Ls xs (1 + n) % 4)) (pk_rem (a := cl Ls xs (1 + n)) (d := 4) (by have := cl_lt (Ls := Ls) (xs := xs) (i := 1 + n) (by omega); omega) (by decide) (by decide)) ?_
    refine j_xiret dL_many_26 rfl ?_
    exact ⟨by rw [mnyF, if_neg q_16], rfl⟩
  have q_16 : bt (cl Ls xs 0) 3 = 0 := (nI_eq (a := bt (cl Ls xs 0) 3) (b := 0) (by have := bt_2 (cl Ls xs 0) 3; omega) (by decide)).mp (Classical.not_not.mp c_16)
  refine j_bipush (10) dL_many_19 rfl ?_
  refine j_goto 25 dL_many_21 (by decide) ?_
  refine j_irem dL_many_25 (by decide) ?_
  refine j_top (y := nI (cl Ls xs (1 + n) % 10)) (pk_rem (a := cl Ls xs (1 + n)) (d := 10) (by have := cl_lt (Ls := Ls) (xs := xs) (i := 1 + n) (by omega); omega) (by decide) (by decide)) ?_
  refine j_xiret dL_many_26 rfl ?_
  exact ⟨by rw [mnyF, if_pos q_16], rfl⟩

theorem sh_any {X k : Nat} (hX : X < 2 ^ 31) (hk : k < 16) : nI X >>> (nI k &&& 31) = nI (X / 2 ^ k) := by
  rcases (show k = 0 ∨ k = 1 ∨ k = 2 ∨ k = 3 ∨ k = 4 ∨ k = 5 ∨ k = 6 ∨ k = 7 ∨ k = 8 ∨ k = 9 ∨ k = 10 ∨ k = 11 ∨ k = 12 ∨ k = 13 ∨ k = 14 ∨ k = 15 by omega) with rfl | rfl | rfl | rfl | rfl | rfl | rfl | rfl | rfl | rfl | rfl | rfl | rfl | rfl | rfl | rfl <;> exact pk_shrN hX _ _ (by decide)
set_option maxRecDepth 20000 in
theorem s_L_side (hL : Ls ≤ 260) {n s : Nat} (hn : n < 8) (hs : s < 2) : Rtx a b Ls xs mL_side 1 [.ref b, .int (nI n), .int (nI s)] S (some (.int (nI (sdF Ls xs n s)))) S := by
  show J _ _ _ _ 0 [_, _, _] [] _
  refine j_ald0 dL_side_0 ?_
  refine j_iconst (1) dL_side_1 rfl ?_
  refine j_ild1 dL_side_2 ?_
  refine j_iadd dL_side_3 ?_
  refine j_top (y := nI (1 + n)) (nI_add 1 n) ?_
  refine j_xcS2 (fun _ _ h => h) dL_side_4 kL_cell zL_cell lL_43 (Nat.le_of_ble_eq_true rfl) (Nat.le_of_ble_eq_true rfl) (by omega) (s_L_cell hL (i := 1 + n) (by omega)) ?_
  refine j_bipush (6) dL_side_7 rfl ?_
  refine j_iconst (4) dL_side_9 rfl ?_
  refine j_ild2 dL_side_10 ?_
  refine j_imul dL_side_11 ?_
  refine j_top (y := nI (4 * s)) (pk_mul 4 s) ?_
  refine j_iadd dL_side_12 ?_
  refine j_top (y := nI (6 + 4 * s)) (nI_add 6 (4 * s)) ?_
  refine j_ishr dL_side_13 ?_
  refine j_top (y := nI (cl Ls xs (1 + n) / 2 ^ (6 + 4 * s))) (sh_any (by have := cl_lt (Ls := Ls) (xs := xs) (i := 1 + n) (by omega); omega) (by omega)) ?_
  refine j_ald0 dL_side_14 ?_
  refine j_iconst (0) dL_side_15 rfl ?_
  refine j_xcS2 (fun _ _ h => h) dL_side_16 kL_cell zL_cell lL_43 (Nat.le_of_ble_eq_true rfl) (Nat.le_of_ble_eq_true rfl) (by omega) (s_L_cell hL (i := 0) (by omega)) ?_
  refine j_iconst (4) dL_side_19 rfl ?_
  refine j_ishr dL_side_20 ?_
  refine j_iconst (1) dL_side_21 rfl ?_
  refine j_iand dL_side_22 ?_
  refine j_top (y := nI (bt (cl Ls xs 0) 4)) (sh_bit (X := cl Ls xs 0) (i := 4) (by have := cl_lt (Ls := Ls) (xs := xs) (i := 0) (by omega); omega) (by omega)) ?_
  refine j_ifne 31 dL_side_23 (by decide) (fun c_23 => ?_) (fun c_23 => ?_)
  · have q_23 : ¬ bt (cl Ls xs 0) 4 = 0 := fun z => c_23 (by rw [z]; rfl)
    refine j_iconst (3) dL_side_31 rfl ?_
    refine j_irem dL_side_32 (by decide) ?_
    refine j_top (y := nI (cl Ls xs (1 + n) / 2 ^ (6 + 4 * s) % 3)) (pk_rem (a := cl Ls xs (1 + n) / 2 ^ (6 + 4 * s)) (d := 3) (Nat.lt_of_le_of_lt (Nat.div_le_self _ _) (by have := cl_lt (Ls := Ls) (xs := xs) (i := 1 + n) (by omega); omega)) (by decide) (by decide)) ?_
    refine j_xiret dL_side_33 rfl ?_
    exact ⟨by rw [sdF, if_neg q_23], rfl⟩
  have q_23 : bt (cl Ls xs 0) 4 = 0 := (nI_eq (a := bt (cl Ls xs 0) 4) (b := 0) (by have := bt_2 (cl Ls xs 0) 4; omega) (by decide)).mp (Classical.not_not.mp c_23)
  refine j_bipush (6) dL_side_26 rfl ?_
  refine j_goto 32 dL_side_28 (by decide) ?_
  refine j_irem dL_side_32 (by decide) ?_
  refine j_top (y := nI (cl Ls xs (1 + n) / 2 ^ (6 + 4 * s) % 6)) (pk_rem (a := cl Ls xs (1 + n) / 2 ^ (6 + 4 * s)) (d := 6) (Nat.lt_of_le_of_lt (Nat.div_le_self _ _) (by have := cl_lt (Ls := Ls) (xs := xs) (i := 1 + n) (by omega); omega)) (by decide) (by decide)) ?_
  refine j_xiret dL_side_33 rfl ?_
  exact ⟨by rw [sdF, if_pos q_23], rfl⟩

set_option maxRecDepth 20000 in
theorem s_L_hasLaw (hL : Ls ≤ 260) : Rtx a b Ls xs mL_hasLaw 1 [.ref b] S (some (.int (bi (bt (cl Ls xs 0) 5 = 1)))) S := by
  show J _ _ _ _ 0 [_] [] _
  refine j_ald0 dL_hasLaw_0 ?_
  refine j_iconst (0) dL_hasLaw_1 rfl ?_
  refine j_xcS2 (fun _ _ h => h) dL_hasLaw_2 kL_cell zL_cell lL_43 (Nat.le_of_ble_eq_true rfl) (Nat.le_of_ble_eq_true rfl) (by omega) (s_L_cell hL (i := 0) (by omega)) ?_
  refine j_iconst (5) dL_hasLaw_5 rfl ?_
  refine j_ishr dL_hasLaw_6 ?_
  refine j_iconst (1) dL_hasLaw_7 rfl ?_
  refine j_iand dL_hasLaw_8 ?_
  refine j_top (y := nI (bt (cl Ls xs 0) 5)) (sh_bit (X := cl Ls xs 0) (i := 5) (by have := cl_lt (Ls := Ls) (xs := xs) (i := 0) (by omega); omega) (by omega)) ?_
  refine j_iconst (1) dL_hasLaw_9 rfl ?_
  refine j_icmpne 17 dL_hasLaw_10 (by decide) (fun c_10 => ?_) (fun c_10 => ?_)
  · have q_10 : ¬ bt (cl Ls xs 0) 5 = 1 := fun z => c_10 (by rw [z]; rfl)
    refine j_iconst (0) dL_hasLaw_17 rfl ?_
    refine j_xzret dL_hasLaw_18 rfl (by decide) ?_
    exact ⟨by rw [bi_f q_10], rfl⟩
  have q_10 : bt (cl Ls xs 0) 5 = 1 := (nI_eq (a := bt (cl Ls xs 0) 5) (b := 1) (by have := bt_2 (cl Ls xs 0) 5; omega) (by decide)).mp (Classical.not_not.mp c_10)
  refine j_iconst (1) dL_hasLaw_13 rfl ?_
  refine j_goto 18 dL_hasLaw_14 (by decide) ?_
  refine j_xzret dL_hasLaw_18 rfl (by decide) ?_
  exact ⟨by rw [bi_t q_10], rfl⟩

theorem lo128 : ∀ x, x < 256 → x &&& 128 = 128 * (x / 128 % 2) := by decide +kernel
theorem and128 {X : Nat} (hX : X < 2 ^ 31) : nI X &&& 128 = nI (128 * bt X 7) := by
  apply Int32.toBitVec_inj.mp
  apply BitVec.eq_of_toNat_eq
  rw [Int32.toBitVec_and, BitVec.toNat_and, pk_tn (by omega), pk_tn (by have := bt_2 X 7; omega)]
  show X &&& 128 = _
  have e1 : X &&& 128 = X % 256 &&& 128 := by
    have h : X &&& (2 ^ 8 - 1) = X % 2 ^ 8 := Nat.and_two_pow_sub_one_eq_mod X 8
    rw [show X % 256 = X &&& (2 ^ 8 - 1) from h.symm, Nat.and_assoc]
    rfl
  have e2 : bt X 7 = X % 256 / 128 % 2 := by unfold bt; omega
  rw [e1, e2]
  exact lo128 _ (Nat.mod_lt _ (by decide))
set_option maxRecDepth 20000 in
theorem s_L_beside (hL : Ls ≤ 260) {w n : Nat} (hw : w < 6) (hn : n < 20) : Rtx a b Ls xs mL_beside 1 [.ref b, .int (nI w), .int (nI n)] S (some (.int (nI (bsF Ls xs w n)))) S := by
  show J _ _ _ _ 0 [_, _, _, .null] [] _
  refine j_ald0 dL_beside_0 ?_
  refine j_bipush (20) dL_beside_1 rfl ?_
  refine j_iconst (4) dL_beside_3 rfl ?_
  refine j_ild1 dL_beside_4 ?_
  refine j_iconst (2) dL_beside_5 rfl ?_
  refine j_idiv dL_beside_6 (by decide) ?_
  refine j_top (y := nI (w / 2)) (pk_div (a := w) (d := 2) (by omega) (by decide) (by decide)) ?_
  refine j_imul dL_beside_7 ?_
  refine j_top (y := nI (4 * (w / 2))) (pk_mul 4 (w / 2)) ?_
  refine j_iadd dL_beside_8 ?_
  refine j_top (y := nI (20 + 4 * (w / 2))) (nI_add 20 (4 * (w / 2))) ?_
  refine j_ild2 dL_beside_9 ?_
  refine j_iadd dL_beside_10 ?_
  refine j_top (y := nI (20 + 4 * (w / 2) + n)) (nI_add _ n) ?_
  refine j_xcS2 (fun _ _ h => h) dL_beside_11 kL_cell zL_cell lL_43 (Nat.le_of_ble_eq_true rfl) (Nat.le_of_ble_eq_true rfl) (by omega) (s_L_cell hL (i := 20 + 4 * (w / 2) + n) (by omega)) ?_
  refine j_bipush (8) dL_beside_14 rfl ?_
  refine j_ild1 dL_beside_16 ?_
  refine j_iconst (2) dL_beside_17 rfl ?_
  refine j_irem dL_beside_18 (by decide) ?_
  refine j_top (y := nI (w % 2)) (pk_rem (a := w) (d := 2) (by omega) (by decide) (by decide)) ?_
  refine j_imul dL_beside_19 ?_
  refine j_top (y := nI (8 * (w % 2))) (pk_mul 8 (w % 2)) ?_
  refine j_ishr dL_beside_20 ?_
  refine j_top (y := nI (cl Ls xs (20 + 4 * (w / 2) + n) / 2 ^ (8 * (w % 2)))) (sh_any (by have := cl_lt (Ls := Ls) (xs := xs) (i := 20 + 4 * (w / 2) + n) (by omega); omega) (by omega)) ?_
  refine j_ist3 dL_beside_21 rfl (by decide) ?_
  refine j_ild1 dL_beside_22 ?_
  refine j_iconst (2) dL_beside_23 rfl ?_
  refine j_icmpge 34 dL_beside_24 (by decide) (fun c_24 => ?_) (fun c_24 => ?_)
  · have q_24 : ¬ w < 2 := fun z => absurd c_24 (Int32.not_le.mpr ((nI_ltI (a := w) (b := 2) (by omega) (by decide)).mpr z))
    refine j_ild1 dL_beside_34 ?_
    refine j_iconst (4) dL_beside_35 rfl ?_
    refine j_icmpne 46 dL_beside_36 (by decide) (fun c_36 => ?_) (fun c_36 => ?_)
    · have q_36 : ¬ w = 4 := fun z => c_36 (by rw [z]; rfl)
      refine j_ild3 dL_beside_46 ?_
      refine j_sipush (128) dL_beside_47 rfl ?_
      refine j_iand dL_beside_50 ?_
      refine j_top (y := nI (128 * bt (cl Ls xs (20 + 4 * (w / 2) + n) / 2 ^ (8 * (w % 2))) 7)) (and128 (Nat.lt_of_le_of_lt (Nat.div_le_self _ _) (by have := cl_lt (Ls := Ls) (xs := xs) (i := 20 + 4 * (w / 2) + n) (by omega); omega))) ?_
      refine j_ifne 61 dL_beside_51 (by decide) (fun c_51 => ?_) (fun c_51 => ?_)
      · have q_51 : ¬ bt (cl Ls xs (20 + 4 * (w / 2) + n) / 2 ^ (8 * (w % 2))) 7 = 0 := fun z => c_51 (by rw [z]; rfl)
        refine j_gets (i := 3) dL_beside_61 rfl (Or.inl fL_98) ?_
        refine j_ild1 dL_beside_64 ?_
        refine j_tald (i := 3) (k := w) dL_beside_65 rfl rfl (show w < 6 from hw) (by decide) ?_
        refine j_xiret dL_beside_66 rfl ?_
        refine ⟨?_, rfl⟩
        rw [bsF, if_neg q_24, if_neg q_36, if_neg q_51]
        rcases (show w = 2 ∨ w = 3 ∨ w = 5 by omega) with rfl | rfl | rfl <;> rfl
      have q_51 : bt (cl Ls xs (20 + 4 * (w / 2) + n) / 2 ^ (8 * (w % 2))) 7 = 0 := by
        have hb := bt_2 (cl Ls xs (20 + 4 * (w / 2) + n) / 2 ^ (8 * (w % 2))) 7
        have := (nI_eq (a := 128 * bt (cl Ls xs (20 + 4 * (w / 2) + n) / 2 ^ (8 * (w % 2))) 7) (b := 0) (by omega) (by decide)).mp (Classical.not_not.mp c_51)
        omega
      refine j_ild3 dL_beside_54 ?_
      refine j_bipush (13) dL_beside_55 rfl ?_
      refine j_irem dL_beside_57 (by decide) ?_
      refine j_top (y := nI (cl Ls xs (20 + 4 * (w / 2) + n) / 2 ^ (8 * (w % 2)) % 13)) (pk_rem (a := cl Ls xs (20 + 4 * (w / 2) + n) / 2 ^ (8 * (w % 2))) (d := 13) (Nat.lt_of_le_of_lt (Nat.div_le_self _ _) (by have := cl_lt (Ls := Ls) (xs := xs) (i := 20 + 4 * (w / 2) + n) (by omega); omega)) (by decide) (by decide)) ?_
      refine j_goto 66 dL_beside_58 (by decide) ?_
      refine j_xiret dL_beside_66 rfl ?_
      exact ⟨by rw [bsF, if_neg q_24, if_neg q_36, if_pos q_51], rfl⟩
    have q_36 : w = 4 := (nI_eq (a := w) (b := 4) (by omega) (by decide)).mp (Classical.not_not.mp c_36)
    refine j_ild3 dL_beside_39 ?_
    refine j_bipush (100) dL_beside_40 rfl ?_
    refine j_irem dL_beside_42 (by decide) ?_
    refine j_top (y := nI (cl Ls xs (20 + 4 * (w / 2) + n) / 2 ^ (8 * (w % 2)) % 100)) (pk_rem (a := cl Ls xs (20 + 4 * (w / 2) + n) / 2 ^ (8 * (w % 2))) (d := 100) (Nat.lt_of_le_of_lt (Nat.div_le_self _ _) (by have := cl_lt (Ls := Ls) (xs := xs) (i := 20 + 4 * (w / 2) + n) (by omega); omega)) (by decide) (by decide)) ?_
    refine j_goto 66 dL_beside_43 (by decide) ?_
    refine j_xiret dL_beside_66 rfl ?_
    exact ⟨by rw [bsF, if_neg q_24, if_pos q_36], rfl⟩
  have q_24 : w < 2 := Nat.not_le.mp (fun z => c_24 ((nI_leI (a := 2) (b := w) (by decide) (by omega)).mpr z))
  refine j_ild3 dL_beside_27 ?_
  refine j_bipush (10) dL_beside_28 rfl ?_
  refine j_irem dL_beside_30 (by decide) ?_
  refine j_top (y := nI (cl Ls xs (20 + 4 * (w / 2) + n) / 2 ^ (8 * (w % 2)) % 10)) (pk_rem (a := cl Ls xs (20 + 4 * (w / 2) + n) / 2 ^ (8 * (w % 2))) (d := 10) (Nat.lt_of_le_of_lt (Nat.div_le_self _ _) (by have := cl_lt (Ls := Ls) (xs := xs) (i := 20 + 4 * (w / 2) + n) (by omega); omega)) (by decide) (by decide)) ?_
  refine j_goto 66 dL_beside_31 (by decide) ?_
  refine j_xiret dL_beside_66 rfl ?_
  exact ⟨by rw [bsF, if_pos q_24], rfl⟩

set_option maxRecDepth 20000 in
theorem s_L_of {A B : Nat} (hf : DF (dq A B)) : Rt a mL_of 0 [.long (lowV A B 0), .long (lowV A B 1)] S (some (.double (dq A B))) S := by
  show J _ _ _ _ 0 [_, .null, _, .null] [] _
  refine j_lld0 dL_of_0 ?_
  refine j_l2d dL_of_1 ?_
  refine j_lld2 dL_of_2 ?_
  refine j_l2d dL_of_3 ?_
  refine j_ddiv dL_of_4 (hf) ?_
  refine j_topD (y := dq A B) rfl ?_
  refine j_dret dL_of_5 rfl ?_
  exact ⟨rfl, rfl⟩

end Helpers
