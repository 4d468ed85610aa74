/-! constructors of Showings and Things -/
theorem kk_top {G : KG} {mi : MI} {d pc : Nat} {L st : List Value} {ws : va_W} {kc ks : Nat} {x y : Int32} (e : x = y) (kk : JK G mi d pc L (.int y :: st) ws kc ks) : JK G mi d pc L (.int x :: st) ws kc ks := e ▸ kk
def rrq (q : Nat) (r : Nat → Nat) : Nat → Nat := fun i => if i = 0 then q else r (i - 1)
theorem rrq_1 (q : Nat) (r : Nat → Nat) : (fun i => rrq q r (1 + i)) = r := funext fun i => by
  unfold rrq
  rw [if_neg (by omega), Nat.add_sub_cancel_left]
def MF5 (r : Nat → Nat) : List Value := [.ref (r 0)]
def MZ5 (D : DD) (r : Nat → Nat) : va_W := (r 0, ouE D 8 (fun i => r (1 + i))) :: rwL D 8 2 (fun i => r (1 + i)) (fun _ _ => 0)
set_option maxRecDepth 40000 in
theorem b_X5_init (D : DD) (F : Nat → Prop) (z : Nat → Nat) (X : va_W) (h0 : Nat) : JK (gk D F z 9 24 fun ws => ∃ r, ws = X ++ (h0, .inr (5, MF5 r)) :: MZ5 D r) mX5_init 2 0 [.ref h0] [] (X ++ [(h0, .inr (5, [.null]))]) 0 0 := by
  refine k_ald0 dX5_init_0 ?_
  refine k_objInit dX5_init_1 (TT_at 127 (by decide +kernel) rfl) ob_i ob_c (Nat.le_of_ble_eq_true rfl) (by decide) ?_
  refine k_ald0 dX5_init_4 ?_
  refine k_bipush (8) dX5_init_5 rfl ?_
  refine k_iconst (2) dX5_init_7 rfl ?_
  refine k_mna 8 2 dX5_init_8 (TT_at 128 (by decide +kernel) rfl) rfl rfl (by decide) (by decide) (by decide) (by decide) (Nat.le_of_ble_eq_true rfl) (Nat.le_of_ble_eq_true rfl) (fun q r => ?_)
  refine k_putx (k := 0) [.ref q] dX5_init_12 cX5_ok f5_11 (by decide) rfl rfl rfl rfl rfl rfl rfl ?_
  refine k_ret dX5_init_15 rfl (Nat.le_of_ble_eq_true rfl) (Nat.le_of_ble_eq_true rfl) ⟨rrq q r, ?_⟩
  unfold MF5 MZ5
  rw [rrq_1]
  rfl
theorem capN_le {w : Nat} (h : w < 12) : capN w ≤ 8 := by rcases w12 h with rfl | rfl | rfl | rfl | rfl | rfl | rfl | rfl | rfl | rfl | rfl | rfl <;> decide
def at1N (w : Nat) : Nat := [0, 0, 0, 1, 1, 9, 9, 10, 3, 10, 2, 4].getD w 0
/-- the values of WHATs below w, and of w up to number i, as they are at first -/
def gT (w i : Nat) : Nat → Nat → Int32 := fun w' i' => if (w' < w ∨ (w' = w ∧ i' < i)) ∧ i' < capN w' then nI (at1N w') else 0
def MF6 (r : Nat → Nat) : List Value := [.ref (r 0), .int 0, .ref (r 1), .ref (r 2), .ref (r 3), .ref (r 4), .int 0, .int 0, .int 0]
def MZ6 (D : DD) (r : Nat → Nat) : va_W := (r 0, ouE D 12 (fun i => r (5 + i))) :: (rwL D 12 8 (fun i => r (5 + i)) (gT 12 0) ++ [(r 1, .inl (D.2 0, 40, .inl (fun _ => 0))), (r 2, .inl (D.2 0, 40, .inl (fun _ => 0))), (r 3, .inl (D.2 0, 40, .inl (fun _ => 0))), (r 4, .inl (D.2 0, 40, .inl (fun _ => 0)))])
theorem gT_end (w : Nat) {i : Nat} (h : capN w ≤ i) : gT w i = gT (w + 1) 0 := by
  funext w' i'
  unfold gT
  by_cases c : (w' < w ∨ (w' = w ∧ i' < i)) ∧ i' < capN w'
  · rw [if_pos c, if_pos (by omega)]
  · rw [if_neg c, if_neg]
    intro z
    apply c
    refine ⟨?_, z.2⟩
    by_cases e : w' = w
    · subst e; exact Or.inr ⟨rfl, Nat.lt_of_lt_of_le z.2 h⟩
    · omega
theorem gT_other {w w' i : Nat} (h : w' ≠ w) : gT w (i + 1) w' = gT w i w' := by
  funext i'
  unfold gT
  by_cases c : (w' < w ∨ (w' = w ∧ i' < i)) ∧ i' < capN w'
  · rw [if_pos c, if_pos (by omega)]
  · rw [if_neg c, if_neg (by omega)]
theorem gT_this {w i : Nat} (h : i < capN w) : gT w (i + 1) w = upd (gT w i w) i (nI (at1N w)) := by
  funext i'
  unfold gT upd
  by_cases e : i' = i
  · subst e
    rw [if_pos ⟨Or.inr ⟨rfl, by omega⟩, h⟩]; simp
  · by_cases c : (w < w ∨ (w = w ∧ i' < i)) ∧ i' < capN w
    · rw [if_pos (by omega)]; simp [e]; omega
    · rw [if_neg (by omega)]; simp [e]; omega
theorem gT_0 : gT 0 0 = fun _ _ => 0 := by
  funext w i
  unfold gT
  rw [if_neg (by omega)]
section Th
variable {G : KG} {kc ks h0 qv : Nat} {X Y : va_W} {fs : List Value} {r : Nat → Nat}

abbrev WT (G : KG) (X : va_W) (h0 : Nat) (fs : List Value) (qv : Nat) (r : Nat → Nat) (Y : va_W) (g : Nat → Nat → Int32) : va_W := X ++ (h0, .inr (6, fs)) :: ([] ++ (qv, ouE G.1 12 r) :: (rwL G.1 12 8 r g ++ Y))
set_option maxRecDepth 40000 in
theorem th_inner (hfs : fs[0]? = some (.ref qv)) {w : Nat} (hw : w < 12) (kk : ∀ v2, JK G mX6_init 2 86 [.ref h0, .int (nI w), .int v2] [] (WT G X h0 fs qv r Y (gT (w + 1) 0)) kc ks) : ∀ (fu i : Nat), capN w - i < fu → i ≤ capN w → JK G mX6_init 2 58 [.ref h0, .int (nI w), .int (nI i)] [] (WT G X h0 fs qv r Y (gT w i)) kc ks := by
  intro fu
  induction fu with
  | zero => intro i hk; exact absurd hk (Nat.not_lt_zero _)
  | succ fu ih =>
    intro i hk hi
    have h8 := capN_le hw
    refine k_ild2 dX6_init_58 ?_
    refine k_gets (i := 0) dX6_init_59 rfl f6_29 ?_
    refine k_ild1 dX6_init_62 ?_
    refine k_tald (i := 0) (k := w) dX6_init_63 rfl rfl hw (by decide) ?_
    refine kk_top (y := nI (capN w)) (by rcases w12 hw with rfl | rfl | rfl | rfl | rfl | rfl | rfl | rfl | rfl | rfl | rfl | rfl <;> rfl) ?_
    refine k_icmpge 86 dX6_init_64 (by decide) (fun c_64 => ?_) (fun c_64 => ?_)
    · have q_64 : capN w ≤ i := (nI_leI (by omega) (by omega)).mp c_64
      rw [gT_end w q_64]
      exact kk _
    have q_64 : i < capN w := Nat.not_le.mp (fun z => c_64 ((nI_leI (by omega) (by omega)).mpr z))
    refine k_ald0 dX6_init_67 ?_
    refine k_get (k := 0) dX6_init_68 cX6_ok f6_13 (by decide) hfs ?_
    refine k_ild1 dX6_init_71 ?_
    refine k_aald (k := w) dX6_init_72 rfl hw (by decide) ?_
    refine k_ild2 dX6_init_73 ?_
    refine k_gets (i := 2) dX6_init_74 rfl f6_32 ?_
    refine k_ild1 dX6_init_77 ?_
    refine k_tald (i := 2) (k := w) dX6_init_78 rfl rfl hw (by decide) ?_
    refine kk_top (y := nI (at1N w)) (by rcases w12 hw with rfl | rfl | rfl | rfl | rfl | rfl | rfl | rfl | rfl | rfl | rfl | rfl <;> rfl) ?_
    refine k_iastR (w := w) (g' := gT w (i + 1)) i dX6_init_79 rfl (by omega) (by decide) hw (fun w' hw' => gT_other hw') (gT_this q_64) ?_
    refine k_iinc2 (nI (i + 1)) dX6_init_80 (nI_1 i) rfl (by decide) ?_
    refine k_goto 58 dX6_init_83 (by decide) ?_
    exact ih (i + 1) (by omega) (by omega)
set_option maxRecDepth 40000 in
theorem th_outer (hfs : fs[0]? = some (.ref qv)) (kk : ∀ v1 v2, JK G mX6_init 2 92 [.ref h0, .int v1, v2] [] (WT G X h0 fs qv r Y (gT 12 0)) kc ks) : ∀ (fu w : Nat) (v2 : Value), 12 - w < fu → w ≤ 12 → JK G mX6_init 2 50 [.ref h0, .int (nI w), v2] [] (WT G X h0 fs qv r Y (gT w 0)) kc ks := by
  intro fu
  induction fu with
  | zero => intro w v2 hk; exact absurd hk (Nat.not_lt_zero _)
  | succ fu ih =>
    intro w v2 hk hw
    refine k_ild1 dX6_init_50 ?_
    refine k_bipush (12) dX6_init_51 rfl ?_
    refine k_icmpge 92 dX6_init_53 (by decide) (fun c_53 => ?_) (fun c_53 => ?_)
    · have q_53 : 12 ≤ w := (nI_leI (a := 12) (b := w) (by decide) (by omega)).mp c_53
      have e : w = 12 := by omega
      subst e
      exact kk _ _
    have q_53 : w < 12 := Nat.not_le.mp (fun z => c_53 ((nI_leI (a := 12) (b := w) (by decide) (by omega)).mpr z))
    refine k_iconst (0) dX6_init_56 rfl ?_
    refine k_ist2 dX6_init_57 rfl (by decide) ?_
    refine th_inner hfs q_53 (fun v2 => ?_) (capN w + 1) 0 (by omega) (Nat.zero_le _)
    refine k_iinc1 (nI (w + 1)) dX6_init_86 (nI_1 w) rfl (by decide) ?_
    refine k_goto 50 dX6_init_89 (by decide) ?_
    exact ih (w + 1) _ (by omega) (by omega)
end Th
set_option maxRecDepth 40000 in
theorem b_X6_init (D : DD) (F : Nat → Prop) (z : Nat → Nat) (X : va_W) (h0 : Nat) : JK (gk D F z 17 268 fun ws => ∃ r, ws = X ++ (h0, .inr (6, MF6 r)) :: MZ6 D r) mX6_init 2 0 [.ref h0, .null, .null] [] (X ++ [(h0, .inr (6, [.null, .int 0, .null, .null, .null, .null, .int 0, .int 0, .int 0]))]) 0 0 := by
  refine k_ald0 dX6_init_0 ?_
  refine k_objInit dX6_init_1 (TT_at 26 (by decide +kernel) rfl) ob_i ob_c (Nat.le_of_ble_eq_true rfl) (by decide) ?_
  refine k_ald0 dX6_init_4 ?_
  refine k_bipush (12) dX6_init_5 rfl ?_
  refine k_bipush (8) dX6_init_7 rfl ?_
  refine k_mna 12 8 dX6_init_9 (TT_at 27 (by decide +kernel) rfl) rfl rfl (by decide) (by decide) (by decide) (by decide) (Nat.le_of_ble_eq_true rfl) (Nat.le_of_ble_eq_true rfl) (fun q r => ?_)
  refine k_putx (k := 0) [.ref q, .int 0, .null, .null, .null, .null, .int 0, .int 0, .int 0] dX6_init_13 cX6_ok f6_13 (by decide) rfl rfl rfl rfl rfl rfl rfl ?_
  refine k_ald0 dX6_init_16 ?_
  refine k_bipush (40) dX6_init_17 rfl ?_
  refine k_new_int 40 dX6_init_19 rfl (by decide) (by decide) (Nat.le_of_ble_eq_true rfl) (Nat.le_of_ble_eq_true rfl) (fun q1 => ?_)
  refine k_putx (k := 2) [.ref q, .int 0, .ref q1, .null, .null, .null, .int 0, .int 0, .int 0] dX6_init_21 cX6_ok f6_16 (by decide) rfl rfl rfl rfl rfl rfl rfl ?_
  refine k_ald0 dX6_init_24 ?_
  refine k_bipush (40) dX6_init_25 rfl ?_
  refine k_new_int 40 dX6_init_27 rfl (by decide) (by decide) (Nat.le_of_ble_eq_true rfl) (Nat.le_of_ble_eq_true rfl) (fun q2 => ?_)
  refine k_putx (k := 3) [.ref q, .int 0, .ref q1, .ref q2, .null, .null, .int 0, .int 0, .int 0] dX6_init_29 cX6_ok f6_20 (by decide) rfl rfl rfl rfl rfl rfl rfl ?_
  refine k_ald0 dX6_init_32 ?_
  refine k_bipush (40) dX6_init_33 rfl ?_
  refine k_new_int 40 dX6_init_35 rfl (by decide) (by decide) (Nat.le_of_ble_eq_true rfl) (Nat.le_of_ble_eq_true rfl) (fun q3 => ?_)
  refine k_putx (k := 4) [.ref q, .int 0, .ref q1, .ref q2, .ref q3, .null, .int 0, .int 0, .int 0] dX6_init_37 cX6_ok f6_23 (by decide) rfl rfl rfl rfl rfl rfl rfl ?_
  refine k_ald0 dX6_init_40 ?_
  refine k_bipush (40) dX6_init_41 rfl ?_
  refine k_new_int 40 dX6_init_43 rfl (by decide) (by decide) (Nat.le_of_ble_eq_true rfl) (Nat.le_of_ble_eq_true rfl) (fun q4 => ?_)
  refine k_putx (k := 5) [.ref q, .int 0, .ref q1, .ref q2, .ref q3, .ref q4, .int 0, .int 0, .int 0] dX6_init_45 cX6_ok f6_26 (by decide) rfl rfl rfl rfl rfl rfl rfl ?_
  refine k_iconst (0) dX6_init_48 rfl ?_
  refine k_ist1 dX6_init_49 rfl (by decide) ?_
  refine k_ws (ws' := WT (gk D F z 17 268 fun ws => ∃ r, ws = X ++ (h0, .inr (6, MF6 r)) :: MZ6 D r) X h0 [.ref q, .int 0, .ref q1, .ref q2, .ref q3, .ref q4, .int 0, .int 0, .int 0] q r [(q1, .inl (D.2 0, 40, .inl (fun _ => 0))), (q2, .inl (D.2 0, 40, .inl (fun _ => 0))), (q3, .inl (D.2 0, 40, .inl (fun _ => 0))), (q4, .inl (D.2 0, 40, .inl (fun _ => 0)))] (gT 0 0)) (by rw [gT_0]; simp [WT, gk]) ?_
  refine th_outer rfl (fun v1 v2 => ?_) 13 0 _ (by omega) (by omega)
  refine k_ret dX6_init_92 rfl (Nat.le_of_ble_eq_true rfl) (Nat.le_of_ble_eq_true rfl) ⟨fun i => if 5 ≤ i then r (i - 5) else [q, q1, q2, q3, q4].getD i 0, ?_⟩
  have e : (fun i => (fun i => if 5 ≤ i then r (i - 5) else [q, q1, q2, q3, q4].getD i 0) (5 + i)) = r := funext fun i => by
    show (if 5 ≤ 5 + i then r (5 + i - 5) else _) = r i
    rw [if_pos (by omega), Nat.add_sub_cancel_left]
  unfold MF6 MZ6
  rw [e]
  rfl

