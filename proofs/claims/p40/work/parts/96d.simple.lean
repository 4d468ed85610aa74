/-! constructors that make arrays alone -/
theorem k_putx {G : KG} {mi : MI} {d pc : Nat} {L st : List Value} {kc ks : Nat} {X Z : va_W} {q0 ci k idx : Nat} {T : u_T} {v : Value} {fs : List Value} (fs2 : List Value) {ty : FieldType} (hd : decode mi.2.1 pc = .ok (.putfield idx, 3)) (hT : CLk ci T) (hl2 : Cond.fieldLink mi.1.cls idx (T k).1 (T k).2.1 (T k).2.2.1 ∈ TT) (hk : k < nf ci) (hlen : fs.length = nf ci) (hown : (T k).1 = mi.1.cls) (hname : mi.1.name = "<init>") (e1 : parseFieldDescriptor (T k).2.2.1 = some ty) (hn : narrow ty v = v) (hfit : fits ty v = true) (hf : fs.set k v = fs2) (kk : JK G mi d (pc + 3) L st (X ++ (q0, .inr (ci, fs2)) :: Z) kc ks) : JK G mi d pc L (v :: .ref q0 :: st) (X ++ (q0, .inr (ci, fs)) :: Z) kc ks := k_put hd hT hl2 hk hlen hown hname e1 hn hfit (fun fs' e _ => by rw [e, hf]; exact kk)
theorem k_Z {G : KG} {mi : MI} {d pc : Nat} {L st : List Value} {kc ks : Nat} {X Z Z2 : va_W} {o1 : Nat × va_E} (h : Z = Z2) (kk : JK G mi d pc L st (X ++ o1 :: Z2) kc ks) : JK G mi d pc L st (X ++ o1 :: Z) kc ks := h ▸ kk
def MF0 (r : Nat → Nat) : List Value := [.ref (r 0), .int 0, .ref (r 1), .int 0, .int 0, .int 0]
def MZ0 (D : DD) (r : Nat → Nat) : va_W := [(r 0, .inl (D.2 0, 50, .inl (fun _ => 0))), (r 1, .inl (D.2 0, 24, .inl (fun _ => 0)))]
set_option maxRecDepth 40000 in
theorem b_X0_init (D : DD) (F : Nat → Prop) (z : Nat → Nat) (X : va_W) (h0 : Nat) : JK (gk D F z 2 74 fun ws => ∃ r, ws = X ++ (h0, .inr (0, MF0 r)) :: MZ0 D r) mX0_init 2 0 [.ref h0] [] (X ++ [(h0, .inr (0, [.null, .int 0, .null, .int 0, .int 0, .int 0]))]) 0 0 := by
  refine k_ald0 dX0_init_0 ?_
  refine k_objInit dX0_init_1 (TT_at 194 (by decide +kernel) rfl) ob_i ob_c (Nat.le_of_ble_eq_true rfl) (by decide) ?_
  refine k_ald0 dX0_init_4 ?_
  refine k_bipush (50) dX0_init_5 rfl ?_
  refine k_new_int 50 dX0_init_7 rfl (by decide) (by decide) (Nat.le_of_ble_eq_true rfl) (Nat.le_of_ble_eq_true rfl) (fun q0 => ?_)
  refine k_put (k := 0) dX0_init_9 cX0_ok f0_11 (by decide) rfl rfl rfl rfl rfl rfl (fun fs0 e0 l0 => ?_)
  refine k_gen (fun Z0 hZ0 => ?_)
  refine k_ald0 dX0_init_12 ?_
  refine k_bipush (24) dX0_init_13 rfl ?_
  refine k_new_int 24 dX0_init_15 rfl (by decide) (by decide) (Nat.le_of_ble_eq_true rfl) (Nat.le_of_ble_eq_true rfl) (fun q1 => ?_)
  refine k_put (k := 2) dX0_init_17 cX0_ok f0_15 (by decide) l0 rfl rfl rfl rfl rfl (fun fs1 e1 l1 => ?_)
  refine k_gen (fun Z1 hZ1 => ?_)
  refine k_ret dX0_init_20 rfl (Nat.le_of_ble_eq_true rfl) (Nat.le_of_ble_eq_true rfl) ⟨fun i => [q0, q1].getD i 0, ?_⟩
  subst hZ1
  subst e1
  subst hZ0
  subst e0
  rfl

def MF1 (r : Nat → Nat) : List Value := [.int 0, .ref (r 0), .ref (r 1), .int (-1), .ref (r 2), .ref (r 3), .ref (r 4), .int 0, .int (-1)]
def MZ1 (D : DD) (r : Nat → Nat) : va_W := [(r 0, .inl (D.2 0, 8, .inl (fun _ => 0))), (r 1, .inl (D.2 0, 6, .inl (fun _ => 0))), (r 2, .inl (D.2 0, 8, .inl (fun _ => 0))), (r 3, .inl (D.2 0, 8, .inl (fun _ => 0))), (r 4, .inl (D.2 0, 6, .inl (fun _ => 0)))]
set_option maxRecDepth 40000 in
theorem b_X1_init (D : DD) (F : Nat → Prop) (z : Nat → Nat) (X : va_W) (h0 : Nat) : JK (gk D F z 5 36 fun ws => ∃ r, ws = X ++ (h0, .inr (1, MF1 r)) :: MZ1 D r) mX1_init 2 0 [.ref h0] [] (X ++ [(h0, .inr (1, [.int 0, .null, .null, .int 0, .null, .null, .null, .int 0, .int 0]))]) 0 0 := by
  refine k_ald0 dX1_init_0 ?_
  refine k_objInit dX1_init_1 (TT_at 157 (by decide +kernel) rfl) ob_i ob_c (Nat.le_of_ble_eq_true rfl) (by decide) ?_
  refine k_ald0 dX1_init_4 ?_
  refine k_bipush (8) dX1_init_5 rfl ?_
  refine k_new_int 8 dX1_init_7 rfl (by decide) (by decide) (Nat.le_of_ble_eq_true rfl) (Nat.le_of_ble_eq_true rfl) (fun q0 => ?_)
  refine k_put (k := 1) dX1_init_9 cX1_ok f1_9 (by decide) rfl rfl rfl rfl rfl rfl (fun fs0 e0 l0 => ?_)
  refine k_gen (fun Z0 hZ0 => ?_)
  refine k_ald0 dX1_init_12 ?_
  refine k_bipush (6) dX1_init_13 rfl ?_
  refine k_new_int 6 dX1_init_15 rfl (by decide) (by decide) (Nat.le_of_ble_eq_true rfl) (Nat.le_of_ble_eq_true rfl) (fun q1 => ?_)
  refine k_put (k := 2) dX1_init_17 cX1_ok f1_15 (by decide) l0 rfl rfl rfl rfl rfl (fun fs1 e1 l1 => ?_)
  refine k_gen (fun Z1 hZ1 => ?_)
  refine k_ald0 dX1_init_20 ?_
  refine k_iconst (-1) dX1_init_21 rfl ?_
  refine k_put (k := 3) dX1_init_22 cX1_ok f1_18 (by decide) l1 rfl rfl rfl rfl rfl (fun fs2 e2 l2 => ?_)
  refine k_ald0 dX1_init_25 ?_
  refine k_bipush (8) dX1_init_26 rfl ?_
  refine k_new_int 8 dX1_init_28 rfl (by decide) (by decide) (Nat.le_of_ble_eq_true rfl) (Nat.le_of_ble_eq_true rfl) (fun q2 => ?_)
  refine k_put (k := 4) dX1_init_30 cX1_ok f1_22 (by decide) l2 rfl rfl rfl rfl rfl (fun fs3 e3 l3 => ?_)
  refine k_gen (fun Z2 hZ2 => ?_)
  refine k_ald0 dX1_init_33 ?_
  refine k_bipush (8) dX1_init_34 rfl ?_
  refine k_new_int 8 dX1_init_36 rfl (by decide) (by decide) (Nat.le_of_ble_eq_true rfl) (Nat.le_of_ble_eq_true rfl) (fun q3 => ?_)
  refine k_put (k := 5) dX1_init_38 cX1_ok f1_25 (by decide) l3 rfl rfl rfl rfl rfl (fun fs4 e4 l4 => ?_)
  refine k_gen (fun Z3 hZ3 => ?_)
  refine k_ald0 dX1_init_41 ?_
  refine k_bipush (6) dX1_init_42 rfl ?_
  refine k_new_int 6 dX1_init_44 rfl (by decide) (by decide) (Nat.le_of_ble_eq_true rfl) (Nat.le_of_ble_eq_true rfl) (fun q4 => ?_)
  refine k_put (k := 6) dX1_init_46 cX1_ok f1_28 (by decide) l4 rfl rfl rfl rfl rfl (fun fs5 e5 l5 => ?_)
  refine k_gen (fun Z4 hZ4 => ?_)
  refine k_ald0 dX1_init_49 ?_
  refine k_iconst (-1) dX1_init_50 rfl ?_
  refine k_put (k := 8) dX1_init_51 cX1_ok f1_31 (by decide) l5 rfl rfl rfl rfl rfl (fun fs6 e6 l6 => ?_)
  refine k_ret dX1_init_54 rfl (Nat.le_of_ble_eq_true rfl) (Nat.le_of_ble_eq_true rfl) ⟨fun i => [q0, q1, q2, q3, q4].getD i 0, ?_⟩
  subst e6
  subst hZ4
  subst e5
  subst hZ3
  subst e4
  subst hZ2
  subst e3
  subst e2
  subst hZ1
  subst e1
  subst hZ0
  subst e0
  rfl

def MF2 (r : Nat → Nat) : List Value := [.ref (r 0), .int 0, .ref (r 1), .int 0, .ref (r 2), .int 0, .int 0, .int 0, .ref (r 3), .int 0, .int 0, .int 0, .int 0, .int 0, .int 0]
def MZ2 (D : DD) (r : Nat → Nat) : va_W := [(r 0, .inl (D.2 0, 128, .inl (fun _ => 0))), (r 1, .inl (D.2 0, 128, .inl (fun _ => 0))), (r 2, .inl (D.2 0, 120, .inl (fun _ => 0))), (r 3, .inl (D.2 0, 128, .inl (fun _ => 0)))]
set_option maxRecDepth 40000 in
theorem b_X2_init (D : DD) (F : Nat → Prop) (z : Nat → Nat) (X : va_W) (h0 : Nat) : JK (gk D F z 4 504 fun ws => ∃ r, ws = X ++ (h0, .inr (2, MF2 r)) :: MZ2 D r) mX2_init 2 0 [.ref h0] [] (X ++ [(h0, .inr (2, [.null, .int 0, .null, .int 0, .null, .int 0, .int 0, .int 0, .null, .int 0, .int 0, .int 0, .int 0, .int 0, .int 0]))]) 0 0 := by
  refine k_ald0 dX2_init_0 ?_
  refine k_objInit dX2_init_1 (TT_at 75 (by decide +kernel) rfl) ob_i ob_c (Nat.le_of_ble_eq_true rfl) (by decide) ?_
  refine k_ald0 dX2_init_4 ?_
  refine k_sipush (128) dX2_init_5 rfl ?_
  refine k_new_int 128 dX2_init_8 rfl (by decide) (by decide) (Nat.le_of_ble_eq_true rfl) (Nat.le_of_ble_eq_true rfl) (fun q0 => ?_)
  refine k_put (k := 0) dX2_init_10 cX2_ok f2_9 (by decide) rfl rfl rfl rfl rfl rfl (fun fs0 e0 l0 => ?_)
  refine k_gen (fun Z0 hZ0 => ?_)
  refine k_ald0 dX2_init_13 ?_
  refine k_sipush (128) dX2_init_14 rfl ?_
  refine k_new_int 128 dX2_init_17 rfl (by decide) (by decide) (Nat.le_of_ble_eq_true rfl) (Nat.le_of_ble_eq_true rfl) (fun q1 => ?_)
  refine k_put (k := 2) dX2_init_19 cX2_ok f2_15 (by decide) l0 rfl rfl rfl rfl rfl (fun fs1 e1 l1 => ?_)
  refine k_gen (fun Z1 hZ1 => ?_)
  refine k_ald0 dX2_init_22 ?_
  refine k_bipush (120) dX2_init_23 rfl ?_
  refine k_new_int 120 dX2_init_25 rfl (by decide) (by decide) (Nat.le_of_ble_eq_true rfl) (Nat.le_of_ble_eq_true rfl) (fun q2 => ?_)
  refine k_put (k := 4) dX2_init_27 cX2_ok f2_18 (by decide) l1 rfl rfl rfl rfl rfl (fun fs2 e2 l2 => ?_)
  refine k_gen (fun Z2 hZ2 => ?_)
  refine k_ald0 dX2_init_30 ?_
  refine k_sipush (128) dX2_init_31 rfl ?_
  refine k_new_int 128 dX2_init_34 rfl (by decide) (by decide) (Nat.le_of_ble_eq_true rfl) (Nat.le_of_ble_eq_true rfl) (fun q3 => ?_)
  refine k_put (k := 8) dX2_init_36 cX2_ok f2_21 (by decide) l2 rfl rfl rfl rfl rfl (fun fs3 e3 l3 => ?_)
  refine k_gen (fun Z3 hZ3 => ?_)
  refine k_ret dX2_init_39 rfl (Nat.le_of_ble_eq_true rfl) (Nat.le_of_ble_eq_true rfl) ⟨fun i => [q0, q1, q2, q3].getD i 0, ?_⟩
  subst hZ3
  subst e3
  subst hZ2
  subst e2
  subst hZ1
  subst e1
  subst hZ0
  subst e0
  rfl

def MF3 (r : Nat → Nat) : List Value := [.ref (r 0), .ref (r 1), .ref (r 2)]
def MZ3 (D : DD) (r : Nat → Nat) : va_W := [(r 0, .inl (D.2 0, 4, .inl (fun _ => 0))), (r 1, .inl (D.2 0, 4, .inl (fun _ => 0))), (r 2, .inl (D.2 0, 3, .inl (fun _ => 0)))]
set_option maxRecDepth 40000 in
theorem b_X3_init (D : DD) (F : Nat → Prop) (z : Nat → Nat) (X : va_W) (h0 : Nat) : JK (gk D F z 3 11 fun ws => ∃ r, ws = X ++ (h0, .inr (3, MF3 r)) :: MZ3 D r) mX3_init 2 0 [.ref h0] [] (X ++ [(h0, .inr (3, [.null, .null, .null]))]) 0 0 := by
  refine k_ald0 dX3_init_0 ?_
  refine k_objInit dX3_init_1 (TT_at 139 (by decide +kernel) rfl) ob_i ob_c (Nat.le_of_ble_eq_true rfl) (by decide) ?_
  refine k_ald0 dX3_init_4 ?_
  refine k_iconst (4) dX3_init_5 rfl ?_
  refine k_new_int 4 dX3_init_6 rfl (by decide) (by decide) (Nat.le_of_ble_eq_true rfl) (Nat.le_of_ble_eq_true rfl) (fun q0 => ?_)
  refine k_put (k := 0) dX3_init_8 cX3_ok f3_9 (by decide) rfl rfl rfl rfl rfl rfl (fun fs0 e0 l0 => ?_)
  refine k_gen (fun Z0 hZ0 => ?_)
  refine k_ald0 dX3_init_11 ?_
  refine k_iconst (4) dX3_init_12 rfl ?_
  refine k_new_int 4 dX3_init_13 rfl (by decide) (by decide) (Nat.le_of_ble_eq_true rfl) (Nat.le_of_ble_eq_true rfl) (fun q1 => ?_)
  refine k_put (k := 1) dX3_init_15 cX3_ok f3_15 (by decide) l0 rfl rfl rfl rfl rfl (fun fs1 e1 l1 => ?_)
  refine k_gen (fun Z1 hZ1 => ?_)
  refine k_ald0 dX3_init_18 ?_
  refine k_iconst (3) dX3_init_19 rfl ?_
  refine k_new_int 3 dX3_init_20 rfl (by decide) (by decide) (Nat.le_of_ble_eq_true rfl) (Nat.le_of_ble_eq_true rfl) (fun q2 => ?_)
  refine k_put (k := 2) dX3_init_22 cX3_ok f3_18 (by decide) l1 rfl rfl rfl rfl rfl (fun fs2 e2 l2 => ?_)
  refine k_gen (fun Z2 hZ2 => ?_)
  refine k_ret dX3_init_25 rfl (Nat.le_of_ble_eq_true rfl) (Nat.le_of_ble_eq_true rfl) ⟨fun i => [q0, q1, q2].getD i 0, ?_⟩
  subst hZ2
  subst e2
  subst hZ1
  subst e1
  subst hZ0
  subst e0
  rfl

def MF4 (r : Nat → Nat) : List Value := [.int 0, .int 0, .int 0, .int 0, .ref (r 0)]
def MZ4 (D : DD) (r : Nat → Nat) : va_W := [(r 0, .inl (D.2 3, 60, .inr (.inl (fun _ => 0))))]
set_option maxRecDepth 40000 in
theorem b_X4_init (D : DD) (F : Nat → Prop) (z : Nat → Nat) (X : va_W) (h0 : Nat) : JK (gk D F z 1 60 fun ws => ∃ r, ws = X ++ (h0, .inr (4, MF4 r)) :: MZ4 D r) mX4_init 2 0 [.ref h0] [] (X ++ [(h0, .inr (4, [.int 0, .int 0, .int 0, .int 0, .null]))]) 0 0 := by
  refine k_ald0 dX4_init_0 ?_
  refine k_objInit dX4_init_1 (TT_at 218 (by decide +kernel) rfl) ob_i ob_c (Nat.le_of_ble_eq_true rfl) (by decide) ?_
  refine k_ald0 dX4_init_4 ?_
  refine k_bipush (60) dX4_init_5 rfl ?_
  refine k_new_long 60 dX4_init_7 rfl (by decide) (by decide) (Nat.le_of_ble_eq_true rfl) (Nat.le_of_ble_eq_true rfl) (fun q0 => ?_)
  refine k_put (k := 4) dX4_init_9 cX4_ok f4_9 (by decide) rfl rfl rfl rfl rfl rfl (fun fs0 e0 l0 => ?_)
  refine k_gen (fun Z0 hZ0 => ?_)
  refine k_ret dX4_init_12 rfl (Nat.le_of_ble_eq_true rfl) (Nat.le_of_ble_eq_true rfl) ⟨fun i => [q0].getD i 0, ?_⟩
  subst hZ0
  subst e0
  rfl

