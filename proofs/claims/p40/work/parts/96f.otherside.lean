/-! the constructor of OtherSide -/
def MF7 (q : Nat → Nat) : List Value := [.ref (q 0), .ref (q 1), .ref (q 2), .ref (q 3), .ref (q 4), .ref (q 5), .ref (q 6), .ref (q 7), .int 0]
def shE7 (D : DD) (s : Nat → Nat) (e : Nat → Nat → Nat) : Nat → va_W
  | 0 => []
  | i + 1 => shE7 D s e i ++ (s i, .inr (4, MF4 (e i))) :: MZ4 D (e i)
def shF7 (s : Nat → Nat) : Nat → Nat → Option Nat
  | 0 => fun _ => none
  | i + 1 => va_up (shF7 s i) i (some (s i))
def MZ7 (D : DD) (q r6 r2 r5 r3 r1 r0 s : Nat → Nat) (e : Nat → Nat → Nat) : va_W := (((((([] ++ (q 0, .inr (6, MF6 r6)) :: MZ6 D r6) ++ (q 1, .inr (2, MF2 r2)) :: MZ2 D r2) ++ (q 2, .inr (5, MF5 r5)) :: MZ5 D r5) ++ (q 3, .inr (3, MF3 r3)) :: MZ3 D r3) ++ (q 4, .inr (1, MF1 r1)) :: MZ1 D r1) ++ (q 5, .inr (0, MF0 r0)) :: MZ0 D r0) ++ (q 6, .inl (D.2 4, 6, .inr (.inr (.inr (.inr (shF7 s 6)))))) :: ((q 7, .inl (D.2 0, 120, .inl (fun _ => 0))) :: shE7 D s e 6)
set_option maxRecDepth 40000 in
theorem sh_step {G : KG} {kc ks h0 qs i : Nat} {X Y Z : va_W} {fs : List Value} {f : Nat → Option Nat} (hi : i < 6) (hfs : fs[6]? = some (.ref qs)) (hk : kc + 1 + 1 ≤ G.2.2.2.1) (hn : ks + 5 + 60 ≤ G.2.2.2.2.1) (kk : ∀ (q : Nat) (e : Nat → Nat), JK G mX7_init 3 89 [.ref h0, .int (nI (i + 1))] [] (X ++ (h0, .inr (7, fs)) :: (Z ++ (qs, .inl (G.1.2 4, 6, .inr (.inr (.inr (.inr (va_up f i (some q))))))) :: (Y ++ (q, .inr (4, MF4 e)) :: MZ4 G.1 e))) (kc + 1 + 1) (ks + 5 + 60)) : JK G mX7_init 3 89 [.ref h0, .int (nI i)] [] (X ++ (h0, .inr (7, fs)) :: (Z ++ (qs, .inl (G.1.2 4, 6, .inr (.inr (.inr (.inr f))))) :: Y)) kc ks := by
  refine k_ild1 dX7_init_89 ?_
  refine k_bipush (6) dX7_init_90 rfl ?_
  refine k_icmpge 114 dX7_init_92 (by decide) (fun c_92 => absurd ((nI_leI (a := 6) (b := i) (by decide) (by omega)).mp c_92) (by omega)) (fun c_92 => ?_)
  refine k_ald0 dX7_init_95 ?_
  refine k_get (k := 6) dX7_init_96 cX7_ok f7_55 (by decide) hfs ?_
  refine k_ild1 dX7_init_99 ?_
  refine k_new (ci := 4) [.int 0, .int 0, .int 0, .int 0, .null] tyX4 dX7_init_100 rfl wX4 tyX4_ok (TT_at 212 (by decide +kernel) rfl) (TT_at 214 (by decide +kernel) rfl) (TT_at 8 (by decide +kernel) rfl) (fun j hj => match j, hj with | 0, _ => rfl | 1, _ => rfl | 2, _ => rfl | 3, _ => rfl | 4, _ => rfl | k + 5, h => absurd h (by omega)) (by omega) (by omega) (fun q => ?_)
  refine k_dup dX7_init_103 rfl ?_
  refine k_call (K := 1) (N := 60) dX7_init_104 (Or.inr ⟨_, l7_63⟩) kX4_init iX4_init rfl rfl (by decide) (Nat.le_of_ble_eq_true rfl) (by decide) (by omega) (by omega) (b_X4_init _ _ _ _ q) (fun w1 hq => ?_)
  obtain ⟨e, rfl⟩ := hq
  rw [ap_r, List.append_assoc, List.cons_append]
  refine k_astq i dX7_init_107 rfl hi (by decide) ?_
  refine k_iinc1 (nI (i + 1)) dX7_init_108 (nI_1 i) rfl (by decide) ?_
  refine k_goto 89 dX7_init_111 (by decide) ?_
  exact kk q e

set_option maxHeartbeats 4000000 in
set_option maxRecDepth 40000 in
theorem b_X7_init (D : DD) (F : Nat → Prop) (z : Nat → Nat) (X : va_W) (h0 : Nat) : JK (gk D F z 60 1476 (fun ws => ∃ (q r6 r2 r5 r3 r1 r0 s : Nat → Nat) (e : Nat → Nat → Nat), ws = X ++ (h0, .inr (7, MF7 q)) :: MZ7 D q r6 r2 r5 r3 r1 r0 s e)) mX7_init 3 0 [.ref h0, .null] [] (X ++ [(h0, .inr (7, [.null, .null, .null, .null, .null, .null, .null, .null, .int 0]))]) 0 0 := by
  refine k_ald0 dX7_init_0 ?_
  refine k_objInit dX7_init_1 (TT_at 18 (by decide +kernel) rfl) ob_i ob_c (Nat.le_of_ble_eq_true rfl) (by decide) ?_
  refine k_ald0 dX7_init_4 ?_
  refine k_new (ci := 6) [.null, .int 0, .null, .null, .null, .null, .int 0, .int 0, .int 0] tyX6 dX7_init_5 rfl wX6 tyX6_ok (TT_at 21 (by decide +kernel) rfl) (TT_at 22 (by decide +kernel) rfl) (TT_at 2 (by decide +kernel) rfl) (fun j hj => match j, hj with | 0, _ => rfl | 1, _ => rfl | 2, _ => rfl | 3, _ => rfl | 4, _ => rfl | 5, _ => rfl | 6, _ => rfl | 7, _ => rfl | 8, _ => rfl | k + 9, h => absurd h (by omega)) (Nat.le_of_ble_eq_true rfl) (Nat.le_of_ble_eq_true rfl) (fun q0 => ?_)
  refine k_dup dX7_init_8 rfl ?_
  refine k_call (K := 17) (N := 268) dX7_init_9 (Or.inr ⟨_, l7_11⟩) kX6_init iX6_init rfl rfl (by decide) (Nat.le_of_ble_eq_true rfl) (by decide) (Nat.le_of_ble_eq_true rfl) (Nat.le_of_ble_eq_true rfl) (b_X6_init _ _ _ _ q0) (fun w1 hq => ?_)
  obtain ⟨r6, rfl⟩ := hq
  refine k_ws (ap_r _ _ _ _) ?_
  refine k_putx (k := 0) [.ref q0, .null, .null, .null, .null, .null, .null, .null, .int 0] dX7_init_12 cX7_ok f7_12 (by decide) rfl rfl rfl rfl rfl rfl rfl ?_
  refine k_ald0 dX7_init_15 ?_
  refine k_new (ci := 2) [.null, .int 0, .null, .int 0, .null, .int 0, .int 0, .int 0, .null, .int 0, .int 0, .int 0, .int 0, .int 0, .int 0] tyX2 dX7_init_16 rfl wX2 tyX2_ok (TT_at 70 (by decide +kernel) rfl) (TT_at 71 (by decide +kernel) rfl) (TT_at 3 (by decide +kernel) rfl) (fun j hj => match j, hj with | 0, _ => rfl | 1, _ => rfl | 2, _ => rfl | 3, _ => rfl | 4, _ => rfl | 5, _ => rfl | 6, _ => rfl | 7, _ => rfl | 8, _ => rfl | 9, _ => rfl | 10, _ => rfl | 11, _ => rfl | 12, _ => rfl | 13, _ => rfl | 14, _ => rfl | k + 15, h => absurd h (by omega)) (Nat.le_of_ble_eq_true rfl) (Nat.le_of_ble_eq_true rfl) (fun q1 => ?_)
  refine k_dup dX7_init_19 rfl ?_
  refine k_call (K := 4) (N := 504) dX7_init_20 (Or.inr ⟨_, l7_20⟩) kX2_init iX2_init rfl rfl (by decide) (Nat.le_of_ble_eq_true rfl) (by decide) (Nat.le_of_ble_eq_true rfl) (Nat.le_of_ble_eq_true rfl) (b_X2_init _ _ _ _ q1) (fun w1 hq => ?_)
  obtain ⟨r2, rfl⟩ := hq
  refine k_ws (ap_r _ _ _ _) ?_
  refine k_putx (k := 1) [.ref q0, .ref q1, .null, .null, .null, .null, .null, .null, .int 0] dX7_init_23 cX7_ok f7_21 (by decide) rfl rfl rfl rfl rfl rfl rfl ?_
  refine k_ald0 dX7_init_26 ?_
  refine k_new (ci := 5) [.null] tyX5 dX7_init_27 rfl wX5 tyX5_ok (TT_at 122 (by decide +kernel) rfl) (TT_at 123 (by decide +kernel) rfl) (TT_at 4 (by decide +kernel) rfl) (fun j hj => match j, hj with | 0, _ => rfl | k + 1, h => absurd h (by omega)) (Nat.le_of_ble_eq_true rfl) (Nat.le_of_ble_eq_true rfl) (fun q2 => ?_)
  refine k_dup dX7_init_30 rfl ?_
  refine k_call (K := 9) (N := 24) dX7_init_31 (Or.inr ⟨_, l7_27⟩) kX5_init iX5_init rfl rfl (by decide) (Nat.le_of_ble_eq_true rfl) (by decide) (Nat.le_of_ble_eq_true rfl) (Nat.le_of_ble_eq_true rfl) (b_X5_init _ _ _ _ q2) (fun w1 hq => ?_)
  obtain ⟨r5, rfl⟩ := hq
  refine k_ws (ap_r _ _ _ _) ?_
  refine k_putx (k := 2) [.ref q0, .ref q1, .ref q2, .null, .null, .null, .null, .null, .int 0] dX7_init_34 cX7_ok f7_28 (by decide) rfl rfl rfl rfl rfl rfl rfl ?_
  refine k_ald0 dX7_init_37 ?_
  refine k_new (ci := 3) [.null, .null, .null] tyX3 dX7_init_38 rfl wX3 tyX3_ok (TT_at 134 (by decide +kernel) rfl) (TT_at 135 (by decide +kernel) rfl) (TT_at 5 (by decide +kernel) rfl) (fun j hj => match j, hj with | 0, _ => rfl | 1, _ => rfl | 2, _ => rfl | k + 3, h => absurd h (by omega)) (Nat.le_of_ble_eq_true rfl) (Nat.le_of_ble_eq_true rfl) (fun q3 => ?_)
  refine k_dup dX7_init_41 rfl ?_
  refine k_call (K := 3) (N := 11) dX7_init_42 (Or.inr ⟨_, l7_34⟩) kX3_init iX3_init rfl rfl (by decide) (Nat.le_of_ble_eq_true rfl) (by decide) (Nat.le_of_ble_eq_true rfl) (Nat.le_of_ble_eq_true rfl) (b_X3_init _ _ _ _ q3) (fun w1 hq => ?_)
  obtain ⟨r3, rfl⟩ := hq
  refine k_ws (ap_r _ _ _ _) ?_
  refine k_putx (k := 3) [.ref q0, .ref q1, .ref q2, .ref q3, .null, .null, .null, .null, .int 0] dX7_init_45 cX7_ok f7_35 (by decide) rfl rfl rfl rfl rfl rfl rfl ?_
  refine k_ald0 dX7_init_48 ?_
  refine k_new (ci := 1) [.int 0, .null, .null, .int 0, .null, .null, .null, .int 0, .int 0] tyX1 dX7_init_49 rfl wX1 tyX1_ok (TT_at 152 (by decide +kernel) rfl) (TT_at 153 (by decide +kernel) rfl) (TT_at 6 (by decide +kernel) rfl) (fun j hj => match j, hj with | 0, _ => rfl | 1, _ => rfl | 2, _ => rfl | 3, _ => rfl | 4, _ => rfl | 5, _ => rfl | 6, _ => rfl | 7, _ => rfl | 8, _ => rfl | k + 9, h => absurd h (by omega)) (Nat.le_of_ble_eq_true rfl) (Nat.le_of_ble_eq_true rfl) (fun q4 => ?_)
  refine k_dup dX7_init_52 rfl ?_
  refine k_call (K := 5) (N := 36) dX7_init_53 (Or.inr ⟨_, l7_41⟩) kX1_init iX1_init rfl rfl (by decide) (Nat.le_of_ble_eq_true rfl) (by decide) (Nat.le_of_ble_eq_true rfl) (Nat.le_of_ble_eq_true rfl) (b_X1_init _ _ _ _ q4) (fun w1 hq => ?_)
  obtain ⟨r1, rfl⟩ := hq
  refine k_ws (ap_r _ _ _ _) ?_
  refine k_putx (k := 4) [.ref q0, .ref q1, .ref q2, .ref q3, .ref q4, .null, .null, .null, .int 0] dX7_init_56 cX7_ok f7_42 (by decide) rfl rfl rfl rfl rfl rfl rfl ?_
  refine k_ald0 dX7_init_59 ?_
  refine k_new (ci := 0) [.null, .int 0, .null, .int 0, .int 0, .int 0] tyX0 dX7_init_60 rfl wX0 tyX0_ok (TT_at 189 (by decide +kernel) rfl) (TT_at 190 (by decide +kernel) rfl) (TT_at 7 (by decide +kernel) rfl) (fun j hj => match j, hj with | 0, _ => rfl | 1, _ => rfl | 2, _ => rfl | 3, _ => rfl | 4, _ => rfl | 5, _ => rfl | k + 6, h => absurd h (by omega)) (Nat.le_of_ble_eq_true rfl) (Nat.le_of_ble_eq_true rfl) (fun q5 => ?_)
  refine k_dup dX7_init_63 rfl ?_
  refine k_call (K := 2) (N := 74) dX7_init_64 (Or.inr ⟨_, l7_48⟩) kX0_init iX0_init rfl rfl (by decide) (Nat.le_of_ble_eq_true rfl) (by decide) (Nat.le_of_ble_eq_true rfl) (Nat.le_of_ble_eq_true rfl) (b_X0_init _ _ _ _ q5) (fun w1 hq => ?_)
  obtain ⟨r0, rfl⟩ := hq
  refine k_ws (ap_r _ _ _ _) ?_
  refine k_putx (k := 5) [.ref q0, .ref q1, .ref q2, .ref q3, .ref q4, .ref q5, .null, .null, .int 0] dX7_init_67 cX7_ok f7_49 (by decide) rfl rfl rfl rfl rfl rfl rfl ?_
  refine k_ald0 dX7_init_70 ?_
  refine k_bipush (6) dX7_init_71 rfl ?_
  refine k_newq 6 dX7_init_73 (TT_at 212 (by decide +kernel) rfl) rfl (by decide) (Nat.le_of_ble_eq_true rfl) (Nat.le_of_ble_eq_true rfl) (Nat.le_of_ble_eq_true rfl) (fun q6 => ?_)
  refine k_putx (k := 6) [.ref q0, .ref q1, .ref q2, .ref q3, .ref q4, .ref q5, .ref q6, .null, .int 0] dX7_init_76 cX7_ok f7_55 (by decide) rfl rfl rfl rfl rfl rfl rfl ?_
  refine k_ald0 dX7_init_79 ?_
  refine k_bipush (120) dX7_init_80 rfl ?_
  refine k_new_int 120 dX7_init_82 rfl (by decide) (by decide) (Nat.le_of_ble_eq_true rfl) (Nat.le_of_ble_eq_true rfl) (fun q7 => ?_)
  refine k_putx (k := 7) [.ref q0, .ref q1, .ref q2, .ref q3, .ref q4, .ref q5, .ref q6, .ref q7, .int 0] dX7_init_84 cX7_ok f7_59 (by decide) rfl rfl rfl rfl rfl rfl rfl ?_
  refine k_iconst (0) dX7_init_87 rfl ?_
  refine k_ist1 dX7_init_88 rfl (by decide) ?_
  rw [List.append_assoc, List.cons_append, List.nil_append]
  refine sh_step (G := gk D F z 60 1476 _) (i := 0) (by decide) rfl (Nat.le_of_ble_eq_true rfl) (Nat.le_of_ble_eq_true rfl) (fun s0 e0 => ?_)
  refine sh_step (G := gk D F z 60 1476 _) (i := 1) (by decide) rfl (Nat.le_of_ble_eq_true rfl) (Nat.le_of_ble_eq_true rfl) (fun s1 e1 => ?_)
  refine sh_step (G := gk D F z 60 1476 _) (i := 2) (by decide) rfl (Nat.le_of_ble_eq_true rfl) (Nat.le_of_ble_eq_true rfl) (fun s2 e2 => ?_)
  refine sh_step (G := gk D F z 60 1476 _) (i := 3) (by decide) rfl (Nat.le_of_ble_eq_true rfl) (Nat.le_of_ble_eq_true rfl) (fun s3 e3 => ?_)
  refine sh_step (G := gk D F z 60 1476 _) (i := 4) (by decide) rfl (Nat.le_of_ble_eq_true rfl) (Nat.le_of_ble_eq_true rfl) (fun s4 e4 => ?_)
  refine sh_step (G := gk D F z 60 1476 _) (i := 5) (by decide) rfl (Nat.le_of_ble_eq_true rfl) (Nat.le_of_ble_eq_true rfl) (fun s5 e5 => ?_)
  refine k_ild1 dX7_init_89 ?_
  refine k_bipush (6) dX7_init_90 rfl ?_
  refine k_icmpge 114 dX7_init_92 (by decide) (fun c_92 => ?_) (fun c_92 => absurd (by decide) c_92)
  refine k_ret dX7_init_114 rfl (Nat.le_of_ble_eq_true rfl) (Nat.le_of_ble_eq_true rfl) ⟨fun i => [q0, q1, q2, q3, q4, q5, q6, q7].getD i 0, r6, r2, r5, r3, r1, r0, fun i => [s0, s1, s2, s3, s4, s5].getD i 0, fun i => [e0, e1, e2, e3, e4, e5].getD i (fun _ => 0), ?_⟩
  rfl

