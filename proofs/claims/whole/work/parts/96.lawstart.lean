/-! the law, from its entry -/
section AstK
variable {G : KG} {mi : MI} {d : Nat} {pc : Nat} {L st : List Value} {ws : va_W} {kc ks : Nat}

theorem k_ast1 {v0 : Value} {w : Value} {x : Nat} (hd : decode mi.2.1 pc = .ok (.astore_n 1, 1)) (hc : v0.category = 1) (hn : 1 < mi.2.2.1) (k : JK G mi d (pc + 1) (v0 :: .ref x :: L) (st) ws kc ks) : JK G mi d (pc) (v0 :: w :: L) (.ref x :: st) ws kc ks := by
  intro p l e R s m args below meth c H locs ls C hl hP hD hS
  exact lv_astore_n (i := 1) C.1 C.2.1 hd rfl hl hn rfl (fun ls' hl' => k p l e R s m args below meth c H locs ls' C (lx_of1 (L := v0 :: w :: L) (i := 1) (x := .ref x) (fun w _ q => by cases q; exact hc) hl') hP hD hS)
theorem k_ast2 {v0 v1 : Value} {w : Value} {x : Nat} (hd : decode mi.2.1 pc = .ok (.astore_n 2, 1)) (hc : v1.category = 1) (hn : 2 < mi.2.2.1) (k : JK G mi d (pc + 1) (v0 :: v1 :: .ref x :: L) (st) ws kc ks) : JK G mi d (pc) (v0 :: v1 :: w :: L) (.ref x :: st) ws kc ks := by
  intro p l e R s m args below meth c H locs ls C hl hP hD hS
  exact lv_astore_n (i := 2) C.1 C.2.1 hd rfl hl hn rfl (fun ls' hl' => k p l e R s m args below meth c H locs ls' C (lx_of1 (L := v0 :: v1 :: w :: L) (i := 2) (x := .ref x) (fun w _ q => by cases q; exact hc) hl') hP hD hS)
end AstK
abbrev lwK (D : DD) (F : Nat → Prop) (z : Nat → Nat) (b L : Nat) (xs : Nat → Int32) : KG := (D, F, z, 600000, 7302250, (fun s => va_X b L xs s s.heap ∧ b < s.heap.size ∧ ∀ q, F q → s.heap.size ≤ q), fun below args s => lw_Z below args s)
theorem law_16 {a : Nat → Nat} {b L : Nat} {xs : Nat → Int32} (hL : L ≤ 3072) : J a mL_law 100 (lwG a b L xs) 16 [.ref b, .ref (a 0), .ref (a 61), .null] [] S00 := by
  refine j_iconst (0) dL_law_16 rfl ?_
  refine j_ist3 dL_law_17 rfl (by decide) ?_
  exact law_loop hL (L + 7) 0 S00 (by omega) (by omega) inv_0
theorem law_toJ {D : DD} {F : Nat → Prop} {z : Nat → Nat} {b L : Nat} {xs : Nat → Int32} (hA hM : Nat) (q r6 r2 r5 r3 r1 r0 s : Nat → Nat) (e : Nat → Nat → Nat) (r8 : Nat → Nat) {kc ks : Nat} (hL : L ≤ 3072) (hk : kc ≤ 600000) (hn : ks ≤ 7302250) : JK (lwK D F z b L xs) mL_law 100 16 [.ref b, .ref hA, .ref hM, .null] [] (wsB D hA hM q r6 r2 r5 r3 r1 r0 s e r8) kc ks := by
  intro p l ev R s1 m args below meth c H locs ls C hl hP hD hS
  have hE : va_X b L xs s1 s1.heap ∧ b < s1.heap.size ∧ ∀ q, F q → s1.heap.size ≤ q := C.2.2.2.2.2.2.2.2.2.2.2.2.2.2
  have hr := C.2.2.2.2.2.2.2.1
  have hSt : StatK F z s1 s1.heap := C.2.2.2.2.2.2.2.2.2.2.1
  refine va_forget (fun x hx => hE.2.2 _ (hS.2.2 x hx)) ?_
  refine W.widen (k := 600000) (n := 7302250) hk hn ?_
  have hI := born_inj (z := z) hD
  have hF : ∀ x, AA (aF hA hM q r6 r2 r5 r3 r1 r0 s e r8 z) x → F x := fun x hx => by
    obtain ⟨j, hj, rfl⟩ := hx
    exact born_F (z := z) hD hj
  have hz : ∀ i, aF hA hM q r6 r2 r5 r3 r1 r0 s e r8 z (200 + i) = z i := fun i => by
    unfold aF
    rw [if_neg (by omega), Nat.add_sub_cancel_left]
  have hJ : J (aF hA hM q r6 r2 r5 r3 r1 r0 s e r8 z) mL_law 100 (lwG (aF hA hM q r6 r2 r5 r3 r1 r0 s e r8 z) b L xs) 16 [.ref b, .ref hA, .ref hM, .null] [] S00 := law_16 hL
  refine hJ p l ev R s1 m args below meth c D H [] ls ⟨C.1, C.2.1, C.2.2.1, C.2.2.2.1, C.2.2.2.2.1, C.2.2.2.2.2.1, C.2.2.2.2.2.2.1, hr, C.2.2.2.2.2.2.2.2.1, hI, fun i Cn n Ls hzi => ?_, C.2.2.2.2.2.2.2.2.2.2.2.1, hE.1, hE.2.1, fun j hj => hE.2.2 _ (born_F (z := z) hD hj)⟩ hl (born_P hP) ⟨hS.1, fun q h1 h2 => hS.2.1 q h1 (fun h3 => absurd (hE.2.2 q h3) (Nat.not_le.mpr h1)), fun x hx => by cases hx⟩
  rw [hz]
  exact ⟨(hSt i Cn n Ls hzi).1.narrow hF, (hSt i Cn n Ls hzi).2.narrow hF⟩
set_option maxHeartbeats 4000000 in
set_option maxRecDepth 40000 in
theorem law_0 {D : DD} {F : Nat → Prop} {z : Nat → Nat} {b L : Nat} {xs : Nat → Int32} (hL : L ≤ 3072) : JK (lwK D F z b L xs) mL_law 100 0 [.ref b, .null, .null, .null] [] [] 0 0 := by
  refine k_new (ci := 7) [.null, .null, .null, .null, .null, .null, .null, .null, .int 0] tyX7 dL_law_0 rfl wX7 tyX7_ok (TT_at 12 (by decide +kernel) rfl) (TT_at 13 (by decide +kernel) rfl) (TT_at 1 (by decide +kernel) rfl) (fun j hj => match j, hj with | 0, _ => rfl | 1, _ => rfl | 2, _ => rfl | 3, _ => rfl | 4, _ => rfl | 5, _ => rfl | 6, _ => rfl | 7, _ => rfl | 8, _ => rfl | k + 9, h => absurd h (by omega)) (Nat.le_of_ble_eq_true rfl) (Nat.le_of_ble_eq_true rfl) (fun qA => ?_)
  refine k_dup dL_law_3 rfl ?_
  refine k_call (K := 60) (N := 1476) dL_law_4 (Or.inl lL_9) kX7_init iX7_init rfl rfl (by decide) (Nat.le_of_ble_eq_true rfl) (by decide) (Nat.le_of_ble_eq_true rfl) (Nat.le_of_ble_eq_true rfl) (b_X7_init _ _ _ _ qA) (fun w1 hq => ?_)
  obtain ⟨q, r6, r2, r5, r3, r1, r0, s1, e, rfl⟩ := hq
  refine k_ast1 dL_law_7 rfl (by decide) ?_
  refine k_new (ci := 8) [.int 0, .int 0, .null, .null, .null, .null, .null, .null, .null, .null, .null, .null, .int 0, .int 0, .null, .int 0, .int 0, .null, .null, .null, .null, .null, .int 0, .null, .int 0, .int 0, .int 0, .int 0, .int 0, .null, .null, .null, .null, .null, .null, .null, .int 0, .null, .null, .null, .long 0, .null, .null, .int 0, .int 0, .int 0, .int 0, .null, .null, .null, .int 0, .null, .int 0, .null, .null, .null, .null, .null] tyX8 dL_law_8 rfl wX8 tyX8_ok (TT_at 787 (by decide +kernel) rfl) (TT_at 788 (by decide +kernel) rfl) (TT_at 9 (by decide +kernel) rfl) (fun j hj => match j, hj with | 0, _ => rfl | 1, _ => rfl | 2, _ => rfl | 3, _ => rfl | 4, _ => rfl | 5, _ => rfl | 6, _ => rfl | 7, _ => rfl | 8, _ => rfl | 9, _ => rfl | 10, _ => rfl | 11, _ => rfl | 12, _ => rfl | 13, _ => rfl | 14, _ => rfl | 15, _ => rfl | 16, _ => rfl | 17, _ => rfl | 18, _ => rfl | 19, _ => rfl | 20, _ => rfl | 21, _ => rfl | 22, _ => rfl | 23, _ => rfl | 24, _ => rfl | 25, _ => rfl | 26, _ => rfl | 27, _ => rfl | 28, _ => rfl | 29, _ => rfl | 30, _ => rfl | 31, _ => rfl | 32, _ => rfl | 33, _ => rfl | 34, _ => rfl | 35, _ => rfl | 36, _ => rfl | 37, _ => rfl | 38, _ => rfl | 39, _ => rfl | 40, _ => rfl | 41, _ => rfl | 42, _ => rfl | 43, _ => rfl | 44, _ => rfl | 45, _ => rfl | 46, _ => rfl | 47, _ => rfl | 48, _ => rfl | 49, _ => rfl | 50, _ => rfl | 51, _ => rfl | 52, _ => rfl | 53, _ => rfl | 54, _ => rfl | 55, _ => rfl | 56, _ => rfl | 57, _ => rfl | k + 58, h => absurd h (by omega)) (Nat.le_of_ble_eq_true rfl) (Nat.le_of_ble_eq_true rfl) (fun qM => ?_)
  refine k_dup dL_law_11 rfl ?_
  refine k_call (K := 38) (N := 1806) dL_law_12 (Or.inl lL_12) kX8_init iX8_init rfl rfl (by decide) (Nat.le_of_ble_eq_true rfl) (by decide) (Nat.le_of_ble_eq_true rfl) (Nat.le_of_ble_eq_true rfl) (b_X8_init _ _ _ _ qM) (fun w1 hq => ?_)
  obtain ⟨r8, rfl⟩ := hq
  refine k_ast2 dL_law_15 rfl (by decide) ?_
  exact law_toJ qA qM q r6 r2 r5 r3 r1 r0 s1 e r8 hL (Nat.le_of_ble_eq_true rfl) (Nat.le_of_ble_eq_true rfl)

/-- YOUR PART: from the entry, for every script of at most 3072 ints, the law comes to its end with true ('hflags': the launch's flags, for a law that throws: no stack traces) -/
theorem whole_start {p : Program} {e : Env} {s : State} {m : MethodId} {below : List Frame} {meth : Method} {c : Code} (l : Launch) (hflags : l.flags = flags0) {b L : Nat} {xs : Nat → Int32} (hL : L ≤ 3072) (C0 : lw_At p s m meth c b L xs) : W p l e room_1 s m #[Value.ref b] below meth c s.heap [] 0 0 (lw_Z below #[Value.ref b] s) (entryFrame m ([Value.ref b] : List Value).toArray 4) := by
  obtain ⟨hx, hb, hr, hml, hown, hts, hX, hbl, hlocks, hgv⟩ := id C0
  obtain ⟨D, hK⟩ := K_start hts
  obtain ⟨z, hz⟩ := st_start (F := fun q => s.heap.size ≤ q) hts hgv (fun a h => Nat.not_le.mpr h)
  rw [lg_entry_eq]
  have hJ : JK (lwK D (fun q => s.heap.size ≤ q) z b L xs) mL_law 100 0 [.ref b, .null, .null, .null] [] [] 0 0 := law_0 hL
  exact hJ p l e room_1 s m #[Value.ref b] below meth c s.heap [] _ ⟨hx, hb, hml, hr, hlocks, hown, TT_sub hts, ⟨by decide, by decide, Nat.le_refl _, Nat.le_refl _⟩, hK, fun h => absurd h (by decide), hz, NW_start hts, fun q h => h, Aos_start hts, hX, hbl, fun q h => h⟩ (lx_entry [.ref b] (by show 1 ≤ 4; decide)) (fun k q h => by simp at h) ⟨fun i j p q h => by simp at h, fun k q h => by simp at h⟩ va_S.rf
