/-! what holds at first -/
theorem inv_TC : ∀ w, w < 12 → ∀ i, i < 8 → S00.1 (16 + w) i = nI (v0 w i) := by decide +kernel
theorem inv_b : ∀ w, w < 12 → at0 w ≤ mostN w := by decide
theorem inv_sh : ∀ i, i < 6 → S00.1 (8 + i) 0 = 0 ∧ S00.1 (8 + i) 3 = 0 := by decide +kernel
theorem n01 : ¬ (0 : Nat) = 1 := by decide
theorem n02 : ¬ (0 : Nat) = 2 := by decide
theorem at_TC : TC 0 v0 S00 := ⟨rfl, by decide, inv_TC, fun w hw i _ => by
  unfold v0
  split
  · exact inv_b w hw
  · exact Nat.zero_le _⟩
theorem at_HC : HC 0 0 (fun _ _ => 0) S00 := ⟨0, by decide, rfl, rfl, rfl, by decide, fun i hi => absurd hi (Nat.not_lt_zero _)⟩
theorem at_DC : DCb (fun _ => 0) (fun _ => 0) 0 S00 := ⟨fun i _ => rfl, fun c _ => rfl, rfl⟩
theorem at_IC : ImC none S00 := rfl
theorem at_SC : SC (fun _ _ => 0) (fun _ _ => 0) S00 := fun i hi => ⟨(inv_sh i hi).1, fun h => absurd h n01, fun h => absurd h n02, (inv_sh i hi).2, fun k _ => rfl⟩
theorem at_SOk : SOk 0 (fun _ _ => 0) := ⟨by decide, fun i _ => ⟨Nat.zero_le _, fun h => absurd h n01, fun h => absurd h n02, Nat.zero_le _⟩⟩
theorem at_BOk : BOk (fun _ _ => 0) (fun _ _ => 0) := fun i _ h => absurd h n02
theorem at_FC : FC 0 (fun _ => 0) S00 := ⟨rfl, by decide, fun i hi => absurd hi (Nat.not_lt_zero _)⟩
theorem at_LC : LawC none S00 := ⟨Or.inl ⟨rfl, rfl⟩, rfl, by decide, fun i hi => absurd hi (Nat.not_lt_zero _)⟩
/-! the law, from its entry -/
theorem lw_retR {p : Program} {l : Launch} {e : Env} {R : Room} {s : State} {m : MethodId} {args : Array Value} {below : List Frame} {meth : Method} {c : Code} (hx : p.tables.exec = Jvm.exec) (hb : c.code = code) (hr : meth.sig.returnType = ret) (hlocks : meth.locks = false) {pc : Nat} {H : Heap} {ls : Array Slot} (hdg : decode code pc = .ok (.ireturn, 1)) : W p l e R s m args below meth c H [] 600000 7302250 (lw_Z below args s) (F0 m pc ls [.int 1]) := by
  intro T hT X
  obtain ⟨fs, hret, hrun, hended, hW, hframe⟩ := X.leave (v := some (.int 1)) (hlocks := hlocks) (fun h => by rw [hr] at h; cases h)
  have hmeth' : T.vm.method? m = some meth := X.method'
  refine ⟨T.setFrames fs, ?_, .returned (some (.int 1)), hrun, hended, rfl, lw_closed (Drawn.sameBut.refl s.drawn lw_cs) ⟨_, rfl⟩ hW hframe⟩
  jvm_step X.here [X.here.top, hx, hb, hdg, hmeth', hr, ret, narrow_b1]
  (try refine ⟨rfl, ?_⟩); (try refine ⟨rfl, ?_⟩)
  first | (intro acts; rw [hret _ acts rfl rfl rfl]) | rw [hret _ _ rfl rfl rfl]
  exact Steps.refl _
abbrev Zlaw : List Frame → Array Value → State → DD → State → Prop := fun below args s _ => lw_Z below args s
theorem j_lawret {a : Nat → Nat} {d pc : Nat} {Ls : List Value} {S : St} {E : Room → State → Prop} (hE : ∀ R s, E R s → ∀ j, j < NC a → s.heap.size ≤ a j) (hd : decode code pc = .ok (.ireturn, 1)) : J a mL_law d (600000, 7302250, E, Zlaw) pc Ls [.int 1] S := by
  intro p l e R s m args below meth c D H locs ls C hl hP hS
  have hE1 := hE _ _ C.2.2.2.2.2.2.2.2.2.2.2.2
  refine va_forget (fun q hq => ?_) (lw_retR C.1 C.2.1 C.2.2.2.1 C.2.2.2.2.1 hd)
  obtain ⟨j, hj, ej⟩ := hS.2.2 q hq
  rw [ej]
  exact hE1 j hj
section AstK
variable {G : KG} {mi : MI} {d : Nat} {pc : Nat} {L st : List Value} {ws : va_W} {kc ks : Nat}
theorem k_ast1 {v0 : Value} {w : Value} {x : Nat} (hd : decode mi.2.1 pc = .ok (.astore_n 1, 1)) (hc : v0.category = 1) (hn : 1 < mi.2.2.1) (k : JK G mi d (pc + 1) (v0 :: .ref x :: L) (st) ws kc ks) : JK G mi d (pc) (v0 :: w :: L) (.ref x :: st) ws kc ks := by
  intro p l e R s m args below meth c H locs ls C hl hP hD hS
  exact lv_astore_n (i := 1) C.1 C.2.1 hd rfl hl hn rfl (fun ls' hl' => k p l e R s m args below meth c H locs ls' C (lx_of1 (L := v0 :: w :: L) (i := 1) (x := .ref x) (fun w _ q => by cases q; exact hc) hl') hP hD hS)
end AstK
abbrev lwK (D : DD) (F : Nat → Prop) (z : Nat → Nat) (b L : Nat) (xs : Nat → Int32) : KG := (D, F, z, 600000, 7302250, (fun s => va_X b L xs s s.heap ∧ b < s.heap.size ∧ ∀ q, F q → s.heap.size ≤ q), fun below args s => lw_Z below args s)
def lwE0 (a : Nat → Nat) (b L : Nat) (xs : Nat → Int32) : Room → State → Prop := fun R s => (EX a b L xs s ∧ 600000 ≤ R.cells ∧ 7302250 ≤ R.slots) ∧ ∀ j, j < 61 → s.heap.size ≤ a j
theorem lw_HR {a : Nat → Nat} {b L : Nat} {xs : Nat → Int32} (q n : Nat) : HR (aX a q n) (600000, 7302250, (fun R s => lwE0 a b L xs R s ∧ EX (aX a q n) b L xs s ∧ s.heap.size ≤ q), Zlaw) := fun pc L S hd => j_lawret (fun R s h j hj => by
  rw [aX_NC] at hj
  by_cases e : j < 61
  · rw [aX_lt e]
    exact h.1.2 j e
  · have e2 : j = 61 := by omega
    rw [e2, aX_61]
    exact h.2.2) hd
theorem law_S00 {a : Nat → Nat} {b L : Nat} {xs : Nat → Int32} {kc ks : Nat} (hk : kc ≤ 599000) (hn : ks ≤ 7302000) (h0 : a 300 = 0) (hL : L ≤ 260) : J a mL_law 100 (kc, ks, lwE0 a b L xs, Zlaw) 8 [.ref b, .ref (a 0), .null, .null, .null, .null, .null, .null, .null, .null, .null, .null, .null, .null, .null, .null, .null, .null] [] S00 :=
  law_8 (fun R s h => h.1) hk hn h0 hL at_DC at_FC at_LC at_TC at_HC at_IC at_SC at_SOk at_BOk (fun q => lw_HR q _)
theorem law_toJ {D : DD} {F : Nat → Prop} {z : Nat → Nat} {b L : Nat} {xs : Nat → Int32} (hA : Nat) (q r6 r2 r5 r3 r1 r0 s : Nat → Nat) (e : Nat → Nat → Nat) {kc ks : Nat} (hL : L ≤ 260) (hk : kc ≤ 599000) (hn : ks ≤ 7302000) : JK (lwK D F z b L xs) mL_law 100 8 [.ref b, .ref hA, .null, .null, .null, .null, .null, .null, .null, .null, .null, .null, .null, .null, .null, .null, .null, .null] [] (wsB D hA q r6 r2 r5 r3 r1 r0 s e) kc ks := by
  intro p l ev R s1 m args below meth c H locs ls C hl hP hD hS
  have hE : va_X b L xs s1 s1.heap ∧ b < s1.heap.size ∧ ∀ q, F q → s1.heap.size ≤ q := C.2.2.2.2.2.2.2.2.2.2.2.2.2.2
  have hr := C.2.2.2.2.2.2.2.1
  have hSt : StatK F z s1 s1.heap := C.2.2.2.2.2.2.2.2.2.2.1
  refine va_forget (fun x hx => hE.2.2 _ (hS.2.2 x hx)) ?_
  have hI := born_inj (z := z) hD
  have hF : ∀ x, AA (aF hA q r6 r2 r5 r3 r1 r0 s e z) x → F x := fun x hx => by
    obtain ⟨j, hj, rfl⟩ := hx
    rw [aF_NC] at hj
    exact born_F (z := z) hD hj
  have hz : ∀ i, i < 50 → aF hA q r6 r2 r5 r3 r1 r0 s e z (200 + i) = z i := fun i hi => by
    unfold aF
    rw [if_neg (by omega), if_neg (by omega), Nat.add_sub_cancel_left]
  have hEX : EX (aF hA q r6 r2 r5 r3 r1 r0 s e z) b L xs s1 := ⟨hE.1, hE.2.1, fun w => by have := hE.2.2 _ (hF _ w); have := hE.2.1; omega⟩
  have hJ : J (aF hA q r6 r2 r5 r3 r1 r0 s e z) mL_law 100 (kc, ks, lwE0 (aF hA q r6 r2 r5 r3 r1 r0 s e z) b L xs, Zlaw) 8 [.ref b, .ref hA, .null, .null, .null, .null, .null, .null, .null, .null, .null, .null, .null, .null, .null, .null, .null, .null] [] S00 := law_S00 hk hn aF_300 hL
  refine hJ p l ev R s1 m args below meth c D H [] ls ⟨C.1, C.2.1, C.2.2.1, C.2.2.2.1, C.2.2.2.2.1, C.2.2.2.2.2.1, C.2.2.2.2.2.2.1, ⟨hr.1, hr.2.1, Nat.le_trans (Nat.le_trans hk (show 599000 ≤ 600000 by decide)) hr.2.2.1, Nat.le_trans (Nat.le_trans hn (show 7302000 ≤ 7302250 by decide)) hr.2.2.2⟩, C.2.2.2.2.2.2.2.2.1, hI, fun i Cn n Ls hzi => ?_, C.2.2.2.2.2.2.2.2.2.2.2.1, ⟨hEX, hr.2.2.1, hr.2.2.2⟩, fun j hj => hE.2.2 _ (born_F (z := z) hD hj)⟩ hl (born_P hP) ⟨hS.1, fun q h1 h2 => hS.2.1 q h1 (fun h3 => absurd (hE.2.2 q h3) (Nat.not_le.mpr h1)), fun x hx => by cases hx⟩
  have hi : i < 50 := by
    have := (List.getElem?_eq_some_iff.mp hzi).1
    exact Nat.lt_of_lt_of_le this (by decide)
  rw [hz i hi]
  exact ⟨(hSt i Cn n Ls hzi).1.narrow hF, (hSt i Cn n Ls hzi).2.narrow hF⟩
set_option maxHeartbeats 4000000 in
set_option maxRecDepth 40000 in
theorem law_0 {D : DD} {F : Nat → Prop} {z : Nat → Nat} {b L : Nat} {xs : Nat → Int32} (hL : L ≤ 260) : JK (lwK D F z b L xs) mL_law 100 0 [.ref b, .null, .null, .null, .null, .null, .null, .null, .null, .null, .null, .null, .null, .null, .null, .null, .null, .null] [] [] 0 0 := by
  refine k_new (ci := 7) [.null, .null, .null, .null, .null, .null, .null, .null, .int 0] tyX7 dL_law_0 rfl wX7 tyX7_ok (TT_at 13 (by decide +kernel) rfl) (TT_at 14 (by decide +kernel) rfl) (TT_at 1 (by decide +kernel) rfl) (fun j hj => match j, hj with | 0, _ => rfl | 1, _ => rfl | 2, _ => rfl | 3, _ => rfl | 4, _ => rfl | 5, _ => rfl | 6, _ => rfl | 7, _ => rfl | 8, _ => rfl | k + 9, h => absurd h (by omega)) (Nat.le_of_ble_eq_true rfl) (Nat.le_of_ble_eq_true rfl) (fun qA => ?_)
  refine k_dup dL_law_3 rfl ?_
  refine k_call (K := 60) (N := 1476) dL_law_4 (Or.inl lL_115) kX7_init iX7_init rfl rfl (by decide) (Nat.le_of_ble_eq_true rfl) (by decide) (Nat.le_of_ble_eq_true rfl) (Nat.le_of_ble_eq_true rfl) (b_X7_init _ _ _ _ qA) (fun w1 hq => ?_)
  obtain ⟨q, r6, r2, r5, r3, r1, r0, s1, e, rfl⟩ := hq
  refine k_ast1 dL_law_7 rfl (by decide) ?_
  exact law_toJ qA q r6 r2 r5 r3 r1 r0 s1 e hL (Nat.le_of_ble_eq_true rfl) (Nat.le_of_ble_eq_true rfl)
/-- YOUR PART: from the entry, for every script of at most 260 ints, the law comes to its end with true ('hflags': the launch's flags, for a law that throws: no stack traces) -/
theorem whole_start {p : Program} {e : Env} {s : State} {m : MethodId} {below : List Frame} {meth : Method} {c : Code} (l : Launch) (hflags : l.flags = flags0) {b L : Nat} {xs : Nat → Int32} (hL : L ≤ 260) (C0 : lw_At p s m meth c b L xs) : W p l e room_1 s m #[Value.ref b] below meth c s.heap [] 0 0 (lw_Z below #[Value.ref b] s) (entryFrame m ([Value.ref b] : List Value).toArray 18) := by
  obtain ⟨hx, hb, hr, hml, hown, hts, hX, hbl, hlocks, hgv⟩ := id C0
  obtain ⟨D, hK⟩ := K_start hts
  obtain ⟨z, hz⟩ := st_start (F := fun q => s.heap.size ≤ q) hts hgv (fun a h => Nat.not_le.mpr h)
  rw [lg_entry_eq]
  have hJ : JK (lwK D (fun q => s.heap.size ≤ q) z b L xs) mL_law 100 0 [.ref b, .null, .null, .null, .null, .null, .null, .null, .null, .null, .null, .null, .null, .null, .null, .null, .null, .null] [] [] 0 0 := law_0 hL
  exact hJ p l e room_1 s m #[Value.ref b] below meth c s.heap [] _ ⟨hx, hb, hml, hr, hlocks, hown, TT_sub hts, ⟨by decide, by decide, Nat.le_refl _, Nat.le_refl _⟩, hK, fun h => absurd h (by decide), hz, NW_start hts, fun q h => h, Aos_start hts, hX, hbl, fun q h => h⟩ (lx_entry [.ref b] (by show 1 ≤ 18; decide)) (fun k q h => by simp at h) ⟨fun i j p q h => by simp at h, fun k q h => by simp at h⟩ va_S.rf
