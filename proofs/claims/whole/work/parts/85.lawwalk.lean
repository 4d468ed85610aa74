/-! the law's own walk, from its loop on -/
def R_law : String := "OtherSideLaw"
def lw_P (b : Addr) (xs : List Int32) (args : Array Value) (s : State) : Prop := args = #[.ref b] ∧ s.IntsAt b xs ∧ xs.length ≤ 3072 ∧ (Jvm.Cond.and given_1 narrow_1).before args s = true
def lw_Q (_ : Array Value) (s : State) (o : Outcome) (t : State) : Prop := o = .returned (some (.int 1)) ∧ Framed s o t [] 600000 7302250
def lw_Z (below : List Frame) (a : Array Value) (s : State) : State → Prop := fun t => ∃ o, t.status = .running ∧ Ended t below o ∧ lw_Q a s o t
/-- what holds at the law's entry: the machine, the code, the tables' words (any of lw_tbl by 'hts w (by decide +kernel)'), the script of L ints xs at the cell b, what the Statement gives of the start (any of its parts by flat_of_before) -/
def lw_At (p : Program) (s : State) (m : MethodId) (meth : Method) (c : Code) (b L : Nat) (xs : Nat → Int32) : Prop :=
  p.tables.exec = Jvm.exec ∧ c.code = code ∧ meth.sig.returnType = ret ∧ c.maxLocals = 4 ∧ s.vm.findClass R_law = some m.cls ∧ (∀ w ∈ lw_tbl, w.before #[Value.ref b] s = true) ∧ va_X b L xs s s.heap ∧ b < s.heap.size ∧ meth.locks = false ∧ (Jvm.Cond.and given_1 narrow_1).before #[Value.ref b] s = true
abbrev mL_law : MI := (yL_law, code, 4, ret)
def lwE (a : Nat → Nat) (b L : Nat) (xs : Nat → Int32) : State → Prop := fun s => va_X b L xs s s.heap ∧ b < s.heap.size ∧ ∀ j, j < 100 → s.heap.size ≤ a j
def lwG (a : Nat → Nat) (b L : Nat) (xs : Nat → Int32) : GG := (600000, 7302250, lwE a b L xs, fun below args s _ => lw_Z below args s)
theorem lwE_no {a : Nat → Nat} {b L : Nat} {xs : Nat → Int32} {s : State} (h : lwE a b L xs s) : ¬ AA a b := fun z => by
  obtain ⟨j, hj, e⟩ := z
  have := h.2.2 j hj
  have := h.2.1
  omega
theorem lw_retR {p : Program} {l : Launch} {e : Env} {R : Room} {s : State} {m : MethodId} {args : Array Value} {below : List Frame} {meth : Method} {c : Code} (hx : p.tables.exec = Jvm.exec) (hb : c.code = code) (hr : meth.sig.returnType = ret) (hlocks : meth.locks = false) {pc : Nat} {H : Heap} {ls : Array Slot} (hdg : decode code pc = .ok (.ireturn, 1)) : W p l e R s m args below meth c H [] 600000 7302250 (lw_Z below args s) (F0 m pc ls [.int 1]) := by
  intro T hT X
  obtain ⟨fs, hret, hrun, hended, hW, hframe⟩ := X.leave (v := some (.int 1)) (hlocks := hlocks) (fun h => by rw [hr] at h; cases h)
  have hmeth' : T.vm.method? m = some meth := X.method'
  refine ⟨T.setFrames fs, ?_, .returned (some (.int 1)), hrun, hended, rfl, ⟨_, rfl⟩, hW, hframe⟩
  jvm_step X.here [X.here.top, hx, hb, hdg, hmeth', hr, ret, narrow_b1]
  (try refine ⟨rfl, ?_⟩); (try refine ⟨rfl, ?_⟩)
  first | (intro acts; rw [hret _ acts rfl rfl rfl]) | rw [hret _ _ rfl rfl rfl]
  exact Steps.refl _
section LawWalk
variable {a : Nat → Nat} {d b L pc : Nat} {xs : Nat → Int32} {Ls st : List Value} {S : St}
theorem j_lawret (hd : decode code pc = .ok (.ireturn, 1)) : J a mL_law d (lwG a b L xs) pc Ls [.int 1] S := by
  intro p l e R s m args below meth c D H locs ls C hl hP hS
  have hE : lwE a b L xs s := C.2.2.2.2.2.2.2.2.2.2.2.2
  refine va_forget (fun q hq => ?_) (lw_retR C.1 C.2.1 C.2.2.2.1 C.2.2.2.2.1 hd)
  obtain ⟨j, hj, ej⟩ := hS.2.2 q hq
  rw [ej]
  exact hE.2.2 j hj
theorem j_sld (hd : decode code pc = .ok (.iaload, 1)) (k : Nat) (hk : k < L) (hL : L ≤ 3072) (kk : J a mL_law d (lwG a b L xs) (pc + 1) Ls (.int (xs k) :: st) S) : J a mL_law d (lwG a b L xs) pc Ls (.int (nI k) :: .ref b :: st) S := by
  intro p l e R s m args below meth c D H locs ls C hl hP hS
  have hE : lwE a b L xs s := C.2.2.2.2.2.2.2.2.2.2.2.2
  have hc : (nI k).toNatClampNeg = k := nI_clamp (by omega)
  have hin : vp_in (nI k) L := fun z => z.elim (fun q => absurd (nI_pos' (n := k) (by omega)) (Int32.not_le.mpr q)) (fun q => by rw [hc] at q; omega)
  refine va_sld C.1 C.2.1 hE.1 hE.2.1 (lwE_no hE) hS hin hd ?_
  rw [hc]
  exact kk p l e R s m args below meth c D H locs ls C hl hP hS
theorem j_slen (hd : decode code pc = .ok (.arraylength, 1)) (kk : J a mL_law d (lwG a b L xs) (pc + 1) Ls (.int (nI L) :: st) S) : J a mL_law d (lwG a b L xs) pc Ls (.ref b :: st) S := by
  intro p l e R s m args below meth c D H locs ls C hl hP hS
  have hE : lwE a b L xs s := C.2.2.2.2.2.2.2.2.2.2.2.2
  exact va_slen C.1 C.2.1 hE.1 hE.2.1 (lwE_no hE) hS hd (kk p l e R s m args below meth c D H locs ls C hl hP hS)
theorem len6 {ln t : Nat} (hl : ln ≤ 3072) (ht : t < 2 ^ 31) : nI ln - 6 < nI t ↔ ¬ t + 6 ≤ ln := by
  have e : (nI ln - 6).toInt = (ln : Int) - 6 := by
    rw [Int32.toInt_sub, nI_toInt (by omega)]
    exact Int.bmod_eq_of_le (by show _ ≤ (ln : Int) - 6; omega) (by show (ln : Int) - 6 < _; omega)
  rw [Int32.lt_iff_toInt_lt, e, nI_toInt ht]
  omega

set_option maxHeartbeats 4000000 in
set_option maxRecDepth 40000 in
theorem law_loop (hL : L ≤ 3072) : ∀ (fu : Nat) (c : Nat) (S : St), L + 6 - 6 * c < fu → (6 * c ≤ L + 5) → (Inv c S) → J a mL_law 100 (lwG a b L xs) 18 [.ref b, .ref (a 0), .ref (a 61), .int (nI (6 * c))] [] S := by
  intro fu
  induction fu with
  | zero => intro c S hk; exact absurd hk (Nat.not_lt_zero _)
  | succ fu ih =>
    intro c S hk hc hI
    refine j_ild3 dL_law_18 ?_
    refine j_ald0 dL_law_19 ?_
    refine j_slen dL_law_20 ?_
    refine j_bipush (6) dL_law_21 rfl ?_
    refine j_isub dL_law_23 ?_
    refine j_icmpgt 1364 dL_law_24 (by decide) (fun c_24 => ?_) (fun c_24 => ?_)
    · refine j_iconst (1) dL_law_1364 rfl ?_
      exact j_lawret dL_law_1365
    have q_24 : 6 * c + 6 ≤ L := Classical.not_not.mp (fun z => c_24 ((len6 hL (by omega)).mpr z))
    refine j_ald0 dL_law_27 ?_
    refine j_ild3 dL_law_28 ?_
    refine j_sld dL_law_29 (6 * c) (by omega) hL ?_
    refine j_bipush (63) dL_law_30 rfl ?_
    refine j_iand dL_law_32 ?_
    refine j_topi (fun y_33 e_33 => ?_)
    by_cases h_33_0 : y_33 = 0
    · rw [h_33_0] at e_33 ⊢
      refine j_tblIn (163) 196 dL_law_33 (by decide) (by decide) rfl (by decide) ?_
      refine j_ald1 dL_law_196 ?_
      refine j_ald0 dL_law_197 ?_
      refine j_ild3 dL_law_198 ?_
      refine j_iconst (1) dL_law_199 rfl ?_
      refine j_iadd dL_law_200 ?_
      refine j_top (y := nI (6 * c + 1)) (by exact nI_add _ 1) ?_
      refine j_sld dL_law_201 (6 * c + 1) (by omega) hL ?_
      refine j_qiV1 dL_law_202 kX7_card lL_13 rfl (by decide) rfl (Nat.le_of_ble_eq_true rfl) (Nat.le_of_ble_eq_true rfl) (by omega) (pr_card hI) (fun z S1 h1 => ?_)
      refine j_ald2 dL_law_205 ?_
      refine j_ald0 dL_law_206 ?_
      refine j_ild3 dL_law_207 ?_
      refine j_iconst (1) dL_law_208 rfl ?_
      refine j_iadd dL_law_209 ?_
      refine j_top (y := nI (6 * c + 1)) (by exact nI_add _ 1) ?_
      refine j_sld dL_law_210 (6 * c + 1) (by omega) hL ?_
      refine j_qiV1 dL_law_211 kX8_card lL_17 rfl (by decide) rfl (Nat.le_of_ble_eq_true rfl) (Nat.le_of_ble_eq_true rfl) (by omega) (h1) (fun z' S2 h2 => ?_)
      obtain ⟨rfl, hI2⟩ := h2
      refine j_icmpeq 1358 dL_law_214 (by decide) (fun c_214 => ?_) (fun c_214 => absurd (rfl) c_214)
      refine j_iinc3 (nI (6 * (c + 1))) dL_law_1358 (by rw [show 6 * (c + 1) = 6 * c + 6 by omega]; exact nI_add _ 6) rfl (by decide) ?_
      refine j_goto 18 dL_law_1361 (by decide) ?_
      exact ih (c + 1) S2 (by omega) (by omega) hI2
    by_cases h_33_1 : y_33 = 1
    · rw [h_33_1] at e_33 ⊢
      refine j_tblIn (186) 219 dL_law_33 (by decide) (by decide) rfl (by decide) ?_
      refine j_ald1 dL_law_219 ?_
      refine j_ald0 dL_law_220 ?_
      refine j_ild3 dL_law_221 ?_
      refine j_iconst (1) dL_law_222 rfl ?_
      refine j_iadd dL_law_223 ?_
      refine j_top (y := nI (6 * c + 1)) (by exact nI_add _ 1) ?_
      refine j_sld dL_law_224 (6 * c + 1) (by omega) hL ?_
      refine j_ald0 dL_law_225 ?_
      refine j_ild3 dL_law_226 ?_
      refine j_iconst (2) dL_law_227 rfl ?_
      refine j_iadd dL_law_228 ?_
      refine j_top (y := nI (6 * c + 2)) (by exact nI_add _ 2) ?_
      refine j_sld dL_law_229 (6 * c + 2) (by omega) hL ?_
      refine j_ald0 dL_law_230 ?_
      refine j_ild3 dL_law_231 ?_
      refine j_iconst (3) dL_law_232 rfl ?_
      refine j_iadd dL_law_233 ?_
      refine j_top (y := nI (6 * c + 3)) (by exact nI_add _ 3) ?_
      refine j_sld dL_law_234 (6 * c + 3) (by omega) hL ?_
      refine j_qiV3 dL_law_235 kX7_cards lL_18 rfl (by decide) rfl (Nat.le_of_ble_eq_true rfl) (Nat.le_of_ble_eq_true rfl) (by omega) (pr_cards hI) (fun z S1 h1 => ?_)
      refine j_ald2 dL_law_238 ?_
      refine j_ald0 dL_law_239 ?_
      refine j_ild3 dL_law_240 ?_
      refine j_iconst (1) dL_law_241 rfl ?_
      refine j_iadd dL_law_242 ?_
      refine j_top (y := nI (6 * c + 1)) (by exact nI_add _ 1) ?_
      refine j_sld dL_law_243 (6 * c + 1) (by omega) hL ?_
      refine j_ald0 dL_law_244 ?_
      refine j_ild3 dL_law_245 ?_
      refine j_iconst (2) dL_law_246 rfl ?_
      refine j_iadd dL_law_247 ?_
      refine j_top (y := nI (6 * c + 2)) (by exact nI_add _ 2) ?_
      refine j_sld dL_law_248 (6 * c + 2) (by omega) hL ?_
      refine j_ald0 dL_law_249 ?_
      refine j_ild3 dL_law_250 ?_
      refine j_iconst (3) dL_law_251 rfl ?_
      refine j_iadd dL_law_252 ?_
      refine j_top (y := nI (6 * c + 3)) (by exact nI_add _ 3) ?_
      refine j_sld dL_law_253 (6 * c + 3) (by omega) hL ?_
      refine j_qiV3 dL_law_254 kX8_cards lL_22 rfl (by decide) rfl (Nat.le_of_ble_eq_true rfl) (Nat.le_of_ble_eq_true rfl) (by omega) (h1) (fun z' S2 h2 => ?_)
      obtain ⟨rfl, hI2⟩ := h2
      refine j_icmpeq 1358 dL_law_257 (by decide) (fun c_257 => ?_) (fun c_257 => absurd (rfl) c_257)
      refine j_iinc3 (nI (6 * (c + 1))) dL_law_1358 (by rw [show 6 * (c + 1) = 6 * c + 6 by omega]; exact nI_add _ 6) rfl (by decide) ?_
      refine j_goto 18 dL_law_1361 (by decide) ?_
      exact ih (c + 1) S2 (by omega) (by omega) hI2
    by_cases h_33_2 : y_33 = 2
    · rw [h_33_2] at e_33 ⊢
      refine j_tblIn (229) 262 dL_law_33 (by decide) (by decide) rfl (by decide) ?_
      refine j_ald1 dL_law_262 ?_
      refine j_ald0 dL_law_263 ?_
      refine j_ild3 dL_law_264 ?_
      refine j_iconst (1) dL_law_265 rfl ?_
      refine j_iadd dL_law_266 ?_
      refine j_top (y := nI (6 * c + 1)) (by exact nI_add _ 1) ?_
      refine j_sld dL_law_267 (6 * c + 1) (by omega) hL ?_
      refine j_ald0 dL_law_268 ?_
      refine j_ild3 dL_law_269 ?_
      refine j_iconst (2) dL_law_270 rfl ?_
      refine j_iadd dL_law_271 ?_
      refine j_top (y := nI (6 * c + 2)) (by exact nI_add _ 2) ?_
      refine j_sld dL_law_272 (6 * c + 2) (by omega) hL ?_
      refine j_ald0 dL_law_273 ?_
      refine j_ild3 dL_law_274 ?_
      refine j_iconst (3) dL_law_275 rfl ?_
      refine j_iadd dL_law_276 ?_
      refine j_top (y := nI (6 * c + 3)) (by exact nI_add _ 3) ?_
      refine j_sld dL_law_277 (6 * c + 3) (by omega) hL ?_
      refine j_qiV3 dL_law_278 kX7_mend lL_23 rfl (by decide) rfl (Nat.le_of_ble_eq_true rfl) (Nat.le_of_ble_eq_true rfl) (by omega) (pr_mend hI) (fun z S1 h1 => ?_)
      refine j_ald2 dL_law_281 ?_
      refine j_ald0 dL_law_282 ?_
      refine j_ild3 dL_law_283 ?_
      refine j_iconst (1) dL_law_284 rfl ?_
      refine j_iadd dL_law_285 ?_
      refine j_top (y := nI (6 * c + 1)) (by exact nI_add _ 1) ?_
      refine j_sld dL_law_286 (6 * c + 1) (by omega) hL ?_
      refine j_ald0 dL_law_287 ?_
      refine j_ild3 dL_law_288 ?_
      refine j_iconst (2) dL_law_289 rfl ?_
      refine j_iadd dL_law_290 ?_
      refine j_top (y := nI (6 * c + 2)) (by exact nI_add _ 2) ?_
      refine j_sld dL_law_291 (6 * c + 2) (by omega) hL ?_
      refine j_ald0 dL_law_292 ?_
      refine j_ild3 dL_law_293 ?_
      refine j_iconst (3) dL_law_294 rfl ?_
      refine j_iadd dL_law_295 ?_
      refine j_top (y := nI (6 * c + 3)) (by exact nI_add _ 3) ?_
      refine j_sld dL_law_296 (6 * c + 3) (by omega) hL ?_
      refine j_qiV3 dL_law_297 kX8_mend lL_26 rfl (by decide) rfl (Nat.le_of_ble_eq_true rfl) (Nat.le_of_ble_eq_true rfl) (by omega) (h1) (fun z' S2 h2 => ?_)
      obtain ⟨rfl, hI2⟩ := h2
      refine j_icmpeq 1358 dL_law_300 (by decide) (fun c_300 => ?_) (fun c_300 => absurd (rfl) c_300)
      refine j_iinc3 (nI (6 * (c + 1))) dL_law_1358 (by rw [show 6 * (c + 1) = 6 * c + 6 by omega]; exact nI_add _ 6) rfl (by decide) ?_
      refine j_goto 18 dL_law_1361 (by decide) ?_
      exact ih (c + 1) S2 (by omega) (by omega) hI2
    by_cases h_33_3 : y_33 = 3
    · rw [h_33_3] at e_33 ⊢
      refine j_tblIn (272) 305 dL_law_33 (by decide) (by decide) rfl (by decide) ?_
      refine j_ald1 dL_law_305 ?_
      refine j_ald0 dL_law_306 ?_
      refine j_ild3 dL_law_307 ?_
      refine j_iconst (1) dL_law_308 rfl ?_
      refine j_iadd dL_law_309 ?_
      refine j_top (y := nI (6 * c + 1)) (by exact nI_add _ 1) ?_
      refine j_sld dL_law_310 (6 * c + 1) (by omega) hL ?_
      refine j_ald0 dL_law_311 ?_
      refine j_ild3 dL_law_312 ?_
      refine j_iconst (2) dL_law_313 rfl ?_
      refine j_iadd dL_law_314 ?_
      refine j_top (y := nI (6 * c + 2)) (by exact nI_add _ 2) ?_
      refine j_sld dL_law_315 (6 * c + 2) (by omega) hL ?_
      refine j_qiV2 dL_law_316 kX7_of lL_27 rfl (by decide) rfl (Nat.le_of_ble_eq_true rfl) (Nat.le_of_ble_eq_true rfl) (by omega) (pr_of hI) (fun z S1 h1 => ?_)
      refine j_ald2 dL_law_319 ?_
      refine j_ald0 dL_law_320 ?_
      refine j_ild3 dL_law_321 ?_
      refine j_iconst (1) dL_law_322 rfl ?_
      refine j_iadd dL_law_323 ?_
      refine j_top (y := nI (6 * c + 1)) (by exact nI_add _ 1) ?_
      refine j_sld dL_law_324 (6 * c + 1) (by omega) hL ?_
      refine j_ald0 dL_law_325 ?_
      refine j_ild3 dL_law_326 ?_
      refine j_iconst (2) dL_law_327 rfl ?_
      refine j_iadd dL_law_328 ?_
      refine j_top (y := nI (6 * c + 2)) (by exact nI_add _ 2) ?_
      refine j_sld dL_law_329 (6 * c + 2) (by omega) hL ?_
      refine j_qiV2 dL_law_330 kX8_of lL_31 rfl (by decide) rfl (Nat.le_of_ble_eq_true rfl) (Nat.le_of_ble_eq_true rfl) (by omega) (h1) (fun z' S2 h2 => ?_)
      obtain ⟨rfl, hI2⟩ := h2
      refine j_icmpeq 1358 dL_law_333 (by decide) (fun c_333 => ?_) (fun c_333 => absurd (rfl) c_333)
      refine j_iinc3 (nI (6 * (c + 1))) dL_law_1358 (by rw [show 6 * (c + 1) = 6 * c + 6 by omega]; exact nI_add _ 6) rfl (by decide) ?_
      refine j_goto 18 dL_law_1361 (by decide) ?_
      exact ih (c + 1) S2 (by omega) (by omega) hI2
    by_cases h_33_4 : y_33 = 4
    · rw [h_33_4] at e_33 ⊢
      refine j_tblIn (305) 338 dL_law_33 (by decide) (by decide) rfl (by decide) ?_
      refine j_ald1 dL_law_338 ?_
      refine j_ald0 dL_law_339 ?_
      refine j_ild3 dL_law_340 ?_
      refine j_iconst (1) dL_law_341 rfl ?_
      refine j_iadd dL_law_342 ?_
      refine j_top (y := nI (6 * c + 1)) (by exact nI_add _ 1) ?_
      refine j_sld dL_law_343 (6 * c + 1) (by omega) hL ?_
      refine j_qiV1 dL_law_344 kX7_feed lL_32 rfl (by decide) rfl (Nat.le_of_ble_eq_true rfl) (Nat.le_of_ble_eq_true rfl) (by omega) (pr_feed hI) (fun z S1 h1 => ?_)
      refine j_ald2 dL_law_347 ?_
      refine j_ald0 dL_law_348 ?_
      refine j_ild3 dL_law_349 ?_
      refine j_iconst (1) dL_law_350 rfl ?_
      refine j_iadd dL_law_351 ?_
      refine j_top (y := nI (6 * c + 1)) (by exact nI_add _ 1) ?_
      refine j_sld dL_law_352 (6 * c + 1) (by omega) hL ?_
      refine j_qiV1 dL_law_353 kX8_feed lL_35 rfl (by decide) rfl (Nat.le_of_ble_eq_true rfl) (Nat.le_of_ble_eq_true rfl) (by omega) (h1) (fun z' S2 h2 => ?_)
      obtain ⟨rfl, hI2⟩ := h2
      refine j_icmpeq 1358 dL_law_356 (by decide) (fun c_356 => ?_) (fun c_356 => absurd (rfl) c_356)
      refine j_iinc3 (nI (6 * (c + 1))) dL_law_1358 (by rw [show 6 * (c + 1) = 6 * c + 6 by omega]; exact nI_add _ 6) rfl (by decide) ?_
      refine j_goto 18 dL_law_1361 (by decide) ?_
      exact ih (c + 1) S2 (by omega) (by omega) hI2
    by_cases h_33_5 : y_33 = 5
    · rw [h_33_5] at e_33 ⊢
      refine j_tblIn (328) 361 dL_law_33 (by decide) (by decide) rfl (by decide) ?_
      refine j_ald1 dL_law_361 ?_
      refine j_qiV0 dL_law_362 kX7_law lL_36 rfl (by decide) rfl (Nat.le_of_ble_eq_true rfl) (Nat.le_of_ble_eq_true rfl) (by omega) (pr_law hI) (fun z S1 h1 => ?_)
      refine j_ald2 dL_law_365 ?_
      refine j_qiV0 dL_law_366 kX8_law lL_40 rfl (by decide) rfl (Nat.le_of_ble_eq_true rfl) (Nat.le_of_ble_eq_true rfl) (by omega) (h1) (fun z' S2 h2 => ?_)
      obtain ⟨rfl, hI2⟩ := h2
      refine j_icmpeq 1358 dL_law_369 (by decide) (fun c_369 => ?_) (fun c_369 => absurd (rfl) c_369)
      refine j_iinc3 (nI (6 * (c + 1))) dL_law_1358 (by rw [show 6 * (c + 1) = 6 * c + 6 by omega]; exact nI_add _ 6) rfl (by decide) ?_
      refine j_goto 18 dL_law_1361 (by decide) ?_
      exact ih (c + 1) S2 (by omega) (by omega) hI2
    by_cases h_33_6 : y_33 = 6
    · rw [h_33_6] at e_33 ⊢
      refine j_tblIn (341) 374 dL_law_33 (by decide) (by decide) rfl (by decide) ?_
      refine j_ald1 dL_law_374 ?_
      refine j_ald0 dL_law_375 ?_
      refine j_ild3 dL_law_376 ?_
      refine j_iconst (1) dL_law_377 rfl ?_
      refine j_iadd dL_law_378 ?_
      refine j_top (y := nI (6 * c + 1)) (by exact nI_add _ 1) ?_
      refine j_sld dL_law_379 (6 * c + 1) (by omega) hL ?_
      refine j_ald0 dL_law_380 ?_
      refine j_ild3 dL_law_381 ?_
      refine j_iconst (2) dL_law_382 rfl ?_
      refine j_iadd dL_law_383 ?_
      refine j_top (y := nI (6 * c + 2)) (by exact nI_add _ 2) ?_
      refine j_sld dL_law_384 (6 * c + 2) (by omega) hL ?_
      refine j_qiV2 dL_law_385 kX7_weight lL_41 rfl (by decide) rfl (Nat.le_of_ble_eq_true rfl) (Nat.le_of_ble_eq_true rfl) (by omega) (pr_weight hI) (fun z S1 h1 => ?_)
      refine j_ald2 dL_law_388 ?_
      refine j_ald0 dL_law_389 ?_
      refine j_ild3 dL_law_390 ?_
      refine j_iconst (1) dL_law_391 rfl ?_
      refine j_iadd dL_law_392 ?_
      refine j_top (y := nI (6 * c + 1)) (by exact nI_add _ 1) ?_
      refine j_sld dL_law_393 (6 * c + 1) (by omega) hL ?_
      refine j_ald0 dL_law_394 ?_
      refine j_ild3 dL_law_395 ?_
      refine j_iconst (2) dL_law_396 rfl ?_
      refine j_iadd dL_law_397 ?_
      refine j_top (y := nI (6 * c + 2)) (by exact nI_add _ 2) ?_
      refine j_sld dL_law_398 (6 * c + 2) (by omega) hL ?_
      refine j_qiV2 dL_law_399 kX8_weight lL_44 rfl (by decide) rfl (Nat.le_of_ble_eq_true rfl) (Nat.le_of_ble_eq_true rfl) (by omega) (h1) (fun z' S2 h2 => ?_)
      obtain ⟨rfl, hI2⟩ := h2
      refine j_icmpeq 1358 dL_law_402 (by decide) (fun c_402 => ?_) (fun c_402 => absurd (rfl) c_402)
      refine j_iinc3 (nI (6 * (c + 1))) dL_law_1358 (by rw [show 6 * (c + 1) = 6 * c + 6 by omega]; exact nI_add _ 6) rfl (by decide) ?_
      refine j_goto 18 dL_law_1361 (by decide) ?_
      exact ih (c + 1) S2 (by omega) (by omega) hI2
    by_cases h_33_7 : y_33 = 7
    · rw [h_33_7] at e_33 ⊢
      refine j_tblIn (374) 407 dL_law_33 (by decide) (by decide) rfl (by decide) ?_
      refine j_ald1 dL_law_407 ?_
      refine j_ald0 dL_law_408 ?_
      refine j_ild3 dL_law_409 ?_
      refine j_iconst (1) dL_law_410 rfl ?_
      refine j_iadd dL_law_411 ?_
      refine j_top (y := nI (6 * c + 1)) (by exact nI_add _ 1) ?_
      refine j_sld dL_law_412 (6 * c + 1) (by omega) hL ?_
      refine j_ald0 dL_law_413 ?_
      refine j_ild3 dL_law_414 ?_
      refine j_iconst (2) dL_law_415 rfl ?_
      refine j_iadd dL_law_416 ?_
      refine j_top (y := nI (6 * c + 2)) (by exact nI_add _ 2) ?_
      refine j_sld dL_law_417 (6 * c + 2) (by omega) hL ?_
      refine j_qlV2 dL_law_418 kX7_shown lL_45 rfl (by decide) rfl (Nat.le_of_ble_eq_true rfl) (Nat.le_of_ble_eq_true rfl) (by omega) (pr_shown hI) (fun z S1 h1 => ?_)
      refine j_ald2 dL_law_421 ?_
      refine j_ald0 dL_law_422 ?_
      refine j_ild3 dL_law_423 ?_
      refine j_iconst (1) dL_law_424 rfl ?_
      refine j_iadd dL_law_425 ?_
      refine j_top (y := nI (6 * c + 1)) (by exact nI_add _ 1) ?_
      refine j_sld dL_law_426 (6 * c + 1) (by omega) hL ?_
      refine j_ald0 dL_law_427 ?_
      refine j_ild3 dL_law_428 ?_
      refine j_iconst (2) dL_law_429 rfl ?_
      refine j_iadd dL_law_430 ?_
      refine j_top (y := nI (6 * c + 2)) (by exact nI_add _ 2) ?_
      refine j_sld dL_law_431 (6 * c + 2) (by omega) hL ?_
      refine j_qlV2 dL_law_432 kX8_shown lL_49 rfl (by decide) rfl (Nat.le_of_ble_eq_true rfl) (Nat.le_of_ble_eq_true rfl) (by omega) (h1) (fun z' S2 h2 => ?_)
      obtain ⟨rfl, hI2⟩ := h2
      refine j_lcmp dL_law_435 ?_
      refine j_ifeq 1358 dL_law_436 (by decide) (fun c_436 => ?_) (fun c_436 => absurd (lg_cmp0.mpr rfl) c_436)
      refine j_iinc3 (nI (6 * (c + 1))) dL_law_1358 (by rw [show 6 * (c + 1) = 6 * c + 6 by omega]; exact nI_add _ 6) rfl (by decide) ?_
      refine j_goto 18 dL_law_1361 (by decide) ?_
      exact ih (c + 1) S2 (by omega) (by omega) hI2
    by_cases h_33_8 : y_33 = 8
    · rw [h_33_8] at e_33 ⊢
      refine j_tblIn (408) 441 dL_law_33 (by decide) (by decide) rfl (by decide) ?_
      refine j_ald1 dL_law_441 ?_
      refine j_ald0 dL_law_442 ?_
      refine j_ild3 dL_law_443 ?_
      refine j_iconst (1) dL_law_444 rfl ?_
      refine j_iadd dL_law_445 ?_
      refine j_top (y := nI (6 * c + 1)) (by exact nI_add _ 1) ?_
      refine j_sld dL_law_446 (6 * c + 1) (by omega) hL ?_
      refine j_ald0 dL_law_447 ?_
      refine j_ild3 dL_law_448 ?_
      refine j_iconst (2) dL_law_449 rfl ?_
      refine j_iadd dL_law_450 ?_
      refine j_top (y := nI (6 * c + 2)) (by exact nI_add _ 2) ?_
      refine j_sld dL_law_451 (6 * c + 2) (by omega) hL ?_
      refine j_qlV2 dL_law_452 kX7_other lL_50 rfl (by decide) rfl (Nat.le_of_ble_eq_true rfl) (Nat.le_of_ble_eq_true rfl) (by omega) (pr_other hI) (fun z S1 h1 => ?_)
      refine j_ald2 dL_law_455 ?_
      refine j_ald0 dL_law_456 ?_
      refine j_ild3 dL_law_457 ?_
      refine j_iconst (1) dL_law_458 rfl ?_
      refine j_iadd dL_law_459 ?_
      refine j_top (y := nI (6 * c + 1)) (by exact nI_add _ 1) ?_
      refine j_sld dL_law_460 (6 * c + 1) (by omega) hL ?_
      refine j_ald0 dL_law_461 ?_
      refine j_ild3 dL_law_462 ?_
      refine j_iconst (2) dL_law_463 rfl ?_
      refine j_iadd dL_law_464 ?_
      refine j_top (y := nI (6 * c + 2)) (by exact nI_add _ 2) ?_
      refine j_sld dL_law_465 (6 * c + 2) (by omega) hL ?_
      refine j_qlV2 dL_law_466 kX8_other lL_53 rfl (by decide) rfl (Nat.le_of_ble_eq_true rfl) (Nat.le_of_ble_eq_true rfl) (by omega) (h1) (fun z' S2 h2 => ?_)
      obtain ⟨rfl, hI2⟩ := h2
      refine j_lcmp dL_law_469 ?_
      refine j_ifeq 1358 dL_law_470 (by decide) (fun c_470 => ?_) (fun c_470 => absurd (lg_cmp0.mpr rfl) c_470)
      refine j_iinc3 (nI (6 * (c + 1))) dL_law_1358 (by rw [show 6 * (c + 1) = 6 * c + 6 by omega]; exact nI_add _ 6) rfl (by decide) ?_
      refine j_goto 18 dL_law_1361 (by decide) ?_
      exact ih (c + 1) S2 (by omega) (by omega) hI2
    by_cases h_33_9 : y_33 = 9
    · rw [h_33_9] at e_33 ⊢
      refine j_tblIn (442) 475 dL_law_33 (by decide) (by decide) rfl (by decide) ?_
      refine j_ald1 dL_law_475 ?_
      refine j_ald0 dL_law_476 ?_
      refine j_ild3 dL_law_477 ?_
      refine j_iconst (1) dL_law_478 rfl ?_
      refine j_iadd dL_law_479 ?_
      refine j_top (y := nI (6 * c + 1)) (by exact nI_add _ 1) ?_
      refine j_sld dL_law_480 (6 * c + 1) (by omega) hL ?_
      refine j_ald0 dL_law_481 ?_
      refine j_ild3 dL_law_482 ?_
      refine j_iconst (2) dL_law_483 rfl ?_
      refine j_iadd dL_law_484 ?_
      refine j_top (y := nI (6 * c + 2)) (by exact nI_add _ 2) ?_
      refine j_sld dL_law_485 (6 * c + 2) (by omega) hL ?_
      refine j_ald0 dL_law_486 ?_
      refine j_ild3 dL_law_487 ?_
      refine j_iconst (3) dL_law_488 rfl ?_
      refine j_iadd dL_law_489 ?_
      refine j_top (y := nI (6 * c + 3)) (by exact nI_add _ 3) ?_
      refine j_sld dL_law_490 (6 * c + 3) (by omega) hL ?_
      refine j_qlV3 dL_law_491 kX7_which lL_54 rfl (by decide) rfl (Nat.le_of_ble_eq_true rfl) (Nat.le_of_ble_eq_true rfl) (by omega) (pr_which hI) (fun z S1 h1 => ?_)
      refine j_ald2 dL_law_494 ?_
      refine j_ald0 dL_law_495 ?_
      refine j_ild3 dL_law_496 ?_
      refine j_iconst (1) dL_law_497 rfl ?_
      refine j_iadd dL_law_498 ?_
      refine j_top (y := nI (6 * c + 1)) (by exact nI_add _ 1) ?_
      refine j_sld dL_law_499 (6 * c + 1) (by omega) hL ?_
      refine j_ald0 dL_law_500 ?_
      refine j_ild3 dL_law_501 ?_
      refine j_iconst (2) dL_law_502 rfl ?_
      refine j_iadd dL_law_503 ?_
      refine j_top (y := nI (6 * c + 2)) (by exact nI_add _ 2) ?_
      refine j_sld dL_law_504 (6 * c + 2) (by omega) hL ?_
      refine j_ald0 dL_law_505 ?_
      refine j_ild3 dL_law_506 ?_
      refine j_iconst (3) dL_law_507 rfl ?_
      refine j_iadd dL_law_508 ?_
      refine j_top (y := nI (6 * c + 3)) (by exact nI_add _ 3) ?_
      refine j_sld dL_law_509 (6 * c + 3) (by omega) hL ?_
      refine j_qlV3 dL_law_510 kX8_which lL_58 rfl (by decide) rfl (Nat.le_of_ble_eq_true rfl) (Nat.le_of_ble_eq_true rfl) (by omega) (h1) (fun z' S2 h2 => ?_)
      obtain ⟨rfl, hI2⟩ := h2
      refine j_lcmp dL_law_513 ?_
      refine j_ifeq 1358 dL_law_514 (by decide) (fun c_514 => ?_) (fun c_514 => absurd (lg_cmp0.mpr rfl) c_514)
      refine j_iinc3 (nI (6 * (c + 1))) dL_law_1358 (by rw [show 6 * (c + 1) = 6 * c + 6 by omega]; exact nI_add _ 6) rfl (by decide) ?_
      refine j_goto 18 dL_law_1361 (by decide) ?_
      exact ih (c + 1) S2 (by omega) (by omega) hI2
    by_cases h_33_10 : y_33 = 10
    · rw [h_33_10] at e_33 ⊢
      refine j_tblIn (486) 519 dL_law_33 (by decide) (by decide) rfl (by decide) ?_
      refine j_ald1 dL_law_519 ?_
      refine j_ald0 dL_law_520 ?_
      refine j_ild3 dL_law_521 ?_
      refine j_iconst (1) dL_law_522 rfl ?_
      refine j_iadd dL_law_523 ?_
      refine j_top (y := nI (6 * c + 1)) (by exact nI_add _ 1) ?_
      refine j_sld dL_law_524 (6 * c + 1) (by omega) hL ?_
      refine j_ald0 dL_law_525 ?_
      refine j_ild3 dL_law_526 ?_
      refine j_iconst (2) dL_law_527 rfl ?_
      refine j_iadd dL_law_528 ?_
      refine j_top (y := nI (6 * c + 2)) (by exact nI_add _ 2) ?_
      refine j_sld dL_law_529 (6 * c + 2) (by omega) hL ?_
      refine j_qlV2 dL_law_530 kX7_again lL_59 rfl (by decide) rfl (Nat.le_of_ble_eq_true rfl) (Nat.le_of_ble_eq_true rfl) (by omega) (pr_again hI) (fun z S1 h1 => ?_)
      refine j_ald2 dL_law_533 ?_
      refine j_ald0 dL_law_534 ?_
      refine j_ild3 dL_law_535 ?_
      refine j_iconst (1) dL_law_536 rfl ?_
      refine j_iadd dL_law_537 ?_
      refine j_top (y := nI (6 * c + 1)) (by exact nI_add _ 1) ?_
      refine j_sld dL_law_538 (6 * c + 1) (by omega) hL ?_
      refine j_ald0 dL_law_539 ?_
      refine j_ild3 dL_law_540 ?_
      refine j_iconst (2) dL_law_541 rfl ?_
      refine j_iadd dL_law_542 ?_
      refine j_top (y := nI (6 * c + 2)) (by exact nI_add _ 2) ?_
      refine j_sld dL_law_543 (6 * c + 2) (by omega) hL ?_
      refine j_qlV2 dL_law_544 kX8_again lL_62 rfl (by decide) rfl (Nat.le_of_ble_eq_true rfl) (Nat.le_of_ble_eq_true rfl) (by omega) (h1) (fun z' S2 h2 => ?_)
      obtain ⟨rfl, hI2⟩ := h2
      refine j_lcmp dL_law_547 ?_
      refine j_ifeq 1358 dL_law_548 (by decide) (fun c_548 => ?_) (fun c_548 => absurd (lg_cmp0.mpr rfl) c_548)
      refine j_iinc3 (nI (6 * (c + 1))) dL_law_1358 (by rw [show 6 * (c + 1) = 6 * c + 6 by omega]; exact nI_add _ 6) rfl (by decide) ?_
      refine j_goto 18 dL_law_1361 (by decide) ?_
      exact ih (c + 1) S2 (by omega) (by omega) hI2
    by_cases h_33_11 : y_33 = 11
    · rw [h_33_11] at e_33 ⊢
      refine j_tblIn (520) 553 dL_law_33 (by decide) (by decide) rfl (by decide) ?_
      refine j_ald1 dL_law_553 ?_
      refine j_ald0 dL_law_554 ?_
      refine j_ild3 dL_law_555 ?_
      refine j_iconst (1) dL_law_556 rfl ?_
      refine j_iadd dL_law_557 ?_
      refine j_top (y := nI (6 * c + 1)) (by exact nI_add _ 1) ?_
      refine j_sld dL_law_558 (6 * c + 1) (by omega) hL ?_
      refine j_qiV1 dL_law_559 kX7_cheated lL_63 rfl (by decide) rfl (Nat.le_of_ble_eq_true rfl) (Nat.le_of_ble_eq_true rfl) (by omega) (pr_cheated hI) (fun z S1 h1 => ?_)
      refine j_ald2 dL_law_562 ?_
      refine j_ald0 dL_law_563 ?_
      refine j_ild3 dL_law_564 ?_
      refine j_iconst (1) dL_law_565 rfl ?_
      refine j_iadd dL_law_566 ?_
      refine j_top (y := nI (6 * c + 1)) (by exact nI_add _ 1) ?_
      refine j_sld dL_law_567 (6 * c + 1) (by omega) hL ?_
      refine j_qiV1 dL_law_568 kX8_cheated lL_66 rfl (by decide) rfl (Nat.le_of_ble_eq_true rfl) (Nat.le_of_ble_eq_true rfl) (by omega) (h1) (fun z' S2 h2 => ?_)
      obtain ⟨rfl, hI2⟩ := h2
      refine j_icmpeq 1358 dL_law_571 (by decide) (fun c_571 => ?_) (fun c_571 => absurd (rfl) c_571)
      refine j_iinc3 (nI (6 * (c + 1))) dL_law_1358 (by rw [show 6 * (c + 1) = 6 * c + 6 by omega]; exact nI_add _ 6) rfl (by decide) ?_
      refine j_goto 18 dL_law_1361 (by decide) ?_
      exact ih (c + 1) S2 (by omega) (by omega) hI2
    by_cases h_33_12 : y_33 = 12
    · rw [h_33_12] at e_33 ⊢
      refine j_tblIn (543) 576 dL_law_33 (by decide) (by decide) rfl (by decide) ?_
      refine j_ald1 dL_law_576 ?_
      refine j_ald0 dL_law_577 ?_
      refine j_ild3 dL_law_578 ?_
      refine j_iconst (1) dL_law_579 rfl ?_
      refine j_iadd dL_law_580 ?_
      refine j_top (y := nI (6 * c + 1)) (by exact nI_add _ 1) ?_
      refine j_sld dL_law_581 (6 * c + 1) (by omega) hL ?_
      refine j_qiV1 dL_law_582 kX7_judge lL_67 rfl (by decide) rfl (Nat.le_of_ble_eq_true rfl) (Nat.le_of_ble_eq_true rfl) (by omega) (pr_judge hI) (fun z S1 h1 => ?_)
      refine j_ald2 dL_law_585 ?_
      refine j_ald0 dL_law_586 ?_
      refine j_ild3 dL_law_587 ?_
      refine j_iconst (1) dL_law_588 rfl ?_
      refine j_iadd dL_law_589 ?_
      refine j_top (y := nI (6 * c + 1)) (by exact nI_add _ 1) ?_
      refine j_sld dL_law_590 (6 * c + 1) (by omega) hL ?_
      refine j_qiV1 dL_law_591 kX8_judge lL_70 rfl (by decide) rfl (Nat.le_of_ble_eq_true rfl) (Nat.le_of_ble_eq_true rfl) (by omega) (h1) (fun z' S2 h2 => ?_)
      obtain ⟨rfl, hI2⟩ := h2
      refine j_icmpeq 1358 dL_law_594 (by decide) (fun c_594 => ?_) (fun c_594 => absurd (rfl) c_594)
      refine j_iinc3 (nI (6 * (c + 1))) dL_law_1358 (by rw [show 6 * (c + 1) = 6 * c + 6 by omega]; exact nI_add _ 6) rfl (by decide) ?_
      refine j_goto 18 dL_law_1361 (by decide) ?_
      exact ih (c + 1) S2 (by omega) (by omega) hI2
    by_cases h_33_13 : y_33 = 13
    · rw [h_33_13] at e_33 ⊢
      refine j_tblIn (566) 599 dL_law_33 (by decide) (by decide) rfl (by decide) ?_
      refine j_ald1 dL_law_599 ?_
      refine j_ald0 dL_law_600 ?_
      refine j_ild3 dL_law_601 ?_
      refine j_iconst (1) dL_law_602 rfl ?_
      refine j_iadd dL_law_603 ?_
      refine j_top (y := nI (6 * c + 1)) (by exact nI_add _ 1) ?_
      refine j_sld dL_law_604 (6 * c + 1) (by omega) hL ?_
      refine j_ald0 dL_law_605 ?_
      refine j_ild3 dL_law_606 ?_
      refine j_iconst (2) dL_law_607 rfl ?_
      refine j_iadd dL_law_608 ?_
      refine j_top (y := nI (6 * c + 2)) (by exact nI_add _ 2) ?_
      refine j_sld dL_law_609 (6 * c + 2) (by omega) hL ?_
      refine j_ald0 dL_law_610 ?_
      refine j_ild3 dL_law_611 ?_
      refine j_iconst (3) dL_law_612 rfl ?_
      refine j_iadd dL_law_613 ?_
      refine j_top (y := nI (6 * c + 3)) (by exact nI_add _ 3) ?_
      refine j_sld dL_law_614 (6 * c + 3) (by omega) hL ?_
      refine j_qlV3 dL_law_615 kX7_handed lL_71 rfl (by decide) rfl (Nat.le_of_ble_eq_true rfl) (Nat.le_of_ble_eq_true rfl) (by omega) (pr_handed hI) (fun z S1 h1 => ?_)
      refine j_ald2 dL_law_618 ?_
      refine j_ald0 dL_law_619 ?_
      refine j_ild3 dL_law_620 ?_
      refine j_iconst (1) dL_law_621 rfl ?_
      refine j_iadd dL_law_622 ?_
      refine j_top (y := nI (6 * c + 1)) (by exact nI_add _ 1) ?_
      refine j_sld dL_law_623 (6 * c + 1) (by omega) hL ?_
      refine j_ald0 dL_law_624 ?_
      refine j_ild3 dL_law_625 ?_
      refine j_iconst (2) dL_law_626 rfl ?_
      refine j_iadd dL_law_627 ?_
      refine j_top (y := nI (6 * c + 2)) (by exact nI_add _ 2) ?_
      refine j_sld dL_law_628 (6 * c + 2) (by omega) hL ?_
      refine j_ald0 dL_law_629 ?_
      refine j_ild3 dL_law_630 ?_
      refine j_iconst (3) dL_law_631 rfl ?_
      refine j_iadd dL_law_632 ?_
      refine j_top (y := nI (6 * c + 3)) (by exact nI_add _ 3) ?_
      refine j_sld dL_law_633 (6 * c + 3) (by omega) hL ?_
      refine j_qlV3 dL_law_634 kX8_handed lL_74 rfl (by decide) rfl (Nat.le_of_ble_eq_true rfl) (Nat.le_of_ble_eq_true rfl) (by omega) (h1) (fun z' S2 h2 => ?_)
      obtain ⟨rfl, hI2⟩ := h2
      refine j_lcmp dL_law_637 ?_
      refine j_ifeq 1358 dL_law_638 (by decide) (fun c_638 => ?_) (fun c_638 => absurd (lg_cmp0.mpr rfl) c_638)
      refine j_iinc3 (nI (6 * (c + 1))) dL_law_1358 (by rw [show 6 * (c + 1) = 6 * c + 6 by omega]; exact nI_add _ 6) rfl (by decide) ?_
      refine j_goto 18 dL_law_1361 (by decide) ?_
      exact ih (c + 1) S2 (by omega) (by omega) hI2
    by_cases h_33_14 : y_33 = 14
    · rw [h_33_14] at e_33 ⊢
      refine j_tblIn (610) 643 dL_law_33 (by decide) (by decide) rfl (by decide) ?_
      refine j_ald1 dL_law_643 ?_
      refine j_ald0 dL_law_644 ?_
      refine j_ild3 dL_law_645 ?_
      refine j_iconst (1) dL_law_646 rfl ?_
      refine j_iadd dL_law_647 ?_
      refine j_top (y := nI (6 * c + 1)) (by exact nI_add _ 1) ?_
      refine j_sld dL_law_648 (6 * c + 1) (by omega) hL ?_
      refine j_ald0 dL_law_649 ?_
      refine j_ild3 dL_law_650 ?_
      refine j_iconst (2) dL_law_651 rfl ?_
      refine j_iadd dL_law_652 ?_
      refine j_top (y := nI (6 * c + 2)) (by exact nI_add _ 2) ?_
      refine j_sld dL_law_653 (6 * c + 2) (by omega) hL ?_
      refine j_qlV2 dL_law_654 kX7_ill lL_75 rfl (by decide) rfl (Nat.le_of_ble_eq_true rfl) (Nat.le_of_ble_eq_true rfl) (by omega) (pr_ill hI) (fun z S1 h1 => ?_)
      refine j_ald2 dL_law_657 ?_
      refine j_ald0 dL_law_658 ?_
      refine j_ild3 dL_law_659 ?_
      refine j_iconst (1) dL_law_660 rfl ?_
      refine j_iadd dL_law_661 ?_
      refine j_top (y := nI (6 * c + 1)) (by exact nI_add _ 1) ?_
      refine j_sld dL_law_662 (6 * c + 1) (by omega) hL ?_
      refine j_ald0 dL_law_663 ?_
      refine j_ild3 dL_law_664 ?_
      refine j_iconst (2) dL_law_665 rfl ?_
      refine j_iadd dL_law_666 ?_
      refine j_top (y := nI (6 * c + 2)) (by exact nI_add _ 2) ?_
      refine j_sld dL_law_667 (6 * c + 2) (by omega) hL ?_
      refine j_qlV2 dL_law_668 kX8_ill lL_78 rfl (by decide) rfl (Nat.le_of_ble_eq_true rfl) (Nat.le_of_ble_eq_true rfl) (by omega) (h1) (fun z' S2 h2 => ?_)
      obtain ⟨rfl, hI2⟩ := h2
      refine j_lcmp dL_law_671 ?_
      refine j_ifeq 1358 dL_law_672 (by decide) (fun c_672 => ?_) (fun c_672 => absurd (lg_cmp0.mpr rfl) c_672)
      refine j_iinc3 (nI (6 * (c + 1))) dL_law_1358 (by rw [show 6 * (c + 1) = 6 * c + 6 by omega]; exact nI_add _ 6) rfl (by decide) ?_
      refine j_goto 18 dL_law_1361 (by decide) ?_
      exact ih (c + 1) S2 (by omega) (by omega) hI2
    by_cases h_33_15 : y_33 = 15
    · rw [h_33_15] at e_33 ⊢
      refine j_tblIn (644) 677 dL_law_33 (by decide) (by decide) rfl (by decide) ?_
      refine j_ald1 dL_law_677 ?_
      refine j_ald0 dL_law_678 ?_
      refine j_ild3 dL_law_679 ?_
      refine j_iconst (1) dL_law_680 rfl ?_
      refine j_iadd dL_law_681 ?_
      refine j_top (y := nI (6 * c + 1)) (by exact nI_add _ 1) ?_
      refine j_sld dL_law_682 (6 * c + 1) (by omega) hL ?_
      refine j_ald0 dL_law_683 ?_
      refine j_ild3 dL_law_684 ?_
      refine j_iconst (2) dL_law_685 rfl ?_
      refine j_iadd dL_law_686 ?_
      refine j_top (y := nI (6 * c + 2)) (by exact nI_add _ 2) ?_
      refine j_sld dL_law_687 (6 * c + 2) (by omega) hL ?_
      refine j_qlV2 dL_law_688 kX7_order lL_79 rfl (by decide) rfl (Nat.le_of_ble_eq_true rfl) (Nat.le_of_ble_eq_true rfl) (by omega) (pr_order hI) (fun z S1 h1 => ?_)
      refine j_ald2 dL_law_691 ?_
      refine j_ald0 dL_law_692 ?_
      refine j_ild3 dL_law_693 ?_
      refine j_iconst (1) dL_law_694 rfl ?_
      refine j_iadd dL_law_695 ?_
      refine j_top (y := nI (6 * c + 1)) (by exact nI_add _ 1) ?_
      refine j_sld dL_law_696 (6 * c + 1) (by omega) hL ?_
      refine j_ald0 dL_law_697 ?_
      refine j_ild3 dL_law_698 ?_
      refine j_iconst (2) dL_law_699 rfl ?_
      refine j_iadd dL_law_700 ?_
      refine j_top (y := nI (6 * c + 2)) (by exact nI_add _ 2) ?_
      refine j_sld dL_law_701 (6 * c + 2) (by omega) hL ?_
      refine j_qlV2 dL_law_702 kX8_order lL_82 rfl (by decide) rfl (Nat.le_of_ble_eq_true rfl) (Nat.le_of_ble_eq_true rfl) (by omega) (h1) (fun z' S2 h2 => ?_)
      obtain ⟨rfl, hI2⟩ := h2
      refine j_lcmp dL_law_705 ?_
      refine j_ifeq 1358 dL_law_706 (by decide) (fun c_706 => ?_) (fun c_706 => absurd (lg_cmp0.mpr rfl) c_706)
      refine j_iinc3 (nI (6 * (c + 1))) dL_law_1358 (by rw [show 6 * (c + 1) = 6 * c + 6 by omega]; exact nI_add _ 6) rfl (by decide) ?_
      refine j_goto 18 dL_law_1361 (by decide) ?_
      exact ih (c + 1) S2 (by omega) (by omega) hI2
    by_cases h_33_16 : y_33 = 16
    · rw [h_33_16] at e_33 ⊢
      refine j_tblIn (678) 711 dL_law_33 (by decide) (by decide) rfl (by decide) ?_
      refine j_ald1 dL_law_711 ?_
      refine j_ald0 dL_law_712 ?_
      refine j_ild3 dL_law_713 ?_
      refine j_iconst (1) dL_law_714 rfl ?_
      refine j_iadd dL_law_715 ?_
      refine j_top (y := nI (6 * c + 1)) (by exact nI_add _ 1) ?_
      refine j_sld dL_law_716 (6 * c + 1) (by omega) hL ?_
      refine j_ald0 dL_law_717 ?_
      refine j_ild3 dL_law_718 ?_
      refine j_iconst (2) dL_law_719 rfl ?_
      refine j_iadd dL_law_720 ?_
      refine j_top (y := nI (6 * c + 2)) (by exact nI_add _ 2) ?_
      refine j_sld dL_law_721 (6 * c + 2) (by omega) hL ?_
      refine j_qlV2 dL_law_722 kX7_isSo lL_83 rfl (by decide) rfl (Nat.le_of_ble_eq_true rfl) (Nat.le_of_ble_eq_true rfl) (by omega) (pr_isSo hI) (fun z S1 h1 => ?_)
      refine j_ald2 dL_law_725 ?_
      refine j_ald0 dL_law_726 ?_
      refine j_ild3 dL_law_727 ?_
      refine j_iconst (1) dL_law_728 rfl ?_
      refine j_iadd dL_law_729 ?_
      refine j_top (y := nI (6 * c + 1)) (by exact nI_add _ 1) ?_
      refine j_sld dL_law_730 (6 * c + 1) (by omega) hL ?_
      refine j_ald0 dL_law_731 ?_
      refine j_ild3 dL_law_732 ?_
      refine j_iconst (2) dL_law_733 rfl ?_
      refine j_iadd dL_law_734 ?_
      refine j_top (y := nI (6 * c + 2)) (by exact nI_add _ 2) ?_
      refine j_sld dL_law_735 (6 * c + 2) (by omega) hL ?_
      refine j_qlV2 dL_law_736 kX8_isSo lL_86 rfl (by decide) rfl (Nat.le_of_ble_eq_true rfl) (Nat.le_of_ble_eq_true rfl) (by omega) (h1) (fun z' S2 h2 => ?_)
      obtain ⟨rfl, hI2⟩ := h2
      refine j_lcmp dL_law_739 ?_
      refine j_ifeq 1358 dL_law_740 (by decide) (fun c_740 => ?_) (fun c_740 => absurd (lg_cmp0.mpr rfl) c_740)
      refine j_iinc3 (nI (6 * (c + 1))) dL_law_1358 (by rw [show 6 * (c + 1) = 6 * c + 6 by omega]; exact nI_add _ 6) rfl (by decide) ?_
      refine j_goto 18 dL_law_1361 (by decide) ?_
      exact ih (c + 1) S2 (by omega) (by omega) hI2
    by_cases h_33_17 : y_33 = 17
    · rw [h_33_17] at e_33 ⊢
      refine j_tblIn (712) 745 dL_law_33 (by decide) (by decide) rfl (by decide) ?_
      refine j_ald1 dL_law_745 ?_
      refine j_ald0 dL_law_746 ?_
      refine j_ild3 dL_law_747 ?_
      refine j_iconst (1) dL_law_748 rfl ?_
      refine j_iadd dL_law_749 ?_
      refine j_top (y := nI (6 * c + 1)) (by exact nI_add _ 1) ?_
      refine j_sld dL_law_750 (6 * c + 1) (by omega) hL ?_
      refine j_ald0 dL_law_751 ?_
      refine j_ild3 dL_law_752 ?_
      refine j_iconst (2) dL_law_753 rfl ?_
      refine j_iadd dL_law_754 ?_
      refine j_top (y := nI (6 * c + 2)) (by exact nI_add _ 2) ?_
      refine j_sld dL_law_755 (6 * c + 2) (by omega) hL ?_
      refine j_qlV2 dL_law_756 kX7_tooMany lL_87 rfl (by decide) rfl (Nat.le_of_ble_eq_true rfl) (Nat.le_of_ble_eq_true rfl) (by omega) (pr_tooMany hI) (fun z S1 h1 => ?_)
      refine j_ald2 dL_law_759 ?_
      refine j_ald0 dL_law_760 ?_
      refine j_ild3 dL_law_761 ?_
      refine j_iconst (1) dL_law_762 rfl ?_
      refine j_iadd dL_law_763 ?_
      refine j_top (y := nI (6 * c + 1)) (by exact nI_add _ 1) ?_
      refine j_sld dL_law_764 (6 * c + 1) (by omega) hL ?_
      refine j_ald0 dL_law_765 ?_
      refine j_ild3 dL_law_766 ?_
      refine j_iconst (2) dL_law_767 rfl ?_
      refine j_iadd dL_law_768 ?_
      refine j_top (y := nI (6 * c + 2)) (by exact nI_add _ 2) ?_
      refine j_sld dL_law_769 (6 * c + 2) (by omega) hL ?_
      refine j_qlV2 dL_law_770 kX8_tooMany lL_90 rfl (by decide) rfl (Nat.le_of_ble_eq_true rfl) (Nat.le_of_ble_eq_true rfl) (by omega) (h1) (fun z' S2 h2 => ?_)
      obtain ⟨rfl, hI2⟩ := h2
      refine j_lcmp dL_law_773 ?_
      refine j_ifeq 1358 dL_law_774 (by decide) (fun c_774 => ?_) (fun c_774 => absurd (lg_cmp0.mpr rfl) c_774)
      refine j_iinc3 (nI (6 * (c + 1))) dL_law_1358 (by rw [show 6 * (c + 1) = 6 * c + 6 by omega]; exact nI_add _ 6) rfl (by decide) ?_
      refine j_goto 18 dL_law_1361 (by decide) ?_
      exact ih (c + 1) S2 (by omega) (by omega) hI2
    by_cases h_33_18 : y_33 = 18
    · rw [h_33_18] at e_33 ⊢
      refine j_tblIn (746) 779 dL_law_33 (by decide) (by decide) rfl (by decide) ?_
      refine j_ald1 dL_law_779 ?_
      refine j_ald0 dL_law_780 ?_
      refine j_ild3 dL_law_781 ?_
      refine j_iconst (1) dL_law_782 rfl ?_
      refine j_iadd dL_law_783 ?_
      refine j_top (y := nI (6 * c + 1)) (by exact nI_add _ 1) ?_
      refine j_sld dL_law_784 (6 * c + 1) (by omega) hL ?_
      refine j_ald0 dL_law_785 ?_
      refine j_ild3 dL_law_786 ?_
      refine j_iconst (2) dL_law_787 rfl ?_
      refine j_iadd dL_law_788 ?_
      refine j_top (y := nI (6 * c + 2)) (by exact nI_add _ 2) ?_
      refine j_sld dL_law_789 (6 * c + 2) (by omega) hL ?_
      refine j_qlV2 dL_law_790 kX7_next lL_91 rfl (by decide) rfl (Nat.le_of_ble_eq_true rfl) (Nat.le_of_ble_eq_true rfl) (by omega) (pr_next hI) (fun z S1 h1 => ?_)
      refine j_ald2 dL_law_793 ?_
      refine j_ald0 dL_law_794 ?_
      refine j_ild3 dL_law_795 ?_
      refine j_iconst (1) dL_law_796 rfl ?_
      refine j_iadd dL_law_797 ?_
      refine j_top (y := nI (6 * c + 1)) (by exact nI_add _ 1) ?_
      refine j_sld dL_law_798 (6 * c + 1) (by omega) hL ?_
      refine j_ald0 dL_law_799 ?_
      refine j_ild3 dL_law_800 ?_
      refine j_iconst (2) dL_law_801 rfl ?_
      refine j_iadd dL_law_802 ?_
      refine j_top (y := nI (6 * c + 2)) (by exact nI_add _ 2) ?_
      refine j_sld dL_law_803 (6 * c + 2) (by omega) hL ?_
      refine j_qlV2 dL_law_804 kX8_next lL_94 rfl (by decide) rfl (Nat.le_of_ble_eq_true rfl) (Nat.le_of_ble_eq_true rfl) (by omega) (h1) (fun z' S2 h2 => ?_)
      obtain ⟨rfl, hI2⟩ := h2
      refine j_lcmp dL_law_807 ?_
      refine j_ifeq 1358 dL_law_808 (by decide) (fun c_808 => ?_) (fun c_808 => absurd (lg_cmp0.mpr rfl) c_808)
      refine j_iinc3 (nI (6 * (c + 1))) dL_law_1358 (by rw [show 6 * (c + 1) = 6 * c + 6 by omega]; exact nI_add _ 6) rfl (by decide) ?_
      refine j_goto 18 dL_law_1361 (by decide) ?_
      exact ih (c + 1) S2 (by omega) (by omega) hI2
    by_cases h_33_19 : y_33 = 19
    · rw [h_33_19] at e_33 ⊢
      refine j_tblIn (780) 813 dL_law_33 (by decide) (by decide) rfl (by decide) ?_
      refine j_ald1 dL_law_813 ?_
      refine j_ald0 dL_law_814 ?_
      refine j_ild3 dL_law_815 ?_
      refine j_iconst (1) dL_law_816 rfl ?_
      refine j_iadd dL_law_817 ?_
      refine j_top (y := nI (6 * c + 1)) (by exact nI_add _ 1) ?_
      refine j_sld dL_law_818 (6 * c + 1) (by omega) hL ?_
      refine j_qiV1 dL_law_819 kX7_sure lL_95 rfl (by decide) rfl (Nat.le_of_ble_eq_true rfl) (Nat.le_of_ble_eq_true rfl) (by omega) (pr_sure hI) (fun z S1 h1 => ?_)
      refine j_ald2 dL_law_822 ?_
      refine j_ald0 dL_law_823 ?_
      refine j_ild3 dL_law_824 ?_
      refine j_iconst (1) dL_law_825 rfl ?_
      refine j_iadd dL_law_826 ?_
      refine j_top (y := nI (6 * c + 1)) (by exact nI_add _ 1) ?_
      refine j_sld dL_law_827 (6 * c + 1) (by omega) hL ?_
      refine j_qiV1 dL_law_828 kX8_sure lL_98 rfl (by decide) rfl (Nat.le_of_ble_eq_true rfl) (Nat.le_of_ble_eq_true rfl) (by omega) (h1) (fun z' S2 h2 => ?_)
      obtain ⟨rfl, hI2⟩ := h2
      refine j_icmpeq 1358 dL_law_831 (by decide) (fun c_831 => ?_) (fun c_831 => absurd (rfl) c_831)
      refine j_iinc3 (nI (6 * (c + 1))) dL_law_1358 (by rw [show 6 * (c + 1) = 6 * c + 6 by omega]; exact nI_add _ 6) rfl (by decide) ?_
      refine j_goto 18 dL_law_1361 (by decide) ?_
      exact ih (c + 1) S2 (by omega) (by omega) hI2
    by_cases h_33_20 : y_33 = 20
    · rw [h_33_20] at e_33 ⊢
      refine j_tblIn (803) 836 dL_law_33 (by decide) (by decide) rfl (by decide) ?_
      refine j_ald1 dL_law_836 ?_
      refine j_ald0 dL_law_837 ?_
      refine j_ild3 dL_law_838 ?_
      refine j_iconst (1) dL_law_839 rfl ?_
      refine j_iadd dL_law_840 ?_
      refine j_top (y := nI (6 * c + 1)) (by exact nI_add _ 1) ?_
      refine j_sld dL_law_841 (6 * c + 1) (by omega) hL ?_
      refine j_ald0 dL_law_842 ?_
      refine j_ild3 dL_law_843 ?_
      refine j_iconst (2) dL_law_844 rfl ?_
      refine j_iadd dL_law_845 ?_
      refine j_top (y := nI (6 * c + 2)) (by exact nI_add _ 2) ?_
      refine j_sld dL_law_846 (6 * c + 2) (by omega) hL ?_
      refine j_ald0 dL_law_847 ?_
      refine j_ild3 dL_law_848 ?_
      refine j_iconst (3) dL_law_849 rfl ?_
      refine j_iadd dL_law_850 ?_
      refine j_top (y := nI (6 * c + 3)) (by exact nI_add _ 3) ?_
      refine j_sld dL_law_851 (6 * c + 3) (by omega) hL ?_
      refine j_qiV3 dL_law_852 kX7_drawn lL_99 rfl (by decide) rfl (Nat.le_of_ble_eq_true rfl) (Nat.le_of_ble_eq_true rfl) (by omega) (pr_drawn hI) (fun z S1 h1 => ?_)
      refine j_ald2 dL_law_855 ?_
      refine j_ald0 dL_law_856 ?_
      refine j_ild3 dL_law_857 ?_
      refine j_iconst (1) dL_law_858 rfl ?_
      refine j_iadd dL_law_859 ?_
      refine j_top (y := nI (6 * c + 1)) (by exact nI_add _ 1) ?_
      refine j_sld dL_law_860 (6 * c + 1) (by omega) hL ?_
      refine j_ald0 dL_law_861 ?_
      refine j_ild3 dL_law_862 ?_
      refine j_iconst (2) dL_law_863 rfl ?_
      refine j_iadd dL_law_864 ?_
      refine j_top (y := nI (6 * c + 2)) (by exact nI_add _ 2) ?_
      refine j_sld dL_law_865 (6 * c + 2) (by omega) hL ?_
      refine j_ald0 dL_law_866 ?_
      refine j_ild3 dL_law_867 ?_
      refine j_iconst (3) dL_law_868 rfl ?_
      refine j_iadd dL_law_869 ?_
      refine j_top (y := nI (6 * c + 3)) (by exact nI_add _ 3) ?_
      refine j_sld dL_law_870 (6 * c + 3) (by omega) hL ?_
      refine j_qiV3 dL_law_871 kX8_drawn lL_102 rfl (by decide) rfl (Nat.le_of_ble_eq_true rfl) (Nat.le_of_ble_eq_true rfl) (by omega) (h1) (fun z' S2 h2 => ?_)
      obtain ⟨rfl, hI2⟩ := h2
      refine j_icmpeq 1358 dL_law_874 (by decide) (fun c_874 => ?_) (fun c_874 => absurd (rfl) c_874)
      refine j_iinc3 (nI (6 * (c + 1))) dL_law_1358 (by rw [show 6 * (c + 1) = 6 * c + 6 by omega]; exact nI_add _ 6) rfl (by decide) ?_
      refine j_goto 18 dL_law_1361 (by decide) ?_
      exact ih (c + 1) S2 (by omega) (by omega) hI2
    by_cases h_33_21 : y_33 = 21
    · rw [h_33_21] at e_33 ⊢
      refine j_tblIn (846) 879 dL_law_33 (by decide) (by decide) rfl (by decide) ?_
      refine j_ald1 dL_law_879 ?_
      refine j_ald0 dL_law_880 ?_
      refine j_ild3 dL_law_881 ?_
      refine j_iconst (1) dL_law_882 rfl ?_
      refine j_iadd dL_law_883 ?_
      refine j_top (y := nI (6 * c + 1)) (by exact nI_add _ 1) ?_
      refine j_sld dL_law_884 (6 * c + 1) (by omega) hL ?_
      refine j_qiV1 dL_law_885 kX7_draw lL_103 rfl (by decide) rfl (Nat.le_of_ble_eq_true rfl) (Nat.le_of_ble_eq_true rfl) (by omega) (pr_draw hI) (fun z S1 h1 => ?_)
      refine j_ald2 dL_law_888 ?_
      refine j_ald0 dL_law_889 ?_
      refine j_ild3 dL_law_890 ?_
      refine j_iconst (1) dL_law_891 rfl ?_
      refine j_iadd dL_law_892 ?_
      refine j_top (y := nI (6 * c + 1)) (by exact nI_add _ 1) ?_
      refine j_sld dL_law_893 (6 * c + 1) (by omega) hL ?_
      refine j_qiV1 dL_law_894 kX8_draw lL_106 rfl (by decide) rfl (Nat.le_of_ble_eq_true rfl) (Nat.le_of_ble_eq_true rfl) (by omega) (h1) (fun z' S2 h2 => ?_)
      obtain ⟨rfl, hI2⟩ := h2
      refine j_icmpeq 1358 dL_law_897 (by decide) (fun c_897 => ?_) (fun c_897 => absurd (rfl) c_897)
      refine j_iinc3 (nI (6 * (c + 1))) dL_law_1358 (by rw [show 6 * (c + 1) = 6 * c + 6 by omega]; exact nI_add _ 6) rfl (by decide) ?_
      refine j_goto 18 dL_law_1361 (by decide) ?_
      exact ih (c + 1) S2 (by omega) (by omega) hI2
    by_cases h_33_22 : y_33 = 22
    · rw [h_33_22] at e_33 ⊢
      refine j_tblIn (869) 902 dL_law_33 (by decide) (by decide) rfl (by decide) ?_
      refine j_ald1 dL_law_902 ?_
      refine j_qiV0 dL_law_903 kX7_putBack lL_107 rfl (by decide) rfl (Nat.le_of_ble_eq_true rfl) (Nat.le_of_ble_eq_true rfl) (by omega) (pr_putBack (show c ≤ 2 ^ 20 by omega) hI) (fun z S1 h1 => ?_)
      refine j_ald2 dL_law_906 ?_
      refine j_qiV0 dL_law_907 kX8_putBack lL_110 rfl (by decide) rfl (Nat.le_of_ble_eq_true rfl) (Nat.le_of_ble_eq_true rfl) (by omega) (h1) (fun z' S2 h2 => ?_)
      obtain ⟨rfl, hI2⟩ := h2
      refine j_icmpeq 1358 dL_law_910 (by decide) (fun c_910 => ?_) (fun c_910 => absurd (rfl) c_910)
      refine j_iinc3 (nI (6 * (c + 1))) dL_law_1358 (by rw [show 6 * (c + 1) = 6 * c + 6 by omega]; exact nI_add _ 6) rfl (by decide) ?_
      refine j_goto 18 dL_law_1361 (by decide) ?_
      exact ih (c + 1) S2 (by omega) (by omega) hI2
    by_cases h_33_23 : y_33 = 23
    · rw [h_33_23] at e_33 ⊢
      refine j_tblIn (882) 915 dL_law_33 (by decide) (by decide) rfl (by decide) ?_
      refine j_ald1 dL_law_915 ?_
      refine j_qiV0 dL_law_916 kX7_image lL_111 rfl (by decide) rfl (Nat.le_of_ble_eq_true rfl) (Nat.le_of_ble_eq_true rfl) (by omega) (pr_image hI) (fun z S1 h1 => ?_)
      refine j_ald2 dL_law_919 ?_
      refine j_qiV0 dL_law_920 kX8_image lL_114 rfl (by decide) rfl (Nat.le_of_ble_eq_true rfl) (Nat.le_of_ble_eq_true rfl) (by omega) (h1) (fun z' S2 h2 => ?_)
      obtain ⟨rfl, hI2⟩ := h2
      refine j_icmpeq 1358 dL_law_923 (by decide) (fun c_923 => ?_) (fun c_923 => absurd (rfl) c_923)
      refine j_iinc3 (nI (6 * (c + 1))) dL_law_1358 (by rw [show 6 * (c + 1) = 6 * c + 6 by omega]; exact nI_add _ 6) rfl (by decide) ?_
      refine j_goto 18 dL_law_1361 (by decide) ?_
      exact ih (c + 1) S2 (by omega) (by omega) hI2
    by_cases h_33_24 : y_33 = 24
    · rw [h_33_24] at e_33 ⊢
      refine j_tblIn (895) 928 dL_law_33 (by decide) (by decide) rfl (by decide) ?_
      refine j_ald1 dL_law_928 ?_
      refine j_qiV0 dL_law_929 kX7_back lL_115 rfl (by decide) rfl (Nat.le_of_ble_eq_true rfl) (Nat.le_of_ble_eq_true rfl) (by omega) (pr_back hI) (fun z S1 h1 => ?_)
      refine j_ald2 dL_law_932 ?_
      refine j_qiV0 dL_law_933 kX8_back lL_118 rfl (by decide) rfl (Nat.le_of_ble_eq_true rfl) (Nat.le_of_ble_eq_true rfl) (by omega) (h1) (fun z' S2 h2 => ?_)
      obtain ⟨rfl, hI2⟩ := h2
      refine j_icmpeq 1358 dL_law_936 (by decide) (fun c_936 => ?_) (fun c_936 => absurd (rfl) c_936)
      refine j_iinc3 (nI (6 * (c + 1))) dL_law_1358 (by rw [show 6 * (c + 1) = 6 * c + 6 by omega]; exact nI_add _ 6) rfl (by decide) ?_
      refine j_goto 18 dL_law_1361 (by decide) ?_
      exact ih (c + 1) S2 (by omega) (by omega) hI2
    by_cases h_33_25 : y_33 = 25
    · rw [h_33_25] at e_33 ⊢
      refine j_tblIn (908) 941 dL_law_33 (by decide) (by decide) rfl (by decide) ?_
      refine j_ald1 dL_law_941 ?_
      refine j_qiV0 dL_law_942 kX7_undo lL_119 rfl (by decide) rfl (Nat.le_of_ble_eq_true rfl) (Nat.le_of_ble_eq_true rfl) (by omega) (pr_undo hI) (fun z S1 h1 => ?_)
      refine j_ald2 dL_law_945 ?_
      refine j_qiV0 dL_law_946 kX8_undo lL_122 rfl (by decide) rfl (Nat.le_of_ble_eq_true rfl) (Nat.le_of_ble_eq_true rfl) (by omega) (h1) (fun z' S2 h2 => ?_)
      obtain ⟨rfl, hI2⟩ := h2
      refine j_icmpeq 1358 dL_law_949 (by decide) (fun c_949 => ?_) (fun c_949 => absurd (rfl) c_949)
      refine j_iinc3 (nI (6 * (c + 1))) dL_law_1358 (by rw [show 6 * (c + 1) = 6 * c + 6 by omega]; exact nI_add _ 6) rfl (by decide) ?_
      refine j_goto 18 dL_law_1361 (by decide) ?_
      exact ih (c + 1) S2 (by omega) (by omega) hI2
    by_cases h_33_26 : y_33 = 26
    · rw [h_33_26] at e_33 ⊢
      refine j_tblIn (921) 954 dL_law_33 (by decide) (by decide) rfl (by decide) ?_
      refine j_ald1 dL_law_954 ?_
      refine j_qiV0 dL_law_955 kX7_redo lL_123 rfl (by decide) rfl (Nat.le_of_ble_eq_true rfl) (Nat.le_of_ble_eq_true rfl) (by omega) (pr_redo hI) (fun z S1 h1 => ?_)
      refine j_ald2 dL_law_958 ?_
      refine j_qiV0 dL_law_959 kX8_redo lL_126 rfl (by decide) rfl (Nat.le_of_ble_eq_true rfl) (Nat.le_of_ble_eq_true rfl) (by omega) (h1) (fun z' S2 h2 => ?_)
      obtain ⟨rfl, hI2⟩ := h2
      refine j_icmpeq 1358 dL_law_962 (by decide) (fun c_962 => ?_) (fun c_962 => absurd (rfl) c_962)
      refine j_iinc3 (nI (6 * (c + 1))) dL_law_1358 (by rw [show 6 * (c + 1) = 6 * c + 6 by omega]; exact nI_add _ 6) rfl (by decide) ?_
      refine j_goto 18 dL_law_1361 (by decide) ?_
      exact ih (c + 1) S2 (by omega) (by omega) hI2
    by_cases h_33_27 : y_33 = 27
    · rw [h_33_27] at e_33 ⊢
      refine j_tblIn (934) 967 dL_law_33 (by decide) (by decide) rfl (by decide) ?_
      refine j_ald1 dL_law_967 ?_
      refine j_ald0 dL_law_968 ?_
      refine j_ild3 dL_law_969 ?_
      refine j_iconst (1) dL_law_970 rfl ?_
      refine j_iadd dL_law_971 ?_
      refine j_top (y := nI (6 * c + 1)) (by exact nI_add _ 1) ?_
      refine j_sld dL_law_972 (6 * c + 1) (by omega) hL ?_
      refine j_qiV1 dL_law_973 kX7_body lL_127 rfl (by decide) rfl (Nat.le_of_ble_eq_true rfl) (Nat.le_of_ble_eq_true rfl) (by omega) (pr_body hI) (fun z S1 h1 => ?_)
      refine j_ald2 dL_law_976 ?_
      refine j_ald0 dL_law_977 ?_
      refine j_ild3 dL_law_978 ?_
      refine j_iconst (1) dL_law_979 rfl ?_
      refine j_iadd dL_law_980 ?_
      refine j_top (y := nI (6 * c + 1)) (by exact nI_add _ 1) ?_
      refine j_sld dL_law_981 (6 * c + 1) (by omega) hL ?_
      refine j_qiV1 dL_law_982 kX8_body lL_130 rfl (by decide) rfl (Nat.le_of_ble_eq_true rfl) (Nat.le_of_ble_eq_true rfl) (by omega) (h1) (fun z' S2 h2 => ?_)
      obtain ⟨rfl, hI2⟩ := h2
      refine j_icmpeq 1358 dL_law_985 (by decide) (fun c_985 => ?_) (fun c_985 => absurd (rfl) c_985)
      refine j_iinc3 (nI (6 * (c + 1))) dL_law_1358 (by rw [show 6 * (c + 1) = 6 * c + 6 by omega]; exact nI_add _ 6) rfl (by decide) ?_
      refine j_goto 18 dL_law_1361 (by decide) ?_
      exact ih (c + 1) S2 (by omega) (by omega) hI2
    by_cases h_33_28 : y_33 = 28
    · rw [h_33_28] at e_33 ⊢
      refine j_tblIn (957) 990 dL_law_33 (by decide) (by decide) rfl (by decide) ?_
      refine j_ald1 dL_law_990 ?_
      refine j_ald0 dL_law_991 ?_
      refine j_ild3 dL_law_992 ?_
      refine j_iconst (1) dL_law_993 rfl ?_
      refine j_iadd dL_law_994 ?_
      refine j_top (y := nI (6 * c + 1)) (by exact nI_add _ 1) ?_
      refine j_sld dL_law_995 (6 * c + 1) (by omega) hL ?_
      refine j_ald0 dL_law_996 ?_
      refine j_ild3 dL_law_997 ?_
      refine j_iconst (2) dL_law_998 rfl ?_
      refine j_iadd dL_law_999 ?_
      refine j_top (y := nI (6 * c + 2)) (by exact nI_add _ 2) ?_
      refine j_sld dL_law_1000 (6 * c + 2) (by omega) hL ?_
      refine j_ald0 dL_law_1001 ?_
      refine j_ild3 dL_law_1002 ?_
      refine j_iconst (3) dL_law_1003 rfl ?_
      refine j_iadd dL_law_1004 ?_
      refine j_top (y := nI (6 * c + 3)) (by exact nI_add _ 3) ?_
      refine j_sld dL_law_1005 (6 * c + 3) (by omega) hL ?_
      refine j_qiV3 dL_law_1006 kX7_act lL_131 rfl (by decide) rfl (Nat.le_of_ble_eq_true rfl) (Nat.le_of_ble_eq_true rfl) (by omega) (pr_act hI) (fun z S1 h1 => ?_)
      refine j_ald2 dL_law_1009 ?_
      refine j_ald0 dL_law_1010 ?_
      refine j_ild3 dL_law_1011 ?_
      refine j_iconst (1) dL_law_1012 rfl ?_
      refine j_iadd dL_law_1013 ?_
      refine j_top (y := nI (6 * c + 1)) (by exact nI_add _ 1) ?_
      refine j_sld dL_law_1014 (6 * c + 1) (by omega) hL ?_
      refine j_ald0 dL_law_1015 ?_
      refine j_ild3 dL_law_1016 ?_
      refine j_iconst (2) dL_law_1017 rfl ?_
      refine j_iadd dL_law_1018 ?_
      refine j_top (y := nI (6 * c + 2)) (by exact nI_add _ 2) ?_
      refine j_sld dL_law_1019 (6 * c + 2) (by omega) hL ?_
      refine j_ald0 dL_law_1020 ?_
      refine j_ild3 dL_law_1021 ?_
      refine j_iconst (3) dL_law_1022 rfl ?_
      refine j_iadd dL_law_1023 ?_
      refine j_top (y := nI (6 * c + 3)) (by exact nI_add _ 3) ?_
      refine j_sld dL_law_1024 (6 * c + 3) (by omega) hL ?_
      refine j_qiV3 dL_law_1025 kX8_act lL_134 rfl (by decide) rfl (Nat.le_of_ble_eq_true rfl) (Nat.le_of_ble_eq_true rfl) (by omega) (h1) (fun z' S2 h2 => ?_)
      obtain ⟨rfl, hI2⟩ := h2
      refine j_icmpeq 1358 dL_law_1028 (by decide) (fun c_1028 => ?_) (fun c_1028 => absurd (rfl) c_1028)
      refine j_iinc3 (nI (6 * (c + 1))) dL_law_1358 (by rw [show 6 * (c + 1) = 6 * c + 6 by omega]; exact nI_add _ 6) rfl (by decide) ?_
      refine j_goto 18 dL_law_1361 (by decide) ?_
      exact ih (c + 1) S2 (by omega) (by omega) hI2
    by_cases h_33_29 : y_33 = 29
    · rw [h_33_29] at e_33 ⊢
      refine j_tblIn (1000) 1033 dL_law_33 (by decide) (by decide) rfl (by decide) ?_
      refine j_ald1 dL_law_1033 ?_
      refine j_ald0 dL_law_1034 ?_
      refine j_ild3 dL_law_1035 ?_
      refine j_iconst (1) dL_law_1036 rfl ?_
      refine j_iadd dL_law_1037 ?_
      refine j_top (y := nI (6 * c + 1)) (by exact nI_add _ 1) ?_
      refine j_sld dL_law_1038 (6 * c + 1) (by omega) hL ?_
      refine j_qiV1 dL_law_1039 kX7_trace lL_135 rfl (by decide) rfl (Nat.le_of_ble_eq_true rfl) (Nat.le_of_ble_eq_true rfl) (by omega) (pr_trace hI) (fun z S1 h1 => ?_)
      refine j_ald2 dL_law_1042 ?_
      refine j_ald0 dL_law_1043 ?_
      refine j_ild3 dL_law_1044 ?_
      refine j_iconst (1) dL_law_1045 rfl ?_
      refine j_iadd dL_law_1046 ?_
      refine j_top (y := nI (6 * c + 1)) (by exact nI_add _ 1) ?_
      refine j_sld dL_law_1047 (6 * c + 1) (by omega) hL ?_
      refine j_qiV1 dL_law_1048 kX8_trace lL_138 rfl (by decide) rfl (Nat.le_of_ble_eq_true rfl) (Nat.le_of_ble_eq_true rfl) (by omega) (h1) (fun z' S2 h2 => ?_)
      obtain ⟨rfl, hI2⟩ := h2
      refine j_icmpeq 1358 dL_law_1051 (by decide) (fun c_1051 => ?_) (fun c_1051 => absurd (rfl) c_1051)
      refine j_iinc3 (nI (6 * (c + 1))) dL_law_1358 (by rw [show 6 * (c + 1) = 6 * c + 6 by omega]; exact nI_add _ 6) rfl (by decide) ?_
      refine j_goto 18 dL_law_1361 (by decide) ?_
      exact ih (c + 1) S2 (by omega) (by omega) hI2
    by_cases h_33_30 : y_33 = 30
    · rw [h_33_30] at e_33 ⊢
      refine j_tblIn (1023) 1056 dL_law_33 (by decide) (by decide) rfl (by decide) ?_
      refine j_ald1 dL_law_1056 ?_
      refine j_ald0 dL_law_1057 ?_
      refine j_ild3 dL_law_1058 ?_
      refine j_iconst (1) dL_law_1059 rfl ?_
      refine j_iadd dL_law_1060 ?_
      refine j_top (y := nI (6 * c + 1)) (by exact nI_add _ 1) ?_
      refine j_sld dL_law_1061 (6 * c + 1) (by omega) hL ?_
      refine j_ald0 dL_law_1062 ?_
      refine j_ild3 dL_law_1063 ?_
      refine j_iconst (2) dL_law_1064 rfl ?_
      refine j_iadd dL_law_1065 ?_
      refine j_top (y := nI (6 * c + 2)) (by exact nI_add _ 2) ?_
      refine j_sld dL_law_1066 (6 * c + 2) (by omega) hL ?_
      refine j_qiV2 dL_law_1067 kX7_keep lL_139 rfl (by decide) rfl (Nat.le_of_ble_eq_true rfl) (Nat.le_of_ble_eq_true rfl) (by omega) (pr_keep hI) (fun z S1 h1 => ?_)
      refine j_ald2 dL_law_1070 ?_
      refine j_ald0 dL_law_1071 ?_
      refine j_ild3 dL_law_1072 ?_
      refine j_iconst (1) dL_law_1073 rfl ?_
      refine j_iadd dL_law_1074 ?_
      refine j_top (y := nI (6 * c + 1)) (by exact nI_add _ 1) ?_
      refine j_sld dL_law_1075 (6 * c + 1) (by omega) hL ?_
      refine j_ald0 dL_law_1076 ?_
      refine j_ild3 dL_law_1077 ?_
      refine j_iconst (2) dL_law_1078 rfl ?_
      refine j_iadd dL_law_1079 ?_
      refine j_top (y := nI (6 * c + 2)) (by exact nI_add _ 2) ?_
      refine j_sld dL_law_1080 (6 * c + 2) (by omega) hL ?_
      refine j_qiV2 dL_law_1081 kX8_keep lL_142 rfl (by decide) rfl (Nat.le_of_ble_eq_true rfl) (Nat.le_of_ble_eq_true rfl) (by omega) (h1) (fun z' S2 h2 => ?_)
      obtain ⟨rfl, hI2⟩ := h2
      refine j_icmpeq 1358 dL_law_1084 (by decide) (fun c_1084 => ?_) (fun c_1084 => absurd (rfl) c_1084)
      refine j_iinc3 (nI (6 * (c + 1))) dL_law_1358 (by rw [show 6 * (c + 1) = 6 * c + 6 by omega]; exact nI_add _ 6) rfl (by decide) ?_
      refine j_goto 18 dL_law_1361 (by decide) ?_
      exact ih (c + 1) S2 (by omega) (by omega) hI2
    by_cases h_33_31 : y_33 = 31
    · rw [h_33_31] at e_33 ⊢
      refine j_tblIn (1056) 1089 dL_law_33 (by decide) (by decide) rfl (by decide) ?_
      refine j_ald1 dL_law_1089 ?_
      refine j_ald0 dL_law_1090 ?_
      refine j_ild3 dL_law_1091 ?_
      refine j_iconst (1) dL_law_1092 rfl ?_
      refine j_iadd dL_law_1093 ?_
      refine j_top (y := nI (6 * c + 1)) (by exact nI_add _ 1) ?_
      refine j_sld dL_law_1094 (6 * c + 1) (by omega) hL ?_
      refine j_ald0 dL_law_1095 ?_
      refine j_ild3 dL_law_1096 ?_
      refine j_iconst (2) dL_law_1097 rfl ?_
      refine j_iadd dL_law_1098 ?_
      refine j_top (y := nI (6 * c + 2)) (by exact nI_add _ 2) ?_
      refine j_sld dL_law_1099 (6 * c + 2) (by omega) hL ?_
      refine j_ald0 dL_law_1100 ?_
      refine j_ild3 dL_law_1101 ?_
      refine j_iconst (3) dL_law_1102 rfl ?_
      refine j_iadd dL_law_1103 ?_
      refine j_top (y := nI (6 * c + 3)) (by exact nI_add _ 3) ?_
      refine j_sld dL_law_1104 (6 * c + 3) (by omega) hL ?_
      refine j_qiV3 dL_law_1105 kX7_row lL_143 rfl (by decide) rfl (Nat.le_of_ble_eq_true rfl) (Nat.le_of_ble_eq_true rfl) (by omega) (pr_row hI) (fun z S1 h1 => ?_)
      refine j_ald2 dL_law_1108 ?_
      refine j_ald0 dL_law_1109 ?_
      refine j_ild3 dL_law_1110 ?_
      refine j_iconst (1) dL_law_1111 rfl ?_
      refine j_iadd dL_law_1112 ?_
      refine j_top (y := nI (6 * c + 1)) (by exact nI_add _ 1) ?_
      refine j_sld dL_law_1113 (6 * c + 1) (by omega) hL ?_
      refine j_ald0 dL_law_1114 ?_
      refine j_ild3 dL_law_1115 ?_
      refine j_iconst (2) dL_law_1116 rfl ?_
      refine j_iadd dL_law_1117 ?_
      refine j_top (y := nI (6 * c + 2)) (by exact nI_add _ 2) ?_
      refine j_sld dL_law_1118 (6 * c + 2) (by omega) hL ?_
      refine j_ald0 dL_law_1119 ?_
      refine j_ild3 dL_law_1120 ?_
      refine j_iconst (3) dL_law_1121 rfl ?_
      refine j_iadd dL_law_1122 ?_
      refine j_top (y := nI (6 * c + 3)) (by exact nI_add _ 3) ?_
      refine j_sld dL_law_1123 (6 * c + 3) (by omega) hL ?_
      refine j_qiV3 dL_law_1124 kX8_row lL_146 rfl (by decide) rfl (Nat.le_of_ble_eq_true rfl) (Nat.le_of_ble_eq_true rfl) (by omega) (h1) (fun z' S2 h2 => ?_)
      obtain ⟨rfl, hI2⟩ := h2
      refine j_icmpeq 1358 dL_law_1127 (by decide) (fun c_1127 => ?_) (fun c_1127 => absurd (rfl) c_1127)
      refine j_iinc3 (nI (6 * (c + 1))) dL_law_1358 (by rw [show 6 * (c + 1) = 6 * c + 6 by omega]; exact nI_add _ 6) rfl (by decide) ?_
      refine j_goto 18 dL_law_1361 (by decide) ?_
      exact ih (c + 1) S2 (by omega) (by omega) hI2
    by_cases h_33_32 : y_33 = 32
    · rw [h_33_32] at e_33 ⊢
      refine j_tblIn (1099) 1132 dL_law_33 (by decide) (by decide) rfl (by decide) ?_
      refine j_ald1 dL_law_1132 ?_
      refine j_ald0 dL_law_1133 ?_
      refine j_ild3 dL_law_1134 ?_
      refine j_iconst (1) dL_law_1135 rfl ?_
      refine j_iadd dL_law_1136 ?_
      refine j_top (y := nI (6 * c + 1)) (by exact nI_add _ 1) ?_
      refine j_sld dL_law_1137 (6 * c + 1) (by omega) hL ?_
      refine j_ald0 dL_law_1138 ?_
      refine j_ild3 dL_law_1139 ?_
      refine j_iconst (2) dL_law_1140 rfl ?_
      refine j_iadd dL_law_1141 ?_
      refine j_top (y := nI (6 * c + 2)) (by exact nI_add _ 2) ?_
      refine j_sld dL_law_1142 (6 * c + 2) (by omega) hL ?_
      refine j_ald0 dL_law_1143 ?_
      refine j_ild3 dL_law_1144 ?_
      refine j_iconst (3) dL_law_1145 rfl ?_
      refine j_iadd dL_law_1146 ?_
      refine j_top (y := nI (6 * c + 3)) (by exact nI_add _ 3) ?_
      refine j_sld dL_law_1147 (6 * c + 3) (by omega) hL ?_
      refine j_i2l dL_law_1148 ?_
      refine j_bipush (32) dL_law_1149 rfl ?_
      refine j_lshl dL_law_1151 ?_
      refine j_ald0 dL_law_1152 ?_
      refine j_ild3 dL_law_1153 ?_
      refine j_iconst (4) dL_law_1154 rfl ?_
      refine j_iadd dL_law_1155 ?_
      refine j_top (y := nI (6 * c + 4)) (by exact nI_add _ 4) ?_
      refine j_sld dL_law_1156 (6 * c + 4) (by omega) hL ?_
      refine j_i2l dL_law_1157 ?_
      refine j_ldc2_w (v := 4294967295) dL_law_1158 qL_147 ?_
      refine j_land dL_law_1161 ?_
      refine j_lor dL_law_1162 ?_
      refine j_qiV3 dL_law_1163 kX7_put lL_149 rfl (by decide) rfl (Nat.le_of_ble_eq_true rfl) (Nat.le_of_ble_eq_true rfl) (by omega) (pr_put hI) (fun z S1 h1 => ?_)
      refine j_ald2 dL_law_1166 ?_
      refine j_ald0 dL_law_1167 ?_
      refine j_ild3 dL_law_1168 ?_
      refine j_iconst (1) dL_law_1169 rfl ?_
      refine j_iadd dL_law_1170 ?_
      refine j_top (y := nI (6 * c + 1)) (by exact nI_add _ 1) ?_
      refine j_sld dL_law_1171 (6 * c + 1) (by omega) hL ?_
      refine j_ald0 dL_law_1172 ?_
      refine j_ild3 dL_law_1173 ?_
      refine j_iconst (2) dL_law_1174 rfl ?_
      refine j_iadd dL_law_1175 ?_
      refine j_top (y := nI (6 * c + 2)) (by exact nI_add _ 2) ?_
      refine j_sld dL_law_1176 (6 * c + 2) (by omega) hL ?_
      refine j_ald0 dL_law_1177 ?_
      refine j_ild3 dL_law_1178 ?_
      refine j_iconst (3) dL_law_1179 rfl ?_
      refine j_iadd dL_law_1180 ?_
      refine j_top (y := nI (6 * c + 3)) (by exact nI_add _ 3) ?_
      refine j_sld dL_law_1181 (6 * c + 3) (by omega) hL ?_
      refine j_i2l dL_law_1182 ?_
      refine j_bipush (32) dL_law_1183 rfl ?_
      refine j_lshl dL_law_1185 ?_
      refine j_ald0 dL_law_1186 ?_
      refine j_ild3 dL_law_1187 ?_
      refine j_iconst (4) dL_law_1188 rfl ?_
      refine j_iadd dL_law_1189 ?_
      refine j_top (y := nI (6 * c + 4)) (by exact nI_add _ 4) ?_
      refine j_sld dL_law_1190 (6 * c + 4) (by omega) hL ?_
      refine j_i2l dL_law_1191 ?_
      refine j_ldc2_w (v := 4294967295) dL_law_1192 qL_147 ?_
      refine j_land dL_law_1195 ?_
      refine j_lor dL_law_1196 ?_
      refine j_qiV3 dL_law_1197 kX8_put lL_153 rfl (by decide) rfl (Nat.le_of_ble_eq_true rfl) (Nat.le_of_ble_eq_true rfl) (by omega) (h1) (fun z' S2 h2 => ?_)
      obtain ⟨rfl, hI2⟩ := h2
      refine j_icmpeq 1358 dL_law_1200 (by decide) (fun c_1200 => ?_) (fun c_1200 => absurd (rfl) c_1200)
      refine j_iinc3 (nI (6 * (c + 1))) dL_law_1358 (by rw [show 6 * (c + 1) = 6 * c + 6 by omega]; exact nI_add _ 6) rfl (by decide) ?_
      refine j_goto 18 dL_law_1361 (by decide) ?_
      exact ih (c + 1) S2 (by omega) (by omega) hI2
    by_cases h_33_33 : y_33 = 33
    · rw [h_33_33] at e_33 ⊢
      refine j_tblIn (1172) 1205 dL_law_33 (by decide) (by decide) rfl (by decide) ?_
      refine j_ald1 dL_law_1205 ?_
      refine j_ald0 dL_law_1206 ?_
      refine j_ild3 dL_law_1207 ?_
      refine j_iconst (1) dL_law_1208 rfl ?_
      refine j_iadd dL_law_1209 ?_
      refine j_top (y := nI (6 * c + 1)) (by exact nI_add _ 1) ?_
      refine j_sld dL_law_1210 (6 * c + 1) (by omega) hL ?_
      refine j_ald0 dL_law_1211 ?_
      refine j_ild3 dL_law_1212 ?_
      refine j_iconst (2) dL_law_1213 rfl ?_
      refine j_iadd dL_law_1214 ?_
      refine j_top (y := nI (6 * c + 2)) (by exact nI_add _ 2) ?_
      refine j_sld dL_law_1215 (6 * c + 2) (by omega) hL ?_
      refine j_qlV2 dL_law_1216 kX7_element lL_154 rfl (by decide) rfl (Nat.le_of_ble_eq_true rfl) (Nat.le_of_ble_eq_true rfl) (by omega) (pr_element hI) (fun z S1 h1 => ?_)
      refine j_ald2 dL_law_1219 ?_
      refine j_ald0 dL_law_1220 ?_
      refine j_ild3 dL_law_1221 ?_
      refine j_iconst (1) dL_law_1222 rfl ?_
      refine j_iadd dL_law_1223 ?_
      refine j_top (y := nI (6 * c + 1)) (by exact nI_add _ 1) ?_
      refine j_sld dL_law_1224 (6 * c + 1) (by omega) hL ?_
      refine j_ald0 dL_law_1225 ?_
      refine j_ild3 dL_law_1226 ?_
      refine j_iconst (2) dL_law_1227 rfl ?_
      refine j_iadd dL_law_1228 ?_
      refine j_top (y := nI (6 * c + 2)) (by exact nI_add _ 2) ?_
      refine j_sld dL_law_1229 (6 * c + 2) (by omega) hL ?_
      refine j_qlV2 dL_law_1230 kX8_element lL_157 rfl (by decide) rfl (Nat.le_of_ble_eq_true rfl) (Nat.le_of_ble_eq_true rfl) (by omega) (h1) (fun z' S2 h2 => ?_)
      obtain ⟨rfl, hI2⟩ := h2
      refine j_lcmp dL_law_1233 ?_
      refine j_ifeq 1358 dL_law_1234 (by decide) (fun c_1234 => ?_) (fun c_1234 => absurd (lg_cmp0.mpr rfl) c_1234)
      refine j_iinc3 (nI (6 * (c + 1))) dL_law_1358 (by rw [show 6 * (c + 1) = 6 * c + 6 by omega]; exact nI_add _ 6) rfl (by decide) ?_
      refine j_goto 18 dL_law_1361 (by decide) ?_
      exact ih (c + 1) S2 (by omega) (by omega) hI2
    by_cases h_33_34 : y_33 = 34
    · rw [h_33_34] at e_33 ⊢
      refine j_tblIn (1206) 1239 dL_law_33 (by decide) (by decide) rfl (by decide) ?_
      refine j_ald1 dL_law_1239 ?_
      refine j_ald0 dL_law_1240 ?_
      refine j_ild3 dL_law_1241 ?_
      refine j_iconst (1) dL_law_1242 rfl ?_
      refine j_iadd dL_law_1243 ?_
      refine j_top (y := nI (6 * c + 1)) (by exact nI_add _ 1) ?_
      refine j_sld dL_law_1244 (6 * c + 1) (by omega) hL ?_
      refine j_ald0 dL_law_1245 ?_
      refine j_ild3 dL_law_1246 ?_
      refine j_iconst (2) dL_law_1247 rfl ?_
      refine j_iadd dL_law_1248 ?_
      refine j_top (y := nI (6 * c + 2)) (by exact nI_add _ 2) ?_
      refine j_sld dL_law_1249 (6 * c + 2) (by omega) hL ?_
      refine j_ald0 dL_law_1250 ?_
      refine j_ild3 dL_law_1251 ?_
      refine j_iconst (3) dL_law_1252 rfl ?_
      refine j_iadd dL_law_1253 ?_
      refine j_top (y := nI (6 * c + 3)) (by exact nI_add _ 3) ?_
      refine j_sld dL_law_1254 (6 * c + 3) (by omega) hL ?_
      refine j_ald0 dL_law_1255 ?_
      refine j_ild3 dL_law_1256 ?_
      refine j_iconst (4) dL_law_1257 rfl ?_
      refine j_iadd dL_law_1258 ?_
      refine j_top (y := nI (6 * c + 4)) (by exact nI_add _ 4) ?_
      refine j_sld dL_law_1259 (6 * c + 4) (by omega) hL ?_
      refine j_ald0 dL_law_1260 ?_
      refine j_ild3 dL_law_1261 ?_
      refine j_iconst (5) dL_law_1262 rfl ?_
      refine j_iadd dL_law_1263 ?_
      refine j_top (y := nI (6 * c + 5)) (by exact nI_add _ 5) ?_
      refine j_sld dL_law_1264 (6 * c + 5) (by omega) hL ?_
      refine j_qiV5 dL_law_1265 kX7_shift lL_158 rfl (by decide) rfl (Nat.le_of_ble_eq_true rfl) (Nat.le_of_ble_eq_true rfl) (by omega) (pr_shift hI) (fun z S1 h1 => ?_)
      refine j_ald2 dL_law_1268 ?_
      refine j_ald0 dL_law_1269 ?_
      refine j_ild3 dL_law_1270 ?_
      refine j_iconst (1) dL_law_1271 rfl ?_
      refine j_iadd dL_law_1272 ?_
      refine j_top (y := nI (6 * c + 1)) (by exact nI_add _ 1) ?_
      refine j_sld dL_law_1273 (6 * c + 1) (by omega) hL ?_
      refine j_ald0 dL_law_1274 ?_
      refine j_ild3 dL_law_1275 ?_
      refine j_iconst (2) dL_law_1276 rfl ?_
      refine j_iadd dL_law_1277 ?_
      refine j_top (y := nI (6 * c + 2)) (by exact nI_add _ 2) ?_
      refine j_sld dL_law_1278 (6 * c + 2) (by omega) hL ?_
      refine j_ald0 dL_law_1279 ?_
      refine j_ild3 dL_law_1280 ?_
      refine j_iconst (3) dL_law_1281 rfl ?_
      refine j_iadd dL_law_1282 ?_
      refine j_top (y := nI (6 * c + 3)) (by exact nI_add _ 3) ?_
      refine j_sld dL_law_1283 (6 * c + 3) (by omega) hL ?_
      refine j_ald0 dL_law_1284 ?_
      refine j_ild3 dL_law_1285 ?_
      refine j_iconst (4) dL_law_1286 rfl ?_
      refine j_iadd dL_law_1287 ?_
      refine j_top (y := nI (6 * c + 4)) (by exact nI_add _ 4) ?_
      refine j_sld dL_law_1288 (6 * c + 4) (by omega) hL ?_
      refine j_ald0 dL_law_1289 ?_
      refine j_ild3 dL_law_1290 ?_
      refine j_iconst (5) dL_law_1291 rfl ?_
      refine j_iadd dL_law_1292 ?_
      refine j_top (y := nI (6 * c + 5)) (by exact nI_add _ 5) ?_
      refine j_sld dL_law_1293 (6 * c + 5) (by omega) hL ?_
      refine j_qiV5 dL_law_1294 kX8_shift lL_162 rfl (by decide) rfl (Nat.le_of_ble_eq_true rfl) (Nat.le_of_ble_eq_true rfl) (by omega) (h1) (fun z' S2 h2 => ?_)
      obtain ⟨rfl, hI2⟩ := h2
      refine j_icmpeq 1358 dL_law_1297 (by decide) (fun c_1297 => ?_) (fun c_1297 => absurd (rfl) c_1297)
      refine j_iinc3 (nI (6 * (c + 1))) dL_law_1358 (by rw [show 6 * (c + 1) = 6 * c + 6 by omega]; exact nI_add _ 6) rfl (by decide) ?_
      refine j_goto 18 dL_law_1361 (by decide) ?_
      exact ih (c + 1) S2 (by omega) (by omega) hI2
    by_cases h_33_35 : y_33 = 35
    · rw [h_33_35] at e_33 ⊢
      refine j_tblIn (1269) 1302 dL_law_33 (by decide) (by decide) rfl (by decide) ?_
      refine j_ald1 dL_law_1302 ?_
      refine j_ald0 dL_law_1303 ?_
      refine j_ild3 dL_law_1304 ?_
      refine j_iconst (1) dL_law_1305 rfl ?_
      refine j_iadd dL_law_1306 ?_
      refine j_top (y := nI (6 * c + 1)) (by exact nI_add _ 1) ?_
      refine j_sld dL_law_1307 (6 * c + 1) (by omega) hL ?_
      refine j_ald0 dL_law_1308 ?_
      refine j_ild3 dL_law_1309 ?_
      refine j_iconst (2) dL_law_1310 rfl ?_
      refine j_iadd dL_law_1311 ?_
      refine j_top (y := nI (6 * c + 2)) (by exact nI_add _ 2) ?_
      refine j_sld dL_law_1312 (6 * c + 2) (by omega) hL ?_
      refine j_qiV2 dL_law_1313 kX7_taken lL_163 rfl (by decide) rfl (Nat.le_of_ble_eq_true rfl) (Nat.le_of_ble_eq_true rfl) (by omega) (pr_taken hI) (fun z S1 h1 => ?_)
      refine j_ald2 dL_law_1316 ?_
      refine j_ald0 dL_law_1317 ?_
      refine j_ild3 dL_law_1318 ?_
      refine j_iconst (1) dL_law_1319 rfl ?_
      refine j_iadd dL_law_1320 ?_
      refine j_top (y := nI (6 * c + 1)) (by exact nI_add _ 1) ?_
      refine j_sld dL_law_1321 (6 * c + 1) (by omega) hL ?_
      refine j_ald0 dL_law_1322 ?_
      refine j_ild3 dL_law_1323 ?_
      refine j_iconst (2) dL_law_1324 rfl ?_
      refine j_iadd dL_law_1325 ?_
      refine j_top (y := nI (6 * c + 2)) (by exact nI_add _ 2) ?_
      refine j_sld dL_law_1326 (6 * c + 2) (by omega) hL ?_
      refine j_qiV2 dL_law_1327 kX8_taken lL_166 rfl (by decide) rfl (Nat.le_of_ble_eq_true rfl) (Nat.le_of_ble_eq_true rfl) (by omega) (h1) (fun z' S2 h2 => ?_)
      obtain ⟨rfl, hI2⟩ := h2
      refine j_icmpeq 1358 dL_law_1330 (by decide) (fun c_1330 => ?_) (fun c_1330 => absurd (rfl) c_1330)
      refine j_iinc3 (nI (6 * (c + 1))) dL_law_1358 (by rw [show 6 * (c + 1) = 6 * c + 6 by omega]; exact nI_add _ 6) rfl (by decide) ?_
      refine j_goto 18 dL_law_1361 (by decide) ?_
      exact ih (c + 1) S2 (by omega) (by omega) hI2
    by_cases h_33_36 : y_33 = 36
    · rw [h_33_36] at e_33 ⊢
      refine j_tblIn (1302) 1335 dL_law_33 (by decide) (by decide) rfl (by decide) ?_
      refine j_ald1 dL_law_1335 ?_
      refine j_ald0 dL_law_1336 ?_
      refine j_ild3 dL_law_1337 ?_
      refine j_iconst (1) dL_law_1338 rfl ?_
      refine j_iadd dL_law_1339 ?_
      refine j_top (y := nI (6 * c + 1)) (by exact nI_add _ 1) ?_
      refine j_sld dL_law_1340 (6 * c + 1) (by omega) hL ?_
      refine j_qiV1 dL_law_1341 kX7_count lL_167 rfl (by decide) rfl (Nat.le_of_ble_eq_true rfl) (Nat.le_of_ble_eq_true rfl) (by omega) (pr_count (show c ≤ 2 ^ 20 by omega) hI) (fun z S1 h1 => ?_)
      refine j_ald2 dL_law_1344 ?_
      refine j_ald0 dL_law_1345 ?_
      refine j_ild3 dL_law_1346 ?_
      refine j_iconst (1) dL_law_1347 rfl ?_
      refine j_iadd dL_law_1348 ?_
      refine j_top (y := nI (6 * c + 1)) (by exact nI_add _ 1) ?_
      refine j_sld dL_law_1349 (6 * c + 1) (by omega) hL ?_
      refine j_qiV1 dL_law_1350 kX8_count lL_170 rfl (by decide) rfl (Nat.le_of_ble_eq_true rfl) (Nat.le_of_ble_eq_true rfl) (by omega) (h1) (fun z' S2 h2 => ?_)
      obtain ⟨rfl, hI2⟩ := h2
      refine j_icmpeq 1358 dL_law_1353 (by decide) (fun c_1353 => ?_) (fun c_1353 => absurd (rfl) c_1353)
      refine j_iinc3 (nI (6 * (c + 1))) dL_law_1358 (by rw [show 6 * (c + 1) = 6 * c + 6 by omega]; exact nI_add _ 6) rfl (by decide) ?_
      refine j_goto 18 dL_law_1361 (by decide) ?_
      exact ih (c + 1) S2 (by omega) (by omega) hI2
    refine j_tblOut 1358 dL_law_33 (tbl_out (fun k h1 h2 => by
      have hk : k = 0 ∨ k = 1 ∨ k = 2 ∨ k = 3 ∨ k = 4 ∨ k = 5 ∨ k = 6 ∨ k = 7 ∨ k = 8 ∨ k = 9 ∨ k = 10 ∨ k = 11 ∨ k = 12 ∨ k = 13 ∨ k = 14 ∨ k = 15 ∨ k = 16 ∨ k = 17 ∨ k = 18 ∨ k = 19 ∨ k = 20 ∨ k = 21 ∨ k = 22 ∨ k = 23 ∨ k = 24 ∨ k = 25 ∨ k = 26 ∨ k = 27 ∨ k = 28 ∨ k = 29 ∨ k = 30 ∨ k = 31 ∨ k = 32 ∨ k = 33 ∨ k = 34 ∨ k = 35 ∨ k = 36 := by omega
      rcases hk with rfl | rfl | rfl | rfl | rfl | rfl | rfl | rfl | rfl | rfl | rfl | rfl | rfl | rfl | rfl | rfl | rfl | rfl | rfl | rfl | rfl | rfl | rfl | rfl | rfl | rfl | rfl | rfl | rfl | rfl | rfl | rfl | rfl | rfl | rfl | rfl | rfl
      · exact h_33_0
      · exact h_33_1
      · exact h_33_2
      · exact h_33_3
      · exact h_33_4
      · exact h_33_5
      · exact h_33_6
      · exact h_33_7
      · exact h_33_8
      · exact h_33_9
      · exact h_33_10
      · exact h_33_11
      · exact h_33_12
      · exact h_33_13
      · exact h_33_14
      · exact h_33_15
      · exact h_33_16
      · exact h_33_17
      · exact h_33_18
      · exact h_33_19
      · exact h_33_20
      · exact h_33_21
      · exact h_33_22
      · exact h_33_23
      · exact h_33_24
      · exact h_33_25
      · exact h_33_26
      · exact h_33_27
      · exact h_33_28
      · exact h_33_29
      · exact h_33_30
      · exact h_33_31
      · exact h_33_32
      · exact h_33_33
      · exact h_33_34
      · exact h_33_35
      · exact h_33_36)) (by decide) ?_
    refine j_iinc3 (nI (6 * (c + 1))) dL_law_1358 (by rw [show 6 * (c + 1) = 6 * c + 6 by omega]; exact nI_add _ 6) rfl (by decide) ?_
    refine j_goto 18 dL_law_1361 (by decide) ?_
    exact ih (c + 1) S (by omega) (by omega) (hI.kp (rs := []) Kp.rf (fun x hx => absurd hx List.not_mem_nil))

end LawWalk
