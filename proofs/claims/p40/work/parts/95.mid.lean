/-! the law, from behind: stakes, next time, witnesses, orders, tests, urns -/

theorem sh65 {t : Nat} (ht : t < 6) : (65 : Int32) <<< (nI t &&& 31) = nI (65 * 2 ^ t) := by
  rcases (show t = 0 ∨ t = 1 ∨ t = 2 ∨ t = 3 ∨ t = 4 ∨ t = 5 by omega) with rfl | rfl | rfl | rfl | rfl | rfl <;> decide
theorem sh1 {t : Nat} (ht : t < 6) : (1 : Int32) <<< (nI t &&& 31) = nI (2 ^ t) := by
  rcases (show t = 0 ∨ t = 1 ∨ t = 2 ∨ t = 3 ∨ t = 4 ∨ t = 5 by omega) with rfl | rfl | rfl | rfl | rfl | rfl <;> decide
theorem n17 (t : Nat) : nI (16 * 2 ^ t) + nI (2 ^ t) = nI (17 * 2 ^ t) := by
  rw [nI_add]
  congr 1
  omega
theorem num_hi {n w : Nat} (hw : 3 ≤ w) : numN n w = [8, 8, 8, 4, 4, 4, 4, 4, 6, 1, 1, 3].getD w 0 := by
  unfold numN
  rw [if_neg (by omega)]
theorem one_le {x : Int32} (h : 0 < x) : 1 ≤ x := by
  rw [Int32.lt_iff_toInt_lt] at h
  rw [Int32.le_iff_toInt_le]
  have e0 : (0 : Int32).toInt = 0 := rfl
  have e1 : (1 : Int32).toInt = 1 := rfl
  omega
section Mid
variable {a : Nat → Nat} {S : St} {n b Ls : Nat} {v : Nat → Nat → Nat} {bb : Option (List Line)} {xs : Nat → Int32}
theorem q_hand0 (h : LW0 n v bb S) {u : Nat} (hu : 1 ≤ u) (hu4 : u < 4) {p : Int32} (hp : p = 0 ∨ p = 1) : Rt a mX7_handed 2 [.ref (a 0), .int (nI u), .int 0, .int p] S (some (.long (lowV (hnd v u (v 3 0, v 4 0)).1 ((v 3 0 + v 4 0) * wpr v u) p))) S := by
  have h1 := q_handed (a := a) h hu hu4 (y := 0) (Or.inl rfl) hp
  rw [handV, if_pos rfl] at h1
  exact h1
theorem q_hand1 (h : LW0 n v bb S) {u : Nat} (hu : 1 ≤ u) (hu4 : u < 4) {p : Int32} (hp : p = 0 ∨ p = 1) : Rt a mX7_handed 2 [.ref (a 0), .int (nI u), .int 1, .int p] S (some (.long (lowV (hnd v u (v 3 0, 0)).1 (hnd v u (v 3 0, v 4 0)).1 p))) S := by
  have h1 := q_handed (a := a) h hu hu4 (y := 1) (Or.inr rfl) hp
  rw [handV, if_neg (by decide)] at h1
  exact h1

theorem law_1229a {g : GG} (hR : HR a g) (hN : 61 < NC a) (hl : xl a 61 = n) (hn7 : n ≤ 7) (hg : GoodB bb) (hE : HE g a b Ls xs) (hL : Ls ≤ 260) {S : St} (h : LW0 n v bb S) (hs : v 11 0 + v 11 1 + v 11 2 = 12) : J a mL_law 100 g 1229 [.ref b, .ref (a 0), .ref (a 61), .int (bi (hatN v n = 0)), .null, .null, .null, .null, .null, .null, .null, .null, .null, .null, .null, .null, .null, .null] [] S := by
  have h11 : ∀ i, i < 3 → v 11 i ≤ 12 := fun i hi => h.1.2.2.2 11 (by decide) i (by omega)
  have hp : ¬ 0 < (sureP v).1 := fun z => (sure_iff h11).mp z hs
  refine j_ald1 dL_law_1229 ?_
  refine j_iconst (0) dL_law_1230 rfl ?_
  refine j_bipush (11) dL_law_1231 rfl ?_
  refine j_cV2 dL_law_1233 kX7_of lL_171 rfl (by decide) rfl (Nat.le_of_ble_eq_true rfl) (Nat.le_of_ble_eq_true rfl) (by omega) (q_of h (i := 0) (w := 11) (by decide) (by rw [num_hi (by decide)]; show 0 < 3; decide)) ?_
  refine j_ald1 dL_law_1236 ?_
  refine j_iconst (1) dL_law_1237 rfl ?_
  refine j_bipush (11) dL_law_1238 rfl ?_
  refine j_cV2 dL_law_1240 kX7_of lL_171 rfl (by decide) rfl (Nat.le_of_ble_eq_true rfl) (Nat.le_of_ble_eq_true rfl) (by omega) (q_of h (i := 1) (w := 11) (by decide) (by rw [num_hi (by decide)]; show 1 < 3; decide)) ?_
  refine j_iadd dL_law_1243 ?_
  refine j_top (y := nI (v 11 0 + v 11 1)) (nI_add _ _) ?_
  refine j_ald1 dL_law_1244 ?_
  refine j_iconst (2) dL_law_1245 rfl ?_
  refine j_bipush (11) dL_law_1246 rfl ?_
  refine j_cV2 dL_law_1248 kX7_of lL_171 rfl (by decide) rfl (Nat.le_of_ble_eq_true rfl) (Nat.le_of_ble_eq_true rfl) (by omega) (q_of h (i := 2) (w := 11) (by decide) (by rw [num_hi (by decide)]; show 2 < 3; decide)) ?_
  refine j_iadd dL_law_1251 ?_
  refine j_top (y := nI (v 11 0 + v 11 1 + v 11 2)) (nI_add _ _) ?_
  refine j_ist12 dL_law_1252 rfl (by decide) ?_
  refine j_ald1 dL_law_1254 ?_
  refine j_iconst (-1) dL_law_1255 rfl ?_
  refine j_qiV1 dL_law_1256 kX7_sure lL_185 rfl (by decide) rfl (Nat.le_of_ble_eq_true rfl) (Nat.le_of_ble_eq_true rfl) (by omega) (q_sure h (x := -1) (by decide)) (fun v1 S1 h1 => ?_)
  obtain ⟨rfl, h2⟩ := h1
  refine j_top (y := -2) (by rw [sureV, if_pos (by decide), if_neg hp]) ?_
  refine j_ist13 dL_law_1259 rfl (by decide) ?_
  refine j_ild13 dL_law_1261 ?_
  refine j_bipush (-2) dL_law_1263 rfl ?_
  refine j_icmpne 1272 dL_law_1265 (by decide) (fun c_1265 => absurd c_1265 (not_not_intro rfl)) (fun c_1265 => ?_)
  refine j_iconst (1) dL_law_1268 rfl ?_
  refine j_goto 1273 dL_law_1269 (by decide) ?_
  refine j_ild12 dL_law_1273 ?_
  refine j_bipush (12) dL_law_1275 rfl ?_
  refine j_icmpne 1284 dL_law_1277 (by decide) (fun c_1277 => absurd c_1277 (not_not_intro (by rw [hs]; rfl))) (fun c_1277 => ?_)
  refine j_iconst (1) dL_law_1280 rfl ?_
  refine j_goto 1285 dL_law_1281 (by decide) ?_
  refine j_icmpeq 1290 dL_law_1285 (by decide) (fun c_1285 => ?_) (fun c_1285 => absurd (rfl) c_1285)
  refine j_ild13 dL_law_1290 ?_
  refine j_bipush (-2) dL_law_1292 rfl ?_
  refine j_icmpeq 1384 dL_law_1294 (by decide) (fun c_1294 => ?_) (fun c_1294 => absurd (rfl) c_1294)
  refine j_cut [_, _, _, _] [_, _, _, _, _, _, _, _, _, _, _, _, _, _] ?_
  exact law_1384 hR hN hl hn7 hg hE hL h2

theorem law_1229b {g : GG} (hR : HR a g) (hN : 61 < NC a) (hl : xl a 61 = n) (hn7 : n ≤ 7) (hg : GoodB bb) (hE : HE g a b Ls xs) (hL : Ls ≤ 260) {S : St} (h : LW0 n v bb S) (hs : ¬ v 11 0 + v 11 1 + v 11 2 = 12) : J a mL_law 100 g 1229 [.ref b, .ref (a 0), .ref (a 61), .int (bi (hatN v n = 0)), .null, .null, .null, .null, .null, .null, .null, .null, .null, .null, .null, .null, .null, .null] [] S := by
  have h11 : ∀ i, i < 3 → v 11 i ≤ 12 := fun i hi => h.1.2.2.2 11 (by decide) i (by omega)
  have h110 := h11 0 (by decide)
  have h111 := h11 1 (by decide)
  have h112 := h11 2 (by decide)
  have hp : 0 < (sureP v).1 := (sure_iff h11).mpr hs
  refine j_ald1 dL_law_1229 ?_
  refine j_iconst (0) dL_law_1230 rfl ?_
  refine j_bipush (11) dL_law_1231 rfl ?_
  refine j_cV2 dL_law_1233 kX7_of lL_171 rfl (by decide) rfl (Nat.le_of_ble_eq_true rfl) (Nat.le_of_ble_eq_true rfl) (by omega) (q_of h (i := 0) (w := 11) (by decide) (by rw [num_hi (by decide)]; show 0 < 3; decide)) ?_
  refine j_ald1 dL_law_1236 ?_
  refine j_iconst (1) dL_law_1237 rfl ?_
  refine j_bipush (11) dL_law_1238 rfl ?_
  refine j_cV2 dL_law_1240 kX7_of lL_171 rfl (by decide) rfl (Nat.le_of_ble_eq_true rfl) (Nat.le_of_ble_eq_true rfl) (by omega) (q_of h (i := 1) (w := 11) (by decide) (by rw [num_hi (by decide)]; show 1 < 3; decide)) ?_
  refine j_iadd dL_law_1243 ?_
  refine j_top (y := nI (v 11 0 + v 11 1)) (nI_add _ _) ?_
  refine j_ald1 dL_law_1244 ?_
  refine j_iconst (2) dL_law_1245 rfl ?_
  refine j_bipush (11) dL_law_1246 rfl ?_
  refine j_cV2 dL_law_1248 kX7_of lL_171 rfl (by decide) rfl (Nat.le_of_ble_eq_true rfl) (Nat.le_of_ble_eq_true rfl) (by omega) (q_of h (i := 2) (w := 11) (by decide) (by rw [num_hi (by decide)]; show 2 < 3; decide)) ?_
  refine j_iadd dL_law_1251 ?_
  refine j_top (y := nI (v 11 0 + v 11 1 + v 11 2)) (nI_add _ _) ?_
  refine j_ist12 dL_law_1252 rfl (by decide) ?_
  refine j_ald1 dL_law_1254 ?_
  refine j_iconst (-1) dL_law_1255 rfl ?_
  refine j_qiV1 dL_law_1256 kX7_sure lL_185 rfl (by decide) rfl (Nat.le_of_ble_eq_true rfl) (Nat.le_of_ble_eq_true rfl) (by omega) (q_sure h (x := -1) (by decide)) (fun v1 S1 h1 => ?_)
  obtain ⟨rfl, h2⟩ := h1
  refine j_top (y := (sureP v).1) (by rw [sureV, if_pos (by decide), if_pos hp]) ?_
  refine j_ist13 dL_law_1259 rfl (by decide) ?_
  refine j_ild13 dL_law_1261 ?_
  refine j_bipush (-2) dL_law_1263 rfl ?_
  refine j_icmpne 1272 dL_law_1265 (by decide) (fun c_1265 => ?_) (fun c_1265 => absurd (fun z => absurd hp (by rw [z]; decide)) c_1265)
  refine j_iconst (0) dL_law_1272 rfl ?_
  refine j_ild12 dL_law_1273 ?_
  refine j_bipush (12) dL_law_1275 rfl ?_
  refine j_icmpne 1284 dL_law_1277 (by decide) (fun c_1277 => ?_) (fun c_1277 => absurd (fun z => hs ((nI_eq (a := v 11 0 + v 11 1 + v 11 2) (b := 12) (by omega) (by decide)).mp z)) c_1277)
  refine j_iconst (0) dL_law_1284 rfl ?_
  refine j_icmpeq 1290 dL_law_1285 (by decide) (fun c_1285 => ?_) (fun c_1285 => absurd (rfl) c_1285)
  refine j_ild13 dL_law_1290 ?_
  refine j_bipush (-2) dL_law_1292 rfl ?_
  refine j_icmpeq 1384 dL_law_1294 (by decide) (fun c_1294 => absurd c_1294 (fun z => absurd hp (by rw [z]; decide))) (fun c_1294 => ?_)
  refine j_ald1 dL_law_1297 ?_
  refine j_iconst (0) dL_law_1298 rfl ?_
  refine j_qiV1 dL_law_1299 kX7_sure lL_185 rfl (by decide) rfl (Nat.le_of_ble_eq_true rfl) (Nat.le_of_ble_eq_true rfl) (by omega) (q_sure h2 (x := 0) (by decide)) (fun v1299 S1299 h1299 => ?_)
  obtain ⟨rfl, h3⟩ := h1299
  refine j_ald1 dL_law_1302 ?_
  refine j_iconst (0) dL_law_1303 rfl ?_
  refine j_bipush (11) dL_law_1304 rfl ?_
  refine j_cV2 dL_law_1306 kX7_of lL_171 rfl (by decide) rfl (Nat.le_of_ble_eq_true rfl) (Nat.le_of_ble_eq_true rfl) (by omega) (q_of h3 (i := 0) (w := 11) (by decide) (by rw [num_hi (by decide)]; show 0 < 3; decide)) ?_
  refine j_imul dL_law_1309 ?_
  refine j_ald1 dL_law_1310 ?_
  refine j_iconst (1) dL_law_1311 rfl ?_
  refine j_qiV1 dL_law_1312 kX7_sure lL_185 rfl (by decide) rfl (Nat.le_of_ble_eq_true rfl) (Nat.le_of_ble_eq_true rfl) (by omega) (q_sure h3 (x := 1) (by decide)) (fun v1312 S1312 h1312 => ?_)
  obtain ⟨rfl, h4⟩ := h1312
  refine j_ald1 dL_law_1315 ?_
  refine j_iconst (1) dL_law_1316 rfl ?_
  refine j_bipush (11) dL_law_1317 rfl ?_
  refine j_cV2 dL_law_1319 kX7_of lL_171 rfl (by decide) rfl (Nat.le_of_ble_eq_true rfl) (Nat.le_of_ble_eq_true rfl) (by omega) (q_of h4 (i := 1) (w := 11) (by decide) (by rw [num_hi (by decide)]; show 1 < 3; decide)) ?_
  refine j_imul dL_law_1322 ?_
  refine j_iadd dL_law_1323 ?_
  refine j_ald1 dL_law_1324 ?_
  refine j_iconst (2) dL_law_1325 rfl ?_
  refine j_qiV1 dL_law_1326 kX7_sure lL_185 rfl (by decide) rfl (Nat.le_of_ble_eq_true rfl) (Nat.le_of_ble_eq_true rfl) (by omega) (q_sure h4 (x := 2) (by decide)) (fun v1326 S1326 h1326 => ?_)
  obtain ⟨rfl, h5⟩ := h1326
  refine j_ald1 dL_law_1329 ?_
  refine j_iconst (2) dL_law_1330 rfl ?_
  refine j_bipush (11) dL_law_1331 rfl ?_
  refine j_cV2 dL_law_1333 kX7_of lL_171 rfl (by decide) rfl (Nat.le_of_ble_eq_true rfl) (Nat.le_of_ble_eq_true rfl) (by omega) (q_of h5 (i := 2) (w := 11) (by decide) (by rw [num_hi (by decide)]; show 2 < 3; decide)) ?_
  refine j_imul dL_law_1336 ?_
  refine j_iadd dL_law_1337 ?_
  refine j_ist14 dL_law_1338 rfl (by decide) ?_
  refine j_ald1 dL_law_1340 ?_
  refine j_iconst (0) dL_law_1341 rfl ?_
  refine j_qiV1 dL_law_1342 kX7_sure lL_185 rfl (by decide) rfl (Nat.le_of_ble_eq_true rfl) (Nat.le_of_ble_eq_true rfl) (by omega) (q_sure h5 (x := 0) (by decide)) (fun v1342 S1342 h1342 => ?_)
  obtain ⟨rfl, h6⟩ := h1342
  refine j_ald1 dL_law_1345 ?_
  refine j_iconst (1) dL_law_1346 rfl ?_
  refine j_qiV1 dL_law_1347 kX7_sure lL_185 rfl (by decide) rfl (Nat.le_of_ble_eq_true rfl) (Nat.le_of_ble_eq_true rfl) (by omega) (q_sure h6 (x := 1) (by decide)) (fun v1347 S1347 h1347 => ?_)
  obtain ⟨rfl, h7⟩ := h1347
  refine j_ald1 dL_law_1350 ?_
  refine j_iconst (2) dL_law_1351 rfl ?_
  refine j_qiV1 dL_law_1352 kX7_sure lL_185 rfl (by decide) rfl (Nat.le_of_ble_eq_true rfl) (Nat.le_of_ble_eq_true rfl) (by omega) (q_sure h7 (x := 2) (by decide)) (fun v1352 S1352 h1352 => ?_)
  obtain ⟨rfl, h8⟩ := h1352
  refine j_min dL_law_1355 lL_72 t_min_s t_mini t_min_c (Nat.le_of_ble_eq_true rfl) (by omega) ?_
  refine j_min dL_law_1358 lL_72 t_min_s t_mini t_min_c (Nat.le_of_ble_eq_true rfl) (by omega) ?_
  refine j_bipush (12) dL_law_1361 rfl ?_
  refine j_imul dL_law_1363 ?_
  refine j_ild14 dL_law_1364 ?_
  refine j_isub dL_law_1366 ?_
  refine j_ist15 dL_law_1367 rfl (by decide) ?_
  refine j_ild13 dL_law_1369 ?_
  refine j_ild15 dL_law_1371 ?_
  refine j_icmpne 1382 dL_law_1373 (by decide) (fun c_1373 => absurd c_1373 (not_not_intro (sure_at hp))) (fun c_1373 => ?_)
  refine j_ild13 dL_law_1376 ?_
  refine j_iconst (1) dL_law_1378 rfl ?_
  refine j_icmpge 1384 dL_law_1379 (by decide) (fun c_1379 => ?_) (fun c_1379 => absurd (one_le hp) c_1379)
  refine j_cut [_, _, _, _] [_, _, _, _, _, _, _, _, _, _, _, _, _, _] ?_
  exact law_1384 hR hN hl hn7 hg hE hL h8

theorem law_1229 {g : GG} (hR : HR a g) (hN : 61 < NC a) (hl : xl a 61 = n) (hn7 : n ≤ 7) (hg : GoodB bb) (hE : HE g a b Ls xs) (hL : Ls ≤ 260) {S : St} (h : LW0 n v bb S) : J a mL_law 100 g 1229 [.ref b, .ref (a 0), .ref (a 61), .int (bi (hatN v n = 0)), .null, .null, .null, .null, .null, .null, .null, .null, .null, .null, .null, .null, .null, .null] [] S := by
  by_cases hs : v 11 0 + v 11 1 + v 11 2 = 12
  · exact law_1229a hR hN hl hn7 hg hE hL h hs
  · exact law_1229b hR hN hl hn7 hg hE hL h hs
set_option maxRecDepth 20000 in
theorem law_1136 {g : GG} (hR : HR a g) (hN : 61 < NC a) (hl : xl a 61 = n) (hn7 : n ≤ 7) (hg : GoodB bb) (hE : HE g a b Ls xs) (hL : Ls ≤ 260) {S : St} (h : LW0 n v bb S) : ∀ (fu : Nat) (i : Nat), 99 - i < fu → (i ≤ 99) → J a mL_law 100 g 1136 [.ref b, .ref (a 0), .ref (a 61), .int (bi (hatN v n = 0)), .null, .null, .null, .null, .null, .null, .null, .null, .int (nI i), .null, .null, .null, .null, .null] [] S := by
  intro fu
  induction fu with
  | zero => intro i hk; exact absurd hk (Nat.not_lt_zero _)
  | succ fu ih =>
    intro i hk hi
    refine j_ild12 dL_law_1136 ?_
    refine j_bipush (99) dL_law_1138 rfl ?_
    refine j_icmpge 1229 dL_law_1140 (by decide) (fun c_1140 => ?_) (fun c_1140 => ?_)
    · have q_1140 : i = 99 := by have := (nI_leI (a := 99) (b := i) (by omega) (by omega)).mp c_1140; omega
      subst q_1140
      refine j_cut [_, _, _, _] [_, _, _, _, _, _, _, _, _, _, _, _, _, _] ?_
      exact law_1229 hR hN hl hn7 hg hE hL h
    have q_1140 : i < 99 := Nat.not_le.mp (fun z => c_1140 ((nI_leI (a := 99) (b := i) (by omega) (by omega)).mpr z))
    refine j_ald1 dL_law_1143 ?_
    refine j_bipush (100) dL_law_1144 rfl ?_
    refine j_ild12 dL_law_1146 ?_
    refine j_iconst (2) dL_law_1148 rfl ?_
    refine j_idiv dL_law_1149 (by decide) ?_
    refine j_top (y := nI (i / 2)) (pk_div (a := i) (d := 2) (by omega) (by decide) (by decide)) ?_
    refine j_imul dL_law_1150 ?_
    refine j_top (y := nI (100 * (i / 2))) (pk_mul 100 (i / 2)) ?_
    refine j_ild12 dL_law_1151 ?_
    refine j_iadd dL_law_1153 ?_
    refine j_top (y := nI (100 * (i / 2) + i)) (nI_add _ i) ?_
    refine j_iconst (0) dL_law_1154 rfl ?_
    refine j_cV2 dL_law_1155 kX7_next lL_182 rfl (by decide) rfl (Nat.le_of_ble_eq_true rfl) (Nat.le_of_ble_eq_true rfl) (by omega) (q_next (x := i / 2) (y := i) (Nat.div_le_self _ _) (by omega) (Or.inl rfl)) ?_
    refine j_ald1 dL_law_1158 ?_
    refine j_bipush (100) dL_law_1159 rfl ?_
    refine j_ild12 dL_law_1161 ?_
    refine j_iconst (2) dL_law_1163 rfl ?_
    refine j_idiv dL_law_1164 (by decide) ?_
    refine j_top (y := nI (i / 2)) (pk_div (a := i) (d := 2) (by omega) (by decide) (by decide)) ?_
    refine j_imul dL_law_1165 ?_
    refine j_top (y := nI (100 * (i / 2))) (pk_mul 100 (i / 2)) ?_
    refine j_ild12 dL_law_1166 ?_
    refine j_iadd dL_law_1168 ?_
    refine j_top (y := nI (100 * (i / 2) + i)) (nI_add _ i) ?_
    refine j_iconst (1) dL_law_1169 rfl ?_
    refine j_cV2 dL_law_1170 kX7_next lL_182 rfl (by decide) rfl (Nat.le_of_ble_eq_true rfl) (Nat.le_of_ble_eq_true rfl) (by omega) (q_next (x := i / 2) (y := i) (Nat.div_le_self _ _) (by omega) (Or.inr rfl)) ?_
    refine j_cS2 dL_law_1173 kL_of zL_of (Or.inl lL_134) (Nat.le_of_ble_eq_true rfl) (Nat.le_of_ble_eq_true rfl) (by omega) (s_L_of (A := i / 2 + 1) (B := i + 2) (nx_lt q_1140).1) ?_
    refine j_ald1 dL_law_1176 ?_
    refine j_bipush (100) dL_law_1177 rfl ?_
    refine j_ild12 dL_law_1179 ?_
    refine j_iconst (2) dL_law_1181 rfl ?_
    refine j_idiv dL_law_1182 (by decide) ?_
    refine j_top (y := nI (i / 2)) (pk_div (a := i) (d := 2) (by omega) (by decide) (by decide)) ?_
    refine j_iconst (1) dL_law_1183 rfl ?_
    refine j_iadd dL_law_1184 ?_
    refine j_top (y := nI (i / 2 + 1)) (nI_1 _) ?_
    refine j_imul dL_law_1185 ?_
    refine j_top (y := nI (100 * (i / 2 + 1))) (pk_mul 100 (i / 2 + 1)) ?_
    refine j_ild12 dL_law_1186 ?_
    refine j_iadd dL_law_1188 ?_
    refine j_top (y := nI (100 * (i / 2 + 1) + i)) (nI_add _ i) ?_
    refine j_iconst (1) dL_law_1189 rfl ?_
    refine j_iadd dL_law_1190 ?_
    refine j_top (y := nI (100 * (i / 2 + 1) + (i + 1))) (nI_1 _) ?_
    refine j_iconst (0) dL_law_1191 rfl ?_
    refine j_cV2 dL_law_1192 kX7_next lL_182 rfl (by decide) rfl (Nat.le_of_ble_eq_true rfl) (Nat.le_of_ble_eq_true rfl) (by omega) (q_next (x := i / 2 + 1) (y := i + 1) (by omega) (by omega) (Or.inl rfl)) ?_
    refine j_ald1 dL_law_1195 ?_
    refine j_bipush (100) dL_law_1196 rfl ?_
    refine j_ild12 dL_law_1198 ?_
    refine j_iconst (2) dL_law_1200 rfl ?_
    refine j_idiv dL_law_1201 (by decide) ?_
    refine j_top (y := nI (i / 2)) (pk_div (a := i) (d := 2) (by omega) (by decide) (by decide)) ?_
    refine j_iconst (1) dL_law_1202 rfl ?_
    refine j_iadd dL_law_1203 ?_
    refine j_top (y := nI (i / 2 + 1)) (nI_1 _) ?_
    refine j_imul dL_law_1204 ?_
    refine j_top (y := nI (100 * (i / 2 + 1))) (pk_mul 100 (i / 2 + 1)) ?_
    refine j_ild12 dL_law_1205 ?_
    refine j_iadd dL_law_1207 ?_
    refine j_top (y := nI (100 * (i / 2 + 1) + i)) (nI_add _ i) ?_
    refine j_iconst (1) dL_law_1208 rfl ?_
    refine j_iadd dL_law_1209 ?_
    refine j_top (y := nI (100 * (i / 2 + 1) + (i + 1))) (nI_1 _) ?_
    refine j_iconst (1) dL_law_1210 rfl ?_
    refine j_cV2 dL_law_1211 kX7_next lL_182 rfl (by decide) rfl (Nat.le_of_ble_eq_true rfl) (Nat.le_of_ble_eq_true rfl) (by omega) (q_next (x := i / 2 + 1) (y := i + 1) (by omega) (by omega) (Or.inr rfl)) ?_
    refine j_cS2 dL_law_1214 kL_of zL_of (Or.inl lL_134) (Nat.le_of_ble_eq_true rfl) (Nat.le_of_ble_eq_true rfl) (by omega) (s_L_of (A := i / 2 + 1 + 1) (B := i + 1 + 2) (nx_lt q_1140).2.1) ?_
    refine j_dcmp dL_law_1217 ((nx_lt q_1140).1) ((nx_lt q_1140).2.1) ?_
    refine j_iflt 1223 dL_law_1218 (by decide) (fun c_1218 => ?_) (fun c_1218 => absurd (cz_lt.mpr (nx_lt q_1140).2.2) c_1218)
    refine j_iinc12 (nI (i + 1)) dL_law_1223 (nI_1 i) rfl (by decide) ?_
    refine j_goto 1136 dL_law_1226 (by decide) ?_
    exact ih (i + 1) (by omega) (by omega)

theorem law_1133 {g : GG} (hR : HR a g) (hN : 61 < NC a) (hl : xl a 61 = n) (hn7 : n ≤ 7) (hg : GoodB bb) (hE : HE g a b Ls xs) (hL : Ls ≤ 260) {S : St} (h : LW0 n v bb S) : J a mL_law 100 g 1133 [.ref b, .ref (a 0), .ref (a 61), .int (bi (hatN v n = 0)), .null, .null, .null, .null, .null, .null, .null, .null, .null, .null, .null, .null, .null, .null] [] S := by
  refine j_iconst (0) dL_law_1133 rfl ?_
  refine j_ist12 dL_law_1134 rfl (by decide) ?_
  exact law_1136 hR hN hl hn7 hg hE hL h 100 0 (by decide) (by decide)
set_option maxRecDepth 20000 in
theorem law_968 {g : GG} (hR : HR a g) (hN : 61 < NC a) (hl : xl a 61 = n) (hn7 : n ≤ 7) (hg : GoodB bb) (hE : HE g a b Ls xs) (hL : Ls ≤ 260) {S : St} (h : LW0 n v bb S) : ∀ (fu : Nat) (t : Nat), 6 - t < fu → (t ≤ 6) → J a mL_law 100 g 968 [.ref b, .ref (a 0), .ref (a 61), .int (bi (hatN v n = 0)), .null, .null, .null, .null, .null, .null, .null, .null, .int (nI t), .null, .null, .null, .null, .null] [] S := by
  intro fu
  induction fu with
  | zero => intro t hk; exact absurd hk (Nat.not_lt_zero _)
  | succ fu ih =>
    intro t hk ht
    refine j_ild12 dL_law_968 ?_
    refine j_bipush (6) dL_law_970 rfl ?_
    refine j_icmpge 1133 dL_law_972 (by decide) (fun c_972 => ?_) (fun c_972 => ?_)
    · have q_972 : t = 6 := by have := (nI_leI (a := 6) (b := t) (by omega) (by omega)).mp c_972; omega
      subst q_972
      refine j_cut [_, _, _, _] [_, _, _, _, _, _, _, _, _, _, _, _, _, _] ?_
      exact law_1133 hR hN hl hn7 hg hE hL h
    have q_972 : t < 6 := Nat.not_le.mp (fun z => c_972 ((nI_leI (a := 6) (b := t) (by omega) (by omega)).mpr z))
    refine j_ald1 dL_law_975 ?_
    refine j_bipush (65) dL_law_976 rfl ?_
    refine j_ild12 dL_law_978 ?_
    refine j_ishl dL_law_980 ?_
    refine j_top (y := nI (65 * 2 ^ t)) (sh65 (t := t) (by omega)) ?_
    refine j_iconst (0) dL_law_981 rfl ?_
    refine j_cV2 dL_law_982 kX7_isSo lL_176 rfl (by decide) rfl (Nat.le_of_ble_eq_true rfl) (Nat.le_of_ble_eq_true rfl) (by omega) (q_sot h (t := t) (by omega) (Or.inl rfl)) ?_
    refine j_ald1 dL_law_985 ?_
    refine j_bipush (65) dL_law_986 rfl ?_
    refine j_ild12 dL_law_988 ?_
    refine j_ishl dL_law_990 ?_
    refine j_top (y := nI (65 * 2 ^ t)) (sh65 (t := t) (by omega)) ?_
    refine j_iconst (1) dL_law_991 rfl ?_
    refine j_cV2 dL_law_992 kX7_isSo lL_176 rfl (by decide) rfl (Nat.le_of_ble_eq_true rfl) (Nat.le_of_ble_eq_true rfl) (by omega) (q_sot h (t := t) (by omega) (Or.inr rfl)) ?_
    have s12 : v 10 0 ≤ 12 := h.1.2.2.2 10 (by decide) 0 (by decide)
    have f12 : v 8 t ≤ 12 := h.1.b8 t (by omega)
    have b1 : v 10 0 * (12 - v 8 t) ≤ 12 * 12 := Nat.mul_le_mul s12 (by omega)
    have b2 : (12 - v 10 0) * v 8 t ≤ 12 * 12 := Nat.mul_le_mul (by omega) f12
    have d1 := dq_in (A := v 10 0 * (12 - v 8 t)) (B := v 10 0 * (12 - v 8 t) + (12 - v 10 0) * v 8 t) (by omega) (by omega) (by omega)
    have d2 := dq_in (A := v 10 0) (B := v 10 0 + (12 - v 10 0)) (by omega) (by omega) (by omega)
    have hlo : v 8 t ≤ 6 → zv (dq (v 10 0) (v 10 0 + (12 - v 10 0))) ≤ zv (dq (v 10 0 * (12 - v 8 t)) (v 10 0 * (12 - v 8 t) + (12 - v 10 0) * v 8 t)) + 2 * uu := fun q => so_le s12 q
    have hhi : 6 ≤ v 8 t → zv (dq (v 10 0 * (12 - v 8 t)) (v 10 0 * (12 - v 8 t) + (12 - v 10 0) * v 8 t)) ≤ zv (dq (v 10 0) (v 10 0 + (12 - v 10 0))) + 2 * uu := fun q => so_ge s12 f12 q
    refine j_cS2 dL_law_995 kL_of zL_of (Or.inl lL_134) (Nat.le_of_ble_eq_true rfl) (Nat.le_of_ble_eq_true rfl) (by omega) (s_L_of (A := v 10 0 * (12 - v 8 t)) (B := v 10 0 * (12 - v 8 t) + (12 - v 10 0) * v 8 t) d1.1) ?_
    refine j_dst13 dL_law_998 rfl (by decide) ?_
    refine j_ald1 dL_law_1000 ?_
    refine j_iconst (0) dL_law_1001 rfl ?_
    refine j_iconst (0) dL_law_1002 rfl ?_
    refine j_cV2 dL_law_1003 kX7_isSo lL_176 rfl (by decide) rfl (Nat.le_of_ble_eq_true rfl) (Nat.le_of_ble_eq_true rfl) (by omega) (q_so0 h (Or.inl rfl)) ?_
    refine j_ald1 dL_law_1006 ?_
    refine j_iconst (0) dL_law_1007 rfl ?_
    refine j_iconst (1) dL_law_1008 rfl ?_
    refine j_cV2 dL_law_1009 kX7_isSo lL_176 rfl (by decide) rfl (Nat.le_of_ble_eq_true rfl) (Nat.le_of_ble_eq_true rfl) (by omega) (q_so0 h (Or.inr rfl)) ?_
    refine j_cS2 dL_law_1012 kL_of zL_of (Or.inl lL_134) (Nat.le_of_ble_eq_true rfl) (Nat.le_of_ble_eq_true rfl) (by omega) (s_L_of (A := v 10 0) (B := v 10 0 + (12 - v 10 0)) d2.1) ?_
    generalize dq (v 10 0 * (12 - v 8 t)) (v 10 0 * (12 - v 8 t) + (12 - v 10 0) * v 8 t) = y1 at *
    generalize dq (v 10 0) (v 10 0 + (12 - v 10 0)) = y2 at *
    have hu := uu_pos
    have h1u : oneU ≤ 512 * oneU := by have := d1.2.1; have := d1.2.2.1; omega
    have sb : DF (FP.dsub y2 (4472406533629990549 : UInt64)) ∧ zv (FP.dsub y2 (4472406533629990549 : UInt64)) ≤ zv y2 - 4397 * uu := subc d2.1 d2.2.1 (by omega)
    have ab : DF (FP.dadd y2 (4472406533629990549 : UInt64)) ∧ zv y2 + 4397 * uu ≤ zv (FP.dadd y2 (4472406533629990549 : UInt64)) := addc d2.1 d2.2.1 (by omega)
    have c9l := c9_DF
    refine j_dst15 dL_law_1015 rfl (by decide) ?_
    refine j_ald1 dL_law_1017 ?_
    refine j_ild12 dL_law_1018 ?_
    refine j_bipush (8) dL_law_1020 rfl ?_
    refine j_cV2 dL_law_1022 kX7_of lL_171 rfl (by decide) rfl (Nat.le_of_ble_eq_true rfl) (Nat.le_of_ble_eq_true rfl) (by omega) (q_of h (i := t) (w := 8) (by decide) (by rw [num_hi (by decide)]; show t < 6; omega)) ?_
    refine j_bipush (6) dL_law_1025 rfl ?_
    refine j_icmpge 1042 dL_law_1027 (by decide) (fun c_1027 => ?_) (fun c_1027 => ?_)
    · have q_1027 : 6 ≤ v 8 t := (nI_leI (a := 6) (b := v 8 t) (by decide) (by omega)).mp c_1027
      refine j_ald1 dL_law_1042 ?_
      refine j_ild12 dL_law_1043 ?_
      refine j_bipush (8) dL_law_1045 rfl ?_
      refine j_cV2 dL_law_1047 kX7_of lL_171 rfl (by decide) rfl (Nat.le_of_ble_eq_true rfl) (Nat.le_of_ble_eq_true rfl) (by omega) (q_of h (i := t) (w := 8) (by decide) (by rw [num_hi (by decide)]; show t < 6; omega)) ?_
      refine j_bipush (6) dL_law_1050 rfl ?_
      refine j_icmple 1067 dL_law_1052 (by decide) (fun c_1052 => ?_) (fun c_1052 => ?_)
      · have q_1052 : v 8 t ≤ 6 := (nI_leI (a := v 8 t) (b := 6) (by omega) (by decide)).mp c_1052
        refine j_ald1 dL_law_1067 ?_
        refine j_ild12 dL_law_1068 ?_
        refine j_bipush (8) dL_law_1070 rfl ?_
        refine j_cV2 dL_law_1072 kX7_of lL_171 rfl (by decide) rfl (Nat.le_of_ble_eq_true rfl) (Nat.le_of_ble_eq_true rfl) (by omega) (q_of h (i := t) (w := 8) (by decide) (by rw [num_hi (by decide)]; show t < 6; omega)) ?_
        refine j_bipush (6) dL_law_1075 rfl ?_
        refine j_icmpne 1097 dL_law_1077 (by decide) (fun c_1077 => ?_) (fun c_1077 => ?_)
        · refine j_ald1 dL_law_1097 ?_
          refine j_iconst (1) dL_law_1098 rfl ?_
          refine j_ild12 dL_law_1099 ?_
          refine j_ishl dL_law_1101 ?_
          refine j_top (y := nI (2 ^ t)) (sh1 (t := t) (by omega)) ?_
          refine j_iconst (0) dL_law_1102 rfl ?_
          refine j_cV2 dL_law_1103 kX7_tooMany lL_179 rfl (by decide) rfl (Nat.le_of_ble_eq_true rfl) (Nat.le_of_ble_eq_true rfl) (by omega) (q_tooMany h (t := t) (by omega) (Or.inl rfl)) ?_
          refine j_lconst (1) dL_law_1106 rfl ?_
          refine j_lcmp dL_law_1107 ?_
          refine j_ifne 1125 dL_law_1108 (by decide) (fun c_1108 => absurd c_1108 (not_not_intro (lg_cmp0.mpr rfl))) (fun c_1108 => ?_)
          refine j_ald1 dL_law_1111 ?_
          refine j_iconst (1) dL_law_1112 rfl ?_
          refine j_ild12 dL_law_1113 ?_
          refine j_ishl dL_law_1115 ?_
          refine j_top (y := nI (2 ^ t)) (sh1 (t := t) (by omega)) ?_
          refine j_iconst (1) dL_law_1116 rfl ?_
          refine j_cV2 dL_law_1117 kX7_tooMany lL_179 rfl (by decide) rfl (Nat.le_of_ble_eq_true rfl) (Nat.le_of_ble_eq_true rfl) (by omega) (q_tooMany h (t := t) (by omega) (Or.inr rfl)) ?_
          refine j_lconst (1) dL_law_1120 rfl ?_
          refine j_lcmp dL_law_1121 ?_
          refine j_ifeq 1127 dL_law_1122 (by decide) (fun c_1122 => ?_) (fun c_1122 => absurd (lg_cmp0.mpr rfl) c_1122)
          refine j_iinc12 (nI (t + 1)) dL_law_1127 (nI_1 t) rfl (by decide) ?_
          refine j_goto 968 dL_law_1130 (by decide) ?_
          refine j_cut [_, _, _, _, _, _, _, _, _, _, _, _, _] [_, _, _, _, _] ?_
          exact ih (t + 1) (by omega) (by omega)
        have q_1077 : v 8 t = 6 := (nI_eq (a := v 8 t) (b := 6) (by omega) (by decide)).mp (Classical.not_not.mp c_1077)
        have sd := subd d1.1 d2.1 d1.2.1 d1.2.2.1 d2.2.1 d2.2.2.1 (hhi (by omega)) (hlo (by omega))
        refine j_dld13 dL_law_1080 ?_
        refine j_dld15 dL_law_1082 ?_
        refine j_dsub dL_law_1084 (sd.1) ?_
        refine j_absD (sd.1) dL_law_1085 lL_109 (by decide) (by omega) ?_
        refine j_ldc2_wD (v := 4472406533629990549) dL_law_1088 qL_113 ?_
        refine j_dcmp dL_law_1091 ((abs_DF sd.1).1) (c9l.1) ?_
        refine j_ifle 1097 dL_law_1092 (by decide) (fun c_1092 => ?_) (fun c_1092 => absurd (Int32.not_lt.mp (fun z => absurd (cz_gt.mp z) (by have := sd.2; have := c9l.2.1; show ¬ (zv c9 < _); omega))) c_1092)
        refine j_ald1 dL_law_1097 ?_
        refine j_iconst (1) dL_law_1098 rfl ?_
        refine j_ild12 dL_law_1099 ?_
        refine j_ishl dL_law_1101 ?_
        refine j_top (y := nI (2 ^ t)) (sh1 (t := t) (by omega)) ?_
        refine j_iconst (0) dL_law_1102 rfl ?_
        refine j_cV2 dL_law_1103 kX7_tooMany lL_179 rfl (by decide) rfl (Nat.le_of_ble_eq_true rfl) (Nat.le_of_ble_eq_true rfl) (by omega) (q_tooMany h (t := t) (by omega) (Or.inl rfl)) ?_
        refine j_lconst (1) dL_law_1106 rfl ?_
        refine j_lcmp dL_law_1107 ?_
        refine j_ifne 1125 dL_law_1108 (by decide) (fun c_1108 => absurd c_1108 (not_not_intro (lg_cmp0.mpr rfl))) (fun c_1108 => ?_)
        refine j_ald1 dL_law_1111 ?_
        refine j_iconst (1) dL_law_1112 rfl ?_
        refine j_ild12 dL_law_1113 ?_
        refine j_ishl dL_law_1115 ?_
        refine j_top (y := nI (2 ^ t)) (sh1 (t := t) (by omega)) ?_
        refine j_iconst (1) dL_law_1116 rfl ?_
        refine j_cV2 dL_law_1117 kX7_tooMany lL_179 rfl (by decide) rfl (Nat.le_of_ble_eq_true rfl) (Nat.le_of_ble_eq_true rfl) (by omega) (q_tooMany h (t := t) (by omega) (Or.inr rfl)) ?_
        refine j_lconst (1) dL_law_1120 rfl ?_
        refine j_lcmp dL_law_1121 ?_
        refine j_ifeq 1127 dL_law_1122 (by decide) (fun c_1122 => ?_) (fun c_1122 => absurd (lg_cmp0.mpr rfl) c_1122)
        refine j_iinc12 (nI (t + 1)) dL_law_1127 (nI_1 t) rfl (by decide) ?_
        refine j_goto 968 dL_law_1130 (by decide) ?_
        refine j_cut [_, _, _, _, _, _, _, _, _, _, _, _, _] [_, _, _, _, _] ?_
        exact ih (t + 1) (by omega) (by omega)
      have q_1052 : 6 < v 8 t := Nat.not_le.mp (fun z => c_1052 ((nI_leI (a := v 8 t) (b := 6) (by omega) (by decide)).mpr z))
      refine j_dld13 dL_law_1055 ?_
      refine j_dld15 dL_law_1057 ?_
      refine j_ldc2_wD (v := 4472406533629990549) dL_law_1059 qL_113 ?_
      refine j_dadd dL_law_1062 (ab.1) ?_
      refine j_dcmp dL_law_1063 (d1.1) (ab.1) ?_
      refine j_ifgt 1095 dL_law_1064 (by decide) (fun c_1064 => absurd c_1064 (fun z => absurd (cz_gt.mp z) (by have := hhi (by omega); have := ab.2; omega))) (fun c_1064 => ?_)
      refine j_ald1 dL_law_1067 ?_
      refine j_ild12 dL_law_1068 ?_
      refine j_bipush (8) dL_law_1070 rfl ?_
      refine j_cV2 dL_law_1072 kX7_of lL_171 rfl (by decide) rfl (Nat.le_of_ble_eq_true rfl) (Nat.le_of_ble_eq_true rfl) (by omega) (q_of h (i := t) (w := 8) (by decide) (by rw [num_hi (by decide)]; show t < 6; omega)) ?_
      refine j_bipush (6) dL_law_1075 rfl ?_
      refine j_icmpne 1097 dL_law_1077 (by decide) (fun c_1077 => ?_) (fun c_1077 => ?_)
      · refine j_ald1 dL_law_1097 ?_
        refine j_iconst (1) dL_law_1098 rfl ?_
        refine j_ild12 dL_law_1099 ?_
        refine j_ishl dL_law_1101 ?_
        refine j_top (y := nI (2 ^ t)) (sh1 (t := t) (by omega)) ?_
        refine j_iconst (0) dL_law_1102 rfl ?_
        refine j_cV2 dL_law_1103 kX7_tooMany lL_179 rfl (by decide) rfl (Nat.le_of_ble_eq_true rfl) (Nat.le_of_ble_eq_true rfl) (by omega) (q_tooMany h (t := t) (by omega) (Or.inl rfl)) ?_
        refine j_lconst (1) dL_law_1106 rfl ?_
        refine j_lcmp dL_law_1107 ?_
        refine j_ifne 1125 dL_law_1108 (by decide) (fun c_1108 => absurd c_1108 (not_not_intro (lg_cmp0.mpr rfl))) (fun c_1108 => ?_)
        refine j_ald1 dL_law_1111 ?_
        refine j_iconst (1) dL_law_1112 rfl ?_
        refine j_ild12 dL_law_1113 ?_
        refine j_ishl dL_law_1115 ?_
        refine j_top (y := nI (2 ^ t)) (sh1 (t := t) (by omega)) ?_
        refine j_iconst (1) dL_law_1116 rfl ?_
        refine j_cV2 dL_law_1117 kX7_tooMany lL_179 rfl (by decide) rfl (Nat.le_of_ble_eq_true rfl) (Nat.le_of_ble_eq_true rfl) (by omega) (q_tooMany h (t := t) (by omega) (Or.inr rfl)) ?_
        refine j_lconst (1) dL_law_1120 rfl ?_
        refine j_lcmp dL_law_1121 ?_
        refine j_ifeq 1127 dL_law_1122 (by decide) (fun c_1122 => ?_) (fun c_1122 => absurd (lg_cmp0.mpr rfl) c_1122)
        refine j_iinc12 (nI (t + 1)) dL_law_1127 (nI_1 t) rfl (by decide) ?_
        refine j_goto 968 dL_law_1130 (by decide) ?_
        refine j_cut [_, _, _, _, _, _, _, _, _, _, _, _, _] [_, _, _, _, _] ?_
        exact ih (t + 1) (by omega) (by omega)
      have q_1077 : v 8 t = 6 := (nI_eq (a := v 8 t) (b := 6) (by omega) (by decide)).mp (Classical.not_not.mp c_1077)
      have sd := subd d1.1 d2.1 d1.2.1 d1.2.2.1 d2.2.1 d2.2.2.1 (hhi (by omega)) (hlo (by omega))
      refine j_dld13 dL_law_1080 ?_
      refine j_dld15 dL_law_1082 ?_
      refine j_dsub dL_law_1084 (sd.1) ?_
      refine j_absD (sd.1) dL_law_1085 lL_109 (by decide) (by omega) ?_
      refine j_ldc2_wD (v := 4472406533629990549) dL_law_1088 qL_113 ?_
      refine j_dcmp dL_law_1091 ((abs_DF sd.1).1) (c9l.1) ?_
      refine j_ifle 1097 dL_law_1092 (by decide) (fun c_1092 => ?_) (fun c_1092 => absurd (Int32.not_lt.mp (fun z => absurd (cz_gt.mp z) (by have := sd.2; have := c9l.2.1; show ¬ (zv c9 < _); omega))) c_1092)
      refine j_ald1 dL_law_1097 ?_
      refine j_iconst (1) dL_law_1098 rfl ?_
      refine j_ild12 dL_law_1099 ?_
      refine j_ishl dL_law_1101 ?_
      refine j_top (y := nI (2 ^ t)) (sh1 (t := t) (by omega)) ?_
      refine j_iconst (0) dL_law_1102 rfl ?_
      refine j_cV2 dL_law_1103 kX7_tooMany lL_179 rfl (by decide) rfl (Nat.le_of_ble_eq_true rfl) (Nat.le_of_ble_eq_true rfl) (by omega) (q_tooMany h (t := t) (by omega) (Or.inl rfl)) ?_
      refine j_lconst (1) dL_law_1106 rfl ?_
      refine j_lcmp dL_law_1107 ?_
      refine j_ifne 1125 dL_law_1108 (by decide) (fun c_1108 => absurd c_1108 (not_not_intro (lg_cmp0.mpr rfl))) (fun c_1108 => ?_)
      refine j_ald1 dL_law_1111 ?_
      refine j_iconst (1) dL_law_1112 rfl ?_
      refine j_ild12 dL_law_1113 ?_
      refine j_ishl dL_law_1115 ?_
      refine j_top (y := nI (2 ^ t)) (sh1 (t := t) (by omega)) ?_
      refine j_iconst (1) dL_law_1116 rfl ?_
      refine j_cV2 dL_law_1117 kX7_tooMany lL_179 rfl (by decide) rfl (Nat.le_of_ble_eq_true rfl) (Nat.le_of_ble_eq_true rfl) (by omega) (q_tooMany h (t := t) (by omega) (Or.inr rfl)) ?_
      refine j_lconst (1) dL_law_1120 rfl ?_
      refine j_lcmp dL_law_1121 ?_
      refine j_ifeq 1127 dL_law_1122 (by decide) (fun c_1122 => ?_) (fun c_1122 => absurd (lg_cmp0.mpr rfl) c_1122)
      refine j_iinc12 (nI (t + 1)) dL_law_1127 (nI_1 t) rfl (by decide) ?_
      refine j_goto 968 dL_law_1130 (by decide) ?_
      refine j_cut [_, _, _, _, _, _, _, _, _, _, _, _, _] [_, _, _, _, _] ?_
      exact ih (t + 1) (by omega) (by omega)
    have q_1027 : v 8 t < 6 := Nat.not_le.mp (fun z => c_1027 ((nI_leI (a := 6) (b := v 8 t) (by decide) (by omega)).mpr z))
    refine j_dld13 dL_law_1030 ?_
    refine j_dld15 dL_law_1032 ?_
    refine j_ldc2_wD (v := 4472406533629990549) dL_law_1034 qL_113 ?_
    refine j_dsub dL_law_1037 (sb.1) ?_
    refine j_dcmp dL_law_1038 (d1.1) (sb.1) ?_
    refine j_iflt 1095 dL_law_1039 (by decide) (fun c_1039 => absurd c_1039 (fun z => absurd (cz_lt.mp z) (by have := hlo (by omega); have := sb.2; omega))) (fun c_1039 => ?_)
    refine j_ald1 dL_law_1042 ?_
    refine j_ild12 dL_law_1043 ?_
    refine j_bipush (8) dL_law_1045 rfl ?_
    refine j_cV2 dL_law_1047 kX7_of lL_171 rfl (by decide) rfl (Nat.le_of_ble_eq_true rfl) (Nat.le_of_ble_eq_true rfl) (by omega) (q_of h (i := t) (w := 8) (by decide) (by rw [num_hi (by decide)]; show t < 6; omega)) ?_
    refine j_bipush (6) dL_law_1050 rfl ?_
    refine j_icmple 1067 dL_law_1052 (by decide) (fun c_1052 => ?_) (fun c_1052 => ?_)
    · have q_1052 : v 8 t ≤ 6 := (nI_leI (a := v 8 t) (b := 6) (by omega) (by decide)).mp c_1052
      refine j_ald1 dL_law_1067 ?_
      refine j_ild12 dL_law_1068 ?_
      refine j_bipush (8) dL_law_1070 rfl ?_
      refine j_cV2 dL_law_1072 kX7_of lL_171 rfl (by decide) rfl (Nat.le_of_ble_eq_true rfl) (Nat.le_of_ble_eq_true rfl) (by omega) (q_of h (i := t) (w := 8) (by decide) (by rw [num_hi (by decide)]; show t < 6; omega)) ?_
      refine j_bipush (6) dL_law_1075 rfl ?_
      refine j_icmpne 1097 dL_law_1077 (by decide) (fun c_1077 => ?_) (fun c_1077 => ?_)
      · refine j_ald1 dL_law_1097 ?_
        refine j_iconst (1) dL_law_1098 rfl ?_
        refine j_ild12 dL_law_1099 ?_
        refine j_ishl dL_law_1101 ?_
        refine j_top (y := nI (2 ^ t)) (sh1 (t := t) (by omega)) ?_
        refine j_iconst (0) dL_law_1102 rfl ?_
        refine j_cV2 dL_law_1103 kX7_tooMany lL_179 rfl (by decide) rfl (Nat.le_of_ble_eq_true rfl) (Nat.le_of_ble_eq_true rfl) (by omega) (q_tooMany h (t := t) (by omega) (Or.inl rfl)) ?_
        refine j_lconst (1) dL_law_1106 rfl ?_
        refine j_lcmp dL_law_1107 ?_
        refine j_ifne 1125 dL_law_1108 (by decide) (fun c_1108 => absurd c_1108 (not_not_intro (lg_cmp0.mpr rfl))) (fun c_1108 => ?_)
        refine j_ald1 dL_law_1111 ?_
        refine j_iconst (1) dL_law_1112 rfl ?_
        refine j_ild12 dL_law_1113 ?_
        refine j_ishl dL_law_1115 ?_
        refine j_top (y := nI (2 ^ t)) (sh1 (t := t) (by omega)) ?_
        refine j_iconst (1) dL_law_1116 rfl ?_
        refine j_cV2 dL_law_1117 kX7_tooMany lL_179 rfl (by decide) rfl (Nat.le_of_ble_eq_true rfl) (Nat.le_of_ble_eq_true rfl) (by omega) (q_tooMany h (t := t) (by omega) (Or.inr rfl)) ?_
        refine j_lconst (1) dL_law_1120 rfl ?_
        refine j_lcmp dL_law_1121 ?_
        refine j_ifeq 1127 dL_law_1122 (by decide) (fun c_1122 => ?_) (fun c_1122 => absurd (lg_cmp0.mpr rfl) c_1122)
        refine j_iinc12 (nI (t + 1)) dL_law_1127 (nI_1 t) rfl (by decide) ?_
        refine j_goto 968 dL_law_1130 (by decide) ?_
        refine j_cut [_, _, _, _, _, _, _, _, _, _, _, _, _] [_, _, _, _, _] ?_
        exact ih (t + 1) (by omega) (by omega)
      have q_1077 : v 8 t = 6 := (nI_eq (a := v 8 t) (b := 6) (by omega) (by decide)).mp (Classical.not_not.mp c_1077)
      have sd := subd d1.1 d2.1 d1.2.1 d1.2.2.1 d2.2.1 d2.2.2.1 (hhi (by omega)) (hlo (by omega))
      refine j_dld13 dL_law_1080 ?_
      refine j_dld15 dL_law_1082 ?_
      refine j_dsub dL_law_1084 (sd.1) ?_
      refine j_absD (sd.1) dL_law_1085 lL_109 (by decide) (by omega) ?_
      refine j_ldc2_wD (v := 4472406533629990549) dL_law_1088 qL_113 ?_
      refine j_dcmp dL_law_1091 ((abs_DF sd.1).1) (c9l.1) ?_
      refine j_ifle 1097 dL_law_1092 (by decide) (fun c_1092 => ?_) (fun c_1092 => absurd (Int32.not_lt.mp (fun z => absurd (cz_gt.mp z) (by have := sd.2; have := c9l.2.1; show ¬ (zv c9 < _); omega))) c_1092)
      refine j_ald1 dL_law_1097 ?_
      refine j_iconst (1) dL_law_1098 rfl ?_
      refine j_ild12 dL_law_1099 ?_
      refine j_ishl dL_law_1101 ?_
      refine j_top (y := nI (2 ^ t)) (sh1 (t := t) (by omega)) ?_
      refine j_iconst (0) dL_law_1102 rfl ?_
      refine j_cV2 dL_law_1103 kX7_tooMany lL_179 rfl (by decide) rfl (Nat.le_of_ble_eq_true rfl) (Nat.le_of_ble_eq_true rfl) (by omega) (q_tooMany h (t := t) (by omega) (Or.inl rfl)) ?_
      refine j_lconst (1) dL_law_1106 rfl ?_
      refine j_lcmp dL_law_1107 ?_
      refine j_ifne 1125 dL_law_1108 (by decide) (fun c_1108 => absurd c_1108 (not_not_intro (lg_cmp0.mpr rfl))) (fun c_1108 => ?_)
      refine j_ald1 dL_law_1111 ?_
      refine j_iconst (1) dL_law_1112 rfl ?_
      refine j_ild12 dL_law_1113 ?_
      refine j_ishl dL_law_1115 ?_
      refine j_top (y := nI (2 ^ t)) (sh1 (t := t) (by omega)) ?_
      refine j_iconst (1) dL_law_1116 rfl ?_
      refine j_cV2 dL_law_1117 kX7_tooMany lL_179 rfl (by decide) rfl (Nat.le_of_ble_eq_true rfl) (Nat.le_of_ble_eq_true rfl) (by omega) (q_tooMany h (t := t) (by omega) (Or.inr rfl)) ?_
      refine j_lconst (1) dL_law_1120 rfl ?_
      refine j_lcmp dL_law_1121 ?_
      refine j_ifeq 1127 dL_law_1122 (by decide) (fun c_1122 => ?_) (fun c_1122 => absurd (lg_cmp0.mpr rfl) c_1122)
      refine j_iinc12 (nI (t + 1)) dL_law_1127 (nI_1 t) rfl (by decide) ?_
      refine j_goto 968 dL_law_1130 (by decide) ?_
      refine j_cut [_, _, _, _, _, _, _, _, _, _, _, _, _] [_, _, _, _, _] ?_
      exact ih (t + 1) (by omega) (by omega)
    have q_1052 : 6 < v 8 t := Nat.not_le.mp (fun z => c_1052 ((nI_leI (a := v 8 t) (b := 6) (by omega) (by decide)).mpr z))
    refine j_dld13 dL_law_1055 ?_
    refine j_dld15 dL_law_1057 ?_
    refine j_ldc2_wD (v := 4472406533629990549) dL_law_1059 qL_113 ?_
    refine j_dadd dL_law_1062 (ab.1) ?_
    refine j_dcmp dL_law_1063 (d1.1) (ab.1) ?_
    refine j_ifgt 1095 dL_law_1064 (by decide) (fun c_1064 => absurd c_1064 (fun z => absurd (cz_gt.mp z) (by have := hhi (by omega); have := ab.2; omega))) (fun c_1064 => ?_)
    refine j_ald1 dL_law_1067 ?_
    refine j_ild12 dL_law_1068 ?_
    refine j_bipush (8) dL_law_1070 rfl ?_
    refine j_cV2 dL_law_1072 kX7_of lL_171 rfl (by decide) rfl (Nat.le_of_ble_eq_true rfl) (Nat.le_of_ble_eq_true rfl) (by omega) (q_of h (i := t) (w := 8) (by decide) (by rw [num_hi (by decide)]; show t < 6; omega)) ?_
    refine j_bipush (6) dL_law_1075 rfl ?_
    refine j_icmpne 1097 dL_law_1077 (by decide) (fun c_1077 => ?_) (fun c_1077 => ?_)
    · refine j_ald1 dL_law_1097 ?_
      refine j_iconst (1) dL_law_1098 rfl ?_
      refine j_ild12 dL_law_1099 ?_
      refine j_ishl dL_law_1101 ?_
      refine j_top (y := nI (2 ^ t)) (sh1 (t := t) (by omega)) ?_
      refine j_iconst (0) dL_law_1102 rfl ?_
      refine j_cV2 dL_law_1103 kX7_tooMany lL_179 rfl (by decide) rfl (Nat.le_of_ble_eq_true rfl) (Nat.le_of_ble_eq_true rfl) (by omega) (q_tooMany h (t := t) (by omega) (Or.inl rfl)) ?_
      refine j_lconst (1) dL_law_1106 rfl ?_
      refine j_lcmp dL_law_1107 ?_
      refine j_ifne 1125 dL_law_1108 (by decide) (fun c_1108 => absurd c_1108 (not_not_intro (lg_cmp0.mpr rfl))) (fun c_1108 => ?_)
      refine j_ald1 dL_law_1111 ?_
      refine j_iconst (1) dL_law_1112 rfl ?_
      refine j_ild12 dL_law_1113 ?_
      refine j_ishl dL_law_1115 ?_
      refine j_top (y := nI (2 ^ t)) (sh1 (t := t) (by omega)) ?_
      refine j_iconst (1) dL_law_1116 rfl ?_
      refine j_cV2 dL_law_1117 kX7_tooMany lL_179 rfl (by decide) rfl (Nat.le_of_ble_eq_true rfl) (Nat.le_of_ble_eq_true rfl) (by omega) (q_tooMany h (t := t) (by omega) (Or.inr rfl)) ?_
      refine j_lconst (1) dL_law_1120 rfl ?_
      refine j_lcmp dL_law_1121 ?_
      refine j_ifeq 1127 dL_law_1122 (by decide) (fun c_1122 => ?_) (fun c_1122 => absurd (lg_cmp0.mpr rfl) c_1122)
      refine j_iinc12 (nI (t + 1)) dL_law_1127 (nI_1 t) rfl (by decide) ?_
      refine j_goto 968 dL_law_1130 (by decide) ?_
      refine j_cut [_, _, _, _, _, _, _, _, _, _, _, _, _] [_, _, _, _, _] ?_
      exact ih (t + 1) (by omega) (by omega)
    have q_1077 : v 8 t = 6 := (nI_eq (a := v 8 t) (b := 6) (by omega) (by decide)).mp (Classical.not_not.mp c_1077)
    have sd := subd d1.1 d2.1 d1.2.1 d1.2.2.1 d2.2.1 d2.2.2.1 (hhi (by omega)) (hlo (by omega))
    refine j_dld13 dL_law_1080 ?_
    refine j_dld15 dL_law_1082 ?_
    refine j_dsub dL_law_1084 (sd.1) ?_
    refine j_absD (sd.1) dL_law_1085 lL_109 (by decide) (by omega) ?_
    refine j_ldc2_wD (v := 4472406533629990549) dL_law_1088 qL_113 ?_
    refine j_dcmp dL_law_1091 ((abs_DF sd.1).1) (c9l.1) ?_
    refine j_ifle 1097 dL_law_1092 (by decide) (fun c_1092 => ?_) (fun c_1092 => absurd (Int32.not_lt.mp (fun z => absurd (cz_gt.mp z) (by have := sd.2; have := c9l.2.1; show ¬ (zv c9 < _); omega))) c_1092)
    refine j_ald1 dL_law_1097 ?_
    refine j_iconst (1) dL_law_1098 rfl ?_
    refine j_ild12 dL_law_1099 ?_
    refine j_ishl dL_law_1101 ?_
    refine j_top (y := nI (2 ^ t)) (sh1 (t := t) (by omega)) ?_
    refine j_iconst (0) dL_law_1102 rfl ?_
    refine j_cV2 dL_law_1103 kX7_tooMany lL_179 rfl (by decide) rfl (Nat.le_of_ble_eq_true rfl) (Nat.le_of_ble_eq_true rfl) (by omega) (q_tooMany h (t := t) (by omega) (Or.inl rfl)) ?_
    refine j_lconst (1) dL_law_1106 rfl ?_
    refine j_lcmp dL_law_1107 ?_
    refine j_ifne 1125 dL_law_1108 (by decide) (fun c_1108 => absurd c_1108 (not_not_intro (lg_cmp0.mpr rfl))) (fun c_1108 => ?_)
    refine j_ald1 dL_law_1111 ?_
    refine j_iconst (1) dL_law_1112 rfl ?_
    refine j_ild12 dL_law_1113 ?_
    refine j_ishl dL_law_1115 ?_
    refine j_top (y := nI (2 ^ t)) (sh1 (t := t) (by omega)) ?_
    refine j_iconst (1) dL_law_1116 rfl ?_
    refine j_cV2 dL_law_1117 kX7_tooMany lL_179 rfl (by decide) rfl (Nat.le_of_ble_eq_true rfl) (Nat.le_of_ble_eq_true rfl) (by omega) (q_tooMany h (t := t) (by omega) (Or.inr rfl)) ?_
    refine j_lconst (1) dL_law_1120 rfl ?_
    refine j_lcmp dL_law_1121 ?_
    refine j_ifeq 1127 dL_law_1122 (by decide) (fun c_1122 => ?_) (fun c_1122 => absurd (lg_cmp0.mpr rfl) c_1122)
    refine j_iinc12 (nI (t + 1)) dL_law_1127 (nI_1 t) rfl (by decide) ?_
    refine j_goto 968 dL_law_1130 (by decide) ?_
    refine j_cut [_, _, _, _, _, _, _, _, _, _, _, _, _] [_, _, _, _, _] ?_
    exact ih (t + 1) (by omega) (by omega)

theorem law_965 {g : GG} (hR : HR a g) (hN : 61 < NC a) (hl : xl a 61 = n) (hn7 : n ≤ 7) (hg : GoodB bb) (hE : HE g a b Ls xs) (hL : Ls ≤ 260) {S : St} (h : LW0 n v bb S) : J a mL_law 100 g 965 [.ref b, .ref (a 0), .ref (a 61), .int (bi (hatN v n = 0)), .null, .null, .null, .null, .null, .null, .null, .null, .null, .null, .null, .null, .null, .null] [] S := by
  refine j_iconst (0) dL_law_965 rfl ?_
  refine j_ist12 dL_law_966 rfl (by decide) ?_
  exact law_968 hR hN hl hn7 hg hE hL h 7 0 (by decide) (by decide)
end Mid
