/-! what always holds; pairs of calls -/
def Inv (t : Nat) (S : St) : Prop := ∃ (n : Nat) (v : Nat → Nat → Nat) (k u : Nat) (h : Nat → Nat → Nat) (as : Nat → Nat) (ld : Nat → Int32) (l : Nat) (im : Option Img) (bd : Nat) (kd : Nat → Nat) (T : List Nat) (sh : Nat → Nat → Nat) (el : Nat → Nat → Int64) (len : Nat) (tp : Nat → Nat) (b : Option (List Line)), (TC n v S ∧ HC k u h S ∧ DCb as ld l S ∧ ImC im S ∧ AC bd kd T S ∧ SC sh el S ∧ FC len tp S ∧ LawC b S) ∧ (TR n v S ∧ HR k u h S ∧ DRb as ld l S ∧ ImR im S ∧ AR bd kd T S ∧ SR sh el S ∧ FR len tp S ∧ LawR b S) ∧ (Hok n k u h ∧ DOk t n as l im ∧ SOk bd sh ∧ BOk sh el ∧ GoodB b ∧ T.length < 2 ^ 30)
/-- a call of both, one behind the other: the same answer, and what holds behind it -/
abbrev PrI (a : Nat → Nat) (y1 y2 : MI) (xs : List Value) (S : St) (I : St → Prop) : Prop := Rqi a y1 90 (.ref (a 0) :: xs) S fun z S1 => Rqi a y2 90 (.ref (a 61) :: xs) S1 fun z' S2 => z' = z ∧ I S2
abbrev PrL (a : Nat → Nat) (y1 y2 : MI) (xs : List Value) (S : St) (I : St → Prop) : Prop := Rql a y1 90 (.ref (a 0) :: xs) S fun z S1 => Rql a y2 90 (.ref (a 61) :: xs) S1 fun z' S2 => z' = z ∧ I S2
theorem DOk.up {t n l : Nat} {as : Nat → Nat} {im : Option Img} (h : DOk t n as l im) : DOk (t + 1) n as l im := ⟨fun i hi => Nat.le_succ_of_le (h.1 i hi), h.2.1, h.2.2.1, fun m hm => ⟨(h.2.2.2 m hm).1, fun i hi => ⟨((h.2.2.2 m hm).2.1 i hi).1, Nat.le_succ_of_le ((h.2.2.2 m hm).2.1 i hi).2⟩, (h.2.2.2 m hm).2.2⟩⟩
section Pairs
variable {a : Nat → Nat} {mi y1 y2 : MI} {d d' d1 d2 t : Nat} {As As1 As2 xs : List Value} {S S1 : St} {I : St → Prop}
theorem Rqi.of {v : Int32} (h : Rt a mi d As S (some (.int v)) S1) : Rqi a mi d As S fun z S' => z = v ∧ S' = S1 := J.post h (fun r S' e => ⟨v, e.1, rfl, e.2⟩)
theorem Rql.of {v : Int64} (h : Rt a mi d As S (some (.long v)) S1) : Rql a mi d As S fun z S' => z = v ∧ S' = S1 := J.post h (fun r S' e => ⟨v, e.1, rfl, e.2⟩)
theorem Rqi.up {Q Q' : Int32 → St → Prop} (h : Rqi a mi d As S Q) (hd : d ≤ d') (hQ : ∀ z S', Q z S' → Q' z S') : Rqi a mi d' As S Q' := J.mono (J.post h (fun r S' e => by obtain ⟨v, e1, e2⟩ := e; exact ⟨v, e1, hQ v S' e2⟩)) hd
theorem Rql.up {Q Q' : Int64 → St → Prop} (h : Rql a mi d As S Q) (hd : d ≤ d') (hQ : ∀ z S', Q z S' → Q' z S') : Rql a mi d' As S Q' := J.mono (J.post h (fun r S' e => by obtain ⟨v, e1, e2⟩ := e; exact ⟨v, e1, hQ v S' e2⟩)) hd
theorem Inv.kp {rs : List Nat} (hI : Inv t S) (hk : Kp rs S S1) (hr : ∀ x ∈ rs, x ∈ [4, 8, 14, 18]) : Inv (t + 1) S1 := by
  obtain ⟨n, v, k, u, h, as, ld, l, im, bd, kd, T, sh, el, len, tp, b, ⟨cT, cH, cD, cI, cA, cS, cF, cL⟩, ⟨rT, rH, rD, rI, rA, rS, rF, rL⟩, oH, oD, oS, oB, oG, oT⟩ := hI
  have hk := hk.wk hr
  exact ⟨n, v, k, u, h, as, ld, l, im, bd, kd, T, sh, el, len, tp, b, ⟨cT.kp hk (by decide), cH.kp hk (by decide), cD.kp hk (by decide), cI.kp hk (by decide), cA.kp hk (by decide), cS.kp hk (by decide), cF.kp hk (by decide), cL.kp hk (by decide)⟩, ⟨rT.kp hk (by decide), rH.kp hk (by decide), rD.kp hk (by decide), rI.kp hk (by decide), rA.kp hk (by decide), rS.kp hk (by decide), rF.kp hk (by decide), rL.kp hk (by decide)⟩, oH, oD.up, oS, oB, oG, oT⟩
theorem PrI.q {V : Int32} {rs1 rs2 : List Nat} (hI : Inv t S) (h1 : Rqi a y1 d1 (.ref (a 0) :: xs) S fun z S' => z = V ∧ Kp rs1 S S') (hd1 : d1 ≤ 90) (hr1 : ∀ x ∈ rs1, x ∈ [4, 8, 14, 18]) (h2 : ∀ S1, Kp rs1 S S1 → Rqi a y2 d2 (.ref (a 61) :: xs) S1 fun z S' => z = V ∧ Kp rs2 S1 S') (hd2 : d2 ≤ 90) (hr2 : ∀ x ∈ rs2, x ∈ [4, 8, 14, 18]) : PrI a y1 y2 xs S (Inv (t + 1)) :=
  Rqi.up h1 hd1 (fun z S1 e => Rqi.up (h2 S1 e.2) hd2 (fun z' S2 e2 => ⟨e2.1.trans e.1.symm, hI.kp ((e.2.wk hr1).tr (e2.2.wk hr2)) (fun x hx => hx)⟩))
theorem PrL.q {V : Int64} {rs1 rs2 : List Nat} (hI : Inv t S) (h1 : Rql a y1 d1 (.ref (a 0) :: xs) S fun z S' => z = V ∧ Kp rs1 S S') (hd1 : d1 ≤ 90) (hr1 : ∀ x ∈ rs1, x ∈ [4, 8, 14, 18]) (h2 : ∀ S1, Kp rs1 S S1 → Rql a y2 d2 (.ref (a 61) :: xs) S1 fun z S' => z = V ∧ Kp rs2 S1 S') (hd2 : d2 ≤ 90) (hr2 : ∀ x ∈ rs2, x ∈ [4, 8, 14, 18]) : PrL a y1 y2 xs S (Inv (t + 1)) :=
  Rql.up h1 hd1 (fun z S1 e => Rql.up (h2 S1 e.2) hd2 (fun z' S2 e2 => ⟨e2.1.trans e.1.symm, hI.kp ((e.2.wk hr1).tr (e2.2.wk hr2)) (fun x hx => hx)⟩))
theorem PrI.s {V : Int32} (hI : Inv t S) (h1 : Rt a y1 d1 (.ref (a 0) :: xs) S (some (.int V)) S) (hd1 : d1 ≤ 90) (h2 : Rt a y2 d2 (.ref (a 61) :: xs) S (some (.int V)) S) (hd2 : d2 ≤ 90) : PrI a y1 y2 xs S (Inv (t + 1)) :=
  Rqi.up (Rqi.of h1) hd1 (fun z S1 e => by
    obtain ⟨rfl, rfl⟩ := e
    exact Rqi.up (Rqi.of h2) hd2 (fun z' S2 e2 => ⟨e2.1, by rw [e2.2]; exact hI.kp (rs := []) Kp.rf (fun x hx => absurd hx List.not_mem_nil)⟩))
theorem PrL.s {V : Int64} (hI : Inv t S) (h1 : Rt a y1 d1 (.ref (a 0) :: xs) S (some (.long V)) S) (hd1 : d1 ≤ 90) (h2 : Rt a y2 d2 (.ref (a 61) :: xs) S (some (.long V)) S) (hd2 : d2 ≤ 90) : PrL a y1 y2 xs S (Inv (t + 1)) :=
  Rql.up (Rql.of h1) hd1 (fun z S1 e => by
    obtain ⟨rfl, rfl⟩ := e
    exact Rql.up (Rql.of h2) hd2 (fun z' S2 e2 => ⟨e2.1, by rw [e2.2]; exact hI.kp (rs := []) Kp.rf (fun x hx => absurd hx List.not_mem_nil)⟩))

theorem pr_weight {x y : Int32} (hI : Inv t S) : PrI a mX7_weight mX8_weight [.int x, .int y] S (Inv (t + 1)) := by
  obtain ⟨n, v, k, u, h, as, ld, l, im, bd, kd, T, sh, el, len, tp, b, ⟨cT, cH, cD, cI, cA, cS, cF, cL⟩, ⟨rT, rH, rD, rI, rA, rS, rF, rL⟩, oH, oD, oS, oB, oG, oT⟩ := id hI
  by_cases hk : wgOk n x y
  · exact PrI.q hI (s_X7_weight_ok cT cL oG hk) (by decide) (by decide) (fun S1 hk1 => s_X8_weight_ok (rT.kp hk1 (by decide)) (rL.kp hk1 (by decide)) oG hk) (by decide) (by decide)
  · exact PrI.s hI (s_X7_weight_bad cT hk) (by decide) (s_X8_weight_bad rT hk) (by decide)
theorem pr_shown {x p : Int32} (hI : Inv t S) : PrL a mX7_shown mX8_shown [.int x, .int p] S (Inv (t + 1)) := by
  obtain ⟨n, v, k, u, h, as, ld, l, im, bd, kd, T, sh, el, len, tp, b, ⟨cT, cH, cD, cI, cA, cS, cF, cL⟩, ⟨rT, rH, rD, rI, rA, rS, rF, rL⟩, oH, oD, oS, oB, oG, oT⟩ := id hI
  by_cases hk : shOk2 x p
  · exact PrL.q hI (s_X7_shown_ok cT cL oG hk) (by decide) (by decide) (fun S1 hk1 => s_X8_shown_ok (rT.kp hk1 (by decide)) (rL.kp hk1 (by decide)) oG hk) (by decide) (by decide)
  · exact PrL.s hI (s_X7_shown_bad hk) (by decide) (s_X8_shown_bad hk) (by decide)
theorem pr_other {x p : Int32} (hI : Inv t S) : PrL a mX7_other mX8_other [.int x, .int p] S (Inv (t + 1)) := by
  obtain ⟨n, v, k, u, h, as, ld, l, im, bd, kd, T, sh, el, len, tp, b, ⟨cT, cH, cD, cI, cA, cS, cF, cL⟩, ⟨rT, rH, rD, rI, rA, rS, rF, rL⟩, oH, oD, oS, oB, oG, oT⟩ := id hI
  by_cases hk : otOk x p
  · exact PrL.q hI (s_X7_other_ok cT cL oG hk) (by decide) (by decide) (fun S1 hk1 => s_X8_other_ok (rT.kp hk1 (by decide)) (rL.kp hk1 (by decide)) oG hk) (by decide) (by decide)
  · exact PrL.s hI (s_X7_other_bad hk) (by decide) (s_X8_other_bad hk) (by decide)
theorem pr_which {i x p : Int32} (hI : Inv t S) : PrL a mX7_which mX8_which [.int i, .int x, .int p] S (Inv (t + 1)) := by
  obtain ⟨n, v, k, u, h, as, ld, l, im, bd, kd, T, sh, el, len, tp, b, ⟨cT, cH, cD, cI, cA, cS, cF, cL⟩, ⟨rT, rH, rD, rI, rA, rS, rF, rL⟩, oH, oD, oS, oB, oG, oT⟩ := id hI
  by_cases hk : wiOk n i x p
  · exact PrL.q hI (s_X7_which_ok cT cL oG hk) (by decide) (by decide) (fun S1 hk1 => s_X8_which_ok (rT.kp hk1 (by decide)) (rL.kp hk1 (by decide)) oG hk) (by decide) (by decide)
  · exact PrL.s hI (s_X7_which_bad cT hk) (by decide) (s_X8_which_bad rT hk) (by decide)
theorem pr_again {x p : Int32} (hI : Inv t S) : PrL a mX7_again mX8_again [.int x, .int p] S (Inv (t + 1)) := by
  obtain ⟨n, v, k, u, h, as, ld, l, im, bd, kd, T, sh, el, len, tp, b, ⟨cT, cH, cD, cI, cA, cS, cF, cL⟩, ⟨rT, rH, rD, rI, rA, rS, rF, rL⟩, oH, oD, oS, oB, oG, oT⟩ := id hI
  by_cases hk : ckOk x ∧ prt p
  · exact PrL.q hI (s_X7_again_ok cT cL oG hk) (by decide) (by decide) (fun S1 hk1 => s_X8_again_ok (rT.kp hk1 (by decide)) (rL.kp hk1 (by decide)) oG hk) (by decide) (by decide)
  · exact PrL.s hI (s_X7_again_bad hk) (by decide) (s_X8_again_bad hk) (by decide)
theorem pr_cheated {x : Int32} (hI : Inv t S) : PrI a mX7_cheated mX8_cheated [.int x] S (Inv (t + 1)) := by
  obtain ⟨n, v, k, u, h, as, ld, l, im, bd, kd, T, sh, el, len, tp, b, ⟨cT, cH, cD, cI, cA, cS, cF, cL⟩, ⟨rT, rH, rD, rI, rA, rS, rF, rL⟩, oH, oD, oS, oB, oG, oT⟩ := id hI
  exact PrI.q hI (s_X7_cheated cT cL oG cS oS oB) (by decide) (by decide) (fun S1 hk1 => s_X8_cheated (rT.kp hk1 (by decide)) (rL.kp hk1 (by decide)) oG (rS.kp hk1 (by decide)) oS oB) (by decide) (by decide)
theorem pr_judge {x : Int32} (hI : Inv t S) : PrI a mX7_judge mX8_judge [.int x] S (Inv (t + 1)) := by
  obtain ⟨n, v, k, u, h, as, ld, l, im, bd, kd, T, sh, el, len, tp, b, ⟨cT, cH, cD, cI, cA, cS, cF, cL⟩, ⟨rT, rH, rD, rI, rA, rS, rF, rL⟩, oH, oD, oS, oB, oG, oT⟩ := id hI
  exact PrI.q hI (s_X7_judge cT cL oG cS oS oB) (by decide) (by decide) (fun S1 hk1 => s_X8_judge (rT.kp hk1 (by decide)) (rL.kp hk1 (by decide)) oG (rS.kp hk1 (by decide)) oS oB) (by decide) (by decide)
theorem pr_handed {x y p : Int32} (hI : Inv t S) : PrL a mX7_handed mX8_handed [.int x, .int y, .int p] S (Inv (t + 1)) := by
  obtain ⟨n, v, k, u, h, as, ld, l, im, bd, kd, T, sh, el, len, tp, b, ⟨cT, cH, cD, cI, cA, cS, cF, cL⟩, ⟨rT, rH, rD, rI, rA, rS, rF, rL⟩, oH, oD, oS, oB, oG, oT⟩ := id hI
  exact PrL.s hI (s_X7_handed cT) (by decide) (s_X8_handed rT) (by decide)
theorem pr_ill {x p : Int32} (hI : Inv t S) : PrL a mX7_ill mX8_ill [.int x, .int p] S (Inv (t + 1)) := by
  obtain ⟨n, v, k, u, h, as, ld, l, im, bd, kd, T, sh, el, len, tp, b, ⟨cT, cH, cD, cI, cA, cS, cF, cL⟩, ⟨rT, rH, rD, rI, rA, rS, rF, rL⟩, oH, oD, oS, oB, oG, oT⟩ := id hI
  by_cases hk : tdOk 16 x ∧ prt p
  · exact PrL.s hI (s_X7_ill_ok cT hk) (by decide) (s_X8_ill_ok rT hk) (by decide)
  · exact PrL.s hI (s_X7_ill_bad hk) (by decide) (s_X8_ill_bad hk) (by decide)
theorem pr_order {x p : Int32} (hI : Inv t S) : PrL a mX7_order mX8_order [.int x, .int p] S (Inv (t + 1)) := by
  obtain ⟨n, v, k, u, h, as, ld, l, im, bd, kd, T, sh, el, len, tp, b, ⟨cT, cH, cD, cI, cA, cS, cF, cL⟩, ⟨rT, rH, rD, rI, rA, rS, rF, rL⟩, oH, oD, oS, oB, oG, oT⟩ := id hI
  by_cases hk : orOk x p
  · exact PrL.q hI (s_X7_order_ok cT hk) (by decide) (by decide) (fun S1 hk1 => s_X8_order_ok (rT.kp hk1 (by decide)) hk) (by decide) (by decide)
  · exact PrL.s hI (s_X7_order_bad hk) (by decide) (s_X8_order_bad hk) (by decide)
theorem pr_isSo {x p : Int32} (hI : Inv t S) : PrL a mX7_isSo mX8_isSo [.int x, .int p] S (Inv (t + 1)) := by
  obtain ⟨n, v, k, u, h, as, ld, l, im, bd, kd, T, sh, el, len, tp, b, ⟨cT, cH, cD, cI, cA, cS, cF, cL⟩, ⟨rT, rH, rD, rI, rA, rS, rF, rL⟩, oH, oD, oS, oB, oG, oT⟩ := id hI
  by_cases hk : tdOk 64 x ∧ prt p
  · exact PrL.s hI (s_X7_isSo_ok cT hk) (by decide) (s_X8_isSo_ok rT hk) (by decide)
  · exact PrL.s hI (s_X7_isSo_bad hk) (by decide) (s_X8_isSo_bad hk) (by decide)
theorem pr_tooMany {x p : Int32} (hI : Inv t S) : PrL a mX7_tooMany mX8_tooMany [.int x, .int p] S (Inv (t + 1)) := by
  obtain ⟨n, v, k, u, h, as, ld, l, im, bd, kd, T, sh, el, len, tp, b, ⟨cT, cH, cD, cI, cA, cS, cF, cL⟩, ⟨rT, rH, rD, rI, rA, rS, rF, rL⟩, oH, oD, oS, oB, oG, oT⟩ := id hI
  by_cases hk : tmOk x p
  · exact PrL.s hI (s_X7_tooMany_ok cT hk) (by decide) (s_X8_tooMany_ok rT hk) (by decide)
  · exact PrL.s hI (s_X7_tooMany_bad hk) (by decide) (s_X8_tooMany_bad hk) (by decide)
theorem pr_next {x p : Int32} (hI : Inv t S) : PrL a mX7_next mX8_next [.int x, .int p] S (Inv (t + 1)) := by
  obtain ⟨n, v, k, u, h, as, ld, l, im, bd, kd, T, sh, el, len, tp, b, ⟨cT, cH, cD, cI, cA, cS, cF, cL⟩, ⟨rT, rH, rD, rI, rA, rS, rF, rL⟩, oH, oD, oS, oB, oG, oT⟩ := id hI
  by_cases hk : nxOk x p
  · exact PrL.s hI (s_X7_next_ok hk) (by decide) (s_X8_next_ok hk) (by decide)
  · exact PrL.s hI (s_X7_next_bad hk) (by decide) (s_X8_next_bad hk) (by decide)
theorem pr_sure {x : Int32} (hI : Inv t S) : PrI a mX7_sure mX8_sure [.int x] S (Inv (t + 1)) := by
  obtain ⟨n, v, k, u, h, as, ld, l, im, bd, kd, T, sh, el, len, tp, b, ⟨cT, cH, cD, cI, cA, cS, cF, cL⟩, ⟨rT, rH, rD, rI, rA, rS, rF, rL⟩, oH, oD, oS, oB, oG, oT⟩ := id hI
  by_cases hk : suOk x
  · exact PrI.q hI (s_X7_sure_ok cT hk) (by decide) (by decide) (fun S1 hk1 => s_X8_sure_ok (rT.kp hk1 (by decide)) hk) (by decide) (by decide)
  · exact PrI.s hI (s_X7_sure_bad hk) (by decide) (s_X8_sure_bad hk) (by decide)
theorem pr_drawn {x y z : Int32} (hI : Inv t S) : PrI a mX7_drawn mX8_drawn [.int x, .int y, .int z] S (Inv (t + 1)) := by
  obtain ⟨n, v, k, u, h, as, ld, l, im, bd, kd, T, sh, el, len, tp, b, ⟨cT, cH, cD, cI, cA, cS, cF, cL⟩, ⟨rT, rH, rD, rI, rA, rS, rF, rL⟩, oH, oD, oS, oB, oG, oT⟩ := id hI
  by_cases hk : dnOk y z
  · exact PrI.q hI (s_X7_drawn_ok cT cL oG hk) (by decide) (by decide) (fun S1 hk1 => s_X8_drawn_ok (rT.kp hk1 (by decide)) (rL.kp hk1 (by decide)) oG hk) (by decide) (by decide)
  · exact PrI.s hI (s_X7_drawn_bad hk) (by decide) (s_X8_drawn_bad hk) (by decide)
theorem pr_trace {i : Int32} (hI : Inv t S) : PrI a mX7_trace mX8_trace [.int i] S (Inv (t + 1)) := by
  obtain ⟨n, v, k, u, h, as, ld, l, im, bd, kd, T, sh, el, len, tp, b, ⟨cT, cH, cD, cI, cA, cS, cF, cL⟩, ⟨rT, rH, rD, rI, rA, rS, rF, rL⟩, oH, oD, oS, oB, oG, oT⟩ := id hI
  exact PrI.s hI (s_X7_trace cA oT) (by decide) (s_X8_trace rA oT) (by decide)
theorem pr_element {x y : Int32} (hI : Inv t S) : PrL a mX7_element mX8_element [.int x, .int y] S (Inv (t + 1)) := by
  obtain ⟨n, v, k, u, h, as, ld, l, im, bd, kd, T, sh, el, len, tp, b, ⟨cT, cH, cD, cI, cA, cS, cF, cL⟩, ⟨rT, rH, rD, rI, rA, rS, rF, rL⟩, oH, oD, oS, oB, oG, oT⟩ := id hI
  exact PrL.s hI (s_X7_element cS oS) (by decide) (s_X8_element rS oS) (by decide)
theorem pr_taken {x y : Int32} (hI : Inv t S) : PrI a mX7_taken mX8_taken [.int x, .int y] S (Inv (t + 1)) := by
  obtain ⟨n, v, k, u, h, as, ld, l, im, bd, kd, T, sh, el, len, tp, b, ⟨cT, cH, cD, cI, cA, cS, cF, cL⟩, ⟨rT, rH, rD, rI, rA, rS, rF, rL⟩, oH, oD, oS, oB, oG, oT⟩ := id hI
  exact PrI.s hI (s_X7_taken cS oS cA) (by decide) (s_X8_taken rS oS rA) (by decide)
theorem sumN_tail {as : Nat → Nat} {n : Nat} (h : ∀ i, n ≤ i → as i = 0) : ∀ m, n ≤ m → sumN as m = sumN as n
  | 0, hm => by rw [show n = 0 by omega]
  | m + 1, hm => by
    by_cases e : n = m + 1
    · rw [e]
    · rw [sumN, sumN_tail h m (by omega), h m (by omega)]; rfl
theorem lt_eq {l : Nat} (hl : l ≤ 8) : (if cLt l < 0 then (-2 : Int32) else cLt l) = rLt l := by
  unfold cLt rLt
  by_cases e : l = 0
  · rw [if_pos e, if_pos e, if_pos (by decide)]
  · rw [if_neg e, if_neg e, if_neg (Int32.not_lt.mpr (nI_pos' (by omega)))]
theorem ofV_congr {n : Nat} {v : Nat → Nat → Nat} {as as' ld ld' : Nat → Int32} {lat x y : Int32} (hn : n ≤ 8) (h1 : ∀ i, i < 8 → as i = as' i) (h2 : ∀ c, c < 6 → ld c = ld' c) : ofV n v as ld lat x y = ofV n v as' ld' lat x y := by
  unfold ofV
  congr 1
  congr 1
  · by_cases c : 0 ≤ x ∧ x < nI n
    · rw [if_pos c, if_pos c]
      obtain ⟨i, hi, rfl⟩ := in_nI (by omega) c
      rw [nI_clamp (by omega), h1 i (by omega)]
    · rw [if_neg c, if_neg c]
  · congr 1
    by_cases c : 0 ≤ x ∧ x < 6
    · rw [if_pos c, if_pos c]
      obtain ⟨i, hi, rfl⟩ := in_nI (n := 6) (by decide) c
      rw [nI_clamp (by omega), h2 i hi]
    · rw [if_neg c, if_neg c]
theorem pr_of {x y : Int32} (hI : Inv t S) : PrI a mX7_of mX8_of [.int x, .int y] S (Inv (t + 1)) := by
  obtain ⟨n, v, k, u, h, as, ld, l, im, bd, kd, T, sh, el, len, tp, b, ⟨cT, cH, cD, cI, cA, cS, cF, cL⟩, ⟨rT, rH, rD, rI, rA, rS, rF, rL⟩, oH, oD, oS, oB, oG, oT⟩ := id hI
  have e1 := s_X7_of (a := a) (x := x) (y := y) cT
  have e2 := s_X8_of (a := a) (x := x) (y := y) rT
  rw [cD.2.2, lt_eq oD.2.2.1, ofV_congr (as' := fun i => nI (as i)) (ld' := ld) cT.2.1 cD.1 cD.2.1] at e1
  rw [rD.2.2, ofV_congr (as' := fun i => nI (as i)) (ld' := ld) cT.2.1 rD.1 rD.2.1] at e2
  exact PrI.s hI e1 (by decide) e2 (by decide)
theorem pr_count {x : Int32} (ht : t ≤ 2 ^ 20) (hI : Inv t S) : PrI a mX7_count mX8_count [.int x] S (Inv (t + 1)) := by
  obtain ⟨n, v, k, u, h, as, ld, l, im, bd, kd, T, sh, el, len, tp, b, ⟨cT, cH, cD, cI, cA, cS, cF, cL⟩, ⟨rT, rH, rD, rI, rA, rS, rF, rL⟩, oH, oD, oS, oB, oG, oT⟩ := id hI
  have e1 := s_X7_count (a := a) (x := x) cD (fun i hi => Nat.le_trans (oD.1 i hi) ht)
  have e2 := s_X8_count (a := a) (x := x) rT.1 rT.2.1 rD
  obtain ⟨q, hq1, hq2, hq3, -⟩ := cH
  rw [cT.1, cF.1, hq3, cA.1, cA.2.2.2.1, sumN_tail oD.2.1 8 cT.2.1] at e1
  rw [rT.1, rF.1, rH.1, rA.1, rA.2.2.2.1] at e2
  exact PrI.s hI e1 (by decide) e2 (by decide)
end Pairs
