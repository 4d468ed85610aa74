/-! the image: the class -/
section ImgC
variable {a : Nat → Nat} {S S1 : St} {n k u l t : Nat} {v h : Nat → Nat → Nat} {b : Option (List Line)} {as : Nat → Nat} {ld : Nat → Int32} {im : Option Img} {m : Img}
def ctV (n sa tp dn bd tr : Int32) (x : Int32) : Int32 := if x = 0 then n else if x = 1 then sa else if x = 2 then tp else if x = 3 then dn else if x = 4 then bd else if x = 5 then tr else -1
set_option maxRecDepth 20000 in
theorem s_X7_count {x : Int32} (hd : DCb as ld l S) (ha : ∀ i, i < 8 → as i ≤ 2 ^ 20) : Rt a mX7_count 2 [.ref (a 0), .int x] S (some (.int (ctV (S.1 1 1) (nI (sumN as 8)) (S.1 0 8) (S.1 1 7) (S.1 6 1) (S.1 6 3) x))) S := by
  show J _ _ _ _ 0 [_, _] [] _
  refine j_ild1 dX7_count_0 ?_
  refine j_topi (fun y_1 e_1 => ?_)
  by_cases h_1_0 : y_1 = 0
  · rw [h_1_0] at e_1 ⊢
    refine j_tblIn (39) 40 dX7_count_1 (by decide) (by decide) rfl (by decide) ?_
    refine j_ald0 dX7_count_40 ?_
    refine j_getR (k := 0) (1) dX7_count_41 cX7_ok (Or.inl f7_12) rfl (by decide) (by decide) (by decide) rfl ?_
    refine j_getI (k := 1) dX7_count_44 cX6_ok (Or.inr ⟨_, f7_91⟩) rfl (by decide) (by decide) (by decide) ?_
    refine j_iret dX7_count_47 rfl ?_
    exact ⟨by rw [← e_1]; rfl, rfl⟩
  by_cases h_1_1 : y_1 = 1
  · rw [h_1_1] at e_1 ⊢
    refine j_tblIn (47) 48 dX7_count_1 (by decide) (by decide) rfl (by decide) ?_
    refine j_ald0 dX7_count_48 ?_
    refine j_getR (k := 4) (5) dX7_count_49 cX7_ok (Or.inl f7_42) rfl (by decide) (by decide) (by decide) rfl ?_
    refine j_cV0 dX7_count_52 kX1_allAside l7_313 rfl (by decide) rfl (Nat.le_of_ble_eq_true rfl) (Nat.le_of_ble_eq_true rfl) (by omega) (s_X1_allAside hd ha) ?_
    refine j_iret dX7_count_55 rfl ?_
    exact ⟨by rw [← e_1]; rfl, rfl⟩
  by_cases h_1_2 : y_1 = 2
  · rw [h_1_2] at e_1 ⊢
    refine j_tblIn (55) 56 dX7_count_1 (by decide) (by decide) rfl (by decide) ?_
    refine j_ald0 dX7_count_56 ?_
    refine j_getI (k := 8) dX7_count_57 cX7_ok (Or.inl f7_124) rfl (by decide) (by decide) (by decide) ?_
    refine j_iret dX7_count_60 rfl ?_
    exact ⟨by rw [← e_1]; rfl, rfl⟩
  by_cases h_1_3 : y_1 = 3
  · rw [h_1_3] at e_1 ⊢
    refine j_tblIn (60) 61 dX7_count_1 (by decide) (by decide) rfl (by decide) ?_
    refine j_ald0 dX7_count_61 ?_
    refine j_getR (k := 0) (1) dX7_count_62 cX7_ok (Or.inl f7_12) rfl (by decide) (by decide) (by decide) rfl ?_
    refine j_getI (k := 7) dX7_count_65 cX6_ok (Or.inr ⟨_, f7_252⟩) rfl (by decide) (by decide) (by decide) ?_
    refine j_iret dX7_count_68 rfl ?_
    exact ⟨by rw [← e_1]; rfl, rfl⟩
  by_cases h_1_4 : y_1 = 4
  · rw [h_1_4] at e_1 ⊢
    refine j_tblIn (68) 69 dX7_count_1 (by decide) (by decide) rfl (by decide) ?_
    refine j_ald0 dX7_count_69 ?_
    refine j_getR (k := 5) (6) dX7_count_70 cX7_ok (Or.inl f7_49) rfl (by decide) (by decide) (by decide) rfl ?_
    refine j_getI (k := 1) dX7_count_73 cX0_ok (Or.inr ⟨_, f7_278⟩) rfl (by decide) (by decide) (by decide) ?_
    refine j_iret dX7_count_76 rfl ?_
    exact ⟨by rw [← e_1]; rfl, rfl⟩
  by_cases h_1_5 : y_1 = 5
  · rw [h_1_5] at e_1 ⊢
    refine j_tblIn (76) 77 dX7_count_1 (by decide) (by decide) rfl (by decide) ?_
    refine j_ald0 dX7_count_77 ?_
    refine j_getR (k := 5) (6) dX7_count_78 cX7_ok (Or.inl f7_49) rfl (by decide) (by decide) (by decide) rfl ?_
    refine j_getI (k := 3) dX7_count_81 cX0_ok (Or.inr ⟨_, f7_267⟩) rfl (by decide) (by decide) (by decide) ?_
    refine j_iret dX7_count_84 rfl ?_
    exact ⟨by rw [← e_1]; rfl, rfl⟩
  refine j_tblOut 85 dX7_count_1 (tbl_out (fun k h1 h2 => by
    have hk : k = 0 ∨ k = 1 ∨ k = 2 ∨ k = 3 ∨ k = 4 ∨ k = 5 := by omega
    rcases hk with rfl | rfl | rfl | rfl | rfl | rfl
    · exact h_1_0
    · exact h_1_1
    · exact h_1_2
    · exact h_1_3
    · exact h_1_4
    · exact h_1_5)) (by decide) ?_
  refine j_iconst (-1) dX7_count_85 rfl ?_
  refine j_iret dX7_count_86 rfl ?_
  exact ⟨by rw [e_1] at h_1_0 h_1_1 h_1_2 h_1_3 h_1_4 h_1_5; rw [ctV, if_neg h_1_0, if_neg h_1_1, if_neg h_1_2, if_neg h_1_3, if_neg h_1_4, if_neg h_1_5], rfl⟩

end ImgC

