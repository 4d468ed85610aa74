/-! the reference's constructor -/
def MF8 (r : Nat → Nat) : List Value := [.int 0, .int 0, .ref (r 0), .ref (r 1), .ref (r 2), .ref (r 3), .ref (r 4), .ref (r 5), .ref (r 6), .ref (r 7), .ref (r 8), .ref (r 9), .int 10, .int 2, .ref (r 10), .int 0, .int 0, .ref (r 11), .ref (r 12), .ref (r 13), .ref (r 14), .ref (r 15), .int (-2), .ref (r 16), .int 0, .int 0, .int 0, .int 0, .int 0, .ref (r 17), .ref (r 18), .ref (r 19), .ref (r 20), .ref (r 21), .ref (r 22), .ref (r 23), .int 0, .ref (r 24), .ref (r 25), .ref (r 26), .long 0, .ref (r 27), .ref (r 28), .int 0, .int 0, .int (-1), .int 0, .ref (r 29), .ref (r 30), .ref (r 31), .int 0, .ref (r 32), .int 0, .ref (r 33), .ref (r 34), .ref (r 35), .ref (r 36), .ref (r 37)]
def MZ8 (D : DD) (r : Nat → Nat) : va_W := [(r 0, .inl (D.2 0, 8, .inl (fun _ => 0))), (r 1, .inl (D.2 0, 8, .inl (fun _ => 0))), (r 2, .inl (D.2 0, 8, .inl (fun _ => 0))), (r 3, .inl (D.2 0, 8, .inl (fun _ => 0))), (r 4, .inl (D.2 0, 4, .inl (upd (upd (upd (upd (fun _ => 0) 0 1) 1 1) 2 1) 3 1))), (r 5, .inl (D.2 0, 4, .inl (upd (upd (upd (upd (fun _ => 0) 0 1) 1 1) 2 1) 3 1))), (r 6, .inl (D.2 0, 4, .inl (upd (upd (upd (upd (fun _ => 0) 0 9) 1 9) 2 9) 3 9))), (r 7, .inl (D.2 0, 4, .inl (upd (upd (upd (upd (fun _ => 0) 0 9) 1 9) 2 9) 3 9))), (r 8, .inl (D.2 0, 4, .inl (upd (upd (upd (upd (fun _ => 0) 0 10) 1 10) 2 10) 3 10))), (r 9, .inl (D.2 0, 6, .inl (upd (upd (upd (upd (upd (upd (fun _ => 0) 0 3) 1 3) 2 3) 3 3) 4 3) 5 3))), (r 10, .inl (D.2 0, 3, .inl (upd (upd (upd (fun _ => 0) 0 4) 1 4) 2 4))), (r 11, .inl (D.2 0, 40, .inl (fun _ => 0))), (r 12, .inl (D.2 0, 40, .inl (fun _ => 0))), (r 13, .inl (D.2 0, 40, .inl (fun _ => 0))), (r 14, .inl (D.2 0, 40, .inl (fun _ => 0))), (r 15, .inl (D.2 0, 6, .inl (fun _ => 0))), (r 16, .inl (D.2 1, 120, .inl (fun _ => 0))), (r 17, .inl (D.2 1, 260, .inl (fun _ => 0))), (r 18, .inl (D.2 0, 260, .inl (fun _ => 0))), (r 19, .inl (D.2 0, 2, .inl (fun _ => 0))), (r 20, .inl (D.2 2, 122, .inl (fun _ => 0))), (r 21, .inl (D.2 2, 122, .inl (fun _ => 0))), (r 22, .inl (D.2 0, 5, .inl (fun _ => 0))), (r 23, .inl (D.2 0, 130, .inl (fun _ => 0))), (r 24, .inl (D.2 0, 16, .inl (fun _ => 0))), (r 25, .inl (D.2 0, 4, .inl (fun _ => 0))), (r 26, .inl (D.2 0, 4, .inl (fun _ => 0))), (r 27, .inl (D.2 0, 3, .inl (fun _ => 0))), (r 28, .inl (D.2 0, 3, .inl (fun _ => 0))), (r 29, .inl (D.2 0, 8, .inl (fun _ => 0))), (r 30, .inl (D.2 0, 8, .inl (fun _ => 0))), (r 31, .inl (D.2 0, 6, .inl (fun _ => 0))), (r 32, .inl (D.2 0, 50, .inl (fun _ => 0))), (r 33, .inl (D.2 0, 24, .inl (fun _ => 0))), (r 34, .inl (D.2 0, 6, .inl (upd (upd (upd (upd (upd (upd (fun _ => 0) 0 (-1)) 1 (-1)) 2 (-1)) 3 (-1)) 4 (-1)) 5 (-1)))), (r 35, .inl (D.2 0, 6, .inl (fun _ => 0))), (r 36, .inl (D.2 3, 360, .inr (.inl (fun _ => 0)))), (r 37, .inl (D.2 3, 60, .inr (.inl (fun _ => 0))))]
set_option maxHeartbeats 40000000 in
set_option maxRecDepth 100000 in
theorem b_X8_init (D : DD) (F : Nat → Prop) (z : Nat → Nat) (X : va_W) (h0 : Nat) : JK (gk D F z 38 1806 fun ws => ∃ r, ws = X ++ (h0, .inr (8, MF8 r)) :: MZ8 D r) mX8_init 2 0 [.ref h0] [] (X ++ [(h0, .inr (8, [.int 0, .int 0, .null, .null, .null, .null, .null, .null, .null, .null, .null, .null, .int 0, .int 0, .null, .int 0, .int 0, .null, .null, .null, .null, .null, .int 0, .null, .int 0, .int 0, .int 0, .int 0, .int 0, .null, .null, .null, .null, .null, .null, .null, .int 0, .null, .null, .null, .long 0, .null, .null, .int 0, .int 0, .int 0, .int 0, .null, .null, .null, .int 0, .null, .int 0, .null, .null, .null, .null, .null]))]) 0 0 := by
  refine k_ald0 dX8_init_0 ?_
  refine k_objInit dX8_init_1 (TT_at 792 (by decide +kernel) rfl) ob_i ob_c (Nat.le_of_ble_eq_true rfl) (by decide) ?_
  refine k_ald0 dX8_init_4 ?_
  refine k_bipush (8) dX8_init_5 rfl ?_
  refine k_new_int 8 dX8_init_7 rfl (by decide) (by decide) (Nat.le_of_ble_eq_true rfl) (Nat.le_of_ble_eq_true rfl) (fun q0 => ?_)
  refine k_put (k := 2) dX8_init_9 cX8_ok f8_9 (by decide) rfl rfl rfl rfl rfl rfl (fun fs0 e0 l0 => ?_)
  refine k_gen (fun Z0 hZ0 => ?_)
  refine k_ald0 dX8_init_12 ?_
  refine k_bipush (8) dX8_init_13 rfl ?_
  refine k_new_int 8 dX8_init_15 rfl (by decide) (by decide) (Nat.le_of_ble_eq_true rfl) (Nat.le_of_ble_eq_true rfl) (fun q1 => ?_)
  refine k_put (k := 3) dX8_init_17 cX8_ok f8_15 (by decide) l0 rfl rfl rfl rfl rfl (fun fs1 e1 l1 => ?_)
  refine k_gen (fun Z1 hZ1 => ?_)
  refine k_ald0 dX8_init_20 ?_
  refine k_bipush (8) dX8_init_21 rfl ?_
  refine k_new_int 8 dX8_init_23 rfl (by decide) (by decide) (Nat.le_of_ble_eq_true rfl) (Nat.le_of_ble_eq_true rfl) (fun q2 => ?_)
  refine k_put (k := 4) dX8_init_25 cX8_ok f8_18 (by decide) l1 rfl rfl rfl rfl rfl (fun fs2 e2 l2 => ?_)
  refine k_gen (fun Z2 hZ2 => ?_)
  refine k_ald0 dX8_init_28 ?_
  refine k_bipush (8) dX8_init_29 rfl ?_
  refine k_new_int 8 dX8_init_31 rfl (by decide) (by decide) (Nat.le_of_ble_eq_true rfl) (Nat.le_of_ble_eq_true rfl) (fun q3 => ?_)
  refine k_put (k := 5) dX8_init_33 cX8_ok f8_21 (by decide) l2 rfl rfl rfl rfl rfl (fun fs3 e3 l3 => ?_)
  refine k_gen (fun Z3 hZ3 => ?_)
  refine k_ald0 dX8_init_36 ?_
  refine k_iconst (4) dX8_init_37 rfl ?_
  refine k_new_int 4 dX8_init_38 rfl (by decide) (by decide) (Nat.le_of_ble_eq_true rfl) (Nat.le_of_ble_eq_true rfl) (fun q4 => ?_)
  refine k_dup dX8_init_40 rfl ?_
  refine k_iconst (0) dX8_init_41 rfl ?_
  refine k_iconst (1) dX8_init_42 rfl ?_
  refine k_iast 0 dX8_init_43 rfl (by decide) (by decide) ?_
  refine k_dup dX8_init_44 rfl ?_
  refine k_iconst (1) dX8_init_45 rfl ?_
  refine k_iconst (1) dX8_init_46 rfl ?_
  refine k_iast 1 dX8_init_47 rfl (by decide) (by decide) ?_
  refine k_dup dX8_init_48 rfl ?_
  refine k_iconst (2) dX8_init_49 rfl ?_
  refine k_iconst (1) dX8_init_50 rfl ?_
  refine k_iast 2 dX8_init_51 rfl (by decide) (by decide) ?_
  refine k_dup dX8_init_52 rfl ?_
  refine k_iconst (3) dX8_init_53 rfl ?_
  refine k_iconst (1) dX8_init_54 rfl ?_
  refine k_iast 3 dX8_init_55 rfl (by decide) (by decide) ?_
  refine k_put (k := 6) dX8_init_56 cX8_ok f8_24 (by decide) l3 rfl rfl rfl rfl rfl (fun fs4 e4 l4 => ?_)
  refine k_gen (fun Z4 hZ4 => ?_)
  refine k_ald0 dX8_init_59 ?_
  refine k_iconst (4) dX8_init_60 rfl ?_
  refine k_new_int 4 dX8_init_61 rfl (by decide) (by decide) (Nat.le_of_ble_eq_true rfl) (Nat.le_of_ble_eq_true rfl) (fun q5 => ?_)
  refine k_dup dX8_init_63 rfl ?_
  refine k_iconst (0) dX8_init_64 rfl ?_
  refine k_iconst (1) dX8_init_65 rfl ?_
  refine k_iast 0 dX8_init_66 rfl (by decide) (by decide) ?_
  refine k_dup dX8_init_67 rfl ?_
  refine k_iconst (1) dX8_init_68 rfl ?_
  refine k_iconst (1) dX8_init_69 rfl ?_
  refine k_iast 1 dX8_init_70 rfl (by decide) (by decide) ?_
  refine k_dup dX8_init_71 rfl ?_
  refine k_iconst (2) dX8_init_72 rfl ?_
  refine k_iconst (1) dX8_init_73 rfl ?_
  refine k_iast 2 dX8_init_74 rfl (by decide) (by decide) ?_
  refine k_dup dX8_init_75 rfl ?_
  refine k_iconst (3) dX8_init_76 rfl ?_
  refine k_iconst (1) dX8_init_77 rfl ?_
  refine k_iast 3 dX8_init_78 rfl (by decide) (by decide) ?_
  refine k_put (k := 7) dX8_init_79 cX8_ok f8_27 (by decide) l4 rfl rfl rfl rfl rfl (fun fs5 e5 l5 => ?_)
  refine k_gen (fun Z5 hZ5 => ?_)
  refine k_ald0 dX8_init_82 ?_
  refine k_iconst (4) dX8_init_83 rfl ?_
  refine k_new_int 4 dX8_init_84 rfl (by decide) (by decide) (Nat.le_of_ble_eq_true rfl) (Nat.le_of_ble_eq_true rfl) (fun q6 => ?_)
  refine k_dup dX8_init_86 rfl ?_
  refine k_iconst (0) dX8_init_87 rfl ?_
  refine k_bipush (9) dX8_init_88 rfl ?_
  refine k_iast 0 dX8_init_90 rfl (by decide) (by decide) ?_
  refine k_dup dX8_init_91 rfl ?_
  refine k_iconst (1) dX8_init_92 rfl ?_
  refine k_bipush (9) dX8_init_93 rfl ?_
  refine k_iast 1 dX8_init_95 rfl (by decide) (by decide) ?_
  refine k_dup dX8_init_96 rfl ?_
  refine k_iconst (2) dX8_init_97 rfl ?_
  refine k_bipush (9) dX8_init_98 rfl ?_
  refine k_iast 2 dX8_init_100 rfl (by decide) (by decide) ?_
  refine k_dup dX8_init_101 rfl ?_
  refine k_iconst (3) dX8_init_102 rfl ?_
  refine k_bipush (9) dX8_init_103 rfl ?_
  refine k_iast 3 dX8_init_105 rfl (by decide) (by decide) ?_
  refine k_put (k := 8) dX8_init_106 cX8_ok f8_30 (by decide) l5 rfl rfl rfl rfl rfl (fun fs6 e6 l6 => ?_)
  refine k_gen (fun Z6 hZ6 => ?_)
  refine k_ald0 dX8_init_109 ?_
  refine k_iconst (4) dX8_init_110 rfl ?_
  refine k_new_int 4 dX8_init_111 rfl (by decide) (by decide) (Nat.le_of_ble_eq_true rfl) (Nat.le_of_ble_eq_true rfl) (fun q7 => ?_)
  refine k_dup dX8_init_113 rfl ?_
  refine k_iconst (0) dX8_init_114 rfl ?_
  refine k_bipush (9) dX8_init_115 rfl ?_
  refine k_iast 0 dX8_init_117 rfl (by decide) (by decide) ?_
  refine k_dup dX8_init_118 rfl ?_
  refine k_iconst (1) dX8_init_119 rfl ?_
  refine k_bipush (9) dX8_init_120 rfl ?_
  refine k_iast 1 dX8_init_122 rfl (by decide) (by decide) ?_
  refine k_dup dX8_init_123 rfl ?_
  refine k_iconst (2) dX8_init_124 rfl ?_
  refine k_bipush (9) dX8_init_125 rfl ?_
  refine k_iast 2 dX8_init_127 rfl (by decide) (by decide) ?_
  refine k_dup dX8_init_128 rfl ?_
  refine k_iconst (3) dX8_init_129 rfl ?_
  refine k_bipush (9) dX8_init_130 rfl ?_
  refine k_iast 3 dX8_init_132 rfl (by decide) (by decide) ?_
  refine k_put (k := 9) dX8_init_133 cX8_ok f8_33 (by decide) l6 rfl rfl rfl rfl rfl (fun fs7 e7 l7 => ?_)
  refine k_gen (fun Z7 hZ7 => ?_)
  refine k_ald0 dX8_init_136 ?_
  refine k_iconst (4) dX8_init_137 rfl ?_
  refine k_new_int 4 dX8_init_138 rfl (by decide) (by decide) (Nat.le_of_ble_eq_true rfl) (Nat.le_of_ble_eq_true rfl) (fun q8 => ?_)
  refine k_dup dX8_init_140 rfl ?_
  refine k_iconst (0) dX8_init_141 rfl ?_
  refine k_bipush (10) dX8_init_142 rfl ?_
  refine k_iast 0 dX8_init_144 rfl (by decide) (by decide) ?_
  refine k_dup dX8_init_145 rfl ?_
  refine k_iconst (1) dX8_init_146 rfl ?_
  refine k_bipush (10) dX8_init_147 rfl ?_
  refine k_iast 1 dX8_init_149 rfl (by decide) (by decide) ?_
  refine k_dup dX8_init_150 rfl ?_
  refine k_iconst (2) dX8_init_151 rfl ?_
  refine k_bipush (10) dX8_init_152 rfl ?_
  refine k_iast 2 dX8_init_154 rfl (by decide) (by decide) ?_
  refine k_dup dX8_init_155 rfl ?_
  refine k_iconst (3) dX8_init_156 rfl ?_
  refine k_bipush (10) dX8_init_157 rfl ?_
  refine k_iast 3 dX8_init_159 rfl (by decide) (by decide) ?_
  refine k_put (k := 10) dX8_init_160 cX8_ok f8_36 (by decide) l7 rfl rfl rfl rfl rfl (fun fs8 e8 l8 => ?_)
  refine k_gen (fun Z8 hZ8 => ?_)
  refine k_ald0 dX8_init_163 ?_
  refine k_bipush (6) dX8_init_164 rfl ?_
  refine k_new_int 6 dX8_init_166 rfl (by decide) (by decide) (Nat.le_of_ble_eq_true rfl) (Nat.le_of_ble_eq_true rfl) (fun q9 => ?_)
  refine k_dup dX8_init_168 rfl ?_
  refine k_iconst (0) dX8_init_169 rfl ?_
  refine k_iconst (3) dX8_init_170 rfl ?_
  refine k_iast 0 dX8_init_171 rfl (by decide) (by decide) ?_
  refine k_dup dX8_init_172 rfl ?_
  refine k_iconst (1) dX8_init_173 rfl ?_
  refine k_iconst (3) dX8_init_174 rfl ?_
  refine k_iast 1 dX8_init_175 rfl (by decide) (by decide) ?_
  refine k_dup dX8_init_176 rfl ?_
  refine k_iconst (2) dX8_init_177 rfl ?_
  refine k_iconst (3) dX8_init_178 rfl ?_
  refine k_iast 2 dX8_init_179 rfl (by decide) (by decide) ?_
  refine k_dup dX8_init_180 rfl ?_
  refine k_iconst (3) dX8_init_181 rfl ?_
  refine k_iconst (3) dX8_init_182 rfl ?_
  refine k_iast 3 dX8_init_183 rfl (by decide) (by decide) ?_
  refine k_dup dX8_init_184 rfl ?_
  refine k_iconst (4) dX8_init_185 rfl ?_
  refine k_iconst (3) dX8_init_186 rfl ?_
  refine k_iast 4 dX8_init_187 rfl (by decide) (by decide) ?_
  refine k_dup dX8_init_188 rfl ?_
  refine k_iconst (5) dX8_init_189 rfl ?_
  refine k_iconst (3) dX8_init_190 rfl ?_
  refine k_iast 5 dX8_init_191 rfl (by decide) (by decide) ?_
  refine k_put (k := 11) dX8_init_192 cX8_ok f8_39 (by decide) l8 rfl rfl rfl rfl rfl (fun fs9 e9 l9 => ?_)
  refine k_gen (fun Z9 hZ9 => ?_)
  refine k_ald0 dX8_init_195 ?_
  refine k_bipush (10) dX8_init_196 rfl ?_
  refine k_put (k := 12) dX8_init_198 cX8_ok f8_42 (by decide) l9 rfl rfl rfl rfl rfl (fun fs10 e10 l10 => ?_)
  refine k_ald0 dX8_init_201 ?_
  refine k_iconst (2) dX8_init_202 rfl ?_
  refine k_put (k := 13) dX8_init_203 cX8_ok f8_46 (by decide) l10 rfl rfl rfl rfl rfl (fun fs11 e11 l11 => ?_)
  refine k_ald0 dX8_init_206 ?_
  refine k_iconst (3) dX8_init_207 rfl ?_
  refine k_new_int 3 dX8_init_208 rfl (by decide) (by decide) (Nat.le_of_ble_eq_true rfl) (Nat.le_of_ble_eq_true rfl) (fun q10 => ?_)
  refine k_dup dX8_init_210 rfl ?_
  refine k_iconst (0) dX8_init_211 rfl ?_
  refine k_iconst (4) dX8_init_212 rfl ?_
  refine k_iast 0 dX8_init_213 rfl (by decide) (by decide) ?_
  refine k_dup dX8_init_214 rfl ?_
  refine k_iconst (1) dX8_init_215 rfl ?_
  refine k_iconst (4) dX8_init_216 rfl ?_
  refine k_iast 1 dX8_init_217 rfl (by decide) (by decide) ?_
  refine k_dup dX8_init_218 rfl ?_
  refine k_iconst (2) dX8_init_219 rfl ?_
  refine k_iconst (4) dX8_init_220 rfl ?_
  refine k_iast 2 dX8_init_221 rfl (by decide) (by decide) ?_
  refine k_put (k := 14) dX8_init_222 cX8_ok f8_49 (by decide) l11 rfl rfl rfl rfl rfl (fun fs12 e12 l12 => ?_)
  refine k_gen (fun Z10 hZ10 => ?_)
  refine k_ald0 dX8_init_225 ?_
  refine k_bipush (40) dX8_init_226 rfl ?_
  refine k_new_int 40 dX8_init_228 rfl (by decide) (by decide) (Nat.le_of_ble_eq_true rfl) (Nat.le_of_ble_eq_true rfl) (fun q11 => ?_)
  refine k_put (k := 17) dX8_init_230 cX8_ok f8_52 (by decide) l12 rfl rfl rfl rfl rfl (fun fs13 e13 l13 => ?_)
  refine k_gen (fun Z11 hZ11 => ?_)
  refine k_ald0 dX8_init_233 ?_
  refine k_bipush (40) dX8_init_234 rfl ?_
  refine k_new_int 40 dX8_init_236 rfl (by decide) (by decide) (Nat.le_of_ble_eq_true rfl) (Nat.le_of_ble_eq_true rfl) (fun q12 => ?_)
  refine k_put (k := 18) dX8_init_238 cX8_ok f8_55 (by decide) l13 rfl rfl rfl rfl rfl (fun fs14 e14 l14 => ?_)
  refine k_gen (fun Z12 hZ12 => ?_)
  refine k_ald0 dX8_init_241 ?_
  refine k_bipush (40) dX8_init_242 rfl ?_
  refine k_new_int 40 dX8_init_244 rfl (by decide) (by decide) (Nat.le_of_ble_eq_true rfl) (Nat.le_of_ble_eq_true rfl) (fun q13 => ?_)
  refine k_put (k := 19) dX8_init_246 cX8_ok f8_58 (by decide) l14 rfl rfl rfl rfl rfl (fun fs15 e15 l15 => ?_)
  refine k_gen (fun Z13 hZ13 => ?_)
  refine k_ald0 dX8_init_249 ?_
  refine k_bipush (40) dX8_init_250 rfl ?_
  refine k_new_int 40 dX8_init_252 rfl (by decide) (by decide) (Nat.le_of_ble_eq_true rfl) (Nat.le_of_ble_eq_true rfl) (fun q14 => ?_)
  refine k_put (k := 20) dX8_init_254 cX8_ok f8_61 (by decide) l15 rfl rfl rfl rfl rfl (fun fs16 e16 l16 => ?_)
  refine k_gen (fun Z14 hZ14 => ?_)
  refine k_ald0 dX8_init_257 ?_
  refine k_bipush (6) dX8_init_258 rfl ?_
  refine k_new_int 6 dX8_init_260 rfl (by decide) (by decide) (Nat.le_of_ble_eq_true rfl) (Nat.le_of_ble_eq_true rfl) (fun q15 => ?_)
  refine k_put (k := 21) dX8_init_262 cX8_ok f8_64 (by decide) l16 rfl rfl rfl rfl rfl (fun fs17 e17 l17 => ?_)
  refine k_gen (fun Z15 hZ15 => ?_)
  refine k_ald0 dX8_init_265 ?_
  refine k_bipush (-2) dX8_init_266 rfl ?_
  refine k_put (k := 22) dX8_init_268 cX8_ok f8_67 (by decide) l17 rfl rfl rfl rfl rfl (fun fs18 e18 l18 => ?_)
  refine k_ald0 dX8_init_271 ?_
  refine k_bipush (120) dX8_init_272 rfl ?_
  refine k_new_byte 120 dX8_init_274 rfl (by decide) (by decide) (Nat.le_of_ble_eq_true rfl) (Nat.le_of_ble_eq_true rfl) (fun q16 => ?_)
  refine k_put (k := 23) dX8_init_276 cX8_ok f8_70 (by decide) l18 rfl rfl rfl rfl rfl (fun fs19 e19 l19 => ?_)
  refine k_gen (fun Z16 hZ16 => ?_)
  refine k_ald0 dX8_init_279 ?_
  refine k_sipush (260) dX8_init_280 rfl ?_
  refine k_new_byte 260 dX8_init_283 rfl (by decide) (by decide) (Nat.le_of_ble_eq_true rfl) (Nat.le_of_ble_eq_true rfl) (fun q17 => ?_)
  refine k_put (k := 29) dX8_init_285 cX8_ok f8_74 (by decide) l19 rfl rfl rfl rfl rfl (fun fs20 e20 l20 => ?_)
  refine k_gen (fun Z17 hZ17 => ?_)
  refine k_ald0 dX8_init_288 ?_
  refine k_sipush (260) dX8_init_289 rfl ?_
  refine k_new_int 260 dX8_init_292 rfl (by decide) (by decide) (Nat.le_of_ble_eq_true rfl) (Nat.le_of_ble_eq_true rfl) (fun q18 => ?_)
  refine k_put (k := 30) dX8_init_294 cX8_ok f8_77 (by decide) l20 rfl rfl rfl rfl rfl (fun fs21 e21 l21 => ?_)
  refine k_gen (fun Z18 hZ18 => ?_)
  refine k_ald0 dX8_init_297 ?_
  refine k_iconst (2) dX8_init_298 rfl ?_
  refine k_new_int 2 dX8_init_299 rfl (by decide) (by decide) (Nat.le_of_ble_eq_true rfl) (Nat.le_of_ble_eq_true rfl) (fun q19 => ?_)
  refine k_put (k := 31) dX8_init_301 cX8_ok f8_80 (by decide) l21 rfl rfl rfl rfl rfl (fun fs22 e22 l22 => ?_)
  refine k_gen (fun Z19 hZ19 => ?_)
  refine k_ald0 dX8_init_304 ?_
  refine k_bipush (122) dX8_init_305 rfl ?_
  refine k_new_short 122 dX8_init_307 rfl (by decide) (by decide) (Nat.le_of_ble_eq_true rfl) (Nat.le_of_ble_eq_true rfl) (fun q20 => ?_)
  refine k_put (k := 32) dX8_init_309 cX8_ok f8_83 (by decide) l22 rfl rfl rfl rfl rfl (fun fs23 e23 l23 => ?_)
  refine k_gen (fun Z20 hZ20 => ?_)
  refine k_ald0 dX8_init_312 ?_
  refine k_bipush (122) dX8_init_313 rfl ?_
  refine k_new_short 122 dX8_init_315 rfl (by decide) (by decide) (Nat.le_of_ble_eq_true rfl) (Nat.le_of_ble_eq_true rfl) (fun q21 => ?_)
  refine k_put (k := 33) dX8_init_317 cX8_ok f8_87 (by decide) l23 rfl rfl rfl rfl rfl (fun fs24 e24 l24 => ?_)
  refine k_gen (fun Z21 hZ21 => ?_)
  refine k_ald0 dX8_init_320 ?_
  refine k_iconst (5) dX8_init_321 rfl ?_
  refine k_new_int 5 dX8_init_322 rfl (by decide) (by decide) (Nat.le_of_ble_eq_true rfl) (Nat.le_of_ble_eq_true rfl) (fun q22 => ?_)
  refine k_put (k := 34) dX8_init_324 cX8_ok f8_90 (by decide) l24 rfl rfl rfl rfl rfl (fun fs25 e25 l25 => ?_)
  refine k_gen (fun Z22 hZ22 => ?_)
  refine k_ald0 dX8_init_327 ?_
  refine k_sipush (130) dX8_init_328 rfl ?_
  refine k_new_int 130 dX8_init_331 rfl (by decide) (by decide) (Nat.le_of_ble_eq_true rfl) (Nat.le_of_ble_eq_true rfl) (fun q23 => ?_)
  refine k_put (k := 35) dX8_init_333 cX8_ok f8_93 (by decide) l25 rfl rfl rfl rfl rfl (fun fs26 e26 l26 => ?_)
  refine k_gen (fun Z23 hZ23 => ?_)
  refine k_ald0 dX8_init_336 ?_
  refine k_bipush (16) dX8_init_337 rfl ?_
  refine k_new_int 16 dX8_init_339 rfl (by decide) (by decide) (Nat.le_of_ble_eq_true rfl) (Nat.le_of_ble_eq_true rfl) (fun q24 => ?_)
  refine k_put (k := 37) dX8_init_341 cX8_ok f8_96 (by decide) l26 rfl rfl rfl rfl rfl (fun fs27 e27 l27 => ?_)
  refine k_gen (fun Z24 hZ24 => ?_)
  refine k_ald0 dX8_init_344 ?_
  refine k_iconst (4) dX8_init_345 rfl ?_
  refine k_new_int 4 dX8_init_346 rfl (by decide) (by decide) (Nat.le_of_ble_eq_true rfl) (Nat.le_of_ble_eq_true rfl) (fun q25 => ?_)
  refine k_put (k := 38) dX8_init_348 cX8_ok f8_99 (by decide) l27 rfl rfl rfl rfl rfl (fun fs28 e28 l28 => ?_)
  refine k_gen (fun Z25 hZ25 => ?_)
  refine k_ald0 dX8_init_351 ?_
  refine k_iconst (4) dX8_init_352 rfl ?_
  refine k_new_int 4 dX8_init_353 rfl (by decide) (by decide) (Nat.le_of_ble_eq_true rfl) (Nat.le_of_ble_eq_true rfl) (fun q26 => ?_)
  refine k_put (k := 39) dX8_init_355 cX8_ok f8_102 (by decide) l28 rfl rfl rfl rfl rfl (fun fs29 e29 l29 => ?_)
  refine k_gen (fun Z26 hZ26 => ?_)
  refine k_ald0 dX8_init_358 ?_
  refine k_iconst (3) dX8_init_359 rfl ?_
  refine k_new_int 3 dX8_init_360 rfl (by decide) (by decide) (Nat.le_of_ble_eq_true rfl) (Nat.le_of_ble_eq_true rfl) (fun q27 => ?_)
  refine k_put (k := 41) dX8_init_362 cX8_ok f8_105 (by decide) l29 rfl rfl rfl rfl rfl (fun fs30 e30 l30 => ?_)
  refine k_gen (fun Z27 hZ27 => ?_)
  refine k_ald0 dX8_init_365 ?_
  refine k_iconst (3) dX8_init_366 rfl ?_
  refine k_new_int 3 dX8_init_367 rfl (by decide) (by decide) (Nat.le_of_ble_eq_true rfl) (Nat.le_of_ble_eq_true rfl) (fun q28 => ?_)
  refine k_put (k := 42) dX8_init_369 cX8_ok f8_108 (by decide) l30 rfl rfl rfl rfl rfl (fun fs31 e31 l31 => ?_)
  refine k_gen (fun Z28 hZ28 => ?_)
  refine k_ald0 dX8_init_372 ?_
  refine k_iconst (-1) dX8_init_373 rfl ?_
  refine k_put (k := 45) dX8_init_374 cX8_ok f8_111 (by decide) l31 rfl rfl rfl rfl rfl (fun fs32 e32 l32 => ?_)
  refine k_ald0 dX8_init_377 ?_
  refine k_bipush (8) dX8_init_378 rfl ?_
  refine k_new_int 8 dX8_init_380 rfl (by decide) (by decide) (Nat.le_of_ble_eq_true rfl) (Nat.le_of_ble_eq_true rfl) (fun q29 => ?_)
  refine k_put (k := 47) dX8_init_382 cX8_ok f8_114 (by decide) l32 rfl rfl rfl rfl rfl (fun fs33 e33 l33 => ?_)
  refine k_gen (fun Z29 hZ29 => ?_)
  refine k_ald0 dX8_init_385 ?_
  refine k_bipush (8) dX8_init_386 rfl ?_
  refine k_new_int 8 dX8_init_388 rfl (by decide) (by decide) (Nat.le_of_ble_eq_true rfl) (Nat.le_of_ble_eq_true rfl) (fun q30 => ?_)
  refine k_put (k := 48) dX8_init_390 cX8_ok f8_117 (by decide) l33 rfl rfl rfl rfl rfl (fun fs34 e34 l34 => ?_)
  refine k_gen (fun Z30 hZ30 => ?_)
  refine k_ald0 dX8_init_393 ?_
  refine k_bipush (6) dX8_init_394 rfl ?_
  refine k_new_int 6 dX8_init_396 rfl (by decide) (by decide) (Nat.le_of_ble_eq_true rfl) (Nat.le_of_ble_eq_true rfl) (fun q31 => ?_)
  refine k_put (k := 49) dX8_init_398 cX8_ok f8_120 (by decide) l34 rfl rfl rfl rfl rfl (fun fs35 e35 l35 => ?_)
  refine k_gen (fun Z31 hZ31 => ?_)
  refine k_ald0 dX8_init_401 ?_
  refine k_bipush (50) dX8_init_402 rfl ?_
  refine k_new_int 50 dX8_init_404 rfl (by decide) (by decide) (Nat.le_of_ble_eq_true rfl) (Nat.le_of_ble_eq_true rfl) (fun q32 => ?_)
  refine k_put (k := 51) dX8_init_406 cX8_ok f8_123 (by decide) l35 rfl rfl rfl rfl rfl (fun fs36 e36 l36 => ?_)
  refine k_gen (fun Z32 hZ32 => ?_)
  refine k_ald0 dX8_init_409 ?_
  refine k_bipush (24) dX8_init_410 rfl ?_
  refine k_new_int 24 dX8_init_412 rfl (by decide) (by decide) (Nat.le_of_ble_eq_true rfl) (Nat.le_of_ble_eq_true rfl) (fun q33 => ?_)
  refine k_put (k := 53) dX8_init_414 cX8_ok f8_126 (by decide) l36 rfl rfl rfl rfl rfl (fun fs37 e37 l37 => ?_)
  refine k_gen (fun Z33 hZ33 => ?_)
  refine k_ald0 dX8_init_417 ?_
  refine k_bipush (6) dX8_init_418 rfl ?_
  refine k_new_int 6 dX8_init_420 rfl (by decide) (by decide) (Nat.le_of_ble_eq_true rfl) (Nat.le_of_ble_eq_true rfl) (fun q34 => ?_)
  refine k_dup dX8_init_422 rfl ?_
  refine k_iconst (0) dX8_init_423 rfl ?_
  refine k_iconst (-1) dX8_init_424 rfl ?_
  refine k_iast 0 dX8_init_425 rfl (by decide) (by decide) ?_
  refine k_dup dX8_init_426 rfl ?_
  refine k_iconst (1) dX8_init_427 rfl ?_
  refine k_iconst (-1) dX8_init_428 rfl ?_
  refine k_iast 1 dX8_init_429 rfl (by decide) (by decide) ?_
  refine k_dup dX8_init_430 rfl ?_
  refine k_iconst (2) dX8_init_431 rfl ?_
  refine k_iconst (-1) dX8_init_432 rfl ?_
  refine k_iast 2 dX8_init_433 rfl (by decide) (by decide) ?_
  refine k_dup dX8_init_434 rfl ?_
  refine k_iconst (3) dX8_init_435 rfl ?_
  refine k_iconst (-1) dX8_init_436 rfl ?_
  refine k_iast 3 dX8_init_437 rfl (by decide) (by decide) ?_
  refine k_dup dX8_init_438 rfl ?_
  refine k_iconst (4) dX8_init_439 rfl ?_
  refine k_iconst (-1) dX8_init_440 rfl ?_
  refine k_iast 4 dX8_init_441 rfl (by decide) (by decide) ?_
  refine k_dup dX8_init_442 rfl ?_
  refine k_iconst (5) dX8_init_443 rfl ?_
  refine k_iconst (-1) dX8_init_444 rfl ?_
  refine k_iast 5 dX8_init_445 rfl (by decide) (by decide) ?_
  refine k_put (k := 54) dX8_init_446 cX8_ok f8_129 (by decide) l37 rfl rfl rfl rfl rfl (fun fs38 e38 l38 => ?_)
  refine k_gen (fun Z34 hZ34 => ?_)
  refine k_ald0 dX8_init_449 ?_
  refine k_bipush (6) dX8_init_450 rfl ?_
  refine k_new_int 6 dX8_init_452 rfl (by decide) (by decide) (Nat.le_of_ble_eq_true rfl) (Nat.le_of_ble_eq_true rfl) (fun q35 => ?_)
  refine k_put (k := 55) dX8_init_454 cX8_ok f8_132 (by decide) l38 rfl rfl rfl rfl rfl (fun fs39 e39 l39 => ?_)
  refine k_gen (fun Z35 hZ35 => ?_)
  refine k_ald0 dX8_init_457 ?_
  refine k_sipush (360) dX8_init_458 rfl ?_
  refine k_new_long 360 dX8_init_461 rfl (by decide) (by decide) (Nat.le_of_ble_eq_true rfl) (Nat.le_of_ble_eq_true rfl) (fun q36 => ?_)
  refine k_put (k := 56) dX8_init_463 cX8_ok f8_135 (by decide) l39 rfl rfl rfl rfl rfl (fun fs40 e40 l40 => ?_)
  refine k_gen (fun Z36 hZ36 => ?_)
  refine k_ald0 dX8_init_466 ?_
  refine k_bipush (60) dX8_init_467 rfl ?_
  refine k_new_long 60 dX8_init_469 rfl (by decide) (by decide) (Nat.le_of_ble_eq_true rfl) (Nat.le_of_ble_eq_true rfl) (fun q37 => ?_)
  refine k_put (k := 57) dX8_init_471 cX8_ok f8_139 (by decide) l40 rfl rfl rfl rfl rfl (fun fs41 e41 l41 => ?_)
  refine k_gen (fun Z37 hZ37 => ?_)
  refine k_ret dX8_init_474 rfl (Nat.le_of_ble_eq_true rfl) (Nat.le_of_ble_eq_true rfl) ⟨fun i => [q0, q1, q2, q3, q4, q5, q6, q7, q8, q9, q10, q11, q12, q13, q14, q15, q16, q17, q18, q19, q20, q21, q22, q23, q24, q25, q26, q27, q28, q29, q30, q31, q32, q33, q34, q35, q36, q37].getD i 0, ?_⟩
  subst hZ37
  subst e41
  subst hZ36
  subst e40
  subst hZ35
  subst e39
  subst hZ34
  subst e38
  subst hZ33
  subst e37
  subst hZ32
  subst e36
  subst hZ31
  subst e35
  subst hZ30
  subst e34
  subst hZ29
  subst e33
  subst e32
  subst hZ28
  subst e31
  subst hZ27
  subst e30
  subst hZ26
  subst e29
  subst hZ25
  subst e28
  subst hZ24
  subst e27
  subst hZ23
  subst e26
  subst hZ22
  subst e25
  subst hZ21
  subst e24
  subst hZ20
  subst e23
  subst hZ19
  subst e22
  subst hZ18
  subst e21
  subst hZ17
  subst e20
  subst hZ16
  subst e19
  subst e18
  subst hZ15
  subst e17
  subst hZ14
  subst e16
  subst hZ13
  subst e15
  subst hZ12
  subst e14
  subst hZ11
  subst e13
  subst hZ10
  subst e12
  subst e11
  subst e10
  subst hZ9
  subst e9
  subst hZ8
  subst e8
  subst hZ7
  subst e7
  subst hZ6
  subst e6
  subst hZ5
  subst e5
  subst hZ4
  subst e4
  subst hZ3
  subst e3
  subst hZ2
  subst e2
  subst hZ1
  subst e1
  subst hZ0
  subst e0
  rfl

