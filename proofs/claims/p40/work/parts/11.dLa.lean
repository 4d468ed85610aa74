theorem dL_tell_0 : decode cL_tell 0 = .ok (.iconst 0, 1) := by decide +kernel
theorem dL_tell_1 : decode cL_tell 1 = .ok (.istore_n 3, 1) := by decide +kernel
theorem dL_tell_2 : decode cL_tell 2 = .ok (.iload_n 3, 1) := by decide +kernel
theorem dL_tell_3 : decode cL_tell 3 = .ok (.iload_n 2, 1) := by decide +kernel
theorem dL_tell_4 : decode cL_tell 4 = .ok (.if_icmp .ge 24, 3) := by decide +kernel
theorem dL_tell_7 : decode cL_tell 7 = .ok (.aload_n 0, 1) := by decide +kernel
theorem dL_tell_8 : decode cL_tell 8 = .ok (.aload_n 1, 1) := by decide +kernel
theorem dL_tell_9 : decode cL_tell 9 = .ok (.iload_n 3, 1) := by decide +kernel
theorem dL_tell_10 : decode cL_tell 10 = .ok (.iaload, 1) := by decide +kernel
theorem dL_tell_11 : decode cL_tell 11 = .ok (.invokevirtual 7, 3) := by decide +kernel
theorem dL_tell_14 : decode cL_tell 14 = .ok (.iload_n 3, 1) := by decide +kernel
theorem dL_tell_15 : decode cL_tell 15 = .ok (.iconst 1, 1) := by decide +kernel
theorem dL_tell_16 : decode cL_tell 16 = .ok (.iadd, 1) := by decide +kernel
theorem dL_tell_17 : decode cL_tell 17 = .ok (.if_icmp .eq 5, 3) := by decide +kernel
theorem dL_tell_20 : decode cL_tell 20 = .ok (.iconst 0, 1) := by decide +kernel
theorem dL_tell_21 : decode cL_tell 21 = .ok (.ireturn, 1) := by decide +kernel
theorem dL_tell_22 : decode cL_tell 22 = .ok (.iinc 3 1, 3) := by decide +kernel
theorem dL_tell_25 : decode cL_tell 25 = .ok (.goto (-23), 3) := by decide +kernel
theorem dL_tell_28 : decode cL_tell 28 = .ok (.aload_n 0, 1) := by decide +kernel
theorem dL_tell_29 : decode cL_tell 29 = .ok (.iconst 2, 1) := by decide +kernel
theorem dL_tell_30 : decode cL_tell 30 = .ok (.invokevirtual 13, 3) := by decide +kernel
theorem dL_tell_33 : decode cL_tell 33 = .ok (.iload_n 2, 1) := by decide +kernel
theorem dL_tell_34 : decode cL_tell 34 = .ok (.if_icmp .ne 7, 3) := by decide +kernel
theorem dL_tell_37 : decode cL_tell 37 = .ok (.iconst 1, 1) := by decide +kernel
theorem dL_tell_38 : decode cL_tell 38 = .ok (.goto 4, 3) := by decide +kernel
theorem dL_tell_41 : decode cL_tell 41 = .ok (.iconst 0, 1) := by decide +kernel
theorem dL_tell_42 : decode cL_tell 42 = .ok (.ireturn, 1) := by decide +kernel
theorem dL_cell_0 : decode cL_cell 0 = .ok (.iload_n 1, 1) := by decide +kernel
theorem dL_cell_1 : decode cL_cell 1 = .ok (.aload_n 0, 1) := by decide +kernel
theorem dL_cell_2 : decode cL_cell 2 = .ok (.arraylength, 1) := by decide +kernel
theorem dL_cell_3 : decode cL_cell 3 = .ok (.if_icmp .ge 12, 3) := by decide +kernel
theorem dL_cell_6 : decode cL_cell 6 = .ok (.aload_n 0, 1) := by decide +kernel
theorem dL_cell_7 : decode cL_cell 7 = .ok (.iload_n 1, 1) := by decide +kernel
theorem dL_cell_8 : decode cL_cell 8 = .ok (.iaload, 1) := by decide +kernel
theorem dL_cell_9 : decode cL_cell 9 = .ok (.ldc 16, 2) := by decide +kernel
theorem dL_cell_11 : decode cL_cell 11 = .ok (.iand, 1) := by decide +kernel
theorem dL_cell_12 : decode cL_cell 12 = .ok (.goto 8, 3) := by decide +kernel
theorem dL_cell_15 : decode cL_cell 15 = .ok (.iload_n 1, 1) := by decide +kernel
theorem dL_cell_16 : decode cL_cell 16 = .ok (.sipush 8707, 3) := by decide +kernel
theorem dL_cell_19 : decode cL_cell 19 = .ok (.imul, 1) := by decide +kernel
theorem dL_cell_20 : decode cL_cell 20 = .ok (.ireturn, 1) := by decide +kernel
theorem dL_cards_0 : decode cL_cards 0 = .ok (.aload_n 0, 1) := by decide +kernel
theorem dL_cards_1 : decode cL_cards 1 = .ok (.iconst 0, 1) := by decide +kernel
theorem dL_cards_2 : decode cL_cards 2 = .ok (.invokestatic 43, 3) := by decide +kernel
theorem dL_cards_5 : decode cL_cards 5 = .ok (.bipush 7, 2) := by decide +kernel
theorem dL_cards_7 : decode cL_cards 7 = .ok (.irem, 1) := by decide +kernel
theorem dL_cards_8 : decode cL_cards 8 = .ok (.ireturn, 1) := by decide +kernel
theorem dL_many_0 : decode cL_many 0 = .ok (.aload_n 0, 1) := by decide +kernel
theorem dL_many_1 : decode cL_many 1 = .ok (.iconst 1, 1) := by decide +kernel
theorem dL_many_2 : decode cL_many 2 = .ok (.iload_n 1, 1) := by decide +kernel
theorem dL_many_3 : decode cL_many 3 = .ok (.iadd, 1) := by decide +kernel
theorem dL_many_4 : decode cL_many 4 = .ok (.invokestatic 43, 3) := by decide +kernel
theorem dL_many_7 : decode cL_many 7 = .ok (.aload_n 0, 1) := by decide +kernel
theorem dL_many_8 : decode cL_many 8 = .ok (.iconst 0, 1) := by decide +kernel
theorem dL_many_9 : decode cL_many 9 = .ok (.invokestatic 43, 3) := by decide +kernel
theorem dL_many_12 : decode cL_many 12 = .ok (.iconst 3, 1) := by decide +kernel
theorem dL_many_13 : decode cL_many 13 = .ok (.ishr, 1) := by decide +kernel
theorem dL_many_14 : decode cL_many 14 = .ok (.iconst 1, 1) := by decide +kernel
theorem dL_many_15 : decode cL_many 15 = .ok (.iand, 1) := by decide +kernel
theorem dL_many_16 : decode cL_many 16 = .ok (.ifCond .ne 8, 3) := by decide +kernel
theorem dL_many_19 : decode cL_many 19 = .ok (.bipush 10, 2) := by decide +kernel
theorem dL_many_21 : decode cL_many 21 = .ok (.goto 4, 3) := by decide +kernel
theorem dL_many_24 : decode cL_many 24 = .ok (.iconst 4, 1) := by decide +kernel
theorem dL_many_25 : decode cL_many 25 = .ok (.irem, 1) := by decide +kernel
theorem dL_many_26 : decode cL_many 26 = .ok (.ireturn, 1) := by decide +kernel
theorem dL_side_0 : decode cL_side 0 = .ok (.aload_n 0, 1) := by decide +kernel
theorem dL_side_1 : decode cL_side 1 = .ok (.iconst 1, 1) := by decide +kernel
theorem dL_side_2 : decode cL_side 2 = .ok (.iload_n 1, 1) := by decide +kernel
theorem dL_side_3 : decode cL_side 3 = .ok (.iadd, 1) := by decide +kernel
theorem dL_side_4 : decode cL_side 4 = .ok (.invokestatic 43, 3) := by decide +kernel
theorem dL_side_7 : decode cL_side 7 = .ok (.bipush 6, 2) := by decide +kernel
theorem dL_side_9 : decode cL_side 9 = .ok (.iconst 4, 1) := by decide +kernel
theorem dL_side_10 : decode cL_side 10 = .ok (.iload_n 2, 1) := by decide +kernel
theorem dL_side_11 : decode cL_side 11 = .ok (.imul, 1) := by decide +kernel
theorem dL_side_12 : decode cL_side 12 = .ok (.iadd, 1) := by decide +kernel
theorem dL_side_13 : decode cL_side 13 = .ok (.ishr, 1) := by decide +kernel
theorem dL_side_14 : decode cL_side 14 = .ok (.aload_n 0, 1) := by decide +kernel
theorem dL_side_15 : decode cL_side 15 = .ok (.iconst 0, 1) := by decide +kernel
theorem dL_side_16 : decode cL_side 16 = .ok (.invokestatic 43, 3) := by decide +kernel
theorem dL_side_19 : decode cL_side 19 = .ok (.iconst 4, 1) := by decide +kernel
theorem dL_side_20 : decode cL_side 20 = .ok (.ishr, 1) := by decide +kernel
theorem dL_side_21 : decode cL_side 21 = .ok (.iconst 1, 1) := by decide +kernel
theorem dL_side_22 : decode cL_side 22 = .ok (.iand, 1) := by decide +kernel
theorem dL_side_23 : decode cL_side 23 = .ok (.ifCond .ne 8, 3) := by decide +kernel
theorem dL_side_26 : decode cL_side 26 = .ok (.bipush 6, 2) := by decide +kernel
theorem dL_side_28 : decode cL_side 28 = .ok (.goto 4, 3) := by decide +kernel
theorem dL_side_31 : decode cL_side 31 = .ok (.iconst 3, 1) := by decide +kernel
theorem dL_side_32 : decode cL_side 32 = .ok (.irem, 1) := by decide +kernel
theorem dL_side_33 : decode cL_side 33 = .ok (.ireturn, 1) := by decide +kernel
theorem dL_hasLaw_0 : decode cL_hasLaw 0 = .ok (.aload_n 0, 1) := by decide +kernel
theorem dL_hasLaw_1 : decode cL_hasLaw 1 = .ok (.iconst 0, 1) := by decide +kernel
theorem dL_hasLaw_2 : decode cL_hasLaw 2 = .ok (.invokestatic 43, 3) := by decide +kernel
theorem dL_hasLaw_5 : decode cL_hasLaw 5 = .ok (.iconst 5, 1) := by decide +kernel
theorem dL_hasLaw_6 : decode cL_hasLaw 6 = .ok (.ishr, 1) := by decide +kernel
theorem dL_hasLaw_7 : decode cL_hasLaw 7 = .ok (.iconst 1, 1) := by decide +kernel
theorem dL_hasLaw_8 : decode cL_hasLaw 8 = .ok (.iand, 1) := by decide +kernel
theorem dL_hasLaw_9 : decode cL_hasLaw 9 = .ok (.iconst 1, 1) := by decide +kernel
theorem dL_hasLaw_10 : decode cL_hasLaw 10 = .ok (.if_icmp .ne 7, 3) := by decide +kernel
theorem dL_hasLaw_13 : decode cL_hasLaw 13 = .ok (.iconst 1, 1) := by decide +kernel
theorem dL_hasLaw_14 : decode cL_hasLaw 14 = .ok (.goto 4, 3) := by decide +kernel
theorem dL_hasLaw_17 : decode cL_hasLaw 17 = .ok (.iconst 0, 1) := by decide +kernel
theorem dL_hasLaw_18 : decode cL_hasLaw 18 = .ok (.ireturn, 1) := by decide +kernel
theorem dL_built_0 : decode cL_built 0 = .ok (.iconst 0, 1) := by decide +kernel
theorem dL_built_1 : decode cL_built 1 = .ok (.istore_n 2, 1) := by decide +kernel
theorem dL_built_2 : decode cL_built 2 = .ok (.iload_n 2, 1) := by decide +kernel
theorem dL_built_3 : decode cL_built 3 = .ok (.aload_n 1, 1) := by decide +kernel
theorem dL_built_4 : decode cL_built 4 = .ok (.invokestatic 47, 3) := by decide +kernel
theorem dL_built_7 : decode cL_built 7 = .ok (.if_icmp .ge 44, 3) := by decide +kernel
theorem dL_built_10 : decode cL_built 10 = .ok (.aload_n 0, 1) := by decide +kernel
theorem dL_built_11 : decode cL_built 11 = .ok (.bipush 100, 2) := by decide +kernel
theorem dL_built_13 : decode cL_built 13 = .ok (.aload_n 1, 1) := by decide +kernel
theorem dL_built_14 : decode cL_built 14 = .ok (.iload_n 2, 1) := by decide +kernel
theorem dL_built_15 : decode cL_built 15 = .ok (.iconst 0, 1) := by decide +kernel
theorem dL_built_16 : decode cL_built 16 = .ok (.invokestatic 51, 3) := by decide +kernel
theorem dL_built_19 : decode cL_built 19 = .ok (.imul, 1) := by decide +kernel
theorem dL_built_20 : decode cL_built 20 = .ok (.bipush 10, 2) := by decide +kernel
theorem dL_built_22 : decode cL_built 22 = .ok (.aload_n 1, 1) := by decide +kernel
theorem dL_built_23 : decode cL_built 23 = .ok (.iload_n 2, 1) := by decide +kernel
theorem dL_built_24 : decode cL_built 24 = .ok (.iconst 1, 1) := by decide +kernel
theorem dL_built_25 : decode cL_built 25 = .ok (.invokestatic 51, 3) := by decide +kernel
theorem dL_built_28 : decode cL_built 28 = .ok (.imul, 1) := by decide +kernel
theorem dL_built_29 : decode cL_built 29 = .ok (.iadd, 1) := by decide +kernel
theorem dL_built_30 : decode cL_built 30 = .ok (.aload_n 1, 1) := by decide +kernel
theorem dL_built_31 : decode cL_built 31 = .ok (.iload_n 2, 1) := by decide +kernel
theorem dL_built_32 : decode cL_built 32 = .ok (.invokestatic 55, 3) := by decide +kernel
theorem dL_built_35 : decode cL_built 35 = .ok (.iadd, 1) := by decide +kernel
theorem dL_built_36 : decode cL_built 36 = .ok (.invokevirtual 58, 3) := by decide +kernel
theorem dL_built_39 : decode cL_built 39 = .ok (.iload_n 2, 1) := by decide +kernel
theorem dL_built_40 : decode cL_built 40 = .ok (.if_icmp .eq 5, 3) := by decide +kernel
theorem dL_built_43 : decode cL_built 43 = .ok (.iconst 0, 1) := by decide +kernel
theorem dL_built_44 : decode cL_built 44 = .ok (.ireturn, 1) := by decide +kernel
theorem dL_built_45 : decode cL_built 45 = .ok (.iinc 2 1, 3) := by decide +kernel
theorem dL_built_48 : decode cL_built 48 = .ok (.goto (-46), 3) := by decide +kernel
theorem dL_built_51 : decode cL_built 51 = .ok (.aload_n 1, 1) := by decide +kernel
theorem dL_built_52 : decode cL_built 52 = .ok (.invokestatic 61, 3) := by decide +kernel
theorem dL_built_55 : decode cL_built 55 = .ok (.ifCond .ne 5, 3) := by decide +kernel
theorem dL_built_58 : decode cL_built 58 = .ok (.iconst 1, 1) := by decide +kernel
theorem dL_built_59 : decode cL_built 59 = .ok (.ireturn, 1) := by decide +kernel
theorem dL_built_60 : decode cL_built 60 = .ok (.bipush 19, 2) := by decide +kernel
theorem dL_built_62 : decode cL_built 62 = .ok (.newarray .int, 2) := by decide +kernel
theorem dL_built_64 : decode cL_built 64 = .ok (.dup, 1) := by decide +kernel
theorem dL_built_65 : decode cL_built 65 = .ok (.iconst 0, 1) := by decide +kernel
theorem dL_built_66 : decode cL_built 66 = .ok (.bipush 97, 2) := by decide +kernel
theorem dL_built_68 : decode cL_built 68 = .ok (.iastore, 1) := by decide +kernel
theorem dL_built_69 : decode cL_built 69 = .ok (.dup, 1) := by decide +kernel
theorem dL_built_70 : decode cL_built 70 = .ok (.iconst 1, 1) := by decide +kernel
theorem dL_built_71 : decode cL_built 71 = .ok (.bipush 42, 2) := by decide +kernel
theorem dL_built_73 : decode cL_built 73 = .ok (.iastore, 1) := by decide +kernel
theorem dL_built_74 : decode cL_built 74 = .ok (.dup, 1) := by decide +kernel
theorem dL_built_75 : decode cL_built 75 = .ok (.iconst 2, 1) := by decide +kernel
theorem dL_built_76 : decode cL_built 76 = .ok (.bipush 50, 2) := by decide +kernel
theorem dL_built_78 : decode cL_built 78 = .ok (.iastore, 1) := by decide +kernel
theorem dL_built_79 : decode cL_built 79 = .ok (.dup, 1) := by decide +kernel
theorem dL_built_80 : decode cL_built 80 = .ok (.iconst 3, 1) := by decide +kernel
theorem dL_built_81 : decode cL_built 81 = .ok (.bipush 45, 2) := by decide +kernel
theorem dL_built_83 : decode cL_built 83 = .ok (.iastore, 1) := by decide +kernel
theorem dL_built_84 : decode cL_built 84 = .ok (.dup, 1) := by decide +kernel
theorem dL_built_85 : decode cL_built 85 = .ok (.iconst 4, 1) := by decide +kernel
theorem dL_built_86 : decode cL_built 86 = .ok (.bipush 98, 2) := by decide +kernel
theorem dL_built_88 : decode cL_built 88 = .ok (.iastore, 1) := by decide +kernel
theorem dL_built_89 : decode cL_built 89 = .ok (.dup, 1) := by decide +kernel
theorem dL_built_90 : decode cL_built 90 = .ok (.iconst 5, 1) := by decide +kernel
theorem dL_built_91 : decode cL_built 91 = .ok (.bipush 43, 2) := by decide +kernel
theorem dL_built_93 : decode cL_built 93 = .ok (.iastore, 1) := by decide +kernel
theorem dL_built_94 : decode cL_built 94 = .ok (.dup, 1) := by decide +kernel
theorem dL_built_95 : decode cL_built 95 = .ok (.bipush 6, 2) := by decide +kernel
theorem dL_built_97 : decode cL_built 97 = .ok (.bipush 40, 2) := by decide +kernel
theorem dL_built_99 : decode cL_built 99 = .ok (.iastore, 1) := by decide +kernel
theorem dL_built_100 : decode cL_built 100 = .ok (.dup, 1) := by decide +kernel
theorem dL_built_101 : decode cL_built 101 = .ok (.bipush 7, 2) := by decide +kernel
theorem dL_built_103 : decode cL_built 103 = .ok (.bipush 110, 2) := by decide +kernel
theorem dL_built_105 : decode cL_built 105 = .ok (.iastore, 1) := by decide +kernel
theorem dL_built_106 : decode cL_built 106 = .ok (.dup, 1) := by decide +kernel
theorem dL_built_107 : decode cL_built 107 = .ok (.bipush 8, 2) := by decide +kernel
theorem dL_built_109 : decode cL_built 109 = .ok (.bipush 61, 2) := by decide +kernel
theorem dL_built_111 : decode cL_built 111 = .ok (.iastore, 1) := by decide +kernel
theorem dL_built_112 : decode cL_built 112 = .ok (.dup, 1) := by decide +kernel
theorem dL_built_113 : decode cL_built 113 = .ok (.bipush 9, 2) := by decide +kernel
theorem dL_built_115 : decode cL_built 115 = .ok (.bipush 49, 2) := by decide +kernel
theorem dL_built_117 : decode cL_built 117 = .ok (.iastore, 1) := by decide +kernel
theorem dL_built_118 : decode cL_built 118 = .ok (.dup, 1) := by decide +kernel
theorem dL_built_119 : decode cL_built 119 = .ok (.bipush 10, 2) := by decide +kernel
theorem dL_built_121 : decode cL_built 121 = .ok (.bipush 41, 2) := by decide +kernel
theorem dL_built_123 : decode cL_built 123 = .ok (.iastore, 1) := by decide +kernel
theorem dL_built_124 : decode cL_built 124 = .ok (.dup, 1) := by decide +kernel
theorem dL_built_125 : decode cL_built 125 = .ok (.bipush 11, 2) := by decide +kernel
theorem dL_built_127 : decode cL_built 127 = .ok (.bipush 42, 2) := by decide +kernel
theorem dL_built_129 : decode cL_built 129 = .ok (.iastore, 1) := by decide +kernel
theorem dL_built_130 : decode cL_built 130 = .ok (.dup, 1) := by decide +kernel
theorem dL_built_131 : decode cL_built 131 = .ok (.bipush 12, 2) := by decide +kernel
theorem dL_built_133 : decode cL_built 133 = .ok (.bipush 50, 2) := by decide +kernel
theorem dL_built_135 : decode cL_built 135 = .ok (.iastore, 1) := by decide +kernel
theorem dL_built_136 : decode cL_built 136 = .ok (.dup, 1) := by decide +kernel
theorem dL_built_137 : decode cL_built 137 = .ok (.bipush 13, 2) := by decide +kernel
theorem dL_built_139 : decode cL_built 139 = .ok (.bipush 45, 2) := by decide +kernel
theorem dL_built_141 : decode cL_built 141 = .ok (.iastore, 1) := by decide +kernel
theorem dL_built_142 : decode cL_built 142 = .ok (.dup, 1) := by decide +kernel
theorem dL_built_143 : decode cL_built 143 = .ok (.bipush 14, 2) := by decide +kernel
theorem dL_built_145 : decode cL_built 145 = .ok (.bipush 115, 2) := by decide +kernel
theorem dL_built_147 : decode cL_built 147 = .ok (.iastore, 1) := by decide +kernel
theorem dL_built_148 : decode cL_built 148 = .ok (.dup, 1) := by decide +kernel
theorem dL_built_149 : decode cL_built 149 = .ok (.bipush 15, 2) := by decide +kernel
theorem dL_built_151 : decode cL_built 151 = .ok (.bipush 43, 2) := by decide +kernel
theorem dL_built_153 : decode cL_built 153 = .ok (.iastore, 1) := by decide +kernel
theorem dL_built_154 : decode cL_built 154 = .ok (.dup, 1) := by decide +kernel
theorem dL_built_155 : decode cL_built 155 = .ok (.bipush 16, 2) := by decide +kernel
theorem dL_built_157 : decode cL_built 157 = .ok (.bipush 109, 2) := by decide +kernel
theorem dL_built_159 : decode cL_built 159 = .ok (.iastore, 1) := by decide +kernel
theorem dL_built_160 : decode cL_built 160 = .ok (.dup, 1) := by decide +kernel
theorem dL_built_161 : decode cL_built 161 = .ok (.bipush 17, 2) := by decide +kernel
theorem dL_built_163 : decode cL_built 163 = .ok (.bipush 37, 2) := by decide +kernel
theorem dL_built_165 : decode cL_built 165 = .ok (.iastore, 1) := by decide +kernel
theorem dL_built_166 : decode cL_built 166 = .ok (.dup, 1) := by decide +kernel
theorem dL_built_167 : decode cL_built 167 = .ok (.bipush 18, 2) := by decide +kernel
theorem dL_built_169 : decode cL_built 169 = .ok (.bipush 51, 2) := by decide +kernel
theorem dL_built_171 : decode cL_built 171 = .ok (.iastore, 1) := by decide +kernel
theorem dL_built_172 : decode cL_built 172 = .ok (.astore_n 2, 1) := by decide +kernel
theorem dL_built_173 : decode cL_built 173 = .ok (.aload_n 0, 1) := by decide +kernel
theorem dL_built_174 : decode cL_built 174 = .ok (.aload_n 2, 1) := by decide +kernel
theorem dL_built_175 : decode cL_built 175 = .ok (.aload_n 2, 1) := by decide +kernel
theorem dL_built_176 : decode cL_built 176 = .ok (.arraylength, 1) := by decide +kernel
theorem dL_built_177 : decode cL_built 177 = .ok (.invokestatic 65, 3) := by decide +kernel
theorem dL_built_180 : decode cL_built 180 = .ok (.ifCond .eq 15, 3) := by decide +kernel
theorem dL_built_183 : decode cL_built 183 = .ok (.aload_n 0, 1) := by decide +kernel
theorem dL_built_184 : decode cL_built 184 = .ok (.invokevirtual 69, 3) := by decide +kernel
theorem dL_built_187 : decode cL_built 187 = .ok (.iconst 1, 1) := by decide +kernel
theorem dL_built_188 : decode cL_built 188 = .ok (.if_icmp .ne 7, 3) := by decide +kernel
theorem dL_built_191 : decode cL_built 191 = .ok (.iconst 1, 1) := by decide +kernel
theorem dL_built_192 : decode cL_built 192 = .ok (.goto 4, 3) := by decide +kernel
theorem dL_built_195 : decode cL_built 195 = .ok (.iconst 0, 1) := by decide +kernel
theorem dL_built_196 : decode cL_built 196 = .ok (.ireturn, 1) := by decide +kernel
theorem dL_manys_0 : decode cL_manys 0 = .ok (.aload_n 0, 1) := by decide +kernel
theorem dL_manys_1 : decode cL_manys 1 = .ok (.invokestatic 47, 3) := by decide +kernel
theorem dL_manys_4 : decode cL_manys 4 = .ok (.newarray .int, 2) := by decide +kernel
theorem dL_manys_6 : decode cL_manys 6 = .ok (.astore_n 1, 1) := by decide +kernel
theorem dL_manys_7 : decode cL_manys 7 = .ok (.iconst 0, 1) := by decide +kernel
theorem dL_manys_8 : decode cL_manys 8 = .ok (.istore_n 2, 1) := by decide +kernel
theorem dL_manys_9 : decode cL_manys 9 = .ok (.iload_n 2, 1) := by decide +kernel
theorem dL_manys_10 : decode cL_manys 10 = .ok (.aload_n 1, 1) := by decide +kernel
theorem dL_manys_11 : decode cL_manys 11 = .ok (.arraylength, 1) := by decide +kernel
theorem dL_manys_12 : decode cL_manys 12 = .ok (.if_icmp .ge 17, 3) := by decide +kernel
theorem dL_manys_15 : decode cL_manys 15 = .ok (.aload_n 1, 1) := by decide +kernel
theorem dL_manys_16 : decode cL_manys 16 = .ok (.iload_n 2, 1) := by decide +kernel
theorem dL_manys_17 : decode cL_manys 17 = .ok (.aload_n 0, 1) := by decide +kernel
theorem dL_manys_18 : decode cL_manys 18 = .ok (.iload_n 2, 1) := by decide +kernel
theorem dL_manys_19 : decode cL_manys 19 = .ok (.invokestatic 55, 3) := by decide +kernel
theorem dL_manys_22 : decode cL_manys 22 = .ok (.iastore, 1) := by decide +kernel
theorem dL_manys_23 : decode cL_manys 23 = .ok (.iinc 2 1, 3) := by decide +kernel
theorem dL_manys_26 : decode cL_manys 26 = .ok (.goto (-17), 3) := by decide +kernel
theorem dL_manys_29 : decode cL_manys 29 = .ok (.aload_n 1, 1) := by decide +kernel
theorem dL_manys_30 : decode cL_manys 30 = .ok (.areturn, 1) := by decide +kernel
theorem dL_hat_0 : decode cL_hat 0 = .ok (.iconst 0, 1) := by decide +kernel
theorem dL_hat_1 : decode cL_hat 1 = .ok (.istore_n 1, 1) := by decide +kernel
theorem dL_hat_2 : decode cL_hat 2 = .ok (.aload_n 0, 1) := by decide +kernel
theorem dL_hat_3 : decode cL_hat 3 = .ok (.astore_n 2, 1) := by decide +kernel
theorem dL_hat_4 : decode cL_hat 4 = .ok (.aload_n 2, 1) := by decide +kernel
theorem dL_hat_5 : decode cL_hat 5 = .ok (.arraylength, 1) := by decide +kernel
theorem dL_hat_6 : decode cL_hat 6 = .ok (.istore_n 3, 1) := by decide +kernel
theorem dL_hat_7 : decode cL_hat 7 = .ok (.iconst 0, 1) := by decide +kernel
theorem dL_hat_8 : decode cL_hat 8 = .ok (.istore 4, 2) := by decide +kernel
theorem dL_hat_10 : decode cL_hat 10 = .ok (.iload 4, 2) := by decide +kernel
theorem dL_hat_12 : decode cL_hat 12 = .ok (.iload_n 3, 1) := by decide +kernel
theorem dL_hat_13 : decode cL_hat 13 = .ok (.if_icmp .ge 20, 3) := by decide +kernel
theorem dL_hat_16 : decode cL_hat 16 = .ok (.aload_n 2, 1) := by decide +kernel
theorem dL_hat_17 : decode cL_hat 17 = .ok (.iload 4, 2) := by decide +kernel
theorem dL_hat_19 : decode cL_hat 19 = .ok (.iaload, 1) := by decide +kernel
theorem dL_hat_20 : decode cL_hat 20 = .ok (.istore 5, 2) := by decide +kernel
theorem dL_hat_22 : decode cL_hat 22 = .ok (.iload_n 1, 1) := by decide +kernel
theorem dL_hat_23 : decode cL_hat 23 = .ok (.iload 5, 2) := by decide +kernel
theorem dL_hat_25 : decode cL_hat 25 = .ok (.iadd, 1) := by decide +kernel
theorem dL_hat_26 : decode cL_hat 26 = .ok (.istore_n 1, 1) := by decide +kernel
theorem dL_hat_27 : decode cL_hat 27 = .ok (.iinc 4 1, 3) := by decide +kernel
theorem dL_hat_30 : decode cL_hat 30 = .ok (.goto (-20), 3) := by decide +kernel
theorem dL_hat_33 : decode cL_hat 33 = .ok (.iload_n 1, 1) := by decide +kernel
theorem dL_hat_34 : decode cL_hat 34 = .ok (.ireturn, 1) := by decide +kernel
theorem dL_beside_0 : decode cL_beside 0 = .ok (.aload_n 0, 1) := by decide +kernel
theorem dL_beside_1 : decode cL_beside 1 = .ok (.bipush 20, 2) := by decide +kernel
theorem dL_beside_3 : decode cL_beside 3 = .ok (.iconst 4, 1) := by decide +kernel
theorem dL_beside_4 : decode cL_beside 4 = .ok (.iload_n 1, 1) := by decide +kernel
theorem dL_beside_5 : decode cL_beside 5 = .ok (.iconst 2, 1) := by decide +kernel
theorem dL_beside_6 : decode cL_beside 6 = .ok (.idiv, 1) := by decide +kernel
theorem dL_beside_7 : decode cL_beside 7 = .ok (.imul, 1) := by decide +kernel
theorem dL_beside_8 : decode cL_beside 8 = .ok (.iadd, 1) := by decide +kernel
theorem dL_beside_9 : decode cL_beside 9 = .ok (.iload_n 2, 1) := by decide +kernel
theorem dL_beside_10 : decode cL_beside 10 = .ok (.iadd, 1) := by decide +kernel
theorem dL_beside_11 : decode cL_beside 11 = .ok (.invokestatic 43, 3) := by decide +kernel
theorem dL_beside_14 : decode cL_beside 14 = .ok (.bipush 8, 2) := by decide +kernel
theorem dL_beside_16 : decode cL_beside 16 = .ok (.iload_n 1, 1) := by decide +kernel
theorem dL_beside_17 : decode cL_beside 17 = .ok (.iconst 2, 1) := by decide +kernel
theorem dL_beside_18 : decode cL_beside 18 = .ok (.irem, 1) := by decide +kernel
theorem dL_beside_19 : decode cL_beside 19 = .ok (.imul, 1) := by decide +kernel
theorem dL_beside_20 : decode cL_beside 20 = .ok (.ishr, 1) := by decide +kernel
theorem dL_beside_21 : decode cL_beside 21 = .ok (.istore_n 3, 1) := by decide +kernel
theorem dL_beside_22 : decode cL_beside 22 = .ok (.iload_n 1, 1) := by decide +kernel
theorem dL_beside_23 : decode cL_beside 23 = .ok (.iconst 2, 1) := by decide +kernel
theorem dL_beside_24 : decode cL_beside 24 = .ok (.if_icmp .ge 10, 3) := by decide +kernel
theorem dL_beside_27 : decode cL_beside 27 = .ok (.iload_n 3, 1) := by decide +kernel
theorem dL_beside_28 : decode cL_beside 28 = .ok (.bipush 10, 2) := by decide +kernel
theorem dL_beside_30 : decode cL_beside 30 = .ok (.irem, 1) := by decide +kernel
theorem dL_beside_31 : decode cL_beside 31 = .ok (.goto 35, 3) := by decide +kernel
theorem dL_beside_34 : decode cL_beside 34 = .ok (.iload_n 1, 1) := by decide +kernel
theorem dL_beside_35 : decode cL_beside 35 = .ok (.iconst 4, 1) := by decide +kernel
theorem dL_beside_36 : decode cL_beside 36 = .ok (.if_icmp .ne 10, 3) := by decide +kernel
theorem dL_beside_39 : decode cL_beside 39 = .ok (.iload_n 3, 1) := by decide +kernel
theorem dL_beside_40 : decode cL_beside 40 = .ok (.bipush 100, 2) := by decide +kernel
theorem dL_beside_42 : decode cL_beside 42 = .ok (.irem, 1) := by decide +kernel
theorem dL_beside_43 : decode cL_beside 43 = .ok (.goto 23, 3) := by decide +kernel
theorem dL_beside_46 : decode cL_beside 46 = .ok (.iload_n 3, 1) := by decide +kernel
theorem dL_beside_47 : decode cL_beside 47 = .ok (.sipush 128, 3) := by decide +kernel
theorem dL_beside_50 : decode cL_beside 50 = .ok (.iand, 1) := by decide +kernel
theorem dL_beside_51 : decode cL_beside 51 = .ok (.ifCond .ne 10, 3) := by decide +kernel
theorem dL_beside_54 : decode cL_beside 54 = .ok (.iload_n 3, 1) := by decide +kernel
theorem dL_beside_55 : decode cL_beside 55 = .ok (.bipush 13, 2) := by decide +kernel
theorem dL_beside_57 : decode cL_beside 57 = .ok (.irem, 1) := by decide +kernel
theorem dL_beside_58 : decode cL_beside 58 = .ok (.goto 8, 3) := by decide +kernel
theorem dL_beside_61 : decode cL_beside 61 = .ok (.getstatic 98, 3) := by decide +kernel
theorem dL_beside_64 : decode cL_beside 64 = .ok (.iload_n 1, 1) := by decide +kernel
theorem dL_beside_65 : decode cL_beside 65 = .ok (.iaload, 1) := by decide +kernel
theorem dL_beside_66 : decode cL_beside 66 = .ok (.ireturn, 1) := by decide +kernel
theorem dL_laid_0 : decode cL_laid 0 = .ok (.iconst 0, 1) := by decide +kernel
theorem dL_laid_1 : decode cL_laid 1 = .ok (.istore_n 2, 1) := by decide +kernel
theorem dL_laid_2 : decode cL_laid 2 = .ok (.iload_n 2, 1) := by decide +kernel
theorem dL_laid_3 : decode cL_laid 3 = .ok (.iconst 4, 1) := by decide +kernel
theorem dL_laid_4 : decode cL_laid 4 = .ok (.if_icmp .ge 46, 3) := by decide +kernel
theorem dL_laid_7 : decode cL_laid 7 = .ok (.iconst 0, 1) := by decide +kernel
theorem dL_laid_8 : decode cL_laid 8 = .ok (.istore_n 3, 1) := by decide +kernel
theorem dL_laid_9 : decode cL_laid 9 = .ok (.iload_n 3, 1) := by decide +kernel
theorem dL_laid_10 : decode cL_laid 10 = .ok (.iconst 5, 1) := by decide +kernel
theorem dL_laid_11 : decode cL_laid 11 = .ok (.if_icmp .ge 33, 3) := by decide +kernel
theorem dL_laid_14 : decode cL_laid 14 = .ok (.aload_n 0, 1) := by decide +kernel
theorem dL_laid_15 : decode cL_laid 15 = .ok (.iload_n 2, 1) := by decide +kernel
theorem dL_laid_16 : decode cL_laid 16 = .ok (.iconst 3, 1) := by decide +kernel
theorem dL_laid_17 : decode cL_laid 17 = .ok (.iload_n 3, 1) := by decide +kernel
theorem dL_laid_18 : decode cL_laid 18 = .ok (.iadd, 1) := by decide +kernel
theorem dL_laid_19 : decode cL_laid 19 = .ok (.aload_n 1, 1) := by decide +kernel
theorem dL_laid_20 : decode cL_laid 20 = .ok (.iload_n 3, 1) := by decide +kernel
theorem dL_laid_21 : decode cL_laid 21 = .ok (.iload_n 2, 1) := by decide +kernel
theorem dL_laid_22 : decode cL_laid 22 = .ok (.invokestatic 102, 3) := by decide +kernel
theorem dL_laid_25 : decode cL_laid 25 = .ok (.invokevirtual 105, 3) := by decide +kernel
theorem dL_laid_28 : decode cL_laid 28 = .ok (.getstatic 98, 3) := by decide +kernel
theorem dL_laid_31 : decode cL_laid 31 = .ok (.iload_n 3, 1) := by decide +kernel
theorem dL_laid_32 : decode cL_laid 32 = .ok (.iaload, 1) := by decide +kernel
theorem dL_laid_33 : decode cL_laid 33 = .ok (.if_icmp .eq 5, 3) := by decide +kernel
theorem dL_laid_36 : decode cL_laid 36 = .ok (.iconst 0, 1) := by decide +kernel
theorem dL_laid_37 : decode cL_laid 37 = .ok (.ireturn, 1) := by decide +kernel
theorem dL_laid_38 : decode cL_laid 38 = .ok (.iinc 3 1, 3) := by decide +kernel
theorem dL_laid_41 : decode cL_laid 41 = .ok (.goto (-32), 3) := by decide +kernel
theorem dL_laid_44 : decode cL_laid 44 = .ok (.iinc 2 1, 3) := by decide +kernel
theorem dL_laid_47 : decode cL_laid 47 = .ok (.goto (-45), 3) := by decide +kernel
theorem dL_laid_50 : decode cL_laid 50 = .ok (.iconst 0, 1) := by decide +kernel
theorem dL_laid_51 : decode cL_laid 51 = .ok (.istore_n 2, 1) := by decide +kernel
theorem dL_laid_52 : decode cL_laid 52 = .ok (.iload_n 2, 1) := by decide +kernel
theorem dL_laid_53 : decode cL_laid 53 = .ok (.bipush 6, 2) := by decide +kernel
theorem dL_laid_55 : decode cL_laid 55 = .ok (.if_icmp .ge 28, 3) := by decide +kernel
theorem dL_laid_58 : decode cL_laid 58 = .ok (.aload_n 0, 1) := by decide +kernel
theorem dL_laid_59 : decode cL_laid 59 = .ok (.iload_n 2, 1) := by decide +kernel
theorem dL_laid_60 : decode cL_laid 60 = .ok (.bipush 8, 2) := by decide +kernel
theorem dL_laid_62 : decode cL_laid 62 = .ok (.aload_n 1, 1) := by decide +kernel
theorem dL_laid_63 : decode cL_laid 63 = .ok (.iconst 5, 1) := by decide +kernel
theorem dL_laid_64 : decode cL_laid 64 = .ok (.iload_n 2, 1) := by decide +kernel
theorem dL_laid_65 : decode cL_laid 65 = .ok (.invokestatic 102, 3) := by decide +kernel
theorem dL_laid_68 : decode cL_laid 68 = .ok (.invokevirtual 105, 3) := by decide +kernel
theorem dL_laid_71 : decode cL_laid 71 = .ok (.iconst 3, 1) := by decide +kernel
theorem dL_laid_72 : decode cL_laid 72 = .ok (.if_icmp .eq 5, 3) := by decide +kernel
theorem dL_laid_75 : decode cL_laid 75 = .ok (.iconst 0, 1) := by decide +kernel
theorem dL_laid_76 : decode cL_laid 76 = .ok (.ireturn, 1) := by decide +kernel
theorem dL_laid_77 : decode cL_laid 77 = .ok (.iinc 2 1, 3) := by decide +kernel
theorem dL_laid_80 : decode cL_laid 80 = .ok (.goto (-28), 3) := by decide +kernel
theorem dL_laid_83 : decode cL_laid 83 = .ok (.aload_n 0, 1) := by decide +kernel
theorem dL_laid_84 : decode cL_laid 84 = .ok (.iconst 0, 1) := by decide +kernel
theorem dL_laid_85 : decode cL_laid 85 = .ok (.bipush 9, 2) := by decide +kernel
theorem dL_laid_87 : decode cL_laid 87 = .ok (.aload_n 1, 1) := by decide +kernel
theorem dL_laid_88 : decode cL_laid 88 = .ok (.bipush 34, 2) := by decide +kernel
theorem dL_laid_90 : decode cL_laid 90 = .ok (.invokestatic 43, 3) := by decide +kernel
theorem dL_laid_93 : decode cL_laid 93 = .ok (.bipush 100, 2) := by decide +kernel
theorem dL_laid_95 : decode cL_laid 95 = .ok (.irem, 1) := by decide +kernel
theorem dL_laid_96 : decode cL_laid 96 = .ok (.invokevirtual 105, 3) := by decide +kernel
theorem dL_laid_99 : decode cL_laid 99 = .ok (.bipush 10, 2) := by decide +kernel
theorem dL_laid_101 : decode cL_laid 101 = .ok (.if_icmp .ne 26, 3) := by decide +kernel
theorem dL_laid_104 : decode cL_laid 104 = .ok (.aload_n 0, 1) := by decide +kernel
theorem dL_laid_105 : decode cL_laid 105 = .ok (.iconst 0, 1) := by decide +kernel
theorem dL_laid_106 : decode cL_laid 106 = .ok (.bipush 10, 2) := by decide +kernel
theorem dL_laid_108 : decode cL_laid 108 = .ok (.aload_n 1, 1) := by decide +kernel
theorem dL_laid_109 : decode cL_laid 109 = .ok (.bipush 34, 2) := by decide +kernel
theorem dL_laid_111 : decode cL_laid 111 = .ok (.invokestatic 43, 3) := by decide +kernel
theorem dL_laid_114 : decode cL_laid 114 = .ok (.bipush 7, 2) := by decide +kernel
theorem dL_laid_116 : decode cL_laid 116 = .ok (.ishr, 1) := by decide +kernel
theorem dL_laid_117 : decode cL_laid 117 = .ok (.bipush 13, 2) := by decide +kernel
theorem dL_laid_119 : decode cL_laid 119 = .ok (.irem, 1) := by decide +kernel
theorem dL_laid_120 : decode cL_laid 120 = .ok (.invokevirtual 105, 3) := by decide +kernel
theorem dL_laid_123 : decode cL_laid 123 = .ok (.iconst 2, 1) := by decide +kernel
theorem dL_laid_124 : decode cL_laid 124 = .ok (.if_icmp .eq 5, 3) := by decide +kernel
theorem dL_laid_127 : decode cL_laid 127 = .ok (.iconst 0, 1) := by decide +kernel
theorem dL_laid_128 : decode cL_laid 128 = .ok (.ireturn, 1) := by decide +kernel
theorem dL_laid_129 : decode cL_laid 129 = .ok (.iconst 0, 1) := by decide +kernel
theorem dL_laid_130 : decode cL_laid 130 = .ok (.istore_n 2, 1) := by decide +kernel
theorem dL_laid_131 : decode cL_laid 131 = .ok (.iload_n 2, 1) := by decide +kernel
theorem dL_laid_132 : decode cL_laid 132 = .ok (.iconst 3, 1) := by decide +kernel
theorem dL_laid_133 : decode cL_laid 133 = .ok (.if_icmp .ge 38, 3) := by decide +kernel
theorem dL_laid_136 : decode cL_laid 136 = .ok (.aload_n 0, 1) := by decide +kernel
theorem dL_laid_137 : decode cL_laid 137 = .ok (.iload_n 2, 1) := by decide +kernel
theorem dL_laid_138 : decode cL_laid 138 = .ok (.bipush 11, 2) := by decide +kernel
theorem dL_laid_140 : decode cL_laid 140 = .ok (.aload_n 1, 1) := by decide +kernel
theorem dL_laid_141 : decode cL_laid 141 = .ok (.bipush 34, 2) := by decide +kernel
theorem dL_laid_143 : decode cL_laid 143 = .ok (.invokestatic 43, 3) := by decide +kernel
theorem dL_laid_146 : decode cL_laid 146 = .ok (.bipush 11, 2) := by decide +kernel
theorem dL_laid_148 : decode cL_laid 148 = .ok (.iconst 4, 1) := by decide +kernel
theorem dL_laid_149 : decode cL_laid 149 = .ok (.iload_n 2, 1) := by decide +kernel
theorem dL_laid_150 : decode cL_laid 150 = .ok (.imul, 1) := by decide +kernel
theorem dL_laid_151 : decode cL_laid 151 = .ok (.iadd, 1) := by decide +kernel
theorem dL_laid_152 : decode cL_laid 152 = .ok (.ishr, 1) := by decide +kernel
theorem dL_laid_153 : decode cL_laid 153 = .ok (.bipush 13, 2) := by decide +kernel
theorem dL_laid_155 : decode cL_laid 155 = .ok (.irem, 1) := by decide +kernel
theorem dL_laid_156 : decode cL_laid 156 = .ok (.invokevirtual 105, 3) := by decide +kernel
theorem dL_laid_159 : decode cL_laid 159 = .ok (.iconst 4, 1) := by decide +kernel
theorem dL_laid_160 : decode cL_laid 160 = .ok (.if_icmp .eq 5, 3) := by decide +kernel
theorem dL_laid_163 : decode cL_laid 163 = .ok (.iconst 0, 1) := by decide +kernel
theorem dL_laid_164 : decode cL_laid 164 = .ok (.ireturn, 1) := by decide +kernel
theorem dL_laid_165 : decode cL_laid 165 = .ok (.iinc 2 1, 3) := by decide +kernel
theorem dL_laid_168 : decode cL_laid 168 = .ok (.goto (-37), 3) := by decide +kernel
theorem dL_laid_171 : decode cL_laid 171 = .ok (.iconst 1, 1) := by decide +kernel
theorem dL_laid_172 : decode cL_laid 172 = .ok (.ireturn, 1) := by decide +kernel
theorem dL_of_0 : decode cL_of 0 = .ok (.lload_n 0, 1) := by decide +kernel
theorem dL_of_1 : decode cL_of 1 = .ok (.l2d, 1) := by decide +kernel
theorem dL_of_2 : decode cL_of 2 = .ok (.lload_n 2, 1) := by decide +kernel
theorem dL_of_3 : decode cL_of 3 = .ok (.l2d, 1) := by decide +kernel
theorem dL_of_4 : decode cL_of 4 = .ok (.ddiv, 1) := by decide +kernel
theorem dL_of_5 : decode cL_of 5 = .ok (.dreturn, 1) := by decide +kernel
theorem dL_isOne_0 : decode cL_isOne 0 = .ok (.dload_n 0, 1) := by decide +kernel
theorem dL_isOne_1 : decode cL_isOne 1 = .ok (.dconst 1, 1) := by decide +kernel
theorem dL_isOne_2 : decode cL_isOne 2 = .ok (.dsub, 1) := by decide +kernel
theorem dL_isOne_3 : decode cL_isOne 3 = .ok (.invokestatic 109, 3) := by decide +kernel
theorem dL_isOne_6 : decode cL_isOne 6 = .ok (.ldc2_w 113, 3) := by decide +kernel
theorem dL_isOne_9 : decode cL_isOne 9 = .ok (.dcmp .g, 1) := by decide +kernel
theorem dL_isOne_10 : decode cL_isOne 10 = .ok (.ifCond .ge 7, 3) := by decide +kernel
theorem dL_isOne_13 : decode cL_isOne 13 = .ok (.iconst 1, 1) := by decide +kernel
theorem dL_isOne_14 : decode cL_isOne 14 = .ok (.goto 4, 3) := by decide +kernel
theorem dL_isOne_17 : decode cL_isOne 17 = .ok (.iconst 0, 1) := by decide +kernel
theorem dL_isOne_18 : decode cL_isOne 18 = .ok (.ireturn, 1) := by decide +kernel
theorem dL_law_0 : decode cL_law 0 = .ok (.new 8, 3) := by decide +kernel
theorem dL_law_3 : decode cL_law 3 = .ok (.dup, 1) := by decide +kernel
theorem dL_law_4 : decode cL_law 4 = .ok (.invokespecial 115, 3) := by decide +kernel
theorem dL_law_7 : decode cL_law 7 = .ok (.astore_n 1, 1) := by decide +kernel
theorem dL_law_8 : decode cL_law 8 = .ok (.aload_n 1, 1) := by decide +kernel
theorem dL_law_9 : decode cL_law 9 = .ok (.aload_n 0, 1) := by decide +kernel
theorem dL_law_10 : decode cL_law 10 = .ok (.invokestatic 116, 3) := by decide +kernel
theorem dL_law_13 : decode cL_law 13 = .ok (.ifCond .eq 11, 3) := by decide +kernel
theorem dL_law_16 : decode cL_law 16 = .ok (.aload_n 1, 1) := by decide +kernel
theorem dL_law_17 : decode cL_law 17 = .ok (.aload_n 0, 1) := by decide +kernel
theorem dL_law_18 : decode cL_law 18 = .ok (.invokestatic 120, 3) := by decide +kernel
theorem dL_law_21 : decode cL_law 21 = .ok (.ifCond .ne 5, 3) := by decide +kernel
theorem dL_law_24 : decode cL_law 24 = .ok (.iconst 0, 1) := by decide +kernel
theorem dL_law_25 : decode cL_law 25 = .ok (.ireturn, 1) := by decide +kernel
theorem dL_law_26 : decode cL_law 26 = .ok (.aload_n 0, 1) := by decide +kernel
theorem dL_law_27 : decode cL_law 27 = .ok (.invokestatic 123, 3) := by decide +kernel
theorem dL_law_30 : decode cL_law 30 = .ok (.astore_n 2, 1) := by decide +kernel
theorem dL_law_31 : decode cL_law 31 = .ok (.aload_n 2, 1) := by decide +kernel
theorem dL_law_32 : decode cL_law 32 = .ok (.invokestatic 127, 3) := by decide +kernel
theorem dL_law_35 : decode cL_law 35 = .ok (.ifCond .ne 7, 3) := by decide +kernel
theorem dL_law_38 : decode cL_law 38 = .ok (.iconst 1, 1) := by decide +kernel
theorem dL_law_39 : decode cL_law 39 = .ok (.goto 4, 3) := by decide +kernel
theorem dL_law_42 : decode cL_law 42 = .ok (.iconst 0, 1) := by decide +kernel
theorem dL_law_43 : decode cL_law 43 = .ok (.istore_n 3, 1) := by decide +kernel
theorem dL_law_44 : decode cL_law 44 = .ok (.dconst 0, 1) := by decide +kernel
theorem dL_law_45 : decode cL_law 45 = .ok (.dstore 4, 2) := by decide +kernel
theorem dL_law_47 : decode cL_law 47 = .ok (.iconst 0, 1) := by decide +kernel
theorem dL_law_48 : decode cL_law 48 = .ok (.istore 6, 2) := by decide +kernel
theorem dL_law_50 : decode cL_law 50 = .ok (.iload 6, 2) := by decide +kernel
theorem dL_law_52 : decode cL_law 52 = .ok (.bipush 6, 2) := by decide +kernel
theorem dL_law_54 : decode cL_law 54 = .ok (.if_icmp .ge 446, 3) := by decide +kernel
theorem dL_law_57 : decode cL_law 57 = .ok (.aload_n 1, 1) := by decide +kernel
theorem dL_law_58 : decode cL_law 58 = .ok (.iload 6, 2) := by decide +kernel
theorem dL_law_60 : decode cL_law 60 = .ok (.iconst 0, 1) := by decide +kernel
theorem dL_law_61 : decode cL_law 61 = .ok (.invokevirtual 130, 3) := by decide +kernel
theorem dL_law_64 : decode cL_law 64 = .ok (.aload_n 1, 1) := by decide +kernel
theorem dL_law_65 : decode cL_law 65 = .ok (.iload 6, 2) := by decide +kernel
theorem dL_law_67 : decode cL_law 67 = .ok (.iconst 1, 1) := by decide +kernel
theorem dL_law_68 : decode cL_law 68 = .ok (.invokevirtual 130, 3) := by decide +kernel
theorem dL_law_71 : decode cL_law 71 = .ok (.invokestatic 134, 3) := by decide +kernel
theorem dL_law_74 : decode cL_law 74 = .ok (.dstore 7, 2) := by decide +kernel
theorem dL_law_76 : decode cL_law 76 = .ok (.dload 4, 2) := by decide +kernel
theorem dL_law_78 : decode cL_law 78 = .ok (.dload 7, 2) := by decide +kernel
theorem dL_law_80 : decode cL_law 80 = .ok (.dadd, 1) := by decide +kernel
theorem dL_law_81 : decode cL_law 81 = .ok (.dstore 4, 2) := by decide +kernel
theorem dL_law_83 : decode cL_law 83 = .ok (.dconst 0, 1) := by decide +kernel
theorem dL_law_84 : decode cL_law 84 = .ok (.dstore 9, 2) := by decide +kernel
theorem dL_law_86 : decode cL_law 86 = .ok (.iconst 0, 1) := by decide +kernel
theorem dL_law_87 : decode cL_law 87 = .ok (.istore 11, 2) := by decide +kernel
theorem dL_law_89 : decode cL_law 89 = .ok (.iload 11, 2) := by decide +kernel
theorem dL_law_91 : decode cL_law 91 = .ok (.bipush 6, 2) := by decide +kernel
theorem dL_law_93 : decode cL_law 93 = .ok (.if_icmp .ge 43, 3) := by decide +kernel
theorem dL_law_96 : decode cL_law 96 = .ok (.dload 9, 2) := by decide +kernel
theorem dL_law_98 : decode cL_law 98 = .ok (.aload_n 1, 1) := by decide +kernel
theorem dL_law_99 : decode cL_law 99 = .ok (.bipush 10, 2) := by decide +kernel
theorem dL_law_101 : decode cL_law 101 = .ok (.iload 6, 2) := by decide +kernel
theorem dL_law_103 : decode cL_law 103 = .ok (.imul, 1) := by decide +kernel
theorem dL_law_104 : decode cL_law 104 = .ok (.iload 11, 2) := by decide +kernel
theorem dL_law_106 : decode cL_law 106 = .ok (.iadd, 1) := by decide +kernel
theorem dL_law_107 : decode cL_law 107 = .ok (.iconst 0, 1) := by decide +kernel
theorem dL_law_108 : decode cL_law 108 = .ok (.invokevirtual 138, 3) := by decide +kernel
theorem dL_law_111 : decode cL_law 111 = .ok (.aload_n 1, 1) := by decide +kernel
theorem dL_law_112 : decode cL_law 112 = .ok (.bipush 10, 2) := by decide +kernel
theorem dL_law_114 : decode cL_law 114 = .ok (.iload 6, 2) := by decide +kernel
theorem dL_law_116 : decode cL_law 116 = .ok (.imul, 1) := by decide +kernel
theorem dL_law_117 : decode cL_law 117 = .ok (.iload 11, 2) := by decide +kernel
theorem dL_law_119 : decode cL_law 119 = .ok (.iadd, 1) := by decide +kernel
theorem dL_law_120 : decode cL_law 120 = .ok (.iconst 1, 1) := by decide +kernel
theorem dL_law_121 : decode cL_law 121 = .ok (.invokevirtual 138, 3) := by decide +kernel
theorem dL_law_124 : decode cL_law 124 = .ok (.invokestatic 134, 3) := by decide +kernel
theorem dL_law_127 : decode cL_law 127 = .ok (.dadd, 1) := by decide +kernel
theorem dL_law_128 : decode cL_law 128 = .ok (.dstore 9, 2) := by decide +kernel
theorem dL_law_130 : decode cL_law 130 = .ok (.iinc 11 1, 3) := by decide +kernel
theorem dL_law_133 : decode cL_law 133 = .ok (.goto (-44), 3) := by decide +kernel
theorem dL_law_136 : decode cL_law 136 = .ok (.dload 7, 2) := by decide +kernel
theorem dL_law_138 : decode cL_law 138 = .ok (.dconst 0, 1) := by decide +kernel
theorem dL_law_139 : decode cL_law 139 = .ok (.dcmp .l, 1) := by decide +kernel
theorem dL_law_140 : decode cL_law 140 = .ok (.ifCond .le 14, 3) := by decide +kernel
theorem dL_law_143 : decode cL_law 143 = .ok (.dload 9, 2) := by decide +kernel
theorem dL_law_145 : decode cL_law 145 = .ok (.invokestatic 141, 3) := by decide +kernel
theorem dL_law_148 : decode cL_law 148 = .ok (.ifCond .ne 15, 3) := by decide +kernel
theorem dL_law_151 : decode cL_law 151 = .ok (.goto 10, 3) := by decide +kernel
theorem dL_law_154 : decode cL_law 154 = .ok (.dload 9, 2) := by decide +kernel
theorem dL_law_156 : decode cL_law 156 = .ok (.dconst 0, 1) := by decide +kernel
theorem dL_law_157 : decode cL_law 157 = .ok (.dcmp .l, 1) := by decide +kernel
theorem dL_law_158 : decode cL_law 158 = .ok (.ifCond .eq 5, 3) := by decide +kernel
theorem dL_law_161 : decode cL_law 161 = .ok (.iconst 0, 1) := by decide +kernel
theorem dL_law_162 : decode cL_law 162 = .ok (.ireturn, 1) := by decide +kernel
theorem dL_law_163 : decode cL_law 163 = .ok (.dconst 0, 1) := by decide +kernel
theorem dL_law_164 : decode cL_law 164 = .ok (.dstore 11, 2) := by decide +kernel
theorem dL_law_166 : decode cL_law 166 = .ok (.iconst 1, 1) := by decide +kernel
theorem dL_law_167 : decode cL_law 167 = .ok (.istore 13, 2) := by decide +kernel
theorem dL_law_169 : decode cL_law 169 = .ok (.iload 13, 2) := by decide +kernel
theorem dL_law_171 : decode cL_law 171 = .ok (.iconst 5, 1) := by decide +kernel
theorem dL_law_172 : decode cL_law 172 = .ok (.if_icmp .ge 166, 3) := by decide +kernel
theorem dL_law_175 : decode cL_law 175 = .ok (.dconst 0, 1) := by decide +kernel
theorem dL_law_176 : decode cL_law 176 = .ok (.dstore 14, 2) := by decide +kernel
theorem dL_law_178 : decode cL_law 178 = .ok (.iconst 0, 1) := by decide +kernel
theorem dL_law_179 : decode cL_law 179 = .ok (.istore 16, 2) := by decide +kernel
theorem dL_law_181 : decode cL_law 181 = .ok (.iload 16, 2) := by decide +kernel
theorem dL_law_183 : decode cL_law 183 = .ok (.aload_n 2, 1) := by decide +kernel
theorem dL_law_184 : decode cL_law 184 = .ok (.arraylength, 1) := by decide +kernel
theorem dL_law_185 : decode cL_law 185 = .ok (.if_icmp .ge 47, 3) := by decide +kernel
theorem dL_law_188 : decode cL_law 188 = .ok (.dload 14, 2) := by decide +kernel
theorem dL_law_190 : decode cL_law 190 = .ok (.aload_n 1, 1) := by decide +kernel
theorem dL_law_191 : decode cL_law 191 = .ok (.iload 16, 2) := by decide +kernel
theorem dL_law_193 : decode cL_law 193 = .ok (.bipush 10, 2) := by decide +kernel
theorem dL_law_195 : decode cL_law 195 = .ok (.iload 6, 2) := by decide +kernel
theorem dL_law_197 : decode cL_law 197 = .ok (.imul, 1) := by decide +kernel
theorem dL_law_198 : decode cL_law 198 = .ok (.iload 13, 2) := by decide +kernel
theorem dL_law_200 : decode cL_law 200 = .ok (.iadd, 1) := by decide +kernel
theorem dL_law_201 : decode cL_law 201 = .ok (.iconst 0, 1) := by decide +kernel
theorem dL_law_202 : decode cL_law 202 = .ok (.invokevirtual 145, 3) := by decide +kernel
theorem dL_law_205 : decode cL_law 205 = .ok (.aload_n 1, 1) := by decide +kernel
theorem dL_law_206 : decode cL_law 206 = .ok (.iload 16, 2) := by decide +kernel
theorem dL_law_208 : decode cL_law 208 = .ok (.bipush 10, 2) := by decide +kernel
theorem dL_law_210 : decode cL_law 210 = .ok (.iload 6, 2) := by decide +kernel
theorem dL_law_212 : decode cL_law 212 = .ok (.imul, 1) := by decide +kernel
theorem dL_law_213 : decode cL_law 213 = .ok (.iload 13, 2) := by decide +kernel
theorem dL_law_215 : decode cL_law 215 = .ok (.iadd, 1) := by decide +kernel
theorem dL_law_216 : decode cL_law 216 = .ok (.iconst 1, 1) := by decide +kernel
theorem dL_law_217 : decode cL_law 217 = .ok (.invokevirtual 145, 3) := by decide +kernel
theorem dL_law_220 : decode cL_law 220 = .ok (.invokestatic 134, 3) := by decide +kernel
theorem dL_law_223 : decode cL_law 223 = .ok (.dadd, 1) := by decide +kernel
theorem dL_law_224 : decode cL_law 224 = .ok (.dstore 14, 2) := by decide +kernel
theorem dL_law_226 : decode cL_law 226 = .ok (.iinc 16 1, 3) := by decide +kernel
theorem dL_law_229 : decode cL_law 229 = .ok (.goto (-48), 3) := by decide +kernel
theorem dL_law_232 : decode cL_law 232 = .ok (.aload_n 1, 1) := by decide +kernel
theorem dL_law_233 : decode cL_law 233 = .ok (.bipush 10, 2) := by decide +kernel
theorem dL_law_235 : decode cL_law 235 = .ok (.iload 6, 2) := by decide +kernel
theorem dL_law_237 : decode cL_law 237 = .ok (.imul, 1) := by decide +kernel
theorem dL_law_238 : decode cL_law 238 = .ok (.iload 13, 2) := by decide +kernel
theorem dL_law_240 : decode cL_law 240 = .ok (.iadd, 1) := by decide +kernel
theorem dL_law_241 : decode cL_law 241 = .ok (.iconst 0, 1) := by decide +kernel
theorem dL_law_242 : decode cL_law 242 = .ok (.invokevirtual 149, 3) := by decide +kernel
theorem dL_law_245 : decode cL_law 245 = .ok (.aload_n 1, 1) := by decide +kernel
theorem dL_law_246 : decode cL_law 246 = .ok (.bipush 10, 2) := by decide +kernel
theorem dL_law_248 : decode cL_law 248 = .ok (.iload 6, 2) := by decide +kernel
theorem dL_law_250 : decode cL_law 250 = .ok (.imul, 1) := by decide +kernel
theorem dL_law_251 : decode cL_law 251 = .ok (.iload 13, 2) := by decide +kernel
theorem dL_law_253 : decode cL_law 253 = .ok (.iadd, 1) := by decide +kernel
theorem dL_law_254 : decode cL_law 254 = .ok (.iconst 1, 1) := by decide +kernel
theorem dL_law_255 : decode cL_law 255 = .ok (.invokevirtual 149, 3) := by decide +kernel
theorem dL_law_258 : decode cL_law 258 = .ok (.invokestatic 134, 3) := by decide +kernel
theorem dL_law_261 : decode cL_law 261 = .ok (.dstore 16, 2) := by decide +kernel
theorem dL_law_263 : decode cL_law 263 = .ok (.dload 7, 2) := by decide +kernel
theorem dL_law_265 : decode cL_law 265 = .ok (.dconst 0, 1) := by decide +kernel
theorem dL_law_266 : decode cL_law 266 = .ok (.dcmp .l, 1) := by decide +kernel
theorem dL_law_267 : decode cL_law 267 = .ok (.ifCond .le 45, 3) := by decide +kernel
theorem dL_law_270 : decode cL_law 270 = .ok (.dload 14, 2) := by decide +kernel
theorem dL_law_272 : decode cL_law 272 = .ok (.invokestatic 141, 3) := by decide +kernel
theorem dL_law_275 : decode cL_law 275 = .ok (.ifCond .eq 51, 3) := by decide +kernel
theorem dL_law_278 : decode cL_law 278 = .ok (.dload 16, 2) := by decide +kernel
theorem dL_law_280 : decode cL_law 280 = .ok (.dload 7, 2) := by decide +kernel
theorem dL_law_282 : decode cL_law 282 = .ok (.ldc2_w 113, 3) := by decide +kernel
theorem dL_law_285 : decode cL_law 285 = .ok (.dsub, 1) := by decide +kernel
theorem dL_law_286 : decode cL_law 286 = .ok (.dcmp .g, 1) := by decide +kernel
theorem dL_law_287 : decode cL_law 287 = .ok (.ifCond .lt 39, 3) := by decide +kernel
theorem dL_law_290 : decode cL_law 290 = .ok (.dload 16, 2) := by decide +kernel
theorem dL_law_292 : decode cL_law 292 = .ok (.dload 11, 2) := by decide +kernel
theorem dL_law_294 : decode cL_law 294 = .ok (.ldc2_w 113, 3) := by decide +kernel
theorem dL_law_297 : decode cL_law 297 = .ok (.dsub, 1) := by decide +kernel
theorem dL_law_298 : decode cL_law 298 = .ok (.dcmp .g, 1) := by decide +kernel
theorem dL_law_299 : decode cL_law 299 = .ok (.ifCond .lt 27, 3) := by decide +kernel
theorem dL_law_302 : decode cL_law 302 = .ok (.dload 16, 2) := by decide +kernel
theorem dL_law_304 : decode cL_law 304 = .ok (.dconst 1, 1) := by decide +kernel
theorem dL_law_305 : decode cL_law 305 = .ok (.dcmp .l, 1) := by decide +kernel
theorem dL_law_306 : decode cL_law 306 = .ok (.ifCond .le 22, 3) := by decide +kernel
theorem dL_law_309 : decode cL_law 309 = .ok (.goto 17, 3) := by decide +kernel
theorem dL_law_312 : decode cL_law 312 = .ok (.dload 14, 2) := by decide +kernel
theorem dL_law_314 : decode cL_law 314 = .ok (.dconst 0, 1) := by decide +kernel
theorem dL_law_315 : decode cL_law 315 = .ok (.dcmp .l, 1) := by decide +kernel
theorem dL_law_316 : decode cL_law 316 = .ok (.ifCond .ne 10, 3) := by decide +kernel
theorem dL_law_319 : decode cL_law 319 = .ok (.dload 16, 2) := by decide +kernel
theorem dL_law_321 : decode cL_law 321 = .ok (.dconst 0, 1) := by decide +kernel
theorem dL_law_322 : decode cL_law 322 = .ok (.dcmp .l, 1) := by decide +kernel
theorem dL_law_323 : decode cL_law 323 = .ok (.ifCond .eq 5, 3) := by decide +kernel
theorem dL_law_326 : decode cL_law 326 = .ok (.iconst 0, 1) := by decide +kernel
theorem dL_law_327 : decode cL_law 327 = .ok (.ireturn, 1) := by decide +kernel
theorem dL_law_328 : decode cL_law 328 = .ok (.dload 16, 2) := by decide +kernel
theorem dL_law_330 : decode cL_law 330 = .ok (.dstore 11, 2) := by decide +kernel
theorem dL_law_332 : decode cL_law 332 = .ok (.iinc 13 1, 3) := by decide +kernel
theorem dL_law_335 : decode cL_law 335 = .ok (.goto (-166), 3) := by decide +kernel
theorem dL_law_338 : decode cL_law 338 = .ok (.aload_n 1, 1) := by decide +kernel
theorem dL_law_339 : decode cL_law 339 = .ok (.iconst 0, 1) := by decide +kernel
theorem dL_law_340 : decode cL_law 340 = .ok (.iconst 0, 1) := by decide +kernel
theorem dL_law_341 : decode cL_law 341 = .ok (.iconst 1, 1) := by decide +kernel
theorem dL_law_342 : decode cL_law 342 = .ok (.invokevirtual 152, 3) := by decide +kernel
theorem dL_law_345 : decode cL_law 345 = .ok (.iconst 1, 1) := by decide +kernel
theorem dL_law_346 : decode cL_law 346 = .ok (.if_icmp .ne 37, 3) := by decide +kernel
theorem dL_law_349 : decode cL_law 349 = .ok (.aload_n 1, 1) := by decide +kernel
theorem dL_law_350 : decode cL_law 350 = .ok (.iconst 0, 1) := by decide +kernel
theorem dL_law_351 : decode cL_law 351 = .ok (.iconst 0, 1) := by decide +kernel
theorem dL_law_352 : decode cL_law 352 = .ok (.iload 6, 2) := by decide +kernel
theorem dL_law_354 : decode cL_law 354 = .ok (.i2l, 1) := by decide +kernel
theorem dL_law_355 : decode cL_law 355 = .ok (.invokevirtual 155, 3) := by decide +kernel
theorem dL_law_358 : decode cL_law 358 = .ok (.iconst 1, 1) := by decide +kernel
theorem dL_law_359 : decode cL_law 359 = .ok (.if_icmp .ne 24, 3) := by decide +kernel
theorem dL_law_362 : decode cL_law 362 = .ok (.aload_n 1, 1) := by decide +kernel
theorem dL_law_363 : decode cL_law 363 = .ok (.iconst 0, 1) := by decide +kernel
theorem dL_law_364 : decode cL_law 364 = .ok (.invokevirtual 159, 3) := by decide +kernel
theorem dL_law_367 : decode cL_law 367 = .ok (.dload 7, 2) := by decide +kernel
theorem dL_law_369 : decode cL_law 369 = .ok (.dconst 0, 1) := by decide +kernel
theorem dL_law_370 : decode cL_law 370 = .ok (.dcmp .l, 1) := by decide +kernel
theorem dL_law_371 : decode cL_law 371 = .ok (.ifCond .le 8, 3) := by decide +kernel
theorem dL_law_374 : decode cL_law 374 = .ok (.bipush (-2), 2) := by decide +kernel
theorem dL_law_376 : decode cL_law 376 = .ok (.goto 4, 3) := by decide +kernel
theorem dL_law_379 : decode cL_law 379 = .ok (.iconst 0, 1) := by decide +kernel
theorem dL_law_380 : decode cL_law 380 = .ok (.if_icmp .eq 5, 3) := by decide +kernel
theorem dL_law_383 : decode cL_law 383 = .ok (.iconst 0, 1) := by decide +kernel
theorem dL_law_384 : decode cL_law 384 = .ok (.ireturn, 1) := by decide +kernel
