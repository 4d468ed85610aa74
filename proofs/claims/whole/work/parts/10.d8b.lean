theorem dX8_readText_82 : decode cX8_readText 82 = .ok (.aload_n 0, 1) := by decide +kernel
theorem dX8_readText_83 : decode cX8_readText 83 = .ok (.invokevirtual 215, 3) := by decide +kernel
theorem dX8_readText_86 : decode cX8_readText 86 = .ok (.aload_n 0, 1) := by decide +kernel
theorem dX8_readText_87 : decode cX8_readText 87 = .ok (.iconst 0, 1) := by decide +kernel
theorem dX8_readText_88 : decode cX8_readText 88 = .ok (.putfield 200, 3) := by decide +kernel
theorem dX8_readText_91 : decode cX8_readText 91 = .ok (.aload_n 0, 1) := by decide +kernel
theorem dX8_readText_92 : decode cX8_readText 92 = .ok (.getfield 206, 3) := by decide +kernel
theorem dX8_readText_95 : decode cX8_readText 95 = .ok (.ifCond .lt 8, 3) := by decide +kernel
theorem dX8_readText_98 : decode cX8_readText 98 = .ok (.aload_n 0, 1) := by decide +kernel
theorem dX8_readText_99 : decode cX8_readText 99 = .ok (.getfield 206, 3) := by decide +kernel
theorem dX8_readText_102 : decode cX8_readText 102 = .ok (.ireturn, 1) := by decide +kernel
theorem dX8_readText_103 : decode cX8_readText 103 = .ok (.iconst 0, 1) := by decide +kernel
theorem dX8_readText_104 : decode cX8_readText 104 = .ok (.istore_n 2, 1) := by decide +kernel
theorem dX8_readText_105 : decode cX8_readText 105 = .ok (.iload_n 2, 1) := by decide +kernel
theorem dX8_readText_106 : decode cX8_readText 106 = .ok (.aload_n 0, 1) := by decide +kernel
theorem dX8_readText_107 : decode cX8_readText 107 = .ok (.getfield 209, 3) := by decide +kernel
theorem dX8_readText_110 : decode cX8_readText 110 = .ok (.if_icmp .ge 53, 3) := by decide +kernel
theorem dX8_readText_113 : decode cX8_readText 113 = .ok (.aload_n 0, 1) := by decide +kernel
theorem dX8_readText_114 : decode cX8_readText 114 = .ok (.getfield 74, 3) := by decide +kernel
theorem dX8_readText_117 : decode cX8_readText 117 = .ok (.sipush 130, 3) := by decide +kernel
theorem dX8_readText_120 : decode cX8_readText 120 = .ok (.iload_n 1, 1) := by decide +kernel
theorem dX8_readText_121 : decode cX8_readText 121 = .ok (.imul, 1) := by decide +kernel
theorem dX8_readText_122 : decode cX8_readText 122 = .ok (.iload_n 2, 1) := by decide +kernel
theorem dX8_readText_123 : decode cX8_readText 123 = .ok (.iadd, 1) := by decide +kernel
theorem dX8_readText_124 : decode cX8_readText 124 = .ok (.aload_n 0, 1) := by decide +kernel
theorem dX8_readText_125 : decode cX8_readText 125 = .ok (.getfield 74, 3) := by decide +kernel
theorem dX8_readText_128 : decode cX8_readText 128 = .ok (.sipush 130, 3) := by decide +kernel
theorem dX8_readText_131 : decode cX8_readText 131 = .ok (.iload_n 2, 1) := by decide +kernel
theorem dX8_readText_132 : decode cX8_readText 132 = .ok (.iadd, 1) := by decide +kernel
theorem dX8_readText_133 : decode cX8_readText 133 = .ok (.baload, 1) := by decide +kernel
theorem dX8_readText_134 : decode cX8_readText 134 = .ok (.bastore, 1) := by decide +kernel
theorem dX8_readText_135 : decode cX8_readText 135 = .ok (.aload_n 0, 1) := by decide +kernel
theorem dX8_readText_136 : decode cX8_readText 136 = .ok (.getfield 77, 3) := by decide +kernel
theorem dX8_readText_139 : decode cX8_readText 139 = .ok (.sipush 130, 3) := by decide +kernel
theorem dX8_readText_142 : decode cX8_readText 142 = .ok (.iload_n 1, 1) := by decide +kernel
theorem dX8_readText_143 : decode cX8_readText 143 = .ok (.imul, 1) := by decide +kernel
theorem dX8_readText_144 : decode cX8_readText 144 = .ok (.iload_n 2, 1) := by decide +kernel
theorem dX8_readText_145 : decode cX8_readText 145 = .ok (.iadd, 1) := by decide +kernel
theorem dX8_readText_146 : decode cX8_readText 146 = .ok (.aload_n 0, 1) := by decide +kernel
theorem dX8_readText_147 : decode cX8_readText 147 = .ok (.getfield 77, 3) := by decide +kernel
theorem dX8_readText_150 : decode cX8_readText 150 = .ok (.sipush 130, 3) := by decide +kernel
theorem dX8_readText_153 : decode cX8_readText 153 = .ok (.iload_n 2, 1) := by decide +kernel
theorem dX8_readText_154 : decode cX8_readText 154 = .ok (.iadd, 1) := by decide +kernel
theorem dX8_readText_155 : decode cX8_readText 155 = .ok (.iaload, 1) := by decide +kernel
theorem dX8_readText_156 : decode cX8_readText 156 = .ok (.iastore, 1) := by decide +kernel
theorem dX8_readText_157 : decode cX8_readText 157 = .ok (.iinc 2 1, 3) := by decide +kernel
theorem dX8_readText_160 : decode cX8_readText 160 = .ok (.goto (-55), 3) := by decide +kernel
theorem dX8_readText_163 : decode cX8_readText 163 = .ok (.aload_n 0, 1) := by decide +kernel
theorem dX8_readText_164 : decode cX8_readText 164 = .ok (.getfield 80, 3) := by decide +kernel
theorem dX8_readText_167 : decode cX8_readText 167 = .ok (.iload_n 1, 1) := by decide +kernel
theorem dX8_readText_168 : decode cX8_readText 168 = .ok (.aload_n 0, 1) := by decide +kernel
theorem dX8_readText_169 : decode cX8_readText 169 = .ok (.getfield 80, 3) := by decide +kernel
theorem dX8_readText_172 : decode cX8_readText 172 = .ok (.iconst 1, 1) := by decide +kernel
theorem dX8_readText_173 : decode cX8_readText 173 = .ok (.iaload, 1) := by decide +kernel
theorem dX8_readText_174 : decode cX8_readText 174 = .ok (.iastore, 1) := by decide +kernel
theorem dX8_readText_175 : decode cX8_readText 175 = .ok (.iconst 0, 1) := by decide +kernel
theorem dX8_readText_176 : decode cX8_readText 176 = .ok (.istore_n 2, 1) := by decide +kernel
theorem dX8_readText_177 : decode cX8_readText 177 = .ok (.iload_n 2, 1) := by decide +kernel
theorem dX8_readText_178 : decode cX8_readText 178 = .ok (.aload_n 0, 1) := by decide +kernel
theorem dX8_readText_179 : decode cX8_readText 179 = .ok (.getfield 80, 3) := by decide +kernel
theorem dX8_readText_182 : decode cX8_readText 182 = .ok (.iload_n 1, 1) := by decide +kernel
theorem dX8_readText_183 : decode cX8_readText 183 = .ok (.iaload, 1) := by decide +kernel
theorem dX8_readText_184 : decode cX8_readText 184 = .ok (.if_icmp .ge 49, 3) := by decide +kernel
theorem dX8_readText_187 : decode cX8_readText 187 = .ok (.aload_n 0, 1) := by decide +kernel
theorem dX8_readText_188 : decode cX8_readText 188 = .ok (.getfield 83, 3) := by decide +kernel
theorem dX8_readText_191 : decode cX8_readText 191 = .ok (.bipush 61, 2) := by decide +kernel
theorem dX8_readText_193 : decode cX8_readText 193 = .ok (.iload_n 1, 1) := by decide +kernel
theorem dX8_readText_194 : decode cX8_readText 194 = .ok (.imul, 1) := by decide +kernel
theorem dX8_readText_195 : decode cX8_readText 195 = .ok (.iload_n 2, 1) := by decide +kernel
theorem dX8_readText_196 : decode cX8_readText 196 = .ok (.iadd, 1) := by decide +kernel
theorem dX8_readText_197 : decode cX8_readText 197 = .ok (.aload_n 0, 1) := by decide +kernel
theorem dX8_readText_198 : decode cX8_readText 198 = .ok (.getfield 83, 3) := by decide +kernel
theorem dX8_readText_201 : decode cX8_readText 201 = .ok (.bipush 61, 2) := by decide +kernel
theorem dX8_readText_203 : decode cX8_readText 203 = .ok (.iload_n 2, 1) := by decide +kernel
theorem dX8_readText_204 : decode cX8_readText 204 = .ok (.iadd, 1) := by decide +kernel
theorem dX8_readText_205 : decode cX8_readText 205 = .ok (.saload, 1) := by decide +kernel
theorem dX8_readText_206 : decode cX8_readText 206 = .ok (.sastore, 1) := by decide +kernel
theorem dX8_readText_207 : decode cX8_readText 207 = .ok (.aload_n 0, 1) := by decide +kernel
theorem dX8_readText_208 : decode cX8_readText 208 = .ok (.getfield 87, 3) := by decide +kernel
theorem dX8_readText_211 : decode cX8_readText 211 = .ok (.bipush 61, 2) := by decide +kernel
theorem dX8_readText_213 : decode cX8_readText 213 = .ok (.iload_n 1, 1) := by decide +kernel
theorem dX8_readText_214 : decode cX8_readText 214 = .ok (.imul, 1) := by decide +kernel
theorem dX8_readText_215 : decode cX8_readText 215 = .ok (.iload_n 2, 1) := by decide +kernel
theorem dX8_readText_216 : decode cX8_readText 216 = .ok (.iadd, 1) := by decide +kernel
theorem dX8_readText_217 : decode cX8_readText 217 = .ok (.aload_n 0, 1) := by decide +kernel
theorem dX8_readText_218 : decode cX8_readText 218 = .ok (.getfield 87, 3) := by decide +kernel
theorem dX8_readText_221 : decode cX8_readText 221 = .ok (.bipush 61, 2) := by decide +kernel
theorem dX8_readText_223 : decode cX8_readText 223 = .ok (.iload_n 2, 1) := by decide +kernel
theorem dX8_readText_224 : decode cX8_readText 224 = .ok (.iadd, 1) := by decide +kernel
theorem dX8_readText_225 : decode cX8_readText 225 = .ok (.saload, 1) := by decide +kernel
theorem dX8_readText_226 : decode cX8_readText 226 = .ok (.sastore, 1) := by decide +kernel
theorem dX8_readText_227 : decode cX8_readText 227 = .ok (.iinc 2 1, 3) := by decide +kernel
theorem dX8_readText_230 : decode cX8_readText 230 = .ok (.goto (-53), 3) := by decide +kernel
theorem dX8_readText_233 : decode cX8_readText 233 = .ok (.iconst (-1), 1) := by decide +kernel
theorem dX8_readText_234 : decode cX8_readText 234 = .ok (.ireturn, 1) := by decide +kernel
theorem dX8_twoOf_0 : decode cX8_twoOf 0 = .ok (.iload_n 0, 1) := by decide +kernel
theorem dX8_twoOf_1 : decode cX8_twoOf 1 = .ok (.tableswitch 217 37 62 #[153, 203, 217, 217, 217, 127, 119, 217, 123, 217, 131, 217, 217, 217, 217, 217, 217, 217, 217, 217, 217, 217, 217, 170, 181, 192], 119) := by decide +kernel
theorem dX8_twoOf_120 : decode cX8_twoOf 120 = .ok (.iload_n 1, 1) := by decide +kernel
theorem dX8_twoOf_121 : decode cX8_twoOf 121 = .ok (.iload_n 2, 1) := by decide +kernel
theorem dX8_twoOf_122 : decode cX8_twoOf 122 = .ok (.iadd, 1) := by decide +kernel
theorem dX8_twoOf_123 : decode cX8_twoOf 123 = .ok (.ireturn, 1) := by decide +kernel
theorem dX8_twoOf_124 : decode cX8_twoOf 124 = .ok (.iload_n 1, 1) := by decide +kernel
theorem dX8_twoOf_125 : decode cX8_twoOf 125 = .ok (.iload_n 2, 1) := by decide +kernel
theorem dX8_twoOf_126 : decode cX8_twoOf 126 = .ok (.isub, 1) := by decide +kernel
theorem dX8_twoOf_127 : decode cX8_twoOf 127 = .ok (.ireturn, 1) := by decide +kernel
theorem dX8_twoOf_128 : decode cX8_twoOf 128 = .ok (.iload_n 1, 1) := by decide +kernel
theorem dX8_twoOf_129 : decode cX8_twoOf 129 = .ok (.iload_n 2, 1) := by decide +kernel
theorem dX8_twoOf_130 : decode cX8_twoOf 130 = .ok (.imul, 1) := by decide +kernel
theorem dX8_twoOf_131 : decode cX8_twoOf 131 = .ok (.ireturn, 1) := by decide +kernel
theorem dX8_twoOf_132 : decode cX8_twoOf 132 = .ok (.iload_n 2, 1) := by decide +kernel
theorem dX8_twoOf_133 : decode cX8_twoOf 133 = .ok (.ifCond .ne 7, 3) := by decide +kernel
theorem dX8_twoOf_136 : decode cX8_twoOf 136 = .ok (.iconst 0, 1) := by decide +kernel
theorem dX8_twoOf_137 : decode cX8_twoOf 137 = .ok (.goto 16, 3) := by decide +kernel
theorem dX8_twoOf_140 : decode cX8_twoOf 140 = .ok (.iload_n 2, 1) := by decide +kernel
theorem dX8_twoOf_141 : decode cX8_twoOf 141 = .ok (.iconst (-1), 1) := by decide +kernel
theorem dX8_twoOf_142 : decode cX8_twoOf 142 = .ok (.if_icmp .ne 8, 3) := by decide +kernel
theorem dX8_twoOf_145 : decode cX8_twoOf 145 = .ok (.iload_n 1, 1) := by decide +kernel
theorem dX8_twoOf_146 : decode cX8_twoOf 146 = .ok (.ineg, 1) := by decide +kernel
theorem dX8_twoOf_147 : decode cX8_twoOf 147 = .ok (.goto 6, 3) := by decide +kernel
theorem dX8_twoOf_150 : decode cX8_twoOf 150 = .ok (.iload_n 1, 1) := by decide +kernel
theorem dX8_twoOf_151 : decode cX8_twoOf 151 = .ok (.iload_n 2, 1) := by decide +kernel
theorem dX8_twoOf_152 : decode cX8_twoOf 152 = .ok (.idiv, 1) := by decide +kernel
theorem dX8_twoOf_153 : decode cX8_twoOf 153 = .ok (.ireturn, 1) := by decide +kernel
theorem dX8_twoOf_154 : decode cX8_twoOf 154 = .ok (.iload_n 2, 1) := by decide +kernel
theorem dX8_twoOf_155 : decode cX8_twoOf 155 = .ok (.ifCond .eq 8, 3) := by decide +kernel
theorem dX8_twoOf_158 : decode cX8_twoOf 158 = .ok (.iload_n 2, 1) := by decide +kernel
theorem dX8_twoOf_159 : decode cX8_twoOf 159 = .ok (.iconst (-1), 1) := by decide +kernel
theorem dX8_twoOf_160 : decode cX8_twoOf 160 = .ok (.if_icmp .ne 7, 3) := by decide +kernel
theorem dX8_twoOf_163 : decode cX8_twoOf 163 = .ok (.iconst 0, 1) := by decide +kernel
theorem dX8_twoOf_164 : decode cX8_twoOf 164 = .ok (.goto 6, 3) := by decide +kernel
theorem dX8_twoOf_167 : decode cX8_twoOf 167 = .ok (.iload_n 1, 1) := by decide +kernel
theorem dX8_twoOf_168 : decode cX8_twoOf 168 = .ok (.iload_n 2, 1) := by decide +kernel
theorem dX8_twoOf_169 : decode cX8_twoOf 169 = .ok (.irem, 1) := by decide +kernel
theorem dX8_twoOf_170 : decode cX8_twoOf 170 = .ok (.ireturn, 1) := by decide +kernel
theorem dX8_twoOf_171 : decode cX8_twoOf 171 = .ok (.iload_n 1, 1) := by decide +kernel
theorem dX8_twoOf_172 : decode cX8_twoOf 172 = .ok (.iload_n 2, 1) := by decide +kernel
theorem dX8_twoOf_173 : decode cX8_twoOf 173 = .ok (.if_icmp .ge 7, 3) := by decide +kernel
theorem dX8_twoOf_176 : decode cX8_twoOf 176 = .ok (.iconst 1, 1) := by decide +kernel
theorem dX8_twoOf_177 : decode cX8_twoOf 177 = .ok (.goto 4, 3) := by decide +kernel
theorem dX8_twoOf_180 : decode cX8_twoOf 180 = .ok (.iconst 0, 1) := by decide +kernel
theorem dX8_twoOf_181 : decode cX8_twoOf 181 = .ok (.ireturn, 1) := by decide +kernel
theorem dX8_twoOf_182 : decode cX8_twoOf 182 = .ok (.iload_n 1, 1) := by decide +kernel
theorem dX8_twoOf_183 : decode cX8_twoOf 183 = .ok (.iload_n 2, 1) := by decide +kernel
theorem dX8_twoOf_184 : decode cX8_twoOf 184 = .ok (.if_icmp .ne 7, 3) := by decide +kernel
theorem dX8_twoOf_187 : decode cX8_twoOf 187 = .ok (.iconst 1, 1) := by decide +kernel
theorem dX8_twoOf_188 : decode cX8_twoOf 188 = .ok (.goto 4, 3) := by decide +kernel
theorem dX8_twoOf_191 : decode cX8_twoOf 191 = .ok (.iconst 0, 1) := by decide +kernel
theorem dX8_twoOf_192 : decode cX8_twoOf 192 = .ok (.ireturn, 1) := by decide +kernel
theorem dX8_twoOf_193 : decode cX8_twoOf 193 = .ok (.iload_n 1, 1) := by decide +kernel
theorem dX8_twoOf_194 : decode cX8_twoOf 194 = .ok (.iload_n 2, 1) := by decide +kernel
theorem dX8_twoOf_195 : decode cX8_twoOf 195 = .ok (.if_icmp .le 7, 3) := by decide +kernel
theorem dX8_twoOf_198 : decode cX8_twoOf 198 = .ok (.iconst 1, 1) := by decide +kernel
theorem dX8_twoOf_199 : decode cX8_twoOf 199 = .ok (.goto 4, 3) := by decide +kernel
theorem dX8_twoOf_202 : decode cX8_twoOf 202 = .ok (.iconst 0, 1) := by decide +kernel
theorem dX8_twoOf_203 : decode cX8_twoOf 203 = .ok (.ireturn, 1) := by decide +kernel
theorem dX8_twoOf_204 : decode cX8_twoOf 204 = .ok (.iload_n 1, 1) := by decide +kernel
theorem dX8_twoOf_205 : decode cX8_twoOf 205 = .ok (.ifCond .eq 11, 3) := by decide +kernel
theorem dX8_twoOf_208 : decode cX8_twoOf 208 = .ok (.iload_n 2, 1) := by decide +kernel
theorem dX8_twoOf_209 : decode cX8_twoOf 209 = .ok (.ifCond .eq 7, 3) := by decide +kernel
theorem dX8_twoOf_212 : decode cX8_twoOf 212 = .ok (.iconst 1, 1) := by decide +kernel
theorem dX8_twoOf_213 : decode cX8_twoOf 213 = .ok (.goto 4, 3) := by decide +kernel
theorem dX8_twoOf_216 : decode cX8_twoOf 216 = .ok (.iconst 0, 1) := by decide +kernel
theorem dX8_twoOf_217 : decode cX8_twoOf 217 = .ok (.ireturn, 1) := by decide +kernel
theorem dX8_twoOf_218 : decode cX8_twoOf 218 = .ok (.iload_n 1, 1) := by decide +kernel
theorem dX8_twoOf_219 : decode cX8_twoOf 219 = .ok (.ifCond .ne 7, 3) := by decide +kernel
theorem dX8_twoOf_222 : decode cX8_twoOf 222 = .ok (.iload_n 2, 1) := by decide +kernel
theorem dX8_twoOf_223 : decode cX8_twoOf 223 = .ok (.ifCond .eq 7, 3) := by decide +kernel
theorem dX8_twoOf_226 : decode cX8_twoOf 226 = .ok (.iconst 1, 1) := by decide +kernel
theorem dX8_twoOf_227 : decode cX8_twoOf 227 = .ok (.goto 4, 3) := by decide +kernel
theorem dX8_twoOf_230 : decode cX8_twoOf 230 = .ok (.iconst 0, 1) := by decide +kernel
theorem dX8_twoOf_231 : decode cX8_twoOf 231 = .ok (.ireturn, 1) := by decide +kernel
theorem dX8_worked_0 : decode cX8_worked 0 = .ok (.iconst 0, 1) := by decide +kernel
theorem dX8_worked_1 : decode cX8_worked 1 = .ok (.istore 4, 2) := by decide +kernel
theorem dX8_worked_3 : decode cX8_worked 3 = .ok (.sipush 130, 3) := by decide +kernel
theorem dX8_worked_6 : decode cX8_worked 6 = .ok (.iload_n 1, 1) := by decide +kernel
theorem dX8_worked_7 : decode cX8_worked 7 = .ok (.imul, 1) := by decide +kernel
theorem dX8_worked_8 : decode cX8_worked 8 = .ok (.iload_n 2, 1) := by decide +kernel
theorem dX8_worked_9 : decode cX8_worked 9 = .ok (.iadd, 1) := by decide +kernel
theorem dX8_worked_10 : decode cX8_worked 10 = .ok (.istore 5, 2) := by decide +kernel
theorem dX8_worked_12 : decode cX8_worked 12 = .ok (.iload 5, 2) := by decide +kernel
theorem dX8_worked_14 : decode cX8_worked 14 = .ok (.sipush 130, 3) := by decide +kernel
theorem dX8_worked_17 : decode cX8_worked 17 = .ok (.iload_n 1, 1) := by decide +kernel
theorem dX8_worked_18 : decode cX8_worked 18 = .ok (.imul, 1) := by decide +kernel
theorem dX8_worked_19 : decode cX8_worked 19 = .ok (.iload_n 3, 1) := by decide +kernel
theorem dX8_worked_20 : decode cX8_worked 20 = .ok (.iadd, 1) := by decide +kernel
theorem dX8_worked_21 : decode cX8_worked 21 = .ok (.if_icmp .ge 167, 3) := by decide +kernel
theorem dX8_worked_24 : decode cX8_worked 24 = .ok (.aload_n 0, 1) := by decide +kernel
theorem dX8_worked_25 : decode cX8_worked 25 = .ok (.getfield 74, 3) := by decide +kernel
theorem dX8_worked_28 : decode cX8_worked 28 = .ok (.iload 5, 2) := by decide +kernel
theorem dX8_worked_30 : decode cX8_worked 30 = .ok (.baload, 1) := by decide +kernel
theorem dX8_worked_31 : decode cX8_worked 31 = .ok (.istore 6, 2) := by decide +kernel
theorem dX8_worked_33 : decode cX8_worked 33 = .ok (.iload 6, 2) := by decide +kernel
theorem dX8_worked_35 : decode cX8_worked 35 = .ok (.iconst 1, 1) := by decide +kernel
theorem dX8_worked_36 : decode cX8_worked 36 = .ok (.if_icmp .eq 9, 3) := by decide +kernel
theorem dX8_worked_39 : decode cX8_worked 39 = .ok (.iload 6, 2) := by decide +kernel
theorem dX8_worked_41 : decode cX8_worked 41 = .ok (.iconst 2, 1) := by decide +kernel
theorem dX8_worked_42 : decode cX8_worked 42 = .ok (.if_icmp .ne 44, 3) := by decide +kernel
theorem dX8_worked_45 : decode cX8_worked 45 = .ok (.aload_n 0, 1) := by decide +kernel
theorem dX8_worked_46 : decode cX8_worked 46 = .ok (.getfield 93, 3) := by decide +kernel
theorem dX8_worked_49 : decode cX8_worked 49 = .ok (.iload 4, 2) := by decide +kernel
theorem dX8_worked_51 : decode cX8_worked 51 = .ok (.iload 6, 2) := by decide +kernel
theorem dX8_worked_53 : decode cX8_worked 53 = .ok (.iconst 1, 1) := by decide +kernel
theorem dX8_worked_54 : decode cX8_worked 54 = .ok (.if_icmp .ne 13, 3) := by decide +kernel
theorem dX8_worked_57 : decode cX8_worked 57 = .ok (.aload_n 0, 1) := by decide +kernel
theorem dX8_worked_58 : decode cX8_worked 58 = .ok (.getfield 77, 3) := by decide +kernel
theorem dX8_worked_61 : decode cX8_worked 61 = .ok (.iload 5, 2) := by decide +kernel
theorem dX8_worked_63 : decode cX8_worked 63 = .ok (.iaload, 1) := by decide +kernel
theorem dX8_worked_64 : decode cX8_worked 64 = .ok (.goto 15, 3) := by decide +kernel
theorem dX8_worked_67 : decode cX8_worked 67 = .ok (.aload_n 0, 1) := by decide +kernel
theorem dX8_worked_68 : decode cX8_worked 68 = .ok (.getfield 90, 3) := by decide +kernel
theorem dX8_worked_71 : decode cX8_worked 71 = .ok (.aload_n 0, 1) := by decide +kernel
theorem dX8_worked_72 : decode cX8_worked 72 = .ok (.getfield 77, 3) := by decide +kernel
theorem dX8_worked_75 : decode cX8_worked 75 = .ok (.iload 5, 2) := by decide +kernel
theorem dX8_worked_77 : decode cX8_worked 77 = .ok (.iaload, 1) := by decide +kernel
theorem dX8_worked_78 : decode cX8_worked 78 = .ok (.iaload, 1) := by decide +kernel
theorem dX8_worked_79 : decode cX8_worked 79 = .ok (.iastore, 1) := by decide +kernel
theorem dX8_worked_80 : decode cX8_worked 80 = .ok (.iinc 4 1, 3) := by decide +kernel
theorem dX8_worked_83 : decode cX8_worked 83 = .ok (.goto 99, 3) := by decide +kernel
theorem dX8_worked_86 : decode cX8_worked 86 = .ok (.iload 6, 2) := by decide +kernel
theorem dX8_worked_88 : decode cX8_worked 88 = .ok (.iconst 3, 1) := by decide +kernel
theorem dX8_worked_89 : decode cX8_worked 89 = .ok (.if_icmp .ne 32, 3) := by decide +kernel
theorem dX8_worked_92 : decode cX8_worked 92 = .ok (.aload_n 0, 1) := by decide +kernel
theorem dX8_worked_93 : decode cX8_worked 93 = .ok (.getfield 93, 3) := by decide +kernel
theorem dX8_worked_96 : decode cX8_worked 96 = .ok (.iload 4, 2) := by decide +kernel
theorem dX8_worked_98 : decode cX8_worked 98 = .ok (.iconst 1, 1) := by decide +kernel
theorem dX8_worked_99 : decode cX8_worked 99 = .ok (.isub, 1) := by decide +kernel
theorem dX8_worked_100 : decode cX8_worked 100 = .ok (.aload_n 0, 1) := by decide +kernel
theorem dX8_worked_101 : decode cX8_worked 101 = .ok (.getfield 93, 3) := by decide +kernel
theorem dX8_worked_104 : decode cX8_worked 104 = .ok (.iload 4, 2) := by decide +kernel
theorem dX8_worked_106 : decode cX8_worked 106 = .ok (.iconst 1, 1) := by decide +kernel
theorem dX8_worked_107 : decode cX8_worked 107 = .ok (.isub, 1) := by decide +kernel
theorem dX8_worked_108 : decode cX8_worked 108 = .ok (.iaload, 1) := by decide +kernel
theorem dX8_worked_109 : decode cX8_worked 109 = .ok (.ifCond .ne 7, 3) := by decide +kernel
theorem dX8_worked_112 : decode cX8_worked 112 = .ok (.iconst 1, 1) := by decide +kernel
theorem dX8_worked_113 : decode cX8_worked 113 = .ok (.goto 4, 3) := by decide +kernel
theorem dX8_worked_116 : decode cX8_worked 116 = .ok (.iconst 0, 1) := by decide +kernel
theorem dX8_worked_117 : decode cX8_worked 117 = .ok (.iastore, 1) := by decide +kernel
theorem dX8_worked_118 : decode cX8_worked 118 = .ok (.goto 64, 3) := by decide +kernel
theorem dX8_worked_121 : decode cX8_worked 121 = .ok (.iload 6, 2) := by decide +kernel
theorem dX8_worked_123 : decode cX8_worked 123 = .ok (.iconst 4, 1) := by decide +kernel
theorem dX8_worked_124 : decode cX8_worked 124 = .ok (.if_icmp .ne 25, 3) := by decide +kernel
theorem dX8_worked_127 : decode cX8_worked 127 = .ok (.aload_n 0, 1) := by decide +kernel
theorem dX8_worked_128 : decode cX8_worked 128 = .ok (.getfield 93, 3) := by decide +kernel
theorem dX8_worked_131 : decode cX8_worked 131 = .ok (.iload 4, 2) := by decide +kernel
theorem dX8_worked_133 : decode cX8_worked 133 = .ok (.iconst 1, 1) := by decide +kernel
theorem dX8_worked_134 : decode cX8_worked 134 = .ok (.isub, 1) := by decide +kernel
theorem dX8_worked_135 : decode cX8_worked 135 = .ok (.aload_n 0, 1) := by decide +kernel
theorem dX8_worked_136 : decode cX8_worked 136 = .ok (.getfield 93, 3) := by decide +kernel
theorem dX8_worked_139 : decode cX8_worked 139 = .ok (.iload 4, 2) := by decide +kernel
theorem dX8_worked_141 : decode cX8_worked 141 = .ok (.iconst 1, 1) := by decide +kernel
theorem dX8_worked_142 : decode cX8_worked 142 = .ok (.isub, 1) := by decide +kernel
theorem dX8_worked_143 : decode cX8_worked 143 = .ok (.iaload, 1) := by decide +kernel
theorem dX8_worked_144 : decode cX8_worked 144 = .ok (.ineg, 1) := by decide +kernel
theorem dX8_worked_145 : decode cX8_worked 145 = .ok (.iastore, 1) := by decide +kernel
theorem dX8_worked_146 : decode cX8_worked 146 = .ok (.goto 36, 3) := by decide +kernel
theorem dX8_worked_149 : decode cX8_worked 149 = .ok (.iinc 4 (-1), 3) := by decide +kernel
theorem dX8_worked_152 : decode cX8_worked 152 = .ok (.aload_n 0, 1) := by decide +kernel
theorem dX8_worked_153 : decode cX8_worked 153 = .ok (.getfield 93, 3) := by decide +kernel
theorem dX8_worked_156 : decode cX8_worked 156 = .ok (.iload 4, 2) := by decide +kernel
theorem dX8_worked_158 : decode cX8_worked 158 = .ok (.iconst 1, 1) := by decide +kernel
theorem dX8_worked_159 : decode cX8_worked 159 = .ok (.isub, 1) := by decide +kernel
theorem dX8_worked_160 : decode cX8_worked 160 = .ok (.iload 6, 2) := by decide +kernel
theorem dX8_worked_162 : decode cX8_worked 162 = .ok (.aload_n 0, 1) := by decide +kernel
theorem dX8_worked_163 : decode cX8_worked 163 = .ok (.getfield 93, 3) := by decide +kernel
theorem dX8_worked_166 : decode cX8_worked 166 = .ok (.iload 4, 2) := by decide +kernel
theorem dX8_worked_168 : decode cX8_worked 168 = .ok (.iconst 1, 1) := by decide +kernel
theorem dX8_worked_169 : decode cX8_worked 169 = .ok (.isub, 1) := by decide +kernel
theorem dX8_worked_170 : decode cX8_worked 170 = .ok (.iaload, 1) := by decide +kernel
theorem dX8_worked_171 : decode cX8_worked 171 = .ok (.aload_n 0, 1) := by decide +kernel
theorem dX8_worked_172 : decode cX8_worked 172 = .ok (.getfield 93, 3) := by decide +kernel
theorem dX8_worked_175 : decode cX8_worked 175 = .ok (.iload 4, 2) := by decide +kernel
theorem dX8_worked_177 : decode cX8_worked 177 = .ok (.iaload, 1) := by decide +kernel
theorem dX8_worked_178 : decode cX8_worked 178 = .ok (.invokestatic 256, 3) := by decide +kernel
theorem dX8_worked_181 : decode cX8_worked 181 = .ok (.iastore, 1) := by decide +kernel
theorem dX8_worked_182 : decode cX8_worked 182 = .ok (.iinc 5 1, 3) := by decide +kernel
theorem dX8_worked_185 : decode cX8_worked 185 = .ok (.goto (-173), 3) := by decide +kernel
theorem dX8_worked_188 : decode cX8_worked 188 = .ok (.aload_n 0, 1) := by decide +kernel
theorem dX8_worked_189 : decode cX8_worked 189 = .ok (.getfield 93, 3) := by decide +kernel
theorem dX8_worked_192 : decode cX8_worked 192 = .ok (.iconst 0, 1) := by decide +kernel
theorem dX8_worked_193 : decode cX8_worked 193 = .ok (.iaload, 1) := by decide +kernel
theorem dX8_worked_194 : decode cX8_worked 194 = .ok (.ireturn, 1) := by decide +kernel
theorem dX8_gives_0 : decode cX8_gives 0 = .ok (.iconst 0, 1) := by decide +kernel
theorem dX8_gives_1 : decode cX8_gives 1 = .ok (.istore_n 2, 1) := by decide +kernel
theorem dX8_gives_2 : decode cX8_gives 2 = .ok (.bipush 61, 2) := by decide +kernel
theorem dX8_gives_4 : decode cX8_gives 4 = .ok (.iload_n 1, 1) := by decide +kernel
theorem dX8_gives_5 : decode cX8_gives 5 = .ok (.imul, 1) := by decide +kernel
theorem dX8_gives_6 : decode cX8_gives 6 = .ok (.istore_n 3, 1) := by decide +kernel
theorem dX8_gives_7 : decode cX8_gives 7 = .ok (.iload_n 3, 1) := by decide +kernel
theorem dX8_gives_8 : decode cX8_gives 8 = .ok (.bipush 61, 2) := by decide +kernel
theorem dX8_gives_10 : decode cX8_gives 10 = .ok (.iload_n 1, 1) := by decide +kernel
theorem dX8_gives_11 : decode cX8_gives 11 = .ok (.imul, 1) := by decide +kernel
theorem dX8_gives_12 : decode cX8_gives 12 = .ok (.aload_n 0, 1) := by decide +kernel
theorem dX8_gives_13 : decode cX8_gives 13 = .ok (.getfield 80, 3) := by decide +kernel
theorem dX8_gives_16 : decode cX8_gives 16 = .ok (.iload_n 1, 1) := by decide +kernel
theorem dX8_gives_17 : decode cX8_gives 17 = .ok (.iaload, 1) := by decide +kernel
theorem dX8_gives_18 : decode cX8_gives 18 = .ok (.iadd, 1) := by decide +kernel
theorem dX8_gives_19 : decode cX8_gives 19 = .ok (.if_icmp .ge 59, 3) := by decide +kernel
theorem dX8_gives_22 : decode cX8_gives 22 = .ok (.aload_n 0, 1) := by decide +kernel
theorem dX8_gives_23 : decode cX8_gives 23 = .ok (.getfield 83, 3) := by decide +kernel
theorem dX8_gives_26 : decode cX8_gives 26 = .ok (.iload_n 3, 1) := by decide +kernel
theorem dX8_gives_27 : decode cX8_gives 27 = .ok (.saload, 1) := by decide +kernel
theorem dX8_gives_28 : decode cX8_gives 28 = .ok (.iload_n 2, 1) := by decide +kernel
theorem dX8_gives_29 : decode cX8_gives 29 = .ok (.if_icmp .eq 18, 3) := by decide +kernel
theorem dX8_gives_32 : decode cX8_gives 32 = .ok (.aload_n 0, 1) := by decide +kernel
theorem dX8_gives_33 : decode cX8_gives 33 = .ok (.iload_n 1, 1) := by decide +kernel
theorem dX8_gives_34 : decode cX8_gives 34 = .ok (.iload_n 2, 1) := by decide +kernel
theorem dX8_gives_35 : decode cX8_gives 35 = .ok (.aload_n 0, 1) := by decide +kernel
theorem dX8_gives_36 : decode cX8_gives 36 = .ok (.getfield 83, 3) := by decide +kernel
theorem dX8_gives_39 : decode cX8_gives 39 = .ok (.iload_n 3, 1) := by decide +kernel
theorem dX8_gives_40 : decode cX8_gives 40 = .ok (.saload, 1) := by decide +kernel
theorem dX8_gives_41 : decode cX8_gives 41 = .ok (.invokevirtual 259, 3) := by decide +kernel
theorem dX8_gives_44 : decode cX8_gives 44 = .ok (.ifCond .eq 21, 3) := by decide +kernel
theorem dX8_gives_47 : decode cX8_gives 47 = .ok (.aload_n 0, 1) := by decide +kernel
theorem dX8_gives_48 : decode cX8_gives 48 = .ok (.iload_n 1, 1) := by decide +kernel
theorem dX8_gives_49 : decode cX8_gives 49 = .ok (.aload_n 0, 1) := by decide +kernel
theorem dX8_gives_50 : decode cX8_gives 50 = .ok (.getfield 83, 3) := by decide +kernel
theorem dX8_gives_53 : decode cX8_gives 53 = .ok (.iload_n 3, 1) := by decide +kernel
theorem dX8_gives_54 : decode cX8_gives 54 = .ok (.saload, 1) := by decide +kernel
theorem dX8_gives_55 : decode cX8_gives 55 = .ok (.aload_n 0, 1) := by decide +kernel
theorem dX8_gives_56 : decode cX8_gives 56 = .ok (.getfield 87, 3) := by decide +kernel
theorem dX8_gives_59 : decode cX8_gives 59 = .ok (.iload_n 3, 1) := by decide +kernel
theorem dX8_gives_60 : decode cX8_gives 60 = .ok (.saload, 1) := by decide +kernel
theorem dX8_gives_61 : decode cX8_gives 61 = .ok (.invokevirtual 259, 3) := by decide +kernel
theorem dX8_gives_64 : decode cX8_gives 64 = .ok (.ireturn, 1) := by decide +kernel
theorem dX8_gives_65 : decode cX8_gives 65 = .ok (.aload_n 0, 1) := by decide +kernel
theorem dX8_gives_66 : decode cX8_gives 66 = .ok (.getfield 87, 3) := by decide +kernel
theorem dX8_gives_69 : decode cX8_gives 69 = .ok (.iload_n 3, 1) := by decide +kernel
theorem dX8_gives_70 : decode cX8_gives 70 = .ok (.saload, 1) := by decide +kernel
theorem dX8_gives_71 : decode cX8_gives 71 = .ok (.istore_n 2, 1) := by decide +kernel
theorem dX8_gives_72 : decode cX8_gives 72 = .ok (.iinc 3 1, 3) := by decide +kernel
theorem dX8_gives_75 : decode cX8_gives 75 = .ok (.goto (-68), 3) := by decide +kernel
theorem dX8_gives_78 : decode cX8_gives 78 = .ok (.iconst 0, 1) := by decide +kernel
theorem dX8_gives_79 : decode cX8_gives 79 = .ok (.ireturn, 1) := by decide +kernel
theorem dX8_law_0 : decode cX8_law 0 = .ok (.aload_n 0, 1) := by decide +kernel
theorem dX8_law_1 : decode cX8_law 1 = .ok (.iconst 0, 1) := by decide +kernel
theorem dX8_law_2 : decode cX8_law 2 = .ok (.invokevirtual 262, 3) := by decide +kernel
theorem dX8_law_5 : decode cX8_law 5 = .ok (.istore_n 1, 1) := by decide +kernel
theorem dX8_law_6 : decode cX8_law 6 = .ok (.iload_n 1, 1) := by decide +kernel
theorem dX8_law_7 : decode cX8_law 7 = .ok (.ifCond .lt 8, 3) := by decide +kernel
theorem dX8_law_10 : decode cX8_law 10 = .ok (.bipush (-100), 2) := by decide +kernel
theorem dX8_law_12 : decode cX8_law 12 = .ok (.iload_n 1, 1) := by decide +kernel
theorem dX8_law_13 : decode cX8_law 13 = .ok (.isub, 1) := by decide +kernel
theorem dX8_law_14 : decode cX8_law 14 = .ok (.ireturn, 1) := by decide +kernel
theorem dX8_law_15 : decode cX8_law 15 = .ok (.aload_n 0, 1) := by decide +kernel
theorem dX8_law_16 : decode cX8_law 16 = .ok (.iconst 1, 1) := by decide +kernel
theorem dX8_law_17 : decode cX8_law 17 = .ok (.putfield 265, 3) := by decide +kernel
theorem dX8_law_20 : decode cX8_law 20 = .ok (.iconst 1, 1) := by decide +kernel
theorem dX8_law_21 : decode cX8_law 21 = .ok (.ireturn, 1) := by decide +kernel
theorem dX8_ownWeight_0 : decode cX8_ownWeight 0 = .ok (.aload_n 0, 1) := by decide +kernel
theorem dX8_ownWeight_1 : decode cX8_ownWeight 1 = .ok (.getfield 265, 3) := by decide +kernel
theorem dX8_ownWeight_4 : decode cX8_ownWeight 4 = .ok (.ifCond .ne 5, 3) := by decide +kernel
theorem dX8_ownWeight_7 : decode cX8_ownWeight 7 = .ok (.iconst 1, 1) := by decide +kernel
theorem dX8_ownWeight_8 : decode cX8_ownWeight 8 = .ok (.ireturn, 1) := by decide +kernel
theorem dX8_ownWeight_9 : decode cX8_ownWeight 9 = .ok (.aload_n 0, 1) := by decide +kernel
theorem dX8_ownWeight_10 : decode cX8_ownWeight 10 = .ok (.getfield 90, 3) := by decide +kernel
theorem dX8_ownWeight_13 : decode cX8_ownWeight 13 = .ok (.iconst 0, 1) := by decide +kernel
theorem dX8_ownWeight_14 : decode cX8_ownWeight 14 = .ok (.iload_n 2, 1) := by decide +kernel
theorem dX8_ownWeight_15 : decode cX8_ownWeight 15 = .ok (.ifCond .ne 12, 3) := by decide +kernel
theorem dX8_ownWeight_18 : decode cX8_ownWeight 18 = .ok (.aload_n 0, 1) := by decide +kernel
theorem dX8_ownWeight_19 : decode cX8_ownWeight 19 = .ok (.getfield 15, 3) := by decide +kernel
theorem dX8_ownWeight_22 : decode cX8_ownWeight 22 = .ok (.iload_n 1, 1) := by decide +kernel
theorem dX8_ownWeight_23 : decode cX8_ownWeight 23 = .ok (.iaload, 1) := by decide +kernel
theorem dX8_ownWeight_24 : decode cX8_ownWeight 24 = .ok (.goto 9, 3) := by decide +kernel
theorem dX8_ownWeight_27 : decode cX8_ownWeight 27 = .ok (.aload_n 0, 1) := by decide +kernel
theorem dX8_ownWeight_28 : decode cX8_ownWeight 28 = .ok (.getfield 18, 3) := by decide +kernel
theorem dX8_ownWeight_31 : decode cX8_ownWeight 31 = .ok (.iload_n 1, 1) := by decide +kernel
theorem dX8_ownWeight_32 : decode cX8_ownWeight 32 = .ok (.iaload, 1) := by decide +kernel
theorem dX8_ownWeight_33 : decode cX8_ownWeight 33 = .ok (.iastore, 1) := by decide +kernel
theorem dX8_ownWeight_34 : decode cX8_ownWeight 34 = .ok (.aload_n 0, 1) := by decide +kernel
theorem dX8_ownWeight_35 : decode cX8_ownWeight 35 = .ok (.getfield 90, 3) := by decide +kernel
theorem dX8_ownWeight_38 : decode cX8_ownWeight 38 = .ok (.iconst 1, 1) := by decide +kernel
theorem dX8_ownWeight_39 : decode cX8_ownWeight 39 = .ok (.iload_n 2, 1) := by decide +kernel
theorem dX8_ownWeight_40 : decode cX8_ownWeight 40 = .ok (.ifCond .ne 12, 3) := by decide +kernel
theorem dX8_ownWeight_43 : decode cX8_ownWeight 43 = .ok (.aload_n 0, 1) := by decide +kernel
theorem dX8_ownWeight_44 : decode cX8_ownWeight 44 = .ok (.getfield 18, 3) := by decide +kernel
theorem dX8_ownWeight_47 : decode cX8_ownWeight 47 = .ok (.iload_n 1, 1) := by decide +kernel
theorem dX8_ownWeight_48 : decode cX8_ownWeight 48 = .ok (.iaload, 1) := by decide +kernel
theorem dX8_ownWeight_49 : decode cX8_ownWeight 49 = .ok (.goto 9, 3) := by decide +kernel
theorem dX8_ownWeight_52 : decode cX8_ownWeight 52 = .ok (.aload_n 0, 1) := by decide +kernel
theorem dX8_ownWeight_53 : decode cX8_ownWeight 53 = .ok (.getfield 15, 3) := by decide +kernel
theorem dX8_ownWeight_56 : decode cX8_ownWeight 56 = .ok (.iload_n 1, 1) := by decide +kernel
theorem dX8_ownWeight_57 : decode cX8_ownWeight 57 = .ok (.iaload, 1) := by decide +kernel
theorem dX8_ownWeight_58 : decode cX8_ownWeight 58 = .ok (.iastore, 1) := by decide +kernel
theorem dX8_ownWeight_59 : decode cX8_ownWeight 59 = .ok (.aload_n 0, 1) := by decide +kernel
theorem dX8_ownWeight_60 : decode cX8_ownWeight 60 = .ok (.getfield 90, 3) := by decide +kernel
theorem dX8_ownWeight_63 : decode cX8_ownWeight 63 = .ok (.iconst 2, 1) := by decide +kernel
theorem dX8_ownWeight_64 : decode cX8_ownWeight 64 = .ok (.iload_n 1, 1) := by decide +kernel
theorem dX8_ownWeight_65 : decode cX8_ownWeight 65 = .ok (.iastore, 1) := by decide +kernel
theorem dX8_ownWeight_66 : decode cX8_ownWeight 66 = .ok (.aload_n 0, 1) := by decide +kernel
theorem dX8_ownWeight_67 : decode cX8_ownWeight 67 = .ok (.getfield 90, 3) := by decide +kernel
theorem dX8_ownWeight_70 : decode cX8_ownWeight 70 = .ok (.iconst 3, 1) := by decide +kernel
theorem dX8_ownWeight_71 : decode cX8_ownWeight 71 = .ok (.aload_n 0, 1) := by decide +kernel
theorem dX8_ownWeight_72 : decode cX8_ownWeight 72 = .ok (.getfield 9, 3) := by decide +kernel
theorem dX8_ownWeight_75 : decode cX8_ownWeight 75 = .ok (.iload_n 1, 1) := by decide +kernel
theorem dX8_ownWeight_76 : decode cX8_ownWeight 76 = .ok (.iaload, 1) := by decide +kernel
theorem dX8_ownWeight_77 : decode cX8_ownWeight 77 = .ok (.iastore, 1) := by decide +kernel
theorem dX8_ownWeight_78 : decode cX8_ownWeight 78 = .ok (.aload_n 0, 1) := by decide +kernel
theorem dX8_ownWeight_79 : decode cX8_ownWeight 79 = .ok (.getfield 90, 3) := by decide +kernel
theorem dX8_ownWeight_82 : decode cX8_ownWeight 82 = .ok (.iconst 4, 1) := by decide +kernel
theorem dX8_ownWeight_83 : decode cX8_ownWeight 83 = .ok (.iload_n 2, 1) := by decide +kernel
theorem dX8_ownWeight_84 : decode cX8_ownWeight 84 = .ok (.iastore, 1) := by decide +kernel
theorem dX8_ownWeight_85 : decode cX8_ownWeight 85 = .ok (.aload_n 0, 1) := by decide +kernel
theorem dX8_ownWeight_86 : decode cX8_ownWeight 86 = .ok (.iconst 0, 1) := by decide +kernel
theorem dX8_ownWeight_87 : decode cX8_ownWeight 87 = .ok (.invokevirtual 269, 3) := by decide +kernel
theorem dX8_ownWeight_90 : decode cX8_ownWeight 90 = .ok (.istore_n 3, 1) := by decide +kernel
theorem dX8_ownWeight_91 : decode cX8_ownWeight 91 = .ok (.iload_n 3, 1) := by decide +kernel
theorem dX8_ownWeight_92 : decode cX8_ownWeight 92 = .ok (.ifCond .ge 7, 3) := by decide +kernel
theorem dX8_ownWeight_95 : decode cX8_ownWeight 95 = .ok (.iconst 0, 1) := by decide +kernel
theorem dX8_ownWeight_96 : decode cX8_ownWeight 96 = .ok (.goto 13, 3) := by decide +kernel
theorem dX8_ownWeight_99 : decode cX8_ownWeight 99 = .ok (.iload_n 3, 1) := by decide +kernel
theorem dX8_ownWeight_100 : decode cX8_ownWeight 100 = .ok (.iconst 3, 1) := by decide +kernel
theorem dX8_ownWeight_101 : decode cX8_ownWeight 101 = .ok (.if_icmp .le 7, 3) := by decide +kernel
theorem dX8_ownWeight_104 : decode cX8_ownWeight 104 = .ok (.iconst 3, 1) := by decide +kernel
theorem dX8_ownWeight_105 : decode cX8_ownWeight 105 = .ok (.goto 4, 3) := by decide +kernel
theorem dX8_ownWeight_108 : decode cX8_ownWeight 108 = .ok (.iload_n 3, 1) := by decide +kernel
theorem dX8_ownWeight_109 : decode cX8_ownWeight 109 = .ok (.ireturn, 1) := by decide +kernel
theorem dX8_findWeights_0 : decode cX8_findWeights 0 = .ok (.iconst 0, 1) := by decide +kernel
theorem dX8_findWeights_1 : decode cX8_findWeights 1 = .ok (.istore_n 1, 1) := by decide +kernel
theorem dX8_findWeights_2 : decode cX8_findWeights 2 = .ok (.iload_n 1, 1) := by decide +kernel
theorem dX8_findWeights_3 : decode cX8_findWeights 3 = .ok (.aload_n 0, 1) := by decide +kernel
theorem dX8_findWeights_4 : decode cX8_findWeights 4 = .ok (.getfield 145, 3) := by decide +kernel
theorem dX8_findWeights_7 : decode cX8_findWeights 7 = .ok (.if_icmp .ge 84, 3) := by decide +kernel
theorem dX8_findWeights_10 : decode cX8_findWeights 10 = .ok (.aload_n 0, 1) := by decide +kernel
theorem dX8_findWeights_11 : decode cX8_findWeights 11 = .ok (.getfield 96, 3) := by decide +kernel
theorem dX8_findWeights_14 : decode cX8_findWeights 14 = .ok (.iconst 2, 1) := by decide +kernel
theorem dX8_findWeights_15 : decode cX8_findWeights 15 = .ok (.iload_n 1, 1) := by decide +kernel
theorem dX8_findWeights_16 : decode cX8_findWeights 16 = .ok (.imul, 1) := by decide +kernel
theorem dX8_findWeights_17 : decode cX8_findWeights 17 = .ok (.aload_n 0, 1) := by decide +kernel
theorem dX8_findWeights_18 : decode cX8_findWeights 18 = .ok (.iload_n 1, 1) := by decide +kernel
theorem dX8_findWeights_19 : decode cX8_findWeights 19 = .ok (.iconst 0, 1) := by decide +kernel
theorem dX8_findWeights_20 : decode cX8_findWeights 20 = .ok (.invokevirtual 272, 3) := by decide +kernel
theorem dX8_findWeights_23 : decode cX8_findWeights 23 = .ok (.iastore, 1) := by decide +kernel
theorem dX8_findWeights_24 : decode cX8_findWeights 24 = .ok (.aload_n 0, 1) := by decide +kernel
theorem dX8_findWeights_25 : decode cX8_findWeights 25 = .ok (.getfield 96, 3) := by decide +kernel
theorem dX8_findWeights_28 : decode cX8_findWeights 28 = .ok (.iconst 2, 1) := by decide +kernel
theorem dX8_findWeights_29 : decode cX8_findWeights 29 = .ok (.iload_n 1, 1) := by decide +kernel
theorem dX8_findWeights_30 : decode cX8_findWeights 30 = .ok (.imul, 1) := by decide +kernel
theorem dX8_findWeights_31 : decode cX8_findWeights 31 = .ok (.iconst 1, 1) := by decide +kernel
theorem dX8_findWeights_32 : decode cX8_findWeights 32 = .ok (.iadd, 1) := by decide +kernel
theorem dX8_findWeights_33 : decode cX8_findWeights 33 = .ok (.aload_n 0, 1) := by decide +kernel
theorem dX8_findWeights_34 : decode cX8_findWeights 34 = .ok (.iload_n 1, 1) := by decide +kernel
theorem dX8_findWeights_35 : decode cX8_findWeights 35 = .ok (.iconst 1, 1) := by decide +kernel
theorem dX8_findWeights_36 : decode cX8_findWeights 36 = .ok (.invokevirtual 272, 3) := by decide +kernel
theorem dX8_findWeights_39 : decode cX8_findWeights 39 = .ok (.iastore, 1) := by decide +kernel
theorem dX8_findWeights_40 : decode cX8_findWeights 40 = .ok (.aload_n 0, 1) := by decide +kernel
theorem dX8_findWeights_41 : decode cX8_findWeights 41 = .ok (.getfield 96, 3) := by decide +kernel
theorem dX8_findWeights_44 : decode cX8_findWeights 44 = .ok (.iconst 2, 1) := by decide +kernel
theorem dX8_findWeights_45 : decode cX8_findWeights 45 = .ok (.iload_n 1, 1) := by decide +kernel
theorem dX8_findWeights_46 : decode cX8_findWeights 46 = .ok (.imul, 1) := by decide +kernel
theorem dX8_findWeights_47 : decode cX8_findWeights 47 = .ok (.iaload, 1) := by decide +kernel
theorem dX8_findWeights_48 : decode cX8_findWeights 48 = .ok (.aload_n 0, 1) := by decide +kernel
theorem dX8_findWeights_49 : decode cX8_findWeights 49 = .ok (.getfield 96, 3) := by decide +kernel
theorem dX8_findWeights_52 : decode cX8_findWeights 52 = .ok (.iconst 2, 1) := by decide +kernel
theorem dX8_findWeights_53 : decode cX8_findWeights 53 = .ok (.iload_n 1, 1) := by decide +kernel
theorem dX8_findWeights_54 : decode cX8_findWeights 54 = .ok (.imul, 1) := by decide +kernel
theorem dX8_findWeights_55 : decode cX8_findWeights 55 = .ok (.iconst 1, 1) := by decide +kernel
theorem dX8_findWeights_56 : decode cX8_findWeights 56 = .ok (.iadd, 1) := by decide +kernel
theorem dX8_findWeights_57 : decode cX8_findWeights 57 = .ok (.iaload, 1) := by decide +kernel
theorem dX8_findWeights_58 : decode cX8_findWeights 58 = .ok (.iadd, 1) := by decide +kernel
theorem dX8_findWeights_59 : decode cX8_findWeights 59 = .ok (.ifCond .le 6, 3) := by decide +kernel
theorem dX8_findWeights_62 : decode cX8_findWeights 62 = .ok (.goto 23, 3) := by decide +kernel
theorem dX8_findWeights_65 : decode cX8_findWeights 65 = .ok (.aload_n 0, 1) := by decide +kernel
theorem dX8_findWeights_66 : decode cX8_findWeights 66 = .ok (.getfield 96, 3) := by decide +kernel
theorem dX8_findWeights_69 : decode cX8_findWeights 69 = .ok (.iconst 2, 1) := by decide +kernel
theorem dX8_findWeights_70 : decode cX8_findWeights 70 = .ok (.iload_n 1, 1) := by decide +kernel
theorem dX8_findWeights_71 : decode cX8_findWeights 71 = .ok (.imul, 1) := by decide +kernel
theorem dX8_findWeights_72 : decode cX8_findWeights 72 = .ok (.iconst 1, 1) := by decide +kernel
theorem dX8_findWeights_73 : decode cX8_findWeights 73 = .ok (.iastore, 1) := by decide +kernel
theorem dX8_findWeights_74 : decode cX8_findWeights 74 = .ok (.aload_n 0, 1) := by decide +kernel
theorem dX8_findWeights_75 : decode cX8_findWeights 75 = .ok (.getfield 96, 3) := by decide +kernel
theorem dX8_findWeights_78 : decode cX8_findWeights 78 = .ok (.iconst 2, 1) := by decide +kernel
theorem dX8_findWeights_79 : decode cX8_findWeights 79 = .ok (.iload_n 1, 1) := by decide +kernel
theorem dX8_findWeights_80 : decode cX8_findWeights 80 = .ok (.imul, 1) := by decide +kernel
theorem dX8_findWeights_81 : decode cX8_findWeights 81 = .ok (.iconst 1, 1) := by decide +kernel
theorem dX8_findWeights_82 : decode cX8_findWeights 82 = .ok (.iadd, 1) := by decide +kernel
theorem dX8_findWeights_83 : decode cX8_findWeights 83 = .ok (.iconst 1, 1) := by decide +kernel
theorem dX8_findWeights_84 : decode cX8_findWeights 84 = .ok (.iastore, 1) := by decide +kernel
theorem dX8_findWeights_85 : decode cX8_findWeights 85 = .ok (.iinc 1 1, 3) := by decide +kernel
theorem dX8_findWeights_88 : decode cX8_findWeights 88 = .ok (.goto (-86), 3) := by decide +kernel
theorem dX8_findWeights_91 : decode cX8_findWeights 91 = .ok (.return_, 1) := by decide +kernel
theorem dX8_sumOf_0 : decode cX8_sumOf 0 = .ok (.aload_n 0, 1) := by decide +kernel
theorem dX8_sumOf_1 : decode cX8_sumOf 1 = .ok (.getfield 96, 3) := by decide +kernel
theorem dX8_sumOf_4 : decode cX8_sumOf 4 = .ok (.iconst 2, 1) := by decide +kernel
theorem dX8_sumOf_5 : decode cX8_sumOf 5 = .ok (.iload_n 1, 1) := by decide +kernel
theorem dX8_sumOf_6 : decode cX8_sumOf 6 = .ok (.imul, 1) := by decide +kernel
theorem dX8_sumOf_7 : decode cX8_sumOf 7 = .ok (.iaload, 1) := by decide +kernel
theorem dX8_sumOf_8 : decode cX8_sumOf 8 = .ok (.aload_n 0, 1) := by decide +kernel
theorem dX8_sumOf_9 : decode cX8_sumOf 9 = .ok (.getfield 96, 3) := by decide +kernel
theorem dX8_sumOf_12 : decode cX8_sumOf 12 = .ok (.iconst 2, 1) := by decide +kernel
theorem dX8_sumOf_13 : decode cX8_sumOf 13 = .ok (.iload_n 1, 1) := by decide +kernel
theorem dX8_sumOf_14 : decode cX8_sumOf 14 = .ok (.imul, 1) := by decide +kernel
theorem dX8_sumOf_15 : decode cX8_sumOf 15 = .ok (.iconst 1, 1) := by decide +kernel
theorem dX8_sumOf_16 : decode cX8_sumOf 16 = .ok (.iadd, 1) := by decide +kernel
theorem dX8_sumOf_17 : decode cX8_sumOf 17 = .ok (.iaload, 1) := by decide +kernel
theorem dX8_sumOf_18 : decode cX8_sumOf 18 = .ok (.iadd, 1) := by decide +kernel
theorem dX8_sumOf_19 : decode cX8_sumOf 19 = .ok (.ireturn, 1) := by decide +kernel
theorem dX8_weight_0 : decode cX8_weight 0 = .ok (.aload_n 0, 1) := by decide +kernel
theorem dX8_weight_1 : decode cX8_weight 1 = .ok (.iload_n 1, 1) := by decide +kernel
theorem dX8_weight_2 : decode cX8_weight 2 = .ok (.invokevirtual 182, 3) := by decide +kernel
theorem dX8_weight_5 : decode cX8_weight 5 = .ok (.ifCond .eq 12, 3) := by decide +kernel
theorem dX8_weight_8 : decode cX8_weight 8 = .ok (.iload_n 2, 1) := by decide +kernel
theorem dX8_weight_9 : decode cX8_weight 9 = .ok (.iconst 0, 1) := by decide +kernel
theorem dX8_weight_10 : decode cX8_weight 10 = .ok (.iconst 1, 1) := by decide +kernel
theorem dX8_weight_11 : decode cX8_weight 11 = .ok (.invokestatic 148, 3) := by decide +kernel
theorem dX8_weight_14 : decode cX8_weight 14 = .ok (.ifCond .ne 5, 3) := by decide +kernel
theorem dX8_weight_17 : decode cX8_weight 17 = .ok (.iconst (-1), 1) := by decide +kernel
theorem dX8_weight_18 : decode cX8_weight 18 = .ok (.ireturn, 1) := by decide +kernel
theorem dX8_weight_19 : decode cX8_weight 19 = .ok (.aload_n 0, 1) := by decide +kernel
theorem dX8_weight_20 : decode cX8_weight 20 = .ok (.invokevirtual 275, 3) := by decide +kernel
theorem dX8_weight_23 : decode cX8_weight 23 = .ok (.aload_n 0, 1) := by decide +kernel
theorem dX8_weight_24 : decode cX8_weight 24 = .ok (.getfield 96, 3) := by decide +kernel
theorem dX8_weight_27 : decode cX8_weight 27 = .ok (.iconst 2, 1) := by decide +kernel
theorem dX8_weight_28 : decode cX8_weight 28 = .ok (.iload_n 1, 1) := by decide +kernel
theorem dX8_weight_29 : decode cX8_weight 29 = .ok (.imul, 1) := by decide +kernel
theorem dX8_weight_30 : decode cX8_weight 30 = .ok (.iload_n 2, 1) := by decide +kernel
theorem dX8_weight_31 : decode cX8_weight 31 = .ok (.iadd, 1) := by decide +kernel
theorem dX8_weight_32 : decode cX8_weight 32 = .ok (.iaload, 1) := by decide +kernel
theorem dX8_weight_33 : decode cX8_weight 33 = .ok (.ireturn, 1) := by decide +kernel
theorem dX8_shows_0 : decode cX8_shows 0 = .ok (.aload_n 0, 1) := by decide +kernel
theorem dX8_shows_1 : decode cX8_shows 1 = .ok (.getfield 15, 3) := by decide +kernel
theorem dX8_shows_4 : decode cX8_shows 4 = .ok (.iload_n 1, 1) := by decide +kernel
theorem dX8_shows_5 : decode cX8_shows 5 = .ok (.iaload, 1) := by decide +kernel
theorem dX8_shows_6 : decode cX8_shows 6 = .ok (.iload_n 2, 1) := by decide +kernel
theorem dX8_shows_7 : decode cX8_shows 7 = .ok (.if_icmp .ne 14, 3) := by decide +kernel
theorem dX8_shows_10 : decode cX8_shows 10 = .ok (.aload_n 0, 1) := by decide +kernel
theorem dX8_shows_11 : decode cX8_shows 11 = .ok (.getfield 96, 3) := by decide +kernel
theorem dX8_shows_14 : decode cX8_shows 14 = .ok (.iconst 2, 1) := by decide +kernel
theorem dX8_shows_15 : decode cX8_shows 15 = .ok (.iload_n 1, 1) := by decide +kernel
theorem dX8_shows_16 : decode cX8_shows 16 = .ok (.imul, 1) := by decide +kernel
theorem dX8_shows_17 : decode cX8_shows 17 = .ok (.iaload, 1) := by decide +kernel
theorem dX8_shows_18 : decode cX8_shows 18 = .ok (.goto 4, 3) := by decide +kernel
theorem dX8_shows_21 : decode cX8_shows 21 = .ok (.iconst 0, 1) := by decide +kernel
theorem dX8_shows_22 : decode cX8_shows 22 = .ok (.aload_n 0, 1) := by decide +kernel
theorem dX8_shows_23 : decode cX8_shows 23 = .ok (.getfield 18, 3) := by decide +kernel
theorem dX8_shows_26 : decode cX8_shows 26 = .ok (.iload_n 1, 1) := by decide +kernel
theorem dX8_shows_27 : decode cX8_shows 27 = .ok (.iaload, 1) := by decide +kernel
theorem dX8_shows_28 : decode cX8_shows 28 = .ok (.iload_n 2, 1) := by decide +kernel
theorem dX8_shows_29 : decode cX8_shows 29 = .ok (.if_icmp .ne 16, 3) := by decide +kernel
theorem dX8_shows_32 : decode cX8_shows 32 = .ok (.aload_n 0, 1) := by decide +kernel
theorem dX8_shows_33 : decode cX8_shows 33 = .ok (.getfield 96, 3) := by decide +kernel
theorem dX8_shows_36 : decode cX8_shows 36 = .ok (.iconst 2, 1) := by decide +kernel
theorem dX8_shows_37 : decode cX8_shows 37 = .ok (.iload_n 1, 1) := by decide +kernel
theorem dX8_shows_38 : decode cX8_shows 38 = .ok (.imul, 1) := by decide +kernel
theorem dX8_shows_39 : decode cX8_shows 39 = .ok (.iconst 1, 1) := by decide +kernel
theorem dX8_shows_40 : decode cX8_shows 40 = .ok (.iadd, 1) := by decide +kernel
theorem dX8_shows_41 : decode cX8_shows 41 = .ok (.iaload, 1) := by decide +kernel
theorem dX8_shows_42 : decode cX8_shows 42 = .ok (.goto 4, 3) := by decide +kernel
theorem dX8_shows_45 : decode cX8_shows 45 = .ok (.iconst 0, 1) := by decide +kernel
theorem dX8_shows_46 : decode cX8_shows 46 = .ok (.iadd, 1) := by decide +kernel
theorem dX8_shows_47 : decode cX8_shows 47 = .ok (.i2l, 1) := by decide +kernel
theorem dX8_shows_48 : decode cX8_shows 48 = .ok (.ldc2_w 278, 3) := by decide +kernel
theorem dX8_shows_51 : decode cX8_shows 51 = .ok (.lmul, 1) := by decide +kernel
theorem dX8_shows_52 : decode cX8_shows 52 = .ok (.aload_n 0, 1) := by decide +kernel
theorem dX8_shows_53 : decode cX8_shows 53 = .ok (.iload_n 1, 1) := by decide +kernel
theorem dX8_shows_54 : decode cX8_shows 54 = .ok (.invokevirtual 280, 3) := by decide +kernel
theorem dX8_shows_57 : decode cX8_shows 57 = .ok (.i2l, 1) := by decide +kernel
theorem dX8_shows_58 : decode cX8_shows 58 = .ok (.ldiv, 1) := by decide +kernel
theorem dX8_shows_59 : decode cX8_shows 59 = .ok (.lreturn, 1) := by decide +kernel
theorem dX8_power_0 : decode cX8_power 0 = .ok (.lconst 1, 1) := by decide +kernel
theorem dX8_power_1 : decode cX8_power 1 = .ok (.lstore_n 3, 1) := by decide +kernel
theorem dX8_power_2 : decode cX8_power 2 = .ok (.iconst 0, 1) := by decide +kernel
theorem dX8_power_3 : decode cX8_power 3 = .ok (.istore 5, 2) := by decide +kernel
theorem dX8_power_5 : decode cX8_power 5 = .ok (.iload 5, 2) := by decide +kernel
theorem dX8_power_7 : decode cX8_power 7 = .ok (.iload_n 2, 1) := by decide +kernel
theorem dX8_power_8 : decode cX8_power 8 = .ok (.if_icmp .ge 13, 3) := by decide +kernel
theorem dX8_power_11 : decode cX8_power 11 = .ok (.lload_n 3, 1) := by decide +kernel
theorem dX8_power_12 : decode cX8_power 12 = .ok (.lload_n 0, 1) := by decide +kernel
theorem dX8_power_13 : decode cX8_power 13 = .ok (.lmul, 1) := by decide +kernel
theorem dX8_power_14 : decode cX8_power 14 = .ok (.lstore_n 3, 1) := by decide +kernel
theorem dX8_power_15 : decode cX8_power 15 = .ok (.iinc 5 1, 3) := by decide +kernel
theorem dX8_power_18 : decode cX8_power 18 = .ok (.goto (-13), 3) := by decide +kernel
theorem dX8_power_21 : decode cX8_power 21 = .ok (.lload_n 3, 1) := by decide +kernel
theorem dX8_power_22 : decode cX8_power 22 = .ok (.lreturn, 1) := by decide +kernel
theorem dX8_allShow_0 : decode cX8_allShow 0 = .ok (.lconst 0, 1) := by decide +kernel
theorem dX8_allShow_1 : decode cX8_allShow 1 = .ok (.lstore_n 3, 1) := by decide +kernel
theorem dX8_allShow_2 : decode cX8_allShow 2 = .ok (.iconst 0, 1) := by decide +kernel
theorem dX8_allShow_3 : decode cX8_allShow 3 = .ok (.istore 5, 2) := by decide +kernel
theorem dX8_allShow_5 : decode cX8_allShow 5 = .ok (.iload 5, 2) := by decide +kernel
theorem dX8_allShow_7 : decode cX8_allShow 7 = .ok (.aload_n 0, 1) := by decide +kernel
theorem dX8_allShow_8 : decode cX8_allShow 8 = .ok (.getfield 145, 3) := by decide +kernel
theorem dX8_allShow_11 : decode cX8_allShow 11 = .ok (.if_icmp .ge 32, 3) := by decide +kernel
theorem dX8_allShow_14 : decode cX8_allShow 14 = .ok (.lload_n 3, 1) := by decide +kernel
theorem dX8_allShow_15 : decode cX8_allShow 15 = .ok (.aload_n 0, 1) := by decide +kernel
theorem dX8_allShow_16 : decode cX8_allShow 16 = .ok (.getfield 9, 3) := by decide +kernel
theorem dX8_allShow_19 : decode cX8_allShow 19 = .ok (.iload 5, 2) := by decide +kernel
theorem dX8_allShow_21 : decode cX8_allShow 21 = .ok (.iaload, 1) := by decide +kernel
theorem dX8_allShow_22 : decode cX8_allShow 22 = .ok (.i2l, 1) := by decide +kernel
theorem dX8_allShow_23 : decode cX8_allShow 23 = .ok (.aload_n 0, 1) := by decide +kernel
theorem dX8_allShow_24 : decode cX8_allShow 24 = .ok (.iload 5, 2) := by decide +kernel
theorem dX8_allShow_26 : decode cX8_allShow 26 = .ok (.iload_n 1, 1) := by decide +kernel
theorem dX8_allShow_27 : decode cX8_allShow 27 = .ok (.invokevirtual 283, 3) := by decide +kernel
theorem dX8_allShow_30 : decode cX8_allShow 30 = .ok (.iload_n 2, 1) := by decide +kernel
theorem dX8_allShow_31 : decode cX8_allShow 31 = .ok (.invokestatic 287, 3) := by decide +kernel
theorem dX8_allShow_34 : decode cX8_allShow 34 = .ok (.lmul, 1) := by decide +kernel
theorem dX8_allShow_35 : decode cX8_allShow 35 = .ok (.ladd, 1) := by decide +kernel
theorem dX8_allShow_36 : decode cX8_allShow 36 = .ok (.lstore_n 3, 1) := by decide +kernel
theorem dX8_allShow_37 : decode cX8_allShow 37 = .ok (.iinc 5 1, 3) := by decide +kernel
theorem dX8_allShow_40 : decode cX8_allShow 40 = .ok (.goto (-35), 3) := by decide +kernel
theorem dX8_allShow_43 : decode cX8_allShow 43 = .ok (.lload_n 3, 1) := by decide +kernel
theorem dX8_allShow_44 : decode cX8_allShow 44 = .ok (.lreturn, 1) := by decide +kernel
theorem dX8_asPart_0 : decode cX8_asPart 0 = .ok (.lload_n 2, 1) := by decide +kernel
theorem dX8_asPart_1 : decode cX8_asPart 1 = .ok (.lconst 0, 1) := by decide +kernel
theorem dX8_asPart_2 : decode cX8_asPart 2 = .ok (.lcmp, 1) := by decide +kernel
theorem dX8_asPart_3 : decode cX8_asPart 3 = .ok (.ifCond .ne 7, 3) := by decide +kernel
theorem dX8_asPart_6 : decode cX8_asPart 6 = .ok (.iload 4, 2) := by decide +kernel
theorem dX8_asPart_8 : decode cX8_asPart 8 = .ok (.i2l, 1) := by decide +kernel
theorem dX8_asPart_9 : decode cX8_asPart 9 = .ok (.lreturn, 1) := by decide +kernel
theorem dX8_asPart_10 : decode cX8_asPart 10 = .ok (.lload_n 0, 1) := by decide +kernel
theorem dX8_asPart_11 : decode cX8_asPart 11 = .ok (.lstore 5, 2) := by decide +kernel
theorem dX8_asPart_13 : decode cX8_asPart 13 = .ok (.lload_n 2, 1) := by decide +kernel
theorem dX8_asPart_14 : decode cX8_asPart 14 = .ok (.lstore 7, 2) := by decide +kernel
theorem dX8_asPart_16 : decode cX8_asPart 16 = .ok (.lload 7, 2) := by decide +kernel
theorem dX8_asPart_18 : decode cX8_asPart 18 = .ok (.lconst 0, 1) := by decide +kernel
theorem dX8_asPart_19 : decode cX8_asPart 19 = .ok (.lcmp, 1) := by decide +kernel
theorem dX8_asPart_20 : decode cX8_asPart 20 = .ok (.ifCond .eq 21, 3) := by decide +kernel
theorem dX8_asPart_23 : decode cX8_asPart 23 = .ok (.lload 5, 2) := by decide +kernel
theorem dX8_asPart_25 : decode cX8_asPart 25 = .ok (.lload 7, 2) := by decide +kernel
theorem dX8_asPart_27 : decode cX8_asPart 27 = .ok (.lrem, 1) := by decide +kernel
theorem dX8_asPart_28 : decode cX8_asPart 28 = .ok (.lstore 9, 2) := by decide +kernel
theorem dX8_asPart_30 : decode cX8_asPart 30 = .ok (.lload 7, 2) := by decide +kernel
theorem dX8_asPart_32 : decode cX8_asPart 32 = .ok (.lstore 5, 2) := by decide +kernel
theorem dX8_asPart_34 : decode cX8_asPart 34 = .ok (.lload 9, 2) := by decide +kernel
theorem dX8_asPart_36 : decode cX8_asPart 36 = .ok (.lstore 7, 2) := by decide +kernel
theorem dX8_asPart_38 : decode cX8_asPart 38 = .ok (.goto (-22), 3) := by decide +kernel
theorem dX8_asPart_41 : decode cX8_asPart 41 = .ok (.iload 4, 2) := by decide +kernel
theorem dX8_asPart_43 : decode cX8_asPart 43 = .ok (.ifCond .ne 10, 3) := by decide +kernel
theorem dX8_asPart_46 : decode cX8_asPart 46 = .ok (.lload_n 0, 1) := by decide +kernel
theorem dX8_asPart_47 : decode cX8_asPart 47 = .ok (.lload 5, 2) := by decide +kernel
theorem dX8_asPart_49 : decode cX8_asPart 49 = .ok (.ldiv, 1) := by decide +kernel
theorem dX8_asPart_50 : decode cX8_asPart 50 = .ok (.goto 7, 3) := by decide +kernel
theorem dX8_asPart_53 : decode cX8_asPart 53 = .ok (.lload_n 2, 1) := by decide +kernel
theorem dX8_asPart_54 : decode cX8_asPart 54 = .ok (.lload 5, 2) := by decide +kernel
theorem dX8_asPart_56 : decode cX8_asPart 56 = .ok (.ldiv, 1) := by decide +kernel
theorem dX8_asPart_57 : decode cX8_asPart 57 = .ok (.lreturn, 1) := by decide +kernel
theorem dX8_isPart_0 : decode cX8_isPart 0 = .ok (.iload_n 0, 1) := by decide +kernel
theorem dX8_isPart_1 : decode cX8_isPart 1 = .ok (.iconst 0, 1) := by decide +kernel
theorem dX8_isPart_2 : decode cX8_isPart 2 = .ok (.iconst 1, 1) := by decide +kernel
theorem dX8_isPart_3 : decode cX8_isPart 3 = .ok (.invokestatic 148, 3) := by decide +kernel
theorem dX8_isPart_6 : decode cX8_isPart 6 = .ok (.ireturn, 1) := by decide +kernel
theorem dX8_shown_0 : decode cX8_shown 0 = .ok (.iload_n 1, 1) := by decide +kernel
theorem dX8_shown_1 : decode cX8_shown 1 = .ok (.invokestatic 152, 3) := by decide +kernel
theorem dX8_shown_4 : decode cX8_shown 4 = .ok (.ifCond .eq 10, 3) := by decide +kernel
theorem dX8_shown_7 : decode cX8_shown 7 = .ok (.iload_n 2, 1) := by decide +kernel
theorem dX8_shown_8 : decode cX8_shown 8 = .ok (.invokestatic 291, 3) := by decide +kernel
theorem dX8_shown_11 : decode cX8_shown 11 = .ok (.ifCond .ne 7, 3) := by decide +kernel
theorem dX8_shown_14 : decode cX8_shown 14 = .ok (.ldc2_w 294, 3) := by decide +kernel
theorem dX8_shown_17 : decode cX8_shown 17 = .ok (.lreturn, 1) := by decide +kernel
theorem dX8_shown_18 : decode cX8_shown 18 = .ok (.aload_n 0, 1) := by decide +kernel
theorem dX8_shown_19 : decode cX8_shown 19 = .ok (.invokevirtual 275, 3) := by decide +kernel
theorem dX8_shown_22 : decode cX8_shown 22 = .ok (.aload_n 0, 1) := by decide +kernel
theorem dX8_shown_23 : decode cX8_shown 23 = .ok (.iload_n 1, 1) := by decide +kernel
theorem dX8_shown_24 : decode cX8_shown 24 = .ok (.iconst 1, 1) := by decide +kernel
theorem dX8_shown_25 : decode cX8_shown 25 = .ok (.invokevirtual 296, 3) := by decide +kernel
theorem dX8_shown_28 : decode cX8_shown 28 = .ok (.ldc2_w 278, 3) := by decide +kernel
theorem dX8_shown_31 : decode cX8_shown 31 = .ok (.aload_n 0, 1) := by decide +kernel
theorem dX8_shown_32 : decode cX8_shown 32 = .ok (.invokevirtual 196, 3) := by decide +kernel
theorem dX8_shown_35 : decode cX8_shown 35 = .ok (.i2l, 1) := by decide +kernel
theorem dX8_shown_36 : decode cX8_shown 36 = .ok (.lmul, 1) := by decide +kernel
theorem dX8_shown_37 : decode cX8_shown 37 = .ok (.iload_n 2, 1) := by decide +kernel
theorem dX8_shown_38 : decode cX8_shown 38 = .ok (.invokestatic 299, 3) := by decide +kernel
theorem dX8_shown_41 : decode cX8_shown 41 = .ok (.lreturn, 1) := by decide +kernel
theorem dX8_other_0 : decode cX8_other 0 = .ok (.iload_n 1, 1) := by decide +kernel
theorem dX8_other_1 : decode cX8_other 1 = .ok (.ifCond .lt 30, 3) := by decide +kernel
theorem dX8_other_4 : decode cX8_other 4 = .ok (.iload_n 1, 1) := by decide +kernel
theorem dX8_other_5 : decode cX8_other 5 = .ok (.bipush 10, 2) := by decide +kernel
theorem dX8_other_7 : decode cX8_other 7 = .ok (.idiv, 1) := by decide +kernel
theorem dX8_other_8 : decode cX8_other 8 = .ok (.invokestatic 152, 3) := by decide +kernel
theorem dX8_other_11 : decode cX8_other 11 = .ok (.ifCond .eq 20, 3) := by decide +kernel
theorem dX8_other_14 : decode cX8_other 14 = .ok (.iload_n 1, 1) := by decide +kernel
theorem dX8_other_15 : decode cX8_other 15 = .ok (.bipush 10, 2) := by decide +kernel
theorem dX8_other_17 : decode cX8_other 17 = .ok (.irem, 1) := by decide +kernel
theorem dX8_other_18 : decode cX8_other 18 = .ok (.invokestatic 152, 3) := by decide +kernel
theorem dX8_other_21 : decode cX8_other 21 = .ok (.ifCond .eq 10, 3) := by decide +kernel
theorem dX8_other_24 : decode cX8_other 24 = .ok (.iload_n 2, 1) := by decide +kernel
theorem dX8_other_25 : decode cX8_other 25 = .ok (.invokestatic 291, 3) := by decide +kernel
theorem dX8_other_28 : decode cX8_other 28 = .ok (.ifCond .ne 7, 3) := by decide +kernel
theorem dX8_other_31 : decode cX8_other 31 = .ok (.ldc2_w 294, 3) := by decide +kernel
theorem dX8_other_34 : decode cX8_other 34 = .ok (.lreturn, 1) := by decide +kernel
theorem dX8_other_35 : decode cX8_other 35 = .ok (.aload_n 0, 1) := by decide +kernel
theorem dX8_other_36 : decode cX8_other 36 = .ok (.invokevirtual 275, 3) := by decide +kernel
theorem dX8_other_39 : decode cX8_other 39 = .ok (.iload_n 1, 1) := by decide +kernel
theorem dX8_other_40 : decode cX8_other 40 = .ok (.bipush 10, 2) := by decide +kernel
theorem dX8_other_42 : decode cX8_other 42 = .ok (.idiv, 1) := by decide +kernel
theorem dX8_other_43 : decode cX8_other 43 = .ok (.istore_n 3, 1) := by decide +kernel
theorem dX8_other_44 : decode cX8_other 44 = .ok (.iload_n 1, 1) := by decide +kernel
theorem dX8_other_45 : decode cX8_other 45 = .ok (.bipush 10, 2) := by decide +kernel
theorem dX8_other_47 : decode cX8_other 47 = .ok (.irem, 1) := by decide +kernel
theorem dX8_other_48 : decode cX8_other 48 = .ok (.istore 4, 2) := by decide +kernel
theorem dX8_other_50 : decode cX8_other 50 = .ok (.lconst 0, 1) := by decide +kernel
theorem dX8_other_51 : decode cX8_other 51 = .ok (.lstore 5, 2) := by decide +kernel
theorem dX8_other_53 : decode cX8_other 53 = .ok (.iconst 0, 1) := by decide +kernel
theorem dX8_other_54 : decode cX8_other 54 = .ok (.istore 7, 2) := by decide +kernel
theorem dX8_other_56 : decode cX8_other 56 = .ok (.iload 7, 2) := by decide +kernel
theorem dX8_other_58 : decode cX8_other 58 = .ok (.aload_n 0, 1) := by decide +kernel
theorem dX8_other_59 : decode cX8_other 59 = .ok (.getfield 145, 3) := by decide +kernel
theorem dX8_other_62 : decode cX8_other 62 = .ok (.if_icmp .ge 127, 3) := by decide +kernel
theorem dX8_other_65 : decode cX8_other 65 = .ok (.aload_n 0, 1) := by decide +kernel
theorem dX8_other_66 : decode cX8_other 66 = .ok (.getfield 15, 3) := by decide +kernel
theorem dX8_other_69 : decode cX8_other 69 = .ok (.iload 7, 2) := by decide +kernel
theorem dX8_other_71 : decode cX8_other 71 = .ok (.iaload, 1) := by decide +kernel
theorem dX8_other_72 : decode cX8_other 72 = .ok (.iload_n 3, 1) := by decide +kernel
theorem dX8_other_73 : decode cX8_other 73 = .ok (.if_icmp .ne 50, 3) := by decide +kernel
theorem dX8_other_76 : decode cX8_other 76 = .ok (.aload_n 0, 1) := by decide +kernel
theorem dX8_other_77 : decode cX8_other 77 = .ok (.getfield 18, 3) := by decide +kernel
theorem dX8_other_80 : decode cX8_other 80 = .ok (.iload 7, 2) := by decide +kernel
theorem dX8_other_82 : decode cX8_other 82 = .ok (.iaload, 1) := by decide +kernel
theorem dX8_other_83 : decode cX8_other 83 = .ok (.iload 4, 2) := by decide +kernel
theorem dX8_other_85 : decode cX8_other 85 = .ok (.if_icmp .ne 38, 3) := by decide +kernel
theorem dX8_other_88 : decode cX8_other 88 = .ok (.lload 5, 2) := by decide +kernel
theorem dX8_other_90 : decode cX8_other 90 = .ok (.aload_n 0, 1) := by decide +kernel
theorem dX8_other_91 : decode cX8_other 91 = .ok (.getfield 9, 3) := by decide +kernel
theorem dX8_other_94 : decode cX8_other 94 = .ok (.iload 7, 2) := by decide +kernel
theorem dX8_other_96 : decode cX8_other 96 = .ok (.iaload, 1) := by decide +kernel
theorem dX8_other_97 : decode cX8_other 97 = .ok (.aload_n 0, 1) := by decide +kernel
theorem dX8_other_98 : decode cX8_other 98 = .ok (.getfield 96, 3) := by decide +kernel
theorem dX8_other_101 : decode cX8_other 101 = .ok (.iconst 2, 1) := by decide +kernel
theorem dX8_other_102 : decode cX8_other 102 = .ok (.iload 7, 2) := by decide +kernel
theorem dX8_other_104 : decode cX8_other 104 = .ok (.imul, 1) := by decide +kernel
theorem dX8_other_105 : decode cX8_other 105 = .ok (.iaload, 1) := by decide +kernel
theorem dX8_other_106 : decode cX8_other 106 = .ok (.imul, 1) := by decide +kernel
theorem dX8_other_107 : decode cX8_other 107 = .ok (.i2l, 1) := by decide +kernel
theorem dX8_other_108 : decode cX8_other 108 = .ok (.ldc2_w 278, 3) := by decide +kernel
theorem dX8_other_111 : decode cX8_other 111 = .ok (.lmul, 1) := by decide +kernel
theorem dX8_other_112 : decode cX8_other 112 = .ok (.aload_n 0, 1) := by decide +kernel
theorem dX8_other_113 : decode cX8_other 113 = .ok (.iload 7, 2) := by decide +kernel
theorem dX8_other_115 : decode cX8_other 115 = .ok (.invokevirtual 280, 3) := by decide +kernel
theorem dX8_other_118 : decode cX8_other 118 = .ok (.i2l, 1) := by decide +kernel
theorem dX8_other_119 : decode cX8_other 119 = .ok (.ldiv, 1) := by decide +kernel
theorem dX8_other_120 : decode cX8_other 120 = .ok (.ladd, 1) := by decide +kernel
theorem dX8_other_121 : decode cX8_other 121 = .ok (.lstore 5, 2) := by decide +kernel
theorem dX8_other_123 : decode cX8_other 123 = .ok (.aload_n 0, 1) := by decide +kernel
theorem dX8_other_124 : decode cX8_other 124 = .ok (.getfield 18, 3) := by decide +kernel
theorem dX8_other_127 : decode cX8_other 127 = .ok (.iload 7, 2) := by decide +kernel
theorem dX8_other_129 : decode cX8_other 129 = .ok (.iaload, 1) := by decide +kernel
theorem dX8_other_130 : decode cX8_other 130 = .ok (.iload_n 3, 1) := by decide +kernel
theorem dX8_other_131 : decode cX8_other 131 = .ok (.if_icmp .ne 52, 3) := by decide +kernel
theorem dX8_other_134 : decode cX8_other 134 = .ok (.aload_n 0, 1) := by decide +kernel
theorem dX8_other_135 : decode cX8_other 135 = .ok (.getfield 15, 3) := by decide +kernel
theorem dX8_other_138 : decode cX8_other 138 = .ok (.iload 7, 2) := by decide +kernel
theorem dX8_other_140 : decode cX8_other 140 = .ok (.iaload, 1) := by decide +kernel
theorem dX8_other_141 : decode cX8_other 141 = .ok (.iload 4, 2) := by decide +kernel
theorem dX8_other_143 : decode cX8_other 143 = .ok (.if_icmp .ne 40, 3) := by decide +kernel
theorem dX8_other_146 : decode cX8_other 146 = .ok (.lload 5, 2) := by decide +kernel
theorem dX8_other_148 : decode cX8_other 148 = .ok (.aload_n 0, 1) := by decide +kernel
theorem dX8_other_149 : decode cX8_other 149 = .ok (.getfield 9, 3) := by decide +kernel
theorem dX8_other_152 : decode cX8_other 152 = .ok (.iload 7, 2) := by decide +kernel
theorem dX8_other_154 : decode cX8_other 154 = .ok (.iaload, 1) := by decide +kernel
theorem dX8_other_155 : decode cX8_other 155 = .ok (.aload_n 0, 1) := by decide +kernel
theorem dX8_other_156 : decode cX8_other 156 = .ok (.getfield 96, 3) := by decide +kernel
theorem dX8_other_159 : decode cX8_other 159 = .ok (.iconst 2, 1) := by decide +kernel
theorem dX8_other_160 : decode cX8_other 160 = .ok (.iload 7, 2) := by decide +kernel
theorem dX8_other_162 : decode cX8_other 162 = .ok (.imul, 1) := by decide +kernel
theorem dX8_other_163 : decode cX8_other 163 = .ok (.iconst 1, 1) := by decide +kernel
theorem dX8_other_164 : decode cX8_other 164 = .ok (.iadd, 1) := by decide +kernel
theorem dX8_other_165 : decode cX8_other 165 = .ok (.iaload, 1) := by decide +kernel
theorem dX8_other_166 : decode cX8_other 166 = .ok (.imul, 1) := by decide +kernel
theorem dX8_other_167 : decode cX8_other 167 = .ok (.i2l, 1) := by decide +kernel
theorem dX8_other_168 : decode cX8_other 168 = .ok (.ldc2_w 278, 3) := by decide +kernel
theorem dX8_other_171 : decode cX8_other 171 = .ok (.lmul, 1) := by decide +kernel
theorem dX8_other_172 : decode cX8_other 172 = .ok (.aload_n 0, 1) := by decide +kernel
theorem dX8_other_173 : decode cX8_other 173 = .ok (.iload 7, 2) := by decide +kernel
theorem dX8_other_175 : decode cX8_other 175 = .ok (.invokevirtual 280, 3) := by decide +kernel
theorem dX8_other_178 : decode cX8_other 178 = .ok (.i2l, 1) := by decide +kernel
theorem dX8_other_179 : decode cX8_other 179 = .ok (.ldiv, 1) := by decide +kernel
theorem dX8_other_180 : decode cX8_other 180 = .ok (.ladd, 1) := by decide +kernel
theorem dX8_other_181 : decode cX8_other 181 = .ok (.lstore 5, 2) := by decide +kernel
theorem dX8_other_183 : decode cX8_other 183 = .ok (.iinc 7 1, 3) := by decide +kernel
theorem dX8_other_186 : decode cX8_other 186 = .ok (.goto (-130), 3) := by decide +kernel
theorem dX8_other_189 : decode cX8_other 189 = .ok (.lload 5, 2) := by decide +kernel
theorem dX8_other_191 : decode cX8_other 191 = .ok (.aload_n 0, 1) := by decide +kernel
theorem dX8_other_192 : decode cX8_other 192 = .ok (.iload_n 3, 1) := by decide +kernel
theorem dX8_other_193 : decode cX8_other 193 = .ok (.iconst 1, 1) := by decide +kernel
theorem dX8_other_194 : decode cX8_other 194 = .ok (.invokevirtual 296, 3) := by decide +kernel
theorem dX8_other_197 : decode cX8_other 197 = .ok (.iload_n 2, 1) := by decide +kernel
theorem dX8_other_198 : decode cX8_other 198 = .ok (.invokestatic 299, 3) := by decide +kernel
theorem dX8_other_201 : decode cX8_other 201 = .ok (.lreturn, 1) := by decide +kernel
theorem dX8_isShown_0 : decode cX8_isShown 0 = .ok (.iload_n 0, 1) := by decide +kernel
theorem dX8_isShown_1 : decode cX8_isShown 1 = .ok (.ifCond .lt 29, 3) := by decide +kernel
theorem dX8_isShown_4 : decode cX8_isShown 4 = .ok (.iload_n 0, 1) := by decide +kernel
theorem dX8_isShown_5 : decode cX8_isShown 5 = .ok (.bipush 10, 2) := by decide +kernel
theorem dX8_isShown_7 : decode cX8_isShown 7 = .ok (.idiv, 1) := by decide +kernel
theorem dX8_isShown_8 : decode cX8_isShown 8 = .ok (.invokestatic 152, 3) := by decide +kernel
theorem dX8_isShown_11 : decode cX8_isShown 11 = .ok (.ifCond .eq 19, 3) := by decide +kernel
theorem dX8_isShown_14 : decode cX8_isShown 14 = .ok (.iload_n 0, 1) := by decide +kernel
theorem dX8_isShown_15 : decode cX8_isShown 15 = .ok (.bipush 10, 2) := by decide +kernel
theorem dX8_isShown_17 : decode cX8_isShown 17 = .ok (.irem, 1) := by decide +kernel
theorem dX8_isShown_18 : decode cX8_isShown 18 = .ok (.iconst 1, 1) := by decide +kernel
theorem dX8_isShown_19 : decode cX8_isShown 19 = .ok (.iconst 4, 1) := by decide +kernel
theorem dX8_isShown_20 : decode cX8_isShown 20 = .ok (.invokestatic 148, 3) := by decide +kernel
theorem dX8_isShown_23 : decode cX8_isShown 23 = .ok (.ifCond .eq 7, 3) := by decide +kernel
theorem dX8_isShown_26 : decode cX8_isShown 26 = .ok (.iconst 1, 1) := by decide +kernel
theorem dX8_isShown_27 : decode cX8_isShown 27 = .ok (.goto 4, 3) := by decide +kernel
theorem dX8_isShown_30 : decode cX8_isShown 30 = .ok (.iconst 0, 1) := by decide +kernel
theorem dX8_isShown_31 : decode cX8_isShown 31 = .ok (.ireturn, 1) := by decide +kernel
theorem dX8_which_0 : decode cX8_which 0 = .ok (.aload_n 0, 1) := by decide +kernel
theorem dX8_which_1 : decode cX8_which 1 = .ok (.iload_n 1, 1) := by decide +kernel
theorem dX8_which_2 : decode cX8_which 2 = .ok (.invokevirtual 182, 3) := by decide +kernel
theorem dX8_which_5 : decode cX8_which 5 = .ok (.ifCond .eq 17, 3) := by decide +kernel
theorem dX8_which_8 : decode cX8_which 8 = .ok (.iload_n 2, 1) := by decide +kernel
theorem dX8_which_9 : decode cX8_which 9 = .ok (.invokestatic 303, 3) := by decide +kernel
theorem dX8_which_12 : decode cX8_which 12 = .ok (.ifCond .eq 10, 3) := by decide +kernel
theorem dX8_which_15 : decode cX8_which 15 = .ok (.iload_n 3, 1) := by decide +kernel
theorem dX8_which_16 : decode cX8_which 16 = .ok (.invokestatic 291, 3) := by decide +kernel
theorem dX8_which_19 : decode cX8_which 19 = .ok (.ifCond .ne 7, 3) := by decide +kernel
theorem dX8_which_22 : decode cX8_which 22 = .ok (.ldc2_w 294, 3) := by decide +kernel
theorem dX8_which_25 : decode cX8_which 25 = .ok (.lreturn, 1) := by decide +kernel
theorem dX8_which_26 : decode cX8_which 26 = .ok (.aload_n 0, 1) := by decide +kernel
theorem dX8_which_27 : decode cX8_which 27 = .ok (.invokevirtual 275, 3) := by decide +kernel
theorem dX8_which_30 : decode cX8_which 30 = .ok (.aload_n 0, 1) := by decide +kernel
theorem dX8_which_31 : decode cX8_which 31 = .ok (.getfield 9, 3) := by decide +kernel
theorem dX8_which_34 : decode cX8_which 34 = .ok (.iload_n 1, 1) := by decide +kernel
theorem dX8_which_35 : decode cX8_which 35 = .ok (.iaload, 1) := by decide +kernel
theorem dX8_which_36 : decode cX8_which 36 = .ok (.i2l, 1) := by decide +kernel
theorem dX8_which_37 : decode cX8_which 37 = .ok (.aload_n 0, 1) := by decide +kernel
theorem dX8_which_38 : decode cX8_which 38 = .ok (.iload_n 1, 1) := by decide +kernel
theorem dX8_which_39 : decode cX8_which 39 = .ok (.iload_n 2, 1) := by decide +kernel
theorem dX8_which_40 : decode cX8_which 40 = .ok (.bipush 10, 2) := by decide +kernel
theorem dX8_which_42 : decode cX8_which 42 = .ok (.idiv, 1) := by decide +kernel
theorem dX8_which_43 : decode cX8_which 43 = .ok (.invokevirtual 283, 3) := by decide +kernel
theorem dX8_which_46 : decode cX8_which 46 = .ok (.iload_n 2, 1) := by decide +kernel
theorem dX8_which_47 : decode cX8_which 47 = .ok (.bipush 10, 2) := by decide +kernel
theorem dX8_which_49 : decode cX8_which 49 = .ok (.irem, 1) := by decide +kernel
theorem dX8_which_50 : decode cX8_which 50 = .ok (.invokestatic 287, 3) := by decide +kernel
theorem dX8_which_53 : decode cX8_which 53 = .ok (.lmul, 1) := by decide +kernel
theorem dX8_which_54 : decode cX8_which 54 = .ok (.aload_n 0, 1) := by decide +kernel
theorem dX8_which_55 : decode cX8_which 55 = .ok (.iload_n 2, 1) := by decide +kernel
theorem dX8_which_56 : decode cX8_which 56 = .ok (.bipush 10, 2) := by decide +kernel
theorem dX8_which_58 : decode cX8_which 58 = .ok (.idiv, 1) := by decide +kernel
theorem dX8_which_59 : decode cX8_which 59 = .ok (.iload_n 2, 1) := by decide +kernel
theorem dX8_which_60 : decode cX8_which 60 = .ok (.bipush 10, 2) := by decide +kernel
theorem dX8_which_62 : decode cX8_which 62 = .ok (.irem, 1) := by decide +kernel
theorem dX8_which_63 : decode cX8_which 63 = .ok (.invokevirtual 296, 3) := by decide +kernel
theorem dX8_which_66 : decode cX8_which 66 = .ok (.iload_n 3, 1) := by decide +kernel
theorem dX8_which_67 : decode cX8_which 67 = .ok (.invokestatic 299, 3) := by decide +kernel
theorem dX8_which_70 : decode cX8_which 70 = .ok (.lreturn, 1) := by decide +kernel
theorem dX8_again_0 : decode cX8_again 0 = .ok (.iload_n 1, 1) := by decide +kernel
theorem dX8_again_1 : decode cX8_again 1 = .ok (.invokestatic 303, 3) := by decide +kernel
theorem dX8_again_4 : decode cX8_again 4 = .ok (.ifCond .eq 10, 3) := by decide +kernel
theorem dX8_again_7 : decode cX8_again 7 = .ok (.iload_n 2, 1) := by decide +kernel
theorem dX8_again_8 : decode cX8_again 8 = .ok (.invokestatic 291, 3) := by decide +kernel
theorem dX8_again_11 : decode cX8_again 11 = .ok (.ifCond .ne 7, 3) := by decide +kernel
theorem dX8_again_14 : decode cX8_again 14 = .ok (.ldc2_w 294, 3) := by decide +kernel
theorem dX8_again_17 : decode cX8_again 17 = .ok (.lreturn, 1) := by decide +kernel
theorem dX8_again_18 : decode cX8_again 18 = .ok (.aload_n 0, 1) := by decide +kernel
theorem dX8_again_19 : decode cX8_again 19 = .ok (.invokevirtual 275, 3) := by decide +kernel
theorem dX8_again_22 : decode cX8_again 22 = .ok (.aload_n 0, 1) := by decide +kernel
theorem dX8_again_23 : decode cX8_again 23 = .ok (.iload_n 1, 1) := by decide +kernel
theorem dX8_again_24 : decode cX8_again 24 = .ok (.bipush 10, 2) := by decide +kernel
theorem dX8_again_26 : decode cX8_again 26 = .ok (.idiv, 1) := by decide +kernel
theorem dX8_again_27 : decode cX8_again 27 = .ok (.iload_n 1, 1) := by decide +kernel
theorem dX8_again_28 : decode cX8_again 28 = .ok (.bipush 10, 2) := by decide +kernel
theorem dX8_again_30 : decode cX8_again 30 = .ok (.irem, 1) := by decide +kernel
theorem dX8_again_31 : decode cX8_again 31 = .ok (.iconst 1, 1) := by decide +kernel
theorem dX8_again_32 : decode cX8_again 32 = .ok (.iadd, 1) := by decide +kernel
theorem dX8_again_33 : decode cX8_again 33 = .ok (.invokevirtual 296, 3) := by decide +kernel
theorem dX8_again_36 : decode cX8_again 36 = .ok (.ldc2_w 278, 3) := by decide +kernel
theorem dX8_again_39 : decode cX8_again 39 = .ok (.aload_n 0, 1) := by decide +kernel
theorem dX8_again_40 : decode cX8_again 40 = .ok (.iload_n 1, 1) := by decide +kernel
theorem dX8_again_41 : decode cX8_again 41 = .ok (.bipush 10, 2) := by decide +kernel
theorem dX8_again_43 : decode cX8_again 43 = .ok (.idiv, 1) := by decide +kernel
theorem dX8_again_44 : decode cX8_again 44 = .ok (.iload_n 1, 1) := by decide +kernel
theorem dX8_again_45 : decode cX8_again 45 = .ok (.bipush 10, 2) := by decide +kernel
theorem dX8_again_47 : decode cX8_again 47 = .ok (.irem, 1) := by decide +kernel
theorem dX8_again_48 : decode cX8_again 48 = .ok (.invokevirtual 296, 3) := by decide +kernel
theorem dX8_again_51 : decode cX8_again 51 = .ok (.lmul, 1) := by decide +kernel
theorem dX8_again_52 : decode cX8_again 52 = .ok (.iload_n 2, 1) := by decide +kernel
theorem dX8_again_53 : decode cX8_again 53 = .ok (.invokestatic 299, 3) := by decide +kernel
theorem dX8_again_56 : decode cX8_again 56 = .ok (.lreturn, 1) := by decide +kernel
theorem dX8_rowFault_0 : decode cX8_rowFault 0 = .ok (.aload_n 0, 1) := by decide +kernel
theorem dX8_rowFault_1 : decode cX8_rowFault 1 = .ok (.getfield 129, 3) := by decide +kernel
theorem dX8_rowFault_4 : decode cX8_rowFault 4 = .ok (.iload_n 1, 1) := by decide +kernel
theorem dX8_rowFault_5 : decode cX8_rowFault 5 = .ok (.iaload, 1) := by decide +kernel
theorem dX8_rowFault_6 : decode cX8_rowFault 6 = .ok (.iconst (-1), 1) := by decide +kernel
theorem dX8_rowFault_7 : decode cX8_rowFault 7 = .ok (.if_icmp .ne 8, 3) := by decide +kernel
theorem dX8_rowFault_10 : decode cX8_rowFault 10 = .ok (.bipush (-11), 2) := by decide +kernel
theorem dX8_rowFault_12 : decode cX8_rowFault 12 = .ok (.goto 20, 3) := by decide +kernel
theorem dX8_rowFault_15 : decode cX8_rowFault 15 = .ok (.aload_n 0, 1) := by decide +kernel
theorem dX8_rowFault_16 : decode cX8_rowFault 16 = .ok (.getfield 129, 3) := by decide +kernel
theorem dX8_rowFault_19 : decode cX8_rowFault 19 = .ok (.iload_n 1, 1) := by decide +kernel
theorem dX8_rowFault_20 : decode cX8_rowFault 20 = .ok (.iaload, 1) := by decide +kernel
theorem dX8_rowFault_21 : decode cX8_rowFault 21 = .ok (.bipush (-2), 2) := by decide +kernel
theorem dX8_rowFault_23 : decode cX8_rowFault 23 = .ok (.if_icmp .ne 7, 3) := by decide +kernel
theorem dX8_rowFault_26 : decode cX8_rowFault 26 = .ok (.iconst 0, 1) := by decide +kernel
theorem dX8_rowFault_27 : decode cX8_rowFault 27 = .ok (.goto 5, 3) := by decide +kernel
theorem dX8_rowFault_30 : decode cX8_rowFault 30 = .ok (.bipush (-12), 2) := by decide +kernel
theorem dX8_rowFault_32 : decode cX8_rowFault 32 = .ok (.ireturn, 1) := by decide +kernel
theorem dX8_byteAt_0 : decode cX8_byteAt 0 = .ok (.aload_n 0, 1) := by decide +kernel
theorem dX8_byteAt_1 : decode cX8_byteAt 1 = .ok (.getfield 135, 3) := by decide +kernel
theorem dX8_byteAt_4 : decode cX8_byteAt 4 = .ok (.bipush 60, 2) := by decide +kernel
theorem dX8_byteAt_6 : decode cX8_byteAt 6 = .ok (.iload_n 1, 1) := by decide +kernel
theorem dX8_byteAt_7 : decode cX8_byteAt 7 = .ok (.imul, 1) := by decide +kernel
theorem dX8_byteAt_8 : decode cX8_byteAt 8 = .ok (.iload_n 2, 1) := by decide +kernel
theorem dX8_byteAt_9 : decode cX8_byteAt 9 = .ok (.iadd, 1) := by decide +kernel
theorem dX8_byteAt_10 : decode cX8_byteAt 10 = .ok (.laload, 1) := by decide +kernel
theorem dX8_byteAt_11 : decode cX8_byteAt 11 = .ok (.l2i, 1) := by decide +kernel
theorem dX8_byteAt_12 : decode cX8_byteAt 12 = .ok (.ireturn, 1) := by decide +kernel
theorem dX8_rowShows_0 : decode cX8_rowShows 0 = .ok (.aload_n 0, 1) := by decide +kernel
theorem dX8_rowShows_1 : decode cX8_rowShows 1 = .ok (.invokevirtual 275, 3) := by decide +kernel
theorem dX8_rowShows_4 : decode cX8_rowShows 4 = .ok (.lconst 1, 1) := by decide +kernel
theorem dX8_rowShows_5 : decode cX8_rowShows 5 = .ok (.lstore_n 2, 1) := by decide +kernel
theorem dX8_rowShows_6 : decode cX8_rowShows 6 = .ok (.iconst 0, 1) := by decide +kernel
theorem dX8_rowShows_7 : decode cX8_rowShows 7 = .ok (.istore 4, 2) := by decide +kernel
theorem dX8_rowShows_9 : decode cX8_rowShows 9 = .ok (.iload 4, 2) := by decide +kernel
theorem dX8_rowShows_11 : decode cX8_rowShows 11 = .ok (.aload_n 0, 1) := by decide +kernel
theorem dX8_rowShows_12 : decode cX8_rowShows 12 = .ok (.getfield 132, 3) := by decide +kernel
theorem dX8_rowShows_15 : decode cX8_rowShows 15 = .ok (.iload_n 1, 1) := by decide +kernel
theorem dX8_rowShows_16 : decode cX8_rowShows 16 = .ok (.iaload, 1) := by decide +kernel
theorem dX8_rowShows_17 : decode cX8_rowShows 17 = .ok (.if_icmp .ge 24, 3) := by decide +kernel
theorem dX8_rowShows_20 : decode cX8_rowShows 20 = .ok (.lload_n 2, 1) := by decide +kernel
theorem dX8_rowShows_21 : decode cX8_rowShows 21 = .ok (.aload_n 0, 1) := by decide +kernel
theorem dX8_rowShows_22 : decode cX8_rowShows 22 = .ok (.aload_n 0, 1) := by decide +kernel
theorem dX8_rowShows_23 : decode cX8_rowShows 23 = .ok (.iload_n 1, 1) := by decide +kernel
theorem dX8_rowShows_24 : decode cX8_rowShows 24 = .ok (.iload 4, 2) := by decide +kernel
theorem dX8_rowShows_26 : decode cX8_rowShows 26 = .ok (.invokevirtual 306, 3) := by decide +kernel
theorem dX8_rowShows_29 : decode cX8_rowShows 29 = .ok (.iconst 1, 1) := by decide +kernel
theorem dX8_rowShows_30 : decode cX8_rowShows 30 = .ok (.invokevirtual 296, 3) := by decide +kernel
theorem dX8_rowShows_33 : decode cX8_rowShows 33 = .ok (.lmul, 1) := by decide +kernel
theorem dX8_rowShows_34 : decode cX8_rowShows 34 = .ok (.lstore_n 2, 1) := by decide +kernel
theorem dX8_rowShows_35 : decode cX8_rowShows 35 = .ok (.iinc 4 1, 3) := by decide +kernel
theorem dX8_rowShows_38 : decode cX8_rowShows 38 = .ok (.goto (-29), 3) := by decide +kernel
theorem dX8_rowShows_41 : decode cX8_rowShows 41 = .ok (.lload_n 2, 1) := by decide +kernel
theorem dX8_rowShows_42 : decode cX8_rowShows 42 = .ok (.lreturn, 1) := by decide +kernel
theorem dX8_cheated_0 : decode cX8_cheated 0 = .ok (.iload_n 1, 1) := by decide +kernel
theorem dX8_cheated_1 : decode cX8_cheated 1 = .ok (.invokestatic 163, 3) := by decide +kernel
theorem dX8_cheated_4 : decode cX8_cheated 4 = .ok (.ifCond .ne 5, 3) := by decide +kernel
theorem dX8_cheated_7 : decode cX8_cheated 7 = .ok (.iconst (-1), 1) := by decide +kernel
theorem dX8_cheated_8 : decode cX8_cheated 8 = .ok (.ireturn, 1) := by decide +kernel
theorem dX8_cheated_9 : decode cX8_cheated 9 = .ok (.aload_n 0, 1) := by decide +kernel
theorem dX8_cheated_10 : decode cX8_cheated 10 = .ok (.iload_n 1, 1) := by decide +kernel
theorem dX8_cheated_11 : decode cX8_cheated 11 = .ok (.invokevirtual 309, 3) := by decide +kernel
theorem dX8_cheated_14 : decode cX8_cheated 14 = .ok (.ifCond .ge 9, 3) := by decide +kernel
theorem dX8_cheated_17 : decode cX8_cheated 17 = .ok (.aload_n 0, 1) := by decide +kernel
theorem dX8_cheated_18 : decode cX8_cheated 18 = .ok (.iload_n 1, 1) := by decide +kernel
theorem dX8_cheated_19 : decode cX8_cheated 19 = .ok (.invokevirtual 309, 3) := by decide +kernel
theorem dX8_cheated_22 : decode cX8_cheated 22 = .ok (.ireturn, 1) := by decide +kernel
theorem dX8_cheated_23 : decode cX8_cheated 23 = .ok (.aload_n 0, 1) := by decide +kernel
theorem dX8_cheated_24 : decode cX8_cheated 24 = .ok (.getfield 132, 3) := by decide +kernel
theorem dX8_cheated_27 : decode cX8_cheated 27 = .ok (.iload_n 1, 1) := by decide +kernel
theorem dX8_cheated_28 : decode cX8_cheated 28 = .ok (.iaload, 1) := by decide +kernel
theorem dX8_cheated_29 : decode cX8_cheated 29 = .ok (.iconst 3, 1) := by decide +kernel
theorem dX8_cheated_30 : decode cX8_cheated 30 = .ok (.if_icmp .le 5, 3) := by decide +kernel
theorem dX8_cheated_33 : decode cX8_cheated 33 = .ok (.iconst (-1), 1) := by decide +kernel
theorem dX8_cheated_34 : decode cX8_cheated 34 = .ok (.ireturn, 1) := by decide +kernel
theorem dX8_cheated_35 : decode cX8_cheated 35 = .ok (.iconst 0, 1) := by decide +kernel
theorem dX8_cheated_36 : decode cX8_cheated 36 = .ok (.istore_n 2, 1) := by decide +kernel
theorem dX8_cheated_37 : decode cX8_cheated 37 = .ok (.iload_n 2, 1) := by decide +kernel
theorem dX8_cheated_38 : decode cX8_cheated 38 = .ok (.aload_n 0, 1) := by decide +kernel
theorem dX8_cheated_39 : decode cX8_cheated 39 = .ok (.getfield 132, 3) := by decide +kernel
theorem dX8_cheated_42 : decode cX8_cheated 42 = .ok (.iload_n 1, 1) := by decide +kernel
theorem dX8_cheated_43 : decode cX8_cheated 43 = .ok (.iaload, 1) := by decide +kernel
theorem dX8_cheated_44 : decode cX8_cheated 44 = .ok (.if_icmp .ge 23, 3) := by decide +kernel
theorem dX8_cheated_47 : decode cX8_cheated 47 = .ok (.aload_n 0, 1) := by decide +kernel
theorem dX8_cheated_48 : decode cX8_cheated 48 = .ok (.iload_n 1, 1) := by decide +kernel
theorem dX8_cheated_49 : decode cX8_cheated 49 = .ok (.iload_n 2, 1) := by decide +kernel
theorem dX8_cheated_50 : decode cX8_cheated 50 = .ok (.invokevirtual 306, 3) := by decide +kernel
theorem dX8_cheated_53 : decode cX8_cheated 53 = .ok (.invokestatic 152, 3) := by decide +kernel
theorem dX8_cheated_56 : decode cX8_cheated 56 = .ok (.ifCond .ne 5, 3) := by decide +kernel
theorem dX8_cheated_59 : decode cX8_cheated 59 = .ok (.iconst (-1), 1) := by decide +kernel
theorem dX8_cheated_60 : decode cX8_cheated 60 = .ok (.ireturn, 1) := by decide +kernel
theorem dX8_cheated_61 : decode cX8_cheated 61 = .ok (.iinc 2 1, 3) := by decide +kernel
theorem dX8_cheated_64 : decode cX8_cheated 64 = .ok (.goto (-27), 3) := by decide +kernel
theorem dX8_cheated_67 : decode cX8_cheated 67 = .ok (.aload_n 0, 1) := by decide +kernel
theorem dX8_cheated_68 : decode cX8_cheated 68 = .ok (.iload_n 1, 1) := by decide +kernel
theorem dX8_cheated_69 : decode cX8_cheated 69 = .ok (.invokevirtual 312, 3) := by decide +kernel
theorem dX8_cheated_72 : decode cX8_cheated 72 = .ok (.lstore_n 2, 1) := by decide +kernel
theorem dX8_cheated_73 : decode cX8_cheated 73 = .ok (.aload_n 0, 1) := by decide +kernel
theorem dX8_cheated_74 : decode cX8_cheated 74 = .ok (.invokevirtual 196, 3) := by decide +kernel
theorem dX8_cheated_77 : decode cX8_cheated 77 = .ok (.istore 4, 2) := by decide +kernel
theorem dX8_cheated_79 : decode cX8_cheated 79 = .ok (.bipush (-2), 2) := by decide +kernel
theorem dX8_cheated_81 : decode cX8_cheated 81 = .ok (.istore 5, 2) := by decide +kernel
theorem dX8_cheated_83 : decode cX8_cheated 83 = .ok (.lconst 0, 1) := by decide +kernel
theorem dX8_cheated_84 : decode cX8_cheated 84 = .ok (.lstore 6, 2) := by decide +kernel
theorem dX8_cheated_86 : decode cX8_cheated 86 = .ok (.iconst 0, 1) := by decide +kernel
theorem dX8_cheated_87 : decode cX8_cheated 87 = .ok (.istore 8, 2) := by decide +kernel
theorem dX8_cheated_89 : decode cX8_cheated 89 = .ok (.iload 8, 2) := by decide +kernel
theorem dX8_cheated_91 : decode cX8_cheated 91 = .ok (.aload_n 0, 1) := by decide +kernel
theorem dX8_cheated_92 : decode cX8_cheated 92 = .ok (.getfield 145, 3) := by decide +kernel
theorem dX8_cheated_95 : decode cX8_cheated 95 = .ok (.if_icmp .ge 118, 3) := by decide +kernel
theorem dX8_cheated_98 : decode cX8_cheated 98 = .ok (.aload_n 0, 1) := by decide +kernel
theorem dX8_cheated_99 : decode cX8_cheated 99 = .ok (.getfield 9, 3) := by decide +kernel
theorem dX8_cheated_102 : decode cX8_cheated 102 = .ok (.iload 8, 2) := by decide +kernel
theorem dX8_cheated_104 : decode cX8_cheated 104 = .ok (.dup2, 1) := by decide +kernel
theorem dX8_cheated_105 : decode cX8_cheated 105 = .ok (.iaload, 1) := by decide +kernel
theorem dX8_cheated_106 : decode cX8_cheated 106 = .ok (.iconst 1, 1) := by decide +kernel
theorem dX8_cheated_107 : decode cX8_cheated 107 = .ok (.iadd, 1) := by decide +kernel
theorem dX8_cheated_108 : decode cX8_cheated 108 = .ok (.iastore, 1) := by decide +kernel
theorem dX8_cheated_109 : decode cX8_cheated 109 = .ok (.aload_n 0, 1) := by decide +kernel
theorem dX8_cheated_110 : decode cX8_cheated 110 = .ok (.iload_n 1, 1) := by decide +kernel
theorem dX8_cheated_111 : decode cX8_cheated 111 = .ok (.invokevirtual 312, 3) := by decide +kernel
theorem dX8_cheated_114 : decode cX8_cheated 114 = .ok (.lstore 9, 2) := by decide +kernel
theorem dX8_cheated_116 : decode cX8_cheated 116 = .ok (.aload_n 0, 1) := by decide +kernel
theorem dX8_cheated_117 : decode cX8_cheated 117 = .ok (.getfield 9, 3) := by decide +kernel
theorem dX8_cheated_120 : decode cX8_cheated 120 = .ok (.iload 8, 2) := by decide +kernel
theorem dX8_cheated_122 : decode cX8_cheated 122 = .ok (.dup2, 1) := by decide +kernel
theorem dX8_cheated_123 : decode cX8_cheated 123 = .ok (.iaload, 1) := by decide +kernel
theorem dX8_cheated_124 : decode cX8_cheated 124 = .ok (.iconst 1, 1) := by decide +kernel
theorem dX8_cheated_125 : decode cX8_cheated 125 = .ok (.isub, 1) := by decide +kernel
theorem dX8_cheated_126 : decode cX8_cheated 126 = .ok (.iastore, 1) := by decide +kernel
theorem dX8_cheated_127 : decode cX8_cheated 127 = .ok (.lload 9, 2) := by decide +kernel
theorem dX8_cheated_129 : decode cX8_cheated 129 = .ok (.iload 4, 2) := by decide +kernel
theorem dX8_cheated_131 : decode cX8_cheated 131 = .ok (.i2l, 1) := by decide +kernel
theorem dX8_cheated_132 : decode cX8_cheated 132 = .ok (.aload_n 0, 1) := by decide +kernel
theorem dX8_cheated_133 : decode cX8_cheated 133 = .ok (.getfield 132, 3) := by decide +kernel
theorem dX8_cheated_136 : decode cX8_cheated 136 = .ok (.iload_n 1, 1) := by decide +kernel
theorem dX8_cheated_137 : decode cX8_cheated 137 = .ok (.iaload, 1) := by decide +kernel
theorem dX8_cheated_138 : decode cX8_cheated 138 = .ok (.invokestatic 287, 3) := by decide +kernel
theorem dX8_cheated_141 : decode cX8_cheated 141 = .ok (.lmul, 1) := by decide +kernel
theorem dX8_cheated_142 : decode cX8_cheated 142 = .ok (.lload_n 2, 1) := by decide +kernel
theorem dX8_cheated_143 : decode cX8_cheated 143 = .ok (.iload 4, 2) := by decide +kernel
theorem dX8_cheated_145 : decode cX8_cheated 145 = .ok (.iconst 1, 1) := by decide +kernel
theorem dX8_cheated_146 : decode cX8_cheated 146 = .ok (.iadd, 1) := by decide +kernel
theorem dX8_cheated_147 : decode cX8_cheated 147 = .ok (.i2l, 1) := by decide +kernel
theorem dX8_cheated_148 : decode cX8_cheated 148 = .ok (.aload_n 0, 1) := by decide +kernel
theorem dX8_cheated_149 : decode cX8_cheated 149 = .ok (.getfield 132, 3) := by decide +kernel
theorem dX8_cheated_152 : decode cX8_cheated 152 = .ok (.iload_n 1, 1) := by decide +kernel
theorem dX8_cheated_153 : decode cX8_cheated 153 = .ok (.iaload, 1) := by decide +kernel
theorem dX8_cheated_154 : decode cX8_cheated 154 = .ok (.invokestatic 287, 3) := by decide +kernel
theorem dX8_cheated_157 : decode cX8_cheated 157 = .ok (.lmul, 1) := by decide +kernel
theorem dX8_cheated_158 : decode cX8_cheated 158 = .ok (.lcmp, 1) := by decide +kernel
theorem dX8_cheated_159 : decode cX8_cheated 159 = .ok (.ifCond .gt 24, 3) := by decide +kernel
theorem dX8_cheated_162 : decode cX8_cheated 162 = .ok (.iload 4, 2) := by decide +kernel
theorem dX8_cheated_164 : decode cX8_cheated 164 = .ok (.ifCond .ne 43, 3) := by decide +kernel
theorem dX8_cheated_167 : decode cX8_cheated 167 = .ok (.aload_n 0, 1) := by decide +kernel
theorem dX8_cheated_168 : decode cX8_cheated 168 = .ok (.getfield 132, 3) := by decide +kernel
theorem dX8_cheated_171 : decode cX8_cheated 171 = .ok (.iload_n 1, 1) := by decide +kernel
theorem dX8_cheated_172 : decode cX8_cheated 172 = .ok (.iaload, 1) := by decide +kernel
theorem dX8_cheated_173 : decode cX8_cheated 173 = .ok (.ifCond .le 34, 3) := by decide +kernel
theorem dX8_cheated_176 : decode cX8_cheated 176 = .ok (.lload 9, 2) := by decide +kernel
theorem dX8_cheated_178 : decode cX8_cheated 178 = .ok (.lconst 0, 1) := by decide +kernel
theorem dX8_cheated_179 : decode cX8_cheated 179 = .ok (.lcmp, 1) := by decide +kernel
theorem dX8_cheated_180 : decode cX8_cheated 180 = .ok (.ifCond .le 27, 3) := by decide +kernel
theorem dX8_cheated_183 : decode cX8_cheated 183 = .ok (.iload 5, 2) := by decide +kernel
theorem dX8_cheated_185 : decode cX8_cheated 185 = .ok (.ifCond .lt 14, 3) := by decide +kernel
theorem dX8_cheated_188 : decode cX8_cheated 188 = .ok (.lload 9, 2) := by decide +kernel
theorem dX8_cheated_190 : decode cX8_cheated 190 = .ok (.lload 6, 2) := by decide +kernel
theorem dX8_cheated_192 : decode cX8_cheated 192 = .ok (.lcmp, 1) := by decide +kernel
theorem dX8_cheated_193 : decode cX8_cheated 193 = .ok (.ifCond .gt 6, 3) := by decide +kernel
theorem dX8_cheated_196 : decode cX8_cheated 196 = .ok (.goto 11, 3) := by decide +kernel
theorem dX8_cheated_199 : decode cX8_cheated 199 = .ok (.iload 8, 2) := by decide +kernel
theorem dX8_cheated_201 : decode cX8_cheated 201 = .ok (.istore 5, 2) := by decide +kernel
theorem dX8_cheated_203 : decode cX8_cheated 203 = .ok (.lload 9, 2) := by decide +kernel
theorem dX8_cheated_205 : decode cX8_cheated 205 = .ok (.lstore 6, 2) := by decide +kernel
theorem dX8_cheated_207 : decode cX8_cheated 207 = .ok (.iinc 8 1, 3) := by decide +kernel
theorem dX8_cheated_210 : decode cX8_cheated 210 = .ok (.goto (-121), 3) := by decide +kernel
theorem dX8_cheated_213 : decode cX8_cheated 213 = .ok (.iload 5, 2) := by decide +kernel
theorem dX8_cheated_215 : decode cX8_cheated 215 = .ok (.ireturn, 1) := by decide +kernel
theorem dX8_judge_0 : decode cX8_judge 0 = .ok (.iload_n 1, 1) := by decide +kernel
theorem dX8_judge_1 : decode cX8_judge 1 = .ok (.invokestatic 163, 3) := by decide +kernel
theorem dX8_judge_4 : decode cX8_judge 4 = .ok (.ifCond .ne 5, 3) := by decide +kernel
theorem dX8_judge_7 : decode cX8_judge 7 = .ok (.iconst (-1), 1) := by decide +kernel
theorem dX8_judge_8 : decode cX8_judge 8 = .ok (.ireturn, 1) := by decide +kernel
theorem dX8_judge_9 : decode cX8_judge 9 = .ok (.aload_n 0, 1) := by decide +kernel
theorem dX8_judge_10 : decode cX8_judge 10 = .ok (.iload_n 1, 1) := by decide +kernel
theorem dX8_judge_11 : decode cX8_judge 11 = .ok (.invokevirtual 309, 3) := by decide +kernel
theorem dX8_judge_14 : decode cX8_judge 14 = .ok (.ifCond .ge 9, 3) := by decide +kernel
theorem dX8_judge_17 : decode cX8_judge 17 = .ok (.aload_n 0, 1) := by decide +kernel
theorem dX8_judge_18 : decode cX8_judge 18 = .ok (.iload_n 1, 1) := by decide +kernel
theorem dX8_judge_19 : decode cX8_judge 19 = .ok (.invokevirtual 309, 3) := by decide +kernel
theorem dX8_judge_22 : decode cX8_judge 22 = .ok (.ireturn, 1) := by decide +kernel
theorem dX8_judge_23 : decode cX8_judge 23 = .ok (.aload_n 0, 1) := by decide +kernel
theorem dX8_judge_24 : decode cX8_judge 24 = .ok (.invokevirtual 275, 3) := by decide +kernel
theorem dX8_judge_27 : decode cX8_judge 27 = .ok (.iconst 0, 1) := by decide +kernel
theorem dX8_judge_28 : decode cX8_judge 28 = .ok (.istore_n 2, 1) := by decide +kernel
theorem dX8_judge_29 : decode cX8_judge 29 = .ok (.iload_n 2, 1) := by decide +kernel
theorem dX8_judge_30 : decode cX8_judge 30 = .ok (.aload_n 0, 1) := by decide +kernel
theorem dX8_judge_31 : decode cX8_judge 31 = .ok (.getfield 132, 3) := by decide +kernel
theorem dX8_judge_34 : decode cX8_judge 34 = .ok (.iload_n 1, 1) := by decide +kernel
theorem dX8_judge_35 : decode cX8_judge 35 = .ok (.iaload, 1) := by decide +kernel
theorem dX8_judge_36 : decode cX8_judge 36 = .ok (.if_icmp .ge 39, 3) := by decide +kernel
theorem dX8_judge_39 : decode cX8_judge 39 = .ok (.aload_n 0, 1) := by decide +kernel
theorem dX8_judge_40 : decode cX8_judge 40 = .ok (.iload_n 1, 1) := by decide +kernel
theorem dX8_judge_41 : decode cX8_judge 41 = .ok (.iload_n 2, 1) := by decide +kernel
theorem dX8_judge_42 : decode cX8_judge 42 = .ok (.invokevirtual 306, 3) := by decide +kernel
theorem dX8_judge_45 : decode cX8_judge 45 = .ok (.invokestatic 152, 3) := by decide +kernel
theorem dX8_judge_48 : decode cX8_judge 48 = .ok (.ifCond .eq 19, 3) := by decide +kernel
theorem dX8_judge_51 : decode cX8_judge 51 = .ok (.aload_n 0, 1) := by decide +kernel
theorem dX8_judge_52 : decode cX8_judge 52 = .ok (.aload_n 0, 1) := by decide +kernel
theorem dX8_judge_53 : decode cX8_judge 53 = .ok (.iload_n 1, 1) := by decide +kernel
theorem dX8_judge_54 : decode cX8_judge 54 = .ok (.iload_n 2, 1) := by decide +kernel
theorem dX8_judge_55 : decode cX8_judge 55 = .ok (.invokevirtual 306, 3) := by decide +kernel
theorem dX8_judge_58 : decode cX8_judge 58 = .ok (.iconst 1, 1) := by decide +kernel
theorem dX8_judge_59 : decode cX8_judge 59 = .ok (.invokevirtual 296, 3) := by decide +kernel
theorem dX8_judge_62 : decode cX8_judge 62 = .ok (.lconst 0, 1) := by decide +kernel
theorem dX8_judge_63 : decode cX8_judge 63 = .ok (.lcmp, 1) := by decide +kernel
theorem dX8_judge_64 : decode cX8_judge 64 = .ok (.ifCond .ne 5, 3) := by decide +kernel
theorem dX8_judge_67 : decode cX8_judge 67 = .ok (.iload_n 2, 1) := by decide +kernel
theorem dX8_judge_68 : decode cX8_judge 68 = .ok (.ireturn, 1) := by decide +kernel
theorem dX8_judge_69 : decode cX8_judge 69 = .ok (.iinc 2 1, 3) := by decide +kernel
theorem dX8_judge_72 : decode cX8_judge 72 = .ok (.goto (-43), 3) := by decide +kernel
theorem dX8_judge_75 : decode cX8_judge 75 = .ok (.bipush (-2), 2) := by decide +kernel
theorem dX8_judge_77 : decode cX8_judge 77 = .ok (.ireturn, 1) := by decide +kernel
theorem dX8_lastRed_0 : decode cX8_lastRed 0 = .ok (.iload_n 2, 1) := by decide +kernel
theorem dX8_lastRed_1 : decode cX8_lastRed 1 = .ok (.ifCond .eq 7, 3) := by decide +kernel
theorem dX8_lastRed_4 : decode cX8_lastRed 4 = .ok (.lconst 1, 1) := by decide +kernel
theorem dX8_lastRed_5 : decode cX8_lastRed 5 = .ok (.goto 4, 3) := by decide +kernel
theorem dX8_lastRed_8 : decode cX8_lastRed 8 = .ok (.lconst 0, 1) := by decide +kernel
theorem dX8_lastRed_9 : decode cX8_lastRed 9 = .ok (.lstore_n 3, 1) := by decide +kernel
theorem dX8_lastRed_10 : decode cX8_lastRed 10 = .ok (.iload_n 2, 1) := by decide +kernel
theorem dX8_lastRed_11 : decode cX8_lastRed 11 = .ok (.ifCond .eq 7, 3) := by decide +kernel
theorem dX8_lastRed_14 : decode cX8_lastRed 14 = .ok (.lconst 0, 1) := by decide +kernel
theorem dX8_lastRed_15 : decode cX8_lastRed 15 = .ok (.goto 4, 3) := by decide +kernel
theorem dX8_lastRed_18 : decode cX8_lastRed 18 = .ok (.lconst 1, 1) := by decide +kernel
theorem dX8_lastRed_19 : decode cX8_lastRed 19 = .ok (.lstore 5, 2) := by decide +kernel
theorem dX8_lastRed_21 : decode cX8_lastRed 21 = .ok (.iconst 1, 1) := by decide +kernel
theorem dX8_lastRed_22 : decode cX8_lastRed 22 = .ok (.istore 7, 2) := by decide +kernel
theorem dX8_lastRed_24 : decode cX8_lastRed 24 = .ok (.iload 7, 2) := by decide +kernel
theorem dX8_lastRed_26 : decode cX8_lastRed 26 = .ok (.iload_n 1, 1) := by decide +kernel
theorem dX8_lastRed_27 : decode cX8_lastRed 27 = .ok (.if_icmp .gt 68, 3) := by decide +kernel
theorem dX8_lastRed_30 : decode cX8_lastRed 30 = .ok (.lload_n 3, 1) := by decide +kernel
theorem dX8_lastRed_31 : decode cX8_lastRed 31 = .ok (.aload_n 0, 1) := by decide +kernel
theorem dX8_lastRed_32 : decode cX8_lastRed 32 = .ok (.getfield 24, 3) := by decide +kernel
theorem dX8_lastRed_35 : decode cX8_lastRed 35 = .ok (.iload 7, 2) := by decide +kernel
theorem dX8_lastRed_37 : decode cX8_lastRed 37 = .ok (.iaload, 1) := by decide +kernel
theorem dX8_lastRed_38 : decode cX8_lastRed 38 = .ok (.iconst 1, 1) := by decide +kernel
theorem dX8_lastRed_39 : decode cX8_lastRed 39 = .ok (.iadd, 1) := by decide +kernel
theorem dX8_lastRed_40 : decode cX8_lastRed 40 = .ok (.i2l, 1) := by decide +kernel
theorem dX8_lastRed_41 : decode cX8_lastRed 41 = .ok (.lmul, 1) := by decide +kernel
theorem dX8_lastRed_42 : decode cX8_lastRed 42 = .ok (.lload 5, 2) := by decide +kernel
theorem dX8_lastRed_44 : decode cX8_lastRed 44 = .ok (.aload_n 0, 1) := by decide +kernel
theorem dX8_lastRed_45 : decode cX8_lastRed 45 = .ok (.getfield 24, 3) := by decide +kernel
theorem dX8_lastRed_48 : decode cX8_lastRed 48 = .ok (.iload 7, 2) := by decide +kernel
theorem dX8_lastRed_50 : decode cX8_lastRed 50 = .ok (.iaload, 1) := by decide +kernel
theorem dX8_lastRed_51 : decode cX8_lastRed 51 = .ok (.i2l, 1) := by decide +kernel
theorem dX8_lastRed_52 : decode cX8_lastRed 52 = .ok (.lmul, 1) := by decide +kernel
theorem dX8_lastRed_53 : decode cX8_lastRed 53 = .ok (.ladd, 1) := by decide +kernel
theorem dX8_lastRed_54 : decode cX8_lastRed 54 = .ok (.lstore 8, 2) := by decide +kernel
theorem dX8_lastRed_56 : decode cX8_lastRed 56 = .ok (.lload_n 3, 1) := by decide +kernel
theorem dX8_lastRed_57 : decode cX8_lastRed 57 = .ok (.aload_n 0, 1) := by decide +kernel
theorem dX8_lastRed_58 : decode cX8_lastRed 58 = .ok (.getfield 27, 3) := by decide +kernel
theorem dX8_lastRed_61 : decode cX8_lastRed 61 = .ok (.iload 7, 2) := by decide +kernel
theorem dX8_lastRed_63 : decode cX8_lastRed 63 = .ok (.iaload, 1) := by decide +kernel
theorem dX8_lastRed_64 : decode cX8_lastRed 64 = .ok (.i2l, 1) := by decide +kernel
theorem dX8_lastRed_65 : decode cX8_lastRed 65 = .ok (.lmul, 1) := by decide +kernel
theorem dX8_lastRed_66 : decode cX8_lastRed 66 = .ok (.lload 5, 2) := by decide +kernel
theorem dX8_lastRed_68 : decode cX8_lastRed 68 = .ok (.aload_n 0, 1) := by decide +kernel
theorem dX8_lastRed_69 : decode cX8_lastRed 69 = .ok (.getfield 27, 3) := by decide +kernel
theorem dX8_lastRed_72 : decode cX8_lastRed 72 = .ok (.iload 7, 2) := by decide +kernel
theorem dX8_lastRed_74 : decode cX8_lastRed 74 = .ok (.iaload, 1) := by decide +kernel
theorem dX8_lastRed_75 : decode cX8_lastRed 75 = .ok (.iconst 1, 1) := by decide +kernel
theorem dX8_lastRed_76 : decode cX8_lastRed 76 = .ok (.iadd, 1) := by decide +kernel
theorem dX8_lastRed_77 : decode cX8_lastRed 77 = .ok (.i2l, 1) := by decide +kernel
theorem dX8_lastRed_78 : decode cX8_lastRed 78 = .ok (.lmul, 1) := by decide +kernel
theorem dX8_lastRed_79 : decode cX8_lastRed 79 = .ok (.ladd, 1) := by decide +kernel
theorem dX8_lastRed_80 : decode cX8_lastRed 80 = .ok (.lstore 10, 2) := by decide +kernel
theorem dX8_lastRed_82 : decode cX8_lastRed 82 = .ok (.lload 8, 2) := by decide +kernel
theorem dX8_lastRed_84 : decode cX8_lastRed 84 = .ok (.lstore_n 3, 1) := by decide +kernel
theorem dX8_lastRed_85 : decode cX8_lastRed 85 = .ok (.lload 10, 2) := by decide +kernel
theorem dX8_lastRed_87 : decode cX8_lastRed 87 = .ok (.lstore 5, 2) := by decide +kernel
theorem dX8_lastRed_89 : decode cX8_lastRed 89 = .ok (.iinc 7 1, 3) := by decide +kernel
theorem dX8_lastRed_92 : decode cX8_lastRed 92 = .ok (.goto (-68), 3) := by decide +kernel
theorem dX8_lastRed_95 : decode cX8_lastRed 95 = .ok (.lload_n 3, 1) := by decide +kernel
theorem dX8_lastRed_96 : decode cX8_lastRed 96 = .ok (.lreturn, 1) := by decide +kernel
theorem dX8_handed_0 : decode cX8_handed 0 = .ok (.iload_n 1, 1) := by decide +kernel
theorem dX8_handed_1 : decode cX8_handed 1 = .ok (.iconst 1, 1) := by decide +kernel
theorem dX8_handed_2 : decode cX8_handed 2 = .ok (.iconst 3, 1) := by decide +kernel
theorem dX8_handed_3 : decode cX8_handed 3 = .ok (.invokestatic 148, 3) := by decide +kernel
theorem dX8_handed_6 : decode cX8_handed 6 = .ok (.ifCond .eq 19, 3) := by decide +kernel
theorem dX8_handed_9 : decode cX8_handed 9 = .ok (.iload_n 2, 1) := by decide +kernel
theorem dX8_handed_10 : decode cX8_handed 10 = .ok (.iconst 0, 1) := by decide +kernel
theorem dX8_handed_11 : decode cX8_handed 11 = .ok (.iconst 1, 1) := by decide +kernel
theorem dX8_handed_12 : decode cX8_handed 12 = .ok (.invokestatic 148, 3) := by decide +kernel
theorem dX8_handed_15 : decode cX8_handed 15 = .ok (.ifCond .eq 10, 3) := by decide +kernel
theorem dX8_handed_18 : decode cX8_handed 18 = .ok (.iload_n 3, 1) := by decide +kernel
theorem dX8_handed_19 : decode cX8_handed 19 = .ok (.invokestatic 291, 3) := by decide +kernel
theorem dX8_handed_22 : decode cX8_handed 22 = .ok (.ifCond .ne 7, 3) := by decide +kernel
theorem dX8_handed_25 : decode cX8_handed 25 = .ok (.ldc2_w 294, 3) := by decide +kernel
theorem dX8_handed_28 : decode cX8_handed 28 = .ok (.lreturn, 1) := by decide +kernel
theorem dX8_handed_29 : decode cX8_handed 29 = .ok (.aload_n 0, 1) := by decide +kernel
theorem dX8_handed_30 : decode cX8_handed 30 = .ok (.getfield 24, 3) := by decide +kernel
theorem dX8_handed_33 : decode cX8_handed 33 = .ok (.iconst 0, 1) := by decide +kernel
theorem dX8_handed_34 : decode cX8_handed 34 = .ok (.iaload, 1) := by decide +kernel
theorem dX8_handed_35 : decode cX8_handed 35 = .ok (.aload_n 0, 1) := by decide +kernel
theorem dX8_handed_36 : decode cX8_handed 36 = .ok (.getfield 27, 3) := by decide +kernel
theorem dX8_handed_39 : decode cX8_handed 39 = .ok (.iconst 0, 1) := by decide +kernel
theorem dX8_handed_40 : decode cX8_handed 40 = .ok (.iaload, 1) := by decide +kernel
theorem dX8_handed_41 : decode cX8_handed 41 = .ok (.iadd, 1) := by decide +kernel
theorem dX8_handed_42 : decode cX8_handed 42 = .ok (.i2l, 1) := by decide +kernel
theorem dX8_handed_43 : decode cX8_handed 43 = .ok (.lstore 4, 2) := by decide +kernel
theorem dX8_handed_45 : decode cX8_handed 45 = .ok (.aload_n 0, 1) := by decide +kernel
theorem dX8_handed_46 : decode cX8_handed 46 = .ok (.getfield 24, 3) := by decide +kernel
theorem dX8_handed_49 : decode cX8_handed 49 = .ok (.iconst 0, 1) := by decide +kernel
theorem dX8_handed_50 : decode cX8_handed 50 = .ok (.iaload, 1) := by decide +kernel
theorem dX8_handed_51 : decode cX8_handed 51 = .ok (.i2l, 1) := by decide +kernel
theorem dX8_handed_52 : decode cX8_handed 52 = .ok (.aload_n 0, 1) := by decide +kernel
theorem dX8_handed_53 : decode cX8_handed 53 = .ok (.iload_n 1, 1) := by decide +kernel
theorem dX8_handed_54 : decode cX8_handed 54 = .ok (.iconst 1, 1) := by decide +kernel
theorem dX8_handed_55 : decode cX8_handed 55 = .ok (.invokevirtual 316, 3) := by decide +kernel
theorem dX8_handed_58 : decode cX8_handed 58 = .ok (.lmul, 1) := by decide +kernel
theorem dX8_handed_59 : decode cX8_handed 59 = .ok (.lstore 6, 2) := by decide +kernel
theorem dX8_handed_61 : decode cX8_handed 61 = .ok (.lload 6, 2) := by decide +kernel
theorem dX8_handed_63 : decode cX8_handed 63 = .ok (.aload_n 0, 1) := by decide +kernel
theorem dX8_handed_64 : decode cX8_handed 64 = .ok (.getfield 27, 3) := by decide +kernel
theorem dX8_handed_67 : decode cX8_handed 67 = .ok (.iconst 0, 1) := by decide +kernel
theorem dX8_handed_68 : decode cX8_handed 68 = .ok (.iaload, 1) := by decide +kernel
theorem dX8_handed_69 : decode cX8_handed 69 = .ok (.i2l, 1) := by decide +kernel
theorem dX8_handed_70 : decode cX8_handed 70 = .ok (.aload_n 0, 1) := by decide +kernel
theorem dX8_handed_71 : decode cX8_handed 71 = .ok (.iload_n 1, 1) := by decide +kernel
theorem dX8_handed_72 : decode cX8_handed 72 = .ok (.iconst 0, 1) := by decide +kernel
theorem dX8_handed_73 : decode cX8_handed 73 = .ok (.invokevirtual 316, 3) := by decide +kernel
theorem dX8_handed_76 : decode cX8_handed 76 = .ok (.lmul, 1) := by decide +kernel
theorem dX8_handed_77 : decode cX8_handed 77 = .ok (.ladd, 1) := by decide +kernel
theorem dX8_handed_78 : decode cX8_handed 78 = .ok (.lstore 8, 2) := by decide +kernel
theorem dX8_handed_80 : decode cX8_handed 80 = .ok (.lload 4, 2) := by decide +kernel
theorem dX8_handed_82 : decode cX8_handed 82 = .ok (.lconst 0, 1) := by decide +kernel
theorem dX8_handed_83 : decode cX8_handed 83 = .ok (.lcmp, 1) := by decide +kernel
theorem dX8_handed_84 : decode cX8_handed 84 = .ok (.ifCond .ne 6, 3) := by decide +kernel
theorem dX8_handed_87 : decode cX8_handed 87 = .ok (.iload_n 3, 1) := by decide +kernel
theorem dX8_handed_88 : decode cX8_handed 88 = .ok (.i2l, 1) := by decide +kernel
theorem dX8_handed_89 : decode cX8_handed 89 = .ok (.lreturn, 1) := by decide +kernel
theorem dX8_handed_90 : decode cX8_handed 90 = .ok (.iconst 1, 1) := by decide +kernel
theorem dX8_handed_91 : decode cX8_handed 91 = .ok (.istore 10, 2) := by decide +kernel
theorem dX8_handed_93 : decode cX8_handed 93 = .ok (.iload 10, 2) := by decide +kernel
theorem dX8_handed_95 : decode cX8_handed 95 = .ok (.iload_n 1, 1) := by decide +kernel
theorem dX8_handed_96 : decode cX8_handed 96 = .ok (.if_icmp .gt 32, 3) := by decide +kernel
theorem dX8_handed_99 : decode cX8_handed 99 = .ok (.lload 4, 2) := by decide +kernel
theorem dX8_handed_101 : decode cX8_handed 101 = .ok (.aload_n 0, 1) := by decide +kernel
theorem dX8_handed_102 : decode cX8_handed 102 = .ok (.getfield 24, 3) := by decide +kernel
theorem dX8_handed_105 : decode cX8_handed 105 = .ok (.iload 10, 2) := by decide +kernel
theorem dX8_handed_107 : decode cX8_handed 107 = .ok (.iaload, 1) := by decide +kernel
theorem dX8_handed_108 : decode cX8_handed 108 = .ok (.aload_n 0, 1) := by decide +kernel
theorem dX8_handed_109 : decode cX8_handed 109 = .ok (.getfield 27, 3) := by decide +kernel
theorem dX8_handed_112 : decode cX8_handed 112 = .ok (.iload 10, 2) := by decide +kernel
theorem dX8_handed_114 : decode cX8_handed 114 = .ok (.iaload, 1) := by decide +kernel
theorem dX8_handed_115 : decode cX8_handed 115 = .ok (.iadd, 1) := by decide +kernel
theorem dX8_handed_116 : decode cX8_handed 116 = .ok (.iconst 1, 1) := by decide +kernel
theorem dX8_handed_117 : decode cX8_handed 117 = .ok (.iadd, 1) := by decide +kernel
theorem dX8_handed_118 : decode cX8_handed 118 = .ok (.i2l, 1) := by decide +kernel
theorem dX8_handed_119 : decode cX8_handed 119 = .ok (.lmul, 1) := by decide +kernel
theorem dX8_handed_120 : decode cX8_handed 120 = .ok (.lstore 4, 2) := by decide +kernel
theorem dX8_handed_122 : decode cX8_handed 122 = .ok (.iinc 10 1, 3) := by decide +kernel
theorem dX8_handed_125 : decode cX8_handed 125 = .ok (.goto (-32), 3) := by decide +kernel
theorem dX8_handed_128 : decode cX8_handed 128 = .ok (.iload_n 2, 1) := by decide +kernel
theorem dX8_handed_129 : decode cX8_handed 129 = .ok (.ifCond .ne 14, 3) := by decide +kernel
theorem dX8_handed_132 : decode cX8_handed 132 = .ok (.lload 8, 2) := by decide +kernel
theorem dX8_handed_134 : decode cX8_handed 134 = .ok (.lload 4, 2) := by decide +kernel
theorem dX8_handed_136 : decode cX8_handed 136 = .ok (.iload_n 3, 1) := by decide +kernel
theorem dX8_handed_137 : decode cX8_handed 137 = .ok (.invokestatic 299, 3) := by decide +kernel
theorem dX8_handed_140 : decode cX8_handed 140 = .ok (.goto 11, 3) := by decide +kernel
theorem dX8_handed_143 : decode cX8_handed 143 = .ok (.lload 6, 2) := by decide +kernel
theorem dX8_handed_145 : decode cX8_handed 145 = .ok (.lload 8, 2) := by decide +kernel
theorem dX8_handed_147 : decode cX8_handed 147 = .ok (.iload_n 3, 1) := by decide +kernel
theorem dX8_handed_148 : decode cX8_handed 148 = .ok (.invokestatic 299, 3) := by decide +kernel
theorem dX8_handed_151 : decode cX8_handed 151 = .ok (.lreturn, 1) := by decide +kernel
theorem dX8_ill_0 : decode cX8_ill 0 = .ok (.iload_n 1, 1) := by decide +kernel
theorem dX8_ill_1 : decode cX8_ill 1 = .ok (.ifCond .lt 30, 3) := by decide +kernel
theorem dX8_ill_4 : decode cX8_ill 4 = .ok (.iload_n 1, 1) := by decide +kernel
theorem dX8_ill_5 : decode cX8_ill 5 = .ok (.sipush 256, 3) := by decide +kernel
theorem dX8_ill_8 : decode cX8_ill 8 = .ok (.if_icmp .ge 23, 3) := by decide +kernel
theorem dX8_ill_11 : decode cX8_ill 11 = .ok (.iload_n 1, 1) := by decide +kernel
theorem dX8_ill_12 : decode cX8_ill 12 = .ok (.iconst 4, 1) := by decide +kernel
theorem dX8_ill_13 : decode cX8_ill 13 = .ok (.ishr, 1) := by decide +kernel
theorem dX8_ill_14 : decode cX8_ill 14 = .ok (.iload_n 1, 1) := by decide +kernel
theorem dX8_ill_15 : decode cX8_ill 15 = .ok (.bipush 15, 2) := by decide +kernel
theorem dX8_ill_17 : decode cX8_ill 17 = .ok (.iand, 1) := by decide +kernel
theorem dX8_ill_18 : decode cX8_ill 18 = .ok (.iconst (-1), 1) := by decide +kernel
theorem dX8_ill_19 : decode cX8_ill 19 = .ok (.ixor, 1) := by decide +kernel
theorem dX8_ill_20 : decode cX8_ill 20 = .ok (.iand, 1) := by decide +kernel
theorem dX8_ill_21 : decode cX8_ill 21 = .ok (.ifCond .ne 10, 3) := by decide +kernel
theorem dX8_ill_24 : decode cX8_ill 24 = .ok (.iload_n 2, 1) := by decide +kernel
theorem dX8_ill_25 : decode cX8_ill 25 = .ok (.invokestatic 291, 3) := by decide +kernel
theorem dX8_ill_28 : decode cX8_ill 28 = .ok (.ifCond .ne 7, 3) := by decide +kernel
theorem dX8_ill_31 : decode cX8_ill 31 = .ok (.ldc2_w 294, 3) := by decide +kernel
theorem dX8_ill_34 : decode cX8_ill 34 = .ok (.lreturn, 1) := by decide +kernel
theorem dX8_ill_35 : decode cX8_ill 35 = .ok (.aload_n 0, 1) := by decide +kernel
theorem dX8_ill_36 : decode cX8_ill 36 = .ok (.getfield 42, 3) := by decide +kernel
theorem dX8_ill_39 : decode cX8_ill 39 = .ok (.i2l, 1) := by decide +kernel
theorem dX8_ill_40 : decode cX8_ill 40 = .ok (.lstore_n 3, 1) := by decide +kernel
theorem dX8_ill_41 : decode cX8_ill 41 = .ok (.bipush 100, 2) := by decide +kernel
theorem dX8_ill_43 : decode cX8_ill 43 = .ok (.aload_n 0, 1) := by decide +kernel
theorem dX8_ill_44 : decode cX8_ill 44 = .ok (.getfield 42, 3) := by decide +kernel
theorem dX8_ill_47 : decode cX8_ill 47 = .ok (.isub, 1) := by decide +kernel
theorem dX8_ill_48 : decode cX8_ill 48 = .ok (.i2l, 1) := by decide +kernel
theorem dX8_ill_49 : decode cX8_ill 49 = .ok (.lstore 5, 2) := by decide +kernel
theorem dX8_ill_51 : decode cX8_ill 51 = .ok (.iconst 0, 1) := by decide +kernel
theorem dX8_ill_52 : decode cX8_ill 52 = .ok (.istore 7, 2) := by decide +kernel
theorem dX8_ill_54 : decode cX8_ill 54 = .ok (.iload 7, 2) := by decide +kernel
theorem dX8_ill_56 : decode cX8_ill 56 = .ok (.iconst 4, 1) := by decide +kernel
theorem dX8_ill_57 : decode cX8_ill 57 = .ok (.if_icmp .ge 102, 3) := by decide +kernel
theorem dX8_ill_60 : decode cX8_ill 60 = .ok (.iload_n 1, 1) := by decide +kernel
theorem dX8_ill_61 : decode cX8_ill 61 = .ok (.iload 7, 2) := by decide +kernel
theorem dX8_ill_63 : decode cX8_ill 63 = .ok (.ishr, 1) := by decide +kernel
theorem dX8_ill_64 : decode cX8_ill 64 = .ok (.iconst 1, 1) := by decide +kernel
theorem dX8_ill_65 : decode cX8_ill 65 = .ok (.iand, 1) := by decide +kernel
theorem dX8_ill_66 : decode cX8_ill 66 = .ok (.ifCond .ne 6, 3) := by decide +kernel
theorem dX8_ill_69 : decode cX8_ill 69 = .ok (.goto 84, 3) := by decide +kernel
theorem dX8_ill_72 : decode cX8_ill 72 = .ok (.iload_n 1, 1) := by decide +kernel
theorem dX8_ill_73 : decode cX8_ill 73 = .ok (.iconst 4, 1) := by decide +kernel
theorem dX8_ill_74 : decode cX8_ill 74 = .ok (.iload 7, 2) := by decide +kernel
theorem dX8_ill_76 : decode cX8_ill 76 = .ok (.iadd, 1) := by decide +kernel
theorem dX8_ill_77 : decode cX8_ill 77 = .ok (.ishr, 1) := by decide +kernel
theorem dX8_ill_78 : decode cX8_ill 78 = .ok (.iconst 1, 1) := by decide +kernel
theorem dX8_ill_79 : decode cX8_ill 79 = .ok (.iand, 1) := by decide +kernel
theorem dX8_ill_80 : decode cX8_ill 80 = .ok (.iconst 1, 1) := by decide +kernel
theorem dX8_ill_81 : decode cX8_ill 81 = .ok (.if_icmp .ne 7, 3) := by decide +kernel
theorem dX8_ill_84 : decode cX8_ill 84 = .ok (.iconst 1, 1) := by decide +kernel
theorem dX8_ill_85 : decode cX8_ill 85 = .ok (.goto 4, 3) := by decide +kernel
theorem dX8_ill_88 : decode cX8_ill 88 = .ok (.iconst 0, 1) := by decide +kernel
theorem dX8_ill_89 : decode cX8_ill 89 = .ok (.istore 8, 2) := by decide +kernel
theorem dX8_ill_91 : decode cX8_ill 91 = .ok (.lload_n 3, 1) := by decide +kernel
theorem dX8_ill_92 : decode cX8_ill 92 = .ok (.iload 8, 2) := by decide +kernel
theorem dX8_ill_94 : decode cX8_ill 94 = .ok (.ifCond .eq 14, 3) := by decide +kernel
theorem dX8_ill_97 : decode cX8_ill 97 = .ok (.aload_n 0, 1) := by decide +kernel
theorem dX8_ill_98 : decode cX8_ill 98 = .ok (.getfield 30, 3) := by decide +kernel
theorem dX8_ill_101 : decode cX8_ill 101 = .ok (.iload 7, 2) := by decide +kernel
theorem dX8_ill_103 : decode cX8_ill 103 = .ok (.iaload, 1) := by decide +kernel
theorem dX8_ill_104 : decode cX8_ill 104 = .ok (.i2l, 1) := by decide +kernel
theorem dX8_ill_105 : decode cX8_ill 105 = .ok (.goto 14, 3) := by decide +kernel
theorem dX8_ill_108 : decode cX8_ill 108 = .ok (.bipush 12, 2) := by decide +kernel
theorem dX8_ill_110 : decode cX8_ill 110 = .ok (.aload_n 0, 1) := by decide +kernel
theorem dX8_ill_111 : decode cX8_ill 111 = .ok (.getfield 30, 3) := by decide +kernel
theorem dX8_ill_114 : decode cX8_ill 114 = .ok (.iload 7, 2) := by decide +kernel
theorem dX8_ill_116 : decode cX8_ill 116 = .ok (.iaload, 1) := by decide +kernel
theorem dX8_ill_117 : decode cX8_ill 117 = .ok (.isub, 1) := by decide +kernel
theorem dX8_ill_118 : decode cX8_ill 118 = .ok (.i2l, 1) := by decide +kernel
theorem dX8_ill_119 : decode cX8_ill 119 = .ok (.lmul, 1) := by decide +kernel
theorem dX8_ill_120 : decode cX8_ill 120 = .ok (.lstore_n 3, 1) := by decide +kernel
theorem dX8_ill_121 : decode cX8_ill 121 = .ok (.lload 5, 2) := by decide +kernel
theorem dX8_ill_123 : decode cX8_ill 123 = .ok (.iload 8, 2) := by decide +kernel
theorem dX8_ill_125 : decode cX8_ill 125 = .ok (.ifCond .eq 17, 3) := by decide +kernel
theorem dX8_ill_128 : decode cX8_ill 128 = .ok (.bipush 12, 2) := by decide +kernel
theorem dX8_ill_130 : decode cX8_ill 130 = .ok (.aload_n 0, 1) := by decide +kernel
theorem dX8_ill_131 : decode cX8_ill 131 = .ok (.getfield 33, 3) := by decide +kernel
theorem dX8_ill_134 : decode cX8_ill 134 = .ok (.iload 7, 2) := by decide +kernel
theorem dX8_ill_136 : decode cX8_ill 136 = .ok (.iaload, 1) := by decide +kernel
theorem dX8_ill_137 : decode cX8_ill 137 = .ok (.isub, 1) := by decide +kernel
theorem dX8_ill_138 : decode cX8_ill 138 = .ok (.i2l, 1) := by decide +kernel
theorem dX8_ill_139 : decode cX8_ill 139 = .ok (.goto 11, 3) := by decide +kernel
theorem dX8_ill_142 : decode cX8_ill 142 = .ok (.aload_n 0, 1) := by decide +kernel
theorem dX8_ill_143 : decode cX8_ill 143 = .ok (.getfield 33, 3) := by decide +kernel
theorem dX8_ill_146 : decode cX8_ill 146 = .ok (.iload 7, 2) := by decide +kernel
theorem dX8_ill_148 : decode cX8_ill 148 = .ok (.iaload, 1) := by decide +kernel
theorem dX8_ill_149 : decode cX8_ill 149 = .ok (.i2l, 1) := by decide +kernel
theorem dX8_ill_150 : decode cX8_ill 150 = .ok (.lmul, 1) := by decide +kernel
theorem dX8_ill_151 : decode cX8_ill 151 = .ok (.lstore 5, 2) := by decide +kernel
theorem dX8_ill_153 : decode cX8_ill 153 = .ok (.iinc 7 1, 3) := by decide +kernel
theorem dX8_ill_156 : decode cX8_ill 156 = .ok (.goto (-102), 3) := by decide +kernel
theorem dX8_ill_159 : decode cX8_ill 159 = .ok (.lload_n 3, 1) := by decide +kernel
theorem dX8_ill_160 : decode cX8_ill 160 = .ok (.lload_n 3, 1) := by decide +kernel
theorem dX8_ill_161 : decode cX8_ill 161 = .ok (.lload 5, 2) := by decide +kernel
theorem dX8_ill_163 : decode cX8_ill 163 = .ok (.ladd, 1) := by decide +kernel
theorem dX8_ill_164 : decode cX8_ill 164 = .ok (.iload_n 2, 1) := by decide +kernel
theorem dX8_ill_165 : decode cX8_ill 165 = .ok (.invokestatic 299, 3) := by decide +kernel
theorem dX8_ill_168 : decode cX8_ill 168 = .ok (.lreturn, 1) := by decide +kernel
theorem dX8_meanPrice_0 : decode cX8_meanPrice 0 = .ok (.aload_n 0, 1) := by decide +kernel
theorem dX8_meanPrice_1 : decode cX8_meanPrice 1 = .ok (.getfield 42, 3) := by decide +kernel
theorem dX8_meanPrice_4 : decode cX8_meanPrice 4 = .ok (.i2l, 1) := by decide +kernel
theorem dX8_meanPrice_5 : decode cX8_meanPrice 5 = .ok (.lstore_n 1, 1) := by decide +kernel
theorem dX8_meanPrice_6 : decode cX8_meanPrice 6 = .ok (.bipush 100, 2) := by decide +kernel
theorem dX8_meanPrice_8 : decode cX8_meanPrice 8 = .ok (.aload_n 0, 1) := by decide +kernel
theorem dX8_meanPrice_9 : decode cX8_meanPrice 9 = .ok (.getfield 42, 3) := by decide +kernel
theorem dX8_meanPrice_12 : decode cX8_meanPrice 12 = .ok (.isub, 1) := by decide +kernel
theorem dX8_meanPrice_13 : decode cX8_meanPrice 13 = .ok (.i2l, 1) := by decide +kernel
theorem dX8_meanPrice_14 : decode cX8_meanPrice 14 = .ok (.lstore_n 3, 1) := by decide +kernel
theorem dX8_meanPrice_15 : decode cX8_meanPrice 15 = .ok (.lconst 0, 1) := by decide +kernel
theorem dX8_meanPrice_16 : decode cX8_meanPrice 16 = .ok (.lstore 5, 2) := by decide +kernel
theorem dX8_meanPrice_18 : decode cX8_meanPrice 18 = .ok (.iconst 0, 1) := by decide +kernel
theorem dX8_meanPrice_19 : decode cX8_meanPrice 19 = .ok (.istore 7, 2) := by decide +kernel
theorem dX8_meanPrice_21 : decode cX8_meanPrice 21 = .ok (.iload 7, 2) := by decide +kernel
theorem dX8_meanPrice_23 : decode cX8_meanPrice 23 = .ok (.iconst 4, 1) := by decide +kernel
theorem dX8_meanPrice_24 : decode cX8_meanPrice 24 = .ok (.if_icmp .ge 77, 3) := by decide +kernel
theorem dX8_meanPrice_27 : decode cX8_meanPrice 27 = .ok (.lload 5, 2) := by decide +kernel
theorem dX8_meanPrice_29 : decode cX8_meanPrice 29 = .ok (.aload_n 0, 1) := by decide +kernel
theorem dX8_meanPrice_30 : decode cX8_meanPrice 30 = .ok (.getfield 36, 3) := by decide +kernel
theorem dX8_meanPrice_33 : decode cX8_meanPrice 33 = .ok (.aload_n 0, 1) := by decide +kernel
theorem dX8_meanPrice_34 : decode cX8_meanPrice 34 = .ok (.getfield 99, 3) := by decide +kernel
theorem dX8_meanPrice_37 : decode cX8_meanPrice 37 = .ok (.iload 7, 2) := by decide +kernel
theorem dX8_meanPrice_39 : decode cX8_meanPrice 39 = .ok (.iaload, 1) := by decide +kernel
theorem dX8_meanPrice_40 : decode cX8_meanPrice 40 = .ok (.iaload, 1) := by decide +kernel
theorem dX8_meanPrice_41 : decode cX8_meanPrice 41 = .ok (.i2l, 1) := by decide +kernel
theorem dX8_meanPrice_42 : decode cX8_meanPrice 42 = .ok (.lload_n 1, 1) := by decide +kernel
theorem dX8_meanPrice_43 : decode cX8_meanPrice 43 = .ok (.lload_n 3, 1) := by decide +kernel
theorem dX8_meanPrice_44 : decode cX8_meanPrice 44 = .ok (.ladd, 1) := by decide +kernel
theorem dX8_meanPrice_45 : decode cX8_meanPrice 45 = .ok (.lmul, 1) := by decide +kernel
theorem dX8_meanPrice_46 : decode cX8_meanPrice 46 = .ok (.ldc2_w 320, 3) := by decide +kernel
theorem dX8_meanPrice_49 : decode cX8_meanPrice 49 = .ok (.iconst 3, 1) := by decide +kernel
theorem dX8_meanPrice_50 : decode cX8_meanPrice 50 = .ok (.iload 7, 2) := by decide +kernel
theorem dX8_meanPrice_52 : decode cX8_meanPrice 52 = .ok (.isub, 1) := by decide +kernel
theorem dX8_meanPrice_53 : decode cX8_meanPrice 53 = .ok (.invokestatic 287, 3) := by decide +kernel
theorem dX8_meanPrice_56 : decode cX8_meanPrice 56 = .ok (.lmul, 1) := by decide +kernel
theorem dX8_meanPrice_57 : decode cX8_meanPrice 57 = .ok (.ladd, 1) := by decide +kernel
theorem dX8_meanPrice_58 : decode cX8_meanPrice 58 = .ok (.lstore 5, 2) := by decide +kernel
theorem dX8_meanPrice_60 : decode cX8_meanPrice 60 = .ok (.lload_n 1, 1) := by decide +kernel
theorem dX8_meanPrice_61 : decode cX8_meanPrice 61 = .ok (.aload_n 0, 1) := by decide +kernel
theorem dX8_meanPrice_62 : decode cX8_meanPrice 62 = .ok (.getfield 30, 3) := by decide +kernel
theorem dX8_meanPrice_65 : decode cX8_meanPrice 65 = .ok (.aload_n 0, 1) := by decide +kernel
theorem dX8_meanPrice_66 : decode cX8_meanPrice 66 = .ok (.getfield 99, 3) := by decide +kernel
theorem dX8_meanPrice_69 : decode cX8_meanPrice 69 = .ok (.iload 7, 2) := by decide +kernel
theorem dX8_meanPrice_71 : decode cX8_meanPrice 71 = .ok (.iaload, 1) := by decide +kernel
theorem dX8_meanPrice_72 : decode cX8_meanPrice 72 = .ok (.iaload, 1) := by decide +kernel
theorem dX8_meanPrice_73 : decode cX8_meanPrice 73 = .ok (.i2l, 1) := by decide +kernel
theorem dX8_meanPrice_74 : decode cX8_meanPrice 74 = .ok (.lmul, 1) := by decide +kernel
theorem dX8_meanPrice_75 : decode cX8_meanPrice 75 = .ok (.lstore_n 1, 1) := by decide +kernel
theorem dX8_meanPrice_76 : decode cX8_meanPrice 76 = .ok (.lload_n 3, 1) := by decide +kernel
theorem dX8_meanPrice_77 : decode cX8_meanPrice 77 = .ok (.bipush 12, 2) := by decide +kernel
theorem dX8_meanPrice_79 : decode cX8_meanPrice 79 = .ok (.aload_n 0, 1) := by decide +kernel
theorem dX8_meanPrice_80 : decode cX8_meanPrice 80 = .ok (.getfield 33, 3) := by decide +kernel
theorem dX8_meanPrice_83 : decode cX8_meanPrice 83 = .ok (.aload_n 0, 1) := by decide +kernel
theorem dX8_meanPrice_84 : decode cX8_meanPrice 84 = .ok (.getfield 99, 3) := by decide +kernel
theorem dX8_meanPrice_87 : decode cX8_meanPrice 87 = .ok (.iload 7, 2) := by decide +kernel
theorem dX8_meanPrice_89 : decode cX8_meanPrice 89 = .ok (.iaload, 1) := by decide +kernel
theorem dX8_meanPrice_90 : decode cX8_meanPrice 90 = .ok (.iaload, 1) := by decide +kernel
theorem dX8_meanPrice_91 : decode cX8_meanPrice 91 = .ok (.isub, 1) := by decide +kernel
theorem dX8_meanPrice_92 : decode cX8_meanPrice 92 = .ok (.i2l, 1) := by decide +kernel
theorem dX8_meanPrice_93 : decode cX8_meanPrice 93 = .ok (.lmul, 1) := by decide +kernel
theorem dX8_meanPrice_94 : decode cX8_meanPrice 94 = .ok (.lstore_n 3, 1) := by decide +kernel
theorem dX8_meanPrice_95 : decode cX8_meanPrice 95 = .ok (.iinc 7 1, 3) := by decide +kernel
theorem dX8_meanPrice_98 : decode cX8_meanPrice 98 = .ok (.goto (-77), 3) := by decide +kernel
theorem dX8_meanPrice_101 : decode cX8_meanPrice 101 = .ok (.lload 5, 2) := by decide +kernel
theorem dX8_meanPrice_103 : decode cX8_meanPrice 103 = .ok (.lreturn, 1) := by decide +kernel
theorem dX8_goOrders_0 : decode cX8_goOrders 0 = .ok (.iload_n 1, 1) := by decide +kernel
theorem dX8_goOrders_1 : decode cX8_goOrders 1 = .ok (.iconst 4, 1) := by decide +kernel
theorem dX8_goOrders_2 : decode cX8_goOrders 2 = .ok (.if_icmp .ne 62, 3) := by decide +kernel
theorem dX8_goOrders_5 : decode cX8_goOrders 5 = .ok (.aload_n 0, 1) := by decide +kernel
theorem dX8_goOrders_6 : decode cX8_goOrders 6 = .ok (.invokevirtual 322, 3) := by decide +kernel
theorem dX8_goOrders_9 : decode cX8_goOrders 9 = .ok (.lstore_n 3, 1) := by decide +kernel
theorem dX8_goOrders_10 : decode cX8_goOrders 10 = .ok (.aload_n 0, 1) := by decide +kernel
theorem dX8_goOrders_11 : decode cX8_goOrders 11 = .ok (.getfield 326, 3) := by decide +kernel
theorem dX8_goOrders_14 : decode cX8_goOrders 14 = .ok (.lconst 0, 1) := by decide +kernel
theorem dX8_goOrders_15 : decode cX8_goOrders 15 = .ok (.lcmp, 1) := by decide +kernel
theorem dX8_goOrders_16 : decode cX8_goOrders 16 = .ok (.ifCond .lt 13, 3) := by decide +kernel
theorem dX8_goOrders_19 : decode cX8_goOrders 19 = .ok (.lload_n 3, 1) := by decide +kernel
theorem dX8_goOrders_20 : decode cX8_goOrders 20 = .ok (.aload_n 0, 1) := by decide +kernel
theorem dX8_goOrders_21 : decode cX8_goOrders 21 = .ok (.getfield 326, 3) := by decide +kernel
theorem dX8_goOrders_24 : decode cX8_goOrders 24 = .ok (.lcmp, 1) := by decide +kernel
theorem dX8_goOrders_25 : decode cX8_goOrders 25 = .ok (.ifCond .lt 4, 3) := by decide +kernel
theorem dX8_goOrders_28 : decode cX8_goOrders 28 = .ok (.return_, 1) := by decide +kernel
theorem dX8_goOrders_29 : decode cX8_goOrders 29 = .ok (.aload_n 0, 1) := by decide +kernel
theorem dX8_goOrders_30 : decode cX8_goOrders 30 = .ok (.lload_n 3, 1) := by decide +kernel
theorem dX8_goOrders_31 : decode cX8_goOrders 31 = .ok (.putfield 326, 3) := by decide +kernel
theorem dX8_goOrders_34 : decode cX8_goOrders 34 = .ok (.iconst 0, 1) := by decide +kernel
theorem dX8_goOrders_35 : decode cX8_goOrders 35 = .ok (.istore 5, 2) := by decide +kernel
theorem dX8_goOrders_37 : decode cX8_goOrders 37 = .ok (.iload 5, 2) := by decide +kernel
theorem dX8_goOrders_39 : decode cX8_goOrders 39 = .ok (.iconst 4, 1) := by decide +kernel
theorem dX8_goOrders_40 : decode cX8_goOrders 40 = .ok (.if_icmp .ge 23, 3) := by decide +kernel
theorem dX8_goOrders_43 : decode cX8_goOrders 43 = .ok (.aload_n 0, 1) := by decide +kernel
theorem dX8_goOrders_44 : decode cX8_goOrders 44 = .ok (.getfield 102, 3) := by decide +kernel
theorem dX8_goOrders_47 : decode cX8_goOrders 47 = .ok (.iload 5, 2) := by decide +kernel
theorem dX8_goOrders_49 : decode cX8_goOrders 49 = .ok (.aload_n 0, 1) := by decide +kernel
theorem dX8_goOrders_50 : decode cX8_goOrders 50 = .ok (.getfield 99, 3) := by decide +kernel
theorem dX8_goOrders_53 : decode cX8_goOrders 53 = .ok (.iload 5, 2) := by decide +kernel
theorem dX8_goOrders_55 : decode cX8_goOrders 55 = .ok (.iaload, 1) := by decide +kernel
theorem dX8_goOrders_56 : decode cX8_goOrders 56 = .ok (.iastore, 1) := by decide +kernel
theorem dX8_goOrders_57 : decode cX8_goOrders 57 = .ok (.iinc 5 1, 3) := by decide +kernel
theorem dX8_goOrders_60 : decode cX8_goOrders 60 = .ok (.goto (-23), 3) := by decide +kernel
theorem dX8_goOrders_63 : decode cX8_goOrders 63 = .ok (.return_, 1) := by decide +kernel
theorem dX8_goOrders_64 : decode cX8_goOrders 64 = .ok (.iconst 0, 1) := by decide +kernel
theorem dX8_goOrders_65 : decode cX8_goOrders 65 = .ok (.istore_n 3, 1) := by decide +kernel
theorem dX8_goOrders_66 : decode cX8_goOrders 66 = .ok (.iload_n 3, 1) := by decide +kernel
theorem dX8_goOrders_67 : decode cX8_goOrders 67 = .ok (.iconst 4, 1) := by decide +kernel
theorem dX8_goOrders_68 : decode cX8_goOrders 68 = .ok (.if_icmp .ge 40, 3) := by decide +kernel
theorem dX8_goOrders_71 : decode cX8_goOrders 71 = .ok (.iload_n 2, 1) := by decide +kernel
theorem dX8_goOrders_72 : decode cX8_goOrders 72 = .ok (.iload_n 3, 1) := by decide +kernel
theorem dX8_goOrders_73 : decode cX8_goOrders 73 = .ok (.ishr, 1) := by decide +kernel
theorem dX8_goOrders_74 : decode cX8_goOrders 74 = .ok (.iconst 1, 1) := by decide +kernel
theorem dX8_goOrders_75 : decode cX8_goOrders 75 = .ok (.iand, 1) := by decide +kernel
theorem dX8_goOrders_76 : decode cX8_goOrders 76 = .ok (.iconst 1, 1) := by decide +kernel
theorem dX8_goOrders_77 : decode cX8_goOrders 77 = .ok (.if_icmp .ne 6, 3) := by decide +kernel
theorem dX8_goOrders_80 : decode cX8_goOrders 80 = .ok (.goto 22, 3) := by decide +kernel
theorem dX8_goOrders_83 : decode cX8_goOrders 83 = .ok (.aload_n 0, 1) := by decide +kernel
theorem dX8_goOrders_84 : decode cX8_goOrders 84 = .ok (.getfield 99, 3) := by decide +kernel
theorem dX8_goOrders_87 : decode cX8_goOrders 87 = .ok (.iload_n 1, 1) := by decide +kernel
theorem dX8_goOrders_88 : decode cX8_goOrders 88 = .ok (.iload_n 3, 1) := by decide +kernel
theorem dX8_goOrders_89 : decode cX8_goOrders 89 = .ok (.iastore, 1) := by decide +kernel
theorem dX8_goOrders_90 : decode cX8_goOrders 90 = .ok (.aload_n 0, 1) := by decide +kernel
theorem dX8_goOrders_91 : decode cX8_goOrders 91 = .ok (.iload_n 1, 1) := by decide +kernel
theorem dX8_goOrders_92 : decode cX8_goOrders 92 = .ok (.iconst 1, 1) := by decide +kernel
theorem dX8_goOrders_93 : decode cX8_goOrders 93 = .ok (.iadd, 1) := by decide +kernel
theorem dX8_goOrders_94 : decode cX8_goOrders 94 = .ok (.iload_n 2, 1) := by decide +kernel
theorem dX8_goOrders_95 : decode cX8_goOrders 95 = .ok (.iconst 1, 1) := by decide +kernel
theorem dX8_goOrders_96 : decode cX8_goOrders 96 = .ok (.iload_n 3, 1) := by decide +kernel
theorem dX8_goOrders_97 : decode cX8_goOrders 97 = .ok (.ishl, 1) := by decide +kernel
theorem dX8_goOrders_98 : decode cX8_goOrders 98 = .ok (.ior, 1) := by decide +kernel
theorem dX8_goOrders_99 : decode cX8_goOrders 99 = .ok (.invokevirtual 330, 3) := by decide +kernel
theorem dX8_goOrders_102 : decode cX8_goOrders 102 = .ok (.iinc 3 1, 3) := by decide +kernel
theorem dX8_goOrders_105 : decode cX8_goOrders 105 = .ok (.goto (-39), 3) := by decide +kernel
theorem dX8_goOrders_108 : decode cX8_goOrders 108 = .ok (.return_, 1) := by decide +kernel
theorem dX8_order_0 : decode cX8_order 0 = .ok (.iload_n 1, 1) := by decide +kernel
theorem dX8_order_1 : decode cX8_order 1 = .ok (.iconst (-1), 1) := by decide +kernel
theorem dX8_order_2 : decode cX8_order 2 = .ok (.iconst 3, 1) := by decide +kernel
theorem dX8_order_3 : decode cX8_order 3 = .ok (.invokestatic 148, 3) := by decide +kernel
theorem dX8_order_6 : decode cX8_order 6 = .ok (.ifCond .eq 10, 3) := by decide +kernel
theorem dX8_order_9 : decode cX8_order 9 = .ok (.iload_n 2, 1) := by decide +kernel
theorem dX8_order_10 : decode cX8_order 10 = .ok (.invokestatic 291, 3) := by decide +kernel
theorem dX8_order_13 : decode cX8_order 13 = .ok (.ifCond .ne 7, 3) := by decide +kernel
theorem dX8_order_16 : decode cX8_order 16 = .ok (.ldc2_w 294, 3) := by decide +kernel
theorem dX8_order_19 : decode cX8_order 19 = .ok (.lreturn, 1) := by decide +kernel
theorem dX8_order_20 : decode cX8_order 20 = .ok (.aload_n 0, 1) := by decide +kernel
theorem dX8_order_21 : decode cX8_order 21 = .ok (.ldc2_w 333, 3) := by decide +kernel
theorem dX8_order_24 : decode cX8_order 24 = .ok (.putfield 326, 3) := by decide +kernel
theorem dX8_order_27 : decode cX8_order 27 = .ok (.aload_n 0, 1) := by decide +kernel
theorem dX8_order_28 : decode cX8_order 28 = .ok (.iconst 0, 1) := by decide +kernel
theorem dX8_order_29 : decode cX8_order 29 = .ok (.iconst 0, 1) := by decide +kernel
theorem dX8_order_30 : decode cX8_order 30 = .ok (.invokevirtual 330, 3) := by decide +kernel
theorem dX8_order_33 : decode cX8_order 33 = .ok (.iload_n 1, 1) := by decide +kernel
theorem dX8_order_34 : decode cX8_order 34 = .ok (.ifCond .ge 25, 3) := by decide +kernel
theorem dX8_order_37 : decode cX8_order 37 = .ok (.aload_n 0, 1) := by decide +kernel
theorem dX8_order_38 : decode cX8_order 38 = .ok (.getfield 326, 3) := by decide +kernel
theorem dX8_order_41 : decode cX8_order 41 = .ok (.ldc2_w 335, 3) := by decide +kernel
theorem dX8_order_44 : decode cX8_order 44 = .ok (.ldc2_w 320, 3) := by decide +kernel
theorem dX8_order_47 : decode cX8_order 47 = .ok (.iconst 3, 1) := by decide +kernel
