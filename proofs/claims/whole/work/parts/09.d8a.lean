theorem dX8_init_0 : decode cX8_init 0 = .ok (.aload_n 0, 1) := by decide +kernel
theorem dX8_init_1 : decode cX8_init 1 = .ok (.invokespecial 3, 3) := by decide +kernel
theorem dX8_init_4 : decode cX8_init 4 = .ok (.aload_n 0, 1) := by decide +kernel
theorem dX8_init_5 : decode cX8_init 5 = .ok (.bipush 8, 2) := by decide +kernel
theorem dX8_init_7 : decode cX8_init 7 = .ok (.newarray .int, 2) := by decide +kernel
theorem dX8_init_9 : decode cX8_init 9 = .ok (.putfield 9, 3) := by decide +kernel
theorem dX8_init_12 : decode cX8_init 12 = .ok (.aload_n 0, 1) := by decide +kernel
theorem dX8_init_13 : decode cX8_init 13 = .ok (.bipush 8, 2) := by decide +kernel
theorem dX8_init_15 : decode cX8_init 15 = .ok (.newarray .int, 2) := by decide +kernel
theorem dX8_init_17 : decode cX8_init 17 = .ok (.putfield 15, 3) := by decide +kernel
theorem dX8_init_20 : decode cX8_init 20 = .ok (.aload_n 0, 1) := by decide +kernel
theorem dX8_init_21 : decode cX8_init 21 = .ok (.bipush 8, 2) := by decide +kernel
theorem dX8_init_23 : decode cX8_init 23 = .ok (.newarray .int, 2) := by decide +kernel
theorem dX8_init_25 : decode cX8_init 25 = .ok (.putfield 18, 3) := by decide +kernel
theorem dX8_init_28 : decode cX8_init 28 = .ok (.aload_n 0, 1) := by decide +kernel
theorem dX8_init_29 : decode cX8_init 29 = .ok (.bipush 8, 2) := by decide +kernel
theorem dX8_init_31 : decode cX8_init 31 = .ok (.newarray .int, 2) := by decide +kernel
theorem dX8_init_33 : decode cX8_init 33 = .ok (.putfield 21, 3) := by decide +kernel
theorem dX8_init_36 : decode cX8_init 36 = .ok (.aload_n 0, 1) := by decide +kernel
theorem dX8_init_37 : decode cX8_init 37 = .ok (.iconst 4, 1) := by decide +kernel
theorem dX8_init_38 : decode cX8_init 38 = .ok (.newarray .int, 2) := by decide +kernel
theorem dX8_init_40 : decode cX8_init 40 = .ok (.dup, 1) := by decide +kernel
theorem dX8_init_41 : decode cX8_init 41 = .ok (.iconst 0, 1) := by decide +kernel
theorem dX8_init_42 : decode cX8_init 42 = .ok (.iconst 1, 1) := by decide +kernel
theorem dX8_init_43 : decode cX8_init 43 = .ok (.iastore, 1) := by decide +kernel
theorem dX8_init_44 : decode cX8_init 44 = .ok (.dup, 1) := by decide +kernel
theorem dX8_init_45 : decode cX8_init 45 = .ok (.iconst 1, 1) := by decide +kernel
theorem dX8_init_46 : decode cX8_init 46 = .ok (.iconst 1, 1) := by decide +kernel
theorem dX8_init_47 : decode cX8_init 47 = .ok (.iastore, 1) := by decide +kernel
theorem dX8_init_48 : decode cX8_init 48 = .ok (.dup, 1) := by decide +kernel
theorem dX8_init_49 : decode cX8_init 49 = .ok (.iconst 2, 1) := by decide +kernel
theorem dX8_init_50 : decode cX8_init 50 = .ok (.iconst 1, 1) := by decide +kernel
theorem dX8_init_51 : decode cX8_init 51 = .ok (.iastore, 1) := by decide +kernel
theorem dX8_init_52 : decode cX8_init 52 = .ok (.dup, 1) := by decide +kernel
theorem dX8_init_53 : decode cX8_init 53 = .ok (.iconst 3, 1) := by decide +kernel
theorem dX8_init_54 : decode cX8_init 54 = .ok (.iconst 1, 1) := by decide +kernel
theorem dX8_init_55 : decode cX8_init 55 = .ok (.iastore, 1) := by decide +kernel
theorem dX8_init_56 : decode cX8_init 56 = .ok (.putfield 24, 3) := by decide +kernel
theorem dX8_init_59 : decode cX8_init 59 = .ok (.aload_n 0, 1) := by decide +kernel
theorem dX8_init_60 : decode cX8_init 60 = .ok (.iconst 4, 1) := by decide +kernel
theorem dX8_init_61 : decode cX8_init 61 = .ok (.newarray .int, 2) := by decide +kernel
theorem dX8_init_63 : decode cX8_init 63 = .ok (.dup, 1) := by decide +kernel
theorem dX8_init_64 : decode cX8_init 64 = .ok (.iconst 0, 1) := by decide +kernel
theorem dX8_init_65 : decode cX8_init 65 = .ok (.iconst 1, 1) := by decide +kernel
theorem dX8_init_66 : decode cX8_init 66 = .ok (.iastore, 1) := by decide +kernel
theorem dX8_init_67 : decode cX8_init 67 = .ok (.dup, 1) := by decide +kernel
theorem dX8_init_68 : decode cX8_init 68 = .ok (.iconst 1, 1) := by decide +kernel
theorem dX8_init_69 : decode cX8_init 69 = .ok (.iconst 1, 1) := by decide +kernel
theorem dX8_init_70 : decode cX8_init 70 = .ok (.iastore, 1) := by decide +kernel
theorem dX8_init_71 : decode cX8_init 71 = .ok (.dup, 1) := by decide +kernel
theorem dX8_init_72 : decode cX8_init 72 = .ok (.iconst 2, 1) := by decide +kernel
theorem dX8_init_73 : decode cX8_init 73 = .ok (.iconst 1, 1) := by decide +kernel
theorem dX8_init_74 : decode cX8_init 74 = .ok (.iastore, 1) := by decide +kernel
theorem dX8_init_75 : decode cX8_init 75 = .ok (.dup, 1) := by decide +kernel
theorem dX8_init_76 : decode cX8_init 76 = .ok (.iconst 3, 1) := by decide +kernel
theorem dX8_init_77 : decode cX8_init 77 = .ok (.iconst 1, 1) := by decide +kernel
theorem dX8_init_78 : decode cX8_init 78 = .ok (.iastore, 1) := by decide +kernel
theorem dX8_init_79 : decode cX8_init 79 = .ok (.putfield 27, 3) := by decide +kernel
theorem dX8_init_82 : decode cX8_init 82 = .ok (.aload_n 0, 1) := by decide +kernel
theorem dX8_init_83 : decode cX8_init 83 = .ok (.iconst 4, 1) := by decide +kernel
theorem dX8_init_84 : decode cX8_init 84 = .ok (.newarray .int, 2) := by decide +kernel
theorem dX8_init_86 : decode cX8_init 86 = .ok (.dup, 1) := by decide +kernel
theorem dX8_init_87 : decode cX8_init 87 = .ok (.iconst 0, 1) := by decide +kernel
theorem dX8_init_88 : decode cX8_init 88 = .ok (.bipush 9, 2) := by decide +kernel
theorem dX8_init_90 : decode cX8_init 90 = .ok (.iastore, 1) := by decide +kernel
theorem dX8_init_91 : decode cX8_init 91 = .ok (.dup, 1) := by decide +kernel
theorem dX8_init_92 : decode cX8_init 92 = .ok (.iconst 1, 1) := by decide +kernel
theorem dX8_init_93 : decode cX8_init 93 = .ok (.bipush 9, 2) := by decide +kernel
theorem dX8_init_95 : decode cX8_init 95 = .ok (.iastore, 1) := by decide +kernel
theorem dX8_init_96 : decode cX8_init 96 = .ok (.dup, 1) := by decide +kernel
theorem dX8_init_97 : decode cX8_init 97 = .ok (.iconst 2, 1) := by decide +kernel
theorem dX8_init_98 : decode cX8_init 98 = .ok (.bipush 9, 2) := by decide +kernel
theorem dX8_init_100 : decode cX8_init 100 = .ok (.iastore, 1) := by decide +kernel
theorem dX8_init_101 : decode cX8_init 101 = .ok (.dup, 1) := by decide +kernel
theorem dX8_init_102 : decode cX8_init 102 = .ok (.iconst 3, 1) := by decide +kernel
theorem dX8_init_103 : decode cX8_init 103 = .ok (.bipush 9, 2) := by decide +kernel
theorem dX8_init_105 : decode cX8_init 105 = .ok (.iastore, 1) := by decide +kernel
theorem dX8_init_106 : decode cX8_init 106 = .ok (.putfield 30, 3) := by decide +kernel
theorem dX8_init_109 : decode cX8_init 109 = .ok (.aload_n 0, 1) := by decide +kernel
theorem dX8_init_110 : decode cX8_init 110 = .ok (.iconst 4, 1) := by decide +kernel
theorem dX8_init_111 : decode cX8_init 111 = .ok (.newarray .int, 2) := by decide +kernel
theorem dX8_init_113 : decode cX8_init 113 = .ok (.dup, 1) := by decide +kernel
theorem dX8_init_114 : decode cX8_init 114 = .ok (.iconst 0, 1) := by decide +kernel
theorem dX8_init_115 : decode cX8_init 115 = .ok (.bipush 9, 2) := by decide +kernel
theorem dX8_init_117 : decode cX8_init 117 = .ok (.iastore, 1) := by decide +kernel
theorem dX8_init_118 : decode cX8_init 118 = .ok (.dup, 1) := by decide +kernel
theorem dX8_init_119 : decode cX8_init 119 = .ok (.iconst 1, 1) := by decide +kernel
theorem dX8_init_120 : decode cX8_init 120 = .ok (.bipush 9, 2) := by decide +kernel
theorem dX8_init_122 : decode cX8_init 122 = .ok (.iastore, 1) := by decide +kernel
theorem dX8_init_123 : decode cX8_init 123 = .ok (.dup, 1) := by decide +kernel
theorem dX8_init_124 : decode cX8_init 124 = .ok (.iconst 2, 1) := by decide +kernel
theorem dX8_init_125 : decode cX8_init 125 = .ok (.bipush 9, 2) := by decide +kernel
theorem dX8_init_127 : decode cX8_init 127 = .ok (.iastore, 1) := by decide +kernel
theorem dX8_init_128 : decode cX8_init 128 = .ok (.dup, 1) := by decide +kernel
theorem dX8_init_129 : decode cX8_init 129 = .ok (.iconst 3, 1) := by decide +kernel
theorem dX8_init_130 : decode cX8_init 130 = .ok (.bipush 9, 2) := by decide +kernel
theorem dX8_init_132 : decode cX8_init 132 = .ok (.iastore, 1) := by decide +kernel
theorem dX8_init_133 : decode cX8_init 133 = .ok (.putfield 33, 3) := by decide +kernel
theorem dX8_init_136 : decode cX8_init 136 = .ok (.aload_n 0, 1) := by decide +kernel
theorem dX8_init_137 : decode cX8_init 137 = .ok (.iconst 4, 1) := by decide +kernel
theorem dX8_init_138 : decode cX8_init 138 = .ok (.newarray .int, 2) := by decide +kernel
theorem dX8_init_140 : decode cX8_init 140 = .ok (.dup, 1) := by decide +kernel
theorem dX8_init_141 : decode cX8_init 141 = .ok (.iconst 0, 1) := by decide +kernel
theorem dX8_init_142 : decode cX8_init 142 = .ok (.bipush 10, 2) := by decide +kernel
theorem dX8_init_144 : decode cX8_init 144 = .ok (.iastore, 1) := by decide +kernel
theorem dX8_init_145 : decode cX8_init 145 = .ok (.dup, 1) := by decide +kernel
theorem dX8_init_146 : decode cX8_init 146 = .ok (.iconst 1, 1) := by decide +kernel
theorem dX8_init_147 : decode cX8_init 147 = .ok (.bipush 10, 2) := by decide +kernel
theorem dX8_init_149 : decode cX8_init 149 = .ok (.iastore, 1) := by decide +kernel
theorem dX8_init_150 : decode cX8_init 150 = .ok (.dup, 1) := by decide +kernel
theorem dX8_init_151 : decode cX8_init 151 = .ok (.iconst 2, 1) := by decide +kernel
theorem dX8_init_152 : decode cX8_init 152 = .ok (.bipush 10, 2) := by decide +kernel
theorem dX8_init_154 : decode cX8_init 154 = .ok (.iastore, 1) := by decide +kernel
theorem dX8_init_155 : decode cX8_init 155 = .ok (.dup, 1) := by decide +kernel
theorem dX8_init_156 : decode cX8_init 156 = .ok (.iconst 3, 1) := by decide +kernel
theorem dX8_init_157 : decode cX8_init 157 = .ok (.bipush 10, 2) := by decide +kernel
theorem dX8_init_159 : decode cX8_init 159 = .ok (.iastore, 1) := by decide +kernel
theorem dX8_init_160 : decode cX8_init 160 = .ok (.putfield 36, 3) := by decide +kernel
theorem dX8_init_163 : decode cX8_init 163 = .ok (.aload_n 0, 1) := by decide +kernel
theorem dX8_init_164 : decode cX8_init 164 = .ok (.bipush 6, 2) := by decide +kernel
theorem dX8_init_166 : decode cX8_init 166 = .ok (.newarray .int, 2) := by decide +kernel
theorem dX8_init_168 : decode cX8_init 168 = .ok (.dup, 1) := by decide +kernel
theorem dX8_init_169 : decode cX8_init 169 = .ok (.iconst 0, 1) := by decide +kernel
theorem dX8_init_170 : decode cX8_init 170 = .ok (.iconst 3, 1) := by decide +kernel
theorem dX8_init_171 : decode cX8_init 171 = .ok (.iastore, 1) := by decide +kernel
theorem dX8_init_172 : decode cX8_init 172 = .ok (.dup, 1) := by decide +kernel
theorem dX8_init_173 : decode cX8_init 173 = .ok (.iconst 1, 1) := by decide +kernel
theorem dX8_init_174 : decode cX8_init 174 = .ok (.iconst 3, 1) := by decide +kernel
theorem dX8_init_175 : decode cX8_init 175 = .ok (.iastore, 1) := by decide +kernel
theorem dX8_init_176 : decode cX8_init 176 = .ok (.dup, 1) := by decide +kernel
theorem dX8_init_177 : decode cX8_init 177 = .ok (.iconst 2, 1) := by decide +kernel
theorem dX8_init_178 : decode cX8_init 178 = .ok (.iconst 3, 1) := by decide +kernel
theorem dX8_init_179 : decode cX8_init 179 = .ok (.iastore, 1) := by decide +kernel
theorem dX8_init_180 : decode cX8_init 180 = .ok (.dup, 1) := by decide +kernel
theorem dX8_init_181 : decode cX8_init 181 = .ok (.iconst 3, 1) := by decide +kernel
theorem dX8_init_182 : decode cX8_init 182 = .ok (.iconst 3, 1) := by decide +kernel
theorem dX8_init_183 : decode cX8_init 183 = .ok (.iastore, 1) := by decide +kernel
theorem dX8_init_184 : decode cX8_init 184 = .ok (.dup, 1) := by decide +kernel
theorem dX8_init_185 : decode cX8_init 185 = .ok (.iconst 4, 1) := by decide +kernel
theorem dX8_init_186 : decode cX8_init 186 = .ok (.iconst 3, 1) := by decide +kernel
theorem dX8_init_187 : decode cX8_init 187 = .ok (.iastore, 1) := by decide +kernel
theorem dX8_init_188 : decode cX8_init 188 = .ok (.dup, 1) := by decide +kernel
theorem dX8_init_189 : decode cX8_init 189 = .ok (.iconst 5, 1) := by decide +kernel
theorem dX8_init_190 : decode cX8_init 190 = .ok (.iconst 3, 1) := by decide +kernel
theorem dX8_init_191 : decode cX8_init 191 = .ok (.iastore, 1) := by decide +kernel
theorem dX8_init_192 : decode cX8_init 192 = .ok (.putfield 39, 3) := by decide +kernel
theorem dX8_init_195 : decode cX8_init 195 = .ok (.aload_n 0, 1) := by decide +kernel
theorem dX8_init_196 : decode cX8_init 196 = .ok (.bipush 10, 2) := by decide +kernel
theorem dX8_init_198 : decode cX8_init 198 = .ok (.putfield 42, 3) := by decide +kernel
theorem dX8_init_201 : decode cX8_init 201 = .ok (.aload_n 0, 1) := by decide +kernel
theorem dX8_init_202 : decode cX8_init 202 = .ok (.iconst 2, 1) := by decide +kernel
theorem dX8_init_203 : decode cX8_init 203 = .ok (.putfield 46, 3) := by decide +kernel
theorem dX8_init_206 : decode cX8_init 206 = .ok (.aload_n 0, 1) := by decide +kernel
theorem dX8_init_207 : decode cX8_init 207 = .ok (.iconst 3, 1) := by decide +kernel
theorem dX8_init_208 : decode cX8_init 208 = .ok (.newarray .int, 2) := by decide +kernel
theorem dX8_init_210 : decode cX8_init 210 = .ok (.dup, 1) := by decide +kernel
theorem dX8_init_211 : decode cX8_init 211 = .ok (.iconst 0, 1) := by decide +kernel
theorem dX8_init_212 : decode cX8_init 212 = .ok (.iconst 4, 1) := by decide +kernel
theorem dX8_init_213 : decode cX8_init 213 = .ok (.iastore, 1) := by decide +kernel
theorem dX8_init_214 : decode cX8_init 214 = .ok (.dup, 1) := by decide +kernel
theorem dX8_init_215 : decode cX8_init 215 = .ok (.iconst 1, 1) := by decide +kernel
theorem dX8_init_216 : decode cX8_init 216 = .ok (.iconst 4, 1) := by decide +kernel
theorem dX8_init_217 : decode cX8_init 217 = .ok (.iastore, 1) := by decide +kernel
theorem dX8_init_218 : decode cX8_init 218 = .ok (.dup, 1) := by decide +kernel
theorem dX8_init_219 : decode cX8_init 219 = .ok (.iconst 2, 1) := by decide +kernel
theorem dX8_init_220 : decode cX8_init 220 = .ok (.iconst 4, 1) := by decide +kernel
theorem dX8_init_221 : decode cX8_init 221 = .ok (.iastore, 1) := by decide +kernel
theorem dX8_init_222 : decode cX8_init 222 = .ok (.putfield 49, 3) := by decide +kernel
theorem dX8_init_225 : decode cX8_init 225 = .ok (.aload_n 0, 1) := by decide +kernel
theorem dX8_init_226 : decode cX8_init 226 = .ok (.bipush 40, 2) := by decide +kernel
theorem dX8_init_228 : decode cX8_init 228 = .ok (.newarray .int, 2) := by decide +kernel
theorem dX8_init_230 : decode cX8_init 230 = .ok (.putfield 52, 3) := by decide +kernel
theorem dX8_init_233 : decode cX8_init 233 = .ok (.aload_n 0, 1) := by decide +kernel
theorem dX8_init_234 : decode cX8_init 234 = .ok (.bipush 40, 2) := by decide +kernel
theorem dX8_init_236 : decode cX8_init 236 = .ok (.newarray .int, 2) := by decide +kernel
theorem dX8_init_238 : decode cX8_init 238 = .ok (.putfield 55, 3) := by decide +kernel
theorem dX8_init_241 : decode cX8_init 241 = .ok (.aload_n 0, 1) := by decide +kernel
theorem dX8_init_242 : decode cX8_init 242 = .ok (.bipush 40, 2) := by decide +kernel
theorem dX8_init_244 : decode cX8_init 244 = .ok (.newarray .int, 2) := by decide +kernel
theorem dX8_init_246 : decode cX8_init 246 = .ok (.putfield 58, 3) := by decide +kernel
theorem dX8_init_249 : decode cX8_init 249 = .ok (.aload_n 0, 1) := by decide +kernel
theorem dX8_init_250 : decode cX8_init 250 = .ok (.bipush 40, 2) := by decide +kernel
theorem dX8_init_252 : decode cX8_init 252 = .ok (.newarray .int, 2) := by decide +kernel
theorem dX8_init_254 : decode cX8_init 254 = .ok (.putfield 61, 3) := by decide +kernel
theorem dX8_init_257 : decode cX8_init 257 = .ok (.aload_n 0, 1) := by decide +kernel
theorem dX8_init_258 : decode cX8_init 258 = .ok (.bipush 6, 2) := by decide +kernel
theorem dX8_init_260 : decode cX8_init 260 = .ok (.newarray .int, 2) := by decide +kernel
theorem dX8_init_262 : decode cX8_init 262 = .ok (.putfield 64, 3) := by decide +kernel
theorem dX8_init_265 : decode cX8_init 265 = .ok (.aload_n 0, 1) := by decide +kernel
theorem dX8_init_266 : decode cX8_init 266 = .ok (.bipush (-2), 2) := by decide +kernel
theorem dX8_init_268 : decode cX8_init 268 = .ok (.putfield 67, 3) := by decide +kernel
theorem dX8_init_271 : decode cX8_init 271 = .ok (.aload_n 0, 1) := by decide +kernel
theorem dX8_init_272 : decode cX8_init 272 = .ok (.bipush 120, 2) := by decide +kernel
theorem dX8_init_274 : decode cX8_init 274 = .ok (.newarray .byte, 2) := by decide +kernel
theorem dX8_init_276 : decode cX8_init 276 = .ok (.putfield 70, 3) := by decide +kernel
theorem dX8_init_279 : decode cX8_init 279 = .ok (.aload_n 0, 1) := by decide +kernel
theorem dX8_init_280 : decode cX8_init 280 = .ok (.sipush 260, 3) := by decide +kernel
theorem dX8_init_283 : decode cX8_init 283 = .ok (.newarray .byte, 2) := by decide +kernel
theorem dX8_init_285 : decode cX8_init 285 = .ok (.putfield 74, 3) := by decide +kernel
theorem dX8_init_288 : decode cX8_init 288 = .ok (.aload_n 0, 1) := by decide +kernel
theorem dX8_init_289 : decode cX8_init 289 = .ok (.sipush 260, 3) := by decide +kernel
theorem dX8_init_292 : decode cX8_init 292 = .ok (.newarray .int, 2) := by decide +kernel
theorem dX8_init_294 : decode cX8_init 294 = .ok (.putfield 77, 3) := by decide +kernel
theorem dX8_init_297 : decode cX8_init 297 = .ok (.aload_n 0, 1) := by decide +kernel
theorem dX8_init_298 : decode cX8_init 298 = .ok (.iconst 2, 1) := by decide +kernel
theorem dX8_init_299 : decode cX8_init 299 = .ok (.newarray .int, 2) := by decide +kernel
theorem dX8_init_301 : decode cX8_init 301 = .ok (.putfield 80, 3) := by decide +kernel
theorem dX8_init_304 : decode cX8_init 304 = .ok (.aload_n 0, 1) := by decide +kernel
theorem dX8_init_305 : decode cX8_init 305 = .ok (.bipush 122, 2) := by decide +kernel
theorem dX8_init_307 : decode cX8_init 307 = .ok (.newarray .short, 2) := by decide +kernel
theorem dX8_init_309 : decode cX8_init 309 = .ok (.putfield 83, 3) := by decide +kernel
theorem dX8_init_312 : decode cX8_init 312 = .ok (.aload_n 0, 1) := by decide +kernel
theorem dX8_init_313 : decode cX8_init 313 = .ok (.bipush 122, 2) := by decide +kernel
theorem dX8_init_315 : decode cX8_init 315 = .ok (.newarray .short, 2) := by decide +kernel
theorem dX8_init_317 : decode cX8_init 317 = .ok (.putfield 87, 3) := by decide +kernel
theorem dX8_init_320 : decode cX8_init 320 = .ok (.aload_n 0, 1) := by decide +kernel
theorem dX8_init_321 : decode cX8_init 321 = .ok (.iconst 5, 1) := by decide +kernel
theorem dX8_init_322 : decode cX8_init 322 = .ok (.newarray .int, 2) := by decide +kernel
theorem dX8_init_324 : decode cX8_init 324 = .ok (.putfield 90, 3) := by decide +kernel
theorem dX8_init_327 : decode cX8_init 327 = .ok (.aload_n 0, 1) := by decide +kernel
theorem dX8_init_328 : decode cX8_init 328 = .ok (.sipush 130, 3) := by decide +kernel
theorem dX8_init_331 : decode cX8_init 331 = .ok (.newarray .int, 2) := by decide +kernel
theorem dX8_init_333 : decode cX8_init 333 = .ok (.putfield 93, 3) := by decide +kernel
theorem dX8_init_336 : decode cX8_init 336 = .ok (.aload_n 0, 1) := by decide +kernel
theorem dX8_init_337 : decode cX8_init 337 = .ok (.bipush 16, 2) := by decide +kernel
theorem dX8_init_339 : decode cX8_init 339 = .ok (.newarray .int, 2) := by decide +kernel
theorem dX8_init_341 : decode cX8_init 341 = .ok (.putfield 96, 3) := by decide +kernel
theorem dX8_init_344 : decode cX8_init 344 = .ok (.aload_n 0, 1) := by decide +kernel
theorem dX8_init_345 : decode cX8_init 345 = .ok (.iconst 4, 1) := by decide +kernel
theorem dX8_init_346 : decode cX8_init 346 = .ok (.newarray .int, 2) := by decide +kernel
theorem dX8_init_348 : decode cX8_init 348 = .ok (.putfield 99, 3) := by decide +kernel
theorem dX8_init_351 : decode cX8_init 351 = .ok (.aload_n 0, 1) := by decide +kernel
theorem dX8_init_352 : decode cX8_init 352 = .ok (.iconst 4, 1) := by decide +kernel
theorem dX8_init_353 : decode cX8_init 353 = .ok (.newarray .int, 2) := by decide +kernel
theorem dX8_init_355 : decode cX8_init 355 = .ok (.putfield 102, 3) := by decide +kernel
theorem dX8_init_358 : decode cX8_init 358 = .ok (.aload_n 0, 1) := by decide +kernel
theorem dX8_init_359 : decode cX8_init 359 = .ok (.iconst 3, 1) := by decide +kernel
theorem dX8_init_360 : decode cX8_init 360 = .ok (.newarray .int, 2) := by decide +kernel
theorem dX8_init_362 : decode cX8_init 362 = .ok (.putfield 105, 3) := by decide +kernel
theorem dX8_init_365 : decode cX8_init 365 = .ok (.aload_n 0, 1) := by decide +kernel
theorem dX8_init_366 : decode cX8_init 366 = .ok (.iconst 3, 1) := by decide +kernel
theorem dX8_init_367 : decode cX8_init 367 = .ok (.newarray .int, 2) := by decide +kernel
theorem dX8_init_369 : decode cX8_init 369 = .ok (.putfield 108, 3) := by decide +kernel
theorem dX8_init_372 : decode cX8_init 372 = .ok (.aload_n 0, 1) := by decide +kernel
theorem dX8_init_373 : decode cX8_init 373 = .ok (.iconst (-1), 1) := by decide +kernel
theorem dX8_init_374 : decode cX8_init 374 = .ok (.putfield 111, 3) := by decide +kernel
theorem dX8_init_377 : decode cX8_init 377 = .ok (.aload_n 0, 1) := by decide +kernel
theorem dX8_init_378 : decode cX8_init 378 = .ok (.bipush 8, 2) := by decide +kernel
theorem dX8_init_380 : decode cX8_init 380 = .ok (.newarray .int, 2) := by decide +kernel
theorem dX8_init_382 : decode cX8_init 382 = .ok (.putfield 114, 3) := by decide +kernel
theorem dX8_init_385 : decode cX8_init 385 = .ok (.aload_n 0, 1) := by decide +kernel
theorem dX8_init_386 : decode cX8_init 386 = .ok (.bipush 8, 2) := by decide +kernel
theorem dX8_init_388 : decode cX8_init 388 = .ok (.newarray .int, 2) := by decide +kernel
theorem dX8_init_390 : decode cX8_init 390 = .ok (.putfield 117, 3) := by decide +kernel
theorem dX8_init_393 : decode cX8_init 393 = .ok (.aload_n 0, 1) := by decide +kernel
theorem dX8_init_394 : decode cX8_init 394 = .ok (.bipush 6, 2) := by decide +kernel
theorem dX8_init_396 : decode cX8_init 396 = .ok (.newarray .int, 2) := by decide +kernel
theorem dX8_init_398 : decode cX8_init 398 = .ok (.putfield 120, 3) := by decide +kernel
theorem dX8_init_401 : decode cX8_init 401 = .ok (.aload_n 0, 1) := by decide +kernel
theorem dX8_init_402 : decode cX8_init 402 = .ok (.bipush 50, 2) := by decide +kernel
theorem dX8_init_404 : decode cX8_init 404 = .ok (.newarray .int, 2) := by decide +kernel
theorem dX8_init_406 : decode cX8_init 406 = .ok (.putfield 123, 3) := by decide +kernel
theorem dX8_init_409 : decode cX8_init 409 = .ok (.aload_n 0, 1) := by decide +kernel
theorem dX8_init_410 : decode cX8_init 410 = .ok (.bipush 24, 2) := by decide +kernel
theorem dX8_init_412 : decode cX8_init 412 = .ok (.newarray .int, 2) := by decide +kernel
theorem dX8_init_414 : decode cX8_init 414 = .ok (.putfield 126, 3) := by decide +kernel
theorem dX8_init_417 : decode cX8_init 417 = .ok (.aload_n 0, 1) := by decide +kernel
theorem dX8_init_418 : decode cX8_init 418 = .ok (.bipush 6, 2) := by decide +kernel
theorem dX8_init_420 : decode cX8_init 420 = .ok (.newarray .int, 2) := by decide +kernel
theorem dX8_init_422 : decode cX8_init 422 = .ok (.dup, 1) := by decide +kernel
theorem dX8_init_423 : decode cX8_init 423 = .ok (.iconst 0, 1) := by decide +kernel
theorem dX8_init_424 : decode cX8_init 424 = .ok (.iconst (-1), 1) := by decide +kernel
theorem dX8_init_425 : decode cX8_init 425 = .ok (.iastore, 1) := by decide +kernel
theorem dX8_init_426 : decode cX8_init 426 = .ok (.dup, 1) := by decide +kernel
theorem dX8_init_427 : decode cX8_init 427 = .ok (.iconst 1, 1) := by decide +kernel
theorem dX8_init_428 : decode cX8_init 428 = .ok (.iconst (-1), 1) := by decide +kernel
theorem dX8_init_429 : decode cX8_init 429 = .ok (.iastore, 1) := by decide +kernel
theorem dX8_init_430 : decode cX8_init 430 = .ok (.dup, 1) := by decide +kernel
theorem dX8_init_431 : decode cX8_init 431 = .ok (.iconst 2, 1) := by decide +kernel
theorem dX8_init_432 : decode cX8_init 432 = .ok (.iconst (-1), 1) := by decide +kernel
theorem dX8_init_433 : decode cX8_init 433 = .ok (.iastore, 1) := by decide +kernel
theorem dX8_init_434 : decode cX8_init 434 = .ok (.dup, 1) := by decide +kernel
theorem dX8_init_435 : decode cX8_init 435 = .ok (.iconst 3, 1) := by decide +kernel
theorem dX8_init_436 : decode cX8_init 436 = .ok (.iconst (-1), 1) := by decide +kernel
theorem dX8_init_437 : decode cX8_init 437 = .ok (.iastore, 1) := by decide +kernel
theorem dX8_init_438 : decode cX8_init 438 = .ok (.dup, 1) := by decide +kernel
theorem dX8_init_439 : decode cX8_init 439 = .ok (.iconst 4, 1) := by decide +kernel
theorem dX8_init_440 : decode cX8_init 440 = .ok (.iconst (-1), 1) := by decide +kernel
theorem dX8_init_441 : decode cX8_init 441 = .ok (.iastore, 1) := by decide +kernel
theorem dX8_init_442 : decode cX8_init 442 = .ok (.dup, 1) := by decide +kernel
theorem dX8_init_443 : decode cX8_init 443 = .ok (.iconst 5, 1) := by decide +kernel
theorem dX8_init_444 : decode cX8_init 444 = .ok (.iconst (-1), 1) := by decide +kernel
theorem dX8_init_445 : decode cX8_init 445 = .ok (.iastore, 1) := by decide +kernel
theorem dX8_init_446 : decode cX8_init 446 = .ok (.putfield 129, 3) := by decide +kernel
theorem dX8_init_449 : decode cX8_init 449 = .ok (.aload_n 0, 1) := by decide +kernel
theorem dX8_init_450 : decode cX8_init 450 = .ok (.bipush 6, 2) := by decide +kernel
theorem dX8_init_452 : decode cX8_init 452 = .ok (.newarray .int, 2) := by decide +kernel
theorem dX8_init_454 : decode cX8_init 454 = .ok (.putfield 132, 3) := by decide +kernel
theorem dX8_init_457 : decode cX8_init 457 = .ok (.aload_n 0, 1) := by decide +kernel
theorem dX8_init_458 : decode cX8_init 458 = .ok (.sipush 360, 3) := by decide +kernel
theorem dX8_init_461 : decode cX8_init 461 = .ok (.newarray .long, 2) := by decide +kernel
theorem dX8_init_463 : decode cX8_init 463 = .ok (.putfield 135, 3) := by decide +kernel
theorem dX8_init_466 : decode cX8_init 466 = .ok (.aload_n 0, 1) := by decide +kernel
theorem dX8_init_467 : decode cX8_init 467 = .ok (.bipush 60, 2) := by decide +kernel
theorem dX8_init_469 : decode cX8_init 469 = .ok (.newarray .long, 2) := by decide +kernel
theorem dX8_init_471 : decode cX8_init 471 = .ok (.putfield 139, 3) := by decide +kernel
theorem dX8_init_474 : decode cX8_init 474 = .ok (.return_, 1) := by decide +kernel
theorem dX8_in_0 : decode cX8_in 0 = .ok (.iload_n 0, 1) := by decide +kernel
theorem dX8_in_1 : decode cX8_in 1 = .ok (.iload_n 1, 1) := by decide +kernel
theorem dX8_in_2 : decode cX8_in 2 = .ok (.if_icmp .lt 12, 3) := by decide +kernel
theorem dX8_in_5 : decode cX8_in 5 = .ok (.iload_n 0, 1) := by decide +kernel
theorem dX8_in_6 : decode cX8_in 6 = .ok (.iload_n 2, 1) := by decide +kernel
theorem dX8_in_7 : decode cX8_in 7 = .ok (.if_icmp .gt 7, 3) := by decide +kernel
theorem dX8_in_10 : decode cX8_in 10 = .ok (.iconst 1, 1) := by decide +kernel
theorem dX8_in_11 : decode cX8_in 11 = .ok (.goto 4, 3) := by decide +kernel
theorem dX8_in_14 : decode cX8_in 14 = .ok (.iconst 0, 1) := by decide +kernel
theorem dX8_in_15 : decode cX8_in 15 = .ok (.ireturn, 1) := by decide +kernel
theorem dX8_isCard_0 : decode cX8_isCard 0 = .ok (.iload_n 1, 1) := by decide +kernel
theorem dX8_isCard_1 : decode cX8_isCard 1 = .ok (.iconst 0, 1) := by decide +kernel
theorem dX8_isCard_2 : decode cX8_isCard 2 = .ok (.aload_n 0, 1) := by decide +kernel
theorem dX8_isCard_3 : decode cX8_isCard 3 = .ok (.getfield 145, 3) := by decide +kernel
theorem dX8_isCard_6 : decode cX8_isCard 6 = .ok (.iconst 1, 1) := by decide +kernel
theorem dX8_isCard_7 : decode cX8_isCard 7 = .ok (.isub, 1) := by decide +kernel
theorem dX8_isCard_8 : decode cX8_isCard 8 = .ok (.invokestatic 148, 3) := by decide +kernel
theorem dX8_isCard_11 : decode cX8_isCard 11 = .ok (.ireturn, 1) := by decide +kernel
theorem dX8_isColour_0 : decode cX8_isColour 0 = .ok (.iload_n 0, 1) := by decide +kernel
theorem dX8_isColour_1 : decode cX8_isColour 1 = .ok (.iconst 0, 1) := by decide +kernel
theorem dX8_isColour_2 : decode cX8_isColour 2 = .ok (.iconst 5, 1) := by decide +kernel
theorem dX8_isColour_3 : decode cX8_isColour 3 = .ok (.invokestatic 148, 3) := by decide +kernel
theorem dX8_isColour_6 : decode cX8_isColour 6 = .ok (.ireturn, 1) := by decide +kernel
theorem dX8_addCard_0 : decode cX8_addCard 0 = .ok (.aload_n 0, 1) := by decide +kernel
theorem dX8_addCard_1 : decode cX8_addCard 1 = .ok (.getfield 15, 3) := by decide +kernel
theorem dX8_addCard_4 : decode cX8_addCard 4 = .ok (.aload_n 0, 1) := by decide +kernel
theorem dX8_addCard_5 : decode cX8_addCard 5 = .ok (.getfield 145, 3) := by decide +kernel
theorem dX8_addCard_8 : decode cX8_addCard 8 = .ok (.iload_n 1, 1) := by decide +kernel
theorem dX8_addCard_9 : decode cX8_addCard 9 = .ok (.iastore, 1) := by decide +kernel
theorem dX8_addCard_10 : decode cX8_addCard 10 = .ok (.aload_n 0, 1) := by decide +kernel
theorem dX8_addCard_11 : decode cX8_addCard 11 = .ok (.getfield 18, 3) := by decide +kernel
theorem dX8_addCard_14 : decode cX8_addCard 14 = .ok (.aload_n 0, 1) := by decide +kernel
theorem dX8_addCard_15 : decode cX8_addCard 15 = .ok (.getfield 145, 3) := by decide +kernel
theorem dX8_addCard_18 : decode cX8_addCard 18 = .ok (.iload_n 2, 1) := by decide +kernel
theorem dX8_addCard_19 : decode cX8_addCard 19 = .ok (.iastore, 1) := by decide +kernel
theorem dX8_addCard_20 : decode cX8_addCard 20 = .ok (.aload_n 0, 1) := by decide +kernel
theorem dX8_addCard_21 : decode cX8_addCard 21 = .ok (.getfield 9, 3) := by decide +kernel
theorem dX8_addCard_24 : decode cX8_addCard 24 = .ok (.aload_n 0, 1) := by decide +kernel
theorem dX8_addCard_25 : decode cX8_addCard 25 = .ok (.getfield 145, 3) := by decide +kernel
theorem dX8_addCard_28 : decode cX8_addCard 28 = .ok (.iload_n 3, 1) := by decide +kernel
theorem dX8_addCard_29 : decode cX8_addCard 29 = .ok (.iastore, 1) := by decide +kernel
theorem dX8_addCard_30 : decode cX8_addCard 30 = .ok (.aload_n 0, 1) := by decide +kernel
theorem dX8_addCard_31 : decode cX8_addCard 31 = .ok (.getfield 21, 3) := by decide +kernel
theorem dX8_addCard_34 : decode cX8_addCard 34 = .ok (.aload_n 0, 1) := by decide +kernel
theorem dX8_addCard_35 : decode cX8_addCard 35 = .ok (.getfield 145, 3) := by decide +kernel
theorem dX8_addCard_38 : decode cX8_addCard 38 = .ok (.iconst 0, 1) := by decide +kernel
theorem dX8_addCard_39 : decode cX8_addCard 39 = .ok (.iastore, 1) := by decide +kernel
theorem dX8_addCard_40 : decode cX8_addCard 40 = .ok (.aload_n 0, 1) := by decide +kernel
theorem dX8_addCard_41 : decode cX8_addCard 41 = .ok (.dup, 1) := by decide +kernel
theorem dX8_addCard_42 : decode cX8_addCard 42 = .ok (.getfield 145, 3) := by decide +kernel
theorem dX8_addCard_45 : decode cX8_addCard 45 = .ok (.iconst 1, 1) := by decide +kernel
theorem dX8_addCard_46 : decode cX8_addCard 46 = .ok (.iadd, 1) := by decide +kernel
theorem dX8_addCard_47 : decode cX8_addCard 47 = .ok (.putfield 145, 3) := by decide +kernel
theorem dX8_addCard_50 : decode cX8_addCard 50 = .ok (.aload_n 0, 1) := by decide +kernel
theorem dX8_addCard_51 : decode cX8_addCard 51 = .ok (.getfield 145, 3) := by decide +kernel
theorem dX8_addCard_54 : decode cX8_addCard 54 = .ok (.iconst 1, 1) := by decide +kernel
theorem dX8_addCard_55 : decode cX8_addCard 55 = .ok (.isub, 1) := by decide +kernel
theorem dX8_addCard_56 : decode cX8_addCard 56 = .ok (.ireturn, 1) := by decide +kernel
theorem dX8_isCardSo_0 : decode cX8_isCardSo 0 = .ok (.iload_n 0, 1) := by decide +kernel
theorem dX8_isCardSo_1 : decode cX8_isCardSo 1 = .ok (.invokestatic 152, 3) := by decide +kernel
theorem dX8_isCardSo_4 : decode cX8_isCardSo 4 = .ok (.ifCond .eq 24, 3) := by decide +kernel
theorem dX8_isCardSo_7 : decode cX8_isCardSo 7 = .ok (.iload_n 1, 1) := by decide +kernel
theorem dX8_isCardSo_8 : decode cX8_isCardSo 8 = .ok (.invokestatic 152, 3) := by decide +kernel
theorem dX8_isCardSo_11 : decode cX8_isCardSo 11 = .ok (.ifCond .eq 17, 3) := by decide +kernel
theorem dX8_isCardSo_14 : decode cX8_isCardSo 14 = .ok (.iload_n 2, 1) := by decide +kernel
theorem dX8_isCardSo_15 : decode cX8_isCardSo 15 = .ok (.iconst 0, 1) := by decide +kernel
theorem dX8_isCardSo_16 : decode cX8_isCardSo 16 = .ok (.bipush 9, 2) := by decide +kernel
theorem dX8_isCardSo_18 : decode cX8_isCardSo 18 = .ok (.invokestatic 148, 3) := by decide +kernel
theorem dX8_isCardSo_21 : decode cX8_isCardSo 21 = .ok (.ifCond .eq 7, 3) := by decide +kernel
theorem dX8_isCardSo_24 : decode cX8_isCardSo 24 = .ok (.iconst 1, 1) := by decide +kernel
theorem dX8_isCardSo_25 : decode cX8_isCardSo 25 = .ok (.goto 4, 3) := by decide +kernel
theorem dX8_isCardSo_28 : decode cX8_isCardSo 28 = .ok (.iconst 0, 1) := by decide +kernel
theorem dX8_isCardSo_29 : decode cX8_isCardSo 29 = .ok (.ireturn, 1) := by decide +kernel
theorem dX8_card_0 : decode cX8_card 0 = .ok (.iload_n 1, 1) := by decide +kernel
theorem dX8_card_1 : decode cX8_card 1 = .ok (.ifCond .lt 24, 3) := by decide +kernel
theorem dX8_card_4 : decode cX8_card 4 = .ok (.iload_n 1, 1) := by decide +kernel
theorem dX8_card_5 : decode cX8_card 5 = .ok (.bipush 100, 2) := by decide +kernel
theorem dX8_card_7 : decode cX8_card 7 = .ok (.idiv, 1) := by decide +kernel
theorem dX8_card_8 : decode cX8_card 8 = .ok (.iload_n 1, 1) := by decide +kernel
theorem dX8_card_9 : decode cX8_card 9 = .ok (.bipush 10, 2) := by decide +kernel
theorem dX8_card_11 : decode cX8_card 11 = .ok (.idiv, 1) := by decide +kernel
theorem dX8_card_12 : decode cX8_card 12 = .ok (.bipush 10, 2) := by decide +kernel
theorem dX8_card_14 : decode cX8_card 14 = .ok (.irem, 1) := by decide +kernel
theorem dX8_card_15 : decode cX8_card 15 = .ok (.iload_n 1, 1) := by decide +kernel
theorem dX8_card_16 : decode cX8_card 16 = .ok (.bipush 10, 2) := by decide +kernel
theorem dX8_card_18 : decode cX8_card 18 = .ok (.irem, 1) := by decide +kernel
theorem dX8_card_19 : decode cX8_card 19 = .ok (.invokestatic 156, 3) := by decide +kernel
theorem dX8_card_22 : decode cX8_card 22 = .ok (.ifCond .ne 5, 3) := by decide +kernel
theorem dX8_card_25 : decode cX8_card 25 = .ok (.iconst (-1), 1) := by decide +kernel
theorem dX8_card_26 : decode cX8_card 26 = .ok (.ireturn, 1) := by decide +kernel
theorem dX8_card_27 : decode cX8_card 27 = .ok (.aload_n 0, 1) := by decide +kernel
theorem dX8_card_28 : decode cX8_card 28 = .ok (.getfield 145, 3) := by decide +kernel
theorem dX8_card_31 : decode cX8_card 31 = .ok (.bipush 8, 2) := by decide +kernel
theorem dX8_card_33 : decode cX8_card 33 = .ok (.if_icmp .ne 8, 3) := by decide +kernel
theorem dX8_card_36 : decode cX8_card 36 = .ok (.bipush (-3), 2) := by decide +kernel
theorem dX8_card_38 : decode cX8_card 38 = .ok (.goto 22, 3) := by decide +kernel
theorem dX8_card_41 : decode cX8_card 41 = .ok (.aload_n 0, 1) := by decide +kernel
theorem dX8_card_42 : decode cX8_card 42 = .ok (.iload_n 1, 1) := by decide +kernel
theorem dX8_card_43 : decode cX8_card 43 = .ok (.bipush 100, 2) := by decide +kernel
theorem dX8_card_45 : decode cX8_card 45 = .ok (.idiv, 1) := by decide +kernel
theorem dX8_card_46 : decode cX8_card 46 = .ok (.iload_n 1, 1) := by decide +kernel
theorem dX8_card_47 : decode cX8_card 47 = .ok (.bipush 10, 2) := by decide +kernel
theorem dX8_card_49 : decode cX8_card 49 = .ok (.idiv, 1) := by decide +kernel
theorem dX8_card_50 : decode cX8_card 50 = .ok (.bipush 10, 2) := by decide +kernel
theorem dX8_card_52 : decode cX8_card 52 = .ok (.irem, 1) := by decide +kernel
theorem dX8_card_53 : decode cX8_card 53 = .ok (.iload_n 1, 1) := by decide +kernel
theorem dX8_card_54 : decode cX8_card 54 = .ok (.bipush 10, 2) := by decide +kernel
theorem dX8_card_56 : decode cX8_card 56 = .ok (.irem, 1) := by decide +kernel
theorem dX8_card_57 : decode cX8_card 57 = .ok (.invokevirtual 159, 3) := by decide +kernel
theorem dX8_card_60 : decode cX8_card 60 = .ok (.ireturn, 1) := by decide +kernel
theorem dX8_cards_0 : decode cX8_cards 0 = .ok (.iload_n 1, 1) := by decide +kernel
theorem dX8_cards_1 : decode cX8_cards 1 = .ok (.invokestatic 163, 3) := by decide +kernel
theorem dX8_cards_4 : decode cX8_cards 4 = .ok (.ifCond .eq 13, 3) := by decide +kernel
theorem dX8_cards_7 : decode cX8_cards 7 = .ok (.iload_n 3, 1) := by decide +kernel
theorem dX8_cards_8 : decode cX8_cards 8 = .ok (.iconst 1, 1) := by decide +kernel
theorem dX8_cards_9 : decode cX8_cards 9 = .ok (.bipush 8, 2) := by decide +kernel
theorem dX8_cards_11 : decode cX8_cards 11 = .ok (.invokestatic 148, 3) := by decide +kernel
theorem dX8_cards_14 : decode cX8_cards 14 = .ok (.ifCond .ne 5, 3) := by decide +kernel
theorem dX8_cards_17 : decode cX8_cards 17 = .ok (.iconst (-1), 1) := by decide +kernel
theorem dX8_cards_18 : decode cX8_cards 18 = .ok (.ireturn, 1) := by decide +kernel
theorem dX8_cards_19 : decode cX8_cards 19 = .ok (.aload_n 0, 1) := by decide +kernel
theorem dX8_cards_20 : decode cX8_cards 20 = .ok (.getfield 129, 3) := by decide +kernel
theorem dX8_cards_23 : decode cX8_cards 23 = .ok (.iload_n 1, 1) := by decide +kernel
theorem dX8_cards_24 : decode cX8_cards 24 = .ok (.iaload, 1) := by decide +kernel
theorem dX8_cards_25 : decode cX8_cards 25 = .ok (.iconst (-1), 1) := by decide +kernel
theorem dX8_cards_26 : decode cX8_cards 26 = .ok (.if_icmp .eq 17, 3) := by decide +kernel
theorem dX8_cards_29 : decode cX8_cards 29 = .ok (.aload_n 0, 1) := by decide +kernel
theorem dX8_cards_30 : decode cX8_cards 30 = .ok (.getfield 129, 3) := by decide +kernel
theorem dX8_cards_33 : decode cX8_cards 33 = .ok (.iload_n 1, 1) := by decide +kernel
theorem dX8_cards_34 : decode cX8_cards 34 = .ok (.iaload, 1) := by decide +kernel
theorem dX8_cards_35 : decode cX8_cards 35 = .ok (.bipush (-2), 2) := by decide +kernel
theorem dX8_cards_37 : decode cX8_cards 37 = .ok (.if_icmp .eq 6, 3) := by decide +kernel
theorem dX8_cards_40 : decode cX8_cards 40 = .ok (.bipush (-12), 2) := by decide +kernel
theorem dX8_cards_42 : decode cX8_cards 42 = .ok (.ireturn, 1) := by decide +kernel
theorem dX8_cards_43 : decode cX8_cards 43 = .ok (.aload_n 0, 1) := by decide +kernel
theorem dX8_cards_44 : decode cX8_cards 44 = .ok (.getfield 129, 3) := by decide +kernel
theorem dX8_cards_47 : decode cX8_cards 47 = .ok (.iload_n 1, 1) := by decide +kernel
theorem dX8_cards_48 : decode cX8_cards 48 = .ok (.iaload, 1) := by decide +kernel
theorem dX8_cards_49 : decode cX8_cards 49 = .ok (.iconst (-1), 1) := by decide +kernel
theorem dX8_cards_50 : decode cX8_cards 50 = .ok (.if_icmp .ne 5, 3) := by decide +kernel
theorem dX8_cards_53 : decode cX8_cards 53 = .ok (.iconst 0, 1) := by decide +kernel
theorem dX8_cards_54 : decode cX8_cards 54 = .ok (.ireturn, 1) := by decide +kernel
theorem dX8_cards_55 : decode cX8_cards 55 = .ok (.iconst 0, 1) := by decide +kernel
theorem dX8_cards_56 : decode cX8_cards 56 = .ok (.istore 4, 2) := by decide +kernel
theorem dX8_cards_58 : decode cX8_cards 58 = .ok (.iload 4, 2) := by decide +kernel
theorem dX8_cards_60 : decode cX8_cards 60 = .ok (.iload_n 3, 1) := by decide +kernel
theorem dX8_cards_61 : decode cX8_cards 61 = .ok (.if_icmp .ge 135, 3) := by decide +kernel
theorem dX8_cards_64 : decode cX8_cards 64 = .ok (.iload_n 2, 1) := by decide +kernel
theorem dX8_cards_65 : decode cX8_cards 65 = .ok (.i2l, 1) := by decide +kernel
theorem dX8_cards_66 : decode cX8_cards 66 = .ok (.iconst 3, 1) := by decide +kernel
theorem dX8_cards_67 : decode cX8_cards 67 = .ok (.iload 4, 2) := by decide +kernel
theorem dX8_cards_69 : decode cX8_cards 69 = .ok (.imul, 1) := by decide +kernel
theorem dX8_cards_70 : decode cX8_cards 70 = .ok (.i2l, 1) := by decide +kernel
theorem dX8_cards_71 : decode cX8_cards 71 = .ok (.ladd, 1) := by decide +kernel
theorem dX8_cards_72 : decode cX8_cards 72 = .ok (.lstore 5, 2) := by decide +kernel
theorem dX8_cards_74 : decode cX8_cards 74 = .ok (.lload 5, 2) := by decide +kernel
theorem dX8_cards_76 : decode cX8_cards 76 = .ok (.lconst 0, 1) := by decide +kernel
theorem dX8_cards_77 : decode cX8_cards 77 = .ok (.lcmp, 1) := by decide +kernel
theorem dX8_cards_78 : decode cX8_cards 78 = .ok (.ifCond .lt 29, 3) := by decide +kernel
theorem dX8_cards_81 : decode cX8_cards 81 = .ok (.lload 5, 2) := by decide +kernel
theorem dX8_cards_83 : decode cX8_cards 83 = .ok (.ldc2_w 166, 3) := by decide +kernel
theorem dX8_cards_86 : decode cX8_cards 86 = .ok (.ladd, 1) := by decide +kernel
theorem dX8_cards_87 : decode cX8_cards 87 = .ok (.aload_n 0, 1) := by decide +kernel
theorem dX8_cards_88 : decode cX8_cards 88 = .ok (.getfield 132, 3) := by decide +kernel
theorem dX8_cards_91 : decode cX8_cards 91 = .ok (.iload_n 1, 1) := by decide +kernel
theorem dX8_cards_92 : decode cX8_cards 92 = .ok (.iaload, 1) := by decide +kernel
theorem dX8_cards_93 : decode cX8_cards 93 = .ok (.i2l, 1) := by decide +kernel
theorem dX8_cards_94 : decode cX8_cards 94 = .ok (.lcmp, 1) := by decide +kernel
theorem dX8_cards_95 : decode cX8_cards 95 = .ok (.ifCond .ge 12, 3) := by decide +kernel
theorem dX8_cards_98 : decode cX8_cards 98 = .ok (.aload_n 0, 1) := by decide +kernel
theorem dX8_cards_99 : decode cX8_cards 99 = .ok (.getfield 145, 3) := by decide +kernel
theorem dX8_cards_102 : decode cX8_cards 102 = .ok (.bipush 8, 2) := by decide +kernel
theorem dX8_cards_104 : decode cX8_cards 104 = .ok (.if_icmp .ne 6, 3) := by decide +kernel
theorem dX8_cards_107 : decode cX8_cards 107 = .ok (.iload 4, 2) := by decide +kernel
theorem dX8_cards_109 : decode cX8_cards 109 = .ok (.ireturn, 1) := by decide +kernel
theorem dX8_cards_110 : decode cX8_cards 110 = .ok (.bipush 60, 2) := by decide +kernel
theorem dX8_cards_112 : decode cX8_cards 112 = .ok (.iload_n 1, 1) := by decide +kernel
theorem dX8_cards_113 : decode cX8_cards 113 = .ok (.imul, 1) := by decide +kernel
theorem dX8_cards_114 : decode cX8_cards 114 = .ok (.lload 5, 2) := by decide +kernel
theorem dX8_cards_116 : decode cX8_cards 116 = .ok (.l2i, 1) := by decide +kernel
theorem dX8_cards_117 : decode cX8_cards 117 = .ok (.iadd, 1) := by decide +kernel
theorem dX8_cards_118 : decode cX8_cards 118 = .ok (.istore 7, 2) := by decide +kernel
theorem dX8_cards_120 : decode cX8_cards 120 = .ok (.aload_n 0, 1) := by decide +kernel
theorem dX8_cards_121 : decode cX8_cards 121 = .ok (.getfield 135, 3) := by decide +kernel
theorem dX8_cards_124 : decode cX8_cards 124 = .ok (.iload 7, 2) := by decide +kernel
theorem dX8_cards_126 : decode cX8_cards 126 = .ok (.laload, 1) := by decide +kernel
theorem dX8_cards_127 : decode cX8_cards 127 = .ok (.l2i, 1) := by decide +kernel
theorem dX8_cards_128 : decode cX8_cards 128 = .ok (.aload_n 0, 1) := by decide +kernel
theorem dX8_cards_129 : decode cX8_cards 129 = .ok (.getfield 135, 3) := by decide +kernel
theorem dX8_cards_132 : decode cX8_cards 132 = .ok (.iload 7, 2) := by decide +kernel
theorem dX8_cards_134 : decode cX8_cards 134 = .ok (.iconst 1, 1) := by decide +kernel
theorem dX8_cards_135 : decode cX8_cards 135 = .ok (.iadd, 1) := by decide +kernel
theorem dX8_cards_136 : decode cX8_cards 136 = .ok (.laload, 1) := by decide +kernel
theorem dX8_cards_137 : decode cX8_cards 137 = .ok (.l2i, 1) := by decide +kernel
theorem dX8_cards_138 : decode cX8_cards 138 = .ok (.aload_n 0, 1) := by decide +kernel
theorem dX8_cards_139 : decode cX8_cards 139 = .ok (.getfield 135, 3) := by decide +kernel
theorem dX8_cards_142 : decode cX8_cards 142 = .ok (.iload 7, 2) := by decide +kernel
theorem dX8_cards_144 : decode cX8_cards 144 = .ok (.iconst 2, 1) := by decide +kernel
theorem dX8_cards_145 : decode cX8_cards 145 = .ok (.iadd, 1) := by decide +kernel
theorem dX8_cards_146 : decode cX8_cards 146 = .ok (.laload, 1) := by decide +kernel
theorem dX8_cards_147 : decode cX8_cards 147 = .ok (.l2i, 1) := by decide +kernel
theorem dX8_cards_148 : decode cX8_cards 148 = .ok (.invokestatic 156, 3) := by decide +kernel
theorem dX8_cards_151 : decode cX8_cards 151 = .ok (.ifCond .ne 6, 3) := by decide +kernel
theorem dX8_cards_154 : decode cX8_cards 154 = .ok (.iload 4, 2) := by decide +kernel
theorem dX8_cards_156 : decode cX8_cards 156 = .ok (.ireturn, 1) := by decide +kernel
theorem dX8_cards_157 : decode cX8_cards 157 = .ok (.aload_n 0, 1) := by decide +kernel
theorem dX8_cards_158 : decode cX8_cards 158 = .ok (.aload_n 0, 1) := by decide +kernel
theorem dX8_cards_159 : decode cX8_cards 159 = .ok (.getfield 135, 3) := by decide +kernel
theorem dX8_cards_162 : decode cX8_cards 162 = .ok (.iload 7, 2) := by decide +kernel
theorem dX8_cards_164 : decode cX8_cards 164 = .ok (.laload, 1) := by decide +kernel
theorem dX8_cards_165 : decode cX8_cards 165 = .ok (.l2i, 1) := by decide +kernel
theorem dX8_cards_166 : decode cX8_cards 166 = .ok (.aload_n 0, 1) := by decide +kernel
theorem dX8_cards_167 : decode cX8_cards 167 = .ok (.getfield 135, 3) := by decide +kernel
theorem dX8_cards_170 : decode cX8_cards 170 = .ok (.iload 7, 2) := by decide +kernel
theorem dX8_cards_172 : decode cX8_cards 172 = .ok (.iconst 1, 1) := by decide +kernel
theorem dX8_cards_173 : decode cX8_cards 173 = .ok (.iadd, 1) := by decide +kernel
theorem dX8_cards_174 : decode cX8_cards 174 = .ok (.laload, 1) := by decide +kernel
theorem dX8_cards_175 : decode cX8_cards 175 = .ok (.l2i, 1) := by decide +kernel
theorem dX8_cards_176 : decode cX8_cards 176 = .ok (.aload_n 0, 1) := by decide +kernel
theorem dX8_cards_177 : decode cX8_cards 177 = .ok (.getfield 135, 3) := by decide +kernel
theorem dX8_cards_180 : decode cX8_cards 180 = .ok (.iload 7, 2) := by decide +kernel
theorem dX8_cards_182 : decode cX8_cards 182 = .ok (.iconst 2, 1) := by decide +kernel
theorem dX8_cards_183 : decode cX8_cards 183 = .ok (.iadd, 1) := by decide +kernel
theorem dX8_cards_184 : decode cX8_cards 184 = .ok (.laload, 1) := by decide +kernel
theorem dX8_cards_185 : decode cX8_cards 185 = .ok (.l2i, 1) := by decide +kernel
theorem dX8_cards_186 : decode cX8_cards 186 = .ok (.invokevirtual 159, 3) := by decide +kernel
theorem dX8_cards_189 : decode cX8_cards 189 = .ok (.pop, 1) := by decide +kernel
theorem dX8_cards_190 : decode cX8_cards 190 = .ok (.iinc 4 1, 3) := by decide +kernel
theorem dX8_cards_193 : decode cX8_cards 193 = .ok (.goto (-135), 3) := by decide +kernel
theorem dX8_cards_196 : decode cX8_cards 196 = .ok (.iload_n 3, 1) := by decide +kernel
theorem dX8_cards_197 : decode cX8_cards 197 = .ok (.ireturn, 1) := by decide +kernel
theorem dX8_valueAt_0 : decode cX8_valueAt 0 = .ok (.iload_n 1, 1) := by decide +kernel
theorem dX8_valueAt_1 : decode cX8_valueAt 1 = .ok (.tableswitch 132 0 10 #[59, 66, 73, 80, 87, 94, 101, 108, 115, 122, 127], 59) := by decide +kernel
theorem dX8_valueAt_60 : decode cX8_valueAt 60 = .ok (.aload_n 0, 1) := by decide +kernel
theorem dX8_valueAt_61 : decode cX8_valueAt 61 = .ok (.getfield 9, 3) := by decide +kernel
theorem dX8_valueAt_64 : decode cX8_valueAt 64 = .ok (.iload_n 2, 1) := by decide +kernel
theorem dX8_valueAt_65 : decode cX8_valueAt 65 = .ok (.iaload, 1) := by decide +kernel
theorem dX8_valueAt_66 : decode cX8_valueAt 66 = .ok (.ireturn, 1) := by decide +kernel
theorem dX8_valueAt_67 : decode cX8_valueAt 67 = .ok (.aload_n 0, 1) := by decide +kernel
theorem dX8_valueAt_68 : decode cX8_valueAt 68 = .ok (.getfield 15, 3) := by decide +kernel
theorem dX8_valueAt_71 : decode cX8_valueAt 71 = .ok (.iload_n 2, 1) := by decide +kernel
theorem dX8_valueAt_72 : decode cX8_valueAt 72 = .ok (.iaload, 1) := by decide +kernel
theorem dX8_valueAt_73 : decode cX8_valueAt 73 = .ok (.ireturn, 1) := by decide +kernel
theorem dX8_valueAt_74 : decode cX8_valueAt 74 = .ok (.aload_n 0, 1) := by decide +kernel
theorem dX8_valueAt_75 : decode cX8_valueAt 75 = .ok (.getfield 18, 3) := by decide +kernel
theorem dX8_valueAt_78 : decode cX8_valueAt 78 = .ok (.iload_n 2, 1) := by decide +kernel
theorem dX8_valueAt_79 : decode cX8_valueAt 79 = .ok (.iaload, 1) := by decide +kernel
theorem dX8_valueAt_80 : decode cX8_valueAt 80 = .ok (.ireturn, 1) := by decide +kernel
theorem dX8_valueAt_81 : decode cX8_valueAt 81 = .ok (.aload_n 0, 1) := by decide +kernel
theorem dX8_valueAt_82 : decode cX8_valueAt 82 = .ok (.getfield 24, 3) := by decide +kernel
theorem dX8_valueAt_85 : decode cX8_valueAt 85 = .ok (.iload_n 2, 1) := by decide +kernel
theorem dX8_valueAt_86 : decode cX8_valueAt 86 = .ok (.iaload, 1) := by decide +kernel
theorem dX8_valueAt_87 : decode cX8_valueAt 87 = .ok (.ireturn, 1) := by decide +kernel
theorem dX8_valueAt_88 : decode cX8_valueAt 88 = .ok (.aload_n 0, 1) := by decide +kernel
theorem dX8_valueAt_89 : decode cX8_valueAt 89 = .ok (.getfield 27, 3) := by decide +kernel
theorem dX8_valueAt_92 : decode cX8_valueAt 92 = .ok (.iload_n 2, 1) := by decide +kernel
theorem dX8_valueAt_93 : decode cX8_valueAt 93 = .ok (.iaload, 1) := by decide +kernel
theorem dX8_valueAt_94 : decode cX8_valueAt 94 = .ok (.ireturn, 1) := by decide +kernel
theorem dX8_valueAt_95 : decode cX8_valueAt 95 = .ok (.aload_n 0, 1) := by decide +kernel
theorem dX8_valueAt_96 : decode cX8_valueAt 96 = .ok (.getfield 30, 3) := by decide +kernel
theorem dX8_valueAt_99 : decode cX8_valueAt 99 = .ok (.iload_n 2, 1) := by decide +kernel
theorem dX8_valueAt_100 : decode cX8_valueAt 100 = .ok (.iaload, 1) := by decide +kernel
theorem dX8_valueAt_101 : decode cX8_valueAt 101 = .ok (.ireturn, 1) := by decide +kernel
theorem dX8_valueAt_102 : decode cX8_valueAt 102 = .ok (.aload_n 0, 1) := by decide +kernel
theorem dX8_valueAt_103 : decode cX8_valueAt 103 = .ok (.getfield 33, 3) := by decide +kernel
theorem dX8_valueAt_106 : decode cX8_valueAt 106 = .ok (.iload_n 2, 1) := by decide +kernel
theorem dX8_valueAt_107 : decode cX8_valueAt 107 = .ok (.iaload, 1) := by decide +kernel
theorem dX8_valueAt_108 : decode cX8_valueAt 108 = .ok (.ireturn, 1) := by decide +kernel
theorem dX8_valueAt_109 : decode cX8_valueAt 109 = .ok (.aload_n 0, 1) := by decide +kernel
theorem dX8_valueAt_110 : decode cX8_valueAt 110 = .ok (.getfield 36, 3) := by decide +kernel
theorem dX8_valueAt_113 : decode cX8_valueAt 113 = .ok (.iload_n 2, 1) := by decide +kernel
theorem dX8_valueAt_114 : decode cX8_valueAt 114 = .ok (.iaload, 1) := by decide +kernel
theorem dX8_valueAt_115 : decode cX8_valueAt 115 = .ok (.ireturn, 1) := by decide +kernel
theorem dX8_valueAt_116 : decode cX8_valueAt 116 = .ok (.aload_n 0, 1) := by decide +kernel
theorem dX8_valueAt_117 : decode cX8_valueAt 117 = .ok (.getfield 39, 3) := by decide +kernel
theorem dX8_valueAt_120 : decode cX8_valueAt 120 = .ok (.iload_n 2, 1) := by decide +kernel
theorem dX8_valueAt_121 : decode cX8_valueAt 121 = .ok (.iaload, 1) := by decide +kernel
theorem dX8_valueAt_122 : decode cX8_valueAt 122 = .ok (.ireturn, 1) := by decide +kernel
theorem dX8_valueAt_123 : decode cX8_valueAt 123 = .ok (.aload_n 0, 1) := by decide +kernel
theorem dX8_valueAt_124 : decode cX8_valueAt 124 = .ok (.getfield 42, 3) := by decide +kernel
theorem dX8_valueAt_127 : decode cX8_valueAt 127 = .ok (.ireturn, 1) := by decide +kernel
theorem dX8_valueAt_128 : decode cX8_valueAt 128 = .ok (.aload_n 0, 1) := by decide +kernel
theorem dX8_valueAt_129 : decode cX8_valueAt 129 = .ok (.getfield 46, 3) := by decide +kernel
theorem dX8_valueAt_132 : decode cX8_valueAt 132 = .ok (.ireturn, 1) := by decide +kernel
theorem dX8_valueAt_133 : decode cX8_valueAt 133 = .ok (.aload_n 0, 1) := by decide +kernel
theorem dX8_valueAt_134 : decode cX8_valueAt 134 = .ok (.getfield 49, 3) := by decide +kernel
theorem dX8_valueAt_137 : decode cX8_valueAt 137 = .ok (.iload_n 2, 1) := by decide +kernel
theorem dX8_valueAt_138 : decode cX8_valueAt 138 = .ok (.iaload, 1) := by decide +kernel
theorem dX8_valueAt_139 : decode cX8_valueAt 139 = .ok (.ireturn, 1) := by decide +kernel
theorem dX8_lays_0 : decode cX8_lays 0 = .ok (.iload_n 1, 1) := by decide +kernel
theorem dX8_lays_1 : decode cX8_lays 1 = .ok (.tableswitch 165 0 10 #[59, 69, 79, 89, 99, 109, 119, 129, 139, 149, 157], 59) := by decide +kernel
theorem dX8_lays_60 : decode cX8_lays 60 = .ok (.aload_n 0, 1) := by decide +kernel
theorem dX8_lays_61 : decode cX8_lays 61 = .ok (.getfield 9, 3) := by decide +kernel
theorem dX8_lays_64 : decode cX8_lays 64 = .ok (.iload_n 2, 1) := by decide +kernel
theorem dX8_lays_65 : decode cX8_lays 65 = .ok (.iload_n 3, 1) := by decide +kernel
theorem dX8_lays_66 : decode cX8_lays 66 = .ok (.iastore, 1) := by decide +kernel
theorem dX8_lays_67 : decode cX8_lays 67 = .ok (.goto 106, 3) := by decide +kernel
theorem dX8_lays_70 : decode cX8_lays 70 = .ok (.aload_n 0, 1) := by decide +kernel
theorem dX8_lays_71 : decode cX8_lays 71 = .ok (.getfield 15, 3) := by decide +kernel
theorem dX8_lays_74 : decode cX8_lays 74 = .ok (.iload_n 2, 1) := by decide +kernel
theorem dX8_lays_75 : decode cX8_lays 75 = .ok (.iload_n 3, 1) := by decide +kernel
theorem dX8_lays_76 : decode cX8_lays 76 = .ok (.iastore, 1) := by decide +kernel
theorem dX8_lays_77 : decode cX8_lays 77 = .ok (.goto 96, 3) := by decide +kernel
theorem dX8_lays_80 : decode cX8_lays 80 = .ok (.aload_n 0, 1) := by decide +kernel
theorem dX8_lays_81 : decode cX8_lays 81 = .ok (.getfield 18, 3) := by decide +kernel
theorem dX8_lays_84 : decode cX8_lays 84 = .ok (.iload_n 2, 1) := by decide +kernel
theorem dX8_lays_85 : decode cX8_lays 85 = .ok (.iload_n 3, 1) := by decide +kernel
theorem dX8_lays_86 : decode cX8_lays 86 = .ok (.iastore, 1) := by decide +kernel
theorem dX8_lays_87 : decode cX8_lays 87 = .ok (.goto 86, 3) := by decide +kernel
theorem dX8_lays_90 : decode cX8_lays 90 = .ok (.aload_n 0, 1) := by decide +kernel
theorem dX8_lays_91 : decode cX8_lays 91 = .ok (.getfield 24, 3) := by decide +kernel
theorem dX8_lays_94 : decode cX8_lays 94 = .ok (.iload_n 2, 1) := by decide +kernel
theorem dX8_lays_95 : decode cX8_lays 95 = .ok (.iload_n 3, 1) := by decide +kernel
theorem dX8_lays_96 : decode cX8_lays 96 = .ok (.iastore, 1) := by decide +kernel
theorem dX8_lays_97 : decode cX8_lays 97 = .ok (.goto 76, 3) := by decide +kernel
theorem dX8_lays_100 : decode cX8_lays 100 = .ok (.aload_n 0, 1) := by decide +kernel
theorem dX8_lays_101 : decode cX8_lays 101 = .ok (.getfield 27, 3) := by decide +kernel
theorem dX8_lays_104 : decode cX8_lays 104 = .ok (.iload_n 2, 1) := by decide +kernel
theorem dX8_lays_105 : decode cX8_lays 105 = .ok (.iload_n 3, 1) := by decide +kernel
theorem dX8_lays_106 : decode cX8_lays 106 = .ok (.iastore, 1) := by decide +kernel
theorem dX8_lays_107 : decode cX8_lays 107 = .ok (.goto 66, 3) := by decide +kernel
theorem dX8_lays_110 : decode cX8_lays 110 = .ok (.aload_n 0, 1) := by decide +kernel
theorem dX8_lays_111 : decode cX8_lays 111 = .ok (.getfield 30, 3) := by decide +kernel
theorem dX8_lays_114 : decode cX8_lays 114 = .ok (.iload_n 2, 1) := by decide +kernel
theorem dX8_lays_115 : decode cX8_lays 115 = .ok (.iload_n 3, 1) := by decide +kernel
theorem dX8_lays_116 : decode cX8_lays 116 = .ok (.iastore, 1) := by decide +kernel
theorem dX8_lays_117 : decode cX8_lays 117 = .ok (.goto 56, 3) := by decide +kernel
theorem dX8_lays_120 : decode cX8_lays 120 = .ok (.aload_n 0, 1) := by decide +kernel
theorem dX8_lays_121 : decode cX8_lays 121 = .ok (.getfield 33, 3) := by decide +kernel
theorem dX8_lays_124 : decode cX8_lays 124 = .ok (.iload_n 2, 1) := by decide +kernel
theorem dX8_lays_125 : decode cX8_lays 125 = .ok (.iload_n 3, 1) := by decide +kernel
theorem dX8_lays_126 : decode cX8_lays 126 = .ok (.iastore, 1) := by decide +kernel
theorem dX8_lays_127 : decode cX8_lays 127 = .ok (.goto 46, 3) := by decide +kernel
theorem dX8_lays_130 : decode cX8_lays 130 = .ok (.aload_n 0, 1) := by decide +kernel
theorem dX8_lays_131 : decode cX8_lays 131 = .ok (.getfield 36, 3) := by decide +kernel
theorem dX8_lays_134 : decode cX8_lays 134 = .ok (.iload_n 2, 1) := by decide +kernel
theorem dX8_lays_135 : decode cX8_lays 135 = .ok (.iload_n 3, 1) := by decide +kernel
theorem dX8_lays_136 : decode cX8_lays 136 = .ok (.iastore, 1) := by decide +kernel
theorem dX8_lays_137 : decode cX8_lays 137 = .ok (.goto 36, 3) := by decide +kernel
theorem dX8_lays_140 : decode cX8_lays 140 = .ok (.aload_n 0, 1) := by decide +kernel
theorem dX8_lays_141 : decode cX8_lays 141 = .ok (.getfield 39, 3) := by decide +kernel
theorem dX8_lays_144 : decode cX8_lays 144 = .ok (.iload_n 2, 1) := by decide +kernel
theorem dX8_lays_145 : decode cX8_lays 145 = .ok (.iload_n 3, 1) := by decide +kernel
theorem dX8_lays_146 : decode cX8_lays 146 = .ok (.iastore, 1) := by decide +kernel
theorem dX8_lays_147 : decode cX8_lays 147 = .ok (.goto 26, 3) := by decide +kernel
theorem dX8_lays_150 : decode cX8_lays 150 = .ok (.aload_n 0, 1) := by decide +kernel
theorem dX8_lays_151 : decode cX8_lays 151 = .ok (.iload_n 3, 1) := by decide +kernel
theorem dX8_lays_152 : decode cX8_lays 152 = .ok (.putfield 42, 3) := by decide +kernel
theorem dX8_lays_155 : decode cX8_lays 155 = .ok (.goto 18, 3) := by decide +kernel
theorem dX8_lays_158 : decode cX8_lays 158 = .ok (.aload_n 0, 1) := by decide +kernel
theorem dX8_lays_159 : decode cX8_lays 159 = .ok (.iload_n 3, 1) := by decide +kernel
theorem dX8_lays_160 : decode cX8_lays 160 = .ok (.putfield 46, 3) := by decide +kernel
theorem dX8_lays_163 : decode cX8_lays 163 = .ok (.goto 10, 3) := by decide +kernel
theorem dX8_lays_166 : decode cX8_lays 166 = .ok (.aload_n 0, 1) := by decide +kernel
theorem dX8_lays_167 : decode cX8_lays 167 = .ok (.getfield 49, 3) := by decide +kernel
theorem dX8_lays_170 : decode cX8_lays 170 = .ok (.iload_n 2, 1) := by decide +kernel
theorem dX8_lays_171 : decode cX8_lays 171 = .ok (.iload_n 3, 1) := by decide +kernel
theorem dX8_lays_172 : decode cX8_lays 172 = .ok (.iastore, 1) := by decide +kernel
theorem dX8_lays_173 : decode cX8_lays 173 = .ok (.return_, 1) := by decide +kernel
theorem dX8_changes_0 : decode cX8_changes 0 = .ok (.aload_n 0, 1) := by decide +kernel
theorem dX8_changes_1 : decode cX8_changes 1 = .ok (.iload_n 1, 1) := by decide +kernel
theorem dX8_changes_2 : decode cX8_changes 2 = .ok (.iload_n 2, 1) := by decide +kernel
theorem dX8_changes_3 : decode cX8_changes 3 = .ok (.invokevirtual 168, 3) := by decide +kernel
theorem dX8_changes_6 : decode cX8_changes 6 = .ok (.istore 4, 2) := by decide +kernel
theorem dX8_changes_8 : decode cX8_changes 8 = .ok (.iload 4, 2) := by decide +kernel
theorem dX8_changes_10 : decode cX8_changes 10 = .ok (.iload_n 3, 1) := by decide +kernel
theorem dX8_changes_11 : decode cX8_changes 11 = .ok (.if_icmp .ne 6, 3) := by decide +kernel
theorem dX8_changes_14 : decode cX8_changes 14 = .ok (.iload 4, 2) := by decide +kernel
theorem dX8_changes_16 : decode cX8_changes 16 = .ok (.ireturn, 1) := by decide +kernel
theorem dX8_changes_17 : decode cX8_changes 17 = .ok (.aload_n 0, 1) := by decide +kernel
theorem dX8_changes_18 : decode cX8_changes 18 = .ok (.iconst 0, 1) := by decide +kernel
theorem dX8_changes_19 : decode cX8_changes 19 = .ok (.putfield 172, 3) := by decide +kernel
theorem dX8_changes_22 : decode cX8_changes 22 = .ok (.aload_n 0, 1) := by decide +kernel
theorem dX8_changes_23 : decode cX8_changes 23 = .ok (.getfield 175, 3) := by decide +kernel
theorem dX8_changes_26 : decode cX8_changes 26 = .ok (.bipush 40, 2) := by decide +kernel
theorem dX8_changes_28 : decode cX8_changes 28 = .ok (.if_icmp .ne 93, 3) := by decide +kernel
theorem dX8_changes_31 : decode cX8_changes 31 = .ok (.iconst 1, 1) := by decide +kernel
theorem dX8_changes_32 : decode cX8_changes 32 = .ok (.istore 5, 2) := by decide +kernel
theorem dX8_changes_34 : decode cX8_changes 34 = .ok (.iload 5, 2) := by decide +kernel
theorem dX8_changes_36 : decode cX8_changes 36 = .ok (.bipush 40, 2) := by decide +kernel
theorem dX8_changes_38 : decode cX8_changes 38 = .ok (.if_icmp .ge 73, 3) := by decide +kernel
theorem dX8_changes_41 : decode cX8_changes 41 = .ok (.aload_n 0, 1) := by decide +kernel
theorem dX8_changes_42 : decode cX8_changes 42 = .ok (.getfield 52, 3) := by decide +kernel
theorem dX8_changes_45 : decode cX8_changes 45 = .ok (.iload 5, 2) := by decide +kernel
theorem dX8_changes_47 : decode cX8_changes 47 = .ok (.iconst 1, 1) := by decide +kernel
theorem dX8_changes_48 : decode cX8_changes 48 = .ok (.isub, 1) := by decide +kernel
theorem dX8_changes_49 : decode cX8_changes 49 = .ok (.aload_n 0, 1) := by decide +kernel
theorem dX8_changes_50 : decode cX8_changes 50 = .ok (.getfield 52, 3) := by decide +kernel
theorem dX8_changes_53 : decode cX8_changes 53 = .ok (.iload 5, 2) := by decide +kernel
theorem dX8_changes_55 : decode cX8_changes 55 = .ok (.iaload, 1) := by decide +kernel
theorem dX8_changes_56 : decode cX8_changes 56 = .ok (.iastore, 1) := by decide +kernel
theorem dX8_changes_57 : decode cX8_changes 57 = .ok (.aload_n 0, 1) := by decide +kernel
theorem dX8_changes_58 : decode cX8_changes 58 = .ok (.getfield 55, 3) := by decide +kernel
theorem dX8_changes_61 : decode cX8_changes 61 = .ok (.iload 5, 2) := by decide +kernel
theorem dX8_changes_63 : decode cX8_changes 63 = .ok (.iconst 1, 1) := by decide +kernel
theorem dX8_changes_64 : decode cX8_changes 64 = .ok (.isub, 1) := by decide +kernel
theorem dX8_changes_65 : decode cX8_changes 65 = .ok (.aload_n 0, 1) := by decide +kernel
theorem dX8_changes_66 : decode cX8_changes 66 = .ok (.getfield 55, 3) := by decide +kernel
theorem dX8_changes_69 : decode cX8_changes 69 = .ok (.iload 5, 2) := by decide +kernel
theorem dX8_changes_71 : decode cX8_changes 71 = .ok (.iaload, 1) := by decide +kernel
theorem dX8_changes_72 : decode cX8_changes 72 = .ok (.iastore, 1) := by decide +kernel
theorem dX8_changes_73 : decode cX8_changes 73 = .ok (.aload_n 0, 1) := by decide +kernel
theorem dX8_changes_74 : decode cX8_changes 74 = .ok (.getfield 58, 3) := by decide +kernel
theorem dX8_changes_77 : decode cX8_changes 77 = .ok (.iload 5, 2) := by decide +kernel
theorem dX8_changes_79 : decode cX8_changes 79 = .ok (.iconst 1, 1) := by decide +kernel
theorem dX8_changes_80 : decode cX8_changes 80 = .ok (.isub, 1) := by decide +kernel
theorem dX8_changes_81 : decode cX8_changes 81 = .ok (.aload_n 0, 1) := by decide +kernel
theorem dX8_changes_82 : decode cX8_changes 82 = .ok (.getfield 58, 3) := by decide +kernel
theorem dX8_changes_85 : decode cX8_changes 85 = .ok (.iload 5, 2) := by decide +kernel
theorem dX8_changes_87 : decode cX8_changes 87 = .ok (.iaload, 1) := by decide +kernel
theorem dX8_changes_88 : decode cX8_changes 88 = .ok (.iastore, 1) := by decide +kernel
theorem dX8_changes_89 : decode cX8_changes 89 = .ok (.aload_n 0, 1) := by decide +kernel
theorem dX8_changes_90 : decode cX8_changes 90 = .ok (.getfield 61, 3) := by decide +kernel
theorem dX8_changes_93 : decode cX8_changes 93 = .ok (.iload 5, 2) := by decide +kernel
theorem dX8_changes_95 : decode cX8_changes 95 = .ok (.iconst 1, 1) := by decide +kernel
theorem dX8_changes_96 : decode cX8_changes 96 = .ok (.isub, 1) := by decide +kernel
theorem dX8_changes_97 : decode cX8_changes 97 = .ok (.aload_n 0, 1) := by decide +kernel
theorem dX8_changes_98 : decode cX8_changes 98 = .ok (.getfield 61, 3) := by decide +kernel
theorem dX8_changes_101 : decode cX8_changes 101 = .ok (.iload 5, 2) := by decide +kernel
theorem dX8_changes_103 : decode cX8_changes 103 = .ok (.iaload, 1) := by decide +kernel
theorem dX8_changes_104 : decode cX8_changes 104 = .ok (.iastore, 1) := by decide +kernel
theorem dX8_changes_105 : decode cX8_changes 105 = .ok (.iinc 5 1, 3) := by decide +kernel
theorem dX8_changes_108 : decode cX8_changes 108 = .ok (.goto (-74), 3) := by decide +kernel
theorem dX8_changes_111 : decode cX8_changes 111 = .ok (.aload_n 0, 1) := by decide +kernel
theorem dX8_changes_112 : decode cX8_changes 112 = .ok (.dup, 1) := by decide +kernel
theorem dX8_changes_113 : decode cX8_changes 113 = .ok (.getfield 175, 3) := by decide +kernel
theorem dX8_changes_116 : decode cX8_changes 116 = .ok (.iconst 1, 1) := by decide +kernel
theorem dX8_changes_117 : decode cX8_changes 117 = .ok (.isub, 1) := by decide +kernel
theorem dX8_changes_118 : decode cX8_changes 118 = .ok (.putfield 175, 3) := by decide +kernel
theorem dX8_changes_121 : decode cX8_changes 121 = .ok (.aload_n 0, 1) := by decide +kernel
theorem dX8_changes_122 : decode cX8_changes 122 = .ok (.getfield 52, 3) := by decide +kernel
theorem dX8_changes_125 : decode cX8_changes 125 = .ok (.aload_n 0, 1) := by decide +kernel
theorem dX8_changes_126 : decode cX8_changes 126 = .ok (.getfield 175, 3) := by decide +kernel
theorem dX8_changes_129 : decode cX8_changes 129 = .ok (.iload_n 1, 1) := by decide +kernel
theorem dX8_changes_130 : decode cX8_changes 130 = .ok (.iastore, 1) := by decide +kernel
theorem dX8_changes_131 : decode cX8_changes 131 = .ok (.aload_n 0, 1) := by decide +kernel
theorem dX8_changes_132 : decode cX8_changes 132 = .ok (.getfield 55, 3) := by decide +kernel
theorem dX8_changes_135 : decode cX8_changes 135 = .ok (.aload_n 0, 1) := by decide +kernel
theorem dX8_changes_136 : decode cX8_changes 136 = .ok (.getfield 175, 3) := by decide +kernel
theorem dX8_changes_139 : decode cX8_changes 139 = .ok (.iload_n 2, 1) := by decide +kernel
theorem dX8_changes_140 : decode cX8_changes 140 = .ok (.iastore, 1) := by decide +kernel
theorem dX8_changes_141 : decode cX8_changes 141 = .ok (.aload_n 0, 1) := by decide +kernel
theorem dX8_changes_142 : decode cX8_changes 142 = .ok (.getfield 58, 3) := by decide +kernel
theorem dX8_changes_145 : decode cX8_changes 145 = .ok (.aload_n 0, 1) := by decide +kernel
theorem dX8_changes_146 : decode cX8_changes 146 = .ok (.getfield 175, 3) := by decide +kernel
theorem dX8_changes_149 : decode cX8_changes 149 = .ok (.iload 4, 2) := by decide +kernel
theorem dX8_changes_151 : decode cX8_changes 151 = .ok (.iastore, 1) := by decide +kernel
theorem dX8_changes_152 : decode cX8_changes 152 = .ok (.aload_n 0, 1) := by decide +kernel
theorem dX8_changes_153 : decode cX8_changes 153 = .ok (.getfield 61, 3) := by decide +kernel
theorem dX8_changes_156 : decode cX8_changes 156 = .ok (.aload_n 0, 1) := by decide +kernel
theorem dX8_changes_157 : decode cX8_changes 157 = .ok (.getfield 175, 3) := by decide +kernel
theorem dX8_changes_160 : decode cX8_changes 160 = .ok (.iload_n 3, 1) := by decide +kernel
theorem dX8_changes_161 : decode cX8_changes 161 = .ok (.iastore, 1) := by decide +kernel
theorem dX8_changes_162 : decode cX8_changes 162 = .ok (.aload_n 0, 1) := by decide +kernel
theorem dX8_changes_163 : decode cX8_changes 163 = .ok (.dup, 1) := by decide +kernel
theorem dX8_changes_164 : decode cX8_changes 164 = .ok (.getfield 175, 3) := by decide +kernel
theorem dX8_changes_167 : decode cX8_changes 167 = .ok (.iconst 1, 1) := by decide +kernel
theorem dX8_changes_168 : decode cX8_changes 168 = .ok (.iadd, 1) := by decide +kernel
theorem dX8_changes_169 : decode cX8_changes 169 = .ok (.putfield 175, 3) := by decide +kernel
theorem dX8_changes_172 : decode cX8_changes 172 = .ok (.aload_n 0, 1) := by decide +kernel
theorem dX8_changes_173 : decode cX8_changes 173 = .ok (.iload_n 1, 1) := by decide +kernel
theorem dX8_changes_174 : decode cX8_changes 174 = .ok (.iload_n 2, 1) := by decide +kernel
theorem dX8_changes_175 : decode cX8_changes 175 = .ok (.iload_n 3, 1) := by decide +kernel
theorem dX8_changes_176 : decode cX8_changes 176 = .ok (.invokevirtual 178, 3) := by decide +kernel
theorem dX8_changes_179 : decode cX8_changes 179 = .ok (.iload 4, 2) := by decide +kernel
theorem dX8_changes_181 : decode cX8_changes 181 = .ok (.ireturn, 1) := by decide +kernel
theorem dX8_undo_0 : decode cX8_undo 0 = .ok (.aload_n 0, 1) := by decide +kernel
theorem dX8_undo_1 : decode cX8_undo 1 = .ok (.getfield 175, 3) := by decide +kernel
theorem dX8_undo_4 : decode cX8_undo 4 = .ok (.ifCond .ne 6, 3) := by decide +kernel
theorem dX8_undo_7 : decode cX8_undo 7 = .ok (.bipush (-5), 2) := by decide +kernel
theorem dX8_undo_9 : decode cX8_undo 9 = .ok (.ireturn, 1) := by decide +kernel
theorem dX8_undo_10 : decode cX8_undo 10 = .ok (.aload_n 0, 1) := by decide +kernel
theorem dX8_undo_11 : decode cX8_undo 11 = .ok (.dup, 1) := by decide +kernel
theorem dX8_undo_12 : decode cX8_undo 12 = .ok (.getfield 175, 3) := by decide +kernel
theorem dX8_undo_15 : decode cX8_undo 15 = .ok (.iconst 1, 1) := by decide +kernel
theorem dX8_undo_16 : decode cX8_undo 16 = .ok (.isub, 1) := by decide +kernel
theorem dX8_undo_17 : decode cX8_undo 17 = .ok (.putfield 175, 3) := by decide +kernel
theorem dX8_undo_20 : decode cX8_undo 20 = .ok (.aload_n 0, 1) := by decide +kernel
theorem dX8_undo_21 : decode cX8_undo 21 = .ok (.dup, 1) := by decide +kernel
theorem dX8_undo_22 : decode cX8_undo 22 = .ok (.getfield 172, 3) := by decide +kernel
theorem dX8_undo_25 : decode cX8_undo 25 = .ok (.iconst 1, 1) := by decide +kernel
theorem dX8_undo_26 : decode cX8_undo 26 = .ok (.iadd, 1) := by decide +kernel
theorem dX8_undo_27 : decode cX8_undo 27 = .ok (.putfield 172, 3) := by decide +kernel
theorem dX8_undo_30 : decode cX8_undo 30 = .ok (.aload_n 0, 1) := by decide +kernel
theorem dX8_undo_31 : decode cX8_undo 31 = .ok (.aload_n 0, 1) := by decide +kernel
theorem dX8_undo_32 : decode cX8_undo 32 = .ok (.getfield 52, 3) := by decide +kernel
theorem dX8_undo_35 : decode cX8_undo 35 = .ok (.aload_n 0, 1) := by decide +kernel
theorem dX8_undo_36 : decode cX8_undo 36 = .ok (.getfield 175, 3) := by decide +kernel
theorem dX8_undo_39 : decode cX8_undo 39 = .ok (.iaload, 1) := by decide +kernel
theorem dX8_undo_40 : decode cX8_undo 40 = .ok (.aload_n 0, 1) := by decide +kernel
theorem dX8_undo_41 : decode cX8_undo 41 = .ok (.getfield 55, 3) := by decide +kernel
theorem dX8_undo_44 : decode cX8_undo 44 = .ok (.aload_n 0, 1) := by decide +kernel
theorem dX8_undo_45 : decode cX8_undo 45 = .ok (.getfield 175, 3) := by decide +kernel
theorem dX8_undo_48 : decode cX8_undo 48 = .ok (.iaload, 1) := by decide +kernel
theorem dX8_undo_49 : decode cX8_undo 49 = .ok (.aload_n 0, 1) := by decide +kernel
theorem dX8_undo_50 : decode cX8_undo 50 = .ok (.getfield 58, 3) := by decide +kernel
theorem dX8_undo_53 : decode cX8_undo 53 = .ok (.aload_n 0, 1) := by decide +kernel
theorem dX8_undo_54 : decode cX8_undo 54 = .ok (.getfield 175, 3) := by decide +kernel
theorem dX8_undo_57 : decode cX8_undo 57 = .ok (.iaload, 1) := by decide +kernel
theorem dX8_undo_58 : decode cX8_undo 58 = .ok (.invokevirtual 178, 3) := by decide +kernel
theorem dX8_undo_61 : decode cX8_undo 61 = .ok (.aload_n 0, 1) := by decide +kernel
theorem dX8_undo_62 : decode cX8_undo 62 = .ok (.getfield 175, 3) := by decide +kernel
theorem dX8_undo_65 : decode cX8_undo 65 = .ok (.ireturn, 1) := by decide +kernel
theorem dX8_redo_0 : decode cX8_redo 0 = .ok (.aload_n 0, 1) := by decide +kernel
theorem dX8_redo_1 : decode cX8_redo 1 = .ok (.getfield 172, 3) := by decide +kernel
theorem dX8_redo_4 : decode cX8_redo 4 = .ok (.ifCond .ne 6, 3) := by decide +kernel
theorem dX8_redo_7 : decode cX8_redo 7 = .ok (.bipush (-5), 2) := by decide +kernel
theorem dX8_redo_9 : decode cX8_redo 9 = .ok (.ireturn, 1) := by decide +kernel
theorem dX8_redo_10 : decode cX8_redo 10 = .ok (.aload_n 0, 1) := by decide +kernel
theorem dX8_redo_11 : decode cX8_redo 11 = .ok (.aload_n 0, 1) := by decide +kernel
theorem dX8_redo_12 : decode cX8_redo 12 = .ok (.getfield 52, 3) := by decide +kernel
theorem dX8_redo_15 : decode cX8_redo 15 = .ok (.aload_n 0, 1) := by decide +kernel
theorem dX8_redo_16 : decode cX8_redo 16 = .ok (.getfield 175, 3) := by decide +kernel
theorem dX8_redo_19 : decode cX8_redo 19 = .ok (.iaload, 1) := by decide +kernel
theorem dX8_redo_20 : decode cX8_redo 20 = .ok (.aload_n 0, 1) := by decide +kernel
theorem dX8_redo_21 : decode cX8_redo 21 = .ok (.getfield 55, 3) := by decide +kernel
theorem dX8_redo_24 : decode cX8_redo 24 = .ok (.aload_n 0, 1) := by decide +kernel
theorem dX8_redo_25 : decode cX8_redo 25 = .ok (.getfield 175, 3) := by decide +kernel
theorem dX8_redo_28 : decode cX8_redo 28 = .ok (.iaload, 1) := by decide +kernel
theorem dX8_redo_29 : decode cX8_redo 29 = .ok (.aload_n 0, 1) := by decide +kernel
theorem dX8_redo_30 : decode cX8_redo 30 = .ok (.getfield 61, 3) := by decide +kernel
theorem dX8_redo_33 : decode cX8_redo 33 = .ok (.aload_n 0, 1) := by decide +kernel
theorem dX8_redo_34 : decode cX8_redo 34 = .ok (.getfield 175, 3) := by decide +kernel
theorem dX8_redo_37 : decode cX8_redo 37 = .ok (.iaload, 1) := by decide +kernel
theorem dX8_redo_38 : decode cX8_redo 38 = .ok (.invokevirtual 178, 3) := by decide +kernel
theorem dX8_redo_41 : decode cX8_redo 41 = .ok (.aload_n 0, 1) := by decide +kernel
theorem dX8_redo_42 : decode cX8_redo 42 = .ok (.dup, 1) := by decide +kernel
theorem dX8_redo_43 : decode cX8_redo 43 = .ok (.getfield 175, 3) := by decide +kernel
theorem dX8_redo_46 : decode cX8_redo 46 = .ok (.iconst 1, 1) := by decide +kernel
theorem dX8_redo_47 : decode cX8_redo 47 = .ok (.iadd, 1) := by decide +kernel
theorem dX8_redo_48 : decode cX8_redo 48 = .ok (.putfield 175, 3) := by decide +kernel
theorem dX8_redo_51 : decode cX8_redo 51 = .ok (.aload_n 0, 1) := by decide +kernel
theorem dX8_redo_52 : decode cX8_redo 52 = .ok (.dup, 1) := by decide +kernel
theorem dX8_redo_53 : decode cX8_redo 53 = .ok (.getfield 172, 3) := by decide +kernel
theorem dX8_redo_56 : decode cX8_redo 56 = .ok (.iconst 1, 1) := by decide +kernel
theorem dX8_redo_57 : decode cX8_redo 57 = .ok (.isub, 1) := by decide +kernel
theorem dX8_redo_58 : decode cX8_redo 58 = .ok (.putfield 172, 3) := by decide +kernel
theorem dX8_redo_61 : decode cX8_redo 61 = .ok (.aload_n 0, 1) := by decide +kernel
theorem dX8_redo_62 : decode cX8_redo 62 = .ok (.getfield 172, 3) := by decide +kernel
theorem dX8_redo_65 : decode cX8_redo 65 = .ok (.ireturn, 1) := by decide +kernel
theorem dX8_isThing_0 : decode cX8_isThing 0 = .ok (.iload_n 2, 1) := by decide +kernel
theorem dX8_isThing_1 : decode cX8_isThing 1 = .ok (.iconst 0, 1) := by decide +kernel
theorem dX8_isThing_2 : decode cX8_isThing 2 = .ok (.iconst 2, 1) := by decide +kernel
theorem dX8_isThing_3 : decode cX8_isThing 3 = .ok (.invokestatic 148, 3) := by decide +kernel
theorem dX8_isThing_6 : decode cX8_isThing 6 = .ok (.ifCond .eq 9, 3) := by decide +kernel
theorem dX8_isThing_9 : decode cX8_isThing 9 = .ok (.aload_n 0, 1) := by decide +kernel
theorem dX8_isThing_10 : decode cX8_isThing 10 = .ok (.iload_n 1, 1) := by decide +kernel
theorem dX8_isThing_11 : decode cX8_isThing 11 = .ok (.invokevirtual 182, 3) := by decide +kernel
theorem dX8_isThing_14 : decode cX8_isThing 14 = .ok (.ireturn, 1) := by decide +kernel
theorem dX8_isThing_15 : decode cX8_isThing 15 = .ok (.iload_n 2, 1) := by decide +kernel
theorem dX8_isThing_16 : decode cX8_isThing 16 = .ok (.iconst 3, 1) := by decide +kernel
theorem dX8_isThing_17 : decode cX8_isThing 17 = .ok (.iconst 4, 1) := by decide +kernel
theorem dX8_isThing_18 : decode cX8_isThing 18 = .ok (.invokestatic 148, 3) := by decide +kernel
theorem dX8_isThing_21 : decode cX8_isThing 21 = .ok (.ifCond .eq 10, 3) := by decide +kernel
theorem dX8_isThing_24 : decode cX8_isThing 24 = .ok (.iload_n 1, 1) := by decide +kernel
theorem dX8_isThing_25 : decode cX8_isThing 25 = .ok (.iconst 0, 1) := by decide +kernel
theorem dX8_isThing_26 : decode cX8_isThing 26 = .ok (.iconst 3, 1) := by decide +kernel
theorem dX8_isThing_27 : decode cX8_isThing 27 = .ok (.invokestatic 148, 3) := by decide +kernel
theorem dX8_isThing_30 : decode cX8_isThing 30 = .ok (.ireturn, 1) := by decide +kernel
theorem dX8_isThing_31 : decode cX8_isThing 31 = .ok (.iload_n 2, 1) := by decide +kernel
theorem dX8_isThing_32 : decode cX8_isThing 32 = .ok (.iconst 5, 1) := by decide +kernel
theorem dX8_isThing_33 : decode cX8_isThing 33 = .ok (.bipush 7, 2) := by decide +kernel
theorem dX8_isThing_35 : decode cX8_isThing 35 = .ok (.invokestatic 148, 3) := by decide +kernel
theorem dX8_isThing_38 : decode cX8_isThing 38 = .ok (.ifCond .eq 10, 3) := by decide +kernel
theorem dX8_isThing_41 : decode cX8_isThing 41 = .ok (.iload_n 1, 1) := by decide +kernel
theorem dX8_isThing_42 : decode cX8_isThing 42 = .ok (.iconst 0, 1) := by decide +kernel
theorem dX8_isThing_43 : decode cX8_isThing 43 = .ok (.iconst 3, 1) := by decide +kernel
theorem dX8_isThing_44 : decode cX8_isThing 44 = .ok (.invokestatic 148, 3) := by decide +kernel
theorem dX8_isThing_47 : decode cX8_isThing 47 = .ok (.ireturn, 1) := by decide +kernel
theorem dX8_isThing_48 : decode cX8_isThing 48 = .ok (.iload_n 2, 1) := by decide +kernel
theorem dX8_isThing_49 : decode cX8_isThing 49 = .ok (.bipush 8, 2) := by decide +kernel
theorem dX8_isThing_51 : decode cX8_isThing 51 = .ok (.if_icmp .ne 10, 3) := by decide +kernel
theorem dX8_isThing_54 : decode cX8_isThing 54 = .ok (.iload_n 1, 1) := by decide +kernel
theorem dX8_isThing_55 : decode cX8_isThing 55 = .ok (.iconst 0, 1) := by decide +kernel
theorem dX8_isThing_56 : decode cX8_isThing 56 = .ok (.iconst 5, 1) := by decide +kernel
theorem dX8_isThing_57 : decode cX8_isThing 57 = .ok (.invokestatic 148, 3) := by decide +kernel
theorem dX8_isThing_60 : decode cX8_isThing 60 = .ok (.ireturn, 1) := by decide +kernel
theorem dX8_isThing_61 : decode cX8_isThing 61 = .ok (.iload_n 2, 1) := by decide +kernel
theorem dX8_isThing_62 : decode cX8_isThing 62 = .ok (.bipush 11, 2) := by decide +kernel
theorem dX8_isThing_64 : decode cX8_isThing 64 = .ok (.if_icmp .ne 10, 3) := by decide +kernel
theorem dX8_isThing_67 : decode cX8_isThing 67 = .ok (.iload_n 1, 1) := by decide +kernel
theorem dX8_isThing_68 : decode cX8_isThing 68 = .ok (.iconst 0, 1) := by decide +kernel
theorem dX8_isThing_69 : decode cX8_isThing 69 = .ok (.iconst 2, 1) := by decide +kernel
theorem dX8_isThing_70 : decode cX8_isThing 70 = .ok (.invokestatic 148, 3) := by decide +kernel
theorem dX8_isThing_73 : decode cX8_isThing 73 = .ok (.ireturn, 1) := by decide +kernel
theorem dX8_isThing_74 : decode cX8_isThing 74 = .ok (.iload_n 2, 1) := by decide +kernel
theorem dX8_isThing_75 : decode cX8_isThing 75 = .ok (.bipush 9, 2) := by decide +kernel
theorem dX8_isThing_77 : decode cX8_isThing 77 = .ok (.bipush 10, 2) := by decide +kernel
theorem dX8_isThing_79 : decode cX8_isThing 79 = .ok (.invokestatic 148, 3) := by decide +kernel
theorem dX8_isThing_82 : decode cX8_isThing 82 = .ok (.ifCond .eq 11, 3) := by decide +kernel
theorem dX8_isThing_85 : decode cX8_isThing 85 = .ok (.iload_n 1, 1) := by decide +kernel
theorem dX8_isThing_86 : decode cX8_isThing 86 = .ok (.ifCond .ne 7, 3) := by decide +kernel
theorem dX8_isThing_89 : decode cX8_isThing 89 = .ok (.iconst 1, 1) := by decide +kernel
theorem dX8_isThing_90 : decode cX8_isThing 90 = .ok (.goto 4, 3) := by decide +kernel
theorem dX8_isThing_93 : decode cX8_isThing 93 = .ok (.iconst 0, 1) := by decide +kernel
theorem dX8_isThing_94 : decode cX8_isThing 94 = .ok (.ireturn, 1) := by decide +kernel
theorem dX8_mostOf_0 : decode cX8_mostOf 0 = .ok (.iload_n 0, 1) := by decide +kernel
theorem dX8_mostOf_1 : decode cX8_mostOf 1 = .ok (.iconst 1, 1) := by decide +kernel
theorem dX8_mostOf_2 : decode cX8_mostOf 2 = .ok (.if_icmp .eq 8, 3) := by decide +kernel
theorem dX8_mostOf_5 : decode cX8_mostOf 5 = .ok (.iload_n 0, 1) := by decide +kernel
theorem dX8_mostOf_6 : decode cX8_mostOf 6 = .ok (.iconst 2, 1) := by decide +kernel
theorem dX8_mostOf_7 : decode cX8_mostOf 7 = .ok (.if_icmp .ne 5, 3) := by decide +kernel
theorem dX8_mostOf_10 : decode cX8_mostOf 10 = .ok (.iconst 5, 1) := by decide +kernel
theorem dX8_mostOf_11 : decode cX8_mostOf 11 = .ok (.ireturn, 1) := by decide +kernel
theorem dX8_mostOf_12 : decode cX8_mostOf 12 = .ok (.iload_n 0, 1) := by decide +kernel
theorem dX8_mostOf_13 : decode cX8_mostOf 13 = .ok (.bipush 7, 2) := by decide +kernel
theorem dX8_mostOf_15 : decode cX8_mostOf 15 = .ok (.if_icmp .eq 9, 3) := by decide +kernel
theorem dX8_mostOf_18 : decode cX8_mostOf 18 = .ok (.iload_n 0, 1) := by decide +kernel
theorem dX8_mostOf_19 : decode cX8_mostOf 19 = .ok (.bipush 9, 2) := by decide +kernel
theorem dX8_mostOf_21 : decode cX8_mostOf 21 = .ok (.if_icmp .ne 6, 3) := by decide +kernel
theorem dX8_mostOf_24 : decode cX8_mostOf 24 = .ok (.bipush 99, 2) := by decide +kernel
theorem dX8_mostOf_26 : decode cX8_mostOf 26 = .ok (.ireturn, 1) := by decide +kernel
theorem dX8_mostOf_27 : decode cX8_mostOf 27 = .ok (.iload_n 0, 1) := by decide +kernel
theorem dX8_mostOf_28 : decode cX8_mostOf 28 = .ok (.ifCond .eq 13, 3) := by decide +kernel
theorem dX8_mostOf_31 : decode cX8_mostOf 31 = .ok (.iload_n 0, 1) := by decide +kernel
theorem dX8_mostOf_32 : decode cX8_mostOf 32 = .ok (.iconst 3, 1) := by decide +kernel
theorem dX8_mostOf_33 : decode cX8_mostOf 33 = .ok (.if_icmp .eq 8, 3) := by decide +kernel
theorem dX8_mostOf_36 : decode cX8_mostOf 36 = .ok (.iload_n 0, 1) := by decide +kernel
theorem dX8_mostOf_37 : decode cX8_mostOf 37 = .ok (.iconst 4, 1) := by decide +kernel
theorem dX8_mostOf_38 : decode cX8_mostOf 38 = .ok (.if_icmp .ne 8, 3) := by decide +kernel
theorem dX8_mostOf_41 : decode cX8_mostOf 41 = .ok (.bipush 9, 2) := by decide +kernel
theorem dX8_mostOf_43 : decode cX8_mostOf 43 = .ok (.goto 5, 3) := by decide +kernel
theorem dX8_mostOf_46 : decode cX8_mostOf 46 = .ok (.bipush 12, 2) := by decide +kernel
theorem dX8_mostOf_48 : decode cX8_mostOf 48 = .ok (.ireturn, 1) := by decide +kernel
theorem dX8_mend_0 : decode cX8_mend 0 = .ok (.aload_n 0, 1) := by decide +kernel
theorem dX8_mend_1 : decode cX8_mend 1 = .ok (.iload_n 1, 1) := by decide +kernel
theorem dX8_mend_2 : decode cX8_mend 2 = .ok (.iload_n 2, 1) := by decide +kernel
theorem dX8_mend_3 : decode cX8_mend 3 = .ok (.invokevirtual 185, 3) := by decide +kernel
theorem dX8_mend_6 : decode cX8_mend 6 = .ok (.ifCond .eq 25, 3) := by decide +kernel
theorem dX8_mend_9 : decode cX8_mend 9 = .ok (.iload_n 3, 1) := by decide +kernel
theorem dX8_mend_10 : decode cX8_mend 10 = .ok (.iconst 0, 1) := by decide +kernel
theorem dX8_mend_11 : decode cX8_mend 11 = .ok (.iload_n 2, 1) := by decide +kernel
theorem dX8_mend_12 : decode cX8_mend 12 = .ok (.invokestatic 189, 3) := by decide +kernel
theorem dX8_mend_15 : decode cX8_mend 15 = .ok (.invokestatic 148, 3) := by decide +kernel
theorem dX8_mend_18 : decode cX8_mend 18 = .ok (.ifCond .eq 13, 3) := by decide +kernel
theorem dX8_mend_21 : decode cX8_mend 21 = .ok (.aload_n 0, 1) := by decide +kernel
theorem dX8_mend_22 : decode cX8_mend 22 = .ok (.iload_n 2, 1) := by decide +kernel
theorem dX8_mend_23 : decode cX8_mend 23 = .ok (.iload_n 1, 1) := by decide +kernel
theorem dX8_mend_24 : decode cX8_mend 24 = .ok (.iload_n 3, 1) := by decide +kernel
theorem dX8_mend_25 : decode cX8_mend 25 = .ok (.invokevirtual 193, 3) := by decide +kernel
theorem dX8_mend_28 : decode cX8_mend 28 = .ok (.goto 4, 3) := by decide +kernel
theorem dX8_mend_31 : decode cX8_mend 31 = .ok (.iconst (-1), 1) := by decide +kernel
theorem dX8_mend_32 : decode cX8_mend 32 = .ok (.ireturn, 1) := by decide +kernel
theorem dX8_allCards_0 : decode cX8_allCards 0 = .ok (.iconst 0, 1) := by decide +kernel
theorem dX8_allCards_1 : decode cX8_allCards 1 = .ok (.istore_n 1, 1) := by decide +kernel
theorem dX8_allCards_2 : decode cX8_allCards 2 = .ok (.iconst 0, 1) := by decide +kernel
theorem dX8_allCards_3 : decode cX8_allCards 3 = .ok (.istore_n 2, 1) := by decide +kernel
theorem dX8_allCards_4 : decode cX8_allCards 4 = .ok (.iload_n 2, 1) := by decide +kernel
theorem dX8_allCards_5 : decode cX8_allCards 5 = .ok (.aload_n 0, 1) := by decide +kernel
theorem dX8_allCards_6 : decode cX8_allCards 6 = .ok (.getfield 145, 3) := by decide +kernel
theorem dX8_allCards_9 : decode cX8_allCards 9 = .ok (.if_icmp .ge 18, 3) := by decide +kernel
theorem dX8_allCards_12 : decode cX8_allCards 12 = .ok (.iload_n 1, 1) := by decide +kernel
theorem dX8_allCards_13 : decode cX8_allCards 13 = .ok (.aload_n 0, 1) := by decide +kernel
theorem dX8_allCards_14 : decode cX8_allCards 14 = .ok (.getfield 9, 3) := by decide +kernel
theorem dX8_allCards_17 : decode cX8_allCards 17 = .ok (.iload_n 2, 1) := by decide +kernel
theorem dX8_allCards_18 : decode cX8_allCards 18 = .ok (.iaload, 1) := by decide +kernel
theorem dX8_allCards_19 : decode cX8_allCards 19 = .ok (.iadd, 1) := by decide +kernel
theorem dX8_allCards_20 : decode cX8_allCards 20 = .ok (.istore_n 1, 1) := by decide +kernel
theorem dX8_allCards_21 : decode cX8_allCards 21 = .ok (.iinc 2 1, 3) := by decide +kernel
theorem dX8_allCards_24 : decode cX8_allCards 24 = .ok (.goto (-20), 3) := by decide +kernel
theorem dX8_allCards_27 : decode cX8_allCards 27 = .ok (.iload_n 1, 1) := by decide +kernel
theorem dX8_allCards_28 : decode cX8_allCards 28 = .ok (.ireturn, 1) := by decide +kernel
theorem dX8_of_0 : decode cX8_of 0 = .ok (.iload_n 2, 1) := by decide +kernel
theorem dX8_of_1 : decode cX8_of 1 = .ok (.iconst 0, 1) := by decide +kernel
theorem dX8_of_2 : decode cX8_of 2 = .ok (.bipush 11, 2) := by decide +kernel
theorem dX8_of_4 : decode cX8_of 4 = .ok (.invokestatic 148, 3) := by decide +kernel
theorem dX8_of_7 : decode cX8_of 7 = .ok (.ifCond .eq 23, 3) := by decide +kernel
theorem dX8_of_10 : decode cX8_of 10 = .ok (.aload_n 0, 1) := by decide +kernel
theorem dX8_of_11 : decode cX8_of 11 = .ok (.iload_n 1, 1) := by decide +kernel
theorem dX8_of_12 : decode cX8_of 12 = .ok (.iload_n 2, 1) := by decide +kernel
theorem dX8_of_13 : decode cX8_of 13 = .ok (.invokevirtual 185, 3) := by decide +kernel
theorem dX8_of_16 : decode cX8_of 16 = .ok (.ifCond .eq 12, 3) := by decide +kernel
theorem dX8_of_19 : decode cX8_of 19 = .ok (.aload_n 0, 1) := by decide +kernel
theorem dX8_of_20 : decode cX8_of 20 = .ok (.iload_n 2, 1) := by decide +kernel
theorem dX8_of_21 : decode cX8_of 21 = .ok (.iload_n 1, 1) := by decide +kernel
theorem dX8_of_22 : decode cX8_of 22 = .ok (.invokevirtual 168, 3) := by decide +kernel
theorem dX8_of_25 : decode cX8_of 25 = .ok (.goto 4, 3) := by decide +kernel
theorem dX8_of_28 : decode cX8_of 28 = .ok (.iconst (-1), 1) := by decide +kernel
theorem dX8_of_29 : decode cX8_of 29 = .ok (.ireturn, 1) := by decide +kernel
theorem dX8_of_30 : decode cX8_of 30 = .ok (.iload_n 2, 1) := by decide +kernel
theorem dX8_of_31 : decode cX8_of 31 = .ok (.tableswitch 92 12 15 #[29, 48, 66, 79], 29) := by decide +kernel
theorem dX8_of_60 : decode cX8_of 60 = .ok (.aload_n 0, 1) := by decide +kernel
theorem dX8_of_61 : decode cX8_of 61 = .ok (.iload_n 1, 1) := by decide +kernel
theorem dX8_of_62 : decode cX8_of 62 = .ok (.invokevirtual 182, 3) := by decide +kernel
theorem dX8_of_65 : decode cX8_of 65 = .ok (.ifCond .eq 12, 3) := by decide +kernel
theorem dX8_of_68 : decode cX8_of 68 = .ok (.aload_n 0, 1) := by decide +kernel
theorem dX8_of_69 : decode cX8_of 69 = .ok (.getfield 21, 3) := by decide +kernel
theorem dX8_of_72 : decode cX8_of 72 = .ok (.iload_n 1, 1) := by decide +kernel
theorem dX8_of_73 : decode cX8_of 73 = .ok (.iaload, 1) := by decide +kernel
theorem dX8_of_74 : decode cX8_of 74 = .ok (.goto 4, 3) := by decide +kernel
theorem dX8_of_77 : decode cX8_of 77 = .ok (.iconst (-1), 1) := by decide +kernel
theorem dX8_of_78 : decode cX8_of 78 = .ok (.ireturn, 1) := by decide +kernel
theorem dX8_of_79 : decode cX8_of 79 = .ok (.iload_n 1, 1) := by decide +kernel
theorem dX8_of_80 : decode cX8_of 80 = .ok (.invokestatic 152, 3) := by decide +kernel
theorem dX8_of_83 : decode cX8_of 83 = .ok (.ifCond .eq 12, 3) := by decide +kernel
theorem dX8_of_86 : decode cX8_of 86 = .ok (.aload_n 0, 1) := by decide +kernel
theorem dX8_of_87 : decode cX8_of 87 = .ok (.getfield 64, 3) := by decide +kernel
theorem dX8_of_90 : decode cX8_of 90 = .ok (.iload_n 1, 1) := by decide +kernel
theorem dX8_of_91 : decode cX8_of 91 = .ok (.iaload, 1) := by decide +kernel
theorem dX8_of_92 : decode cX8_of 92 = .ok (.goto 4, 3) := by decide +kernel
theorem dX8_of_95 : decode cX8_of 95 = .ok (.iconst (-1), 1) := by decide +kernel
theorem dX8_of_96 : decode cX8_of 96 = .ok (.ireturn, 1) := by decide +kernel
theorem dX8_of_97 : decode cX8_of 97 = .ok (.iload_n 1, 1) := by decide +kernel
theorem dX8_of_98 : decode cX8_of 98 = .ok (.ifCond .ne 10, 3) := by decide +kernel
theorem dX8_of_101 : decode cX8_of 101 = .ok (.aload_n 0, 1) := by decide +kernel
theorem dX8_of_102 : decode cX8_of 102 = .ok (.getfield 67, 3) := by decide +kernel
theorem dX8_of_105 : decode cX8_of 105 = .ok (.goto 4, 3) := by decide +kernel
theorem dX8_of_108 : decode cX8_of 108 = .ok (.iconst (-1), 1) := by decide +kernel
theorem dX8_of_109 : decode cX8_of 109 = .ok (.ireturn, 1) := by decide +kernel
theorem dX8_of_110 : decode cX8_of 110 = .ok (.iload_n 1, 1) := by decide +kernel
theorem dX8_of_111 : decode cX8_of 111 = .ok (.ifCond .ne 10, 3) := by decide +kernel
theorem dX8_of_114 : decode cX8_of 114 = .ok (.aload_n 0, 1) := by decide +kernel
theorem dX8_of_115 : decode cX8_of 115 = .ok (.invokevirtual 196, 3) := by decide +kernel
theorem dX8_of_118 : decode cX8_of 118 = .ok (.goto 4, 3) := by decide +kernel
theorem dX8_of_121 : decode cX8_of 121 = .ok (.iconst (-1), 1) := by decide +kernel
theorem dX8_of_122 : decode cX8_of 122 = .ok (.ireturn, 1) := by decide +kernel
theorem dX8_of_123 : decode cX8_of 123 = .ok (.iconst (-1), 1) := by decide +kernel
theorem dX8_of_124 : decode cX8_of 124 = .ok (.ireturn, 1) := by decide +kernel
theorem dX8_feed_0 : decode cX8_feed 0 = .ok (.iload_n 1, 1) := by decide +kernel
theorem dX8_feed_1 : decode cX8_feed 1 = .ok (.iconst 0, 1) := by decide +kernel
theorem dX8_feed_2 : decode cX8_feed 2 = .ok (.sipush 255, 3) := by decide +kernel
theorem dX8_feed_5 : decode cX8_feed 5 = .ok (.invokestatic 148, 3) := by decide +kernel
theorem dX8_feed_8 : decode cX8_feed 8 = .ok (.ifCond .ne 5, 3) := by decide +kernel
theorem dX8_feed_11 : decode cX8_feed 11 = .ok (.iconst (-1), 1) := by decide +kernel
theorem dX8_feed_12 : decode cX8_feed 12 = .ok (.ireturn, 1) := by decide +kernel
theorem dX8_feed_13 : decode cX8_feed 13 = .ok (.aload_n 0, 1) := by decide +kernel
theorem dX8_feed_14 : decode cX8_feed 14 = .ok (.getfield 200, 3) := by decide +kernel
theorem dX8_feed_17 : decode cX8_feed 17 = .ok (.bipush 120, 2) := by decide +kernel
theorem dX8_feed_19 : decode cX8_feed 19 = .ok (.if_icmp .ne 6, 3) := by decide +kernel
theorem dX8_feed_22 : decode cX8_feed 22 = .ok (.bipush (-3), 2) := by decide +kernel
theorem dX8_feed_24 : decode cX8_feed 24 = .ok (.ireturn, 1) := by decide +kernel
theorem dX8_feed_25 : decode cX8_feed 25 = .ok (.aload_n 0, 1) := by decide +kernel
theorem dX8_feed_26 : decode cX8_feed 26 = .ok (.getfield 70, 3) := by decide +kernel
theorem dX8_feed_29 : decode cX8_feed 29 = .ok (.aload_n 0, 1) := by decide +kernel
theorem dX8_feed_30 : decode cX8_feed 30 = .ok (.getfield 200, 3) := by decide +kernel
theorem dX8_feed_33 : decode cX8_feed 33 = .ok (.iload_n 1, 1) := by decide +kernel
theorem dX8_feed_34 : decode cX8_feed 34 = .ok (.i2b, 1) := by decide +kernel
theorem dX8_feed_35 : decode cX8_feed 35 = .ok (.bastore, 1) := by decide +kernel
theorem dX8_feed_36 : decode cX8_feed 36 = .ok (.aload_n 0, 1) := by decide +kernel
theorem dX8_feed_37 : decode cX8_feed 37 = .ok (.dup, 1) := by decide +kernel
theorem dX8_feed_38 : decode cX8_feed 38 = .ok (.getfield 200, 3) := by decide +kernel
theorem dX8_feed_41 : decode cX8_feed 41 = .ok (.iconst 1, 1) := by decide +kernel
theorem dX8_feed_42 : decode cX8_feed 42 = .ok (.iadd, 1) := by decide +kernel
theorem dX8_feed_43 : decode cX8_feed 43 = .ok (.putfield 200, 3) := by decide +kernel
theorem dX8_feed_46 : decode cX8_feed 46 = .ok (.aload_n 0, 1) := by decide +kernel
theorem dX8_feed_47 : decode cX8_feed 47 = .ok (.getfield 200, 3) := by decide +kernel
theorem dX8_feed_50 : decode cX8_feed 50 = .ok (.ireturn, 1) := by decide +kernel
theorem dX8_look_0 : decode cX8_look 0 = .ok (.aload_n 0, 1) := by decide +kernel
theorem dX8_look_1 : decode cX8_look 1 = .ok (.getfield 203, 3) := by decide +kernel
theorem dX8_look_4 : decode cX8_look 4 = .ok (.aload_n 0, 1) := by decide +kernel
theorem dX8_look_5 : decode cX8_look 5 = .ok (.getfield 200, 3) := by decide +kernel
theorem dX8_look_8 : decode cX8_look 8 = .ok (.if_icmp .ge 15, 3) := by decide +kernel
theorem dX8_look_11 : decode cX8_look 11 = .ok (.aload_n 0, 1) := by decide +kernel
theorem dX8_look_12 : decode cX8_look 12 = .ok (.getfield 70, 3) := by decide +kernel
theorem dX8_look_15 : decode cX8_look 15 = .ok (.aload_n 0, 1) := by decide +kernel
theorem dX8_look_16 : decode cX8_look 16 = .ok (.getfield 203, 3) := by decide +kernel
theorem dX8_look_19 : decode cX8_look 19 = .ok (.baload, 1) := by decide +kernel
theorem dX8_look_20 : decode cX8_look 20 = .ok (.goto 4, 3) := by decide +kernel
theorem dX8_look_23 : decode cX8_look 23 = .ok (.iconst (-1), 1) := by decide +kernel
theorem dX8_look_24 : decode cX8_look 24 = .ok (.ireturn, 1) := by decide +kernel
theorem dX8_faulty_0 : decode cX8_faulty 0 = .ok (.aload_n 0, 1) := by decide +kernel
theorem dX8_faulty_1 : decode cX8_faulty 1 = .ok (.getfield 206, 3) := by decide +kernel
theorem dX8_faulty_4 : decode cX8_faulty 4 = .ok (.ifCond .ge 11, 3) := by decide +kernel
theorem dX8_faulty_7 : decode cX8_faulty 7 = .ok (.aload_n 0, 1) := by decide +kernel
theorem dX8_faulty_8 : decode cX8_faulty 8 = .ok (.aload_n 0, 1) := by decide +kernel
theorem dX8_faulty_9 : decode cX8_faulty 9 = .ok (.getfield 203, 3) := by decide +kernel
theorem dX8_faulty_12 : decode cX8_faulty 12 = .ok (.putfield 206, 3) := by decide +kernel
theorem dX8_faulty_15 : decode cX8_faulty 15 = .ok (.return_, 1) := by decide +kernel
theorem dX8_addStep_0 : decode cX8_addStep 0 = .ok (.aload_n 0, 1) := by decide +kernel
theorem dX8_addStep_1 : decode cX8_addStep 1 = .ok (.getfield 74, 3) := by decide +kernel
theorem dX8_addStep_4 : decode cX8_addStep 4 = .ok (.sipush 130, 3) := by decide +kernel
theorem dX8_addStep_7 : decode cX8_addStep 7 = .ok (.aload_n 0, 1) := by decide +kernel
theorem dX8_addStep_8 : decode cX8_addStep 8 = .ok (.getfield 209, 3) := by decide +kernel
theorem dX8_addStep_11 : decode cX8_addStep 11 = .ok (.iadd, 1) := by decide +kernel
theorem dX8_addStep_12 : decode cX8_addStep 12 = .ok (.iload_n 1, 1) := by decide +kernel
theorem dX8_addStep_13 : decode cX8_addStep 13 = .ok (.i2b, 1) := by decide +kernel
theorem dX8_addStep_14 : decode cX8_addStep 14 = .ok (.bastore, 1) := by decide +kernel
theorem dX8_addStep_15 : decode cX8_addStep 15 = .ok (.aload_n 0, 1) := by decide +kernel
theorem dX8_addStep_16 : decode cX8_addStep 16 = .ok (.getfield 77, 3) := by decide +kernel
theorem dX8_addStep_19 : decode cX8_addStep 19 = .ok (.sipush 130, 3) := by decide +kernel
theorem dX8_addStep_22 : decode cX8_addStep 22 = .ok (.aload_n 0, 1) := by decide +kernel
theorem dX8_addStep_23 : decode cX8_addStep 23 = .ok (.getfield 209, 3) := by decide +kernel
theorem dX8_addStep_26 : decode cX8_addStep 26 = .ok (.iadd, 1) := by decide +kernel
theorem dX8_addStep_27 : decode cX8_addStep 27 = .ok (.iload_n 2, 1) := by decide +kernel
theorem dX8_addStep_28 : decode cX8_addStep 28 = .ok (.iastore, 1) := by decide +kernel
theorem dX8_addStep_29 : decode cX8_addStep 29 = .ok (.aload_n 0, 1) := by decide +kernel
theorem dX8_addStep_30 : decode cX8_addStep 30 = .ok (.dup, 1) := by decide +kernel
theorem dX8_addStep_31 : decode cX8_addStep 31 = .ok (.getfield 209, 3) := by decide +kernel
theorem dX8_addStep_34 : decode cX8_addStep 34 = .ok (.iconst 1, 1) := by decide +kernel
theorem dX8_addStep_35 : decode cX8_addStep 35 = .ok (.iadd, 1) := by decide +kernel
theorem dX8_addStep_36 : decode cX8_addStep 36 = .ok (.putfield 209, 3) := by decide +kernel
theorem dX8_addStep_39 : decode cX8_addStep 39 = .ok (.return_, 1) := by decide +kernel
theorem dX8_nameOf_0 : decode cX8_nameOf 0 = .ok (.iload_n 0, 1) := by decide +kernel
theorem dX8_nameOf_1 : decode cX8_nameOf 1 = .ok (.lookupswitch 61 #[(97, 51), (98, 53), (109, 57), (110, 55), (115, 59)], 51) := by decide +kernel
theorem dX8_nameOf_52 : decode cX8_nameOf 52 = .ok (.iconst 0, 1) := by decide +kernel
theorem dX8_nameOf_53 : decode cX8_nameOf 53 = .ok (.ireturn, 1) := by decide +kernel
theorem dX8_nameOf_54 : decode cX8_nameOf 54 = .ok (.iconst 1, 1) := by decide +kernel
theorem dX8_nameOf_55 : decode cX8_nameOf 55 = .ok (.ireturn, 1) := by decide +kernel
theorem dX8_nameOf_56 : decode cX8_nameOf 56 = .ok (.iconst 2, 1) := by decide +kernel
theorem dX8_nameOf_57 : decode cX8_nameOf 57 = .ok (.ireturn, 1) := by decide +kernel
theorem dX8_nameOf_58 : decode cX8_nameOf 58 = .ok (.iconst 3, 1) := by decide +kernel
theorem dX8_nameOf_59 : decode cX8_nameOf 59 = .ok (.ireturn, 1) := by decide +kernel
theorem dX8_nameOf_60 : decode cX8_nameOf 60 = .ok (.iconst 4, 1) := by decide +kernel
theorem dX8_nameOf_61 : decode cX8_nameOf 61 = .ok (.ireturn, 1) := by decide +kernel
theorem dX8_nameOf_62 : decode cX8_nameOf 62 = .ok (.iconst (-1), 1) := by decide +kernel
theorem dX8_nameOf_63 : decode cX8_nameOf 63 = .ok (.ireturn, 1) := by decide +kernel
theorem dX8_opens_0 : decode cX8_opens 0 = .ok (.aload_n 0, 1) := by decide +kernel
theorem dX8_opens_1 : decode cX8_opens 1 = .ok (.getfield 212, 3) := by decide +kernel
theorem dX8_opens_4 : decode cX8_opens 4 = .ok (.bipush 6, 2) := by decide +kernel
theorem dX8_opens_6 : decode cX8_opens 6 = .ok (.if_icmp .ne 9, 3) := by decide +kernel
theorem dX8_opens_9 : decode cX8_opens 9 = .ok (.aload_n 0, 1) := by decide +kernel
theorem dX8_opens_10 : decode cX8_opens 10 = .ok (.invokevirtual 215, 3) := by decide +kernel
theorem dX8_opens_13 : decode cX8_opens 13 = .ok (.iconst 0, 1) := by decide +kernel
theorem dX8_opens_14 : decode cX8_opens 14 = .ok (.ireturn, 1) := by decide +kernel
theorem dX8_opens_15 : decode cX8_opens 15 = .ok (.aload_n 0, 1) := by decide +kernel
theorem dX8_opens_16 : decode cX8_opens 16 = .ok (.dup, 1) := by decide +kernel
theorem dX8_opens_17 : decode cX8_opens 17 = .ok (.getfield 212, 3) := by decide +kernel
theorem dX8_opens_20 : decode cX8_opens 20 = .ok (.iconst 1, 1) := by decide +kernel
theorem dX8_opens_21 : decode cX8_opens 21 = .ok (.iadd, 1) := by decide +kernel
theorem dX8_opens_22 : decode cX8_opens 22 = .ok (.putfield 212, 3) := by decide +kernel
theorem dX8_opens_25 : decode cX8_opens 25 = .ok (.aload_n 0, 1) := by decide +kernel
theorem dX8_opens_26 : decode cX8_opens 26 = .ok (.dup, 1) := by decide +kernel
theorem dX8_opens_27 : decode cX8_opens 27 = .ok (.getfield 203, 3) := by decide +kernel
theorem dX8_opens_30 : decode cX8_opens 30 = .ok (.iconst 1, 1) := by decide +kernel
theorem dX8_opens_31 : decode cX8_opens 31 = .ok (.iadd, 1) := by decide +kernel
theorem dX8_opens_32 : decode cX8_opens 32 = .ok (.putfield 203, 3) := by decide +kernel
theorem dX8_opens_35 : decode cX8_opens 35 = .ok (.iconst 1, 1) := by decide +kernel
theorem dX8_opens_36 : decode cX8_opens 36 = .ok (.ireturn, 1) := by decide +kernel
theorem dX8_figure_0 : decode cX8_figure 0 = .ok (.iconst 0, 1) := by decide +kernel
theorem dX8_figure_1 : decode cX8_figure 1 = .ok (.istore_n 1, 1) := by decide +kernel
theorem dX8_figure_2 : decode cX8_figure 2 = .ok (.iconst 0, 1) := by decide +kernel
theorem dX8_figure_3 : decode cX8_figure 3 = .ok (.istore_n 2, 1) := by decide +kernel
theorem dX8_figure_4 : decode cX8_figure 4 = .ok (.iload_n 2, 1) := by decide +kernel
theorem dX8_figure_5 : decode cX8_figure 5 = .ok (.iconst 4, 1) := by decide +kernel
theorem dX8_figure_6 : decode cX8_figure 6 = .ok (.if_icmp .ge 46, 3) := by decide +kernel
theorem dX8_figure_9 : decode cX8_figure 9 = .ok (.aload_n 0, 1) := by decide +kernel
theorem dX8_figure_10 : decode cX8_figure 10 = .ok (.invokevirtual 218, 3) := by decide +kernel
theorem dX8_figure_13 : decode cX8_figure 13 = .ok (.bipush 48, 2) := by decide +kernel
theorem dX8_figure_15 : decode cX8_figure 15 = .ok (.bipush 57, 2) := by decide +kernel
theorem dX8_figure_17 : decode cX8_figure 17 = .ok (.invokestatic 148, 3) := by decide +kernel
theorem dX8_figure_20 : decode cX8_figure 20 = .ok (.ifCond .eq 32, 3) := by decide +kernel
theorem dX8_figure_23 : decode cX8_figure 23 = .ok (.bipush 10, 2) := by decide +kernel
theorem dX8_figure_25 : decode cX8_figure 25 = .ok (.iload_n 1, 1) := by decide +kernel
theorem dX8_figure_26 : decode cX8_figure 26 = .ok (.imul, 1) := by decide +kernel
theorem dX8_figure_27 : decode cX8_figure 27 = .ok (.aload_n 0, 1) := by decide +kernel
theorem dX8_figure_28 : decode cX8_figure 28 = .ok (.invokevirtual 218, 3) := by decide +kernel
theorem dX8_figure_31 : decode cX8_figure 31 = .ok (.iadd, 1) := by decide +kernel
theorem dX8_figure_32 : decode cX8_figure 32 = .ok (.bipush 48, 2) := by decide +kernel
theorem dX8_figure_34 : decode cX8_figure 34 = .ok (.isub, 1) := by decide +kernel
theorem dX8_figure_35 : decode cX8_figure 35 = .ok (.istore_n 1, 1) := by decide +kernel
theorem dX8_figure_36 : decode cX8_figure 36 = .ok (.iinc 2 1, 3) := by decide +kernel
theorem dX8_figure_39 : decode cX8_figure 39 = .ok (.aload_n 0, 1) := by decide +kernel
theorem dX8_figure_40 : decode cX8_figure 40 = .ok (.dup, 1) := by decide +kernel
theorem dX8_figure_41 : decode cX8_figure 41 = .ok (.getfield 203, 3) := by decide +kernel
theorem dX8_figure_44 : decode cX8_figure 44 = .ok (.iconst 1, 1) := by decide +kernel
theorem dX8_figure_45 : decode cX8_figure 45 = .ok (.iadd, 1) := by decide +kernel
theorem dX8_figure_46 : decode cX8_figure 46 = .ok (.putfield 203, 3) := by decide +kernel
theorem dX8_figure_49 : decode cX8_figure 49 = .ok (.goto (-45), 3) := by decide +kernel
theorem dX8_figure_52 : decode cX8_figure 52 = .ok (.iload_n 2, 1) := by decide +kernel
theorem dX8_figure_53 : decode cX8_figure 53 = .ok (.ifCond .eq 17, 3) := by decide +kernel
theorem dX8_figure_56 : decode cX8_figure 56 = .ok (.aload_n 0, 1) := by decide +kernel
theorem dX8_figure_57 : decode cX8_figure 57 = .ok (.invokevirtual 218, 3) := by decide +kernel
theorem dX8_figure_60 : decode cX8_figure 60 = .ok (.bipush 48, 2) := by decide +kernel
theorem dX8_figure_62 : decode cX8_figure 62 = .ok (.bipush 57, 2) := by decide +kernel
theorem dX8_figure_64 : decode cX8_figure 64 = .ok (.invokestatic 148, 3) := by decide +kernel
theorem dX8_figure_67 : decode cX8_figure 67 = .ok (.ifCond .eq 7, 3) := by decide +kernel
theorem dX8_figure_70 : decode cX8_figure 70 = .ok (.aload_n 0, 1) := by decide +kernel
theorem dX8_figure_71 : decode cX8_figure 71 = .ok (.invokevirtual 215, 3) := by decide +kernel
theorem dX8_figure_74 : decode cX8_figure 74 = .ok (.aload_n 0, 1) := by decide +kernel
theorem dX8_figure_75 : decode cX8_figure 75 = .ok (.iconst 1, 1) := by decide +kernel
theorem dX8_figure_76 : decode cX8_figure 76 = .ok (.iload_n 1, 1) := by decide +kernel
theorem dX8_figure_77 : decode cX8_figure 77 = .ok (.invokevirtual 221, 3) := by decide +kernel
theorem dX8_figure_80 : decode cX8_figure 80 = .ok (.return_, 1) := by decide +kernel
theorem dX8_operand_0 : decode cX8_operand 0 = .ok (.aload_n 0, 1) := by decide +kernel
theorem dX8_operand_1 : decode cX8_operand 1 = .ok (.invokevirtual 218, 3) := by decide +kernel
theorem dX8_operand_4 : decode cX8_operand 4 = .ok (.istore_n 1, 1) := by decide +kernel
theorem dX8_operand_5 : decode cX8_operand 5 = .ok (.iload_n 1, 1) := by decide +kernel
theorem dX8_operand_6 : decode cX8_operand 6 = .ok (.invokestatic 225, 3) := by decide +kernel
theorem dX8_operand_9 : decode cX8_operand 9 = .ok (.ifCond .lt 25, 3) := by decide +kernel
theorem dX8_operand_12 : decode cX8_operand 12 = .ok (.aload_n 0, 1) := by decide +kernel
theorem dX8_operand_13 : decode cX8_operand 13 = .ok (.iconst 2, 1) := by decide +kernel
theorem dX8_operand_14 : decode cX8_operand 14 = .ok (.iload_n 1, 1) := by decide +kernel
theorem dX8_operand_15 : decode cX8_operand 15 = .ok (.invokestatic 225, 3) := by decide +kernel
theorem dX8_operand_18 : decode cX8_operand 18 = .ok (.invokevirtual 221, 3) := by decide +kernel
theorem dX8_operand_21 : decode cX8_operand 21 = .ok (.aload_n 0, 1) := by decide +kernel
theorem dX8_operand_22 : decode cX8_operand 22 = .ok (.dup, 1) := by decide +kernel
theorem dX8_operand_23 : decode cX8_operand 23 = .ok (.getfield 203, 3) := by decide +kernel
theorem dX8_operand_26 : decode cX8_operand 26 = .ok (.iconst 1, 1) := by decide +kernel
theorem dX8_operand_27 : decode cX8_operand 27 = .ok (.iadd, 1) := by decide +kernel
theorem dX8_operand_28 : decode cX8_operand 28 = .ok (.putfield 203, 3) := by decide +kernel
theorem dX8_operand_31 : decode cX8_operand 31 = .ok (.goto 123, 3) := by decide +kernel
theorem dX8_operand_34 : decode cX8_operand 34 = .ok (.iload_n 1, 1) := by decide +kernel
theorem dX8_operand_35 : decode cX8_operand 35 = .ok (.bipush 33, 2) := by decide +kernel
theorem dX8_operand_37 : decode cX8_operand 37 = .ok (.if_icmp .eq 9, 3) := by decide +kernel
theorem dX8_operand_40 : decode cX8_operand 40 = .ok (.iload_n 1, 1) := by decide +kernel
theorem dX8_operand_41 : decode cX8_operand 41 = .ok (.bipush 45, 2) := by decide +kernel
theorem dX8_operand_43 : decode cX8_operand 43 = .ok (.if_icmp .ne 44, 3) := by decide +kernel
theorem dX8_operand_46 : decode cX8_operand 46 = .ok (.aload_n 0, 1) := by decide +kernel
theorem dX8_operand_47 : decode cX8_operand 47 = .ok (.invokevirtual 228, 3) := by decide +kernel
theorem dX8_operand_50 : decode cX8_operand 50 = .ok (.ifCond .ne 4, 3) := by decide +kernel
theorem dX8_operand_53 : decode cX8_operand 53 = .ok (.return_, 1) := by decide +kernel
theorem dX8_operand_54 : decode cX8_operand 54 = .ok (.aload_n 0, 1) := by decide +kernel
theorem dX8_operand_55 : decode cX8_operand 55 = .ok (.invokevirtual 232, 3) := by decide +kernel
theorem dX8_operand_58 : decode cX8_operand 58 = .ok (.aload_n 0, 1) := by decide +kernel
theorem dX8_operand_59 : decode cX8_operand 59 = .ok (.dup, 1) := by decide +kernel
theorem dX8_operand_60 : decode cX8_operand 60 = .ok (.getfield 212, 3) := by decide +kernel
theorem dX8_operand_63 : decode cX8_operand 63 = .ok (.iconst 1, 1) := by decide +kernel
theorem dX8_operand_64 : decode cX8_operand 64 = .ok (.isub, 1) := by decide +kernel
theorem dX8_operand_65 : decode cX8_operand 65 = .ok (.putfield 212, 3) := by decide +kernel
theorem dX8_operand_68 : decode cX8_operand 68 = .ok (.aload_n 0, 1) := by decide +kernel
theorem dX8_operand_69 : decode cX8_operand 69 = .ok (.iload_n 1, 1) := by decide +kernel
theorem dX8_operand_70 : decode cX8_operand 70 = .ok (.bipush 33, 2) := by decide +kernel
theorem dX8_operand_72 : decode cX8_operand 72 = .ok (.if_icmp .ne 7, 3) := by decide +kernel
theorem dX8_operand_75 : decode cX8_operand 75 = .ok (.iconst 3, 1) := by decide +kernel
theorem dX8_operand_76 : decode cX8_operand 76 = .ok (.goto 4, 3) := by decide +kernel
theorem dX8_operand_79 : decode cX8_operand 79 = .ok (.iconst 4, 1) := by decide +kernel
theorem dX8_operand_80 : decode cX8_operand 80 = .ok (.iconst 0, 1) := by decide +kernel
theorem dX8_operand_81 : decode cX8_operand 81 = .ok (.invokevirtual 221, 3) := by decide +kernel
theorem dX8_operand_84 : decode cX8_operand 84 = .ok (.goto 70, 3) := by decide +kernel
theorem dX8_operand_87 : decode cX8_operand 87 = .ok (.iload_n 1, 1) := by decide +kernel
theorem dX8_operand_88 : decode cX8_operand 88 = .ok (.bipush 40, 2) := by decide +kernel
theorem dX8_operand_90 : decode cX8_operand 90 = .ok (.if_icmp .ne 60, 3) := by decide +kernel
theorem dX8_operand_93 : decode cX8_operand 93 = .ok (.aload_n 0, 1) := by decide +kernel
theorem dX8_operand_94 : decode cX8_operand 94 = .ok (.invokevirtual 228, 3) := by decide +kernel
theorem dX8_operand_97 : decode cX8_operand 97 = .ok (.ifCond .ne 4, 3) := by decide +kernel
theorem dX8_operand_100 : decode cX8_operand 100 = .ok (.return_, 1) := by decide +kernel
theorem dX8_operand_101 : decode cX8_operand 101 = .ok (.aload_n 0, 1) := by decide +kernel
theorem dX8_operand_102 : decode cX8_operand 102 = .ok (.invokevirtual 235, 3) := by decide +kernel
theorem dX8_operand_105 : decode cX8_operand 105 = .ok (.aload_n 0, 1) := by decide +kernel
theorem dX8_operand_106 : decode cX8_operand 106 = .ok (.getfield 206, 3) := by decide +kernel
theorem dX8_operand_109 : decode cX8_operand 109 = .ok (.ifCond .lt 4, 3) := by decide +kernel
theorem dX8_operand_112 : decode cX8_operand 112 = .ok (.return_, 1) := by decide +kernel
theorem dX8_operand_113 : decode cX8_operand 113 = .ok (.aload_n 0, 1) := by decide +kernel
theorem dX8_operand_114 : decode cX8_operand 114 = .ok (.invokevirtual 218, 3) := by decide +kernel
theorem dX8_operand_117 : decode cX8_operand 117 = .ok (.bipush 41, 2) := by decide +kernel
theorem dX8_operand_119 : decode cX8_operand 119 = .ok (.if_icmp .eq 8, 3) := by decide +kernel
theorem dX8_operand_122 : decode cX8_operand 122 = .ok (.aload_n 0, 1) := by decide +kernel
theorem dX8_operand_123 : decode cX8_operand 123 = .ok (.invokevirtual 215, 3) := by decide +kernel
theorem dX8_operand_126 : decode cX8_operand 126 = .ok (.return_, 1) := by decide +kernel
theorem dX8_operand_127 : decode cX8_operand 127 = .ok (.aload_n 0, 1) := by decide +kernel
theorem dX8_operand_128 : decode cX8_operand 128 = .ok (.dup, 1) := by decide +kernel
theorem dX8_operand_129 : decode cX8_operand 129 = .ok (.getfield 203, 3) := by decide +kernel
theorem dX8_operand_132 : decode cX8_operand 132 = .ok (.iconst 1, 1) := by decide +kernel
theorem dX8_operand_133 : decode cX8_operand 133 = .ok (.iadd, 1) := by decide +kernel
theorem dX8_operand_134 : decode cX8_operand 134 = .ok (.putfield 203, 3) := by decide +kernel
theorem dX8_operand_137 : decode cX8_operand 137 = .ok (.aload_n 0, 1) := by decide +kernel
theorem dX8_operand_138 : decode cX8_operand 138 = .ok (.dup, 1) := by decide +kernel
theorem dX8_operand_139 : decode cX8_operand 139 = .ok (.getfield 212, 3) := by decide +kernel
theorem dX8_operand_142 : decode cX8_operand 142 = .ok (.iconst 1, 1) := by decide +kernel
theorem dX8_operand_143 : decode cX8_operand 143 = .ok (.isub, 1) := by decide +kernel
theorem dX8_operand_144 : decode cX8_operand 144 = .ok (.putfield 212, 3) := by decide +kernel
theorem dX8_operand_147 : decode cX8_operand 147 = .ok (.goto 7, 3) := by decide +kernel
theorem dX8_operand_150 : decode cX8_operand 150 = .ok (.aload_n 0, 1) := by decide +kernel
theorem dX8_operand_151 : decode cX8_operand 151 = .ok (.invokevirtual 238, 3) := by decide +kernel
theorem dX8_operand_154 : decode cX8_operand 154 = .ok (.return_, 1) := by decide +kernel
theorem dX8_product_0 : decode cX8_product 0 = .ok (.aload_n 0, 1) := by decide +kernel
theorem dX8_product_1 : decode cX8_product 1 = .ok (.invokevirtual 232, 3) := by decide +kernel
theorem dX8_product_4 : decode cX8_product 4 = .ok (.aload_n 0, 1) := by decide +kernel
theorem dX8_product_5 : decode cX8_product 5 = .ok (.getfield 206, 3) := by decide +kernel
theorem dX8_product_8 : decode cX8_product 8 = .ok (.ifCond .ge 58, 3) := by decide +kernel
theorem dX8_product_11 : decode cX8_product 11 = .ok (.aload_n 0, 1) := by decide +kernel
theorem dX8_product_12 : decode cX8_product 12 = .ok (.invokevirtual 218, 3) := by decide +kernel
theorem dX8_product_15 : decode cX8_product 15 = .ok (.bipush 42, 2) := by decide +kernel
theorem dX8_product_17 : decode cX8_product 17 = .ok (.if_icmp .eq 21, 3) := by decide +kernel
theorem dX8_product_20 : decode cX8_product 20 = .ok (.aload_n 0, 1) := by decide +kernel
theorem dX8_product_21 : decode cX8_product 21 = .ok (.invokevirtual 218, 3) := by decide +kernel
theorem dX8_product_24 : decode cX8_product 24 = .ok (.bipush 47, 2) := by decide +kernel
theorem dX8_product_26 : decode cX8_product 26 = .ok (.if_icmp .eq 12, 3) := by decide +kernel
theorem dX8_product_29 : decode cX8_product 29 = .ok (.aload_n 0, 1) := by decide +kernel
theorem dX8_product_30 : decode cX8_product 30 = .ok (.invokevirtual 218, 3) := by decide +kernel
theorem dX8_product_33 : decode cX8_product 33 = .ok (.bipush 37, 2) := by decide +kernel
theorem dX8_product_35 : decode cX8_product 35 = .ok (.if_icmp .ne 31, 3) := by decide +kernel
theorem dX8_product_38 : decode cX8_product 38 = .ok (.aload_n 0, 1) := by decide +kernel
theorem dX8_product_39 : decode cX8_product 39 = .ok (.invokevirtual 218, 3) := by decide +kernel
theorem dX8_product_42 : decode cX8_product 42 = .ok (.istore_n 1, 1) := by decide +kernel
theorem dX8_product_43 : decode cX8_product 43 = .ok (.aload_n 0, 1) := by decide +kernel
theorem dX8_product_44 : decode cX8_product 44 = .ok (.dup, 1) := by decide +kernel
theorem dX8_product_45 : decode cX8_product 45 = .ok (.getfield 203, 3) := by decide +kernel
theorem dX8_product_48 : decode cX8_product 48 = .ok (.iconst 1, 1) := by decide +kernel
theorem dX8_product_49 : decode cX8_product 49 = .ok (.iadd, 1) := by decide +kernel
theorem dX8_product_50 : decode cX8_product 50 = .ok (.putfield 203, 3) := by decide +kernel
theorem dX8_product_53 : decode cX8_product 53 = .ok (.aload_n 0, 1) := by decide +kernel
theorem dX8_product_54 : decode cX8_product 54 = .ok (.invokevirtual 232, 3) := by decide +kernel
theorem dX8_product_57 : decode cX8_product 57 = .ok (.aload_n 0, 1) := by decide +kernel
theorem dX8_product_58 : decode cX8_product 58 = .ok (.iload_n 1, 1) := by decide +kernel
theorem dX8_product_59 : decode cX8_product 59 = .ok (.iconst 0, 1) := by decide +kernel
theorem dX8_product_60 : decode cX8_product 60 = .ok (.invokevirtual 221, 3) := by decide +kernel
theorem dX8_product_63 : decode cX8_product 63 = .ok (.goto (-59), 3) := by decide +kernel
theorem dX8_product_66 : decode cX8_product 66 = .ok (.return_, 1) := by decide +kernel
theorem dX8_sum_0 : decode cX8_sum 0 = .ok (.aload_n 0, 1) := by decide +kernel
theorem dX8_sum_1 : decode cX8_sum 1 = .ok (.invokevirtual 241, 3) := by decide +kernel
theorem dX8_sum_4 : decode cX8_sum 4 = .ok (.aload_n 0, 1) := by decide +kernel
theorem dX8_sum_5 : decode cX8_sum 5 = .ok (.getfield 206, 3) := by decide +kernel
theorem dX8_sum_8 : decode cX8_sum 8 = .ok (.ifCond .ge 49, 3) := by decide +kernel
theorem dX8_sum_11 : decode cX8_sum 11 = .ok (.aload_n 0, 1) := by decide +kernel
theorem dX8_sum_12 : decode cX8_sum 12 = .ok (.invokevirtual 218, 3) := by decide +kernel
theorem dX8_sum_15 : decode cX8_sum 15 = .ok (.bipush 43, 2) := by decide +kernel
theorem dX8_sum_17 : decode cX8_sum 17 = .ok (.if_icmp .eq 12, 3) := by decide +kernel
theorem dX8_sum_20 : decode cX8_sum 20 = .ok (.aload_n 0, 1) := by decide +kernel
theorem dX8_sum_21 : decode cX8_sum 21 = .ok (.invokevirtual 218, 3) := by decide +kernel
theorem dX8_sum_24 : decode cX8_sum 24 = .ok (.bipush 45, 2) := by decide +kernel
theorem dX8_sum_26 : decode cX8_sum 26 = .ok (.if_icmp .ne 31, 3) := by decide +kernel
theorem dX8_sum_29 : decode cX8_sum 29 = .ok (.aload_n 0, 1) := by decide +kernel
theorem dX8_sum_30 : decode cX8_sum 30 = .ok (.invokevirtual 218, 3) := by decide +kernel
theorem dX8_sum_33 : decode cX8_sum 33 = .ok (.istore_n 1, 1) := by decide +kernel
theorem dX8_sum_34 : decode cX8_sum 34 = .ok (.aload_n 0, 1) := by decide +kernel
theorem dX8_sum_35 : decode cX8_sum 35 = .ok (.dup, 1) := by decide +kernel
theorem dX8_sum_36 : decode cX8_sum 36 = .ok (.getfield 203, 3) := by decide +kernel
theorem dX8_sum_39 : decode cX8_sum 39 = .ok (.iconst 1, 1) := by decide +kernel
theorem dX8_sum_40 : decode cX8_sum 40 = .ok (.iadd, 1) := by decide +kernel
theorem dX8_sum_41 : decode cX8_sum 41 = .ok (.putfield 203, 3) := by decide +kernel
theorem dX8_sum_44 : decode cX8_sum 44 = .ok (.aload_n 0, 1) := by decide +kernel
theorem dX8_sum_45 : decode cX8_sum 45 = .ok (.invokevirtual 241, 3) := by decide +kernel
theorem dX8_sum_48 : decode cX8_sum 48 = .ok (.aload_n 0, 1) := by decide +kernel
theorem dX8_sum_49 : decode cX8_sum 49 = .ok (.iload_n 1, 1) := by decide +kernel
theorem dX8_sum_50 : decode cX8_sum 50 = .ok (.iconst 0, 1) := by decide +kernel
theorem dX8_sum_51 : decode cX8_sum 51 = .ok (.invokevirtual 221, 3) := by decide +kernel
theorem dX8_sum_54 : decode cX8_sum 54 = .ok (.goto (-50), 3) := by decide +kernel
theorem dX8_sum_57 : decode cX8_sum 57 = .ok (.return_, 1) := by decide +kernel
theorem dX8_compared_0 : decode cX8_compared 0 = .ok (.aload_n 0, 1) := by decide +kernel
theorem dX8_compared_1 : decode cX8_compared 1 = .ok (.invokevirtual 244, 3) := by decide +kernel
theorem dX8_compared_4 : decode cX8_compared 4 = .ok (.aload_n 0, 1) := by decide +kernel
theorem dX8_compared_5 : decode cX8_compared 5 = .ok (.invokevirtual 218, 3) := by decide +kernel
theorem dX8_compared_8 : decode cX8_compared 8 = .ok (.istore_n 1, 1) := by decide +kernel
theorem dX8_compared_9 : decode cX8_compared 9 = .ok (.aload_n 0, 1) := by decide +kernel
theorem dX8_compared_10 : decode cX8_compared 10 = .ok (.getfield 206, 3) := by decide +kernel
theorem dX8_compared_13 : decode cX8_compared 13 = .ok (.ifCond .ge 21, 3) := by decide +kernel
theorem dX8_compared_16 : decode cX8_compared 16 = .ok (.iload_n 1, 1) := by decide +kernel
theorem dX8_compared_17 : decode cX8_compared 17 = .ok (.bipush 60, 2) := by decide +kernel
theorem dX8_compared_19 : decode cX8_compared 19 = .ok (.if_icmp .eq 16, 3) := by decide +kernel
theorem dX8_compared_22 : decode cX8_compared 22 = .ok (.iload_n 1, 1) := by decide +kernel
theorem dX8_compared_23 : decode cX8_compared 23 = .ok (.bipush 61, 2) := by decide +kernel
theorem dX8_compared_25 : decode cX8_compared 25 = .ok (.if_icmp .eq 10, 3) := by decide +kernel
theorem dX8_compared_28 : decode cX8_compared 28 = .ok (.iload_n 1, 1) := by decide +kernel
theorem dX8_compared_29 : decode cX8_compared 29 = .ok (.bipush 62, 2) := by decide +kernel
theorem dX8_compared_31 : decode cX8_compared 31 = .ok (.if_icmp .eq 4, 3) := by decide +kernel
theorem dX8_compared_34 : decode cX8_compared 34 = .ok (.return_, 1) := by decide +kernel
theorem dX8_compared_35 : decode cX8_compared 35 = .ok (.aload_n 0, 1) := by decide +kernel
theorem dX8_compared_36 : decode cX8_compared 36 = .ok (.dup, 1) := by decide +kernel
theorem dX8_compared_37 : decode cX8_compared 37 = .ok (.getfield 203, 3) := by decide +kernel
theorem dX8_compared_40 : decode cX8_compared 40 = .ok (.iconst 1, 1) := by decide +kernel
theorem dX8_compared_41 : decode cX8_compared 41 = .ok (.iadd, 1) := by decide +kernel
theorem dX8_compared_42 : decode cX8_compared 42 = .ok (.putfield 203, 3) := by decide +kernel
theorem dX8_compared_45 : decode cX8_compared 45 = .ok (.aload_n 0, 1) := by decide +kernel
theorem dX8_compared_46 : decode cX8_compared 46 = .ok (.invokevirtual 244, 3) := by decide +kernel
theorem dX8_compared_49 : decode cX8_compared 49 = .ok (.aload_n 0, 1) := by decide +kernel
theorem dX8_compared_50 : decode cX8_compared 50 = .ok (.iload_n 1, 1) := by decide +kernel
theorem dX8_compared_51 : decode cX8_compared 51 = .ok (.iconst 0, 1) := by decide +kernel
theorem dX8_compared_52 : decode cX8_compared 52 = .ok (.invokevirtual 221, 3) := by decide +kernel
theorem dX8_compared_55 : decode cX8_compared 55 = .ok (.return_, 1) := by decide +kernel
theorem dX8_both_0 : decode cX8_both 0 = .ok (.aload_n 0, 1) := by decide +kernel
theorem dX8_both_1 : decode cX8_both 1 = .ok (.invokevirtual 247, 3) := by decide +kernel
theorem dX8_both_4 : decode cX8_both 4 = .ok (.aload_n 0, 1) := by decide +kernel
theorem dX8_both_5 : decode cX8_both 5 = .ok (.getfield 206, 3) := by decide +kernel
theorem dX8_both_8 : decode cX8_both 8 = .ok (.ifCond .ge 36, 3) := by decide +kernel
theorem dX8_both_11 : decode cX8_both 11 = .ok (.aload_n 0, 1) := by decide +kernel
theorem dX8_both_12 : decode cX8_both 12 = .ok (.invokevirtual 218, 3) := by decide +kernel
theorem dX8_both_15 : decode cX8_both 15 = .ok (.bipush 38, 2) := by decide +kernel
theorem dX8_both_17 : decode cX8_both 17 = .ok (.if_icmp .ne 27, 3) := by decide +kernel
theorem dX8_both_20 : decode cX8_both 20 = .ok (.aload_n 0, 1) := by decide +kernel
theorem dX8_both_21 : decode cX8_both 21 = .ok (.dup, 1) := by decide +kernel
theorem dX8_both_22 : decode cX8_both 22 = .ok (.getfield 203, 3) := by decide +kernel
theorem dX8_both_25 : decode cX8_both 25 = .ok (.iconst 1, 1) := by decide +kernel
theorem dX8_both_26 : decode cX8_both 26 = .ok (.iadd, 1) := by decide +kernel
theorem dX8_both_27 : decode cX8_both 27 = .ok (.putfield 203, 3) := by decide +kernel
theorem dX8_both_30 : decode cX8_both 30 = .ok (.aload_n 0, 1) := by decide +kernel
theorem dX8_both_31 : decode cX8_both 31 = .ok (.invokevirtual 247, 3) := by decide +kernel
theorem dX8_both_34 : decode cX8_both 34 = .ok (.aload_n 0, 1) := by decide +kernel
theorem dX8_both_35 : decode cX8_both 35 = .ok (.bipush 38, 2) := by decide +kernel
theorem dX8_both_37 : decode cX8_both 37 = .ok (.iconst 0, 1) := by decide +kernel
theorem dX8_both_38 : decode cX8_both 38 = .ok (.invokevirtual 221, 3) := by decide +kernel
theorem dX8_both_41 : decode cX8_both 41 = .ok (.goto (-37), 3) := by decide +kernel
theorem dX8_both_44 : decode cX8_both 44 = .ok (.return_, 1) := by decide +kernel
theorem dX8_either_0 : decode cX8_either 0 = .ok (.aload_n 0, 1) := by decide +kernel
theorem dX8_either_1 : decode cX8_either 1 = .ok (.invokevirtual 250, 3) := by decide +kernel
theorem dX8_either_4 : decode cX8_either 4 = .ok (.aload_n 0, 1) := by decide +kernel
theorem dX8_either_5 : decode cX8_either 5 = .ok (.getfield 206, 3) := by decide +kernel
theorem dX8_either_8 : decode cX8_either 8 = .ok (.ifCond .ge 36, 3) := by decide +kernel
theorem dX8_either_11 : decode cX8_either 11 = .ok (.aload_n 0, 1) := by decide +kernel
theorem dX8_either_12 : decode cX8_either 12 = .ok (.invokevirtual 218, 3) := by decide +kernel
theorem dX8_either_15 : decode cX8_either 15 = .ok (.bipush 124, 2) := by decide +kernel
theorem dX8_either_17 : decode cX8_either 17 = .ok (.if_icmp .ne 27, 3) := by decide +kernel
theorem dX8_either_20 : decode cX8_either 20 = .ok (.aload_n 0, 1) := by decide +kernel
theorem dX8_either_21 : decode cX8_either 21 = .ok (.dup, 1) := by decide +kernel
theorem dX8_either_22 : decode cX8_either 22 = .ok (.getfield 203, 3) := by decide +kernel
theorem dX8_either_25 : decode cX8_either 25 = .ok (.iconst 1, 1) := by decide +kernel
theorem dX8_either_26 : decode cX8_either 26 = .ok (.iadd, 1) := by decide +kernel
theorem dX8_either_27 : decode cX8_either 27 = .ok (.putfield 203, 3) := by decide +kernel
theorem dX8_either_30 : decode cX8_either 30 = .ok (.aload_n 0, 1) := by decide +kernel
theorem dX8_either_31 : decode cX8_either 31 = .ok (.invokevirtual 250, 3) := by decide +kernel
theorem dX8_either_34 : decode cX8_either 34 = .ok (.aload_n 0, 1) := by decide +kernel
theorem dX8_either_35 : decode cX8_either 35 = .ok (.bipush 124, 2) := by decide +kernel
theorem dX8_either_37 : decode cX8_either 37 = .ok (.iconst 0, 1) := by decide +kernel
theorem dX8_either_38 : decode cX8_either 38 = .ok (.invokevirtual 221, 3) := by decide +kernel
theorem dX8_either_41 : decode cX8_either 41 = .ok (.goto (-37), 3) := by decide +kernel
theorem dX8_either_44 : decode cX8_either 44 = .ok (.return_, 1) := by decide +kernel
theorem dX8_line_0 : decode cX8_line 0 = .ok (.bipush 61, 2) := by decide +kernel
theorem dX8_line_2 : decode cX8_line 2 = .ok (.aload_n 0, 1) := by decide +kernel
theorem dX8_line_3 : decode cX8_line 3 = .ok (.getfield 80, 3) := by decide +kernel
theorem dX8_line_6 : decode cX8_line 6 = .ok (.iconst 1, 1) := by decide +kernel
theorem dX8_line_7 : decode cX8_line 7 = .ok (.iaload, 1) := by decide +kernel
theorem dX8_line_8 : decode cX8_line 8 = .ok (.iadd, 1) := by decide +kernel
theorem dX8_line_9 : decode cX8_line 9 = .ok (.istore_n 1, 1) := by decide +kernel
theorem dX8_line_10 : decode cX8_line 10 = .ok (.aload_n 0, 1) := by decide +kernel
theorem dX8_line_11 : decode cX8_line 11 = .ok (.getfield 83, 3) := by decide +kernel
theorem dX8_line_14 : decode cX8_line 14 = .ok (.iload_n 1, 1) := by decide +kernel
theorem dX8_line_15 : decode cX8_line 15 = .ok (.aload_n 0, 1) := by decide +kernel
theorem dX8_line_16 : decode cX8_line 16 = .ok (.getfield 209, 3) := by decide +kernel
theorem dX8_line_19 : decode cX8_line 19 = .ok (.i2s, 1) := by decide +kernel
theorem dX8_line_20 : decode cX8_line 20 = .ok (.sastore, 1) := by decide +kernel
theorem dX8_line_21 : decode cX8_line 21 = .ok (.aload_n 0, 1) := by decide +kernel
theorem dX8_line_22 : decode cX8_line 22 = .ok (.invokevirtual 235, 3) := by decide +kernel
theorem dX8_line_25 : decode cX8_line 25 = .ok (.aload_n 0, 1) := by decide +kernel
theorem dX8_line_26 : decode cX8_line 26 = .ok (.getfield 206, 3) := by decide +kernel
theorem dX8_line_29 : decode cX8_line 29 = .ok (.ifCond .ge 37, 3) := by decide +kernel
theorem dX8_line_32 : decode cX8_line 32 = .ok (.aload_n 0, 1) := by decide +kernel
theorem dX8_line_33 : decode cX8_line 33 = .ok (.invokevirtual 218, 3) := by decide +kernel
theorem dX8_line_36 : decode cX8_line 36 = .ok (.bipush 63, 2) := by decide +kernel
theorem dX8_line_38 : decode cX8_line 38 = .ok (.if_icmp .ne 28, 3) := by decide +kernel
theorem dX8_line_41 : decode cX8_line 41 = .ok (.aload_n 0, 1) := by decide +kernel
theorem dX8_line_42 : decode cX8_line 42 = .ok (.dup, 1) := by decide +kernel
theorem dX8_line_43 : decode cX8_line 43 = .ok (.getfield 203, 3) := by decide +kernel
theorem dX8_line_46 : decode cX8_line 46 = .ok (.iconst 1, 1) := by decide +kernel
theorem dX8_line_47 : decode cX8_line 47 = .ok (.iadd, 1) := by decide +kernel
theorem dX8_line_48 : decode cX8_line 48 = .ok (.putfield 203, 3) := by decide +kernel
theorem dX8_line_51 : decode cX8_line 51 = .ok (.aload_n 0, 1) := by decide +kernel
theorem dX8_line_52 : decode cX8_line 52 = .ok (.getfield 83, 3) := by decide +kernel
theorem dX8_line_55 : decode cX8_line 55 = .ok (.iload_n 1, 1) := by decide +kernel
theorem dX8_line_56 : decode cX8_line 56 = .ok (.aload_n 0, 1) := by decide +kernel
theorem dX8_line_57 : decode cX8_line 57 = .ok (.getfield 209, 3) := by decide +kernel
theorem dX8_line_60 : decode cX8_line 60 = .ok (.i2s, 1) := by decide +kernel
theorem dX8_line_61 : decode cX8_line 61 = .ok (.sastore, 1) := by decide +kernel
theorem dX8_line_62 : decode cX8_line 62 = .ok (.aload_n 0, 1) := by decide +kernel
theorem dX8_line_63 : decode cX8_line 63 = .ok (.invokevirtual 235, 3) := by decide +kernel
theorem dX8_line_66 : decode cX8_line 66 = .ok (.aload_n 0, 1) := by decide +kernel
theorem dX8_line_67 : decode cX8_line 67 = .ok (.getfield 87, 3) := by decide +kernel
theorem dX8_line_70 : decode cX8_line 70 = .ok (.iload_n 1, 1) := by decide +kernel
theorem dX8_line_71 : decode cX8_line 71 = .ok (.aload_n 0, 1) := by decide +kernel
theorem dX8_line_72 : decode cX8_line 72 = .ok (.getfield 209, 3) := by decide +kernel
theorem dX8_line_75 : decode cX8_line 75 = .ok (.i2s, 1) := by decide +kernel
theorem dX8_line_76 : decode cX8_line 76 = .ok (.sastore, 1) := by decide +kernel
theorem dX8_line_77 : decode cX8_line 77 = .ok (.aload_n 0, 1) := by decide +kernel
theorem dX8_line_78 : decode cX8_line 78 = .ok (.getfield 80, 3) := by decide +kernel
theorem dX8_line_81 : decode cX8_line 81 = .ok (.iconst 1, 1) := by decide +kernel
theorem dX8_line_82 : decode cX8_line 82 = .ok (.dup2, 1) := by decide +kernel
theorem dX8_line_83 : decode cX8_line 83 = .ok (.iaload, 1) := by decide +kernel
theorem dX8_line_84 : decode cX8_line 84 = .ok (.iconst 1, 1) := by decide +kernel
theorem dX8_line_85 : decode cX8_line 85 = .ok (.iadd, 1) := by decide +kernel
theorem dX8_line_86 : decode cX8_line 86 = .ok (.iastore, 1) := by decide +kernel
theorem dX8_line_87 : decode cX8_line 87 = .ok (.return_, 1) := by decide +kernel
theorem dX8_readText_0 : decode cX8_readText 0 = .ok (.aload_n 0, 1) := by decide +kernel
theorem dX8_readText_1 : decode cX8_readText 1 = .ok (.iconst 0, 1) := by decide +kernel
theorem dX8_readText_2 : decode cX8_readText 2 = .ok (.putfield 203, 3) := by decide +kernel
theorem dX8_readText_5 : decode cX8_readText 5 = .ok (.aload_n 0, 1) := by decide +kernel
theorem dX8_readText_6 : decode cX8_readText 6 = .ok (.iconst (-1), 1) := by decide +kernel
theorem dX8_readText_7 : decode cX8_readText 7 = .ok (.putfield 206, 3) := by decide +kernel
theorem dX8_readText_10 : decode cX8_readText 10 = .ok (.aload_n 0, 1) := by decide +kernel
theorem dX8_readText_11 : decode cX8_readText 11 = .ok (.iconst 0, 1) := by decide +kernel
theorem dX8_readText_12 : decode cX8_readText 12 = .ok (.putfield 212, 3) := by decide +kernel
theorem dX8_readText_15 : decode cX8_readText 15 = .ok (.aload_n 0, 1) := by decide +kernel
theorem dX8_readText_16 : decode cX8_readText 16 = .ok (.iconst 0, 1) := by decide +kernel
theorem dX8_readText_17 : decode cX8_readText 17 = .ok (.putfield 209, 3) := by decide +kernel
theorem dX8_readText_20 : decode cX8_readText 20 = .ok (.aload_n 0, 1) := by decide +kernel
theorem dX8_readText_21 : decode cX8_readText 21 = .ok (.getfield 80, 3) := by decide +kernel
theorem dX8_readText_24 : decode cX8_readText 24 = .ok (.iconst 1, 1) := by decide +kernel
theorem dX8_readText_25 : decode cX8_readText 25 = .ok (.iconst 0, 1) := by decide +kernel
theorem dX8_readText_26 : decode cX8_readText 26 = .ok (.iastore, 1) := by decide +kernel
theorem dX8_readText_27 : decode cX8_readText 27 = .ok (.aload_n 0, 1) := by decide +kernel
theorem dX8_readText_28 : decode cX8_readText 28 = .ok (.invokevirtual 253, 3) := by decide +kernel
theorem dX8_readText_31 : decode cX8_readText 31 = .ok (.aload_n 0, 1) := by decide +kernel
theorem dX8_readText_32 : decode cX8_readText 32 = .ok (.getfield 206, 3) := by decide +kernel
theorem dX8_readText_35 : decode cX8_readText 35 = .ok (.ifCond .ge 29, 3) := by decide +kernel
theorem dX8_readText_38 : decode cX8_readText 38 = .ok (.aload_n 0, 1) := by decide +kernel
theorem dX8_readText_39 : decode cX8_readText 39 = .ok (.invokevirtual 218, 3) := by decide +kernel
theorem dX8_readText_42 : decode cX8_readText 42 = .ok (.bipush 59, 2) := by decide +kernel
theorem dX8_readText_44 : decode cX8_readText 44 = .ok (.if_icmp .ne 20, 3) := by decide +kernel
theorem dX8_readText_47 : decode cX8_readText 47 = .ok (.aload_n 0, 1) := by decide +kernel
theorem dX8_readText_48 : decode cX8_readText 48 = .ok (.dup, 1) := by decide +kernel
theorem dX8_readText_49 : decode cX8_readText 49 = .ok (.getfield 203, 3) := by decide +kernel
theorem dX8_readText_52 : decode cX8_readText 52 = .ok (.iconst 1, 1) := by decide +kernel
theorem dX8_readText_53 : decode cX8_readText 53 = .ok (.iadd, 1) := by decide +kernel
theorem dX8_readText_54 : decode cX8_readText 54 = .ok (.putfield 203, 3) := by decide +kernel
theorem dX8_readText_57 : decode cX8_readText 57 = .ok (.aload_n 0, 1) := by decide +kernel
theorem dX8_readText_58 : decode cX8_readText 58 = .ok (.invokevirtual 253, 3) := by decide +kernel
theorem dX8_readText_61 : decode cX8_readText 61 = .ok (.goto (-30), 3) := by decide +kernel
theorem dX8_readText_64 : decode cX8_readText 64 = .ok (.aload_n 0, 1) := by decide +kernel
theorem dX8_readText_65 : decode cX8_readText 65 = .ok (.getfield 206, 3) := by decide +kernel
theorem dX8_readText_68 : decode cX8_readText 68 = .ok (.ifCond .ge 18, 3) := by decide +kernel
theorem dX8_readText_71 : decode cX8_readText 71 = .ok (.aload_n 0, 1) := by decide +kernel
theorem dX8_readText_72 : decode cX8_readText 72 = .ok (.getfield 203, 3) := by decide +kernel
theorem dX8_readText_75 : decode cX8_readText 75 = .ok (.aload_n 0, 1) := by decide +kernel
theorem dX8_readText_76 : decode cX8_readText 76 = .ok (.getfield 200, 3) := by decide +kernel
theorem dX8_readText_79 : decode cX8_readText 79 = .ok (.if_icmp .ge 7, 3) := by decide +kernel
