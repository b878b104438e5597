theorem dX5_init_0 : decode cX5_init 0 = .ok (.aload_n 0, 1) := by decide +kernel
theorem dX5_init_1 : decode cX5_init 1 = .ok (.invokespecial 1, 3) := by decide +kernel
theorem dX5_init_4 : decode cX5_init 4 = .ok (.aload_n 0, 1) := by decide +kernel
theorem dX5_init_5 : decode cX5_init 5 = .ok (.bipush 96, 2) := by decide +kernel
theorem dX5_init_7 : decode cX5_init 7 = .ok (.newarray .int, 2) := by decide +kernel
theorem dX5_init_9 : decode cX5_init 9 = .ok (.putfield 9, 3) := by decide +kernel
theorem dX5_init_12 : decode cX5_init 12 = .ok (.aload_n 0, 1) := by decide +kernel
theorem dX5_init_13 : decode cX5_init 13 = .ok (.bipush 96, 2) := by decide +kernel
theorem dX5_init_15 : decode cX5_init 15 = .ok (.newarray .int, 2) := by decide +kernel
theorem dX5_init_17 : decode cX5_init 17 = .ok (.putfield 13, 3) := by decide +kernel
theorem dX5_init_20 : decode cX5_init 20 = .ok (.aload_n 0, 1) := by decide +kernel
theorem dX5_init_21 : decode cX5_init 21 = .ok (.bipush 96, 2) := by decide +kernel
theorem dX5_init_23 : decode cX5_init 23 = .ok (.newarray .int, 2) := by decide +kernel
theorem dX5_init_25 : decode cX5_init 25 = .ok (.putfield 16, 3) := by decide +kernel
theorem dX5_init_28 : decode cX5_init 28 = .ok (.aload_n 0, 1) := by decide +kernel
theorem dX5_init_29 : decode cX5_init 29 = .ok (.bipush 8, 2) := by decide +kernel
theorem dX5_init_31 : decode cX5_init 31 = .ok (.newarray .int, 2) := by decide +kernel
theorem dX5_init_33 : decode cX5_init 33 = .ok (.putfield 19, 3) := by decide +kernel
theorem dX5_init_36 : decode cX5_init 36 = .ok (.aload_n 0, 1) := by decide +kernel
theorem dX5_init_37 : decode cX5_init 37 = .ok (.bipush 7, 2) := by decide +kernel
theorem dX5_init_39 : decode cX5_init 39 = .ok (.newarray .int, 2) := by decide +kernel
theorem dX5_init_41 : decode cX5_init 41 = .ok (.dup, 1) := by decide +kernel
theorem dX5_init_42 : decode cX5_init 42 = .ok (.iconst 0, 1) := by decide +kernel
theorem dX5_init_43 : decode cX5_init 43 = .ok (.iconst 0, 1) := by decide +kernel
theorem dX5_init_44 : decode cX5_init 44 = .ok (.iastore, 1) := by decide +kernel
theorem dX5_init_45 : decode cX5_init 45 = .ok (.dup, 1) := by decide +kernel
theorem dX5_init_46 : decode cX5_init 46 = .ok (.iconst 1, 1) := by decide +kernel
theorem dX5_init_47 : decode cX5_init 47 = .ok (.iconst 1, 1) := by decide +kernel
theorem dX5_init_48 : decode cX5_init 48 = .ok (.iastore, 1) := by decide +kernel
theorem dX5_init_49 : decode cX5_init 49 = .ok (.dup, 1) := by decide +kernel
theorem dX5_init_50 : decode cX5_init 50 = .ok (.iconst 2, 1) := by decide +kernel
theorem dX5_init_51 : decode cX5_init 51 = .ok (.iconst 1, 1) := by decide +kernel
theorem dX5_init_52 : decode cX5_init 52 = .ok (.iastore, 1) := by decide +kernel
theorem dX5_init_53 : decode cX5_init 53 = .ok (.dup, 1) := by decide +kernel
theorem dX5_init_54 : decode cX5_init 54 = .ok (.iconst 3, 1) := by decide +kernel
theorem dX5_init_55 : decode cX5_init 55 = .ok (.iconst 0, 1) := by decide +kernel
theorem dX5_init_56 : decode cX5_init 56 = .ok (.iastore, 1) := by decide +kernel
theorem dX5_init_57 : decode cX5_init 57 = .ok (.dup, 1) := by decide +kernel
theorem dX5_init_58 : decode cX5_init 58 = .ok (.iconst 4, 1) := by decide +kernel
theorem dX5_init_59 : decode cX5_init 59 = .ok (.iconst 1, 1) := by decide +kernel
theorem dX5_init_60 : decode cX5_init 60 = .ok (.iastore, 1) := by decide +kernel
theorem dX5_init_61 : decode cX5_init 61 = .ok (.dup, 1) := by decide +kernel
theorem dX5_init_62 : decode cX5_init 62 = .ok (.iconst 5, 1) := by decide +kernel
theorem dX5_init_63 : decode cX5_init 63 = .ok (.iconst 0, 1) := by decide +kernel
theorem dX5_init_64 : decode cX5_init 64 = .ok (.iastore, 1) := by decide +kernel
theorem dX5_init_65 : decode cX5_init 65 = .ok (.dup, 1) := by decide +kernel
theorem dX5_init_66 : decode cX5_init 66 = .ok (.bipush 6, 2) := by decide +kernel
theorem dX5_init_68 : decode cX5_init 68 = .ok (.iconst 0, 1) := by decide +kernel
theorem dX5_init_69 : decode cX5_init 69 = .ok (.iastore, 1) := by decide +kernel
theorem dX5_init_70 : decode cX5_init 70 = .ok (.putfield 22, 3) := by decide +kernel
theorem dX5_init_73 : decode cX5_init 73 = .ok (.aload_n 0, 1) := by decide +kernel
theorem dX5_init_74 : decode cX5_init 74 = .ok (.bipush 7, 2) := by decide +kernel
theorem dX5_init_76 : decode cX5_init 76 = .ok (.newarray .int, 2) := by decide +kernel
theorem dX5_init_78 : decode cX5_init 78 = .ok (.dup, 1) := by decide +kernel
theorem dX5_init_79 : decode cX5_init 79 = .ok (.iconst 0, 1) := by decide +kernel
theorem dX5_init_80 : decode cX5_init 80 = .ok (.bipush 6, 2) := by decide +kernel
theorem dX5_init_82 : decode cX5_init 82 = .ok (.iastore, 1) := by decide +kernel
theorem dX5_init_83 : decode cX5_init 83 = .ok (.dup, 1) := by decide +kernel
theorem dX5_init_84 : decode cX5_init 84 = .ok (.iconst 1, 1) := by decide +kernel
theorem dX5_init_85 : decode cX5_init 85 = .ok (.bipush 40, 2) := by decide +kernel
theorem dX5_init_87 : decode cX5_init 87 = .ok (.iastore, 1) := by decide +kernel
theorem dX5_init_88 : decode cX5_init 88 = .ok (.dup, 1) := by decide +kernel
theorem dX5_init_89 : decode cX5_init 89 = .ok (.iconst 2, 1) := by decide +kernel
theorem dX5_init_90 : decode cX5_init 90 = .ok (.bipush 50, 2) := by decide +kernel
theorem dX5_init_92 : decode cX5_init 92 = .ok (.iastore, 1) := by decide +kernel
theorem dX5_init_93 : decode cX5_init 93 = .ok (.dup, 1) := by decide +kernel
theorem dX5_init_94 : decode cX5_init 94 = .ok (.iconst 3, 1) := by decide +kernel
theorem dX5_init_95 : decode cX5_init 95 = .ok (.sipush 240, 3) := by decide +kernel
theorem dX5_init_98 : decode cX5_init 98 = .ok (.iastore, 1) := by decide +kernel
theorem dX5_init_99 : decode cX5_init 99 = .ok (.dup, 1) := by decide +kernel
theorem dX5_init_100 : decode cX5_init 100 = .ok (.iconst 4, 1) := by decide +kernel
theorem dX5_init_101 : decode cX5_init 101 = .ok (.iconst 0, 1) := by decide +kernel
theorem dX5_init_102 : decode cX5_init 102 = .ok (.iastore, 1) := by decide +kernel
theorem dX5_init_103 : decode cX5_init 103 = .ok (.dup, 1) := by decide +kernel
theorem dX5_init_104 : decode cX5_init 104 = .ok (.iconst 5, 1) := by decide +kernel
theorem dX5_init_105 : decode cX5_init 105 = .ok (.bipush 9, 2) := by decide +kernel
theorem dX5_init_107 : decode cX5_init 107 = .ok (.iastore, 1) := by decide +kernel
theorem dX5_init_108 : decode cX5_init 108 = .ok (.dup, 1) := by decide +kernel
theorem dX5_init_109 : decode cX5_init 109 = .ok (.bipush 6, 2) := by decide +kernel
theorem dX5_init_111 : decode cX5_init 111 = .ok (.bipush 7, 2) := by decide +kernel
theorem dX5_init_113 : decode cX5_init 113 = .ok (.iastore, 1) := by decide +kernel
theorem dX5_init_114 : decode cX5_init 114 = .ok (.putfield 25, 3) := by decide +kernel
theorem dX5_init_117 : decode cX5_init 117 = .ok (.aload_n 0, 1) := by decide +kernel
theorem dX5_init_118 : decode cX5_init 118 = .ok (.sipush 2401, 3) := by decide +kernel
theorem dX5_init_121 : decode cX5_init 121 = .ok (.newarray .boolean, 2) := by decide +kernel
theorem dX5_init_123 : decode cX5_init 123 = .ok (.putfield 28, 3) := by decide +kernel
theorem dX5_init_126 : decode cX5_init 126 = .ok (.aload_n 0, 1) := by decide +kernel
theorem dX5_init_127 : decode cX5_init 127 = .ok (.bipush 120, 2) := by decide +kernel
theorem dX5_init_129 : decode cX5_init 129 = .ok (.newarray .int, 2) := by decide +kernel
theorem dX5_init_131 : decode cX5_init 131 = .ok (.putfield 32, 3) := by decide +kernel
theorem dX5_init_134 : decode cX5_init 134 = .ok (.aload_n 0, 1) := by decide +kernel
theorem dX5_init_135 : decode cX5_init 135 = .ok (.bipush 7, 2) := by decide +kernel
theorem dX5_init_137 : decode cX5_init 137 = .ok (.anewarray 35, 3) := by decide +kernel
theorem dX5_init_140 : decode cX5_init 140 = .ok (.dup, 1) := by decide +kernel
theorem dX5_init_141 : decode cX5_init 141 = .ok (.iconst 0, 1) := by decide +kernel
theorem dX5_init_142 : decode cX5_init 142 = .ok (.ldc 37, 2) := by decide +kernel
theorem dX5_init_144 : decode cX5_init 144 = .ok (.aastore, 1) := by decide +kernel
theorem dX5_init_145 : decode cX5_init 145 = .ok (.dup, 1) := by decide +kernel
theorem dX5_init_146 : decode cX5_init 146 = .ok (.iconst 1, 1) := by decide +kernel
theorem dX5_init_147 : decode cX5_init 147 = .ok (.ldc 39, 2) := by decide +kernel
theorem dX5_init_149 : decode cX5_init 149 = .ok (.aastore, 1) := by decide +kernel
theorem dX5_init_150 : decode cX5_init 150 = .ok (.dup, 1) := by decide +kernel
theorem dX5_init_151 : decode cX5_init 151 = .ok (.iconst 2, 1) := by decide +kernel
theorem dX5_init_152 : decode cX5_init 152 = .ok (.ldc 41, 2) := by decide +kernel
theorem dX5_init_154 : decode cX5_init 154 = .ok (.aastore, 1) := by decide +kernel
theorem dX5_init_155 : decode cX5_init 155 = .ok (.dup, 1) := by decide +kernel
theorem dX5_init_156 : decode cX5_init 156 = .ok (.iconst 3, 1) := by decide +kernel
theorem dX5_init_157 : decode cX5_init 157 = .ok (.ldc 43, 2) := by decide +kernel
theorem dX5_init_159 : decode cX5_init 159 = .ok (.aastore, 1) := by decide +kernel
theorem dX5_init_160 : decode cX5_init 160 = .ok (.dup, 1) := by decide +kernel
theorem dX5_init_161 : decode cX5_init 161 = .ok (.iconst 4, 1) := by decide +kernel
theorem dX5_init_162 : decode cX5_init 162 = .ok (.ldc 45, 2) := by decide +kernel
theorem dX5_init_164 : decode cX5_init 164 = .ok (.aastore, 1) := by decide +kernel
theorem dX5_init_165 : decode cX5_init 165 = .ok (.dup, 1) := by decide +kernel
theorem dX5_init_166 : decode cX5_init 166 = .ok (.iconst 5, 1) := by decide +kernel
theorem dX5_init_167 : decode cX5_init 167 = .ok (.ldc 47, 2) := by decide +kernel
theorem dX5_init_169 : decode cX5_init 169 = .ok (.aastore, 1) := by decide +kernel
theorem dX5_init_170 : decode cX5_init 170 = .ok (.dup, 1) := by decide +kernel
theorem dX5_init_171 : decode cX5_init 171 = .ok (.bipush 6, 2) := by decide +kernel
theorem dX5_init_173 : decode cX5_init 173 = .ok (.ldc 49, 2) := by decide +kernel
theorem dX5_init_175 : decode cX5_init 175 = .ok (.aastore, 1) := by decide +kernel
theorem dX5_init_176 : decode cX5_init 176 = .ok (.putfield 51, 3) := by decide +kernel
theorem dX5_init_179 : decode cX5_init 179 = .ok (.aload_n 0, 1) := by decide +kernel
theorem dX5_init_180 : decode cX5_init 180 = .ok (.bipush 7, 2) := by decide +kernel
theorem dX5_init_182 : decode cX5_init 182 = .ok (.newarray .int, 2) := by decide +kernel
theorem dX5_init_184 : decode cX5_init 184 = .ok (.dup, 1) := by decide +kernel
theorem dX5_init_185 : decode cX5_init 185 = .ok (.iconst 0, 1) := by decide +kernel
theorem dX5_init_186 : decode cX5_init 186 = .ok (.iconst 0, 1) := by decide +kernel
theorem dX5_init_187 : decode cX5_init 187 = .ok (.iastore, 1) := by decide +kernel
theorem dX5_init_188 : decode cX5_init 188 = .ok (.dup, 1) := by decide +kernel
theorem dX5_init_189 : decode cX5_init 189 = .ok (.iconst 1, 1) := by decide +kernel
theorem dX5_init_190 : decode cX5_init 190 = .ok (.iconst 1, 1) := by decide +kernel
theorem dX5_init_191 : decode cX5_init 191 = .ok (.iastore, 1) := by decide +kernel
theorem dX5_init_192 : decode cX5_init 192 = .ok (.dup, 1) := by decide +kernel
theorem dX5_init_193 : decode cX5_init 193 = .ok (.iconst 2, 1) := by decide +kernel
theorem dX5_init_194 : decode cX5_init 194 = .ok (.iconst 2, 1) := by decide +kernel
theorem dX5_init_195 : decode cX5_init 195 = .ok (.iastore, 1) := by decide +kernel
theorem dX5_init_196 : decode cX5_init 196 = .ok (.dup, 1) := by decide +kernel
theorem dX5_init_197 : decode cX5_init 197 = .ok (.iconst 3, 1) := by decide +kernel
theorem dX5_init_198 : decode cX5_init 198 = .ok (.iconst 5, 1) := by decide +kernel
theorem dX5_init_199 : decode cX5_init 199 = .ok (.iastore, 1) := by decide +kernel
theorem dX5_init_200 : decode cX5_init 200 = .ok (.dup, 1) := by decide +kernel
theorem dX5_init_201 : decode cX5_init 201 = .ok (.iconst 4, 1) := by decide +kernel
theorem dX5_init_202 : decode cX5_init 202 = .ok (.iconst 3, 1) := by decide +kernel
theorem dX5_init_203 : decode cX5_init 203 = .ok (.iastore, 1) := by decide +kernel
theorem dX5_init_204 : decode cX5_init 204 = .ok (.dup, 1) := by decide +kernel
theorem dX5_init_205 : decode cX5_init 205 = .ok (.iconst 5, 1) := by decide +kernel
theorem dX5_init_206 : decode cX5_init 206 = .ok (.iconst 4, 1) := by decide +kernel
theorem dX5_init_207 : decode cX5_init 207 = .ok (.iastore, 1) := by decide +kernel
theorem dX5_init_208 : decode cX5_init 208 = .ok (.dup, 1) := by decide +kernel
theorem dX5_init_209 : decode cX5_init 209 = .ok (.bipush 6, 2) := by decide +kernel
theorem dX5_init_211 : decode cX5_init 211 = .ok (.bipush 6, 2) := by decide +kernel
theorem dX5_init_213 : decode cX5_init 213 = .ok (.iastore, 1) := by decide +kernel
theorem dX5_init_214 : decode cX5_init 214 = .ok (.putfield 55, 3) := by decide +kernel
theorem dX5_init_217 : decode cX5_init 217 = .ok (.aload_n 0, 1) := by decide +kernel
theorem dX5_init_218 : decode cX5_init 218 = .ok (.sipush 600, 3) := by decide +kernel
theorem dX5_init_221 : decode cX5_init 221 = .ok (.newarray .int, 2) := by decide +kernel
theorem dX5_init_223 : decode cX5_init 223 = .ok (.putfield 58, 3) := by decide +kernel
theorem dX5_init_226 : decode cX5_init 226 = .ok (.aload_n 0, 1) := by decide +kernel
theorem dX5_init_227 : decode cX5_init 227 = .ok (.iconst 4, 1) := by decide +kernel
theorem dX5_init_228 : decode cX5_init 228 = .ok (.newarray .int, 2) := by decide +kernel
theorem dX5_init_230 : decode cX5_init 230 = .ok (.putfield 61, 3) := by decide +kernel
theorem dX5_init_233 : decode cX5_init 233 = .ok (.aload_n 0, 1) := by decide +kernel
theorem dX5_init_234 : decode cX5_init 234 = .ok (.iconst 4, 1) := by decide +kernel
theorem dX5_init_235 : decode cX5_init 235 = .ok (.newarray .int, 2) := by decide +kernel
theorem dX5_init_237 : decode cX5_init 237 = .ok (.putfield 64, 3) := by decide +kernel
theorem dX5_init_240 : decode cX5_init 240 = .ok (.aload_n 0, 1) := by decide +kernel
theorem dX5_init_241 : decode cX5_init 241 = .ok (.sipush 160, 3) := by decide +kernel
theorem dX5_init_244 : decode cX5_init 244 = .ok (.newarray .int, 2) := by decide +kernel
theorem dX5_init_246 : decode cX5_init 246 = .ok (.putfield 67, 3) := by decide +kernel
theorem dX5_init_249 : decode cX5_init 249 = .ok (.aload_n 0, 1) := by decide +kernel
theorem dX5_init_250 : decode cX5_init 250 = .ok (.bipush 40, 2) := by decide +kernel
theorem dX5_init_252 : decode cX5_init 252 = .ok (.newarray .int, 2) := by decide +kernel
theorem dX5_init_254 : decode cX5_init 254 = .ok (.putfield 70, 3) := by decide +kernel
theorem dX5_init_257 : decode cX5_init 257 = .ok (.aload_n 0, 1) := by decide +kernel
theorem dX5_init_258 : decode cX5_init 258 = .ok (.getfield 9, 3) := by decide +kernel
theorem dX5_init_261 : decode cX5_init 261 = .ok (.iconst 1, 1) := by decide +kernel
theorem dX5_init_262 : decode cX5_init 262 = .ok (.bipush 10, 2) := by decide +kernel
theorem dX5_init_264 : decode cX5_init 264 = .ok (.iastore, 1) := by decide +kernel
theorem dX5_init_265 : decode cX5_init 265 = .ok (.aload_n 0, 1) := by decide +kernel
theorem dX5_init_266 : decode cX5_init 266 = .ok (.getfield 9, 3) := by decide +kernel
theorem dX5_init_269 : decode cX5_init 269 = .ok (.iconst 3, 1) := by decide +kernel
theorem dX5_init_270 : decode cX5_init 270 = .ok (.bipush 7, 2) := by decide +kernel
theorem dX5_init_272 : decode cX5_init 272 = .ok (.iastore, 1) := by decide +kernel
theorem dX5_init_273 : decode cX5_init 273 = .ok (.aload_n 0, 1) := by decide +kernel
theorem dX5_init_274 : decode cX5_init 274 = .ok (.getfield 9, 3) := by decide +kernel
theorem dX5_init_277 : decode cX5_init 277 = .ok (.iconst 5, 1) := by decide +kernel
theorem dX5_init_278 : decode cX5_init 278 = .ok (.iconst 1, 1) := by decide +kernel
theorem dX5_init_279 : decode cX5_init 279 = .ok (.iastore, 1) := by decide +kernel
theorem dX5_init_280 : decode cX5_init 280 = .ok (.iconst 0, 1) := by decide +kernel
theorem dX5_init_281 : decode cX5_init 281 = .ok (.istore_n 1, 1) := by decide +kernel
theorem dX5_init_282 : decode cX5_init 282 = .ok (.iload_n 1, 1) := by decide +kernel
theorem dX5_init_283 : decode cX5_init 283 = .ok (.bipush 10, 2) := by decide +kernel
theorem dX5_init_285 : decode cX5_init 285 = .ok (.if_icmp .ge 19, 3) := by decide +kernel
theorem dX5_init_288 : decode cX5_init 288 = .ok (.aload_n 0, 1) := by decide +kernel
theorem dX5_init_289 : decode cX5_init 289 = .ok (.getfield 9, 3) := by decide +kernel
theorem dX5_init_292 : decode cX5_init 292 = .ok (.bipush 6, 2) := by decide +kernel
theorem dX5_init_294 : decode cX5_init 294 = .ok (.iload_n 1, 1) := by decide +kernel
theorem dX5_init_295 : decode cX5_init 295 = .ok (.iadd, 1) := by decide +kernel
theorem dX5_init_296 : decode cX5_init 296 = .ok (.iconst (-1), 1) := by decide +kernel
theorem dX5_init_297 : decode cX5_init 297 = .ok (.iastore, 1) := by decide +kernel
theorem dX5_init_298 : decode cX5_init 298 = .ok (.iinc 1 1, 3) := by decide +kernel
theorem dX5_init_301 : decode cX5_init 301 = .ok (.goto (-19), 3) := by decide +kernel
theorem dX5_init_304 : decode cX5_init 304 = .ok (.return_, 1) := by decide +kernel
theorem dX5_finding_0 : decode cX5_finding 0 = .ok (.aload_n 0, 1) := by decide +kernel
theorem dX5_finding_1 : decode cX5_finding 1 = .ok (.getfield 19, 3) := by decide +kernel
theorem dX5_finding_4 : decode cX5_finding 4 = .ok (.ldc 73, 2) := by decide +kernel
theorem dX5_finding_6 : decode cX5_finding 6 = .ok (.iload_n 1, 1) := by decide +kernel
theorem dX5_finding_7 : decode cX5_finding 7 = .ok (.isub, 1) := by decide +kernel
theorem dX5_finding_8 : decode cX5_finding 8 = .ok (.iconst 1, 1) := by decide +kernel
theorem dX5_finding_9 : decode cX5_finding 9 = .ok (.iadd, 1) := by decide +kernel
theorem dX5_finding_10 : decode cX5_finding 10 = .ok (.dup2, 1) := by decide +kernel
theorem dX5_finding_11 : decode cX5_finding 11 = .ok (.iaload, 1) := by decide +kernel
theorem dX5_finding_12 : decode cX5_finding 12 = .ok (.iconst 1, 1) := by decide +kernel
theorem dX5_finding_13 : decode cX5_finding 13 = .ok (.iadd, 1) := by decide +kernel
theorem dX5_finding_14 : decode cX5_finding 14 = .ok (.iastore, 1) := by decide +kernel
theorem dX5_finding_15 : decode cX5_finding 15 = .ok (.aload_n 0, 1) := by decide +kernel
theorem dX5_finding_16 : decode cX5_finding 16 = .ok (.getfield 19, 3) := by decide +kernel
theorem dX5_finding_19 : decode cX5_finding 19 = .ok (.iconst 0, 1) := by decide +kernel
theorem dX5_finding_20 : decode cX5_finding 20 = .ok (.dup2, 1) := by decide +kernel
theorem dX5_finding_21 : decode cX5_finding 21 = .ok (.iaload, 1) := by decide +kernel
theorem dX5_finding_22 : decode cX5_finding 22 = .ok (.iconst 1, 1) := by decide +kernel
theorem dX5_finding_23 : decode cX5_finding 23 = .ok (.iadd, 1) := by decide +kernel
theorem dX5_finding_24 : decode cX5_finding 24 = .ok (.iastore, 1) := by decide +kernel
theorem dX5_finding_25 : decode cX5_finding 25 = .ok (.iload_n 1, 1) := by decide +kernel
theorem dX5_finding_26 : decode cX5_finding 26 = .ok (.ireturn, 1) := by decide +kernel
theorem dX5_within_0 : decode cX5_within 0 = .ok (.iload_n 0, 1) := by decide +kernel
theorem dX5_within_1 : decode cX5_within 1 = .ok (.iload_n 1, 1) := by decide +kernel
theorem dX5_within_2 : decode cX5_within 2 = .ok (.if_icmp .lt 12, 3) := by decide +kernel
theorem dX5_within_5 : decode cX5_within 5 = .ok (.iload_n 0, 1) := by decide +kernel
theorem dX5_within_6 : decode cX5_within 6 = .ok (.iload_n 2, 1) := by decide +kernel
theorem dX5_within_7 : decode cX5_within 7 = .ok (.if_icmp .gt 7, 3) := by decide +kernel
theorem dX5_within_10 : decode cX5_within 10 = .ok (.iconst 1, 1) := by decide +kernel
theorem dX5_within_11 : decode cX5_within 11 = .ok (.goto 4, 3) := by decide +kernel
theorem dX5_within_14 : decode cX5_within 14 = .ok (.iconst 0, 1) := by decide +kernel
theorem dX5_within_15 : decode cX5_within 15 = .ok (.ireturn, 1) := by decide +kernel
theorem dX5_become_0 : decode cX5_become 0 = .ok (.aload_n 0, 1) := by decide +kernel
theorem dX5_become_1 : decode cX5_become 1 = .ok (.getfield 9, 3) := by decide +kernel
theorem dX5_become_4 : decode cX5_become 4 = .ok (.iload_n 1, 1) := by decide +kernel
theorem dX5_become_5 : decode cX5_become 5 = .ok (.iaload, 1) := by decide +kernel
theorem dX5_become_6 : decode cX5_become 6 = .ok (.istore_n 3, 1) := by decide +kernel
theorem dX5_become_7 : decode cX5_become 7 = .ok (.aload_n 0, 1) := by decide +kernel
theorem dX5_become_8 : decode cX5_become 8 = .ok (.getfield 9, 3) := by decide +kernel
theorem dX5_become_11 : decode cX5_become 11 = .ok (.iload_n 1, 1) := by decide +kernel
theorem dX5_become_12 : decode cX5_become 12 = .ok (.iload_n 2, 1) := by decide +kernel
theorem dX5_become_13 : decode cX5_become 13 = .ok (.iastore, 1) := by decide +kernel
theorem dX5_become_14 : decode cX5_become 14 = .ok (.iload_n 3, 1) := by decide +kernel
theorem dX5_become_15 : decode cX5_become 15 = .ok (.ireturn, 1) := by decide +kernel
theorem dX5_copyRow_0 : decode cX5_copyRow 0 = .ok (.iconst 0, 1) := by decide +kernel
theorem dX5_copyRow_1 : decode cX5_copyRow 1 = .ok (.istore_n 2, 1) := by decide +kernel
theorem dX5_copyRow_2 : decode cX5_copyRow 2 = .ok (.iload_n 2, 1) := by decide +kernel
theorem dX5_copyRow_3 : decode cX5_copyRow 3 = .ok (.bipush 96, 2) := by decide +kernel
theorem dX5_copyRow_5 : decode cX5_copyRow 5 = .ok (.if_icmp .ge 15, 3) := by decide +kernel
theorem dX5_copyRow_8 : decode cX5_copyRow 8 = .ok (.aload_n 1, 1) := by decide +kernel
theorem dX5_copyRow_9 : decode cX5_copyRow 9 = .ok (.iload_n 2, 1) := by decide +kernel
theorem dX5_copyRow_10 : decode cX5_copyRow 10 = .ok (.aload_n 0, 1) := by decide +kernel
theorem dX5_copyRow_11 : decode cX5_copyRow 11 = .ok (.iload_n 2, 1) := by decide +kernel
theorem dX5_copyRow_12 : decode cX5_copyRow 12 = .ok (.iaload, 1) := by decide +kernel
theorem dX5_copyRow_13 : decode cX5_copyRow 13 = .ok (.iastore, 1) := by decide +kernel
theorem dX5_copyRow_14 : decode cX5_copyRow 14 = .ok (.iinc 2 1, 3) := by decide +kernel
theorem dX5_copyRow_17 : decode cX5_copyRow 17 = .ok (.goto (-15), 3) := by decide +kernel
theorem dX5_copyRow_20 : decode cX5_copyRow 20 = .ok (.return_, 1) := by decide +kernel
theorem dX5_putBack_0 : decode cX5_putBack 0 = .ok (.aload_n 0, 1) := by decide +kernel
theorem dX5_putBack_1 : decode cX5_putBack 1 = .ok (.getfield 16, 3) := by decide +kernel
theorem dX5_putBack_4 : decode cX5_putBack 4 = .ok (.aload_n 0, 1) := by decide +kernel
theorem dX5_putBack_5 : decode cX5_putBack 5 = .ok (.getfield 9, 3) := by decide +kernel
theorem dX5_putBack_8 : decode cX5_putBack 8 = .ok (.invokestatic 74, 3) := by decide +kernel
theorem dX5_putBack_11 : decode cX5_putBack 11 = .ok (.iload_n 1, 1) := by decide +kernel
theorem dX5_putBack_12 : decode cX5_putBack 12 = .ok (.ireturn, 1) := by decide +kernel
theorem dX5_has_0 : decode cX5_has 0 = .ok (.iload_n 0, 1) := by decide +kernel
theorem dX5_has_1 : decode cX5_has 1 = .ok (.iload_n 1, 1) := by decide +kernel
theorem dX5_has_2 : decode cX5_has 2 = .ok (.ishr, 1) := by decide +kernel
theorem dX5_has_3 : decode cX5_has 3 = .ok (.iconst 1, 1) := by decide +kernel
theorem dX5_has_4 : decode cX5_has 4 = .ok (.iand, 1) := by decide +kernel
theorem dX5_has_5 : decode cX5_has 5 = .ok (.iconst 1, 1) := by decide +kernel
theorem dX5_has_6 : decode cX5_has 6 = .ok (.if_icmp .ne 7, 3) := by decide +kernel
theorem dX5_has_9 : decode cX5_has 9 = .ok (.iconst 1, 1) := by decide +kernel
theorem dX5_has_10 : decode cX5_has 10 = .ok (.goto 4, 3) := by decide +kernel
theorem dX5_has_13 : decode cX5_has 13 = .ok (.iconst 0, 1) := by decide +kernel
theorem dX5_has_14 : decode cX5_has 14 = .ok (.ireturn, 1) := by decide +kernel
theorem dX5_bits_0 : decode cX5_bits 0 = .ok (.iconst 0, 1) := by decide +kernel
theorem dX5_bits_1 : decode cX5_bits 1 = .ok (.istore_n 1, 1) := by decide +kernel
theorem dX5_bits_2 : decode cX5_bits 2 = .ok (.iload_n 0, 1) := by decide +kernel
theorem dX5_bits_3 : decode cX5_bits 3 = .ok (.istore_n 2, 1) := by decide +kernel
theorem dX5_bits_4 : decode cX5_bits 4 = .ok (.iload_n 2, 1) := by decide +kernel
theorem dX5_bits_5 : decode cX5_bits 5 = .ok (.ifCond .eq 15, 3) := by decide +kernel
theorem dX5_bits_8 : decode cX5_bits 8 = .ok (.iinc 1 1, 3) := by decide +kernel
theorem dX5_bits_11 : decode cX5_bits 11 = .ok (.iload_n 2, 1) := by decide +kernel
theorem dX5_bits_12 : decode cX5_bits 12 = .ok (.iload_n 2, 1) := by decide +kernel
theorem dX5_bits_13 : decode cX5_bits 13 = .ok (.iconst 1, 1) := by decide +kernel
theorem dX5_bits_14 : decode cX5_bits 14 = .ok (.isub, 1) := by decide +kernel
theorem dX5_bits_15 : decode cX5_bits 15 = .ok (.iand, 1) := by decide +kernel
theorem dX5_bits_16 : decode cX5_bits 16 = .ok (.istore_n 2, 1) := by decide +kernel
theorem dX5_bits_17 : decode cX5_bits 17 = .ok (.goto (-13), 3) := by decide +kernel
theorem dX5_bits_20 : decode cX5_bits 20 = .ok (.iload_n 1, 1) := by decide +kernel
theorem dX5_bits_21 : decode cX5_bits 21 = .ok (.ireturn, 1) := by decide +kernel
theorem dX5_isCoin_0 : decode cX5_isCoin 0 = .ok (.iload_n 1, 1) := by decide +kernel
theorem dX5_isCoin_1 : decode cX5_isCoin 1 = .ok (.iconst 0, 1) := by decide +kernel
theorem dX5_isCoin_2 : decode cX5_isCoin 2 = .ok (.aload_n 0, 1) := by decide +kernel
theorem dX5_isCoin_3 : decode cX5_isCoin 3 = .ok (.getfield 9, 3) := by decide +kernel
theorem dX5_isCoin_6 : decode cX5_isCoin 6 = .ok (.iconst 4, 1) := by decide +kernel
theorem dX5_isCoin_7 : decode cX5_isCoin 7 = .ok (.iaload, 1) := by decide +kernel
theorem dX5_isCoin_8 : decode cX5_isCoin 8 = .ok (.iconst 1, 1) := by decide +kernel
theorem dX5_isCoin_9 : decode cX5_isCoin 9 = .ok (.isub, 1) := by decide +kernel
theorem dX5_isCoin_10 : decode cX5_isCoin 10 = .ok (.invokestatic 78, 3) := by decide +kernel
theorem dX5_isCoin_13 : decode cX5_isCoin 13 = .ok (.ireturn, 1) := by decide +kernel
theorem dX5_isKind_0 : decode cX5_isKind 0 = .ok (.iload_n 0, 1) := by decide +kernel
theorem dX5_isKind_1 : decode cX5_isKind 1 = .ok (.iconst 0, 1) := by decide +kernel
theorem dX5_isKind_2 : decode cX5_isKind 2 = .ok (.bipush 6, 2) := by decide +kernel
theorem dX5_isKind_4 : decode cX5_isKind 4 = .ok (.invokestatic 78, 3) := by decide +kernel
theorem dX5_isKind_7 : decode cX5_isKind 7 = .ok (.ireturn, 1) := by decide +kernel
theorem dX5_isPlace_0 : decode cX5_isPlace 0 = .ok (.iload_n 0, 1) := by decide +kernel
theorem dX5_isPlace_1 : decode cX5_isPlace 1 = .ok (.iconst 0, 1) := by decide +kernel
theorem dX5_isPlace_2 : decode cX5_isPlace 2 = .ok (.iconst 4, 1) := by decide +kernel
theorem dX5_isPlace_3 : decode cX5_isPlace 3 = .ok (.invokestatic 78, 3) := by decide +kernel
theorem dX5_isPlace_6 : decode cX5_isPlace 6 = .ok (.ireturn, 1) := by decide +kernel
theorem dX5_at_0 : decode cX5_at 0 = .ok (.bipush 16, 2) := by decide +kernel
theorem dX5_at_2 : decode cX5_at 2 = .ok (.bipush 8, 2) := by decide +kernel
theorem dX5_at_4 : decode cX5_at 4 = .ok (.iload_n 0, 1) := by decide +kernel
theorem dX5_at_5 : decode cX5_at 5 = .ok (.imul, 1) := by decide +kernel
theorem dX5_at_6 : decode cX5_at 6 = .ok (.iadd, 1) := by decide +kernel
theorem dX5_at_7 : decode cX5_at 7 = .ok (.iload_n 1, 1) := by decide +kernel
theorem dX5_at_8 : decode cX5_at 8 = .ok (.iadd, 1) := by decide +kernel
theorem dX5_at_9 : decode cX5_at 9 = .ok (.ireturn, 1) := by decide +kernel
theorem dX5_coinIs_0 : decode cX5_coinIs 0 = .ok (.aload_n 0, 1) := by decide +kernel
theorem dX5_coinIs_1 : decode cX5_coinIs 1 = .ok (.getfield 9, 3) := by decide +kernel
theorem dX5_coinIs_4 : decode cX5_coinIs 4 = .ok (.iload_n 1, 1) := by decide +kernel
theorem dX5_coinIs_5 : decode cX5_coinIs 5 = .ok (.iload_n 2, 1) := by decide +kernel
theorem dX5_coinIs_6 : decode cX5_coinIs 6 = .ok (.invokestatic 82, 3) := by decide +kernel
theorem dX5_coinIs_9 : decode cX5_coinIs 9 = .ok (.iaload, 1) := by decide +kernel
theorem dX5_coinIs_10 : decode cX5_coinIs 10 = .ok (.ireturn, 1) := by decide +kernel
theorem dX5_comes_0 : decode cX5_comes 0 = .ok (.aload_n 0, 1) := by decide +kernel
theorem dX5_comes_1 : decode cX5_comes 1 = .ok (.getfield 9, 3) := by decide +kernel
theorem dX5_comes_4 : decode cX5_comes 4 = .ok (.iconst 4, 1) := by decide +kernel
theorem dX5_comes_5 : decode cX5_comes 5 = .ok (.iaload, 1) := by decide +kernel
theorem dX5_comes_6 : decode cX5_comes 6 = .ok (.istore 6, 2) := by decide +kernel
theorem dX5_comes_8 : decode cX5_comes 8 = .ok (.aload_n 0, 1) := by decide +kernel
theorem dX5_comes_9 : decode cX5_comes 9 = .ok (.getfield 9, 3) := by decide +kernel
theorem dX5_comes_12 : decode cX5_comes 12 = .ok (.iload 6, 2) := by decide +kernel
theorem dX5_comes_14 : decode cX5_comes 14 = .ok (.iconst 0, 1) := by decide +kernel
theorem dX5_comes_15 : decode cX5_comes 15 = .ok (.invokestatic 82, 3) := by decide +kernel
theorem dX5_comes_18 : decode cX5_comes 18 = .ok (.iload_n 1, 1) := by decide +kernel
theorem dX5_comes_19 : decode cX5_comes 19 = .ok (.iastore, 1) := by decide +kernel
theorem dX5_comes_20 : decode cX5_comes 20 = .ok (.aload_n 0, 1) := by decide +kernel
theorem dX5_comes_21 : decode cX5_comes 21 = .ok (.getfield 9, 3) := by decide +kernel
theorem dX5_comes_24 : decode cX5_comes 24 = .ok (.iload 6, 2) := by decide +kernel
theorem dX5_comes_26 : decode cX5_comes 26 = .ok (.iconst 1, 1) := by decide +kernel
theorem dX5_comes_27 : decode cX5_comes 27 = .ok (.invokestatic 82, 3) := by decide +kernel
theorem dX5_comes_30 : decode cX5_comes 30 = .ok (.iload_n 2, 1) := by decide +kernel
theorem dX5_comes_31 : decode cX5_comes 31 = .ok (.iastore, 1) := by decide +kernel
theorem dX5_comes_32 : decode cX5_comes 32 = .ok (.aload_n 0, 1) := by decide +kernel
theorem dX5_comes_33 : decode cX5_comes 33 = .ok (.getfield 9, 3) := by decide +kernel
theorem dX5_comes_36 : decode cX5_comes 36 = .ok (.iload 6, 2) := by decide +kernel
theorem dX5_comes_38 : decode cX5_comes 38 = .ok (.iconst 2, 1) := by decide +kernel
theorem dX5_comes_39 : decode cX5_comes 39 = .ok (.invokestatic 82, 3) := by decide +kernel
theorem dX5_comes_42 : decode cX5_comes 42 = .ok (.iload_n 3, 1) := by decide +kernel
theorem dX5_comes_43 : decode cX5_comes 43 = .ok (.iastore, 1) := by decide +kernel
theorem dX5_comes_44 : decode cX5_comes 44 = .ok (.aload_n 0, 1) := by decide +kernel
theorem dX5_comes_45 : decode cX5_comes 45 = .ok (.getfield 9, 3) := by decide +kernel
theorem dX5_comes_48 : decode cX5_comes 48 = .ok (.iload 6, 2) := by decide +kernel
theorem dX5_comes_50 : decode cX5_comes 50 = .ok (.iconst 3, 1) := by decide +kernel
theorem dX5_comes_51 : decode cX5_comes 51 = .ok (.invokestatic 82, 3) := by decide +kernel
theorem dX5_comes_54 : decode cX5_comes 54 = .ok (.iload 4, 2) := by decide +kernel
theorem dX5_comes_56 : decode cX5_comes 56 = .ok (.iastore, 1) := by decide +kernel
theorem dX5_comes_57 : decode cX5_comes 57 = .ok (.aload_n 0, 1) := by decide +kernel
theorem dX5_comes_58 : decode cX5_comes 58 = .ok (.getfield 9, 3) := by decide +kernel
theorem dX5_comes_61 : decode cX5_comes 61 = .ok (.iconst 4, 1) := by decide +kernel
theorem dX5_comes_62 : decode cX5_comes 62 = .ok (.dup2, 1) := by decide +kernel
theorem dX5_comes_63 : decode cX5_comes 63 = .ok (.iaload, 1) := by decide +kernel
theorem dX5_comes_64 : decode cX5_comes 64 = .ok (.iconst 1, 1) := by decide +kernel
theorem dX5_comes_65 : decode cX5_comes 65 = .ok (.iadd, 1) := by decide +kernel
theorem dX5_comes_66 : decode cX5_comes 66 = .ok (.iastore, 1) := by decide +kernel
theorem dX5_comes_67 : decode cX5_comes 67 = .ok (.aload_n 0, 1) := by decide +kernel
theorem dX5_comes_68 : decode cX5_comes 68 = .ok (.iload 6, 2) := by decide +kernel
theorem dX5_comes_70 : decode cX5_comes 70 = .ok (.iload 5, 2) := by decide +kernel
theorem dX5_comes_72 : decode cX5_comes 72 = .ok (.invokevirtual 86, 3) := by decide +kernel
theorem dX5_comes_75 : decode cX5_comes 75 = .ok (.pop, 1) := by decide +kernel
theorem dX5_comes_76 : decode cX5_comes 76 = .ok (.iload 6, 2) := by decide +kernel
theorem dX5_comes_78 : decode cX5_comes 78 = .ok (.ireturn, 1) := by decide +kernel
theorem dX5_coin_0 : decode cX5_coin 0 = .ok (.iload_n 1, 1) := by decide +kernel
theorem dX5_coin_1 : decode cX5_coin 1 = .ok (.invokestatic 89, 3) := by decide +kernel
theorem dX5_coin_4 : decode cX5_coin 4 = .ok (.ifCond .ne 10, 3) := by decide +kernel
theorem dX5_coin_7 : decode cX5_coin 7 = .ok (.aload_n 0, 1) := by decide +kernel
theorem dX5_coin_8 : decode cX5_coin 8 = .ok (.ldc 73, 2) := by decide +kernel
theorem dX5_coin_10 : decode cX5_coin 10 = .ok (.invokevirtual 93, 3) := by decide +kernel
theorem dX5_coin_13 : decode cX5_coin 13 = .ok (.ireturn, 1) := by decide +kernel
theorem dX5_coin_14 : decode cX5_coin 14 = .ok (.aload_n 0, 1) := by decide +kernel
theorem dX5_coin_15 : decode cX5_coin 15 = .ok (.getfield 9, 3) := by decide +kernel
theorem dX5_coin_18 : decode cX5_coin 18 = .ok (.iconst 4, 1) := by decide +kernel
theorem dX5_coin_19 : decode cX5_coin 19 = .ok (.iaload, 1) := by decide +kernel
theorem dX5_coin_20 : decode cX5_coin 20 = .ok (.bipush 10, 2) := by decide +kernel
theorem dX5_coin_22 : decode cX5_coin 22 = .ok (.if_icmp .ne 12, 3) := by decide +kernel
theorem dX5_coin_25 : decode cX5_coin 25 = .ok (.aload_n 0, 1) := by decide +kernel
theorem dX5_coin_26 : decode cX5_coin 26 = .ok (.ldc 97, 2) := by decide +kernel
theorem dX5_coin_28 : decode cX5_coin 28 = .ok (.invokevirtual 93, 3) := by decide +kernel
theorem dX5_coin_31 : decode cX5_coin 31 = .ok (.goto 14, 3) := by decide +kernel
theorem dX5_coin_34 : decode cX5_coin 34 = .ok (.aload_n 0, 1) := by decide +kernel
theorem dX5_coin_35 : decode cX5_coin 35 = .ok (.iload_n 1, 1) := by decide +kernel
theorem dX5_coin_36 : decode cX5_coin 36 = .ok (.bipush 8, 2) := by decide +kernel
theorem dX5_coin_38 : decode cX5_coin 38 = .ok (.iconst 5, 1) := by decide +kernel
theorem dX5_coin_39 : decode cX5_coin 39 = .ok (.bipush 6, 2) := by decide +kernel
theorem dX5_coin_41 : decode cX5_coin 41 = .ok (.iconst 0, 1) := by decide +kernel
theorem dX5_coin_42 : decode cX5_coin 42 = .ok (.invokevirtual 98, 3) := by decide +kernel
theorem dX5_coin_45 : decode cX5_coin 45 = .ok (.ireturn, 1) := by decide +kernel
theorem dX5_above_0 : decode cX5_above 0 = .ok (.iload_n 0, 1) := by decide +kernel
theorem dX5_above_1 : decode cX5_above 1 = .ok (.ifCond .ne 7, 3) := by decide +kernel
theorem dX5_above_4 : decode cX5_above 4 = .ok (.iconst (-1), 1) := by decide +kernel
theorem dX5_above_5 : decode cX5_above 5 = .ok (.goto 32, 3) := by decide +kernel
theorem dX5_above_8 : decode cX5_above 8 = .ok (.iload_n 0, 1) := by decide +kernel
theorem dX5_above_9 : decode cX5_above 9 = .ok (.iconst 3, 1) := by decide +kernel
theorem dX5_above_10 : decode cX5_above 10 = .ok (.if_icmp .ne 7, 3) := by decide +kernel
theorem dX5_above_13 : decode cX5_above 13 = .ok (.iconst 1, 1) := by decide +kernel
theorem dX5_above_14 : decode cX5_above 14 = .ok (.goto 23, 3) := by decide +kernel
theorem dX5_above_17 : decode cX5_above 17 = .ok (.iload_n 0, 1) := by decide +kernel
theorem dX5_above_18 : decode cX5_above 18 = .ok (.iconst 4, 1) := by decide +kernel
theorem dX5_above_19 : decode cX5_above 19 = .ok (.if_icmp .ne 7, 3) := by decide +kernel
theorem dX5_above_22 : decode cX5_above 22 = .ok (.iconst 2, 1) := by decide +kernel
theorem dX5_above_23 : decode cX5_above 23 = .ok (.goto 14, 3) := by decide +kernel
theorem dX5_above_26 : decode cX5_above 26 = .ok (.iload_n 0, 1) := by decide +kernel
theorem dX5_above_27 : decode cX5_above 27 = .ok (.bipush 6, 2) := by decide +kernel
theorem dX5_above_29 : decode cX5_above 29 = .ok (.if_icmp .ne 7, 3) := by decide +kernel
theorem dX5_above_32 : decode cX5_above 32 = .ok (.iconst 5, 1) := by decide +kernel
theorem dX5_above_33 : decode cX5_above 33 = .ok (.goto 4, 3) := by decide +kernel
theorem dX5_above_36 : decode cX5_above 36 = .ok (.iconst 0, 1) := by decide +kernel
theorem dX5_above_37 : decode cX5_above 37 = .ok (.ireturn, 1) := by decide +kernel
theorem dX5_isUnder_0 : decode cX5_isUnder 0 = .ok (.iload_n 0, 1) := by decide +kernel
theorem dX5_isUnder_1 : decode cX5_isUnder 1 = .ok (.istore_n 2, 1) := by decide +kernel
theorem dX5_isUnder_2 : decode cX5_isUnder 2 = .ok (.iload_n 2, 1) := by decide +kernel
theorem dX5_isUnder_3 : decode cX5_isUnder 3 = .ok (.ifCond .lt 16, 3) := by decide +kernel
theorem dX5_isUnder_6 : decode cX5_isUnder 6 = .ok (.iload_n 2, 1) := by decide +kernel
theorem dX5_isUnder_7 : decode cX5_isUnder 7 = .ok (.iload_n 1, 1) := by decide +kernel
theorem dX5_isUnder_8 : decode cX5_isUnder 8 = .ok (.if_icmp .eq 11, 3) := by decide +kernel
theorem dX5_isUnder_11 : decode cX5_isUnder 11 = .ok (.iload_n 2, 1) := by decide +kernel
theorem dX5_isUnder_12 : decode cX5_isUnder 12 = .ok (.invokestatic 102, 3) := by decide +kernel
theorem dX5_isUnder_15 : decode cX5_isUnder 15 = .ok (.istore_n 2, 1) := by decide +kernel
theorem dX5_isUnder_16 : decode cX5_isUnder 16 = .ok (.goto (-14), 3) := by decide +kernel
theorem dX5_isUnder_19 : decode cX5_isUnder 19 = .ok (.iload_n 2, 1) := by decide +kernel
theorem dX5_isUnder_20 : decode cX5_isUnder 20 = .ok (.ifCond .lt 7, 3) := by decide +kernel
theorem dX5_isUnder_23 : decode cX5_isUnder 23 = .ok (.iconst 1, 1) := by decide +kernel
theorem dX5_isUnder_24 : decode cX5_isUnder 24 = .ok (.goto 4, 3) := by decide +kernel
theorem dX5_isUnder_27 : decode cX5_isUnder 27 = .ok (.iconst 0, 1) := by decide +kernel
theorem dX5_isUnder_28 : decode cX5_isUnder 28 = .ok (.ireturn, 1) := by decide +kernel
theorem dX5_thick_0 : decode cX5_thick 0 = .ok (.aload_n 0, 1) := by decide +kernel
theorem dX5_thick_1 : decode cX5_thick 1 = .ok (.iload_n 1, 1) := by decide +kernel
theorem dX5_thick_2 : decode cX5_thick 2 = .ok (.iconst 0, 1) := by decide +kernel
theorem dX5_thick_3 : decode cX5_thick 3 = .ok (.invokevirtual 105, 3) := by decide +kernel
theorem dX5_thick_6 : decode cX5_thick 6 = .ok (.istore_n 2, 1) := by decide +kernel
theorem dX5_thick_7 : decode cX5_thick 7 = .ok (.aload_n 0, 1) := by decide +kernel
theorem dX5_thick_8 : decode cX5_thick 8 = .ok (.iload_n 1, 1) := by decide +kernel
theorem dX5_thick_9 : decode cX5_thick 9 = .ok (.iconst 1, 1) := by decide +kernel
theorem dX5_thick_10 : decode cX5_thick 10 = .ok (.invokevirtual 105, 3) := by decide +kernel
theorem dX5_thick_13 : decode cX5_thick 13 = .ok (.istore_n 3, 1) := by decide +kernel
theorem dX5_thick_14 : decode cX5_thick 14 = .ok (.iload_n 2, 1) := by decide +kernel
theorem dX5_thick_15 : decode cX5_thick 15 = .ok (.iconst 1, 1) := by decide +kernel
theorem dX5_thick_16 : decode cX5_thick 16 = .ok (.invokestatic 108, 3) := by decide +kernel
theorem dX5_thick_19 : decode cX5_thick 19 = .ok (.ifCond .eq 18, 3) := by decide +kernel
theorem dX5_thick_22 : decode cX5_thick 22 = .ok (.iconst 2, 1) := by decide +kernel
theorem dX5_thick_23 : decode cX5_thick 23 = .ok (.iload_n 3, 1) := by decide +kernel
theorem dX5_thick_24 : decode cX5_thick 24 = .ok (.imul, 1) := by decide +kernel
theorem dX5_thick_25 : decode cX5_thick 25 = .ok (.iload_n 2, 1) := by decide +kernel
theorem dX5_thick_26 : decode cX5_thick 26 = .ok (.iconst 3, 1) := by decide +kernel
theorem dX5_thick_27 : decode cX5_thick 27 = .ok (.if_icmp .ne 7, 3) := by decide +kernel
theorem dX5_thick_30 : decode cX5_thick 30 = .ok (.iconst 3, 1) := by decide +kernel
theorem dX5_thick_31 : decode cX5_thick 31 = .ok (.goto 4, 3) := by decide +kernel
theorem dX5_thick_34 : decode cX5_thick 34 = .ok (.iconst 0, 1) := by decide +kernel
theorem dX5_thick_35 : decode cX5_thick 35 = .ok (.iadd, 1) := by decide +kernel
theorem dX5_thick_36 : decode cX5_thick 36 = .ok (.ireturn, 1) := by decide +kernel
theorem dX5_thick_37 : decode cX5_thick 37 = .ok (.iload_n 2, 1) := by decide +kernel
theorem dX5_thick_38 : decode cX5_thick 38 = .ok (.iconst 5, 1) := by decide +kernel
theorem dX5_thick_39 : decode cX5_thick 39 = .ok (.invokestatic 108, 3) := by decide +kernel
theorem dX5_thick_42 : decode cX5_thick 42 = .ok (.ifCond .eq 13, 3) := by decide +kernel
theorem dX5_thick_45 : decode cX5_thick 45 = .ok (.iconst 1, 1) := by decide +kernel
theorem dX5_thick_46 : decode cX5_thick 46 = .ok (.iload_n 3, 1) := by decide +kernel
theorem dX5_thick_47 : decode cX5_thick 47 = .ok (.iconst 2, 1) := by decide +kernel
theorem dX5_thick_48 : decode cX5_thick 48 = .ok (.idiv, 1) := by decide +kernel
theorem dX5_thick_49 : decode cX5_thick 49 = .ok (.invokestatic 112, 3) := by decide +kernel
theorem dX5_thick_52 : decode cX5_thick 52 = .ok (.goto 4, 3) := by decide +kernel
theorem dX5_thick_55 : decode cX5_thick 55 = .ok (.iload_n 3, 1) := by decide +kernel
theorem dX5_thick_56 : decode cX5_thick 56 = .ok (.ireturn, 1) := by decide +kernel
theorem dX5_goes_0 : decode cX5_goes 0 = .ok (.aload_n 0, 1) := by decide +kernel
theorem dX5_goes_1 : decode cX5_goes 1 = .ok (.iload_n 1, 1) := by decide +kernel
theorem dX5_goes_2 : decode cX5_goes 2 = .ok (.iconst 0, 1) := by decide +kernel
theorem dX5_goes_3 : decode cX5_goes 3 = .ok (.invokevirtual 105, 3) := by decide +kernel
theorem dX5_goes_6 : decode cX5_goes 6 = .ok (.istore_n 2, 1) := by decide +kernel
theorem dX5_goes_7 : decode cX5_goes 7 = .ok (.iload_n 2, 1) := by decide +kernel
theorem dX5_goes_8 : decode cX5_goes 8 = .ok (.iconst 2, 1) := by decide +kernel
theorem dX5_goes_9 : decode cX5_goes 9 = .ok (.invokestatic 108, 3) := by decide +kernel
theorem dX5_goes_12 : decode cX5_goes 12 = .ok (.ifCond .eq 7, 3) := by decide +kernel
theorem dX5_goes_15 : decode cX5_goes 15 = .ok (.iconst 2, 1) := by decide +kernel
theorem dX5_goes_16 : decode cX5_goes 16 = .ok (.goto 14, 3) := by decide +kernel
theorem dX5_goes_19 : decode cX5_goes 19 = .ok (.iload_n 2, 1) := by decide +kernel
theorem dX5_goes_20 : decode cX5_goes 20 = .ok (.bipush 6, 2) := by decide +kernel
theorem dX5_goes_22 : decode cX5_goes 22 = .ok (.if_icmp .ne 7, 3) := by decide +kernel
theorem dX5_goes_25 : decode cX5_goes 25 = .ok (.iconst 0, 1) := by decide +kernel
theorem dX5_goes_26 : decode cX5_goes 26 = .ok (.goto 4, 3) := by decide +kernel
theorem dX5_goes_29 : decode cX5_goes 29 = .ok (.iconst 1, 1) := by decide +kernel
theorem dX5_goes_30 : decode cX5_goes 30 = .ok (.ireturn, 1) := by decide +kernel
theorem dX5_wears_0 : decode cX5_wears 0 = .ok (.aload_n 0, 1) := by decide +kernel
theorem dX5_wears_1 : decode cX5_wears 1 = .ok (.iload_n 1, 1) := by decide +kernel
theorem dX5_wears_2 : decode cX5_wears 2 = .ok (.iconst 0, 1) := by decide +kernel
theorem dX5_wears_3 : decode cX5_wears 3 = .ok (.invokevirtual 105, 3) := by decide +kernel
theorem dX5_wears_6 : decode cX5_wears 6 = .ok (.istore_n 2, 1) := by decide +kernel
theorem dX5_wears_7 : decode cX5_wears 7 = .ok (.iload_n 2, 1) := by decide +kernel
theorem dX5_wears_8 : decode cX5_wears 8 = .ok (.iconst 1, 1) := by decide +kernel
theorem dX5_wears_9 : decode cX5_wears 9 = .ok (.invokestatic 108, 3) := by decide +kernel
theorem dX5_wears_12 : decode cX5_wears 12 = .ok (.ifCond .eq 5, 3) := by decide +kernel
theorem dX5_wears_15 : decode cX5_wears 15 = .ok (.iconst 0, 1) := by decide +kernel
theorem dX5_wears_16 : decode cX5_wears 16 = .ok (.ireturn, 1) := by decide +kernel
theorem dX5_wears_17 : decode cX5_wears 17 = .ok (.iconst 2, 1) := by decide +kernel
theorem dX5_wears_18 : decode cX5_wears 18 = .ok (.aload_n 0, 1) := by decide +kernel
theorem dX5_wears_19 : decode cX5_wears 19 = .ok (.iload_n 1, 1) := by decide +kernel
theorem dX5_wears_20 : decode cX5_wears 20 = .ok (.invokevirtual 117, 3) := by decide +kernel
theorem dX5_wears_23 : decode cX5_wears 23 = .ok (.imul, 1) := by decide +kernel
theorem dX5_wears_24 : decode cX5_wears 24 = .ok (.aload_n 0, 1) := by decide +kernel
theorem dX5_wears_25 : decode cX5_wears 25 = .ok (.getfield 9, 3) := by decide +kernel
theorem dX5_wears_28 : decode cX5_wears 28 = .ok (.iconst 1, 1) := by decide +kernel
theorem dX5_wears_29 : decode cX5_wears 29 = .ok (.iaload, 1) := by decide +kernel
theorem dX5_wears_30 : decode cX5_wears 30 = .ok (.if_icmp .lt 7, 3) := by decide +kernel
theorem dX5_wears_33 : decode cX5_wears 33 = .ok (.iconst 1, 1) := by decide +kernel
theorem dX5_wears_34 : decode cX5_wears 34 = .ok (.goto 4, 3) := by decide +kernel
theorem dX5_wears_37 : decode cX5_wears 37 = .ok (.iconst 0, 1) := by decide +kernel
theorem dX5_wears_38 : decode cX5_wears 38 = .ok (.iload_n 2, 1) := by decide +kernel
theorem dX5_wears_39 : decode cX5_wears 39 = .ok (.iconst 4, 1) := by decide +kernel
theorem dX5_wears_40 : decode cX5_wears 40 = .ok (.if_icmp .ne 7, 3) := by decide +kernel
theorem dX5_wears_43 : decode cX5_wears 43 = .ok (.iconst 2, 1) := by decide +kernel
theorem dX5_wears_44 : decode cX5_wears 44 = .ok (.goto 13, 3) := by decide +kernel
theorem dX5_wears_47 : decode cX5_wears 47 = .ok (.iload_n 2, 1) := by decide +kernel
theorem dX5_wears_48 : decode cX5_wears 48 = .ok (.iconst 2, 1) := by decide +kernel
theorem dX5_wears_49 : decode cX5_wears 49 = .ok (.if_icmp .ne 7, 3) := by decide +kernel
theorem dX5_wears_52 : decode cX5_wears 52 = .ok (.iconst 1, 1) := by decide +kernel
theorem dX5_wears_53 : decode cX5_wears 53 = .ok (.goto 4, 3) := by decide +kernel
theorem dX5_wears_56 : decode cX5_wears 56 = .ok (.iconst 0, 1) := by decide +kernel
theorem dX5_wears_57 : decode cX5_wears 57 = .ok (.iadd, 1) := by decide +kernel
theorem dX5_wears_58 : decode cX5_wears 58 = .ok (.ireturn, 1) := by decide +kernel
theorem dX5_of_0 : decode cX5_of 0 = .ok (.aload_n 0, 1) := by decide +kernel
theorem dX5_of_1 : decode cX5_of 1 = .ok (.iload_n 1, 1) := by decide +kernel
theorem dX5_of_2 : decode cX5_of 2 = .ok (.invokevirtual 120, 3) := by decide +kernel
theorem dX5_of_5 : decode cX5_of 5 = .ok (.ifCond .eq 13, 3) := by decide +kernel
theorem dX5_of_8 : decode cX5_of 8 = .ok (.iload_n 2, 1) := by decide +kernel
theorem dX5_of_9 : decode cX5_of 9 = .ok (.iconst 0, 1) := by decide +kernel
theorem dX5_of_10 : decode cX5_of 10 = .ok (.bipush 10, 2) := by decide +kernel
theorem dX5_of_12 : decode cX5_of 12 = .ok (.invokestatic 78, 3) := by decide +kernel
theorem dX5_of_15 : decode cX5_of 15 = .ok (.ifCond .ne 10, 3) := by decide +kernel
theorem dX5_of_18 : decode cX5_of 18 = .ok (.aload_n 0, 1) := by decide +kernel
theorem dX5_of_19 : decode cX5_of 19 = .ok (.ldc 73, 2) := by decide +kernel
theorem dX5_of_21 : decode cX5_of 21 = .ok (.invokevirtual 93, 3) := by decide +kernel
theorem dX5_of_24 : decode cX5_of 24 = .ok (.ireturn, 1) := by decide +kernel
theorem dX5_of_25 : decode cX5_of 25 = .ok (.iload_n 2, 1) := by decide +kernel
theorem dX5_of_26 : decode cX5_of 26 = .ok (.bipush 8, 2) := by decide +kernel
theorem dX5_of_28 : decode cX5_of 28 = .ok (.if_icmp .ne 11, 3) := by decide +kernel
theorem dX5_of_31 : decode cX5_of 31 = .ok (.aload_n 0, 1) := by decide +kernel
theorem dX5_of_32 : decode cX5_of 32 = .ok (.iload_n 1, 1) := by decide +kernel
theorem dX5_of_33 : decode cX5_of 33 = .ok (.invokevirtual 117, 3) := by decide +kernel
theorem dX5_of_36 : decode cX5_of 36 = .ok (.goto 37, 3) := by decide +kernel
theorem dX5_of_39 : decode cX5_of 39 = .ok (.iload_n 2, 1) := by decide +kernel
theorem dX5_of_40 : decode cX5_of 40 = .ok (.bipush 9, 2) := by decide +kernel
theorem dX5_of_42 : decode cX5_of 42 = .ok (.if_icmp .ne 11, 3) := by decide +kernel
theorem dX5_of_45 : decode cX5_of 45 = .ok (.aload_n 0, 1) := by decide +kernel
theorem dX5_of_46 : decode cX5_of 46 = .ok (.iload_n 1, 1) := by decide +kernel
theorem dX5_of_47 : decode cX5_of 47 = .ok (.invokevirtual 123, 3) := by decide +kernel
theorem dX5_of_50 : decode cX5_of 50 = .ok (.goto 23, 3) := by decide +kernel
theorem dX5_of_53 : decode cX5_of 53 = .ok (.iload_n 2, 1) := by decide +kernel
theorem dX5_of_54 : decode cX5_of 54 = .ok (.bipush 10, 2) := by decide +kernel
theorem dX5_of_56 : decode cX5_of 56 = .ok (.if_icmp .ne 11, 3) := by decide +kernel
theorem dX5_of_59 : decode cX5_of 59 = .ok (.aload_n 0, 1) := by decide +kernel
theorem dX5_of_60 : decode cX5_of 60 = .ok (.iload_n 1, 1) := by decide +kernel
theorem dX5_of_61 : decode cX5_of 61 = .ok (.invokevirtual 126, 3) := by decide +kernel
theorem dX5_of_64 : decode cX5_of 64 = .ok (.goto 9, 3) := by decide +kernel
theorem dX5_of_67 : decode cX5_of 67 = .ok (.aload_n 0, 1) := by decide +kernel
theorem dX5_of_68 : decode cX5_of 68 = .ok (.iload_n 1, 1) := by decide +kernel
theorem dX5_of_69 : decode cX5_of 69 = .ok (.iload_n 2, 1) := by decide +kernel
theorem dX5_of_70 : decode cX5_of 70 = .ok (.invokevirtual 105, 3) := by decide +kernel
theorem dX5_of_73 : decode cX5_of 73 = .ok (.ireturn, 1) := by decide +kernel
theorem dX5_change_0 : decode cX5_change 0 = .ok (.aload_n 0, 1) := by decide +kernel
theorem dX5_change_1 : decode cX5_change 1 = .ok (.iload_n 1, 1) := by decide +kernel
theorem dX5_change_2 : decode cX5_change 2 = .ok (.invokevirtual 120, 3) := by decide +kernel
theorem dX5_change_5 : decode cX5_change 5 = .ok (.ifCond .eq 36, 3) := by decide +kernel
theorem dX5_change_8 : decode cX5_change 8 = .ok (.iload_n 2, 1) := by decide +kernel
theorem dX5_change_9 : decode cX5_change 9 = .ok (.iconst 0, 1) := by decide +kernel
theorem dX5_change_10 : decode cX5_change 10 = .ok (.bipush 6, 2) := by decide +kernel
theorem dX5_change_12 : decode cX5_change 12 = .ok (.invokestatic 78, 3) := by decide +kernel
theorem dX5_change_15 : decode cX5_change 15 = .ok (.ifCond .eq 26, 3) := by decide +kernel
theorem dX5_change_18 : decode cX5_change 18 = .ok (.iload_n 3, 1) := by decide +kernel
theorem dX5_change_19 : decode cX5_change 19 = .ok (.aload_n 0, 1) := by decide +kernel
theorem dX5_change_20 : decode cX5_change 20 = .ok (.getfield 22, 3) := by decide +kernel
theorem dX5_change_23 : decode cX5_change 23 = .ok (.iload_n 2, 1) := by decide +kernel
theorem dX5_change_24 : decode cX5_change 24 = .ok (.iaload, 1) := by decide +kernel
theorem dX5_change_25 : decode cX5_change 25 = .ok (.aload_n 0, 1) := by decide +kernel
theorem dX5_change_26 : decode cX5_change 26 = .ok (.getfield 25, 3) := by decide +kernel
theorem dX5_change_29 : decode cX5_change 29 = .ok (.iload_n 2, 1) := by decide +kernel
theorem dX5_change_30 : decode cX5_change 30 = .ok (.iaload, 1) := by decide +kernel
theorem dX5_change_31 : decode cX5_change 31 = .ok (.invokestatic 78, 3) := by decide +kernel
theorem dX5_change_34 : decode cX5_change 34 = .ok (.ifCond .eq 7, 3) := by decide +kernel
theorem dX5_change_37 : decode cX5_change 37 = .ok (.iconst 1, 1) := by decide +kernel
theorem dX5_change_38 : decode cX5_change 38 = .ok (.goto 4, 3) := by decide +kernel
theorem dX5_change_41 : decode cX5_change 41 = .ok (.iconst 0, 1) := by decide +kernel
theorem dX5_change_42 : decode cX5_change 42 = .ok (.istore 4, 2) := by decide +kernel
theorem dX5_change_44 : decode cX5_change 44 = .ok (.iload 4, 2) := by decide +kernel
theorem dX5_change_46 : decode cX5_change 46 = .ok (.ifCond .eq 16, 3) := by decide +kernel
theorem dX5_change_49 : decode cX5_change 49 = .ok (.aload_n 0, 1) := by decide +kernel
theorem dX5_change_50 : decode cX5_change 50 = .ok (.iload_n 1, 1) := by decide +kernel
theorem dX5_change_51 : decode cX5_change 51 = .ok (.iload_n 2, 1) := by decide +kernel
theorem dX5_change_52 : decode cX5_change 52 = .ok (.invokestatic 82, 3) := by decide +kernel
theorem dX5_change_55 : decode cX5_change 55 = .ok (.iload_n 3, 1) := by decide +kernel
theorem dX5_change_56 : decode cX5_change 56 = .ok (.invokevirtual 129, 3) := by decide +kernel
theorem dX5_change_59 : decode cX5_change 59 = .ok (.goto 9, 3) := by decide +kernel
theorem dX5_change_62 : decode cX5_change 62 = .ok (.aload_n 0, 1) := by decide +kernel
theorem dX5_change_63 : decode cX5_change 63 = .ok (.ldc 73, 2) := by decide +kernel
theorem dX5_change_65 : decode cX5_change 65 = .ok (.invokevirtual 93, 3) := by decide +kernel
theorem dX5_change_68 : decode cX5_change 68 = .ok (.ireturn, 1) := by decide +kernel
theorem dX5_goesTo_0 : decode cX5_goesTo 0 = .ok (.aload_n 0, 1) := by decide +kernel
theorem dX5_goesTo_1 : decode cX5_goesTo 1 = .ok (.getfield 9, 3) := by decide +kernel
theorem dX5_goesTo_4 : decode cX5_goesTo 4 = .ok (.iload_n 1, 1) := by decide +kernel
theorem dX5_goesTo_5 : decode cX5_goesTo 5 = .ok (.iconst 5, 1) := by decide +kernel
theorem dX5_goesTo_6 : decode cX5_goesTo 6 = .ok (.invokestatic 82, 3) := by decide +kernel
theorem dX5_goesTo_9 : decode cX5_goesTo 9 = .ok (.iconst 0, 1) := by decide +kernel
theorem dX5_goesTo_10 : decode cX5_goesTo 10 = .ok (.iastore, 1) := by decide +kernel
theorem dX5_goesTo_11 : decode cX5_goesTo 11 = .ok (.aload_n 0, 1) := by decide +kernel
theorem dX5_goesTo_12 : decode cX5_goesTo 12 = .ok (.getfield 9, 3) := by decide +kernel
theorem dX5_goesTo_15 : decode cX5_goesTo 15 = .ok (.iload_n 1, 1) := by decide +kernel
theorem dX5_goesTo_16 : decode cX5_goesTo 16 = .ok (.bipush 6, 2) := by decide +kernel
theorem dX5_goesTo_18 : decode cX5_goesTo 18 = .ok (.invokestatic 82, 3) := by decide +kernel
theorem dX5_goesTo_21 : decode cX5_goesTo 21 = .ok (.iconst 0, 1) := by decide +kernel
theorem dX5_goesTo_22 : decode cX5_goesTo 22 = .ok (.iastore, 1) := by decide +kernel
theorem dX5_goesTo_23 : decode cX5_goesTo 23 = .ok (.aload_n 0, 1) := by decide +kernel
theorem dX5_goesTo_24 : decode cX5_goesTo 24 = .ok (.getfield 9, 3) := by decide +kernel
theorem dX5_goesTo_27 : decode cX5_goesTo 27 = .ok (.iload_n 1, 1) := by decide +kernel
theorem dX5_goesTo_28 : decode cX5_goesTo 28 = .ok (.bipush 7, 2) := by decide +kernel
theorem dX5_goesTo_30 : decode cX5_goesTo 30 = .ok (.invokestatic 82, 3) := by decide +kernel
theorem dX5_goesTo_33 : decode cX5_goesTo 33 = .ok (.iconst (-1), 1) := by decide +kernel
theorem dX5_goesTo_34 : decode cX5_goesTo 34 = .ok (.iastore, 1) := by decide +kernel
theorem dX5_goesTo_35 : decode cX5_goesTo 35 = .ok (.aload_n 0, 1) := by decide +kernel
theorem dX5_goesTo_36 : decode cX5_goesTo 36 = .ok (.iload_n 1, 1) := by decide +kernel
theorem dX5_goesTo_37 : decode cX5_goesTo 37 = .ok (.iconst 4, 1) := by decide +kernel
theorem dX5_goesTo_38 : decode cX5_goesTo 38 = .ok (.invokestatic 82, 3) := by decide +kernel
theorem dX5_goesTo_41 : decode cX5_goesTo 41 = .ok (.iload_n 2, 1) := by decide +kernel
theorem dX5_goesTo_42 : decode cX5_goesTo 42 = .ok (.invokevirtual 129, 3) := by decide +kernel
theorem dX5_goesTo_45 : decode cX5_goesTo 45 = .ok (.ireturn, 1) := by decide +kernel
theorem dX5_put_0 : decode cX5_put 0 = .ok (.aload_n 0, 1) := by decide +kernel
theorem dX5_put_1 : decode cX5_put 1 = .ok (.iload_n 1, 1) := by decide +kernel
theorem dX5_put_2 : decode cX5_put 2 = .ok (.invokevirtual 120, 3) := by decide +kernel
theorem dX5_put_5 : decode cX5_put 5 = .ok (.ifCond .eq 19, 3) := by decide +kernel
theorem dX5_put_8 : decode cX5_put 8 = .ok (.iload_n 2, 1) := by decide +kernel
theorem dX5_put_9 : decode cX5_put 9 = .ok (.invokestatic 132, 3) := by decide +kernel
theorem dX5_put_12 : decode cX5_put 12 = .ok (.ifCond .eq 12, 3) := by decide +kernel
theorem dX5_put_15 : decode cX5_put 15 = .ok (.aload_n 0, 1) := by decide +kernel
theorem dX5_put_16 : decode cX5_put 16 = .ok (.iload_n 1, 1) := by decide +kernel
theorem dX5_put_17 : decode cX5_put 17 = .ok (.iload_n 2, 1) := by decide +kernel
theorem dX5_put_18 : decode cX5_put 18 = .ok (.invokevirtual 86, 3) := by decide +kernel
theorem dX5_put_21 : decode cX5_put 21 = .ok (.goto 9, 3) := by decide +kernel
theorem dX5_put_24 : decode cX5_put 24 = .ok (.aload_n 0, 1) := by decide +kernel
theorem dX5_put_25 : decode cX5_put 25 = .ok (.ldc 73, 2) := by decide +kernel
theorem dX5_put_27 : decode cX5_put 27 = .ok (.invokevirtual 93, 3) := by decide +kernel
theorem dX5_put_30 : decode cX5_put 30 = .ok (.ireturn, 1) := by decide +kernel
theorem dX5_rule_0 : decode cX5_rule 0 = .ok (.iload_n 1, 1) := by decide +kernel
theorem dX5_rule_1 : decode cX5_rule 1 = .ok (.iconst 0, 1) := by decide +kernel
theorem dX5_rule_2 : decode cX5_rule 2 = .ok (.iconst 2, 1) := by decide +kernel
theorem dX5_rule_3 : decode cX5_rule 3 = .ok (.invokestatic 78, 3) := by decide +kernel
theorem dX5_rule_6 : decode cX5_rule 6 = .ok (.ifCond .eq 27, 3) := by decide +kernel
theorem dX5_rule_9 : decode cX5_rule 9 = .ok (.iload_n 2, 1) := by decide +kernel
theorem dX5_rule_10 : decode cX5_rule 10 = .ok (.iconst 0, 1) := by decide +kernel
theorem dX5_rule_11 : decode cX5_rule 11 = .ok (.iload_n 1, 1) := by decide +kernel
theorem dX5_rule_12 : decode cX5_rule 12 = .ok (.iconst 2, 1) := by decide +kernel
theorem dX5_rule_13 : decode cX5_rule 13 = .ok (.if_icmp .ne 8, 3) := by decide +kernel
theorem dX5_rule_16 : decode cX5_rule 16 = .ok (.bipush 7, 2) := by decide +kernel
theorem dX5_rule_18 : decode cX5_rule 18 = .ok (.goto 5, 3) := by decide +kernel
theorem dX5_rule_21 : decode cX5_rule 21 = .ok (.bipush 99, 2) := by decide +kernel
theorem dX5_rule_23 : decode cX5_rule 23 = .ok (.invokestatic 78, 3) := by decide +kernel
theorem dX5_rule_26 : decode cX5_rule 26 = .ok (.ifCond .eq 7, 3) := by decide +kernel
theorem dX5_rule_29 : decode cX5_rule 29 = .ok (.iconst 1, 1) := by decide +kernel
theorem dX5_rule_30 : decode cX5_rule 30 = .ok (.goto 4, 3) := by decide +kernel
theorem dX5_rule_33 : decode cX5_rule 33 = .ok (.iconst 0, 1) := by decide +kernel
theorem dX5_rule_34 : decode cX5_rule 34 = .ok (.istore_n 3, 1) := by decide +kernel
theorem dX5_rule_35 : decode cX5_rule 35 = .ok (.iload_n 3, 1) := by decide +kernel
theorem dX5_rule_36 : decode cX5_rule 36 = .ok (.ifCond .eq 14, 3) := by decide +kernel
theorem dX5_rule_39 : decode cX5_rule 39 = .ok (.aload_n 0, 1) := by decide +kernel
theorem dX5_rule_40 : decode cX5_rule 40 = .ok (.iconst 1, 1) := by decide +kernel
theorem dX5_rule_41 : decode cX5_rule 41 = .ok (.iload_n 1, 1) := by decide +kernel
theorem dX5_rule_42 : decode cX5_rule 42 = .ok (.iadd, 1) := by decide +kernel
theorem dX5_rule_43 : decode cX5_rule 43 = .ok (.iload_n 2, 1) := by decide +kernel
theorem dX5_rule_44 : decode cX5_rule 44 = .ok (.invokevirtual 129, 3) := by decide +kernel
theorem dX5_rule_47 : decode cX5_rule 47 = .ok (.goto 9, 3) := by decide +kernel
theorem dX5_rule_50 : decode cX5_rule 50 = .ok (.aload_n 0, 1) := by decide +kernel
theorem dX5_rule_51 : decode cX5_rule 51 = .ok (.ldc 73, 2) := by decide +kernel
theorem dX5_rule_53 : decode cX5_rule 53 = .ok (.invokevirtual 93, 3) := by decide +kernel
theorem dX5_rule_56 : decode cX5_rule 56 = .ok (.ireturn, 1) := by decide +kernel
theorem dX5_sew_0 : decode cX5_sew 0 = .ok (.aload_n 0, 1) := by decide +kernel
theorem dX5_sew_1 : decode cX5_sew 1 = .ok (.iconst 1, 1) := by decide +kernel
theorem dX5_sew_2 : decode cX5_sew 2 = .ok (.iconst 0, 1) := by decide +kernel
theorem dX5_sew_3 : decode cX5_sew 3 = .ok (.invokevirtual 129, 3) := by decide +kernel
theorem dX5_sew_6 : decode cX5_sew 6 = .ok (.ireturn, 1) := by decide +kernel
theorem dX5_isIn_0 : decode cX5_isIn 0 = .ok (.aload_n 0, 1) := by decide +kernel
theorem dX5_isIn_1 : decode cX5_isIn 1 = .ok (.iload_n 1, 1) := by decide +kernel
theorem dX5_isIn_2 : decode cX5_isIn 2 = .ok (.iconst 4, 1) := by decide +kernel
theorem dX5_isIn_3 : decode cX5_isIn 3 = .ok (.invokevirtual 105, 3) := by decide +kernel
theorem dX5_isIn_6 : decode cX5_isIn 6 = .ok (.iload_n 2, 1) := by decide +kernel
theorem dX5_isIn_7 : decode cX5_isIn 7 = .ok (.if_icmp .ne 7, 3) := by decide +kernel
theorem dX5_isIn_10 : decode cX5_isIn 10 = .ok (.iconst 1, 1) := by decide +kernel
theorem dX5_isIn_11 : decode cX5_isIn 11 = .ok (.goto 4, 3) := by decide +kernel
theorem dX5_isIn_14 : decode cX5_isIn 14 = .ok (.iconst 0, 1) := by decide +kernel
theorem dX5_isIn_15 : decode cX5_isIn 15 = .ok (.ireturn, 1) := by decide +kernel
theorem dX5_lieIn_0 : decode cX5_lieIn 0 = .ok (.iconst 0, 1) := by decide +kernel
theorem dX5_lieIn_1 : decode cX5_lieIn 1 = .ok (.istore_n 2, 1) := by decide +kernel
theorem dX5_lieIn_2 : decode cX5_lieIn 2 = .ok (.iconst 0, 1) := by decide +kernel
theorem dX5_lieIn_3 : decode cX5_lieIn 3 = .ok (.istore_n 3, 1) := by decide +kernel
theorem dX5_lieIn_4 : decode cX5_lieIn 4 = .ok (.iload_n 3, 1) := by decide +kernel
theorem dX5_lieIn_5 : decode cX5_lieIn 5 = .ok (.aload_n 0, 1) := by decide +kernel
theorem dX5_lieIn_6 : decode cX5_lieIn 6 = .ok (.getfield 9, 3) := by decide +kernel
theorem dX5_lieIn_9 : decode cX5_lieIn 9 = .ok (.iconst 4, 1) := by decide +kernel
theorem dX5_lieIn_10 : decode cX5_lieIn 10 = .ok (.iaload, 1) := by decide +kernel
theorem dX5_lieIn_11 : decode cX5_lieIn 11 = .ok (.if_icmp .ge 28, 3) := by decide +kernel
theorem dX5_lieIn_14 : decode cX5_lieIn 14 = .ok (.iload_n 2, 1) := by decide +kernel
theorem dX5_lieIn_15 : decode cX5_lieIn 15 = .ok (.aload_n 0, 1) := by decide +kernel
theorem dX5_lieIn_16 : decode cX5_lieIn 16 = .ok (.iload_n 3, 1) := by decide +kernel
theorem dX5_lieIn_17 : decode cX5_lieIn 17 = .ok (.iload_n 1, 1) := by decide +kernel
theorem dX5_lieIn_18 : decode cX5_lieIn 18 = .ok (.invokevirtual 135, 3) := by decide +kernel
theorem dX5_lieIn_21 : decode cX5_lieIn 21 = .ok (.ifCond .eq 9, 3) := by decide +kernel
theorem dX5_lieIn_24 : decode cX5_lieIn 24 = .ok (.iconst 1, 1) := by decide +kernel
theorem dX5_lieIn_25 : decode cX5_lieIn 25 = .ok (.iload_n 3, 1) := by decide +kernel
theorem dX5_lieIn_26 : decode cX5_lieIn 26 = .ok (.ishl, 1) := by decide +kernel
theorem dX5_lieIn_27 : decode cX5_lieIn 27 = .ok (.goto 4, 3) := by decide +kernel
theorem dX5_lieIn_30 : decode cX5_lieIn 30 = .ok (.iconst 0, 1) := by decide +kernel
theorem dX5_lieIn_31 : decode cX5_lieIn 31 = .ok (.ior, 1) := by decide +kernel
theorem dX5_lieIn_32 : decode cX5_lieIn 32 = .ok (.istore_n 2, 1) := by decide +kernel
theorem dX5_lieIn_33 : decode cX5_lieIn 33 = .ok (.iinc 3 1, 3) := by decide +kernel
theorem dX5_lieIn_36 : decode cX5_lieIn 36 = .ok (.goto (-32), 3) := by decide +kernel
theorem dX5_lieIn_39 : decode cX5_lieIn 39 = .ok (.iload_n 2, 1) := by decide +kernel
theorem dX5_lieIn_40 : decode cX5_lieIn 40 = .ok (.ireturn, 1) := by decide +kernel
theorem dX5_sumOf_0 : decode cX5_sumOf 0 = .ok (.iconst 0, 1) := by decide +kernel
theorem dX5_sumOf_1 : decode cX5_sumOf 1 = .ok (.istore_n 3, 1) := by decide +kernel
theorem dX5_sumOf_2 : decode cX5_sumOf 2 = .ok (.iconst 0, 1) := by decide +kernel
theorem dX5_sumOf_3 : decode cX5_sumOf 3 = .ok (.istore 4, 2) := by decide +kernel
theorem dX5_sumOf_5 : decode cX5_sumOf 5 = .ok (.iload 4, 2) := by decide +kernel
theorem dX5_sumOf_7 : decode cX5_sumOf 7 = .ok (.aload_n 0, 1) := by decide +kernel
theorem dX5_sumOf_8 : decode cX5_sumOf 8 = .ok (.getfield 9, 3) := by decide +kernel
theorem dX5_sumOf_11 : decode cX5_sumOf 11 = .ok (.iconst 4, 1) := by decide +kernel
theorem dX5_sumOf_12 : decode cX5_sumOf 12 = .ok (.iaload, 1) := by decide +kernel
theorem dX5_sumOf_13 : decode cX5_sumOf 13 = .ok (.if_icmp .ge 32, 3) := by decide +kernel
theorem dX5_sumOf_16 : decode cX5_sumOf 16 = .ok (.iload_n 3, 1) := by decide +kernel
theorem dX5_sumOf_17 : decode cX5_sumOf 17 = .ok (.iload_n 1, 1) := by decide +kernel
theorem dX5_sumOf_18 : decode cX5_sumOf 18 = .ok (.iload 4, 2) := by decide +kernel
theorem dX5_sumOf_20 : decode cX5_sumOf 20 = .ok (.invokestatic 138, 3) := by decide +kernel
theorem dX5_sumOf_23 : decode cX5_sumOf 23 = .ok (.ifCond .eq 13, 3) := by decide +kernel
theorem dX5_sumOf_26 : decode cX5_sumOf 26 = .ok (.aload_n 0, 1) := by decide +kernel
theorem dX5_sumOf_27 : decode cX5_sumOf 27 = .ok (.iload 4, 2) := by decide +kernel
theorem dX5_sumOf_29 : decode cX5_sumOf 29 = .ok (.iload_n 2, 1) := by decide +kernel
theorem dX5_sumOf_30 : decode cX5_sumOf 30 = .ok (.invokevirtual 105, 3) := by decide +kernel
theorem dX5_sumOf_33 : decode cX5_sumOf 33 = .ok (.goto 4, 3) := by decide +kernel
theorem dX5_sumOf_36 : decode cX5_sumOf 36 = .ok (.iconst 0, 1) := by decide +kernel
theorem dX5_sumOf_37 : decode cX5_sumOf 37 = .ok (.iadd, 1) := by decide +kernel
theorem dX5_sumOf_38 : decode cX5_sumOf 38 = .ok (.istore_n 3, 1) := by decide +kernel
theorem dX5_sumOf_39 : decode cX5_sumOf 39 = .ok (.iinc 4 1, 3) := by decide +kernel
theorem dX5_sumOf_42 : decode cX5_sumOf 42 = .ok (.goto (-37), 3) := by decide +kernel
theorem dX5_sumOf_45 : decode cX5_sumOf 45 = .ok (.iload_n 3, 1) := by decide +kernel
theorem dX5_sumOf_46 : decode cX5_sumOf 46 = .ok (.ireturn, 1) := by decide +kernel
theorem dX5_lie_0 : decode cX5_lie 0 = .ok (.iload_n 1, 1) := by decide +kernel
theorem dX5_lie_1 : decode cX5_lie 1 = .ok (.invokestatic 132, 3) := by decide +kernel
theorem dX5_lie_4 : decode cX5_lie 4 = .ok (.ifCond .eq 11, 3) := by decide +kernel
theorem dX5_lie_7 : decode cX5_lie 7 = .ok (.aload_n 0, 1) := by decide +kernel
theorem dX5_lie_8 : decode cX5_lie 8 = .ok (.iload_n 1, 1) := by decide +kernel
theorem dX5_lie_9 : decode cX5_lie 9 = .ok (.invokevirtual 141, 3) := by decide +kernel
theorem dX5_lie_12 : decode cX5_lie 12 = .ok (.goto 9, 3) := by decide +kernel
theorem dX5_lie_15 : decode cX5_lie 15 = .ok (.aload_n 0, 1) := by decide +kernel
theorem dX5_lie_16 : decode cX5_lie 16 = .ok (.ldc 73, 2) := by decide +kernel
theorem dX5_lie_18 : decode cX5_lie 18 = .ok (.invokevirtual 93, 3) := by decide +kernel
theorem dX5_lie_21 : decode cX5_lie 21 = .ok (.ireturn, 1) := by decide +kernel
theorem dX5_pence_0 : decode cX5_pence 0 = .ok (.iload_n 1, 1) := by decide +kernel
theorem dX5_pence_1 : decode cX5_pence 1 = .ok (.invokestatic 132, 3) := by decide +kernel
theorem dX5_pence_4 : decode cX5_pence 4 = .ok (.ifCond .eq 16, 3) := by decide +kernel
theorem dX5_pence_7 : decode cX5_pence 7 = .ok (.aload_n 0, 1) := by decide +kernel
theorem dX5_pence_8 : decode cX5_pence 8 = .ok (.aload_n 0, 1) := by decide +kernel
theorem dX5_pence_9 : decode cX5_pence 9 = .ok (.iload_n 1, 1) := by decide +kernel
theorem dX5_pence_10 : decode cX5_pence 10 = .ok (.invokevirtual 141, 3) := by decide +kernel
theorem dX5_pence_13 : decode cX5_pence 13 = .ok (.iconst 3, 1) := by decide +kernel
theorem dX5_pence_14 : decode cX5_pence 14 = .ok (.invokevirtual 144, 3) := by decide +kernel
theorem dX5_pence_17 : decode cX5_pence 17 = .ok (.goto 9, 3) := by decide +kernel
theorem dX5_pence_20 : decode cX5_pence 20 = .ok (.aload_n 0, 1) := by decide +kernel
theorem dX5_pence_21 : decode cX5_pence 21 = .ok (.ldc 73, 2) := by decide +kernel
theorem dX5_pence_23 : decode cX5_pence 23 = .ok (.invokevirtual 93, 3) := by decide +kernel
theorem dX5_pence_26 : decode cX5_pence 26 = .ok (.ireturn, 1) := by decide +kernel
theorem dX5_wider_0 : decode cX5_wider 0 = .ok (.aload_n 0, 1) := by decide +kernel
theorem dX5_wider_1 : decode cX5_wider 1 = .ok (.getfield 9, 3) := by decide +kernel
theorem dX5_wider_4 : decode cX5_wider 4 = .ok (.iconst 1, 1) := by decide +kernel
theorem dX5_wider_5 : decode cX5_wider 5 = .ok (.bipush 99, 2) := by decide +kernel
theorem dX5_wider_7 : decode cX5_wider 7 = .ok (.aload_n 0, 1) := by decide +kernel
theorem dX5_wider_8 : decode cX5_wider 8 = .ok (.getfield 9, 3) := by decide +kernel
theorem dX5_wider_11 : decode cX5_wider 11 = .ok (.iconst 1, 1) := by decide +kernel
theorem dX5_wider_12 : decode cX5_wider 12 = .ok (.iaload, 1) := by decide +kernel
theorem dX5_wider_13 : decode cX5_wider 13 = .ok (.iload_n 1, 1) := by decide +kernel
theorem dX5_wider_14 : decode cX5_wider 14 = .ok (.iadd, 1) := by decide +kernel
theorem dX5_wider_15 : decode cX5_wider 15 = .ok (.invokestatic 147, 3) := by decide +kernel
theorem dX5_wider_18 : decode cX5_wider 18 = .ok (.iastore, 1) := by decide +kernel
theorem dX5_wider_19 : decode cX5_wider 19 = .ok (.return_, 1) := by decide +kernel
theorem dX5_inPocket_0 : decode cX5_inPocket 0 = .ok (.aload_n 0, 1) := by decide +kernel
theorem dX5_inPocket_1 : decode cX5_inPocket 1 = .ok (.getfield 9, 3) := by decide +kernel
theorem dX5_inPocket_4 : decode cX5_inPocket 4 = .ok (.iload_n 1, 1) := by decide +kernel
theorem dX5_inPocket_5 : decode cX5_inPocket 5 = .ok (.iconst 5, 1) := by decide +kernel
theorem dX5_inPocket_6 : decode cX5_inPocket 6 = .ok (.invokestatic 82, 3) := by decide +kernel
theorem dX5_inPocket_9 : decode cX5_inPocket 9 = .ok (.bipush 9, 2) := by decide +kernel
theorem dX5_inPocket_11 : decode cX5_inPocket 11 = .ok (.aload_n 0, 1) := by decide +kernel
theorem dX5_inPocket_12 : decode cX5_inPocket 12 = .ok (.iload_n 1, 1) := by decide +kernel
theorem dX5_inPocket_13 : decode cX5_inPocket 13 = .ok (.iconst 5, 1) := by decide +kernel
theorem dX5_inPocket_14 : decode cX5_inPocket 14 = .ok (.invokevirtual 105, 3) := by decide +kernel
theorem dX5_inPocket_17 : decode cX5_inPocket 17 = .ok (.aload_n 0, 1) := by decide +kernel
theorem dX5_inPocket_18 : decode cX5_inPocket 18 = .ok (.iload_n 1, 1) := by decide +kernel
theorem dX5_inPocket_19 : decode cX5_inPocket 19 = .ok (.invokevirtual 123, 3) := by decide +kernel
theorem dX5_inPocket_22 : decode cX5_inPocket 22 = .ok (.iadd, 1) := by decide +kernel
theorem dX5_inPocket_23 : decode cX5_inPocket 23 = .ok (.invokestatic 147, 3) := by decide +kernel
theorem dX5_inPocket_26 : decode cX5_inPocket 26 = .ok (.iastore, 1) := by decide +kernel
theorem dX5_inPocket_27 : decode cX5_inPocket 27 = .ok (.aload_n 0, 1) := by decide +kernel
theorem dX5_inPocket_28 : decode cX5_inPocket 28 = .ok (.iload_n 1, 1) := by decide +kernel
theorem dX5_inPocket_29 : decode cX5_inPocket 29 = .ok (.iconst 5, 1) := by decide +kernel
theorem dX5_inPocket_30 : decode cX5_inPocket 30 = .ok (.invokevirtual 105, 3) := by decide +kernel
theorem dX5_inPocket_33 : decode cX5_inPocket 33 = .ok (.iconst 3, 1) := by decide +kernel
theorem dX5_inPocket_34 : decode cX5_inPocket 34 = .ok (.if_icmp .ge 4, 3) := by decide +kernel
theorem dX5_inPocket_37 : decode cX5_inPocket 37 = .ok (.return_, 1) := by decide +kernel
theorem dX5_inPocket_38 : decode cX5_inPocket 38 = .ok (.aload_n 0, 1) := by decide +kernel
theorem dX5_inPocket_39 : decode cX5_inPocket 39 = .ok (.iload_n 1, 1) := by decide +kernel
theorem dX5_inPocket_40 : decode cX5_inPocket 40 = .ok (.invokevirtual 117, 3) := by decide +kernel
theorem dX5_inPocket_43 : decode cX5_inPocket 43 = .ok (.aload_n 0, 1) := by decide +kernel
theorem dX5_inPocket_44 : decode cX5_inPocket 44 = .ok (.getfield 9, 3) := by decide +kernel
theorem dX5_inPocket_47 : decode cX5_inPocket 47 = .ok (.iconst 1, 1) := by decide +kernel
theorem dX5_inPocket_48 : decode cX5_inPocket 48 = .ok (.iaload, 1) := by decide +kernel
theorem dX5_inPocket_49 : decode cX5_inPocket 49 = .ok (.if_icmp .gt 40, 3) := by decide +kernel
theorem dX5_inPocket_52 : decode cX5_inPocket 52 = .ok (.aload_n 0, 1) := by decide +kernel
theorem dX5_inPocket_53 : decode cX5_inPocket 53 = .ok (.iload_n 1, 1) := by decide +kernel
theorem dX5_inPocket_54 : decode cX5_inPocket 54 = .ok (.invokevirtual 126, 3) := by decide +kernel
theorem dX5_inPocket_57 : decode cX5_inPocket 57 = .ok (.istore_n 2, 1) := by decide +kernel
theorem dX5_inPocket_58 : decode cX5_inPocket 58 = .ok (.aload_n 0, 1) := by decide +kernel
theorem dX5_inPocket_59 : decode cX5_inPocket 59 = .ok (.getfield 9, 3) := by decide +kernel
theorem dX5_inPocket_62 : decode cX5_inPocket 62 = .ok (.iload_n 1, 1) := by decide +kernel
theorem dX5_inPocket_63 : decode cX5_inPocket 63 = .ok (.iconst 4, 1) := by decide +kernel
theorem dX5_inPocket_64 : decode cX5_inPocket 64 = .ok (.invokestatic 82, 3) := by decide +kernel
theorem dX5_inPocket_67 : decode cX5_inPocket 67 = .ok (.iconst 1, 1) := by decide +kernel
theorem dX5_inPocket_68 : decode cX5_inPocket 68 = .ok (.iastore, 1) := by decide +kernel
theorem dX5_inPocket_69 : decode cX5_inPocket 69 = .ok (.aload_n 0, 1) := by decide +kernel
theorem dX5_inPocket_70 : decode cX5_inPocket 70 = .ok (.getfield 9, 3) := by decide +kernel
theorem dX5_inPocket_73 : decode cX5_inPocket 73 = .ok (.iload_n 1, 1) := by decide +kernel
theorem dX5_inPocket_74 : decode cX5_inPocket 74 = .ok (.bipush 6, 2) := by decide +kernel
theorem dX5_inPocket_76 : decode cX5_inPocket 76 = .ok (.invokestatic 82, 3) := by decide +kernel
theorem dX5_inPocket_79 : decode cX5_inPocket 79 = .ok (.iconst 0, 1) := by decide +kernel
theorem dX5_inPocket_80 : decode cX5_inPocket 80 = .ok (.iastore, 1) := by decide +kernel
theorem dX5_inPocket_81 : decode cX5_inPocket 81 = .ok (.aload_n 0, 1) := by decide +kernel
theorem dX5_inPocket_82 : decode cX5_inPocket 82 = .ok (.iload_n 2, 1) := by decide +kernel
theorem dX5_inPocket_83 : decode cX5_inPocket 83 = .ok (.invokevirtual 150, 3) := by decide +kernel
theorem dX5_inPocket_86 : decode cX5_inPocket 86 = .ok (.goto 29, 3) := by decide +kernel
theorem dX5_inPocket_89 : decode cX5_inPocket 89 = .ok (.aload_n 0, 1) := by decide +kernel
theorem dX5_inPocket_90 : decode cX5_inPocket 90 = .ok (.iload_n 1, 1) := by decide +kernel
theorem dX5_inPocket_91 : decode cX5_inPocket 91 = .ok (.iconst 0, 1) := by decide +kernel
theorem dX5_inPocket_92 : decode cX5_inPocket 92 = .ok (.invokevirtual 105, 3) := by decide +kernel
theorem dX5_inPocket_95 : decode cX5_inPocket 95 = .ok (.iconst 4, 1) := by decide +kernel
theorem dX5_inPocket_96 : decode cX5_inPocket 96 = .ok (.if_icmp .ne 19, 3) := by decide +kernel
theorem dX5_inPocket_99 : decode cX5_inPocket 99 = .ok (.aload_n 0, 1) := by decide +kernel
theorem dX5_inPocket_100 : decode cX5_inPocket 100 = .ok (.getfield 9, 3) := by decide +kernel
theorem dX5_inPocket_103 : decode cX5_inPocket 103 = .ok (.iconst 0, 1) := by decide +kernel
theorem dX5_inPocket_104 : decode cX5_inPocket 104 = .ok (.iaload, 1) := by decide +kernel
theorem dX5_inPocket_105 : decode cX5_inPocket 105 = .ok (.iconst 4, 1) := by decide +kernel
theorem dX5_inPocket_106 : decode cX5_inPocket 106 = .ok (.irem, 1) := by decide +kernel
theorem dX5_inPocket_107 : decode cX5_inPocket 107 = .ok (.ifCond .ne 8, 3) := by decide +kernel
theorem dX5_inPocket_110 : decode cX5_inPocket 110 = .ok (.aload_n 0, 1) := by decide +kernel
theorem dX5_inPocket_111 : decode cX5_inPocket 111 = .ok (.iconst 1, 1) := by decide +kernel
theorem dX5_inPocket_112 : decode cX5_inPocket 112 = .ok (.invokevirtual 150, 3) := by decide +kernel
theorem dX5_inPocket_115 : decode cX5_inPocket 115 = .ok (.return_, 1) := by decide +kernel
theorem dX5_hasCompany_0 : decode cX5_hasCompany 0 = .ok (.iconst 0, 1) := by decide +kernel
theorem dX5_hasCompany_1 : decode cX5_hasCompany 1 = .ok (.istore_n 2, 1) := by decide +kernel
theorem dX5_hasCompany_2 : decode cX5_hasCompany 2 = .ok (.iconst 0, 1) := by decide +kernel
theorem dX5_hasCompany_3 : decode cX5_hasCompany 3 = .ok (.istore_n 3, 1) := by decide +kernel
theorem dX5_hasCompany_4 : decode cX5_hasCompany 4 = .ok (.iload_n 3, 1) := by decide +kernel
theorem dX5_hasCompany_5 : decode cX5_hasCompany 5 = .ok (.aload_n 0, 1) := by decide +kernel
theorem dX5_hasCompany_6 : decode cX5_hasCompany 6 = .ok (.getfield 9, 3) := by decide +kernel
theorem dX5_hasCompany_9 : decode cX5_hasCompany 9 = .ok (.iconst 4, 1) := by decide +kernel
theorem dX5_hasCompany_10 : decode cX5_hasCompany 10 = .ok (.iaload, 1) := by decide +kernel
theorem dX5_hasCompany_11 : decode cX5_hasCompany 11 = .ok (.if_icmp .ge 50, 3) := by decide +kernel
theorem dX5_hasCompany_14 : decode cX5_hasCompany 14 = .ok (.iload_n 2, 1) := by decide +kernel
theorem dX5_hasCompany_15 : decode cX5_hasCompany 15 = .ok (.ifCond .ne 34, 3) := by decide +kernel
theorem dX5_hasCompany_18 : decode cX5_hasCompany 18 = .ok (.iload_n 3, 1) := by decide +kernel
theorem dX5_hasCompany_19 : decode cX5_hasCompany 19 = .ok (.iload_n 1, 1) := by decide +kernel
theorem dX5_hasCompany_20 : decode cX5_hasCompany 20 = .ok (.if_icmp .eq 33, 3) := by decide +kernel
theorem dX5_hasCompany_23 : decode cX5_hasCompany 23 = .ok (.aload_n 0, 1) := by decide +kernel
theorem dX5_hasCompany_24 : decode cX5_hasCompany 24 = .ok (.iload_n 3, 1) := by decide +kernel
theorem dX5_hasCompany_25 : decode cX5_hasCompany 25 = .ok (.iconst 1, 1) := by decide +kernel
theorem dX5_hasCompany_26 : decode cX5_hasCompany 26 = .ok (.invokevirtual 135, 3) := by decide +kernel
theorem dX5_hasCompany_29 : decode cX5_hasCompany 29 = .ok (.ifCond .eq 24, 3) := by decide +kernel
theorem dX5_hasCompany_32 : decode cX5_hasCompany 32 = .ok (.aload_n 0, 1) := by decide +kernel
theorem dX5_hasCompany_33 : decode cX5_hasCompany 33 = .ok (.iload_n 3, 1) := by decide +kernel
theorem dX5_hasCompany_34 : decode cX5_hasCompany 34 = .ok (.bipush 6, 2) := by decide +kernel
theorem dX5_hasCompany_36 : decode cX5_hasCompany 36 = .ok (.invokevirtual 105, 3) := by decide +kernel
theorem dX5_hasCompany_39 : decode cX5_hasCompany 39 = .ok (.aload_n 0, 1) := by decide +kernel
theorem dX5_hasCompany_40 : decode cX5_hasCompany 40 = .ok (.iload_n 1, 1) := by decide +kernel
theorem dX5_hasCompany_41 : decode cX5_hasCompany 41 = .ok (.bipush 6, 2) := by decide +kernel
theorem dX5_hasCompany_43 : decode cX5_hasCompany 43 = .ok (.invokevirtual 105, 3) := by decide +kernel
theorem dX5_hasCompany_46 : decode cX5_hasCompany 46 = .ok (.if_icmp .ne 7, 3) := by decide +kernel
theorem dX5_hasCompany_49 : decode cX5_hasCompany 49 = .ok (.iconst 1, 1) := by decide +kernel
theorem dX5_hasCompany_50 : decode cX5_hasCompany 50 = .ok (.goto 4, 3) := by decide +kernel
theorem dX5_hasCompany_53 : decode cX5_hasCompany 53 = .ok (.iconst 0, 1) := by decide +kernel
theorem dX5_hasCompany_54 : decode cX5_hasCompany 54 = .ok (.istore_n 2, 1) := by decide +kernel
theorem dX5_hasCompany_55 : decode cX5_hasCompany 55 = .ok (.iinc 3 1, 3) := by decide +kernel
theorem dX5_hasCompany_58 : decode cX5_hasCompany 58 = .ok (.goto (-54), 3) := by decide +kernel
theorem dX5_hasCompany_61 : decode cX5_hasCompany 61 = .ok (.iload_n 2, 1) := by decide +kernel
theorem dX5_hasCompany_62 : decode cX5_hasCompany 62 = .ok (.ireturn, 1) := by decide +kernel
theorem dX5_inLining_0 : decode cX5_inLining 0 = .ok (.aload_n 0, 1) := by decide +kernel
theorem dX5_inLining_1 : decode cX5_inLining 1 = .ok (.iload_n 1, 1) := by decide +kernel
theorem dX5_inLining_2 : decode cX5_inLining 2 = .ok (.bipush 6, 2) := by decide +kernel
theorem dX5_inLining_4 : decode cX5_inLining 4 = .ok (.invokevirtual 105, 3) := by decide +kernel
theorem dX5_inLining_7 : decode cX5_inLining 7 = .ok (.aload_n 0, 1) := by decide +kernel
theorem dX5_inLining_8 : decode cX5_inLining 8 = .ok (.getfield 9, 3) := by decide +kernel
theorem dX5_inLining_11 : decode cX5_inLining 11 = .ok (.iconst 3, 1) := by decide +kernel
theorem dX5_inLining_12 : decode cX5_inLining 12 = .ok (.iaload, 1) := by decide +kernel
theorem dX5_inLining_13 : decode cX5_inLining 13 = .ok (.if_icmp .ne 56, 3) := by decide +kernel
theorem dX5_inLining_16 : decode cX5_inLining 16 = .ok (.aload_n 0, 1) := by decide +kernel
theorem dX5_inLining_17 : decode cX5_inLining 17 = .ok (.iload_n 1, 1) := by decide +kernel
theorem dX5_inLining_18 : decode cX5_inLining 18 = .ok (.invokevirtual 117, 3) := by decide +kernel
theorem dX5_inLining_21 : decode cX5_inLining 21 = .ok (.aload_n 0, 1) := by decide +kernel
theorem dX5_inLining_22 : decode cX5_inLining 22 = .ok (.getfield 9, 3) := by decide +kernel
theorem dX5_inLining_25 : decode cX5_inLining 25 = .ok (.iconst 2, 1) := by decide +kernel
theorem dX5_inLining_26 : decode cX5_inLining 26 = .ok (.iaload, 1) := by decide +kernel
theorem dX5_inLining_27 : decode cX5_inLining 27 = .ok (.if_icmp .gt 42, 3) := by decide +kernel
theorem dX5_inLining_30 : decode cX5_inLining 30 = .ok (.aload_n 0, 1) := by decide +kernel
theorem dX5_inLining_31 : decode cX5_inLining 31 = .ok (.iload_n 1, 1) := by decide +kernel
theorem dX5_inLining_32 : decode cX5_inLining 32 = .ok (.invokevirtual 154, 3) := by decide +kernel
theorem dX5_inLining_35 : decode cX5_inLining 35 = .ok (.ifCond .eq 34, 3) := by decide +kernel
theorem dX5_inLining_38 : decode cX5_inLining 38 = .ok (.aload_n 0, 1) := by decide +kernel
theorem dX5_inLining_39 : decode cX5_inLining 39 = .ok (.getfield 9, 3) := by decide +kernel
theorem dX5_inLining_42 : decode cX5_inLining 42 = .ok (.iload_n 1, 1) := by decide +kernel
theorem dX5_inLining_43 : decode cX5_inLining 43 = .ok (.iconst 4, 1) := by decide +kernel
theorem dX5_inLining_44 : decode cX5_inLining 44 = .ok (.invokestatic 82, 3) := by decide +kernel
theorem dX5_inLining_47 : decode cX5_inLining 47 = .ok (.iconst 2, 1) := by decide +kernel
theorem dX5_inLining_48 : decode cX5_inLining 48 = .ok (.iastore, 1) := by decide +kernel
theorem dX5_inLining_49 : decode cX5_inLining 49 = .ok (.aload_n 0, 1) := by decide +kernel
theorem dX5_inLining_50 : decode cX5_inLining 50 = .ok (.getfield 9, 3) := by decide +kernel
theorem dX5_inLining_53 : decode cX5_inLining 53 = .ok (.iload_n 1, 1) := by decide +kernel
theorem dX5_inLining_54 : decode cX5_inLining 54 = .ok (.bipush 7, 2) := by decide +kernel
theorem dX5_inLining_56 : decode cX5_inLining 56 = .ok (.invokestatic 82, 3) := by decide +kernel
theorem dX5_inLining_59 : decode cX5_inLining 59 = .ok (.aload_n 0, 1) := by decide +kernel
theorem dX5_inLining_60 : decode cX5_inLining 60 = .ok (.getfield 9, 3) := by decide +kernel
theorem dX5_inLining_63 : decode cX5_inLining 63 = .ok (.iconst 0, 1) := by decide +kernel
theorem dX5_inLining_64 : decode cX5_inLining 64 = .ok (.iaload, 1) := by decide +kernel
theorem dX5_inLining_65 : decode cX5_inLining 65 = .ok (.iastore, 1) := by decide +kernel
theorem dX5_inLining_66 : decode cX5_inLining 66 = .ok (.goto 32, 3) := by decide +kernel
theorem dX5_inLining_69 : decode cX5_inLining 69 = .ok (.aload_n 0, 1) := by decide +kernel
theorem dX5_inLining_70 : decode cX5_inLining 70 = .ok (.getfield 9, 3) := by decide +kernel
theorem dX5_inLining_73 : decode cX5_inLining 73 = .ok (.iload_n 1, 1) := by decide +kernel
theorem dX5_inLining_74 : decode cX5_inLining 74 = .ok (.bipush 6, 2) := by decide +kernel
theorem dX5_inLining_76 : decode cX5_inLining 76 = .ok (.invokestatic 82, 3) := by decide +kernel
theorem dX5_inLining_79 : decode cX5_inLining 79 = .ok (.bipush 7, 2) := by decide +kernel
theorem dX5_inLining_81 : decode cX5_inLining 81 = .ok (.aload_n 0, 1) := by decide +kernel
theorem dX5_inLining_82 : decode cX5_inLining 82 = .ok (.iload_n 1, 1) := by decide +kernel
theorem dX5_inLining_83 : decode cX5_inLining 83 = .ok (.bipush 6, 2) := by decide +kernel
theorem dX5_inLining_85 : decode cX5_inLining 85 = .ok (.invokevirtual 105, 3) := by decide +kernel
theorem dX5_inLining_88 : decode cX5_inLining 88 = .ok (.aload_n 0, 1) := by decide +kernel
theorem dX5_inLining_89 : decode cX5_inLining 89 = .ok (.iload_n 1, 1) := by decide +kernel
theorem dX5_inLining_90 : decode cX5_inLining 90 = .ok (.invokevirtual 123, 3) := by decide +kernel
theorem dX5_inLining_93 : decode cX5_inLining 93 = .ok (.iadd, 1) := by decide +kernel
theorem dX5_inLining_94 : decode cX5_inLining 94 = .ok (.invokestatic 147, 3) := by decide +kernel
theorem dX5_inLining_97 : decode cX5_inLining 97 = .ok (.iastore, 1) := by decide +kernel
theorem dX5_inLining_98 : decode cX5_inLining 98 = .ok (.return_, 1) := by decide +kernel
theorem dX5_stepsGo_0 : decode cX5_stepsGo 0 = .ok (.aload_n 0, 1) := by decide +kernel
theorem dX5_stepsGo_1 : decode cX5_stepsGo 1 = .ok (.iconst 2, 1) := by decide +kernel
theorem dX5_stepsGo_2 : decode cX5_stepsGo 2 = .ok (.invokevirtual 141, 3) := by decide +kernel
theorem dX5_stepsGo_5 : decode cX5_stepsGo 5 = .ok (.invokestatic 157, 3) := by decide +kernel
theorem dX5_stepsGo_8 : decode cX5_stepsGo 8 = .ok (.istore_n 2, 1) := by decide +kernel
theorem dX5_stepsGo_9 : decode cX5_stepsGo 9 = .ok (.iconst 0, 1) := by decide +kernel
theorem dX5_stepsGo_10 : decode cX5_stepsGo 10 = .ok (.istore_n 3, 1) := by decide +kernel
theorem dX5_stepsGo_11 : decode cX5_stepsGo 11 = .ok (.iload_n 3, 1) := by decide +kernel
theorem dX5_stepsGo_12 : decode cX5_stepsGo 12 = .ok (.iload_n 1, 1) := by decide +kernel
theorem dX5_stepsGo_13 : decode cX5_stepsGo 13 = .ok (.if_icmp .ge 98, 3) := by decide +kernel
theorem dX5_stepsGo_16 : decode cX5_stepsGo 16 = .ok (.aload_n 0, 1) := by decide +kernel
theorem dX5_stepsGo_17 : decode cX5_stepsGo 17 = .ok (.iconst 1, 1) := by decide +kernel
theorem dX5_stepsGo_18 : decode cX5_stepsGo 18 = .ok (.invokevirtual 141, 3) := by decide +kernel
theorem dX5_stepsGo_21 : decode cX5_stepsGo 21 = .ok (.istore 4, 2) := by decide +kernel
theorem dX5_stepsGo_23 : decode cX5_stepsGo 23 = .ok (.iconst 0, 1) := by decide +kernel
theorem dX5_stepsGo_24 : decode cX5_stepsGo 24 = .ok (.istore 5, 2) := by decide +kernel
theorem dX5_stepsGo_26 : decode cX5_stepsGo 26 = .ok (.iload 5, 2) := by decide +kernel
theorem dX5_stepsGo_28 : decode cX5_stepsGo 28 = .ok (.aload_n 0, 1) := by decide +kernel
theorem dX5_stepsGo_29 : decode cX5_stepsGo 29 = .ok (.getfield 9, 3) := by decide +kernel
theorem dX5_stepsGo_32 : decode cX5_stepsGo 32 = .ok (.iconst 4, 1) := by decide +kernel
theorem dX5_stepsGo_33 : decode cX5_stepsGo 33 = .ok (.iaload, 1) := by decide +kernel
theorem dX5_stepsGo_34 : decode cX5_stepsGo 34 = .ok (.if_icmp .ge 25, 3) := by decide +kernel
theorem dX5_stepsGo_37 : decode cX5_stepsGo 37 = .ok (.aload_n 0, 1) := by decide +kernel
theorem dX5_stepsGo_38 : decode cX5_stepsGo 38 = .ok (.iload 5, 2) := by decide +kernel
theorem dX5_stepsGo_40 : decode cX5_stepsGo 40 = .ok (.iconst 0, 1) := by decide +kernel
theorem dX5_stepsGo_41 : decode cX5_stepsGo 41 = .ok (.invokevirtual 135, 3) := by decide +kernel
theorem dX5_stepsGo_44 : decode cX5_stepsGo 44 = .ok (.ifCond .eq 9, 3) := by decide +kernel
theorem dX5_stepsGo_47 : decode cX5_stepsGo 47 = .ok (.aload_n 0, 1) := by decide +kernel
theorem dX5_stepsGo_48 : decode cX5_stepsGo 48 = .ok (.iload 5, 2) := by decide +kernel
theorem dX5_stepsGo_50 : decode cX5_stepsGo 50 = .ok (.invokevirtual 160, 3) := by decide +kernel
theorem dX5_stepsGo_53 : decode cX5_stepsGo 53 = .ok (.iinc 5 1, 3) := by decide +kernel
theorem dX5_stepsGo_56 : decode cX5_stepsGo 56 = .ok (.goto (-30), 3) := by decide +kernel
theorem dX5_stepsGo_59 : decode cX5_stepsGo 59 = .ok (.iconst 0, 1) := by decide +kernel
theorem dX5_stepsGo_60 : decode cX5_stepsGo 60 = .ok (.istore 5, 2) := by decide +kernel
theorem dX5_stepsGo_62 : decode cX5_stepsGo 62 = .ok (.iload 5, 2) := by decide +kernel
theorem dX5_stepsGo_64 : decode cX5_stepsGo 64 = .ok (.aload_n 0, 1) := by decide +kernel
theorem dX5_stepsGo_65 : decode cX5_stepsGo 65 = .ok (.getfield 9, 3) := by decide +kernel
theorem dX5_stepsGo_68 : decode cX5_stepsGo 68 = .ok (.iconst 4, 1) := by decide +kernel
theorem dX5_stepsGo_69 : decode cX5_stepsGo 69 = .ok (.iaload, 1) := by decide +kernel
theorem dX5_stepsGo_70 : decode cX5_stepsGo 70 = .ok (.if_icmp .ge 25, 3) := by decide +kernel
theorem dX5_stepsGo_73 : decode cX5_stepsGo 73 = .ok (.iload 4, 2) := by decide +kernel
theorem dX5_stepsGo_75 : decode cX5_stepsGo 75 = .ok (.iload 5, 2) := by decide +kernel
theorem dX5_stepsGo_77 : decode cX5_stepsGo 77 = .ok (.invokestatic 138, 3) := by decide +kernel
theorem dX5_stepsGo_80 : decode cX5_stepsGo 80 = .ok (.ifCond .eq 9, 3) := by decide +kernel
theorem dX5_stepsGo_83 : decode cX5_stepsGo 83 = .ok (.aload_n 0, 1) := by decide +kernel
theorem dX5_stepsGo_84 : decode cX5_stepsGo 84 = .ok (.iload 5, 2) := by decide +kernel
theorem dX5_stepsGo_86 : decode cX5_stepsGo 86 = .ok (.invokevirtual 163, 3) := by decide +kernel
theorem dX5_stepsGo_89 : decode cX5_stepsGo 89 = .ok (.iinc 5 1, 3) := by decide +kernel
theorem dX5_stepsGo_92 : decode cX5_stepsGo 92 = .ok (.goto (-30), 3) := by decide +kernel
theorem dX5_stepsGo_95 : decode cX5_stepsGo 95 = .ok (.aload_n 0, 1) := by decide +kernel
theorem dX5_stepsGo_96 : decode cX5_stepsGo 96 = .ok (.getfield 9, 3) := by decide +kernel
theorem dX5_stepsGo_99 : decode cX5_stepsGo 99 = .ok (.iconst 0, 1) := by decide +kernel
theorem dX5_stepsGo_100 : decode cX5_stepsGo 100 = .ok (.dup2, 1) := by decide +kernel
theorem dX5_stepsGo_101 : decode cX5_stepsGo 101 = .ok (.iaload, 1) := by decide +kernel
theorem dX5_stepsGo_102 : decode cX5_stepsGo 102 = .ok (.iconst 1, 1) := by decide +kernel
theorem dX5_stepsGo_103 : decode cX5_stepsGo 103 = .ok (.iadd, 1) := by decide +kernel
theorem dX5_stepsGo_104 : decode cX5_stepsGo 104 = .ok (.iastore, 1) := by decide +kernel
theorem dX5_stepsGo_105 : decode cX5_stepsGo 105 = .ok (.iinc 3 1, 3) := by decide +kernel
theorem dX5_stepsGo_108 : decode cX5_stepsGo 108 = .ok (.goto (-97), 3) := by decide +kernel
theorem dX5_stepsGo_111 : decode cX5_stepsGo 111 = .ok (.aload_n 0, 1) := by decide +kernel
theorem dX5_stepsGo_112 : decode cX5_stepsGo 112 = .ok (.iconst 2, 1) := by decide +kernel
theorem dX5_stepsGo_113 : decode cX5_stepsGo 113 = .ok (.invokevirtual 141, 3) := by decide +kernel
theorem dX5_stepsGo_116 : decode cX5_stepsGo 116 = .ok (.invokestatic 157, 3) := by decide +kernel
theorem dX5_stepsGo_119 : decode cX5_stepsGo 119 = .ok (.iload_n 2, 1) := by decide +kernel
theorem dX5_stepsGo_120 : decode cX5_stepsGo 120 = .ok (.isub, 1) := by decide +kernel
theorem dX5_stepsGo_121 : decode cX5_stepsGo 121 = .ok (.ireturn, 1) := by decide +kernel
theorem dX5_isTooLate_0 : decode cX5_isTooLate 0 = .ok (.aload_n 0, 1) := by decide +kernel
theorem dX5_isTooLate_1 : decode cX5_isTooLate 1 = .ok (.getfield 9, 3) := by decide +kernel
theorem dX5_isTooLate_4 : decode cX5_isTooLate 4 = .ok (.iconst 0, 1) := by decide +kernel
theorem dX5_isTooLate_5 : decode cX5_isTooLate 5 = .ok (.iaload, 1) := by decide +kernel
theorem dX5_isTooLate_6 : decode cX5_isTooLate 6 = .ok (.iload_n 1, 1) := by decide +kernel
theorem dX5_isTooLate_7 : decode cX5_isTooLate 7 = .ok (.iadd, 1) := by decide +kernel
theorem dX5_isTooLate_8 : decode cX5_isTooLate 8 = .ok (.sipush 9999, 3) := by decide +kernel
theorem dX5_isTooLate_11 : decode cX5_isTooLate 11 = .ok (.if_icmp .le 7, 3) := by decide +kernel
theorem dX5_isTooLate_14 : decode cX5_isTooLate 14 = .ok (.iconst 1, 1) := by decide +kernel
theorem dX5_isTooLate_15 : decode cX5_isTooLate 15 = .ok (.goto 4, 3) := by decide +kernel
theorem dX5_isTooLate_18 : decode cX5_isTooLate 18 = .ok (.iconst 0, 1) := by decide +kernel
theorem dX5_isTooLate_19 : decode cX5_isTooLate 19 = .ok (.ireturn, 1) := by decide +kernel
theorem dX5_steps_0 : decode cX5_steps 0 = .ok (.iload_n 1, 1) := by decide +kernel
theorem dX5_steps_1 : decode cX5_steps 1 = .ok (.iconst 1, 1) := by decide +kernel
theorem dX5_steps_2 : decode cX5_steps 2 = .ok (.bipush 100, 2) := by decide +kernel
theorem dX5_steps_4 : decode cX5_steps 4 = .ok (.invokestatic 78, 3) := by decide +kernel
theorem dX5_steps_7 : decode cX5_steps 7 = .ok (.ifCond .ne 10, 3) := by decide +kernel
theorem dX5_steps_10 : decode cX5_steps 10 = .ok (.aload_n 0, 1) := by decide +kernel
theorem dX5_steps_11 : decode cX5_steps 11 = .ok (.ldc 73, 2) := by decide +kernel
theorem dX5_steps_13 : decode cX5_steps 13 = .ok (.invokevirtual 93, 3) := by decide +kernel
theorem dX5_steps_16 : decode cX5_steps 16 = .ok (.ireturn, 1) := by decide +kernel
theorem dX5_steps_17 : decode cX5_steps 17 = .ok (.aload_n 0, 1) := by decide +kernel
theorem dX5_steps_18 : decode cX5_steps 18 = .ok (.iload_n 1, 1) := by decide +kernel
theorem dX5_steps_19 : decode cX5_steps 19 = .ok (.invokevirtual 166, 3) := by decide +kernel
theorem dX5_steps_22 : decode cX5_steps 22 = .ok (.ifCond .eq 12, 3) := by decide +kernel
theorem dX5_steps_25 : decode cX5_steps 25 = .ok (.aload_n 0, 1) := by decide +kernel
theorem dX5_steps_26 : decode cX5_steps 26 = .ok (.ldc 169, 2) := by decide +kernel
theorem dX5_steps_28 : decode cX5_steps 28 = .ok (.invokevirtual 93, 3) := by decide +kernel
theorem dX5_steps_31 : decode cX5_steps 31 = .ok (.goto 8, 3) := by decide +kernel
theorem dX5_steps_34 : decode cX5_steps 34 = .ok (.aload_n 0, 1) := by decide +kernel
theorem dX5_steps_35 : decode cX5_steps 35 = .ok (.iload_n 1, 1) := by decide +kernel
theorem dX5_steps_36 : decode cX5_steps 36 = .ok (.invokevirtual 170, 3) := by decide +kernel
theorem dX5_steps_39 : decode cX5_steps 39 = .ok (.ireturn, 1) := by decide +kernel
theorem dX5_clinks_0 : decode cX5_clinks 0 = .ok (.iconst 0, 1) := by decide +kernel
theorem dX5_clinks_1 : decode cX5_clinks 1 = .ok (.istore_n 1, 1) := by decide +kernel
theorem dX5_clinks_2 : decode cX5_clinks 2 = .ok (.iconst 0, 1) := by decide +kernel
theorem dX5_clinks_3 : decode cX5_clinks 3 = .ok (.istore_n 2, 1) := by decide +kernel
theorem dX5_clinks_4 : decode cX5_clinks 4 = .ok (.iload_n 2, 1) := by decide +kernel
theorem dX5_clinks_5 : decode cX5_clinks 5 = .ok (.aload_n 0, 1) := by decide +kernel
theorem dX5_clinks_6 : decode cX5_clinks 6 = .ok (.getfield 9, 3) := by decide +kernel
theorem dX5_clinks_9 : decode cX5_clinks 9 = .ok (.iconst 4, 1) := by decide +kernel
theorem dX5_clinks_10 : decode cX5_clinks 10 = .ok (.iaload, 1) := by decide +kernel
theorem dX5_clinks_11 : decode cX5_clinks 11 = .ok (.if_icmp .ge 65, 3) := by decide +kernel
theorem dX5_clinks_14 : decode cX5_clinks 14 = .ok (.iconst 0, 1) := by decide +kernel
theorem dX5_clinks_15 : decode cX5_clinks 15 = .ok (.istore_n 3, 1) := by decide +kernel
theorem dX5_clinks_16 : decode cX5_clinks 16 = .ok (.iload_n 3, 1) := by decide +kernel
theorem dX5_clinks_17 : decode cX5_clinks 17 = .ok (.iload_n 2, 1) := by decide +kernel
theorem dX5_clinks_18 : decode cX5_clinks 18 = .ok (.if_icmp .ge 52, 3) := by decide +kernel
theorem dX5_clinks_21 : decode cX5_clinks 21 = .ok (.iload_n 1, 1) := by decide +kernel
theorem dX5_clinks_22 : decode cX5_clinks 22 = .ok (.aload_n 0, 1) := by decide +kernel
theorem dX5_clinks_23 : decode cX5_clinks 23 = .ok (.iload_n 2, 1) := by decide +kernel
theorem dX5_clinks_24 : decode cX5_clinks 24 = .ok (.iconst 1, 1) := by decide +kernel
theorem dX5_clinks_25 : decode cX5_clinks 25 = .ok (.invokevirtual 135, 3) := by decide +kernel
theorem dX5_clinks_28 : decode cX5_clinks 28 = .ok (.ifCond .eq 33, 3) := by decide +kernel
theorem dX5_clinks_31 : decode cX5_clinks 31 = .ok (.aload_n 0, 1) := by decide +kernel
theorem dX5_clinks_32 : decode cX5_clinks 32 = .ok (.iload_n 3, 1) := by decide +kernel
theorem dX5_clinks_33 : decode cX5_clinks 33 = .ok (.iconst 1, 1) := by decide +kernel
theorem dX5_clinks_34 : decode cX5_clinks 34 = .ok (.invokevirtual 135, 3) := by decide +kernel
theorem dX5_clinks_37 : decode cX5_clinks 37 = .ok (.ifCond .eq 24, 3) := by decide +kernel
theorem dX5_clinks_40 : decode cX5_clinks 40 = .ok (.aload_n 0, 1) := by decide +kernel
theorem dX5_clinks_41 : decode cX5_clinks 41 = .ok (.iload_n 2, 1) := by decide +kernel
theorem dX5_clinks_42 : decode cX5_clinks 42 = .ok (.bipush 6, 2) := by decide +kernel
theorem dX5_clinks_44 : decode cX5_clinks 44 = .ok (.invokevirtual 105, 3) := by decide +kernel
theorem dX5_clinks_47 : decode cX5_clinks 47 = .ok (.aload_n 0, 1) := by decide +kernel
theorem dX5_clinks_48 : decode cX5_clinks 48 = .ok (.iload_n 3, 1) := by decide +kernel
theorem dX5_clinks_49 : decode cX5_clinks 49 = .ok (.bipush 6, 2) := by decide +kernel
theorem dX5_clinks_51 : decode cX5_clinks 51 = .ok (.invokevirtual 105, 3) := by decide +kernel
theorem dX5_clinks_54 : decode cX5_clinks 54 = .ok (.if_icmp .ne 7, 3) := by decide +kernel
theorem dX5_clinks_57 : decode cX5_clinks 57 = .ok (.iconst 1, 1) := by decide +kernel
theorem dX5_clinks_58 : decode cX5_clinks 58 = .ok (.goto 4, 3) := by decide +kernel
theorem dX5_clinks_61 : decode cX5_clinks 61 = .ok (.iconst 0, 1) := by decide +kernel
theorem dX5_clinks_62 : decode cX5_clinks 62 = .ok (.iadd, 1) := by decide +kernel
theorem dX5_clinks_63 : decode cX5_clinks 63 = .ok (.istore_n 1, 1) := by decide +kernel
theorem dX5_clinks_64 : decode cX5_clinks 64 = .ok (.iinc 3 1, 3) := by decide +kernel
theorem dX5_clinks_67 : decode cX5_clinks 67 = .ok (.goto (-51), 3) := by decide +kernel
theorem dX5_clinks_70 : decode cX5_clinks 70 = .ok (.iinc 2 1, 3) := by decide +kernel
theorem dX5_clinks_73 : decode cX5_clinks 73 = .ok (.goto (-69), 3) := by decide +kernel
theorem dX5_clinks_76 : decode cX5_clinks 76 = .ok (.iload_n 1, 1) := by decide +kernel
theorem dX5_clinks_77 : decode cX5_clinks 77 = .ok (.ireturn, 1) := by decide +kernel
theorem dX5_now_0 : decode cX5_now 0 = .ok (.iload_n 1, 1) := by decide +kernel
theorem dX5_now_1 : decode cX5_now 1 = .ok (.tableswitch 83 0 6 #[43, 43, 43, 43, 50, 55, 72], 43) := by decide +kernel
theorem dX5_now_44 : decode cX5_now 44 = .ok (.aload_n 0, 1) := by decide +kernel
theorem dX5_now_45 : decode cX5_now 45 = .ok (.getfield 9, 3) := by decide +kernel
theorem dX5_now_48 : decode cX5_now 48 = .ok (.iload_n 1, 1) := by decide +kernel
theorem dX5_now_49 : decode cX5_now 49 = .ok (.iaload, 1) := by decide +kernel
theorem dX5_now_50 : decode cX5_now 50 = .ok (.ireturn, 1) := by decide +kernel
theorem dX5_now_51 : decode cX5_now 51 = .ok (.aload_n 0, 1) := by decide +kernel
theorem dX5_now_52 : decode cX5_now 52 = .ok (.invokevirtual 173, 3) := by decide +kernel
theorem dX5_now_55 : decode cX5_now 55 = .ok (.ireturn, 1) := by decide +kernel
theorem dX5_now_56 : decode cX5_now 56 = .ok (.aload_n 0, 1) := by decide +kernel
theorem dX5_now_57 : decode cX5_now 57 = .ok (.aload_n 0, 1) := by decide +kernel
theorem dX5_now_58 : decode cX5_now 58 = .ok (.iconst 0, 1) := by decide +kernel
theorem dX5_now_59 : decode cX5_now 59 = .ok (.invokevirtual 141, 3) := by decide +kernel
theorem dX5_now_62 : decode cX5_now 62 = .ok (.aload_n 0, 1) := by decide +kernel
theorem dX5_now_63 : decode cX5_now 63 = .ok (.iconst 1, 1) := by decide +kernel
theorem dX5_now_64 : decode cX5_now 64 = .ok (.invokevirtual 141, 3) := by decide +kernel
theorem dX5_now_67 : decode cX5_now 67 = .ok (.ior, 1) := by decide +kernel
theorem dX5_now_68 : decode cX5_now 68 = .ok (.iconst 2, 1) := by decide +kernel
theorem dX5_now_69 : decode cX5_now 69 = .ok (.invokevirtual 144, 3) := by decide +kernel
theorem dX5_now_72 : decode cX5_now 72 = .ok (.ireturn, 1) := by decide +kernel
theorem dX5_now_73 : decode cX5_now 73 = .ok (.aload_n 0, 1) := by decide +kernel
theorem dX5_now_74 : decode cX5_now 74 = .ok (.aload_n 0, 1) := by decide +kernel
theorem dX5_now_75 : decode cX5_now 75 = .ok (.iconst 3, 1) := by decide +kernel
theorem dX5_now_76 : decode cX5_now 76 = .ok (.invokevirtual 141, 3) := by decide +kernel
theorem dX5_now_79 : decode cX5_now 79 = .ok (.iconst 2, 1) := by decide +kernel
theorem dX5_now_80 : decode cX5_now 80 = .ok (.invokevirtual 144, 3) := by decide +kernel
theorem dX5_now_83 : decode cX5_now 83 = .ok (.ireturn, 1) := by decide +kernel
theorem dX5_now_84 : decode cX5_now 84 = .ok (.aload_n 0, 1) := by decide +kernel
theorem dX5_now_85 : decode cX5_now 85 = .ok (.ldc 73, 2) := by decide +kernel
theorem dX5_now_87 : decode cX5_now 87 = .ok (.invokevirtual 93, 3) := by decide +kernel
theorem dX5_now_90 : decode cX5_now 90 = .ok (.ireturn, 1) := by decide +kernel
theorem dX5_ahead_0 : decode cX5_ahead 0 = .ok (.iload_n 1, 1) := by decide +kernel
theorem dX5_ahead_1 : decode cX5_ahead 1 = .ok (.iconst 0, 1) := by decide +kernel
theorem dX5_ahead_2 : decode cX5_ahead 2 = .ok (.bipush 100, 2) := by decide +kernel
theorem dX5_ahead_4 : decode cX5_ahead 4 = .ok (.invokestatic 78, 3) := by decide +kernel
theorem dX5_ahead_7 : decode cX5_ahead 7 = .ok (.ifCond .eq 12, 3) := by decide +kernel
theorem dX5_ahead_10 : decode cX5_ahead 10 = .ok (.iload_n 2, 1) := by decide +kernel
theorem dX5_ahead_11 : decode cX5_ahead 11 = .ok (.iconst 0, 1) := by decide +kernel
theorem dX5_ahead_12 : decode cX5_ahead 12 = .ok (.iconst 5, 1) := by decide +kernel
theorem dX5_ahead_13 : decode cX5_ahead 13 = .ok (.invokestatic 78, 3) := by decide +kernel
theorem dX5_ahead_16 : decode cX5_ahead 16 = .ok (.ifCond .ne 10, 3) := by decide +kernel
theorem dX5_ahead_19 : decode cX5_ahead 19 = .ok (.aload_n 0, 1) := by decide +kernel
theorem dX5_ahead_20 : decode cX5_ahead 20 = .ok (.ldc 73, 2) := by decide +kernel
theorem dX5_ahead_22 : decode cX5_ahead 22 = .ok (.invokevirtual 93, 3) := by decide +kernel
theorem dX5_ahead_25 : decode cX5_ahead 25 = .ok (.ireturn, 1) := by decide +kernel
theorem dX5_ahead_26 : decode cX5_ahead 26 = .ok (.aload_n 0, 1) := by decide +kernel
theorem dX5_ahead_27 : decode cX5_ahead 27 = .ok (.iload_n 1, 1) := by decide +kernel
theorem dX5_ahead_28 : decode cX5_ahead 28 = .ok (.invokevirtual 166, 3) := by decide +kernel
theorem dX5_ahead_31 : decode cX5_ahead 31 = .ok (.ifCond .eq 10, 3) := by decide +kernel
theorem dX5_ahead_34 : decode cX5_ahead 34 = .ok (.aload_n 0, 1) := by decide +kernel
theorem dX5_ahead_35 : decode cX5_ahead 35 = .ok (.ldc 169, 2) := by decide +kernel
theorem dX5_ahead_37 : decode cX5_ahead 37 = .ok (.invokevirtual 93, 3) := by decide +kernel
theorem dX5_ahead_40 : decode cX5_ahead 40 = .ok (.ireturn, 1) := by decide +kernel
theorem dX5_ahead_41 : decode cX5_ahead 41 = .ok (.aload_n 0, 1) := by decide +kernel
theorem dX5_ahead_42 : decode cX5_ahead 42 = .ok (.getfield 9, 3) := by decide +kernel
theorem dX5_ahead_45 : decode cX5_ahead 45 = .ok (.aload_n 0, 1) := by decide +kernel
theorem dX5_ahead_46 : decode cX5_ahead 46 = .ok (.getfield 16, 3) := by decide +kernel
theorem dX5_ahead_49 : decode cX5_ahead 49 = .ok (.invokestatic 74, 3) := by decide +kernel
theorem dX5_ahead_52 : decode cX5_ahead 52 = .ok (.aload_n 0, 1) := by decide +kernel
theorem dX5_ahead_53 : decode cX5_ahead 53 = .ok (.iconst 0, 1) := by decide +kernel
theorem dX5_ahead_54 : decode cX5_ahead 54 = .ok (.invokevirtual 141, 3) := by decide +kernel
theorem dX5_ahead_57 : decode cX5_ahead 57 = .ok (.istore_n 3, 1) := by decide +kernel
theorem dX5_ahead_58 : decode cX5_ahead 58 = .ok (.aload_n 0, 1) := by decide +kernel
theorem dX5_ahead_59 : decode cX5_ahead 59 = .ok (.iconst 2, 1) := by decide +kernel
theorem dX5_ahead_60 : decode cX5_ahead 60 = .ok (.invokevirtual 141, 3) := by decide +kernel
theorem dX5_ahead_63 : decode cX5_ahead 63 = .ok (.istore 4, 2) := by decide +kernel
theorem dX5_ahead_65 : decode cX5_ahead 65 = .ok (.aload_n 0, 1) := by decide +kernel
theorem dX5_ahead_66 : decode cX5_ahead 66 = .ok (.iload_n 1, 1) := by decide +kernel
theorem dX5_ahead_67 : decode cX5_ahead 67 = .ok (.invokevirtual 170, 3) := by decide +kernel
theorem dX5_ahead_70 : decode cX5_ahead 70 = .ok (.istore 5, 2) := by decide +kernel
theorem dX5_ahead_72 : decode cX5_ahead 72 = .ok (.iload_n 2, 1) := by decide +kernel
theorem dX5_ahead_73 : decode cX5_ahead 73 = .ok (.tableswitch 108 0 4 #[35, 49, 73, 84, 93], 35) := by decide +kernel
theorem dX5_ahead_108 : decode cX5_ahead 108 = .ok (.aload_n 0, 1) := by decide +kernel
theorem dX5_ahead_109 : decode cX5_ahead 109 = .ok (.iload_n 3, 1) := by decide +kernel
theorem dX5_ahead_110 : decode cX5_ahead 110 = .ok (.aload_n 0, 1) := by decide +kernel
theorem dX5_ahead_111 : decode cX5_ahead 111 = .ok (.iconst 0, 1) := by decide +kernel
theorem dX5_ahead_112 : decode cX5_ahead 112 = .ok (.invokevirtual 141, 3) := by decide +kernel
theorem dX5_ahead_115 : decode cX5_ahead 115 = .ok (.iconst (-1), 1) := by decide +kernel
theorem dX5_ahead_116 : decode cX5_ahead 116 = .ok (.ixor, 1) := by decide +kernel
theorem dX5_ahead_117 : decode cX5_ahead 117 = .ok (.iand, 1) := by decide +kernel
theorem dX5_ahead_118 : decode cX5_ahead 118 = .ok (.invokevirtual 177, 3) := by decide +kernel
theorem dX5_ahead_121 : decode cX5_ahead 121 = .ok (.ireturn, 1) := by decide +kernel
theorem dX5_ahead_122 : decode cX5_ahead 122 = .ok (.aload_n 0, 1) := by decide +kernel
theorem dX5_ahead_123 : decode cX5_ahead 123 = .ok (.iload 5, 2) := by decide +kernel
theorem dX5_ahead_125 : decode cX5_ahead 125 = .ok (.ifCond .ne 7, 3) := by decide +kernel
theorem dX5_ahead_128 : decode cX5_ahead 128 = .ok (.iconst 0, 1) := by decide +kernel
theorem dX5_ahead_129 : decode cX5_ahead 129 = .ok (.goto 13, 3) := by decide +kernel
theorem dX5_ahead_132 : decode cX5_ahead 132 = .ok (.aload_n 0, 1) := by decide +kernel
theorem dX5_ahead_133 : decode cX5_ahead 133 = .ok (.iconst 2, 1) := by decide +kernel
theorem dX5_ahead_134 : decode cX5_ahead 134 = .ok (.invokevirtual 141, 3) := by decide +kernel
theorem dX5_ahead_137 : decode cX5_ahead 137 = .ok (.iload 4, 2) := by decide +kernel
theorem dX5_ahead_139 : decode cX5_ahead 139 = .ok (.iconst (-1), 1) := by decide +kernel
theorem dX5_ahead_140 : decode cX5_ahead 140 = .ok (.ixor, 1) := by decide +kernel
theorem dX5_ahead_141 : decode cX5_ahead 141 = .ok (.iand, 1) := by decide +kernel
theorem dX5_ahead_142 : decode cX5_ahead 142 = .ok (.invokevirtual 177, 3) := by decide +kernel
theorem dX5_ahead_145 : decode cX5_ahead 145 = .ok (.ireturn, 1) := by decide +kernel
theorem dX5_ahead_146 : decode cX5_ahead 146 = .ok (.aload_n 0, 1) := by decide +kernel
theorem dX5_ahead_147 : decode cX5_ahead 147 = .ok (.aload_n 0, 1) := by decide +kernel
theorem dX5_ahead_148 : decode cX5_ahead 148 = .ok (.getfield 9, 3) := by decide +kernel
theorem dX5_ahead_151 : decode cX5_ahead 151 = .ok (.iconst 1, 1) := by decide +kernel
theorem dX5_ahead_152 : decode cX5_ahead 152 = .ok (.iaload, 1) := by decide +kernel
theorem dX5_ahead_153 : decode cX5_ahead 153 = .ok (.invokevirtual 177, 3) := by decide +kernel
theorem dX5_ahead_156 : decode cX5_ahead 156 = .ok (.ireturn, 1) := by decide +kernel
theorem dX5_ahead_157 : decode cX5_ahead 157 = .ok (.aload_n 0, 1) := by decide +kernel
theorem dX5_ahead_158 : decode cX5_ahead 158 = .ok (.aload_n 0, 1) := by decide +kernel
theorem dX5_ahead_159 : decode cX5_ahead 159 = .ok (.invokevirtual 173, 3) := by decide +kernel
theorem dX5_ahead_162 : decode cX5_ahead 162 = .ok (.invokevirtual 177, 3) := by decide +kernel
theorem dX5_ahead_165 : decode cX5_ahead 165 = .ok (.ireturn, 1) := by decide +kernel
theorem dX5_ahead_166 : decode cX5_ahead 166 = .ok (.aload_n 0, 1) := by decide +kernel
theorem dX5_ahead_167 : decode cX5_ahead 167 = .ok (.aload_n 0, 1) := by decide +kernel
theorem dX5_ahead_168 : decode cX5_ahead 168 = .ok (.aload_n 0, 1) := by decide +kernel
theorem dX5_ahead_169 : decode cX5_ahead 169 = .ok (.iconst 2, 1) := by decide +kernel
theorem dX5_ahead_170 : decode cX5_ahead 170 = .ok (.invokevirtual 141, 3) := by decide +kernel
theorem dX5_ahead_173 : decode cX5_ahead 173 = .ok (.iconst 3, 1) := by decide +kernel
theorem dX5_ahead_174 : decode cX5_ahead 174 = .ok (.invokevirtual 144, 3) := by decide +kernel
theorem dX5_ahead_177 : decode cX5_ahead 177 = .ok (.invokevirtual 177, 3) := by decide +kernel
theorem dX5_ahead_180 : decode cX5_ahead 180 = .ok (.ireturn, 1) := by decide +kernel
theorem dX5_ahead_181 : decode cX5_ahead 181 = .ok (.aload_n 0, 1) := by decide +kernel
theorem dX5_ahead_182 : decode cX5_ahead 182 = .ok (.aload_n 0, 1) := by decide +kernel
theorem dX5_ahead_183 : decode cX5_ahead 183 = .ok (.iconst 1, 1) := by decide +kernel
theorem dX5_ahead_184 : decode cX5_ahead 184 = .ok (.invokevirtual 141, 3) := by decide +kernel
theorem dX5_ahead_187 : decode cX5_ahead 187 = .ok (.invokevirtual 177, 3) := by decide +kernel
theorem dX5_ahead_190 : decode cX5_ahead 190 = .ok (.ireturn, 1) := by decide +kernel
theorem dX5_isLate_0 : decode cX5_isLate 0 = .ok (.aload_n 0, 1) := by decide +kernel
theorem dX5_isLate_1 : decode cX5_isLate 1 = .ok (.getfield 9, 3) := by decide +kernel
theorem dX5_isLate_4 : decode cX5_isLate 4 = .ok (.iconst 0, 1) := by decide +kernel
theorem dX5_isLate_5 : decode cX5_isLate 5 = .ok (.iaload, 1) := by decide +kernel
theorem dX5_isLate_6 : decode cX5_isLate 6 = .ok (.sipush 9899, 3) := by decide +kernel
theorem dX5_isLate_9 : decode cX5_isLate 9 = .ok (.if_icmp .le 7, 3) := by decide +kernel
theorem dX5_isLate_12 : decode cX5_isLate 12 = .ok (.iconst 1, 1) := by decide +kernel
theorem dX5_isLate_13 : decode cX5_isLate 13 = .ok (.goto 4, 3) := by decide +kernel
theorem dX5_isLate_16 : decode cX5_isLate 16 = .ok (.iconst 0, 1) := by decide +kernel
theorem dX5_isLate_17 : decode cX5_isLate 17 = .ok (.ireturn, 1) := by decide +kernel
theorem dX5_till_0 : decode cX5_till 0 = .ok (.aload_n 0, 1) := by decide +kernel
theorem dX5_till_1 : decode cX5_till 1 = .ok (.getfield 9, 3) := by decide +kernel
theorem dX5_till_4 : decode cX5_till 4 = .ok (.aload_n 0, 1) := by decide +kernel
theorem dX5_till_5 : decode cX5_till 5 = .ok (.getfield 16, 3) := by decide +kernel
theorem dX5_till_8 : decode cX5_till 8 = .ok (.invokestatic 74, 3) := by decide +kernel
theorem dX5_till_11 : decode cX5_till 11 = .ok (.iconst 0, 1) := by decide +kernel
theorem dX5_till_12 : decode cX5_till 12 = .ok (.istore_n 3, 1) := by decide +kernel
theorem dX5_till_13 : decode cX5_till 13 = .ok (.iconst 0, 1) := by decide +kernel
theorem dX5_till_14 : decode cX5_till 14 = .ok (.istore 4, 2) := by decide +kernel
theorem dX5_till_16 : decode cX5_till 16 = .ok (.iload_n 3, 1) := by decide +kernel
theorem dX5_till_17 : decode cX5_till 17 = .ok (.bipush 100, 2) := by decide +kernel
theorem dX5_till_19 : decode cX5_till 19 = .ok (.if_icmp .gt 74, 3) := by decide +kernel
theorem dX5_till_22 : decode cX5_till 22 = .ok (.iload 4, 2) := by decide +kernel
theorem dX5_till_24 : decode cX5_till 24 = .ok (.ifCond .ne 69, 3) := by decide +kernel
theorem dX5_till_27 : decode cX5_till 27 = .ok (.iload_n 2, 1) := by decide +kernel
theorem dX5_till_28 : decode cX5_till 28 = .ok (.ifCond .eq 12, 3) := by decide +kernel
theorem dX5_till_31 : decode cX5_till 31 = .ok (.aload_n 0, 1) := by decide +kernel
theorem dX5_till_32 : decode cX5_till 32 = .ok (.iload_n 1, 1) := by decide +kernel
theorem dX5_till_33 : decode cX5_till 33 = .ok (.iconst 2, 1) := by decide +kernel
theorem dX5_till_34 : decode cX5_till 34 = .ok (.invokevirtual 135, 3) := by decide +kernel
theorem dX5_till_37 : decode cX5_till 37 = .ok (.goto 17, 3) := by decide +kernel
theorem dX5_till_40 : decode cX5_till 40 = .ok (.aload_n 0, 1) := by decide +kernel
theorem dX5_till_41 : decode cX5_till 41 = .ok (.iload_n 1, 1) := by decide +kernel
theorem dX5_till_42 : decode cX5_till 42 = .ok (.iconst 0, 1) := by decide +kernel
theorem dX5_till_43 : decode cX5_till 43 = .ok (.invokevirtual 135, 3) := by decide +kernel
theorem dX5_till_46 : decode cX5_till 46 = .ok (.ifCond .ne 7, 3) := by decide +kernel
theorem dX5_till_49 : decode cX5_till 49 = .ok (.iconst 1, 1) := by decide +kernel
theorem dX5_till_50 : decode cX5_till 50 = .ok (.goto 4, 3) := by decide +kernel
theorem dX5_till_53 : decode cX5_till 53 = .ok (.iconst 0, 1) := by decide +kernel
theorem dX5_till_54 : decode cX5_till 54 = .ok (.istore 4, 2) := by decide +kernel
theorem dX5_till_56 : decode cX5_till 56 = .ok (.iload 4, 2) := by decide +kernel
theorem dX5_till_58 : decode cX5_till 58 = .ok (.ifCond .eq 7, 3) := by decide +kernel
theorem dX5_till_61 : decode cX5_till 61 = .ok (.iconst 0, 1) := by decide +kernel
theorem dX5_till_62 : decode cX5_till 62 = .ok (.goto 8, 3) := by decide +kernel
theorem dX5_till_65 : decode cX5_till 65 = .ok (.aload_n 0, 1) := by decide +kernel
theorem dX5_till_66 : decode cX5_till 66 = .ok (.iconst 1, 1) := by decide +kernel
theorem dX5_till_67 : decode cX5_till 67 = .ok (.invokevirtual 170, 3) := by decide +kernel
theorem dX5_till_70 : decode cX5_till 70 = .ok (.istore 5, 2) := by decide +kernel
theorem dX5_till_72 : decode cX5_till 72 = .ok (.iload_n 3, 1) := by decide +kernel
theorem dX5_till_73 : decode cX5_till 73 = .ok (.iload 4, 2) := by decide +kernel
theorem dX5_till_75 : decode cX5_till 75 = .ok (.ifCond .ne 8, 3) := by decide +kernel
theorem dX5_till_78 : decode cX5_till 78 = .ok (.iload 5, 2) := by decide +kernel
theorem dX5_till_80 : decode cX5_till 80 = .ok (.ifCond .ge 7, 3) := by decide +kernel
theorem dX5_till_83 : decode cX5_till 83 = .ok (.iconst 0, 1) := by decide +kernel
theorem dX5_till_84 : decode cX5_till 84 = .ok (.goto 4, 3) := by decide +kernel
theorem dX5_till_87 : decode cX5_till 87 = .ok (.iconst 1, 1) := by decide +kernel
theorem dX5_till_88 : decode cX5_till 88 = .ok (.iadd, 1) := by decide +kernel
theorem dX5_till_89 : decode cX5_till 89 = .ok (.istore_n 3, 1) := by decide +kernel
theorem dX5_till_90 : decode cX5_till 90 = .ok (.goto (-74), 3) := by decide +kernel
theorem dX5_till_93 : decode cX5_till 93 = .ok (.aload_n 0, 1) := by decide +kernel
theorem dX5_till_94 : decode cX5_till 94 = .ok (.iload_n 3, 1) := by decide +kernel
theorem dX5_till_95 : decode cX5_till 95 = .ok (.invokevirtual 177, 3) := by decide +kernel
theorem dX5_till_98 : decode cX5_till 98 = .ok (.ireturn, 1) := by decide +kernel
theorem dX5_tillTold_0 : decode cX5_tillTold 0 = .ok (.aload_n 0, 1) := by decide +kernel
theorem dX5_tillTold_1 : decode cX5_tillTold 1 = .ok (.iload_n 1, 1) := by decide +kernel
theorem dX5_tillTold_2 : decode cX5_tillTold 2 = .ok (.invokevirtual 120, 3) := by decide +kernel
theorem dX5_tillTold_5 : decode cX5_tillTold 5 = .ok (.ifCond .ne 10, 3) := by decide +kernel
theorem dX5_tillTold_8 : decode cX5_tillTold 8 = .ok (.aload_n 0, 1) := by decide +kernel
theorem dX5_tillTold_9 : decode cX5_tillTold 9 = .ok (.ldc 73, 2) := by decide +kernel
theorem dX5_tillTold_11 : decode cX5_tillTold 11 = .ok (.invokevirtual 93, 3) := by decide +kernel
theorem dX5_tillTold_14 : decode cX5_tillTold 14 = .ok (.ireturn, 1) := by decide +kernel
theorem dX5_tillTold_15 : decode cX5_tillTold 15 = .ok (.aload_n 0, 1) := by decide +kernel
theorem dX5_tillTold_16 : decode cX5_tillTold 16 = .ok (.invokevirtual 180, 3) := by decide +kernel
theorem dX5_tillTold_19 : decode cX5_tillTold 19 = .ok (.ifCond .eq 10, 3) := by decide +kernel
theorem dX5_tillTold_22 : decode cX5_tillTold 22 = .ok (.aload_n 0, 1) := by decide +kernel
theorem dX5_tillTold_23 : decode cX5_tillTold 23 = .ok (.ldc 169, 2) := by decide +kernel
theorem dX5_tillTold_25 : decode cX5_tillTold 25 = .ok (.invokevirtual 93, 3) := by decide +kernel
theorem dX5_tillTold_28 : decode cX5_tillTold 28 = .ok (.ireturn, 1) := by decide +kernel
theorem dX5_tillTold_29 : decode cX5_tillTold 29 = .ok (.aload_n 0, 1) := by decide +kernel
theorem dX5_tillTold_30 : decode cX5_tillTold 30 = .ok (.iload_n 1, 1) := by decide +kernel
theorem dX5_tillTold_31 : decode cX5_tillTold 31 = .ok (.iload_n 2, 1) := by decide +kernel
theorem dX5_tillTold_32 : decode cX5_tillTold 32 = .ok (.invokevirtual 184, 3) := by decide +kernel
theorem dX5_tillTold_35 : decode cX5_tillTold 35 = .ok (.istore_n 3, 1) := by decide +kernel
theorem dX5_tillTold_36 : decode cX5_tillTold 36 = .ok (.iload_n 3, 1) := by decide +kernel
theorem dX5_tillTold_37 : decode cX5_tillTold 37 = .ok (.bipush 100, 2) := by decide +kernel
theorem dX5_tillTold_39 : decode cX5_tillTold 39 = .ok (.if_icmp .le 12, 3) := by decide +kernel
theorem dX5_tillTold_42 : decode cX5_tillTold 42 = .ok (.aload_n 0, 1) := by decide +kernel
theorem dX5_tillTold_43 : decode cX5_tillTold 43 = .ok (.ldc 188, 2) := by decide +kernel
theorem dX5_tillTold_45 : decode cX5_tillTold 45 = .ok (.invokevirtual 93, 3) := by decide +kernel
theorem dX5_tillTold_48 : decode cX5_tillTold 48 = .ok (.goto 4, 3) := by decide +kernel
theorem dX5_tillTold_51 : decode cX5_tillTold 51 = .ok (.iload_n 3, 1) := by decide +kernel
theorem dX5_tillTold_52 : decode cX5_tillTold 52 = .ok (.ireturn, 1) := by decide +kernel
theorem dX5_when_0 : decode cX5_when 0 = .ok (.aload_n 0, 1) := by decide +kernel
theorem dX5_when_1 : decode cX5_when 1 = .ok (.iload_n 1, 1) := by decide +kernel
theorem dX5_when_2 : decode cX5_when 2 = .ok (.iconst 0, 1) := by decide +kernel
theorem dX5_when_3 : decode cX5_when 3 = .ok (.invokevirtual 189, 3) := by decide +kernel
theorem dX5_when_6 : decode cX5_when 6 = .ok (.ireturn, 1) := by decide +kernel
theorem dX5_falls_0 : decode cX5_falls 0 = .ok (.aload_n 0, 1) := by decide +kernel
theorem dX5_falls_1 : decode cX5_falls 1 = .ok (.iload_n 1, 1) := by decide +kernel
theorem dX5_falls_2 : decode cX5_falls 2 = .ok (.iconst 1, 1) := by decide +kernel
theorem dX5_falls_3 : decode cX5_falls 3 = .ok (.invokevirtual 189, 3) := by decide +kernel
theorem dX5_falls_6 : decode cX5_falls 6 = .ok (.ireturn, 1) := by decide +kernel
theorem dX5_first_0 : decode cX5_first 0 = .ok (.aload_n 0, 1) := by decide +kernel
theorem dX5_first_1 : decode cX5_first 1 = .ok (.invokevirtual 180, 3) := by decide +kernel
theorem dX5_first_4 : decode cX5_first 4 = .ok (.ifCond .eq 10, 3) := by decide +kernel
theorem dX5_first_7 : decode cX5_first 7 = .ok (.aload_n 0, 1) := by decide +kernel
theorem dX5_first_8 : decode cX5_first 8 = .ok (.ldc 169, 2) := by decide +kernel
theorem dX5_first_10 : decode cX5_first 10 = .ok (.invokevirtual 93, 3) := by decide +kernel
theorem dX5_first_13 : decode cX5_first 13 = .ok (.ireturn, 1) := by decide +kernel
theorem dX5_first_14 : decode cX5_first 14 = .ok (.iconst (-1), 1) := by decide +kernel
theorem dX5_first_15 : decode cX5_first 15 = .ok (.istore_n 1, 1) := by decide +kernel
theorem dX5_first_16 : decode cX5_first 16 = .ok (.bipush 101, 2) := by decide +kernel
theorem dX5_first_18 : decode cX5_first 18 = .ok (.istore_n 2, 1) := by decide +kernel
theorem dX5_first_19 : decode cX5_first 19 = .ok (.iconst 0, 1) := by decide +kernel
theorem dX5_first_20 : decode cX5_first 20 = .ok (.istore_n 3, 1) := by decide +kernel
theorem dX5_first_21 : decode cX5_first 21 = .ok (.iload_n 3, 1) := by decide +kernel
theorem dX5_first_22 : decode cX5_first 22 = .ok (.aload_n 0, 1) := by decide +kernel
theorem dX5_first_23 : decode cX5_first 23 = .ok (.getfield 9, 3) := by decide +kernel
theorem dX5_first_26 : decode cX5_first 26 = .ok (.iconst 4, 1) := by decide +kernel
theorem dX5_first_27 : decode cX5_first 27 = .ok (.iaload, 1) := by decide +kernel
theorem dX5_first_28 : decode cX5_first 28 = .ok (.if_icmp .ge 50, 3) := by decide +kernel
theorem dX5_first_31 : decode cX5_first 31 = .ok (.aload_n 0, 1) := by decide +kernel
theorem dX5_first_32 : decode cX5_first 32 = .ok (.iload_n 3, 1) := by decide +kernel
theorem dX5_first_33 : decode cX5_first 33 = .ok (.iconst 0, 1) := by decide +kernel
theorem dX5_first_34 : decode cX5_first 34 = .ok (.invokevirtual 135, 3) := by decide +kernel
