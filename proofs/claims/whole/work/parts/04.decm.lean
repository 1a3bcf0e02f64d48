theorem dX7_isIn_0 : decode cX7_isIn 0 = .ok (.lload_n 0, 1) := by decide +kernel
theorem dX7_isIn_1 : decode cX7_isIn 1 = .ok (.lload_n 2, 1) := by decide +kernel
theorem dX7_isIn_2 : decode cX7_isIn 2 = .ok (.lcmp, 1) := by decide +kernel
theorem dX7_isIn_3 : decode cX7_isIn 3 = .ok (.ifCond .lt 14, 3) := by decide +kernel
theorem dX7_isIn_6 : decode cX7_isIn 6 = .ok (.lload_n 0, 1) := by decide +kernel
theorem dX7_isIn_7 : decode cX7_isIn 7 = .ok (.lload 4, 2) := by decide +kernel
theorem dX7_isIn_9 : decode cX7_isIn 9 = .ok (.lcmp, 1) := by decide +kernel
theorem dX7_isIn_10 : decode cX7_isIn 10 = .ok (.ifCond .gt 7, 3) := by decide +kernel
theorem dX7_isIn_13 : decode cX7_isIn 13 = .ok (.iconst 1, 1) := by decide +kernel
theorem dX7_isIn_14 : decode cX7_isIn 14 = .ok (.goto 4, 3) := by decide +kernel
theorem dX7_isIn_17 : decode cX7_isIn 17 = .ok (.iconst 0, 1) := by decide +kernel
theorem dX7_isIn_18 : decode cX7_isIn 18 = .ok (.ireturn, 1) := by decide +kernel
theorem dX7_init_0 : decode cX7_init 0 = .ok (.aload_n 0, 1) := by decide +kernel
theorem dX7_init_1 : decode cX7_init 1 = .ok (.invokespecial 7, 3) := by decide +kernel
theorem dX7_init_4 : decode cX7_init 4 = .ok (.aload_n 0, 1) := by decide +kernel
theorem dX7_init_5 : decode cX7_init 5 = .ok (.bipush 12, 2) := by decide +kernel
theorem dX7_init_7 : decode cX7_init 7 = .ok (.newarray .int, 2) := by decide +kernel
theorem dX7_init_9 : decode cX7_init 9 = .ok (.putfield 13, 3) := by decide +kernel
theorem dX7_init_12 : decode cX7_init 12 = .ok (.aload_n 0, 1) := by decide +kernel
theorem dX7_init_13 : decode cX7_init 13 = .ok (.bipush 12, 2) := by decide +kernel
theorem dX7_init_15 : decode cX7_init 15 = .ok (.newarray .int, 2) := by decide +kernel
theorem dX7_init_17 : decode cX7_init 17 = .ok (.putfield 17, 3) := by decide +kernel
theorem dX7_init_20 : decode cX7_init 20 = .ok (.aload_n 0, 1) := by decide +kernel
theorem dX7_init_21 : decode cX7_init 21 = .ok (.bipush 12, 2) := by decide +kernel
theorem dX7_init_23 : decode cX7_init 23 = .ok (.newarray .int, 2) := by decide +kernel
theorem dX7_init_25 : decode cX7_init 25 = .ok (.putfield 20, 3) := by decide +kernel
theorem dX7_init_28 : decode cX7_init 28 = .ok (.aload_n 0, 1) := by decide +kernel
theorem dX7_init_29 : decode cX7_init 29 = .ok (.bipush 12, 2) := by decide +kernel
theorem dX7_init_31 : decode cX7_init 31 = .ok (.newarray .int, 2) := by decide +kernel
theorem dX7_init_33 : decode cX7_init 33 = .ok (.putfield 23, 3) := by decide +kernel
theorem dX7_init_36 : decode cX7_init 36 = .ok (.aload_n 0, 1) := by decide +kernel
theorem dX7_init_37 : decode cX7_init 37 = .ok (.bipush 12, 2) := by decide +kernel
theorem dX7_init_39 : decode cX7_init 39 = .ok (.newarray .int, 2) := by decide +kernel
theorem dX7_init_41 : decode cX7_init 41 = .ok (.putfield 26, 3) := by decide +kernel
theorem dX7_init_44 : decode cX7_init 44 = .ok (.aload_n 0, 1) := by decide +kernel
theorem dX7_init_45 : decode cX7_init 45 = .ok (.sipush 200, 3) := by decide +kernel
theorem dX7_init_48 : decode cX7_init 48 = .ok (.newarray .int, 2) := by decide +kernel
theorem dX7_init_50 : decode cX7_init 50 = .ok (.putfield 29, 3) := by decide +kernel
theorem dX7_init_53 : decode cX7_init 53 = .ok (.aload_n 0, 1) := by decide +kernel
theorem dX7_init_54 : decode cX7_init 54 = .ok (.sipush 200, 3) := by decide +kernel
theorem dX7_init_57 : decode cX7_init 57 = .ok (.newarray .int, 2) := by decide +kernel
theorem dX7_init_59 : decode cX7_init 59 = .ok (.putfield 32, 3) := by decide +kernel
theorem dX7_init_62 : decode cX7_init 62 = .ok (.aload_n 0, 1) := by decide +kernel
theorem dX7_init_63 : decode cX7_init 63 = .ok (.sipush 200, 3) := by decide +kernel
theorem dX7_init_66 : decode cX7_init 66 = .ok (.newarray .boolean, 2) := by decide +kernel
theorem dX7_init_68 : decode cX7_init 68 = .ok (.putfield 35, 3) := by decide +kernel
theorem dX7_init_71 : decode cX7_init 71 = .ok (.aload_n 0, 1) := by decide +kernel
theorem dX7_init_72 : decode cX7_init 72 = .ok (.sipush 300, 3) := by decide +kernel
theorem dX7_init_75 : decode cX7_init 75 = .ok (.newarray .int, 2) := by decide +kernel
theorem dX7_init_77 : decode cX7_init 77 = .ok (.putfield 39, 3) := by decide +kernel
theorem dX7_init_80 : decode cX7_init 80 = .ok (.aload_n 0, 1) := by decide +kernel
theorem dX7_init_81 : decode cX7_init 81 = .ok (.sipush 300, 3) := by decide +kernel
theorem dX7_init_84 : decode cX7_init 84 = .ok (.newarray .int, 2) := by decide +kernel
theorem dX7_init_86 : decode cX7_init 86 = .ok (.putfield 42, 3) := by decide +kernel
theorem dX7_init_89 : decode cX7_init 89 = .ok (.aload_n 0, 1) := by decide +kernel
theorem dX7_init_90 : decode cX7_init 90 = .ok (.sipush 300, 3) := by decide +kernel
theorem dX7_init_93 : decode cX7_init 93 = .ok (.newarray .int, 2) := by decide +kernel
theorem dX7_init_95 : decode cX7_init 95 = .ok (.putfield 45, 3) := by decide +kernel
theorem dX7_init_98 : decode cX7_init 98 = .ok (.aload_n 0, 1) := by decide +kernel
theorem dX7_init_99 : decode cX7_init 99 = .ok (.bipush 52, 2) := by decide +kernel
theorem dX7_init_101 : decode cX7_init 101 = .ok (.newarray .int, 2) := by decide +kernel
theorem dX7_init_103 : decode cX7_init 103 = .ok (.putfield 48, 3) := by decide +kernel
theorem dX7_init_106 : decode cX7_init 106 = .ok (.aload_n 0, 1) := by decide +kernel
theorem dX7_init_107 : decode cX7_init 107 = .ok (.sipush 300, 3) := by decide +kernel
theorem dX7_init_110 : decode cX7_init 110 = .ok (.newarray .int, 2) := by decide +kernel
theorem dX7_init_112 : decode cX7_init 112 = .ok (.putfield 51, 3) := by decide +kernel
theorem dX7_init_115 : decode cX7_init 115 = .ok (.aload_n 0, 1) := by decide +kernel
theorem dX7_init_116 : decode cX7_init 116 = .ok (.sipush 500, 3) := by decide +kernel
theorem dX7_init_119 : decode cX7_init 119 = .ok (.newarray .int, 2) := by decide +kernel
theorem dX7_init_121 : decode cX7_init 121 = .ok (.putfield 54, 3) := by decide +kernel
theorem dX7_init_124 : decode cX7_init 124 = .ok (.aload_n 0, 1) := by decide +kernel
theorem dX7_init_125 : decode cX7_init 125 = .ok (.iconst 5, 1) := by decide +kernel
theorem dX7_init_126 : decode cX7_init 126 = .ok (.newarray .int, 2) := by decide +kernel
theorem dX7_init_128 : decode cX7_init 128 = .ok (.putfield 57, 3) := by decide +kernel
theorem dX7_init_131 : decode cX7_init 131 = .ok (.aload_n 0, 1) := by decide +kernel
theorem dX7_init_132 : decode cX7_init 132 = .ok (.bipush 100, 2) := by decide +kernel
theorem dX7_init_134 : decode cX7_init 134 = .ok (.newarray .int, 2) := by decide +kernel
theorem dX7_init_136 : decode cX7_init 136 = .ok (.putfield 60, 3) := by decide +kernel
theorem dX7_init_139 : decode cX7_init 139 = .ok (.aload_n 0, 1) := by decide +kernel
theorem dX7_init_140 : decode cX7_init 140 = .ok (.iconst (-1), 1) := by decide +kernel
theorem dX7_init_141 : decode cX7_init 141 = .ok (.putfield 63, 3) := by decide +kernel
theorem dX7_init_144 : decode cX7_init 144 = .ok (.aload_n 0, 1) := by decide +kernel
theorem dX7_init_145 : decode cX7_init 145 = .ok (.sipush 300, 3) := by decide +kernel
theorem dX7_init_148 : decode cX7_init 148 = .ok (.newarray .int, 2) := by decide +kernel
theorem dX7_init_150 : decode cX7_init 150 = .ok (.putfield 66, 3) := by decide +kernel
theorem dX7_init_153 : decode cX7_init 153 = .ok (.aload_n 0, 1) := by decide +kernel
theorem dX7_init_154 : decode cX7_init 154 = .ok (.sipush 300, 3) := by decide +kernel
theorem dX7_init_157 : decode cX7_init 157 = .ok (.newarray .int, 2) := by decide +kernel
theorem dX7_init_159 : decode cX7_init 159 = .ok (.putfield 69, 3) := by decide +kernel
theorem dX7_init_162 : decode cX7_init 162 = .ok (.aload_n 0, 1) := by decide +kernel
theorem dX7_init_163 : decode cX7_init 163 = .ok (.sipush 300, 3) := by decide +kernel
theorem dX7_init_166 : decode cX7_init 166 = .ok (.newarray .int, 2) := by decide +kernel
theorem dX7_init_168 : decode cX7_init 168 = .ok (.putfield 72, 3) := by decide +kernel
theorem dX7_init_171 : decode cX7_init 171 = .ok (.aload_n 0, 1) := by decide +kernel
theorem dX7_init_172 : decode cX7_init 172 = .ok (.bipush 12, 2) := by decide +kernel
theorem dX7_init_174 : decode cX7_init 174 = .ok (.newarray .int, 2) := by decide +kernel
theorem dX7_init_176 : decode cX7_init 176 = .ok (.putfield 75, 3) := by decide +kernel
theorem dX7_init_179 : decode cX7_init 179 = .ok (.aload_n 0, 1) := by decide +kernel
theorem dX7_init_180 : decode cX7_init 180 = .ok (.bipush 12, 2) := by decide +kernel
theorem dX7_init_182 : decode cX7_init 182 = .ok (.newarray .boolean, 2) := by decide +kernel
theorem dX7_init_184 : decode cX7_init 184 = .ok (.putfield 78, 3) := by decide +kernel
theorem dX7_init_187 : decode cX7_init 187 = .ok (.aload_n 0, 1) := by decide +kernel
theorem dX7_init_188 : decode cX7_init 188 = .ok (.bipush 8, 2) := by decide +kernel
theorem dX7_init_190 : decode cX7_init 190 = .ok (.newarray .int, 2) := by decide +kernel
theorem dX7_init_192 : decode cX7_init 192 = .ok (.putfield 81, 3) := by decide +kernel
theorem dX7_init_195 : decode cX7_init 195 = .ok (.aload_n 0, 1) := by decide +kernel
theorem dX7_init_196 : decode cX7_init 196 = .ok (.bipush 8, 2) := by decide +kernel
theorem dX7_init_198 : decode cX7_init 198 = .ok (.newarray .int, 2) := by decide +kernel
theorem dX7_init_200 : decode cX7_init 200 = .ok (.putfield 84, 3) := by decide +kernel
theorem dX7_init_203 : decode cX7_init 203 = .ok (.aload_n 0, 1) := by decide +kernel
theorem dX7_init_204 : decode cX7_init 204 = .ok (.bipush 8, 2) := by decide +kernel
theorem dX7_init_206 : decode cX7_init 206 = .ok (.newarray .int, 2) := by decide +kernel
theorem dX7_init_208 : decode cX7_init 208 = .ok (.putfield 87, 3) := by decide +kernel
theorem dX7_init_211 : decode cX7_init 211 = .ok (.aload_n 0, 1) := by decide +kernel
theorem dX7_init_212 : decode cX7_init 212 = .ok (.bipush 8, 2) := by decide +kernel
theorem dX7_init_214 : decode cX7_init 214 = .ok (.newarray .int, 2) := by decide +kernel
theorem dX7_init_216 : decode cX7_init 216 = .ok (.putfield 90, 3) := by decide +kernel
theorem dX7_init_219 : decode cX7_init 219 = .ok (.aload_n 0, 1) := by decide +kernel
theorem dX7_init_220 : decode cX7_init 220 = .ok (.bipush 8, 2) := by decide +kernel
theorem dX7_init_222 : decode cX7_init 222 = .ok (.newarray .int, 2) := by decide +kernel
theorem dX7_init_224 : decode cX7_init 224 = .ok (.putfield 93, 3) := by decide +kernel
theorem dX7_init_227 : decode cX7_init 227 = .ok (.aload_n 0, 1) := by decide +kernel
theorem dX7_init_228 : decode cX7_init 228 = .ok (.bipush 8, 2) := by decide +kernel
theorem dX7_init_230 : decode cX7_init 230 = .ok (.newarray .int, 2) := by decide +kernel
theorem dX7_init_232 : decode cX7_init 232 = .ok (.putfield 96, 3) := by decide +kernel
theorem dX7_init_235 : decode cX7_init 235 = .ok (.aload_n 0, 1) := by decide +kernel
theorem dX7_init_236 : decode cX7_init 236 = .ok (.bipush 12, 2) := by decide +kernel
theorem dX7_init_238 : decode cX7_init 238 = .ok (.newarray .boolean, 2) := by decide +kernel
theorem dX7_init_240 : decode cX7_init 240 = .ok (.putfield 99, 3) := by decide +kernel
theorem dX7_init_243 : decode cX7_init 243 = .ok (.aload_n 0, 1) := by decide +kernel
theorem dX7_init_244 : decode cX7_init 244 = .ok (.bipush 12, 2) := by decide +kernel
theorem dX7_init_246 : decode cX7_init 246 = .ok (.newarray .boolean, 2) := by decide +kernel
theorem dX7_init_248 : decode cX7_init 248 = .ok (.putfield 102, 3) := by decide +kernel
theorem dX7_init_251 : decode cX7_init 251 = .ok (.aload_n 0, 1) := by decide +kernel
theorem dX7_init_252 : decode cX7_init 252 = .ok (.bipush 12, 2) := by decide +kernel
theorem dX7_init_254 : decode cX7_init 254 = .ok (.newarray .boolean, 2) := by decide +kernel
theorem dX7_init_256 : decode cX7_init 256 = .ok (.putfield 105, 3) := by decide +kernel
theorem dX7_init_259 : decode cX7_init 259 = .ok (.aload_n 0, 1) := by decide +kernel
theorem dX7_init_260 : decode cX7_init 260 = .ok (.bipush 12, 2) := by decide +kernel
theorem dX7_init_262 : decode cX7_init 262 = .ok (.newarray .int, 2) := by decide +kernel
theorem dX7_init_264 : decode cX7_init 264 = .ok (.putfield 108, 3) := by decide +kernel
theorem dX7_init_267 : decode cX7_init 267 = .ok (.aload_n 0, 1) := by decide +kernel
theorem dX7_init_268 : decode cX7_init 268 = .ok (.bipush 12, 2) := by decide +kernel
theorem dX7_init_270 : decode cX7_init 270 = .ok (.newarray .int, 2) := by decide +kernel
theorem dX7_init_272 : decode cX7_init 272 = .ok (.putfield 111, 3) := by decide +kernel
theorem dX7_init_275 : decode cX7_init 275 = .ok (.aload_n 0, 1) := by decide +kernel
theorem dX7_init_276 : decode cX7_init 276 = .ok (.bipush 12, 2) := by decide +kernel
theorem dX7_init_278 : decode cX7_init 278 = .ok (.newarray .int, 2) := by decide +kernel
theorem dX7_init_280 : decode cX7_init 280 = .ok (.putfield 114, 3) := by decide +kernel
theorem dX7_init_283 : decode cX7_init 283 = .ok (.aload_n 0, 1) := by decide +kernel
theorem dX7_init_284 : decode cX7_init 284 = .ok (.bipush 12, 2) := by decide +kernel
theorem dX7_init_286 : decode cX7_init 286 = .ok (.newarray .int, 2) := by decide +kernel
theorem dX7_init_288 : decode cX7_init 288 = .ok (.putfield 117, 3) := by decide +kernel
theorem dX7_init_291 : decode cX7_init 291 = .ok (.aload_n 0, 1) := by decide +kernel
theorem dX7_init_292 : decode cX7_init 292 = .ok (.sipush 720, 3) := by decide +kernel
theorem dX7_init_295 : decode cX7_init 295 = .ok (.newarray .int, 2) := by decide +kernel
theorem dX7_init_297 : decode cX7_init 297 = .ok (.putfield 120, 3) := by decide +kernel
theorem dX7_init_300 : decode cX7_init 300 = .ok (.aload_n 0, 1) := by decide +kernel
theorem dX7_init_301 : decode cX7_init 301 = .ok (.sipush 601, 3) := by decide +kernel
theorem dX7_init_304 : decode cX7_init 304 = .ok (.newarray .int, 2) := by decide +kernel
theorem dX7_init_306 : decode cX7_init 306 = .ok (.putfield 123, 3) := by decide +kernel
theorem dX7_init_309 : decode cX7_init 309 = .ok (.aload_n 0, 1) := by decide +kernel
theorem dX7_init_310 : decode cX7_init 310 = .ok (.iconst 3, 1) := by decide +kernel
theorem dX7_init_311 : decode cX7_init 311 = .ok (.putfield 126, 3) := by decide +kernel
theorem dX7_init_314 : decode cX7_init 314 = .ok (.aload_n 0, 1) := by decide +kernel
theorem dX7_init_315 : decode cX7_init 315 = .ok (.sipush 2000, 3) := by decide +kernel
theorem dX7_init_318 : decode cX7_init 318 = .ok (.putfield 129, 3) := by decide +kernel
theorem dX7_init_321 : decode cX7_init 321 = .ok (.return_, 1) := by decide +kernel
theorem dX7_isBell_0 : decode cX7_isBell 0 = .ok (.iload_n 1, 1) := by decide +kernel
theorem dX7_isBell_1 : decode cX7_isBell 1 = .ok (.i2l, 1) := by decide +kernel
theorem dX7_isBell_2 : decode cX7_isBell 2 = .ok (.lconst 0, 1) := by decide +kernel
theorem dX7_isBell_3 : decode cX7_isBell 3 = .ok (.aload_n 0, 1) := by decide +kernel
theorem dX7_isBell_4 : decode cX7_isBell 4 = .ok (.getfield 132, 3) := by decide +kernel
theorem dX7_isBell_7 : decode cX7_isBell 7 = .ok (.iconst 1, 1) := by decide +kernel
theorem dX7_isBell_8 : decode cX7_isBell 8 = .ok (.isub, 1) := by decide +kernel
theorem dX7_isBell_9 : decode cX7_isBell 9 = .ok (.i2l, 1) := by decide +kernel
theorem dX7_isBell_10 : decode cX7_isBell 10 = .ok (.invokestatic 135, 3) := by decide +kernel
theorem dX7_isBell_13 : decode cX7_isBell 13 = .ok (.ireturn, 1) := by decide +kernel
theorem dX7_addBell_0 : decode cX7_addBell 0 = .ok (.aload_n 0, 1) := by decide +kernel
theorem dX7_addBell_1 : decode cX7_addBell 1 = .ok (.iconst 0, 1) := by decide +kernel
theorem dX7_addBell_2 : decode cX7_addBell 2 = .ok (.putfield 1, 3) := by decide +kernel
theorem dX7_addBell_5 : decode cX7_addBell 5 = .ok (.iload_n 1, 1) := by decide +kernel
theorem dX7_addBell_6 : decode cX7_addBell 6 = .ok (.i2l, 1) := by decide +kernel
theorem dX7_addBell_7 : decode cX7_addBell 7 = .ok (.lconst 1, 1) := by decide +kernel
theorem dX7_addBell_8 : decode cX7_addBell 8 = .ok (.ldc2_w 139, 3) := by decide +kernel
theorem dX7_addBell_11 : decode cX7_addBell 11 = .ok (.invokestatic 135, 3) := by decide +kernel
theorem dX7_addBell_14 : decode cX7_addBell 14 = .ok (.ifCond .eq 42, 3) := by decide +kernel
theorem dX7_addBell_17 : decode cX7_addBell 17 = .ok (.iload_n 2, 1) := by decide +kernel
theorem dX7_addBell_18 : decode cX7_addBell 18 = .ok (.i2l, 1) := by decide +kernel
theorem dX7_addBell_19 : decode cX7_addBell 19 = .ok (.lconst 0, 1) := by decide +kernel
theorem dX7_addBell_20 : decode cX7_addBell 20 = .ok (.ldc2_w 141, 3) := by decide +kernel
theorem dX7_addBell_23 : decode cX7_addBell 23 = .ok (.invokestatic 135, 3) := by decide +kernel
theorem dX7_addBell_26 : decode cX7_addBell 26 = .ok (.ifCond .eq 30, 3) := by decide +kernel
theorem dX7_addBell_29 : decode cX7_addBell 29 = .ok (.iload_n 3, 1) := by decide +kernel
theorem dX7_addBell_30 : decode cX7_addBell 30 = .ok (.i2l, 1) := by decide +kernel
theorem dX7_addBell_31 : decode cX7_addBell 31 = .ok (.lconst 1, 1) := by decide +kernel
theorem dX7_addBell_32 : decode cX7_addBell 32 = .ok (.ldc2_w 143, 3) := by decide +kernel
theorem dX7_addBell_35 : decode cX7_addBell 35 = .ok (.invokestatic 135, 3) := by decide +kernel
theorem dX7_addBell_38 : decode cX7_addBell 38 = .ok (.ifCond .eq 18, 3) := by decide +kernel
theorem dX7_addBell_41 : decode cX7_addBell 41 = .ok (.iload 4, 2) := by decide +kernel
theorem dX7_addBell_43 : decode cX7_addBell 43 = .ok (.i2l, 1) := by decide +kernel
theorem dX7_addBell_44 : decode cX7_addBell 44 = .ok (.ldc2_w 145, 3) := by decide +kernel
theorem dX7_addBell_47 : decode cX7_addBell 47 = .ok (.ldc2_w 147, 3) := by decide +kernel
theorem dX7_addBell_50 : decode cX7_addBell 50 = .ok (.invokestatic 135, 3) := by decide +kernel
theorem dX7_addBell_53 : decode cX7_addBell 53 = .ok (.ifCond .ne 6, 3) := by decide +kernel
theorem dX7_addBell_56 : decode cX7_addBell 56 = .ok (.bipush (-3), 2) := by decide +kernel
theorem dX7_addBell_58 : decode cX7_addBell 58 = .ok (.ireturn, 1) := by decide +kernel
theorem dX7_addBell_59 : decode cX7_addBell 59 = .ok (.aload_n 0, 1) := by decide +kernel
theorem dX7_addBell_60 : decode cX7_addBell 60 = .ok (.getfield 132, 3) := by decide +kernel
theorem dX7_addBell_63 : decode cX7_addBell 63 = .ok (.bipush 12, 2) := by decide +kernel
theorem dX7_addBell_65 : decode cX7_addBell 65 = .ok (.if_icmp .ne 6, 3) := by decide +kernel
theorem dX7_addBell_68 : decode cX7_addBell 68 = .ok (.bipush (-4), 2) := by decide +kernel
theorem dX7_addBell_70 : decode cX7_addBell 70 = .ok (.ireturn, 1) := by decide +kernel
theorem dX7_addBell_71 : decode cX7_addBell 71 = .ok (.aload_n 0, 1) := by decide +kernel
theorem dX7_addBell_72 : decode cX7_addBell 72 = .ok (.getfield 13, 3) := by decide +kernel
theorem dX7_addBell_75 : decode cX7_addBell 75 = .ok (.aload_n 0, 1) := by decide +kernel
theorem dX7_addBell_76 : decode cX7_addBell 76 = .ok (.getfield 132, 3) := by decide +kernel
theorem dX7_addBell_79 : decode cX7_addBell 79 = .ok (.iload_n 1, 1) := by decide +kernel
theorem dX7_addBell_80 : decode cX7_addBell 80 = .ok (.iastore, 1) := by decide +kernel
theorem dX7_addBell_81 : decode cX7_addBell 81 = .ok (.aload_n 0, 1) := by decide +kernel
theorem dX7_addBell_82 : decode cX7_addBell 82 = .ok (.getfield 17, 3) := by decide +kernel
theorem dX7_addBell_85 : decode cX7_addBell 85 = .ok (.aload_n 0, 1) := by decide +kernel
theorem dX7_addBell_86 : decode cX7_addBell 86 = .ok (.getfield 132, 3) := by decide +kernel
theorem dX7_addBell_89 : decode cX7_addBell 89 = .ok (.iload_n 2, 1) := by decide +kernel
theorem dX7_addBell_90 : decode cX7_addBell 90 = .ok (.iastore, 1) := by decide +kernel
theorem dX7_addBell_91 : decode cX7_addBell 91 = .ok (.aload_n 0, 1) := by decide +kernel
theorem dX7_addBell_92 : decode cX7_addBell 92 = .ok (.getfield 20, 3) := by decide +kernel
theorem dX7_addBell_95 : decode cX7_addBell 95 = .ok (.aload_n 0, 1) := by decide +kernel
theorem dX7_addBell_96 : decode cX7_addBell 96 = .ok (.getfield 132, 3) := by decide +kernel
theorem dX7_addBell_99 : decode cX7_addBell 99 = .ok (.iload_n 3, 1) := by decide +kernel
theorem dX7_addBell_100 : decode cX7_addBell 100 = .ok (.iastore, 1) := by decide +kernel
theorem dX7_addBell_101 : decode cX7_addBell 101 = .ok (.aload_n 0, 1) := by decide +kernel
theorem dX7_addBell_102 : decode cX7_addBell 102 = .ok (.getfield 23, 3) := by decide +kernel
theorem dX7_addBell_105 : decode cX7_addBell 105 = .ok (.aload_n 0, 1) := by decide +kernel
theorem dX7_addBell_106 : decode cX7_addBell 106 = .ok (.getfield 132, 3) := by decide +kernel
theorem dX7_addBell_109 : decode cX7_addBell 109 = .ok (.iload 4, 2) := by decide +kernel
theorem dX7_addBell_111 : decode cX7_addBell 111 = .ok (.iastore, 1) := by decide +kernel
theorem dX7_addBell_112 : decode cX7_addBell 112 = .ok (.aload_n 0, 1) := by decide +kernel
theorem dX7_addBell_113 : decode cX7_addBell 113 = .ok (.dup, 1) := by decide +kernel
theorem dX7_addBell_114 : decode cX7_addBell 114 = .ok (.getfield 132, 3) := by decide +kernel
theorem dX7_addBell_117 : decode cX7_addBell 117 = .ok (.iconst 1, 1) := by decide +kernel
theorem dX7_addBell_118 : decode cX7_addBell 118 = .ok (.iadd, 1) := by decide +kernel
theorem dX7_addBell_119 : decode cX7_addBell 119 = .ok (.putfield 132, 3) := by decide +kernel
theorem dX7_addBell_122 : decode cX7_addBell 122 = .ok (.aload_n 0, 1) := by decide +kernel
theorem dX7_addBell_123 : decode cX7_addBell 123 = .ok (.getfield 132, 3) := by decide +kernel
theorem dX7_addBell_126 : decode cX7_addBell 126 = .ok (.iconst 1, 1) := by decide +kernel
theorem dX7_addBell_127 : decode cX7_addBell 127 = .ok (.isub, 1) := by decide +kernel
theorem dX7_addBell_128 : decode cX7_addBell 128 = .ok (.ireturn, 1) := by decide +kernel
theorem dX7_bellCount_0 : decode cX7_bellCount 0 = .ok (.aload_n 0, 1) := by decide +kernel
theorem dX7_bellCount_1 : decode cX7_bellCount 1 = .ok (.iconst 0, 1) := by decide +kernel
theorem dX7_bellCount_2 : decode cX7_bellCount 2 = .ok (.putfield 1, 3) := by decide +kernel
theorem dX7_bellCount_5 : decode cX7_bellCount 5 = .ok (.aload_n 0, 1) := by decide +kernel
theorem dX7_bellCount_6 : decode cX7_bellCount 6 = .ok (.getfield 132, 3) := by decide +kernel
theorem dX7_bellCount_9 : decode cX7_bellCount 9 = .ok (.ireturn, 1) := by decide +kernel
theorem dX7_delay_0 : decode cX7_delay 0 = .ok (.aload_n 0, 1) := by decide +kernel
theorem dX7_delay_1 : decode cX7_delay 1 = .ok (.iconst 0, 1) := by decide +kernel
theorem dX7_delay_2 : decode cX7_delay 2 = .ok (.putfield 1, 3) := by decide +kernel
theorem dX7_delay_5 : decode cX7_delay 5 = .ok (.aload_n 0, 1) := by decide +kernel
theorem dX7_delay_6 : decode cX7_delay 6 = .ok (.iload_n 1, 1) := by decide +kernel
theorem dX7_delay_7 : decode cX7_delay 7 = .ok (.invokevirtual 149, 3) := by decide +kernel
theorem dX7_delay_10 : decode cX7_delay 10 = .ok (.ifCond .eq 12, 3) := by decide +kernel
theorem dX7_delay_13 : decode cX7_delay 13 = .ok (.aload_n 0, 1) := by decide +kernel
theorem dX7_delay_14 : decode cX7_delay 14 = .ok (.getfield 13, 3) := by decide +kernel
theorem dX7_delay_17 : decode cX7_delay 17 = .ok (.iload_n 1, 1) := by decide +kernel
theorem dX7_delay_18 : decode cX7_delay 18 = .ok (.iaload, 1) := by decide +kernel
theorem dX7_delay_19 : decode cX7_delay 19 = .ok (.goto 5, 3) := by decide +kernel
theorem dX7_delay_22 : decode cX7_delay 22 = .ok (.bipush (-2), 2) := by decide +kernel
theorem dX7_delay_24 : decode cX7_delay 24 = .ok (.ireturn, 1) := by decide +kernel
theorem dX7_calibrate_0 : decode cX7_calibrate 0 = .ok (.aload_n 0, 1) := by decide +kernel
theorem dX7_calibrate_1 : decode cX7_calibrate 1 = .ok (.iconst 0, 1) := by decide +kernel
theorem dX7_calibrate_2 : decode cX7_calibrate 2 = .ok (.putfield 1, 3) := by decide +kernel
theorem dX7_calibrate_5 : decode cX7_calibrate 5 = .ok (.aload_n 0, 1) := by decide +kernel
theorem dX7_calibrate_6 : decode cX7_calibrate 6 = .ok (.iload_n 1, 1) := by decide +kernel
theorem dX7_calibrate_7 : decode cX7_calibrate 7 = .ok (.invokevirtual 149, 3) := by decide +kernel
theorem dX7_calibrate_10 : decode cX7_calibrate 10 = .ok (.ifCond .ne 6, 3) := by decide +kernel
theorem dX7_calibrate_13 : decode cX7_calibrate 13 = .ok (.bipush (-2), 2) := by decide +kernel
theorem dX7_calibrate_15 : decode cX7_calibrate 15 = .ok (.ireturn, 1) := by decide +kernel
theorem dX7_calibrate_16 : decode cX7_calibrate 16 = .ok (.iload_n 2, 1) := by decide +kernel
theorem dX7_calibrate_17 : decode cX7_calibrate 17 = .ok (.i2l, 1) := by decide +kernel
theorem dX7_calibrate_18 : decode cX7_calibrate 18 = .ok (.lconst 1, 1) := by decide +kernel
theorem dX7_calibrate_19 : decode cX7_calibrate 19 = .ok (.ldc2_w 139, 3) := by decide +kernel
theorem dX7_calibrate_22 : decode cX7_calibrate 22 = .ok (.invokestatic 135, 3) := by decide +kernel
theorem dX7_calibrate_25 : decode cX7_calibrate 25 = .ok (.ifCond .ne 6, 3) := by decide +kernel
theorem dX7_calibrate_28 : decode cX7_calibrate 28 = .ok (.bipush (-3), 2) := by decide +kernel
theorem dX7_calibrate_30 : decode cX7_calibrate 30 = .ok (.ireturn, 1) := by decide +kernel
theorem dX7_calibrate_31 : decode cX7_calibrate 31 = .ok (.aload_n 0, 1) := by decide +kernel
theorem dX7_calibrate_32 : decode cX7_calibrate 32 = .ok (.getfield 13, 3) := by decide +kernel
theorem dX7_calibrate_35 : decode cX7_calibrate 35 = .ok (.iload_n 1, 1) := by decide +kernel
theorem dX7_calibrate_36 : decode cX7_calibrate 36 = .ok (.iconst 3, 1) := by decide +kernel
theorem dX7_calibrate_37 : decode cX7_calibrate 37 = .ok (.aload_n 0, 1) := by decide +kernel
theorem dX7_calibrate_38 : decode cX7_calibrate 38 = .ok (.getfield 13, 3) := by decide +kernel
theorem dX7_calibrate_41 : decode cX7_calibrate 41 = .ok (.iload_n 1, 1) := by decide +kernel
theorem dX7_calibrate_42 : decode cX7_calibrate 42 = .ok (.iaload, 1) := by decide +kernel
theorem dX7_calibrate_43 : decode cX7_calibrate 43 = .ok (.imul, 1) := by decide +kernel
theorem dX7_calibrate_44 : decode cX7_calibrate 44 = .ok (.iload_n 2, 1) := by decide +kernel
theorem dX7_calibrate_45 : decode cX7_calibrate 45 = .ok (.iadd, 1) := by decide +kernel
theorem dX7_calibrate_46 : decode cX7_calibrate 46 = .ok (.iconst 2, 1) := by decide +kernel
theorem dX7_calibrate_47 : decode cX7_calibrate 47 = .ok (.iadd, 1) := by decide +kernel
theorem dX7_calibrate_48 : decode cX7_calibrate 48 = .ok (.iconst 4, 1) := by decide +kernel
theorem dX7_calibrate_49 : decode cX7_calibrate 49 = .ok (.idiv, 1) := by decide +kernel
theorem dX7_calibrate_50 : decode cX7_calibrate 50 = .ok (.iastore, 1) := by decide +kernel
theorem dX7_calibrate_51 : decode cX7_calibrate 51 = .ok (.aload_n 0, 1) := by decide +kernel
theorem dX7_calibrate_52 : decode cX7_calibrate 52 = .ok (.getfield 13, 3) := by decide +kernel
theorem dX7_calibrate_55 : decode cX7_calibrate 55 = .ok (.iload_n 1, 1) := by decide +kernel
theorem dX7_calibrate_56 : decode cX7_calibrate 56 = .ok (.iaload, 1) := by decide +kernel
theorem dX7_calibrate_57 : decode cX7_calibrate 57 = .ok (.ireturn, 1) := by decide +kernel
theorem dX7_setPowerLimit_0 : decode cX7_setPowerLimit 0 = .ok (.aload_n 0, 1) := by decide +kernel
theorem dX7_setPowerLimit_1 : decode cX7_setPowerLimit 1 = .ok (.iconst 0, 1) := by decide +kernel
theorem dX7_setPowerLimit_2 : decode cX7_setPowerLimit 2 = .ok (.putfield 1, 3) := by decide +kernel
theorem dX7_setPowerLimit_5 : decode cX7_setPowerLimit 5 = .ok (.iload_n 1, 1) := by decide +kernel
theorem dX7_setPowerLimit_6 : decode cX7_setPowerLimit 6 = .ok (.i2l, 1) := by decide +kernel
theorem dX7_setPowerLimit_7 : decode cX7_setPowerLimit 7 = .ok (.lconst 1, 1) := by decide +kernel
theorem dX7_setPowerLimit_8 : decode cX7_setPowerLimit 8 = .ok (.ldc2_w 153, 3) := by decide +kernel
theorem dX7_setPowerLimit_11 : decode cX7_setPowerLimit 11 = .ok (.invokestatic 135, 3) := by decide +kernel
theorem dX7_setPowerLimit_14 : decode cX7_setPowerLimit 14 = .ok (.ifCond .ne 6, 3) := by decide +kernel
theorem dX7_setPowerLimit_17 : decode cX7_setPowerLimit 17 = .ok (.bipush (-3), 2) := by decide +kernel
theorem dX7_setPowerLimit_19 : decode cX7_setPowerLimit 19 = .ok (.ireturn, 1) := by decide +kernel
theorem dX7_setPowerLimit_20 : decode cX7_setPowerLimit 20 = .ok (.aload_n 0, 1) := by decide +kernel
theorem dX7_setPowerLimit_21 : decode cX7_setPowerLimit 21 = .ok (.getfield 126, 3) := by decide +kernel
theorem dX7_setPowerLimit_24 : decode cX7_setPowerLimit 24 = .ok (.istore_n 2, 1) := by decide +kernel
theorem dX7_setPowerLimit_25 : decode cX7_setPowerLimit 25 = .ok (.aload_n 0, 1) := by decide +kernel
theorem dX7_setPowerLimit_26 : decode cX7_setPowerLimit 26 = .ok (.iload_n 1, 1) := by decide +kernel
theorem dX7_setPowerLimit_27 : decode cX7_setPowerLimit 27 = .ok (.putfield 126, 3) := by decide +kernel
theorem dX7_setPowerLimit_30 : decode cX7_setPowerLimit 30 = .ok (.iload_n 2, 1) := by decide +kernel
theorem dX7_setPowerLimit_31 : decode cX7_setPowerLimit 31 = .ok (.ireturn, 1) := by decide +kernel
theorem dX7_records_0 : decode cX7_records 0 = .ok (.aload_n 0, 1) := by decide +kernel
theorem dX7_records_1 : decode cX7_records 1 = .ok (.getfield 29, 3) := by decide +kernel
theorem dX7_records_4 : decode cX7_records 4 = .ok (.aload_n 0, 1) := by decide +kernel
theorem dX7_records_5 : decode cX7_records 5 = .ok (.getfield 155, 3) := by decide +kernel
theorem dX7_records_8 : decode cX7_records 8 = .ok (.sipush 200, 3) := by decide +kernel
theorem dX7_records_11 : decode cX7_records 11 = .ok (.irem, 1) := by decide +kernel
theorem dX7_records_12 : decode cX7_records 12 = .ok (.iload_n 1, 1) := by decide +kernel
theorem dX7_records_13 : decode cX7_records 13 = .ok (.iastore, 1) := by decide +kernel
theorem dX7_records_14 : decode cX7_records 14 = .ok (.aload_n 0, 1) := by decide +kernel
theorem dX7_records_15 : decode cX7_records 15 = .ok (.getfield 32, 3) := by decide +kernel
theorem dX7_records_18 : decode cX7_records 18 = .ok (.aload_n 0, 1) := by decide +kernel
theorem dX7_records_19 : decode cX7_records 19 = .ok (.getfield 155, 3) := by decide +kernel
theorem dX7_records_22 : decode cX7_records 22 = .ok (.sipush 200, 3) := by decide +kernel
theorem dX7_records_25 : decode cX7_records 25 = .ok (.irem, 1) := by decide +kernel
theorem dX7_records_26 : decode cX7_records 26 = .ok (.aload_n 0, 1) := by decide +kernel
theorem dX7_records_27 : decode cX7_records 27 = .ok (.getfield 158, 3) := by decide +kernel
theorem dX7_records_30 : decode cX7_records 30 = .ok (.iastore, 1) := by decide +kernel
theorem dX7_records_31 : decode cX7_records 31 = .ok (.aload_n 0, 1) := by decide +kernel
theorem dX7_records_32 : decode cX7_records 32 = .ok (.getfield 35, 3) := by decide +kernel
theorem dX7_records_35 : decode cX7_records 35 = .ok (.aload_n 0, 1) := by decide +kernel
theorem dX7_records_36 : decode cX7_records 36 = .ok (.getfield 155, 3) := by decide +kernel
theorem dX7_records_39 : decode cX7_records 39 = .ok (.sipush 200, 3) := by decide +kernel
theorem dX7_records_42 : decode cX7_records 42 = .ok (.irem, 1) := by decide +kernel
theorem dX7_records_43 : decode cX7_records 43 = .ok (.iload_n 2, 1) := by decide +kernel
theorem dX7_records_44 : decode cX7_records 44 = .ok (.bastore, 1) := by decide +kernel
theorem dX7_records_45 : decode cX7_records 45 = .ok (.aload_n 0, 1) := by decide +kernel
theorem dX7_records_46 : decode cX7_records 46 = .ok (.dup, 1) := by decide +kernel
theorem dX7_records_47 : decode cX7_records 47 = .ok (.getfield 155, 3) := by decide +kernel
theorem dX7_records_50 : decode cX7_records 50 = .ok (.iconst 1, 1) := by decide +kernel
theorem dX7_records_51 : decode cX7_records 51 = .ok (.iadd, 1) := by decide +kernel
theorem dX7_records_52 : decode cX7_records 52 = .ok (.putfield 155, 3) := by decide +kernel
theorem dX7_records_55 : decode cX7_records 55 = .ok (.return_, 1) := by decide +kernel
theorem dX7_recordMany_0 : decode cX7_recordMany 0 = .ok (.aload_n 0, 1) := by decide +kernel
theorem dX7_recordMany_1 : decode cX7_recordMany 1 = .ok (.getfield 155, 3) := by decide +kernel
theorem dX7_recordMany_4 : decode cX7_recordMany 4 = .ok (.sipush 200, 3) := by decide +kernel
theorem dX7_recordMany_7 : decode cX7_recordMany 7 = .ok (.if_icmp .ge 10, 3) := by decide +kernel
theorem dX7_recordMany_10 : decode cX7_recordMany 10 = .ok (.aload_n 0, 1) := by decide +kernel
theorem dX7_recordMany_11 : decode cX7_recordMany 11 = .ok (.getfield 155, 3) := by decide +kernel
theorem dX7_recordMany_14 : decode cX7_recordMany 14 = .ok (.goto 6, 3) := by decide +kernel
theorem dX7_recordMany_17 : decode cX7_recordMany 17 = .ok (.sipush 200, 3) := by decide +kernel
theorem dX7_recordMany_20 : decode cX7_recordMany 20 = .ok (.ireturn, 1) := by decide +kernel
theorem dX7_recordAt_0 : decode cX7_recordAt 0 = .ok (.iload_n 1, 1) := by decide +kernel
theorem dX7_recordAt_1 : decode cX7_recordAt 1 = .ok (.ifCond .ge 6, 3) := by decide +kernel
theorem dX7_recordAt_4 : decode cX7_recordAt 4 = .ok (.bipush (-3), 2) := by decide +kernel
theorem dX7_recordAt_6 : decode cX7_recordAt 6 = .ok (.ireturn, 1) := by decide +kernel
theorem dX7_recordAt_7 : decode cX7_recordAt 7 = .ok (.iload_n 1, 1) := by decide +kernel
theorem dX7_recordAt_8 : decode cX7_recordAt 8 = .ok (.aload_n 0, 1) := by decide +kernel
theorem dX7_recordAt_9 : decode cX7_recordAt 9 = .ok (.invokevirtual 161, 3) := by decide +kernel
theorem dX7_recordAt_12 : decode cX7_recordAt 12 = .ok (.if_icmp .ge 18, 3) := by decide +kernel
theorem dX7_recordAt_15 : decode cX7_recordAt 15 = .ok (.aload_n 0, 1) := by decide +kernel
theorem dX7_recordAt_16 : decode cX7_recordAt 16 = .ok (.getfield 155, 3) := by decide +kernel
theorem dX7_recordAt_19 : decode cX7_recordAt 19 = .ok (.iconst 1, 1) := by decide +kernel
theorem dX7_recordAt_20 : decode cX7_recordAt 20 = .ok (.isub, 1) := by decide +kernel
theorem dX7_recordAt_21 : decode cX7_recordAt 21 = .ok (.iload_n 1, 1) := by decide +kernel
theorem dX7_recordAt_22 : decode cX7_recordAt 22 = .ok (.isub, 1) := by decide +kernel
theorem dX7_recordAt_23 : decode cX7_recordAt 23 = .ok (.sipush 200, 3) := by decide +kernel
theorem dX7_recordAt_26 : decode cX7_recordAt 26 = .ok (.irem, 1) := by decide +kernel
theorem dX7_recordAt_27 : decode cX7_recordAt 27 = .ok (.goto 4, 3) := by decide +kernel
theorem dX7_recordAt_30 : decode cX7_recordAt 30 = .ok (.iconst (-1), 1) := by decide +kernel
theorem dX7_recordAt_31 : decode cX7_recordAt 31 = .ok (.ireturn, 1) := by decide +kernel
theorem dX7_currentTime_0 : decode cX7_currentTime 0 = .ok (.aload_n 0, 1) := by decide +kernel
theorem dX7_currentTime_1 : decode cX7_currentTime 1 = .ok (.iconst 0, 1) := by decide +kernel
theorem dX7_currentTime_2 : decode cX7_currentTime 2 = .ok (.putfield 1, 3) := by decide +kernel
theorem dX7_currentTime_5 : decode cX7_currentTime 5 = .ok (.aload_n 0, 1) := by decide +kernel
theorem dX7_currentTime_6 : decode cX7_currentTime 6 = .ok (.getfield 158, 3) := by decide +kernel
theorem dX7_currentTime_9 : decode cX7_currentTime 9 = .ok (.ireturn, 1) := by decide +kernel
theorem dX7_recordLength_0 : decode cX7_recordLength 0 = .ok (.aload_n 0, 1) := by decide +kernel
theorem dX7_recordLength_1 : decode cX7_recordLength 1 = .ok (.iconst 0, 1) := by decide +kernel
theorem dX7_recordLength_2 : decode cX7_recordLength 2 = .ok (.putfield 1, 3) := by decide +kernel
theorem dX7_recordLength_5 : decode cX7_recordLength 5 = .ok (.aload_n 0, 1) := by decide +kernel
theorem dX7_recordLength_6 : decode cX7_recordLength 6 = .ok (.invokevirtual 161, 3) := by decide +kernel
theorem dX7_recordLength_9 : decode cX7_recordLength 9 = .ok (.ireturn, 1) := by decide +kernel
theorem dX7_recordBell_0 : decode cX7_recordBell 0 = .ok (.aload_n 0, 1) := by decide +kernel
theorem dX7_recordBell_1 : decode cX7_recordBell 1 = .ok (.iconst 0, 1) := by decide +kernel
theorem dX7_recordBell_2 : decode cX7_recordBell 2 = .ok (.putfield 1, 3) := by decide +kernel
theorem dX7_recordBell_5 : decode cX7_recordBell 5 = .ok (.aload_n 0, 1) := by decide +kernel
theorem dX7_recordBell_6 : decode cX7_recordBell 6 = .ok (.iload_n 1, 1) := by decide +kernel
theorem dX7_recordBell_7 : decode cX7_recordBell 7 = .ok (.invokevirtual 165, 3) := by decide +kernel
theorem dX7_recordBell_10 : decode cX7_recordBell 10 = .ok (.istore_n 2, 1) := by decide +kernel
theorem dX7_recordBell_11 : decode cX7_recordBell 11 = .ok (.iload_n 2, 1) := by decide +kernel
theorem dX7_recordBell_12 : decode cX7_recordBell 12 = .ok (.ifCond .ge 7, 3) := by decide +kernel
theorem dX7_recordBell_15 : decode cX7_recordBell 15 = .ok (.iload_n 2, 1) := by decide +kernel
theorem dX7_recordBell_16 : decode cX7_recordBell 16 = .ok (.goto 9, 3) := by decide +kernel
theorem dX7_recordBell_19 : decode cX7_recordBell 19 = .ok (.aload_n 0, 1) := by decide +kernel
theorem dX7_recordBell_20 : decode cX7_recordBell 20 = .ok (.getfield 29, 3) := by decide +kernel
theorem dX7_recordBell_23 : decode cX7_recordBell 23 = .ok (.iload_n 2, 1) := by decide +kernel
theorem dX7_recordBell_24 : decode cX7_recordBell 24 = .ok (.iaload, 1) := by decide +kernel
theorem dX7_recordBell_25 : decode cX7_recordBell 25 = .ok (.ireturn, 1) := by decide +kernel
theorem dX7_recordTime_0 : decode cX7_recordTime 0 = .ok (.aload_n 0, 1) := by decide +kernel
theorem dX7_recordTime_1 : decode cX7_recordTime 1 = .ok (.iconst 0, 1) := by decide +kernel
theorem dX7_recordTime_2 : decode cX7_recordTime 2 = .ok (.putfield 1, 3) := by decide +kernel
theorem dX7_recordTime_5 : decode cX7_recordTime 5 = .ok (.aload_n 0, 1) := by decide +kernel
theorem dX7_recordTime_6 : decode cX7_recordTime 6 = .ok (.iload_n 1, 1) := by decide +kernel
theorem dX7_recordTime_7 : decode cX7_recordTime 7 = .ok (.invokevirtual 165, 3) := by decide +kernel
theorem dX7_recordTime_10 : decode cX7_recordTime 10 = .ok (.istore_n 2, 1) := by decide +kernel
theorem dX7_recordTime_11 : decode cX7_recordTime 11 = .ok (.iload_n 2, 1) := by decide +kernel
theorem dX7_recordTime_12 : decode cX7_recordTime 12 = .ok (.ifCond .ge 7, 3) := by decide +kernel
theorem dX7_recordTime_15 : decode cX7_recordTime 15 = .ok (.iload_n 2, 1) := by decide +kernel
theorem dX7_recordTime_16 : decode cX7_recordTime 16 = .ok (.goto 9, 3) := by decide +kernel
theorem dX7_recordTime_19 : decode cX7_recordTime 19 = .ok (.aload_n 0, 1) := by decide +kernel
theorem dX7_recordTime_20 : decode cX7_recordTime 20 = .ok (.getfield 32, 3) := by decide +kernel
theorem dX7_recordTime_23 : decode cX7_recordTime 23 = .ok (.iload_n 2, 1) := by decide +kernel
theorem dX7_recordTime_24 : decode cX7_recordTime 24 = .ok (.iaload, 1) := by decide +kernel
theorem dX7_recordTime_25 : decode cX7_recordTime 25 = .ok (.ireturn, 1) := by decide +kernel
theorem dX7_recordClapper_0 : decode cX7_recordClapper 0 = .ok (.aload_n 0, 1) := by decide +kernel
theorem dX7_recordClapper_1 : decode cX7_recordClapper 1 = .ok (.iconst 0, 1) := by decide +kernel
theorem dX7_recordClapper_2 : decode cX7_recordClapper 2 = .ok (.putfield 1, 3) := by decide +kernel
theorem dX7_recordClapper_5 : decode cX7_recordClapper 5 = .ok (.aload_n 0, 1) := by decide +kernel
theorem dX7_recordClapper_6 : decode cX7_recordClapper 6 = .ok (.iload_n 1, 1) := by decide +kernel
theorem dX7_recordClapper_7 : decode cX7_recordClapper 7 = .ok (.invokevirtual 165, 3) := by decide +kernel
theorem dX7_recordClapper_10 : decode cX7_recordClapper 10 = .ok (.istore_n 2, 1) := by decide +kernel
theorem dX7_recordClapper_11 : decode cX7_recordClapper 11 = .ok (.iload_n 2, 1) := by decide +kernel
theorem dX7_recordClapper_12 : decode cX7_recordClapper 12 = .ok (.ifCond .ge 7, 3) := by decide +kernel
theorem dX7_recordClapper_15 : decode cX7_recordClapper 15 = .ok (.iload_n 2, 1) := by decide +kernel
theorem dX7_recordClapper_16 : decode cX7_recordClapper 16 = .ok (.goto 17, 3) := by decide +kernel
theorem dX7_recordClapper_19 : decode cX7_recordClapper 19 = .ok (.aload_n 0, 1) := by decide +kernel
theorem dX7_recordClapper_20 : decode cX7_recordClapper 20 = .ok (.getfield 35, 3) := by decide +kernel
theorem dX7_recordClapper_23 : decode cX7_recordClapper 23 = .ok (.iload_n 2, 1) := by decide +kernel
theorem dX7_recordClapper_24 : decode cX7_recordClapper 24 = .ok (.baload, 1) := by decide +kernel
theorem dX7_recordClapper_25 : decode cX7_recordClapper 25 = .ok (.ifCond .eq 7, 3) := by decide +kernel
theorem dX7_recordClapper_28 : decode cX7_recordClapper 28 = .ok (.iconst 1, 1) := by decide +kernel
theorem dX7_recordClapper_29 : decode cX7_recordClapper 29 = .ok (.goto 4, 3) := by decide +kernel
theorem dX7_recordClapper_32 : decode cX7_recordClapper 32 = .ok (.iconst 0, 1) := by decide +kernel
theorem dX7_recordClapper_33 : decode cX7_recordClapper 33 = .ok (.ireturn, 1) := by decide +kernel
theorem dX7_refuses_0 : decode cX7_refuses 0 = .ok (.lload_n 2, 1) := by decide +kernel
theorem dX7_refuses_1 : decode cX7_refuses 1 = .ok (.lconst 0, 1) := by decide +kernel
theorem dX7_refuses_2 : decode cX7_refuses 2 = .ok (.ldc2_w 169, 3) := by decide +kernel
theorem dX7_refuses_5 : decode cX7_refuses 5 = .ok (.invokestatic 135, 3) := by decide +kernel
theorem dX7_refuses_8 : decode cX7_refuses 8 = .ok (.ifCond .ne 6, 3) := by decide +kernel
theorem dX7_refuses_11 : decode cX7_refuses 11 = .ok (.bipush (-3), 2) := by decide +kernel
theorem dX7_refuses_13 : decode cX7_refuses 13 = .ok (.ireturn, 1) := by decide +kernel
theorem dX7_refuses_14 : decode cX7_refuses 14 = .ok (.aload_n 0, 1) := by decide +kernel
theorem dX7_refuses_15 : decode cX7_refuses 15 = .ok (.getfield 99, 3) := by decide +kernel
theorem dX7_refuses_18 : decode cX7_refuses 18 = .ok (.iload_n 1, 1) := by decide +kernel
theorem dX7_refuses_19 : decode cX7_refuses 19 = .ok (.baload, 1) := by decide +kernel
theorem dX7_refuses_20 : decode cX7_refuses 20 = .ok (.ifCond .eq 6, 3) := by decide +kernel
theorem dX7_refuses_23 : decode cX7_refuses 23 = .ok (.bipush (-6), 2) := by decide +kernel
theorem dX7_refuses_25 : decode cX7_refuses 25 = .ok (.ireturn, 1) := by decide +kernel
theorem dX7_refuses_26 : decode cX7_refuses 26 = .ok (.lload_n 2, 1) := by decide +kernel
theorem dX7_refuses_27 : decode cX7_refuses 27 = .ok (.l2i, 1) := by decide +kernel
theorem dX7_refuses_28 : decode cX7_refuses 28 = .ok (.istore 4, 2) := by decide +kernel
theorem dX7_refuses_30 : decode cX7_refuses 30 = .ok (.iload 4, 2) := by decide +kernel
theorem dX7_refuses_32 : decode cX7_refuses 32 = .ok (.aload_n 0, 1) := by decide +kernel
theorem dX7_refuses_33 : decode cX7_refuses 33 = .ok (.getfield 13, 3) := by decide +kernel
theorem dX7_refuses_36 : decode cX7_refuses 36 = .ok (.iload_n 1, 1) := by decide +kernel
theorem dX7_refuses_37 : decode cX7_refuses 37 = .ok (.iaload, 1) := by decide +kernel
theorem dX7_refuses_38 : decode cX7_refuses 38 = .ok (.isub, 1) := by decide +kernel
theorem dX7_refuses_39 : decode cX7_refuses 39 = .ok (.istore 5, 2) := by decide +kernel
theorem dX7_refuses_41 : decode cX7_refuses 41 = .ok (.iload 5, 2) := by decide +kernel
theorem dX7_refuses_43 : decode cX7_refuses 43 = .ok (.aload_n 0, 1) := by decide +kernel
theorem dX7_refuses_44 : decode cX7_refuses 44 = .ok (.getfield 158, 3) := by decide +kernel
theorem dX7_refuses_47 : decode cX7_refuses 47 = .ok (.if_icmp .ge 6, 3) := by decide +kernel
theorem dX7_refuses_50 : decode cX7_refuses 50 = .ok (.bipush (-5), 2) := by decide +kernel
theorem dX7_refuses_52 : decode cX7_refuses 52 = .ok (.ireturn, 1) := by decide +kernel
theorem dX7_refuses_53 : decode cX7_refuses 53 = .ok (.aload_n 0, 1) := by decide +kernel
theorem dX7_refuses_54 : decode cX7_refuses 54 = .ok (.getfield 171, 3) := by decide +kernel
theorem dX7_refuses_57 : decode cX7_refuses 57 = .ok (.sipush 300, 3) := by decide +kernel
theorem dX7_refuses_60 : decode cX7_refuses 60 = .ok (.if_icmp .ne 6, 3) := by decide +kernel
theorem dX7_refuses_63 : decode cX7_refuses 63 = .ok (.bipush (-4), 2) := by decide +kernel
theorem dX7_refuses_65 : decode cX7_refuses 65 = .ok (.ireturn, 1) := by decide +kernel
theorem dX7_refuses_66 : decode cX7_refuses 66 = .ok (.iload 5, 2) := by decide +kernel
theorem dX7_refuses_68 : decode cX7_refuses 68 = .ok (.aload_n 0, 1) := by decide +kernel
theorem dX7_refuses_69 : decode cX7_refuses 69 = .ok (.getfield 26, 3) := by decide +kernel
theorem dX7_refuses_72 : decode cX7_refuses 72 = .ok (.iload_n 1, 1) := by decide +kernel
theorem dX7_refuses_73 : decode cX7_refuses 73 = .ok (.iaload, 1) := by decide +kernel
theorem dX7_refuses_74 : decode cX7_refuses 74 = .ok (.if_icmp .ge 6, 3) := by decide +kernel
theorem dX7_refuses_77 : decode cX7_refuses 77 = .ok (.bipush (-7), 2) := by decide +kernel
theorem dX7_refuses_79 : decode cX7_refuses 79 = .ok (.ireturn, 1) := by decide +kernel
theorem dX7_refuses_80 : decode cX7_refuses 80 = .ok (.iconst 0, 1) := by decide +kernel
theorem dX7_refuses_81 : decode cX7_refuses 81 = .ok (.istore 6, 2) := by decide +kernel
theorem dX7_refuses_83 : decode cX7_refuses 83 = .ok (.iload 6, 2) := by decide +kernel
theorem dX7_refuses_85 : decode cX7_refuses 85 = .ok (.bipush 52, 2) := by decide +kernel
theorem dX7_refuses_87 : decode cX7_refuses 87 = .ok (.if_icmp .ge 17, 3) := by decide +kernel
theorem dX7_refuses_90 : decode cX7_refuses 90 = .ok (.aload_n 0, 1) := by decide +kernel
theorem dX7_refuses_91 : decode cX7_refuses 91 = .ok (.getfield 48, 3) := by decide +kernel
theorem dX7_refuses_94 : decode cX7_refuses 94 = .ok (.iload 6, 2) := by decide +kernel
theorem dX7_refuses_96 : decode cX7_refuses 96 = .ok (.iconst 0, 1) := by decide +kernel
theorem dX7_refuses_97 : decode cX7_refuses 97 = .ok (.iastore, 1) := by decide +kernel
theorem dX7_refuses_98 : decode cX7_refuses 98 = .ok (.iinc 6 1, 3) := by decide +kernel
theorem dX7_refuses_101 : decode cX7_refuses 101 = .ok (.goto (-18), 3) := by decide +kernel
theorem dX7_refuses_104 : decode cX7_refuses 104 = .ok (.iconst 0, 1) := by decide +kernel
theorem dX7_refuses_105 : decode cX7_refuses 105 = .ok (.istore 6, 2) := by decide +kernel
theorem dX7_refuses_107 : decode cX7_refuses 107 = .ok (.iload 6, 2) := by decide +kernel
theorem dX7_refuses_109 : decode cX7_refuses 109 = .ok (.aload_n 0, 1) := by decide +kernel
theorem dX7_refuses_110 : decode cX7_refuses 110 = .ok (.getfield 171, 3) := by decide +kernel
theorem dX7_refuses_113 : decode cX7_refuses 113 = .ok (.if_icmp .ge 151, 3) := by decide +kernel
theorem dX7_refuses_116 : decode cX7_refuses 116 = .ok (.aload_n 0, 1) := by decide +kernel
theorem dX7_refuses_117 : decode cX7_refuses 117 = .ok (.getfield 39, 3) := by decide +kernel
theorem dX7_refuses_120 : decode cX7_refuses 120 = .ok (.iload 6, 2) := by decide +kernel
theorem dX7_refuses_122 : decode cX7_refuses 122 = .ok (.iaload, 1) := by decide +kernel
theorem dX7_refuses_123 : decode cX7_refuses 123 = .ok (.iload_n 1, 1) := by decide +kernel
theorem dX7_refuses_124 : decode cX7_refuses 124 = .ok (.if_icmp .ne 44, 3) := by decide +kernel
theorem dX7_refuses_127 : decode cX7_refuses 127 = .ok (.iload 5, 2) := by decide +kernel
theorem dX7_refuses_129 : decode cX7_refuses 129 = .ok (.aload_n 0, 1) := by decide +kernel
theorem dX7_refuses_130 : decode cX7_refuses 130 = .ok (.getfield 42, 3) := by decide +kernel
theorem dX7_refuses_133 : decode cX7_refuses 133 = .ok (.iload 6, 2) := by decide +kernel
theorem dX7_refuses_135 : decode cX7_refuses 135 = .ok (.iaload, 1) := by decide +kernel
theorem dX7_refuses_136 : decode cX7_refuses 136 = .ok (.aload_n 0, 1) := by decide +kernel
theorem dX7_refuses_137 : decode cX7_refuses 137 = .ok (.getfield 17, 3) := by decide +kernel
theorem dX7_refuses_140 : decode cX7_refuses 140 = .ok (.iload_n 1, 1) := by decide +kernel
theorem dX7_refuses_141 : decode cX7_refuses 141 = .ok (.iaload, 1) := by decide +kernel
theorem dX7_refuses_142 : decode cX7_refuses 142 = .ok (.iadd, 1) := by decide +kernel
theorem dX7_refuses_143 : decode cX7_refuses 143 = .ok (.if_icmp .ge 25, 3) := by decide +kernel
theorem dX7_refuses_146 : decode cX7_refuses 146 = .ok (.aload_n 0, 1) := by decide +kernel
theorem dX7_refuses_147 : decode cX7_refuses 147 = .ok (.getfield 45, 3) := by decide +kernel
theorem dX7_refuses_150 : decode cX7_refuses 150 = .ok (.iload 6, 2) := by decide +kernel
theorem dX7_refuses_152 : decode cX7_refuses 152 = .ok (.iaload, 1) := by decide +kernel
theorem dX7_refuses_153 : decode cX7_refuses 153 = .ok (.iload 4, 2) := by decide +kernel
theorem dX7_refuses_155 : decode cX7_refuses 155 = .ok (.aload_n 0, 1) := by decide +kernel
theorem dX7_refuses_156 : decode cX7_refuses 156 = .ok (.getfield 17, 3) := by decide +kernel
theorem dX7_refuses_159 : decode cX7_refuses 159 = .ok (.iload_n 1, 1) := by decide +kernel
theorem dX7_refuses_160 : decode cX7_refuses 160 = .ok (.iaload, 1) := by decide +kernel
theorem dX7_refuses_161 : decode cX7_refuses 161 = .ok (.iadd, 1) := by decide +kernel
theorem dX7_refuses_162 : decode cX7_refuses 162 = .ok (.if_icmp .ge 6, 3) := by decide +kernel
theorem dX7_refuses_165 : decode cX7_refuses 165 = .ok (.bipush (-7), 2) := by decide +kernel
theorem dX7_refuses_167 : decode cX7_refuses 167 = .ok (.ireturn, 1) := by decide +kernel
theorem dX7_refuses_168 : decode cX7_refuses 168 = .ok (.aload_n 0, 1) := by decide +kernel
theorem dX7_refuses_169 : decode cX7_refuses 169 = .ok (.getfield 45, 3) := by decide +kernel
theorem dX7_refuses_172 : decode cX7_refuses 172 = .ok (.iload 6, 2) := by decide +kernel
theorem dX7_refuses_174 : decode cX7_refuses 174 = .ok (.iaload, 1) := by decide +kernel
theorem dX7_refuses_175 : decode cX7_refuses 175 = .ok (.iload 5, 2) := by decide +kernel
theorem dX7_refuses_177 : decode cX7_refuses 177 = .ok (.if_icmp .le 13, 3) := by decide +kernel
theorem dX7_refuses_180 : decode cX7_refuses 180 = .ok (.aload_n 0, 1) := by decide +kernel
theorem dX7_refuses_181 : decode cX7_refuses 181 = .ok (.getfield 45, 3) := by decide +kernel
theorem dX7_refuses_184 : decode cX7_refuses 184 = .ok (.iload 6, 2) := by decide +kernel
theorem dX7_refuses_186 : decode cX7_refuses 186 = .ok (.iaload, 1) := by decide +kernel
theorem dX7_refuses_187 : decode cX7_refuses 187 = .ok (.goto 5, 3) := by decide +kernel
theorem dX7_refuses_190 : decode cX7_refuses 190 = .ok (.iload 5, 2) := by decide +kernel
theorem dX7_refuses_192 : decode cX7_refuses 192 = .ok (.istore 7, 2) := by decide +kernel
theorem dX7_refuses_194 : decode cX7_refuses 194 = .ok (.aload_n 0, 1) := by decide +kernel
theorem dX7_refuses_195 : decode cX7_refuses 195 = .ok (.getfield 42, 3) := by decide +kernel
theorem dX7_refuses_198 : decode cX7_refuses 198 = .ok (.iload 6, 2) := by decide +kernel
theorem dX7_refuses_200 : decode cX7_refuses 200 = .ok (.iaload, 1) := by decide +kernel
theorem dX7_refuses_201 : decode cX7_refuses 201 = .ok (.iload 4, 2) := by decide +kernel
theorem dX7_refuses_203 : decode cX7_refuses 203 = .ok (.if_icmp .ge 13, 3) := by decide +kernel
theorem dX7_refuses_206 : decode cX7_refuses 206 = .ok (.aload_n 0, 1) := by decide +kernel
theorem dX7_refuses_207 : decode cX7_refuses 207 = .ok (.getfield 42, 3) := by decide +kernel
theorem dX7_refuses_210 : decode cX7_refuses 210 = .ok (.iload 6, 2) := by decide +kernel
theorem dX7_refuses_212 : decode cX7_refuses 212 = .ok (.iaload, 1) := by decide +kernel
theorem dX7_refuses_213 : decode cX7_refuses 213 = .ok (.goto 5, 3) := by decide +kernel
theorem dX7_refuses_216 : decode cX7_refuses 216 = .ok (.iload 4, 2) := by decide +kernel
theorem dX7_refuses_218 : decode cX7_refuses 218 = .ok (.istore 8, 2) := by decide +kernel
theorem dX7_refuses_220 : decode cX7_refuses 220 = .ok (.iload 7, 2) := by decide +kernel
theorem dX7_refuses_222 : decode cX7_refuses 222 = .ok (.iload 8, 2) := by decide +kernel
theorem dX7_refuses_224 : decode cX7_refuses 224 = .ok (.if_icmp .lt 6, 3) := by decide +kernel
theorem dX7_refuses_227 : decode cX7_refuses 227 = .ok (.goto 31, 3) := by decide +kernel
theorem dX7_refuses_230 : decode cX7_refuses 230 = .ok (.aload_n 0, 1) := by decide +kernel
theorem dX7_refuses_231 : decode cX7_refuses 231 = .ok (.getfield 48, 3) := by decide +kernel
theorem dX7_refuses_234 : decode cX7_refuses 234 = .ok (.iload 7, 2) := by decide +kernel
theorem dX7_refuses_236 : decode cX7_refuses 236 = .ok (.iload 5, 2) := by decide +kernel
theorem dX7_refuses_238 : decode cX7_refuses 238 = .ok (.isub, 1) := by decide +kernel
theorem dX7_refuses_239 : decode cX7_refuses 239 = .ok (.dup2, 1) := by decide +kernel
theorem dX7_refuses_240 : decode cX7_refuses 240 = .ok (.iaload, 1) := by decide +kernel
theorem dX7_refuses_241 : decode cX7_refuses 241 = .ok (.iconst 1, 1) := by decide +kernel
theorem dX7_refuses_242 : decode cX7_refuses 242 = .ok (.iadd, 1) := by decide +kernel
theorem dX7_refuses_243 : decode cX7_refuses 243 = .ok (.iastore, 1) := by decide +kernel
theorem dX7_refuses_244 : decode cX7_refuses 244 = .ok (.aload_n 0, 1) := by decide +kernel
theorem dX7_refuses_245 : decode cX7_refuses 245 = .ok (.getfield 48, 3) := by decide +kernel
theorem dX7_refuses_248 : decode cX7_refuses 248 = .ok (.iload 8, 2) := by decide +kernel
theorem dX7_refuses_250 : decode cX7_refuses 250 = .ok (.iload 5, 2) := by decide +kernel
theorem dX7_refuses_252 : decode cX7_refuses 252 = .ok (.isub, 1) := by decide +kernel
theorem dX7_refuses_253 : decode cX7_refuses 253 = .ok (.dup2, 1) := by decide +kernel
theorem dX7_refuses_254 : decode cX7_refuses 254 = .ok (.iaload, 1) := by decide +kernel
theorem dX7_refuses_255 : decode cX7_refuses 255 = .ok (.iconst 1, 1) := by decide +kernel
theorem dX7_refuses_256 : decode cX7_refuses 256 = .ok (.isub, 1) := by decide +kernel
theorem dX7_refuses_257 : decode cX7_refuses 257 = .ok (.iastore, 1) := by decide +kernel
theorem dX7_refuses_258 : decode cX7_refuses 258 = .ok (.iinc 6 1, 3) := by decide +kernel
theorem dX7_refuses_261 : decode cX7_refuses 261 = .ok (.goto (-154), 3) := by decide +kernel
theorem dX7_refuses_264 : decode cX7_refuses 264 = .ok (.iconst 1, 1) := by decide +kernel
theorem dX7_refuses_265 : decode cX7_refuses 265 = .ok (.istore 6, 2) := by decide +kernel
theorem dX7_refuses_267 : decode cX7_refuses 267 = .ok (.iconst 0, 1) := by decide +kernel
theorem dX7_refuses_268 : decode cX7_refuses 268 = .ok (.istore 7, 2) := by decide +kernel
theorem dX7_refuses_270 : decode cX7_refuses 270 = .ok (.iload 7, 2) := by decide +kernel
theorem dX7_refuses_272 : decode cX7_refuses 272 = .ok (.iload 4, 2) := by decide +kernel
theorem dX7_refuses_274 : decode cX7_refuses 274 = .ok (.iload 5, 2) := by decide +kernel
theorem dX7_refuses_276 : decode cX7_refuses 276 = .ok (.isub, 1) := by decide +kernel
theorem dX7_refuses_277 : decode cX7_refuses 277 = .ok (.if_icmp .ge 33, 3) := by decide +kernel
theorem dX7_refuses_280 : decode cX7_refuses 280 = .ok (.iload 6, 2) := by decide +kernel
theorem dX7_refuses_282 : decode cX7_refuses 282 = .ok (.aload_n 0, 1) := by decide +kernel
theorem dX7_refuses_283 : decode cX7_refuses 283 = .ok (.getfield 48, 3) := by decide +kernel
theorem dX7_refuses_286 : decode cX7_refuses 286 = .ok (.iload 7, 2) := by decide +kernel
theorem dX7_refuses_288 : decode cX7_refuses 288 = .ok (.iaload, 1) := by decide +kernel
theorem dX7_refuses_289 : decode cX7_refuses 289 = .ok (.iadd, 1) := by decide +kernel
theorem dX7_refuses_290 : decode cX7_refuses 290 = .ok (.istore 6, 2) := by decide +kernel
theorem dX7_refuses_292 : decode cX7_refuses 292 = .ok (.iload 6, 2) := by decide +kernel
theorem dX7_refuses_294 : decode cX7_refuses 294 = .ok (.aload_n 0, 1) := by decide +kernel
theorem dX7_refuses_295 : decode cX7_refuses 295 = .ok (.getfield 126, 3) := by decide +kernel
theorem dX7_refuses_298 : decode cX7_refuses 298 = .ok (.if_icmp .le 6, 3) := by decide +kernel
theorem dX7_refuses_301 : decode cX7_refuses 301 = .ok (.bipush (-8), 2) := by decide +kernel
theorem dX7_refuses_303 : decode cX7_refuses 303 = .ok (.ireturn, 1) := by decide +kernel
theorem dX7_refuses_304 : decode cX7_refuses 304 = .ok (.iinc 7 1, 3) := by decide +kernel
theorem dX7_refuses_307 : decode cX7_refuses 307 = .ok (.goto (-37), 3) := by decide +kernel
theorem dX7_refuses_310 : decode cX7_refuses 310 = .ok (.iconst 0, 1) := by decide +kernel
theorem dX7_refuses_311 : decode cX7_refuses 311 = .ok (.ireturn, 1) := by decide +kernel
theorem dX7_schedules_0 : decode cX7_schedules 0 = .ok (.aload_n 0, 1) := by decide +kernel
theorem dX7_schedules_1 : decode cX7_schedules 1 = .ok (.getfield 39, 3) := by decide +kernel
theorem dX7_schedules_4 : decode cX7_schedules 4 = .ok (.aload_n 0, 1) := by decide +kernel
theorem dX7_schedules_5 : decode cX7_schedules 5 = .ok (.getfield 171, 3) := by decide +kernel
theorem dX7_schedules_8 : decode cX7_schedules 8 = .ok (.iload_n 1, 1) := by decide +kernel
theorem dX7_schedules_9 : decode cX7_schedules 9 = .ok (.iastore, 1) := by decide +kernel
theorem dX7_schedules_10 : decode cX7_schedules 10 = .ok (.aload_n 0, 1) := by decide +kernel
theorem dX7_schedules_11 : decode cX7_schedules 11 = .ok (.getfield 42, 3) := by decide +kernel
theorem dX7_schedules_14 : decode cX7_schedules 14 = .ok (.aload_n 0, 1) := by decide +kernel
theorem dX7_schedules_15 : decode cX7_schedules 15 = .ok (.getfield 171, 3) := by decide +kernel
theorem dX7_schedules_18 : decode cX7_schedules 18 = .ok (.iload_n 2, 1) := by decide +kernel
theorem dX7_schedules_19 : decode cX7_schedules 19 = .ok (.iastore, 1) := by decide +kernel
theorem dX7_schedules_20 : decode cX7_schedules 20 = .ok (.aload_n 0, 1) := by decide +kernel
theorem dX7_schedules_21 : decode cX7_schedules 21 = .ok (.getfield 45, 3) := by decide +kernel
theorem dX7_schedules_24 : decode cX7_schedules 24 = .ok (.aload_n 0, 1) := by decide +kernel
theorem dX7_schedules_25 : decode cX7_schedules 25 = .ok (.getfield 171, 3) := by decide +kernel
theorem dX7_schedules_28 : decode cX7_schedules 28 = .ok (.iload_n 2, 1) := by decide +kernel
theorem dX7_schedules_29 : decode cX7_schedules 29 = .ok (.aload_n 0, 1) := by decide +kernel
theorem dX7_schedules_30 : decode cX7_schedules 30 = .ok (.getfield 13, 3) := by decide +kernel
theorem dX7_schedules_33 : decode cX7_schedules 33 = .ok (.iload_n 1, 1) := by decide +kernel
theorem dX7_schedules_34 : decode cX7_schedules 34 = .ok (.iaload, 1) := by decide +kernel
theorem dX7_schedules_35 : decode cX7_schedules 35 = .ok (.isub, 1) := by decide +kernel
theorem dX7_schedules_36 : decode cX7_schedules 36 = .ok (.iastore, 1) := by decide +kernel
theorem dX7_schedules_37 : decode cX7_schedules 37 = .ok (.aload_n 0, 1) := by decide +kernel
theorem dX7_schedules_38 : decode cX7_schedules 38 = .ok (.dup, 1) := by decide +kernel
theorem dX7_schedules_39 : decode cX7_schedules 39 = .ok (.getfield 171, 3) := by decide +kernel
theorem dX7_schedules_42 : decode cX7_schedules 42 = .ok (.iconst 1, 1) := by decide +kernel
theorem dX7_schedules_43 : decode cX7_schedules 43 = .ok (.iadd, 1) := by decide +kernel
theorem dX7_schedules_44 : decode cX7_schedules 44 = .ok (.putfield 171, 3) := by decide +kernel
theorem dX7_schedules_47 : decode cX7_schedules 47 = .ok (.return_, 1) := by decide +kernel
theorem dX7_removes_0 : decode cX7_removes 0 = .ok (.aload_n 0, 1) := by decide +kernel
theorem dX7_removes_1 : decode cX7_removes 1 = .ok (.dup, 1) := by decide +kernel
theorem dX7_removes_2 : decode cX7_removes 2 = .ok (.getfield 171, 3) := by decide +kernel
theorem dX7_removes_5 : decode cX7_removes 5 = .ok (.iconst 1, 1) := by decide +kernel
theorem dX7_removes_6 : decode cX7_removes 6 = .ok (.isub, 1) := by decide +kernel
theorem dX7_removes_7 : decode cX7_removes 7 = .ok (.putfield 171, 3) := by decide +kernel
theorem dX7_removes_10 : decode cX7_removes 10 = .ok (.aload_n 0, 1) := by decide +kernel
theorem dX7_removes_11 : decode cX7_removes 11 = .ok (.getfield 39, 3) := by decide +kernel
theorem dX7_removes_14 : decode cX7_removes 14 = .ok (.iload_n 1, 1) := by decide +kernel
theorem dX7_removes_15 : decode cX7_removes 15 = .ok (.aload_n 0, 1) := by decide +kernel
theorem dX7_removes_16 : decode cX7_removes 16 = .ok (.getfield 39, 3) := by decide +kernel
theorem dX7_removes_19 : decode cX7_removes 19 = .ok (.aload_n 0, 1) := by decide +kernel
theorem dX7_removes_20 : decode cX7_removes 20 = .ok (.getfield 171, 3) := by decide +kernel
theorem dX7_removes_23 : decode cX7_removes 23 = .ok (.iaload, 1) := by decide +kernel
theorem dX7_removes_24 : decode cX7_removes 24 = .ok (.iastore, 1) := by decide +kernel
theorem dX7_removes_25 : decode cX7_removes 25 = .ok (.aload_n 0, 1) := by decide +kernel
theorem dX7_removes_26 : decode cX7_removes 26 = .ok (.getfield 42, 3) := by decide +kernel
theorem dX7_removes_29 : decode cX7_removes 29 = .ok (.iload_n 1, 1) := by decide +kernel
theorem dX7_removes_30 : decode cX7_removes 30 = .ok (.aload_n 0, 1) := by decide +kernel
theorem dX7_removes_31 : decode cX7_removes 31 = .ok (.getfield 42, 3) := by decide +kernel
theorem dX7_removes_34 : decode cX7_removes 34 = .ok (.aload_n 0, 1) := by decide +kernel
theorem dX7_removes_35 : decode cX7_removes 35 = .ok (.getfield 171, 3) := by decide +kernel
theorem dX7_removes_38 : decode cX7_removes 38 = .ok (.iaload, 1) := by decide +kernel
theorem dX7_removes_39 : decode cX7_removes 39 = .ok (.iastore, 1) := by decide +kernel
theorem dX7_removes_40 : decode cX7_removes 40 = .ok (.aload_n 0, 1) := by decide +kernel
theorem dX7_removes_41 : decode cX7_removes 41 = .ok (.getfield 45, 3) := by decide +kernel
theorem dX7_removes_44 : decode cX7_removes 44 = .ok (.iload_n 1, 1) := by decide +kernel
theorem dX7_removes_45 : decode cX7_removes 45 = .ok (.aload_n 0, 1) := by decide +kernel
theorem dX7_removes_46 : decode cX7_removes 46 = .ok (.getfield 45, 3) := by decide +kernel
theorem dX7_removes_49 : decode cX7_removes 49 = .ok (.aload_n 0, 1) := by decide +kernel
theorem dX7_removes_50 : decode cX7_removes 50 = .ok (.getfield 171, 3) := by decide +kernel
theorem dX7_removes_53 : decode cX7_removes 53 = .ok (.iaload, 1) := by decide +kernel
theorem dX7_removes_54 : decode cX7_removes 54 = .ok (.iastore, 1) := by decide +kernel
theorem dX7_removes_55 : decode cX7_removes 55 = .ok (.return_, 1) := by decide +kernel
theorem dX7_strokeOf_0 : decode cX7_strokeOf 0 = .ok (.iconst 0, 1) := by decide +kernel
theorem dX7_strokeOf_1 : decode cX7_strokeOf 1 = .ok (.istore_n 3, 1) := by decide +kernel
theorem dX7_strokeOf_2 : decode cX7_strokeOf 2 = .ok (.iload_n 3, 1) := by decide +kernel
theorem dX7_strokeOf_3 : decode cX7_strokeOf 3 = .ok (.aload_n 0, 1) := by decide +kernel
theorem dX7_strokeOf_4 : decode cX7_strokeOf 4 = .ok (.getfield 171, 3) := by decide +kernel
theorem dX7_strokeOf_7 : decode cX7_strokeOf 7 = .ok (.if_icmp .ge 31, 3) := by decide +kernel
theorem dX7_strokeOf_10 : decode cX7_strokeOf 10 = .ok (.aload_n 0, 1) := by decide +kernel
theorem dX7_strokeOf_11 : decode cX7_strokeOf 11 = .ok (.getfield 39, 3) := by decide +kernel
theorem dX7_strokeOf_14 : decode cX7_strokeOf 14 = .ok (.iload_n 3, 1) := by decide +kernel
theorem dX7_strokeOf_15 : decode cX7_strokeOf 15 = .ok (.iaload, 1) := by decide +kernel
theorem dX7_strokeOf_16 : decode cX7_strokeOf 16 = .ok (.iload_n 1, 1) := by decide +kernel
theorem dX7_strokeOf_17 : decode cX7_strokeOf 17 = .ok (.if_icmp .ne 15, 3) := by decide +kernel
theorem dX7_strokeOf_20 : decode cX7_strokeOf 20 = .ok (.aload_n 0, 1) := by decide +kernel
theorem dX7_strokeOf_21 : decode cX7_strokeOf 21 = .ok (.getfield 42, 3) := by decide +kernel
theorem dX7_strokeOf_24 : decode cX7_strokeOf 24 = .ok (.iload_n 3, 1) := by decide +kernel
theorem dX7_strokeOf_25 : decode cX7_strokeOf 25 = .ok (.iaload, 1) := by decide +kernel
theorem dX7_strokeOf_26 : decode cX7_strokeOf 26 = .ok (.iload_n 2, 1) := by decide +kernel
theorem dX7_strokeOf_27 : decode cX7_strokeOf 27 = .ok (.if_icmp .ne 5, 3) := by decide +kernel
theorem dX7_strokeOf_30 : decode cX7_strokeOf 30 = .ok (.iload_n 3, 1) := by decide +kernel
theorem dX7_strokeOf_31 : decode cX7_strokeOf 31 = .ok (.ireturn, 1) := by decide +kernel
theorem dX7_strokeOf_32 : decode cX7_strokeOf 32 = .ok (.iinc 3 1, 3) := by decide +kernel
theorem dX7_strokeOf_35 : decode cX7_strokeOf 35 = .ok (.goto (-33), 3) := by decide +kernel
theorem dX7_strokeOf_38 : decode cX7_strokeOf 38 = .ok (.iconst (-1), 1) := by decide +kernel
theorem dX7_strokeOf_39 : decode cX7_strokeOf 39 = .ok (.ireturn, 1) := by decide +kernel
theorem dX7_scheduleStroke_0 : decode cX7_scheduleStroke 0 = .ok (.aload_n 0, 1) := by decide +kernel
theorem dX7_scheduleStroke_1 : decode cX7_scheduleStroke 1 = .ok (.iconst 0, 1) := by decide +kernel
theorem dX7_scheduleStroke_2 : decode cX7_scheduleStroke 2 = .ok (.putfield 1, 3) := by decide +kernel
theorem dX7_scheduleStroke_5 : decode cX7_scheduleStroke 5 = .ok (.aload_n 0, 1) := by decide +kernel
theorem dX7_scheduleStroke_6 : decode cX7_scheduleStroke 6 = .ok (.iload_n 1, 1) := by decide +kernel
theorem dX7_scheduleStroke_7 : decode cX7_scheduleStroke 7 = .ok (.invokevirtual 149, 3) := by decide +kernel
theorem dX7_scheduleStroke_10 : decode cX7_scheduleStroke 10 = .ok (.ifCond .ne 6, 3) := by decide +kernel
theorem dX7_scheduleStroke_13 : decode cX7_scheduleStroke 13 = .ok (.bipush (-2), 2) := by decide +kernel
theorem dX7_scheduleStroke_15 : decode cX7_scheduleStroke 15 = .ok (.ireturn, 1) := by decide +kernel
theorem dX7_scheduleStroke_16 : decode cX7_scheduleStroke 16 = .ok (.aload_n 0, 1) := by decide +kernel
theorem dX7_scheduleStroke_17 : decode cX7_scheduleStroke 17 = .ok (.iload_n 1, 1) := by decide +kernel
theorem dX7_scheduleStroke_18 : decode cX7_scheduleStroke 18 = .ok (.iload_n 2, 1) := by decide +kernel
theorem dX7_scheduleStroke_19 : decode cX7_scheduleStroke 19 = .ok (.i2l, 1) := by decide +kernel
theorem dX7_scheduleStroke_20 : decode cX7_scheduleStroke 20 = .ok (.invokevirtual 174, 3) := by decide +kernel
theorem dX7_scheduleStroke_23 : decode cX7_scheduleStroke 23 = .ok (.istore_n 3, 1) := by decide +kernel
theorem dX7_scheduleStroke_24 : decode cX7_scheduleStroke 24 = .ok (.iload_n 3, 1) := by decide +kernel
theorem dX7_scheduleStroke_25 : decode cX7_scheduleStroke 25 = .ok (.ifCond .eq 5, 3) := by decide +kernel
theorem dX7_scheduleStroke_28 : decode cX7_scheduleStroke 28 = .ok (.iload_n 3, 1) := by decide +kernel
theorem dX7_scheduleStroke_29 : decode cX7_scheduleStroke 29 = .ok (.ireturn, 1) := by decide +kernel
theorem dX7_scheduleStroke_30 : decode cX7_scheduleStroke 30 = .ok (.aload_n 0, 1) := by decide +kernel
theorem dX7_scheduleStroke_31 : decode cX7_scheduleStroke 31 = .ok (.iload_n 1, 1) := by decide +kernel
theorem dX7_scheduleStroke_32 : decode cX7_scheduleStroke 32 = .ok (.iload_n 2, 1) := by decide +kernel
theorem dX7_scheduleStroke_33 : decode cX7_scheduleStroke 33 = .ok (.invokevirtual 178, 3) := by decide +kernel
theorem dX7_scheduleStroke_36 : decode cX7_scheduleStroke 36 = .ok (.iload_n 2, 1) := by decide +kernel
theorem dX7_scheduleStroke_37 : decode cX7_scheduleStroke 37 = .ok (.aload_n 0, 1) := by decide +kernel
theorem dX7_scheduleStroke_38 : decode cX7_scheduleStroke 38 = .ok (.getfield 13, 3) := by decide +kernel
theorem dX7_scheduleStroke_41 : decode cX7_scheduleStroke 41 = .ok (.iload_n 1, 1) := by decide +kernel
theorem dX7_scheduleStroke_42 : decode cX7_scheduleStroke 42 = .ok (.iaload, 1) := by decide +kernel
theorem dX7_scheduleStroke_43 : decode cX7_scheduleStroke 43 = .ok (.isub, 1) := by decide +kernel
theorem dX7_scheduleStroke_44 : decode cX7_scheduleStroke 44 = .ok (.ireturn, 1) := by decide +kernel
theorem dX7_cancelStroke_0 : decode cX7_cancelStroke 0 = .ok (.aload_n 0, 1) := by decide +kernel
theorem dX7_cancelStroke_1 : decode cX7_cancelStroke 1 = .ok (.iconst 0, 1) := by decide +kernel
theorem dX7_cancelStroke_2 : decode cX7_cancelStroke 2 = .ok (.putfield 1, 3) := by decide +kernel
theorem dX7_cancelStroke_5 : decode cX7_cancelStroke 5 = .ok (.aload_n 0, 1) := by decide +kernel
theorem dX7_cancelStroke_6 : decode cX7_cancelStroke 6 = .ok (.iload_n 1, 1) := by decide +kernel
theorem dX7_cancelStroke_7 : decode cX7_cancelStroke 7 = .ok (.invokevirtual 149, 3) := by decide +kernel
theorem dX7_cancelStroke_10 : decode cX7_cancelStroke 10 = .ok (.ifCond .eq 12, 3) := by decide +kernel
theorem dX7_cancelStroke_13 : decode cX7_cancelStroke 13 = .ok (.aload_n 0, 1) := by decide +kernel
theorem dX7_cancelStroke_14 : decode cX7_cancelStroke 14 = .ok (.iload_n 1, 1) := by decide +kernel
theorem dX7_cancelStroke_15 : decode cX7_cancelStroke 15 = .ok (.iload_n 2, 1) := by decide +kernel
theorem dX7_cancelStroke_16 : decode cX7_cancelStroke 16 = .ok (.invokevirtual 182, 3) := by decide +kernel
theorem dX7_cancelStroke_19 : decode cX7_cancelStroke 19 = .ok (.goto 4, 3) := by decide +kernel
theorem dX7_cancelStroke_22 : decode cX7_cancelStroke 22 = .ok (.iconst (-1), 1) := by decide +kernel
theorem dX7_cancelStroke_23 : decode cX7_cancelStroke 23 = .ok (.istore_n 3, 1) := by decide +kernel
theorem dX7_cancelStroke_24 : decode cX7_cancelStroke 24 = .ok (.iload_n 3, 1) := by decide +kernel
theorem dX7_cancelStroke_25 : decode cX7_cancelStroke 25 = .ok (.iconst (-1), 1) := by decide +kernel
theorem dX7_cancelStroke_26 : decode cX7_cancelStroke 26 = .ok (.if_icmp .ne 6, 3) := by decide +kernel
theorem dX7_cancelStroke_29 : decode cX7_cancelStroke 29 = .ok (.bipush (-2), 2) := by decide +kernel
theorem dX7_cancelStroke_31 : decode cX7_cancelStroke 31 = .ok (.ireturn, 1) := by decide +kernel
theorem dX7_cancelStroke_32 : decode cX7_cancelStroke 32 = .ok (.aload_n 0, 1) := by decide +kernel
theorem dX7_cancelStroke_33 : decode cX7_cancelStroke 33 = .ok (.getfield 45, 3) := by decide +kernel
theorem dX7_cancelStroke_36 : decode cX7_cancelStroke 36 = .ok (.iload_n 3, 1) := by decide +kernel
theorem dX7_cancelStroke_37 : decode cX7_cancelStroke 37 = .ok (.iaload, 1) := by decide +kernel
theorem dX7_cancelStroke_38 : decode cX7_cancelStroke 38 = .ok (.aload_n 0, 1) := by decide +kernel
theorem dX7_cancelStroke_39 : decode cX7_cancelStroke 39 = .ok (.getfield 158, 3) := by decide +kernel
theorem dX7_cancelStroke_42 : decode cX7_cancelStroke 42 = .ok (.if_icmp .gt 6, 3) := by decide +kernel
theorem dX7_cancelStroke_45 : decode cX7_cancelStroke 45 = .ok (.bipush (-5), 2) := by decide +kernel
theorem dX7_cancelStroke_47 : decode cX7_cancelStroke 47 = .ok (.ireturn, 1) := by decide +kernel
theorem dX7_cancelStroke_48 : decode cX7_cancelStroke 48 = .ok (.aload_n 0, 1) := by decide +kernel
theorem dX7_cancelStroke_49 : decode cX7_cancelStroke 49 = .ok (.iload_n 3, 1) := by decide +kernel
theorem dX7_cancelStroke_50 : decode cX7_cancelStroke 50 = .ok (.invokevirtual 186, 3) := by decide +kernel
theorem dX7_cancelStroke_53 : decode cX7_cancelStroke 53 = .ok (.aload_n 0, 1) := by decide +kernel
theorem dX7_cancelStroke_54 : decode cX7_cancelStroke 54 = .ok (.getfield 171, 3) := by decide +kernel
theorem dX7_cancelStroke_57 : decode cX7_cancelStroke 57 = .ok (.ireturn, 1) := by decide +kernel
theorem dX7_scheduledCount_0 : decode cX7_scheduledCount 0 = .ok (.aload_n 0, 1) := by decide +kernel
theorem dX7_scheduledCount_1 : decode cX7_scheduledCount 1 = .ok (.iconst 0, 1) := by decide +kernel
theorem dX7_scheduledCount_2 : decode cX7_scheduledCount 2 = .ok (.putfield 1, 3) := by decide +kernel
theorem dX7_scheduledCount_5 : decode cX7_scheduledCount 5 = .ok (.aload_n 0, 1) := by decide +kernel
theorem dX7_scheduledCount_6 : decode cX7_scheduledCount 6 = .ok (.getfield 171, 3) := by decide +kernel
theorem dX7_scheduledCount_9 : decode cX7_scheduledCount 9 = .ok (.ireturn, 1) := by decide +kernel
theorem dX7_nextOf_0 : decode cX7_nextOf 0 = .ok (.iconst (-1), 1) := by decide +kernel
theorem dX7_nextOf_1 : decode cX7_nextOf 1 = .ok (.istore_n 2, 1) := by decide +kernel
theorem dX7_nextOf_2 : decode cX7_nextOf 2 = .ok (.iconst 0, 1) := by decide +kernel
theorem dX7_nextOf_3 : decode cX7_nextOf 3 = .ok (.istore_n 3, 1) := by decide +kernel
theorem dX7_nextOf_4 : decode cX7_nextOf 4 = .ok (.iload_n 3, 1) := by decide +kernel
theorem dX7_nextOf_5 : decode cX7_nextOf 5 = .ok (.aload_n 0, 1) := by decide +kernel
theorem dX7_nextOf_6 : decode cX7_nextOf 6 = .ok (.getfield 171, 3) := by decide +kernel
theorem dX7_nextOf_9 : decode cX7_nextOf 9 = .ok (.if_icmp .ge 41, 3) := by decide +kernel
theorem dX7_nextOf_12 : decode cX7_nextOf 12 = .ok (.aload_n 0, 1) := by decide +kernel
theorem dX7_nextOf_13 : decode cX7_nextOf 13 = .ok (.getfield 39, 3) := by decide +kernel
theorem dX7_nextOf_16 : decode cX7_nextOf 16 = .ok (.iload_n 3, 1) := by decide +kernel
theorem dX7_nextOf_17 : decode cX7_nextOf 17 = .ok (.iaload, 1) := by decide +kernel
theorem dX7_nextOf_18 : decode cX7_nextOf 18 = .ok (.iload_n 1, 1) := by decide +kernel
theorem dX7_nextOf_19 : decode cX7_nextOf 19 = .ok (.if_icmp .ne 25, 3) := by decide +kernel
theorem dX7_nextOf_22 : decode cX7_nextOf 22 = .ok (.iload_n 2, 1) := by decide +kernel
theorem dX7_nextOf_23 : decode cX7_nextOf 23 = .ok (.iconst (-1), 1) := by decide +kernel
theorem dX7_nextOf_24 : decode cX7_nextOf 24 = .ok (.if_icmp .eq 13, 3) := by decide +kernel
theorem dX7_nextOf_27 : decode cX7_nextOf 27 = .ok (.aload_n 0, 1) := by decide +kernel
theorem dX7_nextOf_28 : decode cX7_nextOf 28 = .ok (.getfield 42, 3) := by decide +kernel
theorem dX7_nextOf_31 : decode cX7_nextOf 31 = .ok (.iload_n 3, 1) := by decide +kernel
theorem dX7_nextOf_32 : decode cX7_nextOf 32 = .ok (.iaload, 1) := by decide +kernel
theorem dX7_nextOf_33 : decode cX7_nextOf 33 = .ok (.iload_n 2, 1) := by decide +kernel
theorem dX7_nextOf_34 : decode cX7_nextOf 34 = .ok (.if_icmp .ge 10, 3) := by decide +kernel
theorem dX7_nextOf_37 : decode cX7_nextOf 37 = .ok (.aload_n 0, 1) := by decide +kernel
theorem dX7_nextOf_38 : decode cX7_nextOf 38 = .ok (.getfield 42, 3) := by decide +kernel
theorem dX7_nextOf_41 : decode cX7_nextOf 41 = .ok (.iload_n 3, 1) := by decide +kernel
theorem dX7_nextOf_42 : decode cX7_nextOf 42 = .ok (.iaload, 1) := by decide +kernel
theorem dX7_nextOf_43 : decode cX7_nextOf 43 = .ok (.istore_n 2, 1) := by decide +kernel
theorem dX7_nextOf_44 : decode cX7_nextOf 44 = .ok (.iinc 3 1, 3) := by decide +kernel
theorem dX7_nextOf_47 : decode cX7_nextOf 47 = .ok (.goto (-43), 3) := by decide +kernel
theorem dX7_nextOf_50 : decode cX7_nextOf 50 = .ok (.iload_n 2, 1) := by decide +kernel
theorem dX7_nextOf_51 : decode cX7_nextOf 51 = .ok (.ireturn, 1) := by decide +kernel
theorem dX7_nextStroke_0 : decode cX7_nextStroke 0 = .ok (.aload_n 0, 1) := by decide +kernel
theorem dX7_nextStroke_1 : decode cX7_nextStroke 1 = .ok (.iconst 0, 1) := by decide +kernel
theorem dX7_nextStroke_2 : decode cX7_nextStroke 2 = .ok (.putfield 1, 3) := by decide +kernel
theorem dX7_nextStroke_5 : decode cX7_nextStroke 5 = .ok (.aload_n 0, 1) := by decide +kernel
theorem dX7_nextStroke_6 : decode cX7_nextStroke 6 = .ok (.iload_n 1, 1) := by decide +kernel
theorem dX7_nextStroke_7 : decode cX7_nextStroke 7 = .ok (.invokevirtual 149, 3) := by decide +kernel
theorem dX7_nextStroke_10 : decode cX7_nextStroke 10 = .ok (.ifCond .eq 11, 3) := by decide +kernel
theorem dX7_nextStroke_13 : decode cX7_nextStroke 13 = .ok (.aload_n 0, 1) := by decide +kernel
theorem dX7_nextStroke_14 : decode cX7_nextStroke 14 = .ok (.iload_n 1, 1) := by decide +kernel
theorem dX7_nextStroke_15 : decode cX7_nextStroke 15 = .ok (.invokevirtual 190, 3) := by decide +kernel
theorem dX7_nextStroke_18 : decode cX7_nextStroke 18 = .ok (.goto 5, 3) := by decide +kernel
theorem dX7_nextStroke_21 : decode cX7_nextStroke 21 = .ok (.bipush (-2), 2) := by decide +kernel
theorem dX7_nextStroke_23 : decode cX7_nextStroke 23 = .ok (.ireturn, 1) := by decide +kernel
theorem dX7_ranked_0 : decode cX7_ranked 0 = .ok (.iload_n 1, 1) := by decide +kernel
theorem dX7_ranked_1 : decode cX7_ranked 1 = .ok (.ifCond .ge 6, 3) := by decide +kernel
theorem dX7_ranked_4 : decode cX7_ranked 4 = .ok (.bipush (-3), 2) := by decide +kernel
theorem dX7_ranked_6 : decode cX7_ranked 6 = .ok (.ireturn, 1) := by decide +kernel
theorem dX7_ranked_7 : decode cX7_ranked 7 = .ok (.iconst 0, 1) := by decide +kernel
theorem dX7_ranked_8 : decode cX7_ranked 8 = .ok (.istore_n 2, 1) := by decide +kernel
theorem dX7_ranked_9 : decode cX7_ranked 9 = .ok (.iload_n 2, 1) := by decide +kernel
theorem dX7_ranked_10 : decode cX7_ranked 10 = .ok (.aload_n 0, 1) := by decide +kernel
theorem dX7_ranked_11 : decode cX7_ranked 11 = .ok (.getfield 171, 3) := by decide +kernel
theorem dX7_ranked_14 : decode cX7_ranked 14 = .ok (.if_icmp .ge 92, 3) := by decide +kernel
theorem dX7_ranked_17 : decode cX7_ranked 17 = .ok (.iconst 0, 1) := by decide +kernel
theorem dX7_ranked_18 : decode cX7_ranked 18 = .ok (.istore_n 3, 1) := by decide +kernel
theorem dX7_ranked_19 : decode cX7_ranked 19 = .ok (.iconst 0, 1) := by decide +kernel
theorem dX7_ranked_20 : decode cX7_ranked 20 = .ok (.istore 4, 2) := by decide +kernel
theorem dX7_ranked_22 : decode cX7_ranked 22 = .ok (.iload 4, 2) := by decide +kernel
theorem dX7_ranked_24 : decode cX7_ranked 24 = .ok (.aload_n 0, 1) := by decide +kernel
theorem dX7_ranked_25 : decode cX7_ranked 25 = .ok (.getfield 171, 3) := by decide +kernel
theorem dX7_ranked_28 : decode cX7_ranked 28 = .ok (.if_icmp .ge 65, 3) := by decide +kernel
theorem dX7_ranked_31 : decode cX7_ranked 31 = .ok (.iload_n 3, 1) := by decide +kernel
theorem dX7_ranked_32 : decode cX7_ranked 32 = .ok (.aload_n 0, 1) := by decide +kernel
theorem dX7_ranked_33 : decode cX7_ranked 33 = .ok (.getfield 45, 3) := by decide +kernel
theorem dX7_ranked_36 : decode cX7_ranked 36 = .ok (.iload 4, 2) := by decide +kernel
theorem dX7_ranked_38 : decode cX7_ranked 38 = .ok (.iaload, 1) := by decide +kernel
theorem dX7_ranked_39 : decode cX7_ranked 39 = .ok (.aload_n 0, 1) := by decide +kernel
theorem dX7_ranked_40 : decode cX7_ranked 40 = .ok (.getfield 45, 3) := by decide +kernel
theorem dX7_ranked_43 : decode cX7_ranked 43 = .ok (.iload_n 2, 1) := by decide +kernel
theorem dX7_ranked_44 : decode cX7_ranked 44 = .ok (.iaload, 1) := by decide +kernel
theorem dX7_ranked_45 : decode cX7_ranked 45 = .ok (.if_icmp .lt 35, 3) := by decide +kernel
theorem dX7_ranked_48 : decode cX7_ranked 48 = .ok (.aload_n 0, 1) := by decide +kernel
theorem dX7_ranked_49 : decode cX7_ranked 49 = .ok (.getfield 45, 3) := by decide +kernel
theorem dX7_ranked_52 : decode cX7_ranked 52 = .ok (.iload 4, 2) := by decide +kernel
theorem dX7_ranked_54 : decode cX7_ranked 54 = .ok (.iaload, 1) := by decide +kernel
theorem dX7_ranked_55 : decode cX7_ranked 55 = .ok (.aload_n 0, 1) := by decide +kernel
theorem dX7_ranked_56 : decode cX7_ranked 56 = .ok (.getfield 45, 3) := by decide +kernel
theorem dX7_ranked_59 : decode cX7_ranked 59 = .ok (.iload_n 2, 1) := by decide +kernel
theorem dX7_ranked_60 : decode cX7_ranked 60 = .ok (.iaload, 1) := by decide +kernel
theorem dX7_ranked_61 : decode cX7_ranked 61 = .ok (.if_icmp .ne 23, 3) := by decide +kernel
theorem dX7_ranked_64 : decode cX7_ranked 64 = .ok (.aload_n 0, 1) := by decide +kernel
theorem dX7_ranked_65 : decode cX7_ranked 65 = .ok (.getfield 39, 3) := by decide +kernel
theorem dX7_ranked_68 : decode cX7_ranked 68 = .ok (.iload 4, 2) := by decide +kernel
theorem dX7_ranked_70 : decode cX7_ranked 70 = .ok (.iaload, 1) := by decide +kernel
theorem dX7_ranked_71 : decode cX7_ranked 71 = .ok (.aload_n 0, 1) := by decide +kernel
theorem dX7_ranked_72 : decode cX7_ranked 72 = .ok (.getfield 39, 3) := by decide +kernel
theorem dX7_ranked_75 : decode cX7_ranked 75 = .ok (.iload_n 2, 1) := by decide +kernel
theorem dX7_ranked_76 : decode cX7_ranked 76 = .ok (.iaload, 1) := by decide +kernel
theorem dX7_ranked_77 : decode cX7_ranked 77 = .ok (.if_icmp .ge 7, 3) := by decide +kernel
theorem dX7_ranked_80 : decode cX7_ranked 80 = .ok (.iconst 1, 1) := by decide +kernel
theorem dX7_ranked_81 : decode cX7_ranked 81 = .ok (.goto 4, 3) := by decide +kernel
theorem dX7_ranked_84 : decode cX7_ranked 84 = .ok (.iconst 0, 1) := by decide +kernel
theorem dX7_ranked_85 : decode cX7_ranked 85 = .ok (.iadd, 1) := by decide +kernel
theorem dX7_ranked_86 : decode cX7_ranked 86 = .ok (.istore_n 3, 1) := by decide +kernel
theorem dX7_ranked_87 : decode cX7_ranked 87 = .ok (.iinc 4 1, 3) := by decide +kernel
theorem dX7_ranked_90 : decode cX7_ranked 90 = .ok (.goto (-68), 3) := by decide +kernel
theorem dX7_ranked_93 : decode cX7_ranked 93 = .ok (.iload_n 3, 1) := by decide +kernel
theorem dX7_ranked_94 : decode cX7_ranked 94 = .ok (.iload_n 1, 1) := by decide +kernel
theorem dX7_ranked_95 : decode cX7_ranked 95 = .ok (.if_icmp .ne 5, 3) := by decide +kernel
theorem dX7_ranked_98 : decode cX7_ranked 98 = .ok (.iload_n 2, 1) := by decide +kernel
theorem dX7_ranked_99 : decode cX7_ranked 99 = .ok (.ireturn, 1) := by decide +kernel
theorem dX7_ranked_100 : decode cX7_ranked 100 = .ok (.iinc 2 1, 3) := by decide +kernel
theorem dX7_ranked_103 : decode cX7_ranked 103 = .ok (.goto (-94), 3) := by decide +kernel
theorem dX7_ranked_106 : decode cX7_ranked 106 = .ok (.iconst (-1), 1) := by decide +kernel
theorem dX7_ranked_107 : decode cX7_ranked 107 = .ok (.ireturn, 1) := by decide +kernel
theorem dX7_commandTime_0 : decode cX7_commandTime 0 = .ok (.aload_n 0, 1) := by decide +kernel
theorem dX7_commandTime_1 : decode cX7_commandTime 1 = .ok (.iconst 0, 1) := by decide +kernel
theorem dX7_commandTime_2 : decode cX7_commandTime 2 = .ok (.putfield 1, 3) := by decide +kernel
theorem dX7_commandTime_5 : decode cX7_commandTime 5 = .ok (.aload_n 0, 1) := by decide +kernel
theorem dX7_commandTime_6 : decode cX7_commandTime 6 = .ok (.iload_n 1, 1) := by decide +kernel
theorem dX7_commandTime_7 : decode cX7_commandTime 7 = .ok (.invokevirtual 193, 3) := by decide +kernel
theorem dX7_commandTime_10 : decode cX7_commandTime 10 = .ok (.istore_n 2, 1) := by decide +kernel
theorem dX7_commandTime_11 : decode cX7_commandTime 11 = .ok (.iload_n 2, 1) := by decide +kernel
theorem dX7_commandTime_12 : decode cX7_commandTime 12 = .ok (.ifCond .ge 7, 3) := by decide +kernel
theorem dX7_commandTime_15 : decode cX7_commandTime 15 = .ok (.iload_n 2, 1) := by decide +kernel
theorem dX7_commandTime_16 : decode cX7_commandTime 16 = .ok (.goto 9, 3) := by decide +kernel
theorem dX7_commandTime_19 : decode cX7_commandTime 19 = .ok (.aload_n 0, 1) := by decide +kernel
theorem dX7_commandTime_20 : decode cX7_commandTime 20 = .ok (.getfield 45, 3) := by decide +kernel
theorem dX7_commandTime_23 : decode cX7_commandTime 23 = .ok (.iload_n 2, 1) := by decide +kernel
theorem dX7_commandTime_24 : decode cX7_commandTime 24 = .ok (.iaload, 1) := by decide +kernel
theorem dX7_commandTime_25 : decode cX7_commandTime 25 = .ok (.ireturn, 1) := by decide +kernel
theorem dX7_commandBell_0 : decode cX7_commandBell 0 = .ok (.aload_n 0, 1) := by decide +kernel
theorem dX7_commandBell_1 : decode cX7_commandBell 1 = .ok (.iconst 0, 1) := by decide +kernel
theorem dX7_commandBell_2 : decode cX7_commandBell 2 = .ok (.putfield 1, 3) := by decide +kernel
theorem dX7_commandBell_5 : decode cX7_commandBell 5 = .ok (.aload_n 0, 1) := by decide +kernel
theorem dX7_commandBell_6 : decode cX7_commandBell 6 = .ok (.iload_n 1, 1) := by decide +kernel
theorem dX7_commandBell_7 : decode cX7_commandBell 7 = .ok (.invokevirtual 193, 3) := by decide +kernel
theorem dX7_commandBell_10 : decode cX7_commandBell 10 = .ok (.istore_n 2, 1) := by decide +kernel
theorem dX7_commandBell_11 : decode cX7_commandBell 11 = .ok (.iload_n 2, 1) := by decide +kernel
theorem dX7_commandBell_12 : decode cX7_commandBell 12 = .ok (.ifCond .ge 7, 3) := by decide +kernel
theorem dX7_commandBell_15 : decode cX7_commandBell 15 = .ok (.iload_n 2, 1) := by decide +kernel
theorem dX7_commandBell_16 : decode cX7_commandBell 16 = .ok (.goto 9, 3) := by decide +kernel
theorem dX7_commandBell_19 : decode cX7_commandBell 19 = .ok (.aload_n 0, 1) := by decide +kernel
theorem dX7_commandBell_20 : decode cX7_commandBell 20 = .ok (.getfield 39, 3) := by decide +kernel
theorem dX7_commandBell_23 : decode cX7_commandBell 23 = .ok (.iload_n 2, 1) := by decide +kernel
theorem dX7_commandBell_24 : decode cX7_commandBell 24 = .ok (.iaload, 1) := by decide +kernel
theorem dX7_commandBell_25 : decode cX7_commandBell 25 = .ok (.ireturn, 1) := by decide +kernel
theorem dX7_movingHammers_0 : decode cX7_movingHammers 0 = .ok (.aload_n 0, 1) := by decide +kernel
theorem dX7_movingHammers_1 : decode cX7_movingHammers 1 = .ok (.iconst 0, 1) := by decide +kernel
theorem dX7_movingHammers_2 : decode cX7_movingHammers 2 = .ok (.putfield 1, 3) := by decide +kernel
theorem dX7_movingHammers_5 : decode cX7_movingHammers 5 = .ok (.iload_n 1, 1) := by decide +kernel
theorem dX7_movingHammers_6 : decode cX7_movingHammers 6 = .ok (.i2l, 1) := by decide +kernel
theorem dX7_movingHammers_7 : decode cX7_movingHammers 7 = .ok (.aload_n 0, 1) := by decide +kernel
theorem dX7_movingHammers_8 : decode cX7_movingHammers 8 = .ok (.getfield 158, 3) := by decide +kernel
theorem dX7_movingHammers_11 : decode cX7_movingHammers 11 = .ok (.i2l, 1) := by decide +kernel
theorem dX7_movingHammers_12 : decode cX7_movingHammers 12 = .ok (.ldc2_w 169, 3) := by decide +kernel
theorem dX7_movingHammers_15 : decode cX7_movingHammers 15 = .ok (.invokestatic 135, 3) := by decide +kernel
theorem dX7_movingHammers_18 : decode cX7_movingHammers 18 = .ok (.ifCond .ne 6, 3) := by decide +kernel
theorem dX7_movingHammers_21 : decode cX7_movingHammers 21 = .ok (.bipush (-3), 2) := by decide +kernel
theorem dX7_movingHammers_23 : decode cX7_movingHammers 23 = .ok (.ireturn, 1) := by decide +kernel
theorem dX7_movingHammers_24 : decode cX7_movingHammers 24 = .ok (.iconst 0, 1) := by decide +kernel
theorem dX7_movingHammers_25 : decode cX7_movingHammers 25 = .ok (.istore_n 2, 1) := by decide +kernel
theorem dX7_movingHammers_26 : decode cX7_movingHammers 26 = .ok (.iconst 0, 1) := by decide +kernel
theorem dX7_movingHammers_27 : decode cX7_movingHammers 27 = .ok (.istore_n 3, 1) := by decide +kernel
theorem dX7_movingHammers_28 : decode cX7_movingHammers 28 = .ok (.iload_n 3, 1) := by decide +kernel
theorem dX7_movingHammers_29 : decode cX7_movingHammers 29 = .ok (.aload_n 0, 1) := by decide +kernel
theorem dX7_movingHammers_30 : decode cX7_movingHammers 30 = .ok (.getfield 171, 3) := by decide +kernel
theorem dX7_movingHammers_33 : decode cX7_movingHammers 33 = .ok (.if_icmp .ge 41, 3) := by decide +kernel
theorem dX7_movingHammers_36 : decode cX7_movingHammers 36 = .ok (.iload_n 2, 1) := by decide +kernel
theorem dX7_movingHammers_37 : decode cX7_movingHammers 37 = .ok (.iload_n 1, 1) := by decide +kernel
theorem dX7_movingHammers_38 : decode cX7_movingHammers 38 = .ok (.i2l, 1) := by decide +kernel
theorem dX7_movingHammers_39 : decode cX7_movingHammers 39 = .ok (.aload_n 0, 1) := by decide +kernel
theorem dX7_movingHammers_40 : decode cX7_movingHammers 40 = .ok (.getfield 45, 3) := by decide +kernel
theorem dX7_movingHammers_43 : decode cX7_movingHammers 43 = .ok (.iload_n 3, 1) := by decide +kernel
theorem dX7_movingHammers_44 : decode cX7_movingHammers 44 = .ok (.iaload, 1) := by decide +kernel
theorem dX7_movingHammers_45 : decode cX7_movingHammers 45 = .ok (.i2l, 1) := by decide +kernel
theorem dX7_movingHammers_46 : decode cX7_movingHammers 46 = .ok (.aload_n 0, 1) := by decide +kernel
theorem dX7_movingHammers_47 : decode cX7_movingHammers 47 = .ok (.getfield 42, 3) := by decide +kernel
theorem dX7_movingHammers_50 : decode cX7_movingHammers 50 = .ok (.iload_n 3, 1) := by decide +kernel
theorem dX7_movingHammers_51 : decode cX7_movingHammers 51 = .ok (.iaload, 1) := by decide +kernel
theorem dX7_movingHammers_52 : decode cX7_movingHammers 52 = .ok (.iconst 1, 1) := by decide +kernel
theorem dX7_movingHammers_53 : decode cX7_movingHammers 53 = .ok (.isub, 1) := by decide +kernel
theorem dX7_movingHammers_54 : decode cX7_movingHammers 54 = .ok (.i2l, 1) := by decide +kernel
theorem dX7_movingHammers_55 : decode cX7_movingHammers 55 = .ok (.invokestatic 135, 3) := by decide +kernel
theorem dX7_movingHammers_58 : decode cX7_movingHammers 58 = .ok (.ifCond .eq 7, 3) := by decide +kernel
theorem dX7_movingHammers_61 : decode cX7_movingHammers 61 = .ok (.iconst 1, 1) := by decide +kernel
theorem dX7_movingHammers_62 : decode cX7_movingHammers 62 = .ok (.goto 4, 3) := by decide +kernel
theorem dX7_movingHammers_65 : decode cX7_movingHammers 65 = .ok (.iconst 0, 1) := by decide +kernel
theorem dX7_movingHammers_66 : decode cX7_movingHammers 66 = .ok (.iadd, 1) := by decide +kernel
theorem dX7_movingHammers_67 : decode cX7_movingHammers 67 = .ok (.istore_n 2, 1) := by decide +kernel
theorem dX7_movingHammers_68 : decode cX7_movingHammers 68 = .ok (.iinc 3 1, 3) := by decide +kernel
theorem dX7_movingHammers_71 : decode cX7_movingHammers 71 = .ok (.goto (-43), 3) := by decide +kernel
theorem dX7_movingHammers_74 : decode cX7_movingHammers 74 = .ok (.iload_n 2, 1) := by decide +kernel
theorem dX7_movingHammers_75 : decode cX7_movingHammers 75 = .ok (.ireturn, 1) := by decide +kernel
theorem dX7_earliestStroke_0 : decode cX7_earliestStroke 0 = .ok (.aload_n 0, 1) := by decide +kernel
theorem dX7_earliestStroke_1 : decode cX7_earliestStroke 1 = .ok (.iconst 0, 1) := by decide +kernel
theorem dX7_earliestStroke_2 : decode cX7_earliestStroke 2 = .ok (.putfield 1, 3) := by decide +kernel
theorem dX7_earliestStroke_5 : decode cX7_earliestStroke 5 = .ok (.aload_n 0, 1) := by decide +kernel
theorem dX7_earliestStroke_6 : decode cX7_earliestStroke 6 = .ok (.iload_n 1, 1) := by decide +kernel
theorem dX7_earliestStroke_7 : decode cX7_earliestStroke 7 = .ok (.invokevirtual 149, 3) := by decide +kernel
theorem dX7_earliestStroke_10 : decode cX7_earliestStroke 10 = .ok (.ifCond .ne 6, 3) := by decide +kernel
theorem dX7_earliestStroke_13 : decode cX7_earliestStroke 13 = .ok (.bipush (-2), 2) := by decide +kernel
theorem dX7_earliestStroke_15 : decode cX7_earliestStroke 15 = .ok (.ireturn, 1) := by decide +kernel
theorem dX7_earliestStroke_16 : decode cX7_earliestStroke 16 = .ok (.iload_n 2, 1) := by decide +kernel
theorem dX7_earliestStroke_17 : decode cX7_earliestStroke 17 = .ok (.i2l, 1) := by decide +kernel
theorem dX7_earliestStroke_18 : decode cX7_earliestStroke 18 = .ok (.lconst 0, 1) := by decide +kernel
theorem dX7_earliestStroke_19 : decode cX7_earliestStroke 19 = .ok (.ldc2_w 169, 3) := by decide +kernel
theorem dX7_earliestStroke_22 : decode cX7_earliestStroke 22 = .ok (.invokestatic 135, 3) := by decide +kernel
theorem dX7_earliestStroke_25 : decode cX7_earliestStroke 25 = .ok (.ifCond .ne 6, 3) := by decide +kernel
theorem dX7_earliestStroke_28 : decode cX7_earliestStroke 28 = .ok (.bipush (-3), 2) := by decide +kernel
theorem dX7_earliestStroke_30 : decode cX7_earliestStroke 30 = .ok (.ireturn, 1) := by decide +kernel
theorem dX7_earliestStroke_31 : decode cX7_earliestStroke 31 = .ok (.aload_n 0, 1) := by decide +kernel
theorem dX7_earliestStroke_32 : decode cX7_earliestStroke 32 = .ok (.getfield 99, 3) := by decide +kernel
theorem dX7_earliestStroke_35 : decode cX7_earliestStroke 35 = .ok (.iload_n 1, 1) := by decide +kernel
theorem dX7_earliestStroke_36 : decode cX7_earliestStroke 36 = .ok (.baload, 1) := by decide +kernel
theorem dX7_earliestStroke_37 : decode cX7_earliestStroke 37 = .ok (.ifCond .eq 6, 3) := by decide +kernel
theorem dX7_earliestStroke_40 : decode cX7_earliestStroke 40 = .ok (.bipush (-6), 2) := by decide +kernel
theorem dX7_earliestStroke_42 : decode cX7_earliestStroke 42 = .ok (.ireturn, 1) := by decide +kernel
theorem dX7_earliestStroke_43 : decode cX7_earliestStroke 43 = .ok (.aload_n 0, 1) := by decide +kernel
theorem dX7_earliestStroke_44 : decode cX7_earliestStroke 44 = .ok (.getfield 171, 3) := by decide +kernel
theorem dX7_earliestStroke_47 : decode cX7_earliestStroke 47 = .ok (.sipush 300, 3) := by decide +kernel
theorem dX7_earliestStroke_50 : decode cX7_earliestStroke 50 = .ok (.if_icmp .ne 6, 3) := by decide +kernel
theorem dX7_earliestStroke_53 : decode cX7_earliestStroke 53 = .ok (.bipush (-4), 2) := by decide +kernel
theorem dX7_earliestStroke_55 : decode cX7_earliestStroke 55 = .ok (.ireturn, 1) := by decide +kernel
theorem dX7_earliestStroke_56 : decode cX7_earliestStroke 56 = .ok (.iload_n 2, 1) := by decide +kernel
theorem dX7_earliestStroke_57 : decode cX7_earliestStroke 57 = .ok (.istore_n 3, 1) := by decide +kernel
theorem dX7_earliestStroke_58 : decode cX7_earliestStroke 58 = .ok (.iload_n 3, 1) := by decide +kernel
theorem dX7_earliestStroke_59 : decode cX7_earliestStroke 59 = .ok (.iload_n 2, 1) := by decide +kernel
theorem dX7_earliestStroke_60 : decode cX7_earliestStroke 60 = .ok (.sipush 2000, 3) := by decide +kernel
theorem dX7_earliestStroke_63 : decode cX7_earliestStroke 63 = .ok (.iadd, 1) := by decide +kernel
theorem dX7_earliestStroke_64 : decode cX7_earliestStroke 64 = .ok (.if_icmp .gt 27, 3) := by decide +kernel
theorem dX7_earliestStroke_67 : decode cX7_earliestStroke 67 = .ok (.iload_n 3, 1) := by decide +kernel
theorem dX7_earliestStroke_68 : decode cX7_earliestStroke 68 = .ok (.ldc 196, 2) := by decide +kernel
theorem dX7_earliestStroke_70 : decode cX7_earliestStroke 70 = .ok (.if_icmp .gt 21, 3) := by decide +kernel
theorem dX7_earliestStroke_73 : decode cX7_earliestStroke 73 = .ok (.aload_n 0, 1) := by decide +kernel
theorem dX7_earliestStroke_74 : decode cX7_earliestStroke 74 = .ok (.iload_n 1, 1) := by decide +kernel
theorem dX7_earliestStroke_75 : decode cX7_earliestStroke 75 = .ok (.iload_n 3, 1) := by decide +kernel
theorem dX7_earliestStroke_76 : decode cX7_earliestStroke 76 = .ok (.i2l, 1) := by decide +kernel
theorem dX7_earliestStroke_77 : decode cX7_earliestStroke 77 = .ok (.invokevirtual 174, 3) := by decide +kernel
theorem dX7_earliestStroke_80 : decode cX7_earliestStroke 80 = .ok (.ifCond .ne 5, 3) := by decide +kernel
theorem dX7_earliestStroke_83 : decode cX7_earliestStroke 83 = .ok (.iload_n 3, 1) := by decide +kernel
theorem dX7_earliestStroke_84 : decode cX7_earliestStroke 84 = .ok (.ireturn, 1) := by decide +kernel
theorem dX7_earliestStroke_85 : decode cX7_earliestStroke 85 = .ok (.iinc 3 1, 3) := by decide +kernel
theorem dX7_earliestStroke_88 : decode cX7_earliestStroke 88 = .ok (.goto (-30), 3) := by decide +kernel
theorem dX7_earliestStroke_91 : decode cX7_earliestStroke 91 = .ok (.iconst (-1), 1) := by decide +kernel
theorem dX7_earliestStroke_92 : decode cX7_earliestStroke 92 = .ok (.ireturn, 1) := by decide +kernel
theorem dX7_appendBytes_0 : decode cX7_appendBytes 0 = .ok (.aload_n 0, 1) := by decide +kernel
theorem dX7_appendBytes_1 : decode cX7_appendBytes 1 = .ok (.iconst 0, 1) := by decide +kernel
theorem dX7_appendBytes_2 : decode cX7_appendBytes 2 = .ok (.putfield 1, 3) := by decide +kernel
theorem dX7_appendBytes_5 : decode cX7_appendBytes 5 = .ok (.aload_n 0, 1) := by decide +kernel
theorem dX7_appendBytes_6 : decode cX7_appendBytes 6 = .ok (.getfield 197, 3) := by decide +kernel
theorem dX7_appendBytes_9 : decode cX7_appendBytes 9 = .ok (.bipush 20, 2) := by decide +kernel
theorem dX7_appendBytes_11 : decode cX7_appendBytes 11 = .ok (.iadd, 1) := by decide +kernel
theorem dX7_appendBytes_12 : decode cX7_appendBytes 12 = .ok (.sipush 300, 3) := by decide +kernel
theorem dX7_appendBytes_15 : decode cX7_appendBytes 15 = .ok (.if_icmp .le 6, 3) := by decide +kernel
theorem dX7_appendBytes_18 : decode cX7_appendBytes 18 = .ok (.bipush (-4), 2) := by decide +kernel
theorem dX7_appendBytes_20 : decode cX7_appendBytes 20 = .ok (.ireturn, 1) := by decide +kernel
theorem dX7_appendBytes_21 : decode cX7_appendBytes 21 = .ok (.iconst 0, 1) := by decide +kernel
theorem dX7_appendBytes_22 : decode cX7_appendBytes 22 = .ok (.istore 6, 2) := by decide +kernel
theorem dX7_appendBytes_24 : decode cX7_appendBytes 24 = .ok (.iload 6, 2) := by decide +kernel
theorem dX7_appendBytes_26 : decode cX7_appendBytes 26 = .ok (.bipush 20, 2) := by decide +kernel
theorem dX7_appendBytes_28 : decode cX7_appendBytes 28 = .ok (.if_icmp .ge 93, 3) := by decide +kernel
theorem dX7_appendBytes_31 : decode cX7_appendBytes 31 = .ok (.iload 6, 2) := by decide +kernel
theorem dX7_appendBytes_33 : decode cX7_appendBytes 33 = .ok (.iconst 4, 1) := by decide +kernel
theorem dX7_appendBytes_34 : decode cX7_appendBytes 34 = .ok (.if_icmp .ge 7, 3) := by decide +kernel
theorem dX7_appendBytes_37 : decode cX7_appendBytes 37 = .ok (.iload_n 1, 1) := by decide +kernel
theorem dX7_appendBytes_38 : decode cX7_appendBytes 38 = .ok (.goto 39, 3) := by decide +kernel
theorem dX7_appendBytes_41 : decode cX7_appendBytes 41 = .ok (.iload 6, 2) := by decide +kernel
theorem dX7_appendBytes_43 : decode cX7_appendBytes 43 = .ok (.bipush 8, 2) := by decide +kernel
theorem dX7_appendBytes_45 : decode cX7_appendBytes 45 = .ok (.if_icmp .ge 7, 3) := by decide +kernel
theorem dX7_appendBytes_48 : decode cX7_appendBytes 48 = .ok (.iload_n 2, 1) := by decide +kernel
theorem dX7_appendBytes_49 : decode cX7_appendBytes 49 = .ok (.goto 28, 3) := by decide +kernel
theorem dX7_appendBytes_52 : decode cX7_appendBytes 52 = .ok (.iload 6, 2) := by decide +kernel
theorem dX7_appendBytes_54 : decode cX7_appendBytes 54 = .ok (.bipush 12, 2) := by decide +kernel
theorem dX7_appendBytes_56 : decode cX7_appendBytes 56 = .ok (.if_icmp .ge 7, 3) := by decide +kernel
theorem dX7_appendBytes_59 : decode cX7_appendBytes 59 = .ok (.iload_n 3, 1) := by decide +kernel
theorem dX7_appendBytes_60 : decode cX7_appendBytes 60 = .ok (.goto 17, 3) := by decide +kernel
theorem dX7_appendBytes_63 : decode cX7_appendBytes 63 = .ok (.iload 6, 2) := by decide +kernel
theorem dX7_appendBytes_65 : decode cX7_appendBytes 65 = .ok (.bipush 16, 2) := by decide +kernel
theorem dX7_appendBytes_67 : decode cX7_appendBytes 67 = .ok (.if_icmp .ge 8, 3) := by decide +kernel
theorem dX7_appendBytes_70 : decode cX7_appendBytes 70 = .ok (.iload 4, 2) := by decide +kernel
theorem dX7_appendBytes_72 : decode cX7_appendBytes 72 = .ok (.goto 5, 3) := by decide +kernel
theorem dX7_appendBytes_75 : decode cX7_appendBytes 75 = .ok (.iload 5, 2) := by decide +kernel
theorem dX7_appendBytes_77 : decode cX7_appendBytes 77 = .ok (.istore 7, 2) := by decide +kernel
theorem dX7_appendBytes_79 : decode cX7_appendBytes 79 = .ok (.aload_n 0, 1) := by decide +kernel
theorem dX7_appendBytes_80 : decode cX7_appendBytes 80 = .ok (.getfield 51, 3) := by decide +kernel
theorem dX7_appendBytes_83 : decode cX7_appendBytes 83 = .ok (.aload_n 0, 1) := by decide +kernel
theorem dX7_appendBytes_84 : decode cX7_appendBytes 84 = .ok (.getfield 197, 3) := by decide +kernel
theorem dX7_appendBytes_87 : decode cX7_appendBytes 87 = .ok (.iload 7, 2) := by decide +kernel
theorem dX7_appendBytes_89 : decode cX7_appendBytes 89 = .ok (.bipush 24, 2) := by decide +kernel
theorem dX7_appendBytes_91 : decode cX7_appendBytes 91 = .ok (.bipush 8, 2) := by decide +kernel
theorem dX7_appendBytes_93 : decode cX7_appendBytes 93 = .ok (.iload 6, 2) := by decide +kernel
theorem dX7_appendBytes_95 : decode cX7_appendBytes 95 = .ok (.iconst 4, 1) := by decide +kernel
theorem dX7_appendBytes_96 : decode cX7_appendBytes 96 = .ok (.irem, 1) := by decide +kernel
theorem dX7_appendBytes_97 : decode cX7_appendBytes 97 = .ok (.imul, 1) := by decide +kernel
theorem dX7_appendBytes_98 : decode cX7_appendBytes 98 = .ok (.isub, 1) := by decide +kernel
theorem dX7_appendBytes_99 : decode cX7_appendBytes 99 = .ok (.ishr, 1) := by decide +kernel
theorem dX7_appendBytes_100 : decode cX7_appendBytes 100 = .ok (.sipush 255, 3) := by decide +kernel
theorem dX7_appendBytes_103 : decode cX7_appendBytes 103 = .ok (.iand, 1) := by decide +kernel
theorem dX7_appendBytes_104 : decode cX7_appendBytes 104 = .ok (.iastore, 1) := by decide +kernel
theorem dX7_appendBytes_105 : decode cX7_appendBytes 105 = .ok (.aload_n 0, 1) := by decide +kernel
theorem dX7_appendBytes_106 : decode cX7_appendBytes 106 = .ok (.dup, 1) := by decide +kernel
theorem dX7_appendBytes_107 : decode cX7_appendBytes 107 = .ok (.getfield 197, 3) := by decide +kernel
theorem dX7_appendBytes_110 : decode cX7_appendBytes 110 = .ok (.iconst 1, 1) := by decide +kernel
theorem dX7_appendBytes_111 : decode cX7_appendBytes 111 = .ok (.iadd, 1) := by decide +kernel
theorem dX7_appendBytes_112 : decode cX7_appendBytes 112 = .ok (.putfield 197, 3) := by decide +kernel
theorem dX7_appendBytes_115 : decode cX7_appendBytes 115 = .ok (.iinc 6 1, 3) := by decide +kernel
theorem dX7_appendBytes_118 : decode cX7_appendBytes 118 = .ok (.goto (-94), 3) := by decide +kernel
theorem dX7_appendBytes_121 : decode cX7_appendBytes 121 = .ok (.aload_n 0, 1) := by decide +kernel
theorem dX7_appendBytes_122 : decode cX7_appendBytes 122 = .ok (.getfield 197, 3) := by decide +kernel
theorem dX7_appendBytes_125 : decode cX7_appendBytes 125 = .ok (.ireturn, 1) := by decide +kernel
theorem dX7_fails_0 : decode cX7_fails 0 = .ok (.aload_n 0, 1) := by decide +kernel
theorem dX7_fails_1 : decode cX7_fails 1 = .ok (.getfield 200, 3) := by decide +kernel
theorem dX7_fails_4 : decode cX7_fails 4 = .ok (.ifCond .eq 4, 3) := by decide +kernel
theorem dX7_fails_7 : decode cX7_fails 7 = .ok (.return_, 1) := by decide +kernel
theorem dX7_fails_8 : decode cX7_fails 8 = .ok (.aload_n 0, 1) := by decide +kernel
theorem dX7_fails_9 : decode cX7_fails 9 = .ok (.iload_n 1, 1) := by decide +kernel
theorem dX7_fails_10 : decode cX7_fails 10 = .ok (.putfield 200, 3) := by decide +kernel
theorem dX7_fails_13 : decode cX7_fails 13 = .ok (.aload_n 0, 1) := by decide +kernel
theorem dX7_fails_14 : decode cX7_fails 14 = .ok (.iload_n 2, 1) := by decide +kernel
theorem dX7_fails_15 : decode cX7_fails 15 = .ok (.putfield 203, 3) := by decide +kernel
theorem dX7_fails_18 : decode cX7_fails 18 = .ok (.return_, 1) := by decide +kernel
theorem dX7_here_0 : decode cX7_here 0 = .ok (.aload_n 0, 1) := by decide +kernel
theorem dX7_here_1 : decode cX7_here 1 = .ok (.getfield 206, 3) := by decide +kernel
theorem dX7_here_4 : decode cX7_here 4 = .ok (.aload_n 0, 1) := by decide +kernel
theorem dX7_here_5 : decode cX7_here 5 = .ok (.getfield 209, 3) := by decide +kernel
theorem dX7_here_8 : decode cX7_here 8 = .ok (.if_icmp .ge 15, 3) := by decide +kernel
theorem dX7_here_11 : decode cX7_here 11 = .ok (.aload_n 0, 1) := by decide +kernel
theorem dX7_here_12 : decode cX7_here 12 = .ok (.getfield 51, 3) := by decide +kernel
theorem dX7_here_15 : decode cX7_here 15 = .ok (.aload_n 0, 1) := by decide +kernel
theorem dX7_here_16 : decode cX7_here 16 = .ok (.getfield 206, 3) := by decide +kernel
theorem dX7_here_19 : decode cX7_here 19 = .ok (.iaload, 1) := by decide +kernel
theorem dX7_here_20 : decode cX7_here 20 = .ok (.goto 4, 3) := by decide +kernel
theorem dX7_here_23 : decode cX7_here 23 = .ok (.iconst (-1), 1) := by decide +kernel
theorem dX7_here_24 : decode cX7_here 24 = .ok (.ireturn, 1) := by decide +kernel
theorem dX7_isDigit_0 : decode cX7_isDigit 0 = .ok (.aload_n 0, 1) := by decide +kernel
theorem dX7_isDigit_1 : decode cX7_isDigit 1 = .ok (.invokevirtual 212, 3) := by decide +kernel
theorem dX7_isDigit_4 : decode cX7_isDigit 4 = .ok (.i2l, 1) := by decide +kernel
theorem dX7_isDigit_5 : decode cX7_isDigit 5 = .ok (.ldc2_w 215, 3) := by decide +kernel
theorem dX7_isDigit_8 : decode cX7_isDigit 8 = .ok (.ldc2_w 217, 3) := by decide +kernel
theorem dX7_isDigit_11 : decode cX7_isDigit 11 = .ok (.invokestatic 135, 3) := by decide +kernel
theorem dX7_isDigit_14 : decode cX7_isDigit 14 = .ok (.ireturn, 1) := by decide +kernel
theorem dX7_isLetter_0 : decode cX7_isLetter 0 = .ok (.aload_n 0, 1) := by decide +kernel
theorem dX7_isLetter_1 : decode cX7_isLetter 1 = .ok (.invokevirtual 212, 3) := by decide +kernel
theorem dX7_isLetter_4 : decode cX7_isLetter 4 = .ok (.i2l, 1) := by decide +kernel
theorem dX7_isLetter_5 : decode cX7_isLetter 5 = .ok (.ldc2_w 219, 3) := by decide +kernel
theorem dX7_isLetter_8 : decode cX7_isLetter 8 = .ok (.ldc2_w 221, 3) := by decide +kernel
theorem dX7_isLetter_11 : decode cX7_isLetter 11 = .ok (.invokestatic 135, 3) := by decide +kernel
theorem dX7_isLetter_14 : decode cX7_isLetter 14 = .ok (.ireturn, 1) := by decide +kernel
theorem dX7_number_0 : decode cX7_number 0 = .ok (.aload_n 0, 1) := by decide +kernel
theorem dX7_number_1 : decode cX7_number 1 = .ok (.invokevirtual 223, 3) := by decide +kernel
theorem dX7_number_4 : decode cX7_number 4 = .ok (.ifCond .ne 14, 3) := by decide +kernel
theorem dX7_number_7 : decode cX7_number 7 = .ok (.aload_n 0, 1) := by decide +kernel
theorem dX7_number_8 : decode cX7_number 8 = .ok (.iconst 1, 1) := by decide +kernel
theorem dX7_number_9 : decode cX7_number 9 = .ok (.aload_n 0, 1) := by decide +kernel
theorem dX7_number_10 : decode cX7_number 10 = .ok (.getfield 206, 3) := by decide +kernel
theorem dX7_number_13 : decode cX7_number 13 = .ok (.invokevirtual 227, 3) := by decide +kernel
theorem dX7_number_16 : decode cX7_number 16 = .ok (.iconst 1, 1) := by decide +kernel
theorem dX7_number_17 : decode cX7_number 17 = .ok (.ireturn, 1) := by decide +kernel
theorem dX7_number_18 : decode cX7_number 18 = .ok (.aload_n 0, 1) := by decide +kernel
theorem dX7_number_19 : decode cX7_number 19 = .ok (.getfield 206, 3) := by decide +kernel
theorem dX7_number_22 : decode cX7_number 22 = .ok (.istore_n 1, 1) := by decide +kernel
theorem dX7_number_23 : decode cX7_number 23 = .ok (.iconst 0, 1) := by decide +kernel
theorem dX7_number_24 : decode cX7_number 24 = .ok (.istore_n 2, 1) := by decide +kernel
theorem dX7_number_25 : decode cX7_number 25 = .ok (.iconst 0, 1) := by decide +kernel
theorem dX7_number_26 : decode cX7_number 26 = .ok (.istore_n 3, 1) := by decide +kernel
theorem dX7_number_27 : decode cX7_number 27 = .ok (.iload_n 3, 1) := by decide +kernel
theorem dX7_number_28 : decode cX7_number 28 = .ok (.iconst 2, 1) := by decide +kernel
theorem dX7_number_29 : decode cX7_number 29 = .ok (.if_icmp .ge 39, 3) := by decide +kernel
theorem dX7_number_32 : decode cX7_number 32 = .ok (.aload_n 0, 1) := by decide +kernel
theorem dX7_number_33 : decode cX7_number 33 = .ok (.invokevirtual 223, 3) := by decide +kernel
theorem dX7_number_36 : decode cX7_number 36 = .ok (.ifCond .eq 32, 3) := by decide +kernel
theorem dX7_number_39 : decode cX7_number 39 = .ok (.bipush 10, 2) := by decide +kernel
theorem dX7_number_41 : decode cX7_number 41 = .ok (.iload_n 2, 1) := by decide +kernel
theorem dX7_number_42 : decode cX7_number 42 = .ok (.imul, 1) := by decide +kernel
theorem dX7_number_43 : decode cX7_number 43 = .ok (.aload_n 0, 1) := by decide +kernel
theorem dX7_number_44 : decode cX7_number 44 = .ok (.invokevirtual 212, 3) := by decide +kernel
theorem dX7_number_47 : decode cX7_number 47 = .ok (.iadd, 1) := by decide +kernel
theorem dX7_number_48 : decode cX7_number 48 = .ok (.bipush 48, 2) := by decide +kernel
theorem dX7_number_50 : decode cX7_number 50 = .ok (.isub, 1) := by decide +kernel
theorem dX7_number_51 : decode cX7_number 51 = .ok (.istore_n 2, 1) := by decide +kernel
theorem dX7_number_52 : decode cX7_number 52 = .ok (.aload_n 0, 1) := by decide +kernel
theorem dX7_number_53 : decode cX7_number 53 = .ok (.dup, 1) := by decide +kernel
theorem dX7_number_54 : decode cX7_number 54 = .ok (.getfield 206, 3) := by decide +kernel
theorem dX7_number_57 : decode cX7_number 57 = .ok (.iconst 1, 1) := by decide +kernel
theorem dX7_number_58 : decode cX7_number 58 = .ok (.iadd, 1) := by decide +kernel
theorem dX7_number_59 : decode cX7_number 59 = .ok (.putfield 206, 3) := by decide +kernel
theorem dX7_number_62 : decode cX7_number 62 = .ok (.iinc 3 1, 3) := by decide +kernel
theorem dX7_number_65 : decode cX7_number 65 = .ok (.goto (-38), 3) := by decide +kernel
theorem dX7_number_68 : decode cX7_number 68 = .ok (.iload_n 2, 1) := by decide +kernel
theorem dX7_number_69 : decode cX7_number 69 = .ok (.i2l, 1) := by decide +kernel
theorem dX7_number_70 : decode cX7_number 70 = .ok (.lconst 1, 1) := by decide +kernel
theorem dX7_number_71 : decode cX7_number 71 = .ok (.ldc2_w 230, 3) := by decide +kernel
theorem dX7_number_74 : decode cX7_number 74 = .ok (.invokestatic 135, 3) := by decide +kernel
theorem dX7_number_77 : decode cX7_number 77 = .ok (.ifCond .ne 9, 3) := by decide +kernel
theorem dX7_number_80 : decode cX7_number 80 = .ok (.aload_n 0, 1) := by decide +kernel
theorem dX7_number_81 : decode cX7_number 81 = .ok (.iconst 2, 1) := by decide +kernel
theorem dX7_number_82 : decode cX7_number 82 = .ok (.iload_n 1, 1) := by decide +kernel
theorem dX7_number_83 : decode cX7_number 83 = .ok (.invokevirtual 227, 3) := by decide +kernel
theorem dX7_number_86 : decode cX7_number 86 = .ok (.iload_n 2, 1) := by decide +kernel
theorem dX7_number_87 : decode cX7_number 87 = .ok (.ireturn, 1) := by decide +kernel
theorem dX7_readsItems_0 : decode cX7_readsItems 0 = .ok (.aload_n 0, 1) := by decide +kernel
theorem dX7_readsItems_1 : decode cX7_readsItems 1 = .ok (.getfield 200, 3) := by decide +kernel
theorem dX7_readsItems_4 : decode cX7_readsItems 4 = .ok (.ifCond .ne 72, 3) := by decide +kernel
theorem dX7_readsItems_7 : decode cX7_readsItems 7 = .ok (.aload_n 0, 1) := by decide +kernel
theorem dX7_readsItems_8 : decode cX7_readsItems 8 = .ok (.invokevirtual 212, 3) := by decide +kernel
theorem dX7_readsItems_11 : decode cX7_readsItems 11 = .ok (.bipush 32, 2) := by decide +kernel
theorem dX7_readsItems_13 : decode cX7_readsItems 13 = .ok (.if_icmp .ne 16, 3) := by decide +kernel
theorem dX7_readsItems_16 : decode cX7_readsItems 16 = .ok (.aload_n 0, 1) := by decide +kernel
theorem dX7_readsItems_17 : decode cX7_readsItems 17 = .ok (.dup, 1) := by decide +kernel
theorem dX7_readsItems_18 : decode cX7_readsItems 18 = .ok (.getfield 206, 3) := by decide +kernel
theorem dX7_readsItems_21 : decode cX7_readsItems 21 = .ok (.iconst 1, 1) := by decide +kernel
theorem dX7_readsItems_22 : decode cX7_readsItems 22 = .ok (.iadd, 1) := by decide +kernel
theorem dX7_readsItems_23 : decode cX7_readsItems 23 = .ok (.putfield 206, 3) := by decide +kernel
theorem dX7_readsItems_26 : decode cX7_readsItems 26 = .ok (.goto (-19), 3) := by decide +kernel
theorem dX7_readsItems_29 : decode cX7_readsItems 29 = .ok (.aload_n 0, 1) := by decide +kernel
theorem dX7_readsItems_30 : decode cX7_readsItems 30 = .ok (.getfield 206, 3) := by decide +kernel
theorem dX7_readsItems_33 : decode cX7_readsItems 33 = .ok (.aload_n 0, 1) := by decide +kernel
theorem dX7_readsItems_34 : decode cX7_readsItems 34 = .ok (.getfield 209, 3) := by decide +kernel
theorem dX7_readsItems_37 : decode cX7_readsItems 37 = .ok (.if_icmp .ne 17, 3) := by decide +kernel
theorem dX7_readsItems_40 : decode cX7_readsItems 40 = .ok (.iload_n 1, 1) := by decide +kernel
theorem dX7_readsItems_41 : decode cX7_readsItems 41 = .ok (.ifCond .le 12, 3) := by decide +kernel
theorem dX7_readsItems_44 : decode cX7_readsItems 44 = .ok (.aload_n 0, 1) := by decide +kernel
theorem dX7_readsItems_45 : decode cX7_readsItems 45 = .ok (.iconst 1, 1) := by decide +kernel
theorem dX7_readsItems_46 : decode cX7_readsItems 46 = .ok (.aload_n 0, 1) := by decide +kernel
theorem dX7_readsItems_47 : decode cX7_readsItems 47 = .ok (.getfield 206, 3) := by decide +kernel
theorem dX7_readsItems_50 : decode cX7_readsItems 50 = .ok (.invokevirtual 227, 3) := by decide +kernel
theorem dX7_readsItems_53 : decode cX7_readsItems 53 = .ok (.return_, 1) := by decide +kernel
theorem dX7_readsItems_54 : decode cX7_readsItems 54 = .ok (.iload_n 1, 1) := by decide +kernel
theorem dX7_readsItems_55 : decode cX7_readsItems 55 = .ok (.ifCond .le 13, 3) := by decide +kernel
theorem dX7_readsItems_58 : decode cX7_readsItems 58 = .ok (.aload_n 0, 1) := by decide +kernel
theorem dX7_readsItems_59 : decode cX7_readsItems 59 = .ok (.invokevirtual 212, 3) := by decide +kernel
theorem dX7_readsItems_62 : decode cX7_readsItems 62 = .ok (.bipush 41, 2) := by decide +kernel
theorem dX7_readsItems_64 : decode cX7_readsItems 64 = .ok (.if_icmp .ne 4, 3) := by decide +kernel
theorem dX7_readsItems_67 : decode cX7_readsItems 67 = .ok (.return_, 1) := by decide +kernel
theorem dX7_readsItems_68 : decode cX7_readsItems 68 = .ok (.aload_n 0, 1) := by decide +kernel
theorem dX7_readsItems_69 : decode cX7_readsItems 69 = .ok (.iload_n 1, 1) := by decide +kernel
theorem dX7_readsItems_70 : decode cX7_readsItems 70 = .ok (.invokevirtual 232, 3) := by decide +kernel
theorem dX7_readsItems_73 : decode cX7_readsItems 73 = .ok (.goto (-73), 3) := by decide +kernel
theorem dX7_readsItems_76 : decode cX7_readsItems 76 = .ok (.return_, 1) := by decide +kernel
theorem dX7_readsItem_0 : decode cX7_readsItem 0 = .ok (.aload_n 0, 1) := by decide +kernel
theorem dX7_readsItem_1 : decode cX7_readsItem 1 = .ok (.getfield 206, 3) := by decide +kernel
theorem dX7_readsItem_4 : decode cX7_readsItem 4 = .ok (.istore_n 2, 1) := by decide +kernel
theorem dX7_readsItem_5 : decode cX7_readsItem 5 = .ok (.aload_n 0, 1) := by decide +kernel
theorem dX7_readsItem_6 : decode cX7_readsItem 6 = .ok (.invokevirtual 212, 3) := by decide +kernel
theorem dX7_readsItem_9 : decode cX7_readsItem 9 = .ok (.bipush 40, 2) := by decide +kernel
theorem dX7_readsItem_11 : decode cX7_readsItem 11 = .ok (.if_icmp .ne 9, 3) := by decide +kernel
theorem dX7_readsItem_14 : decode cX7_readsItem 14 = .ok (.aload_n 0, 1) := by decide +kernel
theorem dX7_readsItem_15 : decode cX7_readsItem 15 = .ok (.iload_n 1, 1) := by decide +kernel
theorem dX7_readsItem_16 : decode cX7_readsItem 16 = .ok (.invokevirtual 235, 3) := by decide +kernel
theorem dX7_readsItem_19 : decode cX7_readsItem 19 = .ok (.return_, 1) := by decide +kernel
theorem dX7_readsItem_20 : decode cX7_readsItem 20 = .ok (.iconst 0, 1) := by decide +kernel
theorem dX7_readsItem_21 : decode cX7_readsItem 21 = .ok (.istore_n 3, 1) := by decide +kernel
theorem dX7_readsItem_22 : decode cX7_readsItem 22 = .ok (.aload_n 0, 1) := by decide +kernel
theorem dX7_readsItem_23 : decode cX7_readsItem 23 = .ok (.invokevirtual 212, 3) := by decide +kernel
theorem dX7_readsItem_26 : decode cX7_readsItem 26 = .ok (.bipush 45, 2) := by decide +kernel
theorem dX7_readsItem_28 : decode cX7_readsItem 28 = .ok (.if_icmp .ne 16, 3) := by decide +kernel
theorem dX7_readsItem_31 : decode cX7_readsItem 31 = .ok (.aload_n 0, 1) := by decide +kernel
theorem dX7_readsItem_32 : decode cX7_readsItem 32 = .ok (.dup, 1) := by decide +kernel
theorem dX7_readsItem_33 : decode cX7_readsItem 33 = .ok (.getfield 206, 3) := by decide +kernel
theorem dX7_readsItem_36 : decode cX7_readsItem 36 = .ok (.iconst 1, 1) := by decide +kernel
theorem dX7_readsItem_37 : decode cX7_readsItem 37 = .ok (.iadd, 1) := by decide +kernel
theorem dX7_readsItem_38 : decode cX7_readsItem 38 = .ok (.putfield 206, 3) := by decide +kernel
theorem dX7_readsItem_41 : decode cX7_readsItem 41 = .ok (.goto 51, 3) := by decide +kernel
theorem dX7_readsItem_44 : decode cX7_readsItem 44 = .ok (.aload_n 0, 1) := by decide +kernel
theorem dX7_readsItem_45 : decode cX7_readsItem 45 = .ok (.invokevirtual 238, 3) := by decide +kernel
theorem dX7_readsItem_48 : decode cX7_readsItem 48 = .ok (.ifCond .ne 12, 3) := by decide +kernel
theorem dX7_readsItem_51 : decode cX7_readsItem 51 = .ok (.aload_n 0, 1) := by decide +kernel
theorem dX7_readsItem_52 : decode cX7_readsItem 52 = .ok (.iconst 1, 1) := by decide +kernel
theorem dX7_readsItem_53 : decode cX7_readsItem 53 = .ok (.aload_n 0, 1) := by decide +kernel
theorem dX7_readsItem_54 : decode cX7_readsItem 54 = .ok (.getfield 206, 3) := by decide +kernel
theorem dX7_readsItem_57 : decode cX7_readsItem 57 = .ok (.invokevirtual 227, 3) := by decide +kernel
theorem dX7_readsItem_60 : decode cX7_readsItem 60 = .ok (.aload_n 0, 1) := by decide +kernel
theorem dX7_readsItem_61 : decode cX7_readsItem 61 = .ok (.invokevirtual 238, 3) := by decide +kernel
theorem dX7_readsItem_64 : decode cX7_readsItem 64 = .ok (.ifCond .eq 28, 3) := by decide +kernel
theorem dX7_readsItem_67 : decode cX7_readsItem 67 = .ok (.iload_n 3, 1) := by decide +kernel
theorem dX7_readsItem_68 : decode cX7_readsItem 68 = .ok (.iconst 1, 1) := by decide +kernel
theorem dX7_readsItem_69 : decode cX7_readsItem 69 = .ok (.aload_n 0, 1) := by decide +kernel
theorem dX7_readsItem_70 : decode cX7_readsItem 70 = .ok (.invokevirtual 212, 3) := by decide +kernel
theorem dX7_readsItem_73 : decode cX7_readsItem 73 = .ok (.bipush 97, 2) := by decide +kernel
theorem dX7_readsItem_75 : decode cX7_readsItem 75 = .ok (.isub, 1) := by decide +kernel
theorem dX7_readsItem_76 : decode cX7_readsItem 76 = .ok (.ishl, 1) := by decide +kernel
theorem dX7_readsItem_77 : decode cX7_readsItem 77 = .ok (.ior, 1) := by decide +kernel
theorem dX7_readsItem_78 : decode cX7_readsItem 78 = .ok (.istore_n 3, 1) := by decide +kernel
theorem dX7_readsItem_79 : decode cX7_readsItem 79 = .ok (.aload_n 0, 1) := by decide +kernel
theorem dX7_readsItem_80 : decode cX7_readsItem 80 = .ok (.dup, 1) := by decide +kernel
theorem dX7_readsItem_81 : decode cX7_readsItem 81 = .ok (.getfield 206, 3) := by decide +kernel
theorem dX7_readsItem_84 : decode cX7_readsItem 84 = .ok (.iconst 1, 1) := by decide +kernel
theorem dX7_readsItem_85 : decode cX7_readsItem 85 = .ok (.iadd, 1) := by decide +kernel
theorem dX7_readsItem_86 : decode cX7_readsItem 86 = .ok (.putfield 206, 3) := by decide +kernel
theorem dX7_readsItem_89 : decode cX7_readsItem 89 = .ok (.goto (-29), 3) := by decide +kernel
theorem dX7_readsItem_92 : decode cX7_readsItem 92 = .ok (.aload_n 0, 1) := by decide +kernel
theorem dX7_readsItem_93 : decode cX7_readsItem 93 = .ok (.getfield 200, 3) := by decide +kernel
theorem dX7_readsItem_96 : decode cX7_readsItem 96 = .ok (.ifCond .ne 17, 3) := by decide +kernel
theorem dX7_readsItem_99 : decode cX7_readsItem 99 = .ok (.aload_n 0, 1) := by decide +kernel
theorem dX7_readsItem_100 : decode cX7_readsItem 100 = .ok (.invokevirtual 223, 3) := by decide +kernel
theorem dX7_readsItem_103 : decode cX7_readsItem 103 = .ok (.ifCond .eq 10, 3) := by decide +kernel
theorem dX7_readsItem_106 : decode cX7_readsItem 106 = .ok (.aload_n 0, 1) := by decide +kernel
theorem dX7_readsItem_107 : decode cX7_readsItem 107 = .ok (.invokevirtual 241, 3) := by decide +kernel
theorem dX7_readsItem_110 : decode cX7_readsItem 110 = .ok (.goto 4, 3) := by decide +kernel
theorem dX7_readsItem_113 : decode cX7_readsItem 113 = .ok (.iconst 1, 1) := by decide +kernel
theorem dX7_readsItem_114 : decode cX7_readsItem 114 = .ok (.istore 4, 2) := by decide +kernel
theorem dX7_readsItem_116 : decode cX7_readsItem 116 = .ok (.aload_n 0, 1) := by decide +kernel
theorem dX7_readsItem_117 : decode cX7_readsItem 117 = .ok (.getfield 200, 3) := by decide +kernel
theorem dX7_readsItem_120 : decode cX7_readsItem 120 = .ok (.ifCond .ne 21, 3) := by decide +kernel
theorem dX7_readsItem_123 : decode cX7_readsItem 123 = .ok (.aload_n 0, 1) := by decide +kernel
theorem dX7_readsItem_124 : decode cX7_readsItem 124 = .ok (.getfield 244, 3) := by decide +kernel
theorem dX7_readsItem_127 : decode cX7_readsItem 127 = .ok (.iload 4, 2) := by decide +kernel
theorem dX7_readsItem_129 : decode cX7_readsItem 129 = .ok (.iadd, 1) := by decide +kernel
theorem dX7_readsItem_130 : decode cX7_readsItem 130 = .ok (.bipush 100, 2) := by decide +kernel
theorem dX7_readsItem_132 : decode cX7_readsItem 132 = .ok (.if_icmp .le 9, 3) := by decide +kernel
theorem dX7_readsItem_135 : decode cX7_readsItem 135 = .ok (.aload_n 0, 1) := by decide +kernel
theorem dX7_readsItem_136 : decode cX7_readsItem 136 = .ok (.iconst 4, 1) := by decide +kernel
theorem dX7_readsItem_137 : decode cX7_readsItem 137 = .ok (.iload_n 2, 1) := by decide +kernel
theorem dX7_readsItem_138 : decode cX7_readsItem 138 = .ok (.invokevirtual 227, 3) := by decide +kernel
theorem dX7_readsItem_141 : decode cX7_readsItem 141 = .ok (.iconst 0, 1) := by decide +kernel
theorem dX7_readsItem_142 : decode cX7_readsItem 142 = .ok (.istore 5, 2) := by decide +kernel
theorem dX7_readsItem_144 : decode cX7_readsItem 144 = .ok (.iload 5, 2) := by decide +kernel
theorem dX7_readsItem_146 : decode cX7_readsItem 146 = .ok (.iload 4, 2) := by decide +kernel
theorem dX7_readsItem_148 : decode cX7_readsItem 148 = .ok (.if_icmp .ge 45, 3) := by decide +kernel
theorem dX7_readsItem_151 : decode cX7_readsItem 151 = .ok (.aload_n 0, 1) := by decide +kernel
theorem dX7_readsItem_152 : decode cX7_readsItem 152 = .ok (.getfield 200, 3) := by decide +kernel
theorem dX7_readsItem_155 : decode cX7_readsItem 155 = .ok (.ifCond .ne 38, 3) := by decide +kernel
theorem dX7_readsItem_158 : decode cX7_readsItem 158 = .ok (.aload_n 0, 1) := by decide +kernel
theorem dX7_readsItem_159 : decode cX7_readsItem 159 = .ok (.getfield 60, 3) := by decide +kernel
theorem dX7_readsItem_162 : decode cX7_readsItem 162 = .ok (.aload_n 0, 1) := by decide +kernel
theorem dX7_readsItem_163 : decode cX7_readsItem 163 = .ok (.getfield 244, 3) := by decide +kernel
theorem dX7_readsItem_166 : decode cX7_readsItem 166 = .ok (.iload 5, 2) := by decide +kernel
theorem dX7_readsItem_168 : decode cX7_readsItem 168 = .ok (.ifCond .ne 7, 3) := by decide +kernel
theorem dX7_readsItem_171 : decode cX7_readsItem 171 = .ok (.iload_n 3, 1) := by decide +kernel
theorem dX7_readsItem_172 : decode cX7_readsItem 172 = .ok (.goto 4, 3) := by decide +kernel
theorem dX7_readsItem_175 : decode cX7_readsItem 175 = .ok (.iconst 0, 1) := by decide +kernel
theorem dX7_readsItem_176 : decode cX7_readsItem 176 = .ok (.iastore, 1) := by decide +kernel
theorem dX7_readsItem_177 : decode cX7_readsItem 177 = .ok (.aload_n 0, 1) := by decide +kernel
theorem dX7_readsItem_178 : decode cX7_readsItem 178 = .ok (.dup, 1) := by decide +kernel
theorem dX7_readsItem_179 : decode cX7_readsItem 179 = .ok (.getfield 244, 3) := by decide +kernel
theorem dX7_readsItem_182 : decode cX7_readsItem 182 = .ok (.iconst 1, 1) := by decide +kernel
theorem dX7_readsItem_183 : decode cX7_readsItem 183 = .ok (.iadd, 1) := by decide +kernel
theorem dX7_readsItem_184 : decode cX7_readsItem 184 = .ok (.putfield 244, 3) := by decide +kernel
theorem dX7_readsItem_187 : decode cX7_readsItem 187 = .ok (.iinc 5 1, 3) := by decide +kernel
theorem dX7_readsItem_190 : decode cX7_readsItem 190 = .ok (.goto (-46), 3) := by decide +kernel
theorem dX7_readsItem_193 : decode cX7_readsItem 193 = .ok (.return_, 1) := by decide +kernel
theorem dX7_readsGroup_0 : decode cX7_readsGroup 0 = .ok (.aload_n 0, 1) := by decide +kernel
theorem dX7_readsGroup_1 : decode cX7_readsGroup 1 = .ok (.getfield 206, 3) := by decide +kernel
theorem dX7_readsGroup_4 : decode cX7_readsGroup 4 = .ok (.istore_n 2, 1) := by decide +kernel
theorem dX7_readsGroup_5 : decode cX7_readsGroup 5 = .ok (.aload_n 0, 1) := by decide +kernel
theorem dX7_readsGroup_6 : decode cX7_readsGroup 6 = .ok (.getfield 244, 3) := by decide +kernel
theorem dX7_readsGroup_9 : decode cX7_readsGroup 9 = .ok (.istore_n 3, 1) := by decide +kernel
theorem dX7_readsGroup_10 : decode cX7_readsGroup 10 = .ok (.iload_n 1, 1) := by decide +kernel
theorem dX7_readsGroup_11 : decode cX7_readsGroup 11 = .ok (.iconst 3, 1) := by decide +kernel
theorem dX7_readsGroup_12 : decode cX7_readsGroup 12 = .ok (.if_icmp .ne 13, 3) := by decide +kernel
theorem dX7_readsGroup_15 : decode cX7_readsGroup 15 = .ok (.aload_n 0, 1) := by decide +kernel
theorem dX7_readsGroup_16 : decode cX7_readsGroup 16 = .ok (.iconst 3, 1) := by decide +kernel
theorem dX7_readsGroup_17 : decode cX7_readsGroup 17 = .ok (.aload_n 0, 1) := by decide +kernel
theorem dX7_readsGroup_18 : decode cX7_readsGroup 18 = .ok (.getfield 206, 3) := by decide +kernel
theorem dX7_readsGroup_21 : decode cX7_readsGroup 21 = .ok (.invokevirtual 227, 3) := by decide +kernel
theorem dX7_readsGroup_24 : decode cX7_readsGroup 24 = .ok (.return_, 1) := by decide +kernel
theorem dX7_readsGroup_25 : decode cX7_readsGroup 25 = .ok (.aload_n 0, 1) := by decide +kernel
theorem dX7_readsGroup_26 : decode cX7_readsGroup 26 = .ok (.dup, 1) := by decide +kernel
theorem dX7_readsGroup_27 : decode cX7_readsGroup 27 = .ok (.getfield 206, 3) := by decide +kernel
theorem dX7_readsGroup_30 : decode cX7_readsGroup 30 = .ok (.iconst 1, 1) := by decide +kernel
theorem dX7_readsGroup_31 : decode cX7_readsGroup 31 = .ok (.iadd, 1) := by decide +kernel
theorem dX7_readsGroup_32 : decode cX7_readsGroup 32 = .ok (.putfield 206, 3) := by decide +kernel
theorem dX7_readsGroup_35 : decode cX7_readsGroup 35 = .ok (.aload_n 0, 1) := by decide +kernel
theorem dX7_readsGroup_36 : decode cX7_readsGroup 36 = .ok (.iload_n 1, 1) := by decide +kernel
theorem dX7_readsGroup_37 : decode cX7_readsGroup 37 = .ok (.iconst 1, 1) := by decide +kernel
theorem dX7_readsGroup_38 : decode cX7_readsGroup 38 = .ok (.iadd, 1) := by decide +kernel
theorem dX7_readsGroup_39 : decode cX7_readsGroup 39 = .ok (.invokevirtual 247, 3) := by decide +kernel
theorem dX7_readsGroup_42 : decode cX7_readsGroup 42 = .ok (.aload_n 0, 1) := by decide +kernel
theorem dX7_readsGroup_43 : decode cX7_readsGroup 43 = .ok (.getfield 200, 3) := by decide +kernel
theorem dX7_readsGroup_46 : decode cX7_readsGroup 46 = .ok (.ifCond .eq 4, 3) := by decide +kernel
theorem dX7_readsGroup_49 : decode cX7_readsGroup 49 = .ok (.return_, 1) := by decide +kernel
theorem dX7_readsGroup_50 : decode cX7_readsGroup 50 = .ok (.aload_n 0, 1) := by decide +kernel
theorem dX7_readsGroup_51 : decode cX7_readsGroup 51 = .ok (.getfield 244, 3) := by decide +kernel
theorem dX7_readsGroup_54 : decode cX7_readsGroup 54 = .ok (.iload_n 3, 1) := by decide +kernel
theorem dX7_readsGroup_55 : decode cX7_readsGroup 55 = .ok (.if_icmp .ne 13, 3) := by decide +kernel
theorem dX7_readsGroup_58 : decode cX7_readsGroup 58 = .ok (.aload_n 0, 1) := by decide +kernel
theorem dX7_readsGroup_59 : decode cX7_readsGroup 59 = .ok (.iconst 5, 1) := by decide +kernel
theorem dX7_readsGroup_60 : decode cX7_readsGroup 60 = .ok (.aload_n 0, 1) := by decide +kernel
theorem dX7_readsGroup_61 : decode cX7_readsGroup 61 = .ok (.getfield 206, 3) := by decide +kernel
theorem dX7_readsGroup_64 : decode cX7_readsGroup 64 = .ok (.invokevirtual 227, 3) := by decide +kernel
theorem dX7_readsGroup_67 : decode cX7_readsGroup 67 = .ok (.return_, 1) := by decide +kernel
theorem dX7_readsGroup_68 : decode cX7_readsGroup 68 = .ok (.aload_n 0, 1) := by decide +kernel
theorem dX7_readsGroup_69 : decode cX7_readsGroup 69 = .ok (.dup, 1) := by decide +kernel
theorem dX7_readsGroup_70 : decode cX7_readsGroup 70 = .ok (.getfield 206, 3) := by decide +kernel
theorem dX7_readsGroup_73 : decode cX7_readsGroup 73 = .ok (.iconst 1, 1) := by decide +kernel
theorem dX7_readsGroup_74 : decode cX7_readsGroup 74 = .ok (.iadd, 1) := by decide +kernel
theorem dX7_readsGroup_75 : decode cX7_readsGroup 75 = .ok (.putfield 206, 3) := by decide +kernel
theorem dX7_readsGroup_78 : decode cX7_readsGroup 78 = .ok (.aload_n 0, 1) := by decide +kernel
theorem dX7_readsGroup_79 : decode cX7_readsGroup 79 = .ok (.invokevirtual 241, 3) := by decide +kernel
theorem dX7_readsGroup_82 : decode cX7_readsGroup 82 = .ok (.istore 4, 2) := by decide +kernel
theorem dX7_readsGroup_84 : decode cX7_readsGroup 84 = .ok (.aload_n 0, 1) := by decide +kernel
theorem dX7_readsGroup_85 : decode cX7_readsGroup 85 = .ok (.getfield 244, 3) := by decide +kernel
theorem dX7_readsGroup_88 : decode cX7_readsGroup 88 = .ok (.iload_n 3, 1) := by decide +kernel
theorem dX7_readsGroup_89 : decode cX7_readsGroup 89 = .ok (.isub, 1) := by decide +kernel
theorem dX7_readsGroup_90 : decode cX7_readsGroup 90 = .ok (.istore 5, 2) := by decide +kernel
theorem dX7_readsGroup_92 : decode cX7_readsGroup 92 = .ok (.aload_n 0, 1) := by decide +kernel
theorem dX7_readsGroup_93 : decode cX7_readsGroup 93 = .ok (.getfield 200, 3) := by decide +kernel
theorem dX7_readsGroup_96 : decode cX7_readsGroup 96 = .ok (.ifCond .ne 21, 3) := by decide +kernel
theorem dX7_readsGroup_99 : decode cX7_readsGroup 99 = .ok (.iload_n 3, 1) := by decide +kernel
theorem dX7_readsGroup_100 : decode cX7_readsGroup 100 = .ok (.iload 5, 2) := by decide +kernel
theorem dX7_readsGroup_102 : decode cX7_readsGroup 102 = .ok (.iload 4, 2) := by decide +kernel
theorem dX7_readsGroup_104 : decode cX7_readsGroup 104 = .ok (.imul, 1) := by decide +kernel
theorem dX7_readsGroup_105 : decode cX7_readsGroup 105 = .ok (.iadd, 1) := by decide +kernel
theorem dX7_readsGroup_106 : decode cX7_readsGroup 106 = .ok (.bipush 100, 2) := by decide +kernel
theorem dX7_readsGroup_108 : decode cX7_readsGroup 108 = .ok (.if_icmp .le 9, 3) := by decide +kernel
theorem dX7_readsGroup_111 : decode cX7_readsGroup 111 = .ok (.aload_n 0, 1) := by decide +kernel
theorem dX7_readsGroup_112 : decode cX7_readsGroup 112 = .ok (.iconst 4, 1) := by decide +kernel
theorem dX7_readsGroup_113 : decode cX7_readsGroup 113 = .ok (.iload_n 2, 1) := by decide +kernel
theorem dX7_readsGroup_114 : decode cX7_readsGroup 114 = .ok (.invokevirtual 227, 3) := by decide +kernel
theorem dX7_readsGroup_117 : decode cX7_readsGroup 117 = .ok (.iload 5, 2) := by decide +kernel
theorem dX7_readsGroup_119 : decode cX7_readsGroup 119 = .ok (.istore 6, 2) := by decide +kernel
theorem dX7_readsGroup_121 : decode cX7_readsGroup 121 = .ok (.iload 6, 2) := by decide +kernel
theorem dX7_readsGroup_123 : decode cX7_readsGroup 123 = .ok (.iload 5, 2) := by decide +kernel
theorem dX7_readsGroup_125 : decode cX7_readsGroup 125 = .ok (.iload 4, 2) := by decide +kernel
theorem dX7_readsGroup_127 : decode cX7_readsGroup 127 = .ok (.imul, 1) := by decide +kernel
theorem dX7_readsGroup_128 : decode cX7_readsGroup 128 = .ok (.if_icmp .ge 47, 3) := by decide +kernel
theorem dX7_readsGroup_131 : decode cX7_readsGroup 131 = .ok (.aload_n 0, 1) := by decide +kernel
theorem dX7_readsGroup_132 : decode cX7_readsGroup 132 = .ok (.getfield 200, 3) := by decide +kernel
theorem dX7_readsGroup_135 : decode cX7_readsGroup 135 = .ok (.ifCond .ne 40, 3) := by decide +kernel
theorem dX7_readsGroup_138 : decode cX7_readsGroup 138 = .ok (.aload_n 0, 1) := by decide +kernel
theorem dX7_readsGroup_139 : decode cX7_readsGroup 139 = .ok (.getfield 60, 3) := by decide +kernel
theorem dX7_readsGroup_142 : decode cX7_readsGroup 142 = .ok (.aload_n 0, 1) := by decide +kernel
theorem dX7_readsGroup_143 : decode cX7_readsGroup 143 = .ok (.getfield 244, 3) := by decide +kernel
theorem dX7_readsGroup_146 : decode cX7_readsGroup 146 = .ok (.aload_n 0, 1) := by decide +kernel
theorem dX7_readsGroup_147 : decode cX7_readsGroup 147 = .ok (.getfield 60, 3) := by decide +kernel
theorem dX7_readsGroup_150 : decode cX7_readsGroup 150 = .ok (.iload_n 3, 1) := by decide +kernel
theorem dX7_readsGroup_151 : decode cX7_readsGroup 151 = .ok (.iload 6, 2) := by decide +kernel
theorem dX7_readsGroup_153 : decode cX7_readsGroup 153 = .ok (.iload 5, 2) := by decide +kernel
theorem dX7_readsGroup_155 : decode cX7_readsGroup 155 = .ok (.irem, 1) := by decide +kernel
theorem dX7_readsGroup_156 : decode cX7_readsGroup 156 = .ok (.iadd, 1) := by decide +kernel
theorem dX7_readsGroup_157 : decode cX7_readsGroup 157 = .ok (.iaload, 1) := by decide +kernel
theorem dX7_readsGroup_158 : decode cX7_readsGroup 158 = .ok (.iastore, 1) := by decide +kernel
theorem dX7_readsGroup_159 : decode cX7_readsGroup 159 = .ok (.aload_n 0, 1) := by decide +kernel
theorem dX7_readsGroup_160 : decode cX7_readsGroup 160 = .ok (.dup, 1) := by decide +kernel
theorem dX7_readsGroup_161 : decode cX7_readsGroup 161 = .ok (.getfield 244, 3) := by decide +kernel
theorem dX7_readsGroup_164 : decode cX7_readsGroup 164 = .ok (.iconst 1, 1) := by decide +kernel
theorem dX7_readsGroup_165 : decode cX7_readsGroup 165 = .ok (.iadd, 1) := by decide +kernel
theorem dX7_readsGroup_166 : decode cX7_readsGroup 166 = .ok (.putfield 244, 3) := by decide +kernel
theorem dX7_readsGroup_169 : decode cX7_readsGroup 169 = .ok (.iinc 6 1, 3) := by decide +kernel
theorem dX7_readsGroup_172 : decode cX7_readsGroup 172 = .ok (.goto (-51), 3) := by decide +kernel
theorem dX7_readsGroup_175 : decode cX7_readsGroup 175 = .ok (.return_, 1) := by decide +kernel
theorem dX7_isPattern_0 : decode cX7_isPattern 0 = .ok (.iload_n 0, 1) := by decide +kernel
theorem dX7_isPattern_1 : decode cX7_isPattern 1 = .ok (.i2l, 1) := by decide +kernel
theorem dX7_isPattern_2 : decode cX7_isPattern 2 = .ok (.lconst 0, 1) := by decide +kernel
theorem dX7_isPattern_3 : decode cX7_isPattern 3 = .ok (.ldc2_w 250, 3) := by decide +kernel
theorem dX7_isPattern_6 : decode cX7_isPattern 6 = .ok (.invokestatic 135, 3) := by decide +kernel
theorem dX7_isPattern_9 : decode cX7_isPattern 9 = .ok (.ireturn, 1) := by decide +kernel
theorem dX7_loadPattern_0 : decode cX7_loadPattern 0 = .ok (.aload_n 0, 1) := by decide +kernel
theorem dX7_loadPattern_1 : decode cX7_loadPattern 1 = .ok (.iconst 0, 1) := by decide +kernel
theorem dX7_loadPattern_2 : decode cX7_loadPattern 2 = .ok (.putfield 1, 3) := by decide +kernel
theorem dX7_loadPattern_5 : decode cX7_loadPattern 5 = .ok (.iload_n 1, 1) := by decide +kernel
theorem dX7_loadPattern_6 : decode cX7_loadPattern 6 = .ok (.invokestatic 252, 3) := by decide +kernel
theorem dX7_loadPattern_9 : decode cX7_loadPattern 9 = .ok (.ifCond .ne 6, 3) := by decide +kernel
theorem dX7_loadPattern_12 : decode cX7_loadPattern 12 = .ok (.bipush (-2), 2) := by decide +kernel
theorem dX7_loadPattern_14 : decode cX7_loadPattern 14 = .ok (.ireturn, 1) := by decide +kernel
theorem dX7_loadPattern_15 : decode cX7_loadPattern 15 = .ok (.iload_n 2, 1) := by decide +kernel
theorem dX7_loadPattern_16 : decode cX7_loadPattern 16 = .ok (.i2l, 1) := by decide +kernel
theorem dX7_loadPattern_17 : decode cX7_loadPattern 17 = .ok (.lconst 0, 1) := by decide +kernel
theorem dX7_loadPattern_18 : decode cX7_loadPattern 18 = .ok (.aload_n 0, 1) := by decide +kernel
theorem dX7_loadPattern_19 : decode cX7_loadPattern 19 = .ok (.getfield 197, 3) := by decide +kernel
theorem dX7_loadPattern_22 : decode cX7_loadPattern 22 = .ok (.i2l, 1) := by decide +kernel
theorem dX7_loadPattern_23 : decode cX7_loadPattern 23 = .ok (.invokestatic 135, 3) := by decide +kernel
theorem dX7_loadPattern_26 : decode cX7_loadPattern 26 = .ok (.ifCond .ne 6, 3) := by decide +kernel
theorem dX7_loadPattern_29 : decode cX7_loadPattern 29 = .ok (.bipush (-3), 2) := by decide +kernel
theorem dX7_loadPattern_31 : decode cX7_loadPattern 31 = .ok (.ireturn, 1) := by decide +kernel
theorem dX7_loadPattern_32 : decode cX7_loadPattern 32 = .ok (.aload_n 0, 1) := by decide +kernel
theorem dX7_loadPattern_33 : decode cX7_loadPattern 33 = .ok (.iload_n 2, 1) := by decide +kernel
theorem dX7_loadPattern_34 : decode cX7_loadPattern 34 = .ok (.putfield 209, 3) := by decide +kernel
theorem dX7_loadPattern_37 : decode cX7_loadPattern 37 = .ok (.aload_n 0, 1) := by decide +kernel
theorem dX7_loadPattern_38 : decode cX7_loadPattern 38 = .ok (.iconst 0, 1) := by decide +kernel
theorem dX7_loadPattern_39 : decode cX7_loadPattern 39 = .ok (.putfield 197, 3) := by decide +kernel
theorem dX7_loadPattern_42 : decode cX7_loadPattern 42 = .ok (.aload_n 0, 1) := by decide +kernel
theorem dX7_loadPattern_43 : decode cX7_loadPattern 43 = .ok (.iconst 0, 1) := by decide +kernel
theorem dX7_loadPattern_44 : decode cX7_loadPattern 44 = .ok (.putfield 206, 3) := by decide +kernel
theorem dX7_loadPattern_47 : decode cX7_loadPattern 47 = .ok (.aload_n 0, 1) := by decide +kernel
theorem dX7_loadPattern_48 : decode cX7_loadPattern 48 = .ok (.iconst 0, 1) := by decide +kernel
theorem dX7_loadPattern_49 : decode cX7_loadPattern 49 = .ok (.putfield 244, 3) := by decide +kernel
theorem dX7_loadPattern_52 : decode cX7_loadPattern 52 = .ok (.aload_n 0, 1) := by decide +kernel
theorem dX7_loadPattern_53 : decode cX7_loadPattern 53 = .ok (.iconst 0, 1) := by decide +kernel
theorem dX7_loadPattern_54 : decode cX7_loadPattern 54 = .ok (.putfield 200, 3) := by decide +kernel
theorem dX7_loadPattern_57 : decode cX7_loadPattern 57 = .ok (.aload_n 0, 1) := by decide +kernel
theorem dX7_loadPattern_58 : decode cX7_loadPattern 58 = .ok (.iconst 0, 1) := by decide +kernel
theorem dX7_loadPattern_59 : decode cX7_loadPattern 59 = .ok (.invokevirtual 247, 3) := by decide +kernel
theorem dX7_loadPattern_62 : decode cX7_loadPattern 62 = .ok (.aload_n 0, 1) := by decide +kernel
theorem dX7_loadPattern_63 : decode cX7_loadPattern 63 = .ok (.getfield 244, 3) := by decide +kernel
theorem dX7_loadPattern_66 : decode cX7_loadPattern 66 = .ok (.ifCond .ne 12, 3) := by decide +kernel
theorem dX7_loadPattern_69 : decode cX7_loadPattern 69 = .ok (.aload_n 0, 1) := by decide +kernel
theorem dX7_loadPattern_70 : decode cX7_loadPattern 70 = .ok (.iconst 5, 1) := by decide +kernel
theorem dX7_loadPattern_71 : decode cX7_loadPattern 71 = .ok (.aload_n 0, 1) := by decide +kernel
theorem dX7_loadPattern_72 : decode cX7_loadPattern 72 = .ok (.getfield 209, 3) := by decide +kernel
theorem dX7_loadPattern_75 : decode cX7_loadPattern 75 = .ok (.invokevirtual 227, 3) := by decide +kernel
theorem dX7_loadPattern_78 : decode cX7_loadPattern 78 = .ok (.aload_n 0, 1) := by decide +kernel
theorem dX7_loadPattern_79 : decode cX7_loadPattern 79 = .ok (.aload_n 0, 1) := by decide +kernel
theorem dX7_loadPattern_80 : decode cX7_loadPattern 80 = .ok (.getfield 200, 3) := by decide +kernel
theorem dX7_loadPattern_83 : decode cX7_loadPattern 83 = .ok (.putfield 255, 3) := by decide +kernel
theorem dX7_loadPattern_86 : decode cX7_loadPattern 86 = .ok (.aload_n 0, 1) := by decide +kernel
theorem dX7_loadPattern_87 : decode cX7_loadPattern 87 = .ok (.aload_n 0, 1) := by decide +kernel
theorem dX7_loadPattern_88 : decode cX7_loadPattern 88 = .ok (.getfield 200, 3) := by decide +kernel
theorem dX7_loadPattern_91 : decode cX7_loadPattern 91 = .ok (.ifCond .ne 7, 3) := by decide +kernel
theorem dX7_loadPattern_94 : decode cX7_loadPattern 94 = .ok (.iconst (-1), 1) := by decide +kernel
theorem dX7_loadPattern_95 : decode cX7_loadPattern 95 = .ok (.goto 7, 3) := by decide +kernel
theorem dX7_loadPattern_98 : decode cX7_loadPattern 98 = .ok (.aload_n 0, 1) := by decide +kernel
theorem dX7_loadPattern_99 : decode cX7_loadPattern 99 = .ok (.getfield 203, 3) := by decide +kernel
theorem dX7_loadPattern_102 : decode cX7_loadPattern 102 = .ok (.putfield 63, 3) := by decide +kernel
theorem dX7_loadPattern_105 : decode cX7_loadPattern 105 = .ok (.aload_n 0, 1) := by decide +kernel
theorem dX7_loadPattern_106 : decode cX7_loadPattern 106 = .ok (.getfield 200, 3) := by decide +kernel
theorem dX7_loadPattern_109 : decode cX7_loadPattern 109 = .ok (.ifCond .eq 11, 3) := by decide +kernel
theorem dX7_loadPattern_112 : decode cX7_loadPattern 112 = .ok (.bipush (-30), 2) := by decide +kernel
theorem dX7_loadPattern_114 : decode cX7_loadPattern 114 = .ok (.aload_n 0, 1) := by decide +kernel
theorem dX7_loadPattern_115 : decode cX7_loadPattern 115 = .ok (.getfield 200, 3) := by decide +kernel
theorem dX7_loadPattern_118 : decode cX7_loadPattern 118 = .ok (.isub, 1) := by decide +kernel
theorem dX7_loadPattern_119 : decode cX7_loadPattern 119 = .ok (.ireturn, 1) := by decide +kernel
theorem dX7_loadPattern_120 : decode cX7_loadPattern 120 = .ok (.iconst 0, 1) := by decide +kernel
theorem dX7_loadPattern_121 : decode cX7_loadPattern 121 = .ok (.istore_n 3, 1) := by decide +kernel
theorem dX7_loadPattern_122 : decode cX7_loadPattern 122 = .ok (.iload_n 3, 1) := by decide +kernel
theorem dX7_loadPattern_123 : decode cX7_loadPattern 123 = .ok (.aload_n 0, 1) := by decide +kernel
theorem dX7_loadPattern_124 : decode cX7_loadPattern 124 = .ok (.getfield 244, 3) := by decide +kernel
theorem dX7_loadPattern_127 : decode cX7_loadPattern 127 = .ok (.if_icmp .ge 26, 3) := by decide +kernel
theorem dX7_loadPattern_130 : decode cX7_loadPattern 130 = .ok (.aload_n 0, 1) := by decide +kernel
theorem dX7_loadPattern_131 : decode cX7_loadPattern 131 = .ok (.getfield 54, 3) := by decide +kernel
theorem dX7_loadPattern_134 : decode cX7_loadPattern 134 = .ok (.bipush 100, 2) := by decide +kernel
theorem dX7_loadPattern_136 : decode cX7_loadPattern 136 = .ok (.iload_n 1, 1) := by decide +kernel
theorem dX7_loadPattern_137 : decode cX7_loadPattern 137 = .ok (.imul, 1) := by decide +kernel
theorem dX7_loadPattern_138 : decode cX7_loadPattern 138 = .ok (.iload_n 3, 1) := by decide +kernel
theorem dX7_loadPattern_139 : decode cX7_loadPattern 139 = .ok (.iadd, 1) := by decide +kernel
theorem dX7_loadPattern_140 : decode cX7_loadPattern 140 = .ok (.aload_n 0, 1) := by decide +kernel
theorem dX7_loadPattern_141 : decode cX7_loadPattern 141 = .ok (.getfield 60, 3) := by decide +kernel
theorem dX7_loadPattern_144 : decode cX7_loadPattern 144 = .ok (.iload_n 3, 1) := by decide +kernel
theorem dX7_loadPattern_145 : decode cX7_loadPattern 145 = .ok (.iaload, 1) := by decide +kernel
theorem dX7_loadPattern_146 : decode cX7_loadPattern 146 = .ok (.iastore, 1) := by decide +kernel
theorem dX7_loadPattern_147 : decode cX7_loadPattern 147 = .ok (.iinc 3 1, 3) := by decide +kernel
theorem dX7_loadPattern_150 : decode cX7_loadPattern 150 = .ok (.goto (-28), 3) := by decide +kernel
theorem dX7_loadPattern_153 : decode cX7_loadPattern 153 = .ok (.aload_n 0, 1) := by decide +kernel
theorem dX7_loadPattern_154 : decode cX7_loadPattern 154 = .ok (.getfield 57, 3) := by decide +kernel
theorem dX7_loadPattern_157 : decode cX7_loadPattern 157 = .ok (.iload_n 1, 1) := by decide +kernel
theorem dX7_loadPattern_158 : decode cX7_loadPattern 158 = .ok (.aload_n 0, 1) := by decide +kernel
theorem dX7_loadPattern_159 : decode cX7_loadPattern 159 = .ok (.getfield 244, 3) := by decide +kernel
theorem dX7_loadPattern_162 : decode cX7_loadPattern 162 = .ok (.iastore, 1) := by decide +kernel
theorem dX7_loadPattern_163 : decode cX7_loadPattern 163 = .ok (.aload_n 0, 1) := by decide +kernel
theorem dX7_loadPattern_164 : decode cX7_loadPattern 164 = .ok (.getfield 244, 3) := by decide +kernel
theorem dX7_loadPattern_167 : decode cX7_loadPattern 167 = .ok (.ireturn, 1) := by decide +kernel
theorem dX7_patternError_0 : decode cX7_patternError 0 = .ok (.aload_n 0, 1) := by decide +kernel
theorem dX7_patternError_1 : decode cX7_patternError 1 = .ok (.iconst 0, 1) := by decide +kernel
theorem dX7_patternError_2 : decode cX7_patternError 2 = .ok (.putfield 1, 3) := by decide +kernel
theorem dX7_patternError_5 : decode cX7_patternError 5 = .ok (.aload_n 0, 1) := by decide +kernel
theorem dX7_patternError_6 : decode cX7_patternError 6 = .ok (.getfield 255, 3) := by decide +kernel
theorem dX7_patternError_9 : decode cX7_patternError 9 = .ok (.ireturn, 1) := by decide +kernel
theorem dX7_patternErrorPosition_0 : decode cX7_patternErrorPosition 0 = .ok (.aload_n 0, 1) := by decide +kernel
theorem dX7_patternErrorPosition_1 : decode cX7_patternErrorPosition 1 = .ok (.iconst 0, 1) := by decide +kernel
theorem dX7_patternErrorPosition_2 : decode cX7_patternErrorPosition 2 = .ok (.putfield 1, 3) := by decide +kernel
theorem dX7_patternErrorPosition_5 : decode cX7_patternErrorPosition 5 = .ok (.aload_n 0, 1) := by decide +kernel
theorem dX7_patternErrorPosition_6 : decode cX7_patternErrorPosition 6 = .ok (.getfield 63, 3) := by decide +kernel
theorem dX7_patternErrorPosition_9 : decode cX7_patternErrorPosition 9 = .ok (.ireturn, 1) := by decide +kernel
theorem dX7_stepBells_0 : decode cX7_stepBells 0 = .ok (.aload_n 0, 1) := by decide +kernel
theorem dX7_stepBells_1 : decode cX7_stepBells 1 = .ok (.iconst 0, 1) := by decide +kernel
theorem dX7_stepBells_2 : decode cX7_stepBells 2 = .ok (.putfield 1, 3) := by decide +kernel
theorem dX7_stepBells_5 : decode cX7_stepBells 5 = .ok (.iload_n 1, 1) := by decide +kernel
theorem dX7_stepBells_6 : decode cX7_stepBells 6 = .ok (.invokestatic 252, 3) := by decide +kernel
theorem dX7_stepBells_9 : decode cX7_stepBells 9 = .ok (.ifCond .ne 6, 3) := by decide +kernel
theorem dX7_stepBells_12 : decode cX7_stepBells 12 = .ok (.bipush (-2), 2) := by decide +kernel
theorem dX7_stepBells_14 : decode cX7_stepBells 14 = .ok (.ireturn, 1) := by decide +kernel
theorem dX7_stepBells_15 : decode cX7_stepBells 15 = .ok (.aload_n 0, 1) := by decide +kernel
theorem dX7_stepBells_16 : decode cX7_stepBells 16 = .ok (.getfield 57, 3) := by decide +kernel
theorem dX7_stepBells_19 : decode cX7_stepBells 19 = .ok (.iload_n 1, 1) := by decide +kernel
theorem dX7_stepBells_20 : decode cX7_stepBells 20 = .ok (.iaload, 1) := by decide +kernel
theorem dX7_stepBells_21 : decode cX7_stepBells 21 = .ok (.ifCond .ne 6, 3) := by decide +kernel
theorem dX7_stepBells_24 : decode cX7_stepBells 24 = .ok (.bipush (-9), 2) := by decide +kernel
theorem dX7_stepBells_26 : decode cX7_stepBells 26 = .ok (.ireturn, 1) := by decide +kernel
theorem dX7_stepBells_27 : decode cX7_stepBells 27 = .ok (.iload_n 2, 1) := by decide +kernel
theorem dX7_stepBells_28 : decode cX7_stepBells 28 = .ok (.i2l, 1) := by decide +kernel
theorem dX7_stepBells_29 : decode cX7_stepBells 29 = .ok (.lconst 0, 1) := by decide +kernel
theorem dX7_stepBells_30 : decode cX7_stepBells 30 = .ok (.aload_n 0, 1) := by decide +kernel
theorem dX7_stepBells_31 : decode cX7_stepBells 31 = .ok (.getfield 57, 3) := by decide +kernel
theorem dX7_stepBells_34 : decode cX7_stepBells 34 = .ok (.iload_n 1, 1) := by decide +kernel
theorem dX7_stepBells_35 : decode cX7_stepBells 35 = .ok (.iaload, 1) := by decide +kernel
theorem dX7_stepBells_36 : decode cX7_stepBells 36 = .ok (.iconst 1, 1) := by decide +kernel
theorem dX7_stepBells_37 : decode cX7_stepBells 37 = .ok (.isub, 1) := by decide +kernel
theorem dX7_stepBells_38 : decode cX7_stepBells 38 = .ok (.i2l, 1) := by decide +kernel
theorem dX7_stepBells_39 : decode cX7_stepBells 39 = .ok (.invokestatic 135, 3) := by decide +kernel
theorem dX7_stepBells_42 : decode cX7_stepBells 42 = .ok (.ifCond .eq 17, 3) := by decide +kernel
theorem dX7_stepBells_45 : decode cX7_stepBells 45 = .ok (.aload_n 0, 1) := by decide +kernel
theorem dX7_stepBells_46 : decode cX7_stepBells 46 = .ok (.getfield 54, 3) := by decide +kernel
theorem dX7_stepBells_49 : decode cX7_stepBells 49 = .ok (.bipush 100, 2) := by decide +kernel
theorem dX7_stepBells_51 : decode cX7_stepBells 51 = .ok (.iload_n 1, 1) := by decide +kernel
theorem dX7_stepBells_52 : decode cX7_stepBells 52 = .ok (.imul, 1) := by decide +kernel
theorem dX7_stepBells_53 : decode cX7_stepBells 53 = .ok (.iload_n 2, 1) := by decide +kernel
theorem dX7_stepBells_54 : decode cX7_stepBells 54 = .ok (.iadd, 1) := by decide +kernel
theorem dX7_stepBells_55 : decode cX7_stepBells 55 = .ok (.iaload, 1) := by decide +kernel
theorem dX7_stepBells_56 : decode cX7_stepBells 56 = .ok (.goto 4, 3) := by decide +kernel
theorem dX7_stepBells_59 : decode cX7_stepBells 59 = .ok (.iconst (-1), 1) := by decide +kernel
theorem dX7_stepBells_60 : decode cX7_stepBells 60 = .ok (.ireturn, 1) := by decide +kernel
theorem dX7_patternStrokes_0 : decode cX7_patternStrokes 0 = .ok (.aload_n 0, 1) := by decide +kernel
theorem dX7_patternStrokes_1 : decode cX7_patternStrokes 1 = .ok (.iconst 0, 1) := by decide +kernel
theorem dX7_patternStrokes_2 : decode cX7_patternStrokes 2 = .ok (.putfield 1, 3) := by decide +kernel
theorem dX7_patternStrokes_5 : decode cX7_patternStrokes 5 = .ok (.iload_n 1, 1) := by decide +kernel
theorem dX7_patternStrokes_6 : decode cX7_patternStrokes 6 = .ok (.invokestatic 252, 3) := by decide +kernel
theorem dX7_patternStrokes_9 : decode cX7_patternStrokes 9 = .ok (.ifCond .ne 6, 3) := by decide +kernel
theorem dX7_patternStrokes_12 : decode cX7_patternStrokes 12 = .ok (.bipush (-2), 2) := by decide +kernel
theorem dX7_patternStrokes_14 : decode cX7_patternStrokes 14 = .ok (.ireturn, 1) := by decide +kernel
theorem dX7_patternStrokes_15 : decode cX7_patternStrokes 15 = .ok (.aload_n 0, 1) := by decide +kernel
theorem dX7_patternStrokes_16 : decode cX7_patternStrokes 16 = .ok (.getfield 57, 3) := by decide +kernel
theorem dX7_patternStrokes_19 : decode cX7_patternStrokes 19 = .ok (.iload_n 1, 1) := by decide +kernel
theorem dX7_patternStrokes_20 : decode cX7_patternStrokes 20 = .ok (.iaload, 1) := by decide +kernel
theorem dX7_patternStrokes_21 : decode cX7_patternStrokes 21 = .ok (.ifCond .ne 6, 3) := by decide +kernel
theorem dX7_patternStrokes_24 : decode cX7_patternStrokes 24 = .ok (.bipush (-9), 2) := by decide +kernel
theorem dX7_patternStrokes_26 : decode cX7_patternStrokes 26 = .ok (.ireturn, 1) := by decide +kernel
theorem dX7_patternStrokes_27 : decode cX7_patternStrokes 27 = .ok (.iconst 0, 1) := by decide +kernel
theorem dX7_patternStrokes_28 : decode cX7_patternStrokes 28 = .ok (.istore_n 2, 1) := by decide +kernel
theorem dX7_patternStrokes_29 : decode cX7_patternStrokes 29 = .ok (.iconst 0, 1) := by decide +kernel
theorem dX7_patternStrokes_30 : decode cX7_patternStrokes 30 = .ok (.istore_n 3, 1) := by decide +kernel
theorem dX7_patternStrokes_31 : decode cX7_patternStrokes 31 = .ok (.iload_n 3, 1) := by decide +kernel
theorem dX7_patternStrokes_32 : decode cX7_patternStrokes 32 = .ok (.aload_n 0, 1) := by decide +kernel
theorem dX7_patternStrokes_33 : decode cX7_patternStrokes 33 = .ok (.getfield 57, 3) := by decide +kernel
theorem dX7_patternStrokes_36 : decode cX7_patternStrokes 36 = .ok (.iload_n 1, 1) := by decide +kernel
theorem dX7_patternStrokes_37 : decode cX7_patternStrokes 37 = .ok (.iaload, 1) := by decide +kernel
theorem dX7_patternStrokes_38 : decode cX7_patternStrokes 38 = .ok (.if_icmp .ge 46, 3) := by decide +kernel
theorem dX7_patternStrokes_41 : decode cX7_patternStrokes 41 = .ok (.iconst 0, 1) := by decide +kernel
theorem dX7_patternStrokes_42 : decode cX7_patternStrokes 42 = .ok (.istore 4, 2) := by decide +kernel
theorem dX7_patternStrokes_44 : decode cX7_patternStrokes 44 = .ok (.iload 4, 2) := by decide +kernel
theorem dX7_patternStrokes_46 : decode cX7_patternStrokes 46 = .ok (.aload_n 0, 1) := by decide +kernel
theorem dX7_patternStrokes_47 : decode cX7_patternStrokes 47 = .ok (.getfield 132, 3) := by decide +kernel
theorem dX7_patternStrokes_50 : decode cX7_patternStrokes 50 = .ok (.if_icmp .ge 28, 3) := by decide +kernel
theorem dX7_patternStrokes_53 : decode cX7_patternStrokes 53 = .ok (.iload_n 2, 1) := by decide +kernel
theorem dX7_patternStrokes_54 : decode cX7_patternStrokes 54 = .ok (.aload_n 0, 1) := by decide +kernel
theorem dX7_patternStrokes_55 : decode cX7_patternStrokes 55 = .ok (.getfield 54, 3) := by decide +kernel
theorem dX7_patternStrokes_58 : decode cX7_patternStrokes 58 = .ok (.bipush 100, 2) := by decide +kernel
theorem dX7_patternStrokes_60 : decode cX7_patternStrokes 60 = .ok (.iload_n 1, 1) := by decide +kernel
theorem dX7_patternStrokes_61 : decode cX7_patternStrokes 61 = .ok (.imul, 1) := by decide +kernel
theorem dX7_patternStrokes_62 : decode cX7_patternStrokes 62 = .ok (.iload_n 3, 1) := by decide +kernel
theorem dX7_patternStrokes_63 : decode cX7_patternStrokes 63 = .ok (.iadd, 1) := by decide +kernel
theorem dX7_patternStrokes_64 : decode cX7_patternStrokes 64 = .ok (.iaload, 1) := by decide +kernel
theorem dX7_patternStrokes_65 : decode cX7_patternStrokes 65 = .ok (.iload 4, 2) := by decide +kernel
theorem dX7_patternStrokes_67 : decode cX7_patternStrokes 67 = .ok (.ishr, 1) := by decide +kernel
theorem dX7_patternStrokes_68 : decode cX7_patternStrokes 68 = .ok (.iconst 1, 1) := by decide +kernel
theorem dX7_patternStrokes_69 : decode cX7_patternStrokes 69 = .ok (.iand, 1) := by decide +kernel
theorem dX7_patternStrokes_70 : decode cX7_patternStrokes 70 = .ok (.iadd, 1) := by decide +kernel
theorem dX7_patternStrokes_71 : decode cX7_patternStrokes 71 = .ok (.istore_n 2, 1) := by decide +kernel
theorem dX7_patternStrokes_72 : decode cX7_patternStrokes 72 = .ok (.iinc 4 1, 3) := by decide +kernel
theorem dX7_patternStrokes_75 : decode cX7_patternStrokes 75 = .ok (.goto (-31), 3) := by decide +kernel
theorem dX7_patternStrokes_78 : decode cX7_patternStrokes 78 = .ok (.iinc 3 1, 3) := by decide +kernel
theorem dX7_patternStrokes_81 : decode cX7_patternStrokes 81 = .ok (.goto (-50), 3) := by decide +kernel
theorem dX7_patternStrokes_84 : decode cX7_patternStrokes 84 = .ok (.iload_n 2, 1) := by decide +kernel
theorem dX7_patternStrokes_85 : decode cX7_patternStrokes 85 = .ok (.ireturn, 1) := by decide +kernel
theorem dX7_plays_0 : decode cX7_plays 0 = .ok (.aload_n 0, 1) := by decide +kernel
theorem dX7_plays_1 : decode cX7_plays 1 = .ok (.getfield 171, 3) := by decide +kernel
theorem dX7_plays_4 : decode cX7_plays 4 = .ok (.istore 4, 2) := by decide +kernel
theorem dX7_plays_6 : decode cX7_plays 6 = .ok (.iconst 0, 1) := by decide +kernel
theorem dX7_plays_7 : decode cX7_plays 7 = .ok (.istore 5, 2) := by decide +kernel
theorem dX7_plays_9 : decode cX7_plays 9 = .ok (.iload 5, 2) := by decide +kernel
theorem dX7_plays_11 : decode cX7_plays 11 = .ok (.aload_n 0, 1) := by decide +kernel
theorem dX7_plays_12 : decode cX7_plays 12 = .ok (.getfield 57, 3) := by decide +kernel
theorem dX7_plays_15 : decode cX7_plays 15 = .ok (.iload_n 1, 1) := by decide +kernel
theorem dX7_plays_16 : decode cX7_plays 16 = .ok (.iaload, 1) := by decide +kernel
theorem dX7_plays_17 : decode cX7_plays 17 = .ok (.if_icmp .ge 91, 3) := by decide +kernel
theorem dX7_plays_20 : decode cX7_plays 20 = .ok (.iconst 0, 1) := by decide +kernel
theorem dX7_plays_21 : decode cX7_plays 21 = .ok (.istore 6, 2) := by decide +kernel
theorem dX7_plays_23 : decode cX7_plays 23 = .ok (.iload 6, 2) := by decide +kernel
theorem dX7_plays_25 : decode cX7_plays 25 = .ok (.aload_n 0, 1) := by decide +kernel
theorem dX7_plays_26 : decode cX7_plays 26 = .ok (.getfield 132, 3) := by decide +kernel
theorem dX7_plays_29 : decode cX7_plays 29 = .ok (.if_icmp .ge 73, 3) := by decide +kernel
theorem dX7_plays_32 : decode cX7_plays 32 = .ok (.aload_n 0, 1) := by decide +kernel
theorem dX7_plays_33 : decode cX7_plays 33 = .ok (.getfield 54, 3) := by decide +kernel
theorem dX7_plays_36 : decode cX7_plays 36 = .ok (.bipush 100, 2) := by decide +kernel
theorem dX7_plays_38 : decode cX7_plays 38 = .ok (.iload_n 1, 1) := by decide +kernel
theorem dX7_plays_39 : decode cX7_plays 39 = .ok (.imul, 1) := by decide +kernel
theorem dX7_plays_40 : decode cX7_plays 40 = .ok (.iload 5, 2) := by decide +kernel
theorem dX7_plays_42 : decode cX7_plays 42 = .ok (.iadd, 1) := by decide +kernel
theorem dX7_plays_43 : decode cX7_plays 43 = .ok (.iaload, 1) := by decide +kernel
theorem dX7_plays_44 : decode cX7_plays 44 = .ok (.iload 6, 2) := by decide +kernel
theorem dX7_plays_46 : decode cX7_plays 46 = .ok (.ishr, 1) := by decide +kernel
theorem dX7_plays_47 : decode cX7_plays 47 = .ok (.iconst 1, 1) := by decide +kernel
theorem dX7_plays_48 : decode cX7_plays 48 = .ok (.iand, 1) := by decide +kernel
theorem dX7_plays_49 : decode cX7_plays 49 = .ok (.ifCond .ne 6, 3) := by decide +kernel
theorem dX7_plays_52 : decode cX7_plays 52 = .ok (.goto 44, 3) := by decide +kernel
theorem dX7_plays_55 : decode cX7_plays 55 = .ok (.aload_n 0, 1) := by decide +kernel
theorem dX7_plays_56 : decode cX7_plays 56 = .ok (.iload 6, 2) := by decide +kernel
theorem dX7_plays_58 : decode cX7_plays 58 = .ok (.iload_n 2, 1) := by decide +kernel
theorem dX7_plays_59 : decode cX7_plays 59 = .ok (.iload 5, 2) := by decide +kernel
theorem dX7_plays_61 : decode cX7_plays 61 = .ok (.iload_n 3, 1) := by decide +kernel
theorem dX7_plays_62 : decode cX7_plays 62 = .ok (.imul, 1) := by decide +kernel
theorem dX7_plays_63 : decode cX7_plays 63 = .ok (.iadd, 1) := by decide +kernel
theorem dX7_plays_64 : decode cX7_plays 64 = .ok (.i2l, 1) := by decide +kernel
theorem dX7_plays_65 : decode cX7_plays 65 = .ok (.invokevirtual 174, 3) := by decide +kernel
theorem dX7_plays_68 : decode cX7_plays 68 = .ok (.istore 7, 2) := by decide +kernel
theorem dX7_plays_70 : decode cX7_plays 70 = .ok (.iload 7, 2) := by decide +kernel
theorem dX7_plays_72 : decode cX7_plays 72 = .ok (.ifCond .eq 12, 3) := by decide +kernel
theorem dX7_plays_75 : decode cX7_plays 75 = .ok (.aload_n 0, 1) := by decide +kernel
theorem dX7_plays_76 : decode cX7_plays 76 = .ok (.iload 4, 2) := by decide +kernel
theorem dX7_plays_78 : decode cX7_plays 78 = .ok (.putfield 171, 3) := by decide +kernel
theorem dX7_plays_81 : decode cX7_plays 81 = .ok (.iload 7, 2) := by decide +kernel
theorem dX7_plays_83 : decode cX7_plays 83 = .ok (.ireturn, 1) := by decide +kernel
theorem dX7_plays_84 : decode cX7_plays 84 = .ok (.aload_n 0, 1) := by decide +kernel
theorem dX7_plays_85 : decode cX7_plays 85 = .ok (.iload 6, 2) := by decide +kernel
theorem dX7_plays_87 : decode cX7_plays 87 = .ok (.iload_n 2, 1) := by decide +kernel
theorem dX7_plays_88 : decode cX7_plays 88 = .ok (.iload 5, 2) := by decide +kernel
theorem dX7_plays_90 : decode cX7_plays 90 = .ok (.iload_n 3, 1) := by decide +kernel
theorem dX7_plays_91 : decode cX7_plays 91 = .ok (.imul, 1) := by decide +kernel
theorem dX7_plays_92 : decode cX7_plays 92 = .ok (.iadd, 1) := by decide +kernel
theorem dX7_plays_93 : decode cX7_plays 93 = .ok (.invokevirtual 178, 3) := by decide +kernel
theorem dX7_plays_96 : decode cX7_plays 96 = .ok (.iinc 6 1, 3) := by decide +kernel
theorem dX7_plays_99 : decode cX7_plays 99 = .ok (.goto (-76), 3) := by decide +kernel
theorem dX7_plays_102 : decode cX7_plays 102 = .ok (.iinc 5 1, 3) := by decide +kernel
theorem dX7_plays_105 : decode cX7_plays 105 = .ok (.goto (-96), 3) := by decide +kernel
theorem dX7_plays_108 : decode cX7_plays 108 = .ok (.aload_n 0, 1) := by decide +kernel
theorem dX7_plays_109 : decode cX7_plays 109 = .ok (.getfield 171, 3) := by decide +kernel
theorem dX7_plays_112 : decode cX7_plays 112 = .ok (.iload 4, 2) := by decide +kernel
theorem dX7_plays_114 : decode cX7_plays 114 = .ok (.isub, 1) := by decide +kernel
theorem dX7_plays_115 : decode cX7_plays 115 = .ok (.ireturn, 1) := by decide +kernel
theorem dX7_play_0 : decode cX7_play 0 = .ok (.aload_n 0, 1) := by decide +kernel
theorem dX7_play_1 : decode cX7_play 1 = .ok (.iconst 0, 1) := by decide +kernel
theorem dX7_play_2 : decode cX7_play 2 = .ok (.putfield 1, 3) := by decide +kernel
theorem dX7_play_5 : decode cX7_play 5 = .ok (.iload_n 1, 1) := by decide +kernel
theorem dX7_play_6 : decode cX7_play 6 = .ok (.invokestatic 252, 3) := by decide +kernel
theorem dX7_play_9 : decode cX7_play 9 = .ok (.ifCond .ne 6, 3) := by decide +kernel
theorem dX7_play_12 : decode cX7_play 12 = .ok (.bipush (-2), 2) := by decide +kernel
theorem dX7_play_14 : decode cX7_play 14 = .ok (.ireturn, 1) := by decide +kernel
theorem dX7_play_15 : decode cX7_play 15 = .ok (.aload_n 0, 1) := by decide +kernel
theorem dX7_play_16 : decode cX7_play 16 = .ok (.getfield 57, 3) := by decide +kernel
theorem dX7_play_19 : decode cX7_play 19 = .ok (.iload_n 1, 1) := by decide +kernel
theorem dX7_play_20 : decode cX7_play 20 = .ok (.iaload, 1) := by decide +kernel
theorem dX7_play_21 : decode cX7_play 21 = .ok (.ifCond .ne 6, 3) := by decide +kernel
theorem dX7_play_24 : decode cX7_play 24 = .ok (.bipush (-9), 2) := by decide +kernel
theorem dX7_play_26 : decode cX7_play 26 = .ok (.ireturn, 1) := by decide +kernel
theorem dX7_play_27 : decode cX7_play 27 = .ok (.iload_n 2, 1) := by decide +kernel
theorem dX7_play_28 : decode cX7_play 28 = .ok (.i2l, 1) := by decide +kernel
theorem dX7_play_29 : decode cX7_play 29 = .ok (.lconst 0, 1) := by decide +kernel
theorem dX7_play_30 : decode cX7_play 30 = .ok (.ldc2_w 169, 3) := by decide +kernel
theorem dX7_play_33 : decode cX7_play 33 = .ok (.invokestatic 135, 3) := by decide +kernel
theorem dX7_play_36 : decode cX7_play 36 = .ok (.ifCond .eq 15, 3) := by decide +kernel
theorem dX7_play_39 : decode cX7_play 39 = .ok (.iload_n 3, 1) := by decide +kernel
theorem dX7_play_40 : decode cX7_play 40 = .ok (.i2l, 1) := by decide +kernel
theorem dX7_play_41 : decode cX7_play 41 = .ok (.lconst 1, 1) := by decide +kernel
theorem dX7_play_42 : decode cX7_play 42 = .ok (.ldc2_w 258, 3) := by decide +kernel
theorem dX7_play_45 : decode cX7_play 45 = .ok (.invokestatic 135, 3) := by decide +kernel
theorem dX7_play_48 : decode cX7_play 48 = .ok (.ifCond .ne 6, 3) := by decide +kernel
theorem dX7_play_51 : decode cX7_play 51 = .ok (.bipush (-3), 2) := by decide +kernel
theorem dX7_play_53 : decode cX7_play 53 = .ok (.ireturn, 1) := by decide +kernel
theorem dX7_play_54 : decode cX7_play 54 = .ok (.aload_n 0, 1) := by decide +kernel
theorem dX7_play_55 : decode cX7_play 55 = .ok (.iload_n 1, 1) := by decide +kernel
theorem dX7_play_56 : decode cX7_play 56 = .ok (.iload_n 2, 1) := by decide +kernel
theorem dX7_play_57 : decode cX7_play 57 = .ok (.iload_n 3, 1) := by decide +kernel
theorem dX7_play_58 : decode cX7_play 58 = .ok (.invokevirtual 260, 3) := by decide +kernel
theorem dX7_play_61 : decode cX7_play 61 = .ok (.ireturn, 1) := by decide +kernel
theorem dX7_weaves_0 : decode cX7_weaves 0 = .ok (.iconst 0, 1) := by decide +kernel
theorem dX7_weaves_1 : decode cX7_weaves 1 = .ok (.istore 5, 2) := by decide +kernel
theorem dX7_weaves_3 : decode cX7_weaves 3 = .ok (.iload 5, 2) := by decide +kernel
theorem dX7_weaves_5 : decode cX7_weaves 5 = .ok (.iload 4, 2) := by decide +kernel
theorem dX7_weaves_7 : decode cX7_weaves 7 = .ok (.if_icmp .gt 25, 3) := by decide +kernel
theorem dX7_weaves_10 : decode cX7_weaves 10 = .ok (.aload_n 0, 1) := by decide +kernel
theorem dX7_weaves_11 : decode cX7_weaves 11 = .ok (.iload_n 1, 1) := by decide +kernel
theorem dX7_weaves_12 : decode cX7_weaves 12 = .ok (.iload_n 2, 1) := by decide +kernel
theorem dX7_weaves_13 : decode cX7_weaves 13 = .ok (.iload 5, 2) := by decide +kernel
theorem dX7_weaves_15 : decode cX7_weaves 15 = .ok (.iadd, 1) := by decide +kernel
theorem dX7_weaves_16 : decode cX7_weaves 16 = .ok (.iload_n 3, 1) := by decide +kernel
theorem dX7_weaves_17 : decode cX7_weaves 17 = .ok (.invokevirtual 260, 3) := by decide +kernel
theorem dX7_weaves_20 : decode cX7_weaves 20 = .ok (.ifCond .lt 6, 3) := by decide +kernel
theorem dX7_weaves_23 : decode cX7_weaves 23 = .ok (.iload 5, 2) := by decide +kernel
theorem dX7_weaves_25 : decode cX7_weaves 25 = .ok (.ireturn, 1) := by decide +kernel
theorem dX7_weaves_26 : decode cX7_weaves 26 = .ok (.iinc 5 1, 3) := by decide +kernel
theorem dX7_weaves_29 : decode cX7_weaves 29 = .ok (.goto (-26), 3) := by decide +kernel
theorem dX7_weaves_32 : decode cX7_weaves 32 = .ok (.iconst (-1), 1) := by decide +kernel
theorem dX7_weaves_33 : decode cX7_weaves 33 = .ok (.ireturn, 1) := by decide +kernel
theorem dX7_weave_0 : decode cX7_weave 0 = .ok (.aload_n 0, 1) := by decide +kernel
theorem dX7_weave_1 : decode cX7_weave 1 = .ok (.iconst 0, 1) := by decide +kernel
theorem dX7_weave_2 : decode cX7_weave 2 = .ok (.putfield 1, 3) := by decide +kernel
theorem dX7_weave_5 : decode cX7_weave 5 = .ok (.iload_n 1, 1) := by decide +kernel
theorem dX7_weave_6 : decode cX7_weave 6 = .ok (.invokestatic 252, 3) := by decide +kernel
theorem dX7_weave_9 : decode cX7_weave 9 = .ok (.ifCond .ne 6, 3) := by decide +kernel
theorem dX7_weave_12 : decode cX7_weave 12 = .ok (.bipush (-2), 2) := by decide +kernel
theorem dX7_weave_14 : decode cX7_weave 14 = .ok (.ireturn, 1) := by decide +kernel
theorem dX7_weave_15 : decode cX7_weave 15 = .ok (.aload_n 0, 1) := by decide +kernel
theorem dX7_weave_16 : decode cX7_weave 16 = .ok (.getfield 57, 3) := by decide +kernel
theorem dX7_weave_19 : decode cX7_weave 19 = .ok (.iload_n 1, 1) := by decide +kernel
theorem dX7_weave_20 : decode cX7_weave 20 = .ok (.iaload, 1) := by decide +kernel
theorem dX7_weave_21 : decode cX7_weave 21 = .ok (.ifCond .ne 6, 3) := by decide +kernel
theorem dX7_weave_24 : decode cX7_weave 24 = .ok (.bipush (-9), 2) := by decide +kernel
theorem dX7_weave_26 : decode cX7_weave 26 = .ok (.ireturn, 1) := by decide +kernel
theorem dX7_weave_27 : decode cX7_weave 27 = .ok (.iload_n 2, 1) := by decide +kernel
theorem dX7_weave_28 : decode cX7_weave 28 = .ok (.i2l, 1) := by decide +kernel
theorem dX7_weave_29 : decode cX7_weave 29 = .ok (.lconst 0, 1) := by decide +kernel
theorem dX7_weave_30 : decode cX7_weave 30 = .ok (.ldc2_w 169, 3) := by decide +kernel
theorem dX7_weave_33 : decode cX7_weave 33 = .ok (.invokestatic 135, 3) := by decide +kernel
theorem dX7_weave_36 : decode cX7_weave 36 = .ok (.ifCond .eq 28, 3) := by decide +kernel
theorem dX7_weave_39 : decode cX7_weave 39 = .ok (.iload_n 3, 1) := by decide +kernel
theorem dX7_weave_40 : decode cX7_weave 40 = .ok (.i2l, 1) := by decide +kernel
theorem dX7_weave_41 : decode cX7_weave 41 = .ok (.lconst 1, 1) := by decide +kernel
theorem dX7_weave_42 : decode cX7_weave 42 = .ok (.ldc2_w 258, 3) := by decide +kernel
theorem dX7_weave_45 : decode cX7_weave 45 = .ok (.invokestatic 135, 3) := by decide +kernel
theorem dX7_weave_48 : decode cX7_weave 48 = .ok (.ifCond .eq 16, 3) := by decide +kernel
theorem dX7_weave_51 : decode cX7_weave 51 = .ok (.iload 4, 2) := by decide +kernel
theorem dX7_weave_53 : decode cX7_weave 53 = .ok (.i2l, 1) := by decide +kernel
theorem dX7_weave_54 : decode cX7_weave 54 = .ok (.lconst 0, 1) := by decide +kernel
theorem dX7_weave_55 : decode cX7_weave 55 = .ok (.ldc2_w 264, 3) := by decide +kernel
theorem dX7_weave_58 : decode cX7_weave 58 = .ok (.invokestatic 135, 3) := by decide +kernel
theorem dX7_weave_61 : decode cX7_weave 61 = .ok (.ifCond .ne 6, 3) := by decide +kernel
theorem dX7_weave_64 : decode cX7_weave 64 = .ok (.bipush (-3), 2) := by decide +kernel
theorem dX7_weave_66 : decode cX7_weave 66 = .ok (.ireturn, 1) := by decide +kernel
theorem dX7_weave_67 : decode cX7_weave 67 = .ok (.aload_n 0, 1) := by decide +kernel
theorem dX7_weave_68 : decode cX7_weave 68 = .ok (.iload_n 1, 1) := by decide +kernel
theorem dX7_weave_69 : decode cX7_weave 69 = .ok (.iload_n 2, 1) := by decide +kernel
theorem dX7_weave_70 : decode cX7_weave 70 = .ok (.iload_n 3, 1) := by decide +kernel
theorem dX7_weave_71 : decode cX7_weave 71 = .ok (.iload 4, 2) := by decide +kernel
theorem dX7_weave_73 : decode cX7_weave 73 = .ok (.invokevirtual 266, 3) := by decide +kernel
theorem dX7_weave_76 : decode cX7_weave 76 = .ok (.ireturn, 1) := by decide +kernel
theorem dX7_isPlayable_0 : decode cX7_isPlayable 0 = .ok (.aload_n 0, 1) := by decide +kernel
theorem dX7_isPlayable_1 : decode cX7_isPlayable 1 = .ok (.iconst 0, 1) := by decide +kernel
theorem dX7_isPlayable_2 : decode cX7_isPlayable 2 = .ok (.putfield 171, 3) := by decide +kernel
theorem dX7_isPlayable_5 : decode cX7_isPlayable 5 = .ok (.aload_n 0, 1) := by decide +kernel
theorem dX7_isPlayable_6 : decode cX7_isPlayable 6 = .ok (.iload_n 1, 1) := by decide +kernel
theorem dX7_isPlayable_7 : decode cX7_isPlayable 7 = .ok (.sipush 1000, 3) := by decide +kernel
theorem dX7_isPlayable_10 : decode cX7_isPlayable 10 = .ok (.iload_n 2, 1) := by decide +kernel
theorem dX7_isPlayable_11 : decode cX7_isPlayable 11 = .ok (.invokevirtual 260, 3) := by decide +kernel
theorem dX7_isPlayable_14 : decode cX7_isPlayable 14 = .ok (.ifCond .lt 7, 3) := by decide +kernel
theorem dX7_isPlayable_17 : decode cX7_isPlayable 17 = .ok (.iconst 1, 1) := by decide +kernel
theorem dX7_isPlayable_18 : decode cX7_isPlayable 18 = .ok (.goto 4, 3) := by decide +kernel
theorem dX7_isPlayable_21 : decode cX7_isPlayable 21 = .ok (.iconst 0, 1) := by decide +kernel
theorem dX7_isPlayable_22 : decode cX7_isPlayable 22 = .ok (.ireturn, 1) := by decide +kernel
theorem dX7_fastestTicks_0 : decode cX7_fastestTicks 0 = .ok (.aload_n 0, 1) := by decide +kernel
theorem dX7_fastestTicks_1 : decode cX7_fastestTicks 1 = .ok (.iconst 0, 1) := by decide +kernel
theorem dX7_fastestTicks_2 : decode cX7_fastestTicks 2 = .ok (.putfield 1, 3) := by decide +kernel
theorem dX7_fastestTicks_5 : decode cX7_fastestTicks 5 = .ok (.iload_n 1, 1) := by decide +kernel
theorem dX7_fastestTicks_6 : decode cX7_fastestTicks 6 = .ok (.invokestatic 252, 3) := by decide +kernel
theorem dX7_fastestTicks_9 : decode cX7_fastestTicks 9 = .ok (.ifCond .ne 6, 3) := by decide +kernel
theorem dX7_fastestTicks_12 : decode cX7_fastestTicks 12 = .ok (.bipush (-2), 2) := by decide +kernel
theorem dX7_fastestTicks_14 : decode cX7_fastestTicks 14 = .ok (.ireturn, 1) := by decide +kernel
theorem dX7_fastestTicks_15 : decode cX7_fastestTicks 15 = .ok (.aload_n 0, 1) := by decide +kernel
theorem dX7_fastestTicks_16 : decode cX7_fastestTicks 16 = .ok (.getfield 57, 3) := by decide +kernel
theorem dX7_fastestTicks_19 : decode cX7_fastestTicks 19 = .ok (.iload_n 1, 1) := by decide +kernel
theorem dX7_fastestTicks_20 : decode cX7_fastestTicks 20 = .ok (.iaload, 1) := by decide +kernel
theorem dX7_fastestTicks_21 : decode cX7_fastestTicks 21 = .ok (.ifCond .ne 6, 3) := by decide +kernel
theorem dX7_fastestTicks_24 : decode cX7_fastestTicks 24 = .ok (.bipush (-9), 2) := by decide +kernel
theorem dX7_fastestTicks_26 : decode cX7_fastestTicks 26 = .ok (.ireturn, 1) := by decide +kernel
theorem dX7_fastestTicks_27 : decode cX7_fastestTicks 27 = .ok (.aload_n 0, 1) := by decide +kernel
theorem dX7_fastestTicks_28 : decode cX7_fastestTicks 28 = .ok (.getfield 171, 3) := by decide +kernel
theorem dX7_fastestTicks_31 : decode cX7_fastestTicks 31 = .ok (.istore_n 2, 1) := by decide +kernel
theorem dX7_fastestTicks_32 : decode cX7_fastestTicks 32 = .ok (.aload_n 0, 1) := by decide +kernel
theorem dX7_fastestTicks_33 : decode cX7_fastestTicks 33 = .ok (.getfield 158, 3) := by decide +kernel
theorem dX7_fastestTicks_36 : decode cX7_fastestTicks 36 = .ok (.istore_n 3, 1) := by decide +kernel
theorem dX7_fastestTicks_37 : decode cX7_fastestTicks 37 = .ok (.iconst 0, 1) := by decide +kernel
theorem dX7_fastestTicks_38 : decode cX7_fastestTicks 38 = .ok (.istore 4, 2) := by decide +kernel
theorem dX7_fastestTicks_40 : decode cX7_fastestTicks 40 = .ok (.iload 4, 2) := by decide +kernel
theorem dX7_fastestTicks_42 : decode cX7_fastestTicks 42 = .ok (.iload_n 2, 1) := by decide +kernel
theorem dX7_fastestTicks_43 : decode cX7_fastestTicks 43 = .ok (.if_icmp .ge 51, 3) := by decide +kernel
theorem dX7_fastestTicks_46 : decode cX7_fastestTicks 46 = .ok (.aload_n 0, 1) := by decide +kernel
theorem dX7_fastestTicks_47 : decode cX7_fastestTicks 47 = .ok (.getfield 66, 3) := by decide +kernel
theorem dX7_fastestTicks_50 : decode cX7_fastestTicks 50 = .ok (.iload 4, 2) := by decide +kernel
theorem dX7_fastestTicks_52 : decode cX7_fastestTicks 52 = .ok (.aload_n 0, 1) := by decide +kernel
theorem dX7_fastestTicks_53 : decode cX7_fastestTicks 53 = .ok (.getfield 39, 3) := by decide +kernel
theorem dX7_fastestTicks_56 : decode cX7_fastestTicks 56 = .ok (.iload 4, 2) := by decide +kernel
theorem dX7_fastestTicks_58 : decode cX7_fastestTicks 58 = .ok (.iaload, 1) := by decide +kernel
theorem dX7_fastestTicks_59 : decode cX7_fastestTicks 59 = .ok (.iastore, 1) := by decide +kernel
theorem dX7_fastestTicks_60 : decode cX7_fastestTicks 60 = .ok (.aload_n 0, 1) := by decide +kernel
theorem dX7_fastestTicks_61 : decode cX7_fastestTicks 61 = .ok (.getfield 69, 3) := by decide +kernel
theorem dX7_fastestTicks_64 : decode cX7_fastestTicks 64 = .ok (.iload 4, 2) := by decide +kernel
theorem dX7_fastestTicks_66 : decode cX7_fastestTicks 66 = .ok (.aload_n 0, 1) := by decide +kernel
theorem dX7_fastestTicks_67 : decode cX7_fastestTicks 67 = .ok (.getfield 42, 3) := by decide +kernel
theorem dX7_fastestTicks_70 : decode cX7_fastestTicks 70 = .ok (.iload 4, 2) := by decide +kernel
theorem dX7_fastestTicks_72 : decode cX7_fastestTicks 72 = .ok (.iaload, 1) := by decide +kernel
theorem dX7_fastestTicks_73 : decode cX7_fastestTicks 73 = .ok (.iastore, 1) := by decide +kernel
theorem dX7_fastestTicks_74 : decode cX7_fastestTicks 74 = .ok (.aload_n 0, 1) := by decide +kernel
theorem dX7_fastestTicks_75 : decode cX7_fastestTicks 75 = .ok (.getfield 72, 3) := by decide +kernel
theorem dX7_fastestTicks_78 : decode cX7_fastestTicks 78 = .ok (.iload 4, 2) := by decide +kernel
theorem dX7_fastestTicks_80 : decode cX7_fastestTicks 80 = .ok (.aload_n 0, 1) := by decide +kernel
theorem dX7_fastestTicks_81 : decode cX7_fastestTicks 81 = .ok (.getfield 45, 3) := by decide +kernel
theorem dX7_fastestTicks_84 : decode cX7_fastestTicks 84 = .ok (.iload 4, 2) := by decide +kernel
theorem dX7_fastestTicks_86 : decode cX7_fastestTicks 86 = .ok (.iaload, 1) := by decide +kernel
theorem dX7_fastestTicks_87 : decode cX7_fastestTicks 87 = .ok (.iastore, 1) := by decide +kernel
theorem dX7_fastestTicks_88 : decode cX7_fastestTicks 88 = .ok (.iinc 4 1, 3) := by decide +kernel
theorem dX7_fastestTicks_91 : decode cX7_fastestTicks 91 = .ok (.goto (-51), 3) := by decide +kernel
theorem dX7_fastestTicks_94 : decode cX7_fastestTicks 94 = .ok (.iconst 0, 1) := by decide +kernel
theorem dX7_fastestTicks_95 : decode cX7_fastestTicks 95 = .ok (.istore 4, 2) := by decide +kernel
theorem dX7_fastestTicks_97 : decode cX7_fastestTicks 97 = .ok (.iload 4, 2) := by decide +kernel
theorem dX7_fastestTicks_99 : decode cX7_fastestTicks 99 = .ok (.bipush 12, 2) := by decide +kernel
theorem dX7_fastestTicks_101 : decode cX7_fastestTicks 101 = .ok (.if_icmp .ge 53, 3) := by decide +kernel
theorem dX7_fastestTicks_104 : decode cX7_fastestTicks 104 = .ok (.aload_n 0, 1) := by decide +kernel
theorem dX7_fastestTicks_105 : decode cX7_fastestTicks 105 = .ok (.getfield 75, 3) := by decide +kernel
theorem dX7_fastestTicks_108 : decode cX7_fastestTicks 108 = .ok (.iload 4, 2) := by decide +kernel
theorem dX7_fastestTicks_110 : decode cX7_fastestTicks 110 = .ok (.aload_n 0, 1) := by decide +kernel
theorem dX7_fastestTicks_111 : decode cX7_fastestTicks 111 = .ok (.getfield 26, 3) := by decide +kernel
theorem dX7_fastestTicks_114 : decode cX7_fastestTicks 114 = .ok (.iload 4, 2) := by decide +kernel
theorem dX7_fastestTicks_116 : decode cX7_fastestTicks 116 = .ok (.iaload, 1) := by decide +kernel
theorem dX7_fastestTicks_117 : decode cX7_fastestTicks 117 = .ok (.iastore, 1) := by decide +kernel
theorem dX7_fastestTicks_118 : decode cX7_fastestTicks 118 = .ok (.aload_n 0, 1) := by decide +kernel
theorem dX7_fastestTicks_119 : decode cX7_fastestTicks 119 = .ok (.getfield 78, 3) := by decide +kernel
theorem dX7_fastestTicks_122 : decode cX7_fastestTicks 122 = .ok (.iload 4, 2) := by decide +kernel
theorem dX7_fastestTicks_124 : decode cX7_fastestTicks 124 = .ok (.aload_n 0, 1) := by decide +kernel
theorem dX7_fastestTicks_125 : decode cX7_fastestTicks 125 = .ok (.getfield 99, 3) := by decide +kernel
theorem dX7_fastestTicks_128 : decode cX7_fastestTicks 128 = .ok (.iload 4, 2) := by decide +kernel
theorem dX7_fastestTicks_130 : decode cX7_fastestTicks 130 = .ok (.baload, 1) := by decide +kernel
theorem dX7_fastestTicks_131 : decode cX7_fastestTicks 131 = .ok (.bastore, 1) := by decide +kernel
theorem dX7_fastestTicks_132 : decode cX7_fastestTicks 132 = .ok (.aload_n 0, 1) := by decide +kernel
theorem dX7_fastestTicks_133 : decode cX7_fastestTicks 133 = .ok (.getfield 26, 3) := by decide +kernel
theorem dX7_fastestTicks_136 : decode cX7_fastestTicks 136 = .ok (.iload 4, 2) := by decide +kernel
theorem dX7_fastestTicks_138 : decode cX7_fastestTicks 138 = .ok (.iconst 0, 1) := by decide +kernel
theorem dX7_fastestTicks_139 : decode cX7_fastestTicks 139 = .ok (.iastore, 1) := by decide +kernel
theorem dX7_fastestTicks_140 : decode cX7_fastestTicks 140 = .ok (.aload_n 0, 1) := by decide +kernel
theorem dX7_fastestTicks_141 : decode cX7_fastestTicks 141 = .ok (.getfield 99, 3) := by decide +kernel
theorem dX7_fastestTicks_144 : decode cX7_fastestTicks 144 = .ok (.iload 4, 2) := by decide +kernel
theorem dX7_fastestTicks_146 : decode cX7_fastestTicks 146 = .ok (.iconst 0, 1) := by decide +kernel
theorem dX7_fastestTicks_147 : decode cX7_fastestTicks 147 = .ok (.bastore, 1) := by decide +kernel
theorem dX7_fastestTicks_148 : decode cX7_fastestTicks 148 = .ok (.iinc 4 1, 3) := by decide +kernel
theorem dX7_fastestTicks_151 : decode cX7_fastestTicks 151 = .ok (.goto (-54), 3) := by decide +kernel
theorem dX7_fastestTicks_154 : decode cX7_fastestTicks 154 = .ok (.aload_n 0, 1) := by decide +kernel
theorem dX7_fastestTicks_155 : decode cX7_fastestTicks 155 = .ok (.iconst 0, 1) := by decide +kernel
theorem dX7_fastestTicks_156 : decode cX7_fastestTicks 156 = .ok (.putfield 158, 3) := by decide +kernel
theorem dX7_fastestTicks_159 : decode cX7_fastestTicks 159 = .ok (.iconst 1, 1) := by decide +kernel
theorem dX7_fastestTicks_160 : decode cX7_fastestTicks 160 = .ok (.istore 4, 2) := by decide +kernel
theorem dX7_fastestTicks_162 : decode cX7_fastestTicks 162 = .ok (.iload 4, 2) := by decide +kernel
theorem dX7_fastestTicks_164 : decode cX7_fastestTicks 164 = .ok (.sipush 200, 3) := by decide +kernel
theorem dX7_fastestTicks_167 : decode cX7_fastestTicks 167 = .ok (.if_icmp .gt 19, 3) := by decide +kernel
theorem dX7_fastestTicks_170 : decode cX7_fastestTicks 170 = .ok (.aload_n 0, 1) := by decide +kernel
theorem dX7_fastestTicks_171 : decode cX7_fastestTicks 171 = .ok (.iload_n 1, 1) := by decide +kernel
theorem dX7_fastestTicks_172 : decode cX7_fastestTicks 172 = .ok (.iload 4, 2) := by decide +kernel
theorem dX7_fastestTicks_174 : decode cX7_fastestTicks 174 = .ok (.invokevirtual 270, 3) := by decide +kernel
theorem dX7_fastestTicks_177 : decode cX7_fastestTicks 177 = .ok (.ifCond .ne 9, 3) := by decide +kernel
theorem dX7_fastestTicks_180 : decode cX7_fastestTicks 180 = .ok (.iinc 4 1, 3) := by decide +kernel
theorem dX7_fastestTicks_183 : decode cX7_fastestTicks 183 = .ok (.goto (-21), 3) := by decide +kernel
theorem dX7_fastestTicks_186 : decode cX7_fastestTicks 186 = .ok (.aload_n 0, 1) := by decide +kernel
theorem dX7_fastestTicks_187 : decode cX7_fastestTicks 187 = .ok (.iload_n 3, 1) := by decide +kernel
theorem dX7_fastestTicks_188 : decode cX7_fastestTicks 188 = .ok (.putfield 158, 3) := by decide +kernel
theorem dX7_fastestTicks_191 : decode cX7_fastestTicks 191 = .ok (.aload_n 0, 1) := by decide +kernel
theorem dX7_fastestTicks_192 : decode cX7_fastestTicks 192 = .ok (.iload_n 2, 1) := by decide +kernel
theorem dX7_fastestTicks_193 : decode cX7_fastestTicks 193 = .ok (.putfield 171, 3) := by decide +kernel
theorem dX7_fastestTicks_196 : decode cX7_fastestTicks 196 = .ok (.iconst 0, 1) := by decide +kernel
theorem dX7_fastestTicks_197 : decode cX7_fastestTicks 197 = .ok (.istore 5, 2) := by decide +kernel
theorem dX7_fastestTicks_199 : decode cX7_fastestTicks 199 = .ok (.iload 5, 2) := by decide +kernel
theorem dX7_fastestTicks_201 : decode cX7_fastestTicks 201 = .ok (.iload_n 2, 1) := by decide +kernel
theorem dX7_fastestTicks_202 : decode cX7_fastestTicks 202 = .ok (.if_icmp .ge 51, 3) := by decide +kernel
theorem dX7_fastestTicks_205 : decode cX7_fastestTicks 205 = .ok (.aload_n 0, 1) := by decide +kernel
theorem dX7_fastestTicks_206 : decode cX7_fastestTicks 206 = .ok (.getfield 39, 3) := by decide +kernel
theorem dX7_fastestTicks_209 : decode cX7_fastestTicks 209 = .ok (.iload 5, 2) := by decide +kernel
theorem dX7_fastestTicks_211 : decode cX7_fastestTicks 211 = .ok (.aload_n 0, 1) := by decide +kernel
theorem dX7_fastestTicks_212 : decode cX7_fastestTicks 212 = .ok (.getfield 66, 3) := by decide +kernel
theorem dX7_fastestTicks_215 : decode cX7_fastestTicks 215 = .ok (.iload 5, 2) := by decide +kernel
theorem dX7_fastestTicks_217 : decode cX7_fastestTicks 217 = .ok (.iaload, 1) := by decide +kernel
theorem dX7_fastestTicks_218 : decode cX7_fastestTicks 218 = .ok (.iastore, 1) := by decide +kernel
theorem dX7_fastestTicks_219 : decode cX7_fastestTicks 219 = .ok (.aload_n 0, 1) := by decide +kernel
theorem dX7_fastestTicks_220 : decode cX7_fastestTicks 220 = .ok (.getfield 42, 3) := by decide +kernel
theorem dX7_fastestTicks_223 : decode cX7_fastestTicks 223 = .ok (.iload 5, 2) := by decide +kernel
theorem dX7_fastestTicks_225 : decode cX7_fastestTicks 225 = .ok (.aload_n 0, 1) := by decide +kernel
theorem dX7_fastestTicks_226 : decode cX7_fastestTicks 226 = .ok (.getfield 69, 3) := by decide +kernel
theorem dX7_fastestTicks_229 : decode cX7_fastestTicks 229 = .ok (.iload 5, 2) := by decide +kernel
theorem dX7_fastestTicks_231 : decode cX7_fastestTicks 231 = .ok (.iaload, 1) := by decide +kernel
theorem dX7_fastestTicks_232 : decode cX7_fastestTicks 232 = .ok (.iastore, 1) := by decide +kernel
theorem dX7_fastestTicks_233 : decode cX7_fastestTicks 233 = .ok (.aload_n 0, 1) := by decide +kernel
theorem dX7_fastestTicks_234 : decode cX7_fastestTicks 234 = .ok (.getfield 45, 3) := by decide +kernel
theorem dX7_fastestTicks_237 : decode cX7_fastestTicks 237 = .ok (.iload 5, 2) := by decide +kernel
theorem dX7_fastestTicks_239 : decode cX7_fastestTicks 239 = .ok (.aload_n 0, 1) := by decide +kernel
theorem dX7_fastestTicks_240 : decode cX7_fastestTicks 240 = .ok (.getfield 72, 3) := by decide +kernel
theorem dX7_fastestTicks_243 : decode cX7_fastestTicks 243 = .ok (.iload 5, 2) := by decide +kernel
theorem dX7_fastestTicks_245 : decode cX7_fastestTicks 245 = .ok (.iaload, 1) := by decide +kernel
theorem dX7_fastestTicks_246 : decode cX7_fastestTicks 246 = .ok (.iastore, 1) := by decide +kernel
theorem dX7_fastestTicks_247 : decode cX7_fastestTicks 247 = .ok (.iinc 5 1, 3) := by decide +kernel
theorem dX7_fastestTicks_250 : decode cX7_fastestTicks 250 = .ok (.goto (-51), 3) := by decide +kernel
theorem dX7_fastestTicks_253 : decode cX7_fastestTicks 253 = .ok (.iconst 0, 1) := by decide +kernel
theorem dX7_fastestTicks_254 : decode cX7_fastestTicks 254 = .ok (.istore 5, 2) := by decide +kernel
theorem dX7_fastestTicks_256 : decode cX7_fastestTicks 256 = .ok (.iload 5, 2) := by decide +kernel
theorem dX7_fastestTicks_258 : decode cX7_fastestTicks 258 = .ok (.bipush 12, 2) := by decide +kernel
theorem dX7_fastestTicks_260 : decode cX7_fastestTicks 260 = .ok (.if_icmp .ge 37, 3) := by decide +kernel
theorem dX7_fastestTicks_263 : decode cX7_fastestTicks 263 = .ok (.aload_n 0, 1) := by decide +kernel
theorem dX7_fastestTicks_264 : decode cX7_fastestTicks 264 = .ok (.getfield 26, 3) := by decide +kernel
theorem dX7_fastestTicks_267 : decode cX7_fastestTicks 267 = .ok (.iload 5, 2) := by decide +kernel
theorem dX7_fastestTicks_269 : decode cX7_fastestTicks 269 = .ok (.aload_n 0, 1) := by decide +kernel
theorem dX7_fastestTicks_270 : decode cX7_fastestTicks 270 = .ok (.getfield 75, 3) := by decide +kernel
theorem dX7_fastestTicks_273 : decode cX7_fastestTicks 273 = .ok (.iload 5, 2) := by decide +kernel
theorem dX7_fastestTicks_275 : decode cX7_fastestTicks 275 = .ok (.iaload, 1) := by decide +kernel
theorem dX7_fastestTicks_276 : decode cX7_fastestTicks 276 = .ok (.iastore, 1) := by decide +kernel
theorem dX7_fastestTicks_277 : decode cX7_fastestTicks 277 = .ok (.aload_n 0, 1) := by decide +kernel
theorem dX7_fastestTicks_278 : decode cX7_fastestTicks 278 = .ok (.getfield 99, 3) := by decide +kernel
theorem dX7_fastestTicks_281 : decode cX7_fastestTicks 281 = .ok (.iload 5, 2) := by decide +kernel
theorem dX7_fastestTicks_283 : decode cX7_fastestTicks 283 = .ok (.aload_n 0, 1) := by decide +kernel
theorem dX7_fastestTicks_284 : decode cX7_fastestTicks 284 = .ok (.getfield 78, 3) := by decide +kernel
theorem dX7_fastestTicks_287 : decode cX7_fastestTicks 287 = .ok (.iload 5, 2) := by decide +kernel
theorem dX7_fastestTicks_289 : decode cX7_fastestTicks 289 = .ok (.baload, 1) := by decide +kernel
theorem dX7_fastestTicks_290 : decode cX7_fastestTicks 290 = .ok (.bastore, 1) := by decide +kernel
theorem dX7_fastestTicks_291 : decode cX7_fastestTicks 291 = .ok (.iinc 5 1, 3) := by decide +kernel
theorem dX7_fastestTicks_294 : decode cX7_fastestTicks 294 = .ok (.goto (-38), 3) := by decide +kernel
theorem dX7_fastestTicks_297 : decode cX7_fastestTicks 297 = .ok (.iload 4, 2) := by decide +kernel
theorem dX7_fastestTicks_299 : decode cX7_fastestTicks 299 = .ok (.sipush 200, 3) := by decide +kernel
theorem dX7_fastestTicks_302 : decode cX7_fastestTicks 302 = .ok (.if_icmp .le 7, 3) := by decide +kernel
theorem dX7_fastestTicks_305 : decode cX7_fastestTicks 305 = .ok (.iconst (-1), 1) := by decide +kernel
theorem dX7_fastestTicks_306 : decode cX7_fastestTicks 306 = .ok (.goto 5, 3) := by decide +kernel
theorem dX7_fastestTicks_309 : decode cX7_fastestTicks 309 = .ok (.iload 4, 2) := by decide +kernel
theorem dX7_fastestTicks_311 : decode cX7_fastestTicks 311 = .ok (.ireturn, 1) := by decide +kernel
theorem dX7_movesAt_0 : decode cX7_movesAt 0 = .ok (.iconst 0, 1) := by decide +kernel
theorem dX7_movesAt_1 : decode cX7_movesAt 1 = .ok (.istore 4, 2) := by decide +kernel
theorem dX7_movesAt_3 : decode cX7_movesAt 3 = .ok (.iconst 0, 1) := by decide +kernel
theorem dX7_movesAt_4 : decode cX7_movesAt 4 = .ok (.istore 5, 2) := by decide +kernel
theorem dX7_movesAt_6 : decode cX7_movesAt 6 = .ok (.iload 5, 2) := by decide +kernel
theorem dX7_movesAt_8 : decode cX7_movesAt 8 = .ok (.aload_n 0, 1) := by decide +kernel
theorem dX7_movesAt_9 : decode cX7_movesAt 9 = .ok (.getfield 57, 3) := by decide +kernel
theorem dX7_movesAt_12 : decode cX7_movesAt 12 = .ok (.iload_n 1, 1) := by decide +kernel
theorem dX7_movesAt_13 : decode cX7_movesAt 13 = .ok (.iaload, 1) := by decide +kernel
theorem dX7_movesAt_14 : decode cX7_movesAt 14 = .ok (.if_icmp .ge 86, 3) := by decide +kernel
theorem dX7_movesAt_17 : decode cX7_movesAt 17 = .ok (.iconst 0, 1) := by decide +kernel
theorem dX7_movesAt_18 : decode cX7_movesAt 18 = .ok (.istore 6, 2) := by decide +kernel
theorem dX7_movesAt_20 : decode cX7_movesAt 20 = .ok (.iload 6, 2) := by decide +kernel
theorem dX7_movesAt_22 : decode cX7_movesAt 22 = .ok (.aload_n 0, 1) := by decide +kernel
theorem dX7_movesAt_23 : decode cX7_movesAt 23 = .ok (.getfield 132, 3) := by decide +kernel
theorem dX7_movesAt_26 : decode cX7_movesAt 26 = .ok (.if_icmp .ge 68, 3) := by decide +kernel
theorem dX7_movesAt_29 : decode cX7_movesAt 29 = .ok (.iload 4, 2) := by decide +kernel
theorem dX7_movesAt_31 : decode cX7_movesAt 31 = .ok (.aload_n 0, 1) := by decide +kernel
theorem dX7_movesAt_32 : decode cX7_movesAt 32 = .ok (.getfield 54, 3) := by decide +kernel
theorem dX7_movesAt_35 : decode cX7_movesAt 35 = .ok (.bipush 100, 2) := by decide +kernel
theorem dX7_movesAt_37 : decode cX7_movesAt 37 = .ok (.iload_n 1, 1) := by decide +kernel
theorem dX7_movesAt_38 : decode cX7_movesAt 38 = .ok (.imul, 1) := by decide +kernel
theorem dX7_movesAt_39 : decode cX7_movesAt 39 = .ok (.iload 5, 2) := by decide +kernel
theorem dX7_movesAt_41 : decode cX7_movesAt 41 = .ok (.iadd, 1) := by decide +kernel
theorem dX7_movesAt_42 : decode cX7_movesAt 42 = .ok (.iaload, 1) := by decide +kernel
theorem dX7_movesAt_43 : decode cX7_movesAt 43 = .ok (.iload 6, 2) := by decide +kernel
theorem dX7_movesAt_45 : decode cX7_movesAt 45 = .ok (.ishr, 1) := by decide +kernel
theorem dX7_movesAt_46 : decode cX7_movesAt 46 = .ok (.iconst 1, 1) := by decide +kernel
theorem dX7_movesAt_47 : decode cX7_movesAt 47 = .ok (.iand, 1) := by decide +kernel
theorem dX7_movesAt_48 : decode cX7_movesAt 48 = .ok (.iconst 1, 1) := by decide +kernel
theorem dX7_movesAt_49 : decode cX7_movesAt 49 = .ok (.if_icmp .ne 35, 3) := by decide +kernel
theorem dX7_movesAt_52 : decode cX7_movesAt 52 = .ok (.iload_n 3, 1) := by decide +kernel
theorem dX7_movesAt_53 : decode cX7_movesAt 53 = .ok (.i2l, 1) := by decide +kernel
theorem dX7_movesAt_54 : decode cX7_movesAt 54 = .ok (.iload 5, 2) := by decide +kernel
theorem dX7_movesAt_56 : decode cX7_movesAt 56 = .ok (.iload_n 2, 1) := by decide +kernel
theorem dX7_movesAt_57 : decode cX7_movesAt 57 = .ok (.imul, 1) := by decide +kernel
theorem dX7_movesAt_58 : decode cX7_movesAt 58 = .ok (.aload_n 0, 1) := by decide +kernel
theorem dX7_movesAt_59 : decode cX7_movesAt 59 = .ok (.getfield 13, 3) := by decide +kernel
theorem dX7_movesAt_62 : decode cX7_movesAt 62 = .ok (.iload 6, 2) := by decide +kernel
theorem dX7_movesAt_64 : decode cX7_movesAt 64 = .ok (.iaload, 1) := by decide +kernel
theorem dX7_movesAt_65 : decode cX7_movesAt 65 = .ok (.isub, 1) := by decide +kernel
theorem dX7_movesAt_66 : decode cX7_movesAt 66 = .ok (.i2l, 1) := by decide +kernel
theorem dX7_movesAt_67 : decode cX7_movesAt 67 = .ok (.iload 5, 2) := by decide +kernel
theorem dX7_movesAt_69 : decode cX7_movesAt 69 = .ok (.iload_n 2, 1) := by decide +kernel
theorem dX7_movesAt_70 : decode cX7_movesAt 70 = .ok (.imul, 1) := by decide +kernel
theorem dX7_movesAt_71 : decode cX7_movesAt 71 = .ok (.iconst 1, 1) := by decide +kernel
theorem dX7_movesAt_72 : decode cX7_movesAt 72 = .ok (.isub, 1) := by decide +kernel
theorem dX7_movesAt_73 : decode cX7_movesAt 73 = .ok (.i2l, 1) := by decide +kernel
theorem dX7_movesAt_74 : decode cX7_movesAt 74 = .ok (.invokestatic 135, 3) := by decide +kernel
theorem dX7_movesAt_77 : decode cX7_movesAt 77 = .ok (.ifCond .eq 7, 3) := by decide +kernel
theorem dX7_movesAt_80 : decode cX7_movesAt 80 = .ok (.iconst 1, 1) := by decide +kernel
theorem dX7_movesAt_81 : decode cX7_movesAt 81 = .ok (.goto 4, 3) := by decide +kernel
theorem dX7_movesAt_84 : decode cX7_movesAt 84 = .ok (.iconst 0, 1) := by decide +kernel
theorem dX7_movesAt_85 : decode cX7_movesAt 85 = .ok (.iadd, 1) := by decide +kernel
theorem dX7_movesAt_86 : decode cX7_movesAt 86 = .ok (.istore 4, 2) := by decide +kernel
theorem dX7_movesAt_88 : decode cX7_movesAt 88 = .ok (.iinc 6 1, 3) := by decide +kernel
theorem dX7_movesAt_91 : decode cX7_movesAt 91 = .ok (.goto (-71), 3) := by decide +kernel
theorem dX7_movesAt_94 : decode cX7_movesAt 94 = .ok (.iinc 5 1, 3) := by decide +kernel
theorem dX7_movesAt_97 : decode cX7_movesAt 97 = .ok (.goto (-91), 3) := by decide +kernel
theorem dX7_movesAt_100 : decode cX7_movesAt 100 = .ok (.iload 4, 2) := by decide +kernel
theorem dX7_movesAt_102 : decode cX7_movesAt 102 = .ok (.ireturn, 1) := by decide +kernel
theorem dX7_powerNeeded_0 : decode cX7_powerNeeded 0 = .ok (.aload_n 0, 1) := by decide +kernel
theorem dX7_powerNeeded_1 : decode cX7_powerNeeded 1 = .ok (.iconst 0, 1) := by decide +kernel
theorem dX7_powerNeeded_2 : decode cX7_powerNeeded 2 = .ok (.putfield 1, 3) := by decide +kernel
theorem dX7_powerNeeded_5 : decode cX7_powerNeeded 5 = .ok (.iload_n 1, 1) := by decide +kernel
theorem dX7_powerNeeded_6 : decode cX7_powerNeeded 6 = .ok (.invokestatic 252, 3) := by decide +kernel
theorem dX7_powerNeeded_9 : decode cX7_powerNeeded 9 = .ok (.ifCond .ne 6, 3) := by decide +kernel
theorem dX7_powerNeeded_12 : decode cX7_powerNeeded 12 = .ok (.bipush (-2), 2) := by decide +kernel
theorem dX7_powerNeeded_14 : decode cX7_powerNeeded 14 = .ok (.ireturn, 1) := by decide +kernel
theorem dX7_powerNeeded_15 : decode cX7_powerNeeded 15 = .ok (.aload_n 0, 1) := by decide +kernel
theorem dX7_powerNeeded_16 : decode cX7_powerNeeded 16 = .ok (.getfield 57, 3) := by decide +kernel
theorem dX7_powerNeeded_19 : decode cX7_powerNeeded 19 = .ok (.iload_n 1, 1) := by decide +kernel
theorem dX7_powerNeeded_20 : decode cX7_powerNeeded 20 = .ok (.iaload, 1) := by decide +kernel
theorem dX7_powerNeeded_21 : decode cX7_powerNeeded 21 = .ok (.ifCond .ne 6, 3) := by decide +kernel
theorem dX7_powerNeeded_24 : decode cX7_powerNeeded 24 = .ok (.bipush (-9), 2) := by decide +kernel
theorem dX7_powerNeeded_26 : decode cX7_powerNeeded 26 = .ok (.ireturn, 1) := by decide +kernel
theorem dX7_powerNeeded_27 : decode cX7_powerNeeded 27 = .ok (.iload_n 2, 1) := by decide +kernel
theorem dX7_powerNeeded_28 : decode cX7_powerNeeded 28 = .ok (.i2l, 1) := by decide +kernel
theorem dX7_powerNeeded_29 : decode cX7_powerNeeded 29 = .ok (.lconst 1, 1) := by decide +kernel
theorem dX7_powerNeeded_30 : decode cX7_powerNeeded 30 = .ok (.ldc2_w 258, 3) := by decide +kernel
theorem dX7_powerNeeded_33 : decode cX7_powerNeeded 33 = .ok (.invokestatic 135, 3) := by decide +kernel
theorem dX7_powerNeeded_36 : decode cX7_powerNeeded 36 = .ok (.ifCond .ne 6, 3) := by decide +kernel
theorem dX7_powerNeeded_39 : decode cX7_powerNeeded 39 = .ok (.bipush (-3), 2) := by decide +kernel
theorem dX7_powerNeeded_41 : decode cX7_powerNeeded 41 = .ok (.ireturn, 1) := by decide +kernel
theorem dX7_powerNeeded_42 : decode cX7_powerNeeded 42 = .ok (.iconst 0, 1) := by decide +kernel
theorem dX7_powerNeeded_43 : decode cX7_powerNeeded 43 = .ok (.istore_n 3, 1) := by decide +kernel
theorem dX7_powerNeeded_44 : decode cX7_powerNeeded 44 = .ok (.iconst 0, 1) := by decide +kernel
theorem dX7_powerNeeded_45 : decode cX7_powerNeeded 45 = .ok (.istore 4, 2) := by decide +kernel
theorem dX7_powerNeeded_47 : decode cX7_powerNeeded 47 = .ok (.iload 4, 2) := by decide +kernel
theorem dX7_powerNeeded_49 : decode cX7_powerNeeded 49 = .ok (.aload_n 0, 1) := by decide +kernel
theorem dX7_powerNeeded_50 : decode cX7_powerNeeded 50 = .ok (.getfield 57, 3) := by decide +kernel
theorem dX7_powerNeeded_53 : decode cX7_powerNeeded 53 = .ok (.iload_n 1, 1) := by decide +kernel
theorem dX7_powerNeeded_54 : decode cX7_powerNeeded 54 = .ok (.iaload, 1) := by decide +kernel
theorem dX7_powerNeeded_55 : decode cX7_powerNeeded 55 = .ok (.if_icmp .ge 85, 3) := by decide +kernel
theorem dX7_powerNeeded_58 : decode cX7_powerNeeded 58 = .ok (.iconst 0, 1) := by decide +kernel
theorem dX7_powerNeeded_59 : decode cX7_powerNeeded 59 = .ok (.istore 5, 2) := by decide +kernel
theorem dX7_powerNeeded_61 : decode cX7_powerNeeded 61 = .ok (.iload 5, 2) := by decide +kernel
theorem dX7_powerNeeded_63 : decode cX7_powerNeeded 63 = .ok (.aload_n 0, 1) := by decide +kernel
theorem dX7_powerNeeded_64 : decode cX7_powerNeeded 64 = .ok (.getfield 132, 3) := by decide +kernel
theorem dX7_powerNeeded_67 : decode cX7_powerNeeded 67 = .ok (.if_icmp .ge 67, 3) := by decide +kernel
theorem dX7_powerNeeded_70 : decode cX7_powerNeeded 70 = .ok (.aload_n 0, 1) := by decide +kernel
theorem dX7_powerNeeded_71 : decode cX7_powerNeeded 71 = .ok (.getfield 54, 3) := by decide +kernel
theorem dX7_powerNeeded_74 : decode cX7_powerNeeded 74 = .ok (.bipush 100, 2) := by decide +kernel
theorem dX7_powerNeeded_76 : decode cX7_powerNeeded 76 = .ok (.iload_n 1, 1) := by decide +kernel
theorem dX7_powerNeeded_77 : decode cX7_powerNeeded 77 = .ok (.imul, 1) := by decide +kernel
theorem dX7_powerNeeded_78 : decode cX7_powerNeeded 78 = .ok (.iload 4, 2) := by decide +kernel
theorem dX7_powerNeeded_80 : decode cX7_powerNeeded 80 = .ok (.iadd, 1) := by decide +kernel
theorem dX7_powerNeeded_81 : decode cX7_powerNeeded 81 = .ok (.iaload, 1) := by decide +kernel
theorem dX7_powerNeeded_82 : decode cX7_powerNeeded 82 = .ok (.iload 5, 2) := by decide +kernel
theorem dX7_powerNeeded_84 : decode cX7_powerNeeded 84 = .ok (.ishr, 1) := by decide +kernel
theorem dX7_powerNeeded_85 : decode cX7_powerNeeded 85 = .ok (.iconst 1, 1) := by decide +kernel
theorem dX7_powerNeeded_86 : decode cX7_powerNeeded 86 = .ok (.iand, 1) := by decide +kernel
theorem dX7_powerNeeded_87 : decode cX7_powerNeeded 87 = .ok (.iconst 1, 1) := by decide +kernel
theorem dX7_powerNeeded_88 : decode cX7_powerNeeded 88 = .ok (.if_icmp .ne 24, 3) := by decide +kernel
theorem dX7_powerNeeded_91 : decode cX7_powerNeeded 91 = .ok (.aload_n 0, 1) := by decide +kernel
theorem dX7_powerNeeded_92 : decode cX7_powerNeeded 92 = .ok (.iload_n 1, 1) := by decide +kernel
theorem dX7_powerNeeded_93 : decode cX7_powerNeeded 93 = .ok (.iload_n 2, 1) := by decide +kernel
theorem dX7_powerNeeded_94 : decode cX7_powerNeeded 94 = .ok (.iload 4, 2) := by decide +kernel
theorem dX7_powerNeeded_96 : decode cX7_powerNeeded 96 = .ok (.iload_n 2, 1) := by decide +kernel
theorem dX7_powerNeeded_97 : decode cX7_powerNeeded 97 = .ok (.imul, 1) := by decide +kernel
theorem dX7_powerNeeded_98 : decode cX7_powerNeeded 98 = .ok (.aload_n 0, 1) := by decide +kernel
theorem dX7_powerNeeded_99 : decode cX7_powerNeeded 99 = .ok (.getfield 13, 3) := by decide +kernel
theorem dX7_powerNeeded_102 : decode cX7_powerNeeded 102 = .ok (.iload 5, 2) := by decide +kernel
theorem dX7_powerNeeded_104 : decode cX7_powerNeeded 104 = .ok (.iaload, 1) := by decide +kernel
theorem dX7_powerNeeded_105 : decode cX7_powerNeeded 105 = .ok (.isub, 1) := by decide +kernel
theorem dX7_powerNeeded_106 : decode cX7_powerNeeded 106 = .ok (.invokevirtual 274, 3) := by decide +kernel
theorem dX7_powerNeeded_109 : decode cX7_powerNeeded 109 = .ok (.goto 4, 3) := by decide +kernel
theorem dX7_powerNeeded_112 : decode cX7_powerNeeded 112 = .ok (.iconst 0, 1) := by decide +kernel
theorem dX7_powerNeeded_113 : decode cX7_powerNeeded 113 = .ok (.istore 6, 2) := by decide +kernel
theorem dX7_powerNeeded_115 : decode cX7_powerNeeded 115 = .ok (.iload 6, 2) := by decide +kernel
theorem dX7_powerNeeded_117 : decode cX7_powerNeeded 117 = .ok (.iload_n 3, 1) := by decide +kernel
theorem dX7_powerNeeded_118 : decode cX7_powerNeeded 118 = .ok (.if_icmp .le 8, 3) := by decide +kernel
theorem dX7_powerNeeded_121 : decode cX7_powerNeeded 121 = .ok (.iload 6, 2) := by decide +kernel
theorem dX7_powerNeeded_123 : decode cX7_powerNeeded 123 = .ok (.goto 4, 3) := by decide +kernel
theorem dX7_powerNeeded_126 : decode cX7_powerNeeded 126 = .ok (.iload_n 3, 1) := by decide +kernel
theorem dX7_powerNeeded_127 : decode cX7_powerNeeded 127 = .ok (.istore_n 3, 1) := by decide +kernel
theorem dX7_powerNeeded_128 : decode cX7_powerNeeded 128 = .ok (.iinc 5 1, 3) := by decide +kernel
theorem dX7_powerNeeded_131 : decode cX7_powerNeeded 131 = .ok (.goto (-70), 3) := by decide +kernel
theorem dX7_powerNeeded_134 : decode cX7_powerNeeded 134 = .ok (.iinc 4 1, 3) := by decide +kernel
theorem dX7_powerNeeded_137 : decode cX7_powerNeeded 137 = .ok (.goto (-90), 3) := by decide +kernel
theorem dX7_powerNeeded_140 : decode cX7_powerNeeded 140 = .ok (.iload_n 3, 1) := by decide +kernel
theorem dX7_powerNeeded_141 : decode cX7_powerNeeded 141 = .ok (.ireturn, 1) := by decide +kernel
theorem dX7_isEntry_0 : decode cX7_isEntry 0 = .ok (.iload_n 1, 1) := by decide +kernel
theorem dX7_isEntry_1 : decode cX7_isEntry 1 = .ok (.i2l, 1) := by decide +kernel
theorem dX7_isEntry_2 : decode cX7_isEntry 2 = .ok (.lconst 0, 1) := by decide +kernel
theorem dX7_isEntry_3 : decode cX7_isEntry 3 = .ok (.aload_n 0, 1) := by decide +kernel
theorem dX7_isEntry_4 : decode cX7_isEntry 4 = .ok (.getfield 277, 3) := by decide +kernel
theorem dX7_isEntry_7 : decode cX7_isEntry 7 = .ok (.iconst 1, 1) := by decide +kernel
theorem dX7_isEntry_8 : decode cX7_isEntry 8 = .ok (.isub, 1) := by decide +kernel
theorem dX7_isEntry_9 : decode cX7_isEntry 9 = .ok (.i2l, 1) := by decide +kernel
theorem dX7_isEntry_10 : decode cX7_isEntry 10 = .ok (.invokestatic 135, 3) := by decide +kernel
theorem dX7_isEntry_13 : decode cX7_isEntry 13 = .ok (.ireturn, 1) := by decide +kernel
theorem dX7_addEntry_0 : decode cX7_addEntry 0 = .ok (.aload_n 0, 1) := by decide +kernel
theorem dX7_addEntry_1 : decode cX7_addEntry 1 = .ok (.iconst 0, 1) := by decide +kernel
theorem dX7_addEntry_2 : decode cX7_addEntry 2 = .ok (.putfield 1, 3) := by decide +kernel
theorem dX7_addEntry_5 : decode cX7_addEntry 5 = .ok (.iload_n 1, 1) := by decide +kernel
theorem dX7_addEntry_6 : decode cX7_addEntry 6 = .ok (.invokestatic 252, 3) := by decide +kernel
theorem dX7_addEntry_9 : decode cX7_addEntry 9 = .ok (.ifCond .ne 6, 3) := by decide +kernel
theorem dX7_addEntry_12 : decode cX7_addEntry 12 = .ok (.bipush (-2), 2) := by decide +kernel
theorem dX7_addEntry_14 : decode cX7_addEntry 14 = .ok (.ireturn, 1) := by decide +kernel
theorem dX7_addEntry_15 : decode cX7_addEntry 15 = .ok (.iload_n 2, 1) := by decide +kernel
theorem dX7_addEntry_16 : decode cX7_addEntry 16 = .ok (.i2l, 1) := by decide +kernel
theorem dX7_addEntry_17 : decode cX7_addEntry 17 = .ok (.lconst 0, 1) := by decide +kernel
theorem dX7_addEntry_18 : decode cX7_addEntry 18 = .ok (.ldc2_w 169, 3) := by decide +kernel
theorem dX7_addEntry_21 : decode cX7_addEntry 21 = .ok (.invokestatic 135, 3) := by decide +kernel
theorem dX7_addEntry_24 : decode cX7_addEntry 24 = .ok (.ifCond .eq 47, 3) := by decide +kernel
theorem dX7_addEntry_27 : decode cX7_addEntry 27 = .ok (.iload_n 3, 1) := by decide +kernel
theorem dX7_addEntry_28 : decode cX7_addEntry 28 = .ok (.ifCond .eq 17, 3) := by decide +kernel
theorem dX7_addEntry_31 : decode cX7_addEntry 31 = .ok (.iload_n 3, 1) := by decide +kernel
theorem dX7_addEntry_32 : decode cX7_addEntry 32 = .ok (.i2l, 1) := by decide +kernel
theorem dX7_addEntry_33 : decode cX7_addEntry 33 = .ok (.ldc2_w 258, 3) := by decide +kernel
theorem dX7_addEntry_36 : decode cX7_addEntry 36 = .ok (.ldc2_w 280, 3) := by decide +kernel
theorem dX7_addEntry_39 : decode cX7_addEntry 39 = .ok (.invokestatic 135, 3) := by decide +kernel
theorem dX7_addEntry_42 : decode cX7_addEntry 42 = .ok (.ifCond .eq 29, 3) := by decide +kernel
theorem dX7_addEntry_45 : decode cX7_addEntry 45 = .ok (.iload 4, 2) := by decide +kernel
theorem dX7_addEntry_47 : decode cX7_addEntry 47 = .ok (.i2l, 1) := by decide +kernel
theorem dX7_addEntry_48 : decode cX7_addEntry 48 = .ok (.lconst 1, 1) := by decide +kernel
theorem dX7_addEntry_49 : decode cX7_addEntry 49 = .ok (.ldc2_w 258, 3) := by decide +kernel
theorem dX7_addEntry_52 : decode cX7_addEntry 52 = .ok (.invokestatic 135, 3) := by decide +kernel
theorem dX7_addEntry_55 : decode cX7_addEntry 55 = .ok (.ifCond .eq 16, 3) := by decide +kernel
theorem dX7_addEntry_58 : decode cX7_addEntry 58 = .ok (.iload 5, 2) := by decide +kernel
theorem dX7_addEntry_60 : decode cX7_addEntry 60 = .ok (.i2l, 1) := by decide +kernel
theorem dX7_addEntry_61 : decode cX7_addEntry 61 = .ok (.lconst 0, 1) := by decide +kernel
theorem dX7_addEntry_62 : decode cX7_addEntry 62 = .ok (.ldc2_w 264, 3) := by decide +kernel
theorem dX7_addEntry_65 : decode cX7_addEntry 65 = .ok (.invokestatic 135, 3) := by decide +kernel
theorem dX7_addEntry_68 : decode cX7_addEntry 68 = .ok (.ifCond .ne 6, 3) := by decide +kernel
theorem dX7_addEntry_71 : decode cX7_addEntry 71 = .ok (.bipush (-3), 2) := by decide +kernel
theorem dX7_addEntry_73 : decode cX7_addEntry 73 = .ok (.ireturn, 1) := by decide +kernel
theorem dX7_addEntry_74 : decode cX7_addEntry 74 = .ok (.aload_n 0, 1) := by decide +kernel
theorem dX7_addEntry_75 : decode cX7_addEntry 75 = .ok (.getfield 277, 3) := by decide +kernel
theorem dX7_addEntry_78 : decode cX7_addEntry 78 = .ok (.bipush 8, 2) := by decide +kernel
theorem dX7_addEntry_80 : decode cX7_addEntry 80 = .ok (.if_icmp .ne 6, 3) := by decide +kernel
theorem dX7_addEntry_83 : decode cX7_addEntry 83 = .ok (.bipush (-4), 2) := by decide +kernel
theorem dX7_addEntry_85 : decode cX7_addEntry 85 = .ok (.ireturn, 1) := by decide +kernel
theorem dX7_addEntry_86 : decode cX7_addEntry 86 = .ok (.aload_n 0, 1) := by decide +kernel
theorem dX7_addEntry_87 : decode cX7_addEntry 87 = .ok (.getfield 81, 3) := by decide +kernel
theorem dX7_addEntry_90 : decode cX7_addEntry 90 = .ok (.aload_n 0, 1) := by decide +kernel
theorem dX7_addEntry_91 : decode cX7_addEntry 91 = .ok (.getfield 277, 3) := by decide +kernel
theorem dX7_addEntry_94 : decode cX7_addEntry 94 = .ok (.iload_n 1, 1) := by decide +kernel
theorem dX7_addEntry_95 : decode cX7_addEntry 95 = .ok (.iastore, 1) := by decide +kernel
theorem dX7_addEntry_96 : decode cX7_addEntry 96 = .ok (.aload_n 0, 1) := by decide +kernel
theorem dX7_addEntry_97 : decode cX7_addEntry 97 = .ok (.getfield 84, 3) := by decide +kernel
theorem dX7_addEntry_100 : decode cX7_addEntry 100 = .ok (.aload_n 0, 1) := by decide +kernel
theorem dX7_addEntry_101 : decode cX7_addEntry 101 = .ok (.getfield 277, 3) := by decide +kernel
theorem dX7_addEntry_104 : decode cX7_addEntry 104 = .ok (.iload_n 2, 1) := by decide +kernel
theorem dX7_addEntry_105 : decode cX7_addEntry 105 = .ok (.iastore, 1) := by decide +kernel
theorem dX7_addEntry_106 : decode cX7_addEntry 106 = .ok (.aload_n 0, 1) := by decide +kernel
theorem dX7_addEntry_107 : decode cX7_addEntry 107 = .ok (.getfield 87, 3) := by decide +kernel
theorem dX7_addEntry_110 : decode cX7_addEntry 110 = .ok (.aload_n 0, 1) := by decide +kernel
theorem dX7_addEntry_111 : decode cX7_addEntry 111 = .ok (.getfield 277, 3) := by decide +kernel
theorem dX7_addEntry_114 : decode cX7_addEntry 114 = .ok (.iload_n 3, 1) := by decide +kernel
theorem dX7_addEntry_115 : decode cX7_addEntry 115 = .ok (.iastore, 1) := by decide +kernel
theorem dX7_addEntry_116 : decode cX7_addEntry 116 = .ok (.aload_n 0, 1) := by decide +kernel
theorem dX7_addEntry_117 : decode cX7_addEntry 117 = .ok (.getfield 90, 3) := by decide +kernel
theorem dX7_addEntry_120 : decode cX7_addEntry 120 = .ok (.aload_n 0, 1) := by decide +kernel
theorem dX7_addEntry_121 : decode cX7_addEntry 121 = .ok (.getfield 277, 3) := by decide +kernel
theorem dX7_addEntry_124 : decode cX7_addEntry 124 = .ok (.iload 4, 2) := by decide +kernel
theorem dX7_addEntry_126 : decode cX7_addEntry 126 = .ok (.iastore, 1) := by decide +kernel
theorem dX7_addEntry_127 : decode cX7_addEntry 127 = .ok (.aload_n 0, 1) := by decide +kernel
theorem dX7_addEntry_128 : decode cX7_addEntry 128 = .ok (.getfield 93, 3) := by decide +kernel
theorem dX7_addEntry_131 : decode cX7_addEntry 131 = .ok (.aload_n 0, 1) := by decide +kernel
theorem dX7_addEntry_132 : decode cX7_addEntry 132 = .ok (.getfield 277, 3) := by decide +kernel
theorem dX7_addEntry_135 : decode cX7_addEntry 135 = .ok (.iload 5, 2) := by decide +kernel
theorem dX7_addEntry_137 : decode cX7_addEntry 137 = .ok (.iastore, 1) := by decide +kernel
theorem dX7_addEntry_138 : decode cX7_addEntry 138 = .ok (.aload_n 0, 1) := by decide +kernel
theorem dX7_addEntry_139 : decode cX7_addEntry 139 = .ok (.getfield 96, 3) := by decide +kernel
theorem dX7_addEntry_142 : decode cX7_addEntry 142 = .ok (.aload_n 0, 1) := by decide +kernel
theorem dX7_addEntry_143 : decode cX7_addEntry 143 = .ok (.getfield 277, 3) := by decide +kernel
theorem dX7_addEntry_146 : decode cX7_addEntry 146 = .ok (.iconst (-1), 1) := by decide +kernel
theorem dX7_addEntry_147 : decode cX7_addEntry 147 = .ok (.iastore, 1) := by decide +kernel
theorem dX7_addEntry_148 : decode cX7_addEntry 148 = .ok (.aload_n 0, 1) := by decide +kernel
theorem dX7_addEntry_149 : decode cX7_addEntry 149 = .ok (.dup, 1) := by decide +kernel
theorem dX7_addEntry_150 : decode cX7_addEntry 150 = .ok (.getfield 277, 3) := by decide +kernel
theorem dX7_addEntry_153 : decode cX7_addEntry 153 = .ok (.iconst 1, 1) := by decide +kernel
theorem dX7_addEntry_154 : decode cX7_addEntry 154 = .ok (.iadd, 1) := by decide +kernel
theorem dX7_addEntry_155 : decode cX7_addEntry 155 = .ok (.putfield 277, 3) := by decide +kernel
theorem dX7_addEntry_158 : decode cX7_addEntry 158 = .ok (.aload_n 0, 1) := by decide +kernel
theorem dX7_addEntry_159 : decode cX7_addEntry 159 = .ok (.getfield 277, 3) := by decide +kernel
theorem dX7_addEntry_162 : decode cX7_addEntry 162 = .ok (.iconst 1, 1) := by decide +kernel
theorem dX7_addEntry_163 : decode cX7_addEntry 163 = .ok (.isub, 1) := by decide +kernel
theorem dX7_addEntry_164 : decode cX7_addEntry 164 = .ok (.ireturn, 1) := by decide +kernel
theorem dX7_dropsEntry_0 : decode cX7_dropsEntry 0 = .ok (.aload_n 0, 1) := by decide +kernel
theorem dX7_dropsEntry_1 : decode cX7_dropsEntry 1 = .ok (.dup, 1) := by decide +kernel
theorem dX7_dropsEntry_2 : decode cX7_dropsEntry 2 = .ok (.getfield 277, 3) := by decide +kernel
theorem dX7_dropsEntry_5 : decode cX7_dropsEntry 5 = .ok (.iconst 1, 1) := by decide +kernel
theorem dX7_dropsEntry_6 : decode cX7_dropsEntry 6 = .ok (.isub, 1) := by decide +kernel
theorem dX7_dropsEntry_7 : decode cX7_dropsEntry 7 = .ok (.putfield 277, 3) := by decide +kernel
theorem dX7_dropsEntry_10 : decode cX7_dropsEntry 10 = .ok (.iload_n 1, 1) := by decide +kernel
theorem dX7_dropsEntry_11 : decode cX7_dropsEntry 11 = .ok (.istore_n 2, 1) := by decide +kernel
theorem dX7_dropsEntry_12 : decode cX7_dropsEntry 12 = .ok (.iload_n 2, 1) := by decide +kernel
theorem dX7_dropsEntry_13 : decode cX7_dropsEntry 13 = .ok (.aload_n 0, 1) := by decide +kernel
theorem dX7_dropsEntry_14 : decode cX7_dropsEntry 14 = .ok (.getfield 277, 3) := by decide +kernel
theorem dX7_dropsEntry_17 : decode cX7_dropsEntry 17 = .ok (.if_icmp .ge 93, 3) := by decide +kernel
theorem dX7_dropsEntry_20 : decode cX7_dropsEntry 20 = .ok (.aload_n 0, 1) := by decide +kernel
theorem dX7_dropsEntry_21 : decode cX7_dropsEntry 21 = .ok (.getfield 81, 3) := by decide +kernel
theorem dX7_dropsEntry_24 : decode cX7_dropsEntry 24 = .ok (.iload_n 2, 1) := by decide +kernel
theorem dX7_dropsEntry_25 : decode cX7_dropsEntry 25 = .ok (.aload_n 0, 1) := by decide +kernel
theorem dX7_dropsEntry_26 : decode cX7_dropsEntry 26 = .ok (.getfield 81, 3) := by decide +kernel
theorem dX7_dropsEntry_29 : decode cX7_dropsEntry 29 = .ok (.iload_n 2, 1) := by decide +kernel
theorem dX7_dropsEntry_30 : decode cX7_dropsEntry 30 = .ok (.iconst 1, 1) := by decide +kernel
theorem dX7_dropsEntry_31 : decode cX7_dropsEntry 31 = .ok (.iadd, 1) := by decide +kernel
theorem dX7_dropsEntry_32 : decode cX7_dropsEntry 32 = .ok (.iaload, 1) := by decide +kernel
theorem dX7_dropsEntry_33 : decode cX7_dropsEntry 33 = .ok (.iastore, 1) := by decide +kernel
theorem dX7_dropsEntry_34 : decode cX7_dropsEntry 34 = .ok (.aload_n 0, 1) := by decide +kernel
theorem dX7_dropsEntry_35 : decode cX7_dropsEntry 35 = .ok (.getfield 84, 3) := by decide +kernel
theorem dX7_dropsEntry_38 : decode cX7_dropsEntry 38 = .ok (.iload_n 2, 1) := by decide +kernel
theorem dX7_dropsEntry_39 : decode cX7_dropsEntry 39 = .ok (.aload_n 0, 1) := by decide +kernel
theorem dX7_dropsEntry_40 : decode cX7_dropsEntry 40 = .ok (.getfield 84, 3) := by decide +kernel
theorem dX7_dropsEntry_43 : decode cX7_dropsEntry 43 = .ok (.iload_n 2, 1) := by decide +kernel
theorem dX7_dropsEntry_44 : decode cX7_dropsEntry 44 = .ok (.iconst 1, 1) := by decide +kernel
theorem dX7_dropsEntry_45 : decode cX7_dropsEntry 45 = .ok (.iadd, 1) := by decide +kernel
theorem dX7_dropsEntry_46 : decode cX7_dropsEntry 46 = .ok (.iaload, 1) := by decide +kernel
theorem dX7_dropsEntry_47 : decode cX7_dropsEntry 47 = .ok (.iastore, 1) := by decide +kernel
theorem dX7_dropsEntry_48 : decode cX7_dropsEntry 48 = .ok (.aload_n 0, 1) := by decide +kernel
theorem dX7_dropsEntry_49 : decode cX7_dropsEntry 49 = .ok (.getfield 87, 3) := by decide +kernel
theorem dX7_dropsEntry_52 : decode cX7_dropsEntry 52 = .ok (.iload_n 2, 1) := by decide +kernel
theorem dX7_dropsEntry_53 : decode cX7_dropsEntry 53 = .ok (.aload_n 0, 1) := by decide +kernel
theorem dX7_dropsEntry_54 : decode cX7_dropsEntry 54 = .ok (.getfield 87, 3) := by decide +kernel
theorem dX7_dropsEntry_57 : decode cX7_dropsEntry 57 = .ok (.iload_n 2, 1) := by decide +kernel
theorem dX7_dropsEntry_58 : decode cX7_dropsEntry 58 = .ok (.iconst 1, 1) := by decide +kernel
theorem dX7_dropsEntry_59 : decode cX7_dropsEntry 59 = .ok (.iadd, 1) := by decide +kernel
theorem dX7_dropsEntry_60 : decode cX7_dropsEntry 60 = .ok (.iaload, 1) := by decide +kernel
theorem dX7_dropsEntry_61 : decode cX7_dropsEntry 61 = .ok (.iastore, 1) := by decide +kernel
theorem dX7_dropsEntry_62 : decode cX7_dropsEntry 62 = .ok (.aload_n 0, 1) := by decide +kernel
theorem dX7_dropsEntry_63 : decode cX7_dropsEntry 63 = .ok (.getfield 90, 3) := by decide +kernel
theorem dX7_dropsEntry_66 : decode cX7_dropsEntry 66 = .ok (.iload_n 2, 1) := by decide +kernel
theorem dX7_dropsEntry_67 : decode cX7_dropsEntry 67 = .ok (.aload_n 0, 1) := by decide +kernel
theorem dX7_dropsEntry_68 : decode cX7_dropsEntry 68 = .ok (.getfield 90, 3) := by decide +kernel
theorem dX7_dropsEntry_71 : decode cX7_dropsEntry 71 = .ok (.iload_n 2, 1) := by decide +kernel
theorem dX7_dropsEntry_72 : decode cX7_dropsEntry 72 = .ok (.iconst 1, 1) := by decide +kernel
theorem dX7_dropsEntry_73 : decode cX7_dropsEntry 73 = .ok (.iadd, 1) := by decide +kernel
theorem dX7_dropsEntry_74 : decode cX7_dropsEntry 74 = .ok (.iaload, 1) := by decide +kernel
theorem dX7_dropsEntry_75 : decode cX7_dropsEntry 75 = .ok (.iastore, 1) := by decide +kernel
theorem dX7_dropsEntry_76 : decode cX7_dropsEntry 76 = .ok (.aload_n 0, 1) := by decide +kernel
theorem dX7_dropsEntry_77 : decode cX7_dropsEntry 77 = .ok (.getfield 93, 3) := by decide +kernel
theorem dX7_dropsEntry_80 : decode cX7_dropsEntry 80 = .ok (.iload_n 2, 1) := by decide +kernel
theorem dX7_dropsEntry_81 : decode cX7_dropsEntry 81 = .ok (.aload_n 0, 1) := by decide +kernel
theorem dX7_dropsEntry_82 : decode cX7_dropsEntry 82 = .ok (.getfield 93, 3) := by decide +kernel
theorem dX7_dropsEntry_85 : decode cX7_dropsEntry 85 = .ok (.iload_n 2, 1) := by decide +kernel
theorem dX7_dropsEntry_86 : decode cX7_dropsEntry 86 = .ok (.iconst 1, 1) := by decide +kernel
theorem dX7_dropsEntry_87 : decode cX7_dropsEntry 87 = .ok (.iadd, 1) := by decide +kernel
theorem dX7_dropsEntry_88 : decode cX7_dropsEntry 88 = .ok (.iaload, 1) := by decide +kernel
theorem dX7_dropsEntry_89 : decode cX7_dropsEntry 89 = .ok (.iastore, 1) := by decide +kernel
theorem dX7_dropsEntry_90 : decode cX7_dropsEntry 90 = .ok (.aload_n 0, 1) := by decide +kernel
theorem dX7_dropsEntry_91 : decode cX7_dropsEntry 91 = .ok (.getfield 96, 3) := by decide +kernel
theorem dX7_dropsEntry_94 : decode cX7_dropsEntry 94 = .ok (.iload_n 2, 1) := by decide +kernel
theorem dX7_dropsEntry_95 : decode cX7_dropsEntry 95 = .ok (.aload_n 0, 1) := by decide +kernel
theorem dX7_dropsEntry_96 : decode cX7_dropsEntry 96 = .ok (.getfield 96, 3) := by decide +kernel
theorem dX7_dropsEntry_99 : decode cX7_dropsEntry 99 = .ok (.iload_n 2, 1) := by decide +kernel
theorem dX7_dropsEntry_100 : decode cX7_dropsEntry 100 = .ok (.iconst 1, 1) := by decide +kernel
theorem dX7_dropsEntry_101 : decode cX7_dropsEntry 101 = .ok (.iadd, 1) := by decide +kernel
theorem dX7_dropsEntry_102 : decode cX7_dropsEntry 102 = .ok (.iaload, 1) := by decide +kernel
theorem dX7_dropsEntry_103 : decode cX7_dropsEntry 103 = .ok (.iastore, 1) := by decide +kernel
theorem dX7_dropsEntry_104 : decode cX7_dropsEntry 104 = .ok (.iinc 2 1, 3) := by decide +kernel
theorem dX7_dropsEntry_107 : decode cX7_dropsEntry 107 = .ok (.goto (-95), 3) := by decide +kernel
theorem dX7_dropsEntry_110 : decode cX7_dropsEntry 110 = .ok (.return_, 1) := by decide +kernel
theorem dX7_removeEntry_0 : decode cX7_removeEntry 0 = .ok (.aload_n 0, 1) := by decide +kernel
theorem dX7_removeEntry_1 : decode cX7_removeEntry 1 = .ok (.iconst 0, 1) := by decide +kernel
theorem dX7_removeEntry_2 : decode cX7_removeEntry 2 = .ok (.putfield 1, 3) := by decide +kernel
theorem dX7_removeEntry_5 : decode cX7_removeEntry 5 = .ok (.aload_n 0, 1) := by decide +kernel
theorem dX7_removeEntry_6 : decode cX7_removeEntry 6 = .ok (.iload_n 1, 1) := by decide +kernel
theorem dX7_removeEntry_7 : decode cX7_removeEntry 7 = .ok (.invokevirtual 282, 3) := by decide +kernel
theorem dX7_removeEntry_10 : decode cX7_removeEntry 10 = .ok (.ifCond .ne 6, 3) := by decide +kernel
theorem dX7_removeEntry_13 : decode cX7_removeEntry 13 = .ok (.bipush (-2), 2) := by decide +kernel
theorem dX7_removeEntry_15 : decode cX7_removeEntry 15 = .ok (.ireturn, 1) := by decide +kernel
theorem dX7_removeEntry_16 : decode cX7_removeEntry 16 = .ok (.aload_n 0, 1) := by decide +kernel
theorem dX7_removeEntry_17 : decode cX7_removeEntry 17 = .ok (.iload_n 1, 1) := by decide +kernel
theorem dX7_removeEntry_18 : decode cX7_removeEntry 18 = .ok (.invokevirtual 285, 3) := by decide +kernel
theorem dX7_removeEntry_21 : decode cX7_removeEntry 21 = .ok (.aload_n 0, 1) := by decide +kernel
theorem dX7_removeEntry_22 : decode cX7_removeEntry 22 = .ok (.getfield 277, 3) := by decide +kernel
theorem dX7_removeEntry_25 : decode cX7_removeEntry 25 = .ok (.ireturn, 1) := by decide +kernel
theorem dX7_entryCount_0 : decode cX7_entryCount 0 = .ok (.aload_n 0, 1) := by decide +kernel
theorem dX7_entryCount_1 : decode cX7_entryCount 1 = .ok (.iconst 0, 1) := by decide +kernel
theorem dX7_entryCount_2 : decode cX7_entryCount 2 = .ok (.putfield 1, 3) := by decide +kernel
theorem dX7_entryCount_5 : decode cX7_entryCount 5 = .ok (.aload_n 0, 1) := by decide +kernel
theorem dX7_entryCount_6 : decode cX7_entryCount 6 = .ok (.getfield 277, 3) := by decide +kernel
theorem dX7_entryCount_9 : decode cX7_entryCount 9 = .ok (.ireturn, 1) := by decide +kernel
theorem dX7_dueTime_0 : decode cX7_dueTime 0 = .ok (.aload_n 0, 1) := by decide +kernel
theorem dX7_dueTime_1 : decode cX7_dueTime 1 = .ok (.iconst 0, 1) := by decide +kernel
theorem dX7_dueTime_2 : decode cX7_dueTime 2 = .ok (.putfield 1, 3) := by decide +kernel
theorem dX7_dueTime_5 : decode cX7_dueTime 5 = .ok (.aload_n 0, 1) := by decide +kernel
theorem dX7_dueTime_6 : decode cX7_dueTime 6 = .ok (.iload_n 1, 1) := by decide +kernel
theorem dX7_dueTime_7 : decode cX7_dueTime 7 = .ok (.invokevirtual 282, 3) := by decide +kernel
theorem dX7_dueTime_10 : decode cX7_dueTime 10 = .ok (.ifCond .eq 12, 3) := by decide +kernel
theorem dX7_dueTime_13 : decode cX7_dueTime 13 = .ok (.aload_n 0, 1) := by decide +kernel
theorem dX7_dueTime_14 : decode cX7_dueTime 14 = .ok (.getfield 84, 3) := by decide +kernel
theorem dX7_dueTime_17 : decode cX7_dueTime 17 = .ok (.iload_n 1, 1) := by decide +kernel
theorem dX7_dueTime_18 : decode cX7_dueTime 18 = .ok (.iaload, 1) := by decide +kernel
theorem dX7_dueTime_19 : decode cX7_dueTime 19 = .ok (.goto 5, 3) := by decide +kernel
theorem dX7_dueTime_22 : decode cX7_dueTime 22 = .ok (.bipush (-2), 2) := by decide +kernel
theorem dX7_dueTime_24 : decode cX7_dueTime 24 = .ok (.ireturn, 1) := by decide +kernel
theorem dX7_lastShift_0 : decode cX7_lastShift 0 = .ok (.aload_n 0, 1) := by decide +kernel
theorem dX7_lastShift_1 : decode cX7_lastShift 1 = .ok (.iconst 0, 1) := by decide +kernel
theorem dX7_lastShift_2 : decode cX7_lastShift 2 = .ok (.putfield 1, 3) := by decide +kernel
theorem dX7_lastShift_5 : decode cX7_lastShift 5 = .ok (.aload_n 0, 1) := by decide +kernel
theorem dX7_lastShift_6 : decode cX7_lastShift 6 = .ok (.iload_n 1, 1) := by decide +kernel
theorem dX7_lastShift_7 : decode cX7_lastShift 7 = .ok (.invokevirtual 282, 3) := by decide +kernel
theorem dX7_lastShift_10 : decode cX7_lastShift 10 = .ok (.ifCond .eq 12, 3) := by decide +kernel
theorem dX7_lastShift_13 : decode cX7_lastShift 13 = .ok (.aload_n 0, 1) := by decide +kernel
theorem dX7_lastShift_14 : decode cX7_lastShift 14 = .ok (.getfield 96, 3) := by decide +kernel
theorem dX7_lastShift_17 : decode cX7_lastShift 17 = .ok (.iload_n 1, 1) := by decide +kernel
theorem dX7_lastShift_18 : decode cX7_lastShift 18 = .ok (.iaload, 1) := by decide +kernel
theorem dX7_lastShift_19 : decode cX7_lastShift 19 = .ok (.goto 5, 3) := by decide +kernel
theorem dX7_lastShift_22 : decode cX7_lastShift 22 = .ok (.bipush (-2), 2) := by decide +kernel
theorem dX7_lastShift_24 : decode cX7_lastShift 24 = .ok (.ireturn, 1) := by decide +kernel
theorem dX7_failureCount_0 : decode cX7_failureCount 0 = .ok (.aload_n 0, 1) := by decide +kernel
theorem dX7_failureCount_1 : decode cX7_failureCount 1 = .ok (.iconst 0, 1) := by decide +kernel
theorem dX7_failureCount_2 : decode cX7_failureCount 2 = .ok (.putfield 1, 3) := by decide +kernel
theorem dX7_failureCount_5 : decode cX7_failureCount 5 = .ok (.aload_n 0, 1) := by decide +kernel
theorem dX7_failureCount_6 : decode cX7_failureCount 6 = .ok (.getfield 288, 3) := by decide +kernel
theorem dX7_failureCount_9 : decode cX7_failureCount 9 = .ok (.ireturn, 1) := by decide +kernel
theorem dX7_carriesOut_0 : decode cX7_carriesOut 0 = .ok (.aload_n 0, 1) := by decide +kernel
theorem dX7_carriesOut_1 : decode cX7_carriesOut 1 = .ok (.getfield 96, 3) := by decide +kernel
theorem dX7_carriesOut_4 : decode cX7_carriesOut 4 = .ok (.iload_n 1, 1) := by decide +kernel
theorem dX7_carriesOut_5 : decode cX7_carriesOut 5 = .ok (.aload_n 0, 1) := by decide +kernel
theorem dX7_carriesOut_6 : decode cX7_carriesOut 6 = .ok (.getfield 57, 3) := by decide +kernel
theorem dX7_carriesOut_9 : decode cX7_carriesOut 9 = .ok (.aload_n 0, 1) := by decide +kernel
theorem dX7_carriesOut_10 : decode cX7_carriesOut 10 = .ok (.getfield 81, 3) := by decide +kernel
theorem dX7_carriesOut_13 : decode cX7_carriesOut 13 = .ok (.iload_n 1, 1) := by decide +kernel
theorem dX7_carriesOut_14 : decode cX7_carriesOut 14 = .ok (.iaload, 1) := by decide +kernel
theorem dX7_carriesOut_15 : decode cX7_carriesOut 15 = .ok (.iaload, 1) := by decide +kernel
theorem dX7_carriesOut_16 : decode cX7_carriesOut 16 = .ok (.ifCond .ne 7, 3) := by decide +kernel
theorem dX7_carriesOut_19 : decode cX7_carriesOut 19 = .ok (.iconst (-1), 1) := by decide +kernel
theorem dX7_carriesOut_20 : decode cX7_carriesOut 20 = .ok (.goto 31, 3) := by decide +kernel
theorem dX7_carriesOut_23 : decode cX7_carriesOut 23 = .ok (.aload_n 0, 1) := by decide +kernel
theorem dX7_carriesOut_24 : decode cX7_carriesOut 24 = .ok (.aload_n 0, 1) := by decide +kernel
theorem dX7_carriesOut_25 : decode cX7_carriesOut 25 = .ok (.getfield 81, 3) := by decide +kernel
theorem dX7_carriesOut_28 : decode cX7_carriesOut 28 = .ok (.iload_n 1, 1) := by decide +kernel
theorem dX7_carriesOut_29 : decode cX7_carriesOut 29 = .ok (.iaload, 1) := by decide +kernel
theorem dX7_carriesOut_30 : decode cX7_carriesOut 30 = .ok (.aload_n 0, 1) := by decide +kernel
theorem dX7_carriesOut_31 : decode cX7_carriesOut 31 = .ok (.getfield 84, 3) := by decide +kernel
theorem dX7_carriesOut_34 : decode cX7_carriesOut 34 = .ok (.iload_n 1, 1) := by decide +kernel
theorem dX7_carriesOut_35 : decode cX7_carriesOut 35 = .ok (.iaload, 1) := by decide +kernel
theorem dX7_carriesOut_36 : decode cX7_carriesOut 36 = .ok (.aload_n 0, 1) := by decide +kernel
theorem dX7_carriesOut_37 : decode cX7_carriesOut 37 = .ok (.getfield 90, 3) := by decide +kernel
theorem dX7_carriesOut_40 : decode cX7_carriesOut 40 = .ok (.iload_n 1, 1) := by decide +kernel
theorem dX7_carriesOut_41 : decode cX7_carriesOut 41 = .ok (.iaload, 1) := by decide +kernel
theorem dX7_carriesOut_42 : decode cX7_carriesOut 42 = .ok (.aload_n 0, 1) := by decide +kernel
theorem dX7_carriesOut_43 : decode cX7_carriesOut 43 = .ok (.getfield 93, 3) := by decide +kernel
theorem dX7_carriesOut_46 : decode cX7_carriesOut 46 = .ok (.iload_n 1, 1) := by decide +kernel
theorem dX7_carriesOut_47 : decode cX7_carriesOut 47 = .ok (.iaload, 1) := by decide +kernel
theorem dX7_carriesOut_48 : decode cX7_carriesOut 48 = .ok (.invokevirtual 266, 3) := by decide +kernel
theorem dX7_carriesOut_51 : decode cX7_carriesOut 51 = .ok (.iastore, 1) := by decide +kernel
theorem dX7_carriesOut_52 : decode cX7_carriesOut 52 = .ok (.aload_n 0, 1) := by decide +kernel
theorem dX7_carriesOut_53 : decode cX7_carriesOut 53 = .ok (.dup, 1) := by decide +kernel
theorem dX7_carriesOut_54 : decode cX7_carriesOut 54 = .ok (.getfield 288, 3) := by decide +kernel
theorem dX7_carriesOut_57 : decode cX7_carriesOut 57 = .ok (.aload_n 0, 1) := by decide +kernel
theorem dX7_carriesOut_58 : decode cX7_carriesOut 58 = .ok (.getfield 96, 3) := by decide +kernel
theorem dX7_carriesOut_61 : decode cX7_carriesOut 61 = .ok (.iload_n 1, 1) := by decide +kernel
theorem dX7_carriesOut_62 : decode cX7_carriesOut 62 = .ok (.iaload, 1) := by decide +kernel
theorem dX7_carriesOut_63 : decode cX7_carriesOut 63 = .ok (.iconst (-1), 1) := by decide +kernel
theorem dX7_carriesOut_64 : decode cX7_carriesOut 64 = .ok (.if_icmp .ne 7, 3) := by decide +kernel
theorem dX7_carriesOut_67 : decode cX7_carriesOut 67 = .ok (.iconst 1, 1) := by decide +kernel
theorem dX7_carriesOut_68 : decode cX7_carriesOut 68 = .ok (.goto 4, 3) := by decide +kernel
theorem dX7_carriesOut_71 : decode cX7_carriesOut 71 = .ok (.iconst 0, 1) := by decide +kernel
theorem dX7_carriesOut_72 : decode cX7_carriesOut 72 = .ok (.iadd, 1) := by decide +kernel
theorem dX7_carriesOut_73 : decode cX7_carriesOut 73 = .ok (.putfield 288, 3) := by decide +kernel
theorem dX7_carriesOut_76 : decode cX7_carriesOut 76 = .ok (.aload_n 0, 1) := by decide +kernel
theorem dX7_carriesOut_77 : decode cX7_carriesOut 77 = .ok (.getfield 87, 3) := by decide +kernel
theorem dX7_carriesOut_80 : decode cX7_carriesOut 80 = .ok (.iload_n 1, 1) := by decide +kernel
theorem dX7_carriesOut_81 : decode cX7_carriesOut 81 = .ok (.iaload, 1) := by decide +kernel
theorem dX7_carriesOut_82 : decode cX7_carriesOut 82 = .ok (.ifCond .eq 21, 3) := by decide +kernel
theorem dX7_carriesOut_85 : decode cX7_carriesOut 85 = .ok (.aload_n 0, 1) := by decide +kernel
theorem dX7_carriesOut_86 : decode cX7_carriesOut 86 = .ok (.getfield 84, 3) := by decide +kernel
theorem dX7_carriesOut_89 : decode cX7_carriesOut 89 = .ok (.iload_n 1, 1) := by decide +kernel
theorem dX7_carriesOut_90 : decode cX7_carriesOut 90 = .ok (.iaload, 1) := by decide +kernel
theorem dX7_carriesOut_91 : decode cX7_carriesOut 91 = .ok (.aload_n 0, 1) := by decide +kernel
theorem dX7_carriesOut_92 : decode cX7_carriesOut 92 = .ok (.getfield 87, 3) := by decide +kernel
theorem dX7_carriesOut_95 : decode cX7_carriesOut 95 = .ok (.iload_n 1, 1) := by decide +kernel
theorem dX7_carriesOut_96 : decode cX7_carriesOut 96 = .ok (.iaload, 1) := by decide +kernel
theorem dX7_carriesOut_97 : decode cX7_carriesOut 97 = .ok (.iadd, 1) := by decide +kernel
theorem dX7_carriesOut_98 : decode cX7_carriesOut 98 = .ok (.ldc 196, 2) := by decide +kernel
theorem dX7_carriesOut_100 : decode cX7_carriesOut 100 = .ok (.if_icmp .le 5, 3) := by decide +kernel
theorem dX7_carriesOut_103 : decode cX7_carriesOut 103 = .ok (.iconst 0, 1) := by decide +kernel
theorem dX7_carriesOut_104 : decode cX7_carriesOut 104 = .ok (.ireturn, 1) := by decide +kernel
theorem dX7_carriesOut_105 : decode cX7_carriesOut 105 = .ok (.aload_n 0, 1) := by decide +kernel
theorem dX7_carriesOut_106 : decode cX7_carriesOut 106 = .ok (.getfield 84, 3) := by decide +kernel
theorem dX7_carriesOut_109 : decode cX7_carriesOut 109 = .ok (.iload_n 1, 1) := by decide +kernel
theorem dX7_carriesOut_110 : decode cX7_carriesOut 110 = .ok (.dup2, 1) := by decide +kernel
theorem dX7_carriesOut_111 : decode cX7_carriesOut 111 = .ok (.iaload, 1) := by decide +kernel
theorem dX7_carriesOut_112 : decode cX7_carriesOut 112 = .ok (.aload_n 0, 1) := by decide +kernel
theorem dX7_carriesOut_113 : decode cX7_carriesOut 113 = .ok (.getfield 87, 3) := by decide +kernel
theorem dX7_carriesOut_116 : decode cX7_carriesOut 116 = .ok (.iload_n 1, 1) := by decide +kernel
theorem dX7_carriesOut_117 : decode cX7_carriesOut 117 = .ok (.iaload, 1) := by decide +kernel
theorem dX7_carriesOut_118 : decode cX7_carriesOut 118 = .ok (.iadd, 1) := by decide +kernel
theorem dX7_carriesOut_119 : decode cX7_carriesOut 119 = .ok (.iastore, 1) := by decide +kernel
theorem dX7_carriesOut_120 : decode cX7_carriesOut 120 = .ok (.iconst 1, 1) := by decide +kernel
theorem dX7_carriesOut_121 : decode cX7_carriesOut 121 = .ok (.ireturn, 1) := by decide +kernel
theorem dX7_looksAtEntries_0 : decode cX7_looksAtEntries 0 = .ok (.iconst 0, 1) := by decide +kernel
theorem dX7_looksAtEntries_1 : decode cX7_looksAtEntries 1 = .ok (.istore_n 1, 1) := by decide +kernel
theorem dX7_looksAtEntries_2 : decode cX7_looksAtEntries 2 = .ok (.iload_n 1, 1) := by decide +kernel
theorem dX7_looksAtEntries_3 : decode cX7_looksAtEntries 3 = .ok (.aload_n 0, 1) := by decide +kernel
theorem dX7_looksAtEntries_4 : decode cX7_looksAtEntries 4 = .ok (.getfield 277, 3) := by decide +kernel
theorem dX7_looksAtEntries_7 : decode cX7_looksAtEntries 7 = .ok (.if_icmp .ge 41, 3) := by decide +kernel
theorem dX7_looksAtEntries_10 : decode cX7_looksAtEntries 10 = .ok (.aload_n 0, 1) := by decide +kernel
theorem dX7_looksAtEntries_11 : decode cX7_looksAtEntries 11 = .ok (.getfield 84, 3) := by decide +kernel
theorem dX7_looksAtEntries_14 : decode cX7_looksAtEntries 14 = .ok (.iload_n 1, 1) := by decide +kernel
theorem dX7_looksAtEntries_15 : decode cX7_looksAtEntries 15 = .ok (.iaload, 1) := by decide +kernel
theorem dX7_looksAtEntries_16 : decode cX7_looksAtEntries 16 = .ok (.aload_n 0, 1) := by decide +kernel
theorem dX7_looksAtEntries_17 : decode cX7_looksAtEntries 17 = .ok (.getfield 158, 3) := by decide +kernel
theorem dX7_looksAtEntries_20 : decode cX7_looksAtEntries 20 = .ok (.bipush 100, 2) := by decide +kernel
theorem dX7_looksAtEntries_22 : decode cX7_looksAtEntries 22 = .ok (.iadd, 1) := by decide +kernel
theorem dX7_looksAtEntries_23 : decode cX7_looksAtEntries 23 = .ok (.if_icmp .gt 11, 3) := by decide +kernel
theorem dX7_looksAtEntries_26 : decode cX7_looksAtEntries 26 = .ok (.aload_n 0, 1) := by decide +kernel
theorem dX7_looksAtEntries_27 : decode cX7_looksAtEntries 27 = .ok (.iload_n 1, 1) := by decide +kernel
theorem dX7_looksAtEntries_28 : decode cX7_looksAtEntries 28 = .ok (.invokevirtual 291, 3) := by decide +kernel
theorem dX7_looksAtEntries_31 : decode cX7_looksAtEntries 31 = .ok (.ifCond .eq 9, 3) := by decide +kernel
theorem dX7_looksAtEntries_34 : decode cX7_looksAtEntries 34 = .ok (.iinc 1 1, 3) := by decide +kernel
theorem dX7_looksAtEntries_37 : decode cX7_looksAtEntries 37 = .ok (.goto (-35), 3) := by decide +kernel
theorem dX7_looksAtEntries_40 : decode cX7_looksAtEntries 40 = .ok (.aload_n 0, 1) := by decide +kernel
theorem dX7_looksAtEntries_41 : decode cX7_looksAtEntries 41 = .ok (.iload_n 1, 1) := by decide +kernel
theorem dX7_looksAtEntries_42 : decode cX7_looksAtEntries 42 = .ok (.invokevirtual 285, 3) := by decide +kernel
theorem dX7_looksAtEntries_45 : decode cX7_looksAtEntries 45 = .ok (.goto (-43), 3) := by decide +kernel
theorem dX7_looksAtEntries_48 : decode cX7_looksAtEntries 48 = .ok (.return_, 1) := by decide +kernel
theorem dX7_turned_0 : decode cX7_turned 0 = .ok (.iload_n 0, 1) := by decide +kernel
theorem dX7_turned_1 : decode cX7_turned 1 = .ok (.iload_n 0, 1) := by decide +kernel
theorem dX7_turned_2 : decode cX7_turned 2 = .ok (.bipush 30, 2) := by decide +kernel
theorem dX7_turned_4 : decode cX7_turned 4 = .ok (.imul, 1) := by decide +kernel
theorem dX7_turned_5 : decode cX7_turned 5 = .ok (.sipush 1000, 3) := by decide +kernel
theorem dX7_turned_8 : decode cX7_turned 8 = .ok (.idiv, 1) := by decide +kernel
theorem dX7_turned_9 : decode cX7_turned 9 = .ok (.isub, 1) := by decide +kernel
theorem dX7_turned_10 : decode cX7_turned 10 = .ok (.iconst 2, 1) := by decide +kernel
theorem dX7_turned_11 : decode cX7_turned 11 = .ok (.isub, 1) := by decide +kernel
theorem dX7_turned_12 : decode cX7_turned 12 = .ok (.istore_n 3, 1) := by decide +kernel
theorem dX7_turned_13 : decode cX7_turned 13 = .ok (.iload_n 3, 1) := by decide +kernel
theorem dX7_turned_14 : decode cX7_turned 14 = .ok (.ifCond .ge 7, 3) := by decide +kernel
theorem dX7_turned_17 : decode cX7_turned 17 = .ok (.iconst 0, 1) := by decide +kernel
theorem dX7_turned_18 : decode cX7_turned 18 = .ok (.goto 4, 3) := by decide +kernel
theorem dX7_turned_21 : decode cX7_turned 21 = .ok (.iload_n 3, 1) := by decide +kernel
theorem dX7_turned_22 : decode cX7_turned 22 = .ok (.istore_n 3, 1) := by decide +kernel
theorem dX7_turned_23 : decode cX7_turned 23 = .ok (.iload_n 1, 1) := by decide +kernel
theorem dX7_turned_24 : decode cX7_turned 24 = .ok (.ifCond .eq 8, 3) := by decide +kernel
theorem dX7_turned_27 : decode cX7_turned 27 = .ok (.iload_n 3, 1) := by decide +kernel
theorem dX7_turned_28 : decode cX7_turned 28 = .ok (.iload_n 2, 1) := by decide +kernel
theorem dX7_turned_29 : decode cX7_turned 29 = .ok (.if_icmp .lt 5, 3) := by decide +kernel
theorem dX7_turned_32 : decode cX7_turned 32 = .ok (.iload_n 3, 1) := by decide +kernel
theorem dX7_turned_33 : decode cX7_turned 33 = .ok (.ireturn, 1) := by decide +kernel
theorem dX7_turned_34 : decode cX7_turned 34 = .ok (.iload_n 3, 1) := by decide +kernel
theorem dX7_turned_35 : decode cX7_turned 35 = .ok (.bipush 80, 2) := by decide +kernel
theorem dX7_turned_37 : decode cX7_turned 37 = .ok (.iadd, 1) := by decide +kernel
theorem dX7_turned_38 : decode cX7_turned 38 = .ok (.iload_n 2, 1) := by decide +kernel
theorem dX7_turned_39 : decode cX7_turned 39 = .ok (.if_icmp .le 7, 3) := by decide +kernel
theorem dX7_turned_42 : decode cX7_turned 42 = .ok (.iload_n 2, 1) := by decide +kernel
theorem dX7_turned_43 : decode cX7_turned 43 = .ok (.goto 7, 3) := by decide +kernel
theorem dX7_turned_46 : decode cX7_turned 46 = .ok (.iload_n 3, 1) := by decide +kernel
theorem dX7_turned_47 : decode cX7_turned 47 = .ok (.bipush 80, 2) := by decide +kernel
theorem dX7_turned_49 : decode cX7_turned 49 = .ok (.iadd, 1) := by decide +kernel
theorem dX7_turned_50 : decode cX7_turned 50 = .ok (.ireturn, 1) := by decide +kernel
theorem dX7_turns_0 : decode cX7_turns 0 = .ok (.aload_n 0, 1) := by decide +kernel
theorem dX7_turns_1 : decode cX7_turns 1 = .ok (.getfield 111, 3) := by decide +kernel
theorem dX7_turns_4 : decode cX7_turns 4 = .ok (.iload_n 1, 1) := by decide +kernel
theorem dX7_turns_5 : decode cX7_turns 5 = .ok (.aload_n 0, 1) := by decide +kernel
theorem dX7_turns_6 : decode cX7_turns 6 = .ok (.getfield 111, 3) := by decide +kernel
theorem dX7_turns_9 : decode cX7_turns 9 = .ok (.iload_n 1, 1) := by decide +kernel
theorem dX7_turns_10 : decode cX7_turns 10 = .ok (.iaload, 1) := by decide +kernel
theorem dX7_turns_11 : decode cX7_turns 11 = .ok (.ineg, 1) := by decide +kernel
theorem dX7_turns_12 : decode cX7_turns 12 = .ok (.iastore, 1) := by decide +kernel
theorem dX7_turns_13 : decode cX7_turns 13 = .ok (.aload_n 0, 1) := by decide +kernel
theorem dX7_turns_14 : decode cX7_turns 14 = .ok (.getfield 108, 3) := by decide +kernel
theorem dX7_turns_17 : decode cX7_turns 17 = .ok (.iload_n 1, 1) := by decide +kernel
theorem dX7_turns_18 : decode cX7_turns 18 = .ok (.aload_n 0, 1) := by decide +kernel
theorem dX7_turns_19 : decode cX7_turns 19 = .ok (.getfield 108, 3) := by decide +kernel
theorem dX7_turns_22 : decode cX7_turns 22 = .ok (.iload_n 1, 1) := by decide +kernel
theorem dX7_turns_23 : decode cX7_turns 23 = .ok (.iaload, 1) := by decide +kernel
theorem dX7_turns_24 : decode cX7_turns 24 = .ok (.aload_n 0, 1) := by decide +kernel
theorem dX7_turns_25 : decode cX7_turns 25 = .ok (.getfield 105, 3) := by decide +kernel
theorem dX7_turns_28 : decode cX7_turns 28 = .ok (.iload_n 1, 1) := by decide +kernel
theorem dX7_turns_29 : decode cX7_turns 29 = .ok (.baload, 1) := by decide +kernel
theorem dX7_turns_30 : decode cX7_turns 30 = .ok (.aload_n 0, 1) := by decide +kernel
theorem dX7_turns_31 : decode cX7_turns 31 = .ok (.getfield 114, 3) := by decide +kernel
theorem dX7_turns_34 : decode cX7_turns 34 = .ok (.iload_n 1, 1) := by decide +kernel
theorem dX7_turns_35 : decode cX7_turns 35 = .ok (.iaload, 1) := by decide +kernel
theorem dX7_turns_36 : decode cX7_turns 36 = .ok (.invokestatic 294, 3) := by decide +kernel
theorem dX7_turns_39 : decode cX7_turns 39 = .ok (.iastore, 1) := by decide +kernel
theorem dX7_turns_40 : decode cX7_turns 40 = .ok (.aload_n 0, 1) := by decide +kernel
theorem dX7_turns_41 : decode cX7_turns 41 = .ok (.getfield 108, 3) := by decide +kernel
theorem dX7_turns_44 : decode cX7_turns 44 = .ok (.iload_n 1, 1) := by decide +kernel
theorem dX7_turns_45 : decode cX7_turns 45 = .ok (.iaload, 1) := by decide +kernel
theorem dX7_turns_46 : decode cX7_turns 46 = .ok (.sipush 400, 3) := by decide +kernel
theorem dX7_turns_49 : decode cX7_turns 49 = .ok (.if_icmp .lt 18, 3) := by decide +kernel
theorem dX7_turns_52 : decode cX7_turns 52 = .ok (.aload_n 0, 1) := by decide +kernel
theorem dX7_turns_53 : decode cX7_turns 53 = .ok (.getfield 102, 3) := by decide +kernel
theorem dX7_turns_56 : decode cX7_turns 56 = .ok (.iload_n 1, 1) := by decide +kernel
theorem dX7_turns_57 : decode cX7_turns 57 = .ok (.baload, 1) := by decide +kernel
theorem dX7_turns_58 : decode cX7_turns 58 = .ok (.ifCond .ne 9, 3) := by decide +kernel
theorem dX7_turns_61 : decode cX7_turns 61 = .ok (.aload_n 0, 1) := by decide +kernel
theorem dX7_turns_62 : decode cX7_turns 62 = .ok (.iload_n 1, 1) := by decide +kernel
theorem dX7_turns_63 : decode cX7_turns 63 = .ok (.iconst 1, 1) := by decide +kernel
theorem dX7_turns_64 : decode cX7_turns 64 = .ok (.invokevirtual 298, 3) := by decide +kernel
theorem dX7_turns_67 : decode cX7_turns 67 = .ok (.aload_n 0, 1) := by decide +kernel
theorem dX7_turns_68 : decode cX7_turns 68 = .ok (.getfield 99, 3) := by decide +kernel
theorem dX7_turns_71 : decode cX7_turns 71 = .ok (.iload_n 1, 1) := by decide +kernel
theorem dX7_turns_72 : decode cX7_turns 72 = .ok (.aload_n 0, 1) := by decide +kernel
theorem dX7_turns_73 : decode cX7_turns 73 = .ok (.getfield 108, 3) := by decide +kernel
theorem dX7_turns_76 : decode cX7_turns 76 = .ok (.iload_n 1, 1) := by decide +kernel
theorem dX7_turns_77 : decode cX7_turns 77 = .ok (.iaload, 1) := by decide +kernel
theorem dX7_turns_78 : decode cX7_turns 78 = .ok (.ifCond .gt 12, 3) := by decide +kernel
theorem dX7_turns_81 : decode cX7_turns 81 = .ok (.aload_n 0, 1) := by decide +kernel
theorem dX7_turns_82 : decode cX7_turns 82 = .ok (.getfield 105, 3) := by decide +kernel
theorem dX7_turns_85 : decode cX7_turns 85 = .ok (.iload_n 1, 1) := by decide +kernel
theorem dX7_turns_86 : decode cX7_turns 86 = .ok (.baload, 1) := by decide +kernel
theorem dX7_turns_87 : decode cX7_turns 87 = .ok (.ifCond .eq 7, 3) := by decide +kernel
theorem dX7_turns_90 : decode cX7_turns 90 = .ok (.iconst 1, 1) := by decide +kernel
theorem dX7_turns_91 : decode cX7_turns 91 = .ok (.goto 4, 3) := by decide +kernel
theorem dX7_turns_94 : decode cX7_turns 94 = .ok (.iconst 0, 1) := by decide +kernel
theorem dX7_turns_95 : decode cX7_turns 95 = .ok (.bastore, 1) := by decide +kernel
theorem dX7_turns_96 : decode cX7_turns 96 = .ok (.aload_n 0, 1) := by decide +kernel
theorem dX7_turns_97 : decode cX7_turns 97 = .ok (.getfield 117, 3) := by decide +kernel
theorem dX7_turns_100 : decode cX7_turns 100 = .ok (.iload_n 1, 1) := by decide +kernel
theorem dX7_turns_101 : decode cX7_turns 101 = .ok (.dup2, 1) := by decide +kernel
theorem dX7_turns_102 : decode cX7_turns 102 = .ok (.iaload, 1) := by decide +kernel
theorem dX7_turns_103 : decode cX7_turns 103 = .ok (.aload_n 0, 1) := by decide +kernel
theorem dX7_turns_104 : decode cX7_turns 104 = .ok (.getfield 23, 3) := by decide +kernel
theorem dX7_turns_107 : decode cX7_turns 107 = .ok (.iload_n 1, 1) := by decide +kernel
theorem dX7_turns_108 : decode cX7_turns 108 = .ok (.iaload, 1) := by decide +kernel
theorem dX7_turns_109 : decode cX7_turns 109 = .ok (.iadd, 1) := by decide +kernel
theorem dX7_turns_110 : decode cX7_turns 110 = .ok (.iastore, 1) := by decide +kernel
theorem dX7_turns_111 : decode cX7_turns 111 = .ok (.return_, 1) := by decide +kernel
theorem dX7_sounds_0 : decode cX7_sounds 0 = .ok (.aload_n 0, 1) := by decide +kernel
theorem dX7_sounds_1 : decode cX7_sounds 1 = .ok (.iload_n 1, 1) := by decide +kernel
theorem dX7_sounds_2 : decode cX7_sounds 2 = .ok (.aload_n 0, 1) := by decide +kernel
theorem dX7_sounds_3 : decode cX7_sounds 3 = .ok (.getfield 158, 3) := by decide +kernel
theorem dX7_sounds_6 : decode cX7_sounds 6 = .ok (.invokevirtual 182, 3) := by decide +kernel
theorem dX7_sounds_9 : decode cX7_sounds 9 = .ok (.istore_n 2, 1) := by decide +kernel
theorem dX7_sounds_10 : decode cX7_sounds 10 = .ok (.iload_n 2, 1) := by decide +kernel
theorem dX7_sounds_11 : decode cX7_sounds 11 = .ok (.iconst (-1), 1) := by decide +kernel
theorem dX7_sounds_12 : decode cX7_sounds 12 = .ok (.if_icmp .ne 4, 3) := by decide +kernel
theorem dX7_sounds_15 : decode cX7_sounds 15 = .ok (.return_, 1) := by decide +kernel
theorem dX7_sounds_16 : decode cX7_sounds 16 = .ok (.aload_n 0, 1) := by decide +kernel
theorem dX7_sounds_17 : decode cX7_sounds 17 = .ok (.getfield 26, 3) := by decide +kernel
theorem dX7_sounds_20 : decode cX7_sounds 20 = .ok (.iload_n 1, 1) := by decide +kernel
theorem dX7_sounds_21 : decode cX7_sounds 21 = .ok (.aload_n 0, 1) := by decide +kernel
theorem dX7_sounds_22 : decode cX7_sounds 22 = .ok (.getfield 158, 3) := by decide +kernel
theorem dX7_sounds_25 : decode cX7_sounds 25 = .ok (.aload_n 0, 1) := by decide +kernel
theorem dX7_sounds_26 : decode cX7_sounds 26 = .ok (.getfield 17, 3) := by decide +kernel
theorem dX7_sounds_29 : decode cX7_sounds 29 = .ok (.iload_n 1, 1) := by decide +kernel
theorem dX7_sounds_30 : decode cX7_sounds 30 = .ok (.iaload, 1) := by decide +kernel
theorem dX7_sounds_31 : decode cX7_sounds 31 = .ok (.iadd, 1) := by decide +kernel
theorem dX7_sounds_32 : decode cX7_sounds 32 = .ok (.iastore, 1) := by decide +kernel
theorem dX7_sounds_33 : decode cX7_sounds 33 = .ok (.aload_n 0, 1) := by decide +kernel
theorem dX7_sounds_34 : decode cX7_sounds 34 = .ok (.iload_n 2, 1) := by decide +kernel
theorem dX7_sounds_35 : decode cX7_sounds 35 = .ok (.invokevirtual 186, 3) := by decide +kernel
theorem dX7_sounds_38 : decode cX7_sounds 38 = .ok (.aload_n 0, 1) := by decide +kernel
theorem dX7_sounds_39 : decode cX7_sounds 39 = .ok (.iload_n 1, 1) := by decide +kernel
theorem dX7_sounds_40 : decode cX7_sounds 40 = .ok (.iconst 0, 1) := by decide +kernel
theorem dX7_sounds_41 : decode cX7_sounds 41 = .ok (.invokevirtual 298, 3) := by decide +kernel
theorem dX7_sounds_44 : decode cX7_sounds 44 = .ok (.return_, 1) := by decide +kernel
theorem dX7_advance_0 : decode cX7_advance 0 = .ok (.aload_n 0, 1) := by decide +kernel
theorem dX7_advance_1 : decode cX7_advance 1 = .ok (.iconst 0, 1) := by decide +kernel
theorem dX7_advance_2 : decode cX7_advance 2 = .ok (.putfield 1, 3) := by decide +kernel
theorem dX7_advance_5 : decode cX7_advance 5 = .ok (.iload_n 1, 1) := by decide +kernel
theorem dX7_advance_6 : decode cX7_advance 6 = .ok (.i2l, 1) := by decide +kernel
theorem dX7_advance_7 : decode cX7_advance 7 = .ok (.lconst 0, 1) := by decide +kernel
theorem dX7_advance_8 : decode cX7_advance 8 = .ok (.ldc2_w 302, 3) := by decide +kernel
theorem dX7_advance_11 : decode cX7_advance 11 = .ok (.invokestatic 135, 3) := by decide +kernel
theorem dX7_advance_14 : decode cX7_advance 14 = .ok (.ifCond .ne 6, 3) := by decide +kernel
theorem dX7_advance_17 : decode cX7_advance 17 = .ok (.bipush (-3), 2) := by decide +kernel
theorem dX7_advance_19 : decode cX7_advance 19 = .ok (.ireturn, 1) := by decide +kernel
theorem dX7_advance_20 : decode cX7_advance 20 = .ok (.aload_n 0, 1) := by decide +kernel
theorem dX7_advance_21 : decode cX7_advance 21 = .ok (.getfield 158, 3) := by decide +kernel
theorem dX7_advance_24 : decode cX7_advance 24 = .ok (.iload_n 1, 1) := by decide +kernel
theorem dX7_advance_25 : decode cX7_advance 25 = .ok (.iadd, 1) := by decide +kernel
theorem dX7_advance_26 : decode cX7_advance 26 = .ok (.ldc 196, 2) := by decide +kernel
theorem dX7_advance_28 : decode cX7_advance 28 = .ok (.if_icmp .le 6, 3) := by decide +kernel
theorem dX7_advance_31 : decode cX7_advance 31 = .ok (.bipush (-4), 2) := by decide +kernel
theorem dX7_advance_33 : decode cX7_advance 33 = .ok (.ireturn, 1) := by decide +kernel
theorem dX7_advance_34 : decode cX7_advance 34 = .ok (.aload_n 0, 1) := by decide +kernel
theorem dX7_advance_35 : decode cX7_advance 35 = .ok (.getfield 155, 3) := by decide +kernel
theorem dX7_advance_38 : decode cX7_advance 38 = .ok (.istore_n 2, 1) := by decide +kernel
theorem dX7_advance_39 : decode cX7_advance 39 = .ok (.iconst 0, 1) := by decide +kernel
theorem dX7_advance_40 : decode cX7_advance 40 = .ok (.istore_n 3, 1) := by decide +kernel
theorem dX7_advance_41 : decode cX7_advance 41 = .ok (.iload_n 3, 1) := by decide +kernel
theorem dX7_advance_42 : decode cX7_advance 42 = .ok (.iload_n 1, 1) := by decide +kernel
theorem dX7_advance_43 : decode cX7_advance 43 = .ok (.if_icmp .ge 95, 3) := by decide +kernel
theorem dX7_advance_46 : decode cX7_advance 46 = .ok (.aload_n 0, 1) := by decide +kernel
theorem dX7_advance_47 : decode cX7_advance 47 = .ok (.dup, 1) := by decide +kernel
theorem dX7_advance_48 : decode cX7_advance 48 = .ok (.getfield 158, 3) := by decide +kernel
theorem dX7_advance_51 : decode cX7_advance 51 = .ok (.iconst 1, 1) := by decide +kernel
theorem dX7_advance_52 : decode cX7_advance 52 = .ok (.iadd, 1) := by decide +kernel
theorem dX7_advance_53 : decode cX7_advance 53 = .ok (.putfield 158, 3) := by decide +kernel
theorem dX7_advance_56 : decode cX7_advance 56 = .ok (.iconst 0, 1) := by decide +kernel
theorem dX7_advance_57 : decode cX7_advance 57 = .ok (.istore 4, 2) := by decide +kernel
theorem dX7_advance_59 : decode cX7_advance 59 = .ok (.iload 4, 2) := by decide +kernel
theorem dX7_advance_61 : decode cX7_advance 61 = .ok (.aload_n 0, 1) := by decide +kernel
theorem dX7_advance_62 : decode cX7_advance 62 = .ok (.getfield 132, 3) := by decide +kernel
theorem dX7_advance_65 : decode cX7_advance 65 = .ok (.if_icmp .ge 15, 3) := by decide +kernel
theorem dX7_advance_68 : decode cX7_advance 68 = .ok (.aload_n 0, 1) := by decide +kernel
theorem dX7_advance_69 : decode cX7_advance 69 = .ok (.iload 4, 2) := by decide +kernel
theorem dX7_advance_71 : decode cX7_advance 71 = .ok (.invokevirtual 304, 3) := by decide +kernel
theorem dX7_advance_74 : decode cX7_advance 74 = .ok (.iinc 4 1, 3) := by decide +kernel
theorem dX7_advance_77 : decode cX7_advance 77 = .ok (.goto (-18), 3) := by decide +kernel
theorem dX7_advance_80 : decode cX7_advance 80 = .ok (.iconst 0, 1) := by decide +kernel
theorem dX7_advance_81 : decode cX7_advance 81 = .ok (.istore 4, 2) := by decide +kernel
theorem dX7_advance_83 : decode cX7_advance 83 = .ok (.iload 4, 2) := by decide +kernel
theorem dX7_advance_85 : decode cX7_advance 85 = .ok (.aload_n 0, 1) := by decide +kernel
theorem dX7_advance_86 : decode cX7_advance 86 = .ok (.getfield 132, 3) := by decide +kernel
theorem dX7_advance_89 : decode cX7_advance 89 = .ok (.if_icmp .ge 39, 3) := by decide +kernel
theorem dX7_advance_92 : decode cX7_advance 92 = .ok (.aload_n 0, 1) := by decide +kernel
theorem dX7_advance_93 : decode cX7_advance 93 = .ok (.getfield 99, 3) := by decide +kernel
theorem dX7_advance_96 : decode cX7_advance 96 = .ok (.iload 4, 2) := by decide +kernel
theorem dX7_advance_98 : decode cX7_advance 98 = .ok (.baload, 1) := by decide +kernel
theorem dX7_advance_99 : decode cX7_advance 99 = .ok (.ifCond .eq 23, 3) := by decide +kernel
theorem dX7_advance_102 : decode cX7_advance 102 = .ok (.aload_n 0, 1) := by decide +kernel
theorem dX7_advance_103 : decode cX7_advance 103 = .ok (.getfield 117, 3) := by decide +kernel
theorem dX7_advance_106 : decode cX7_advance 106 = .ok (.iload 4, 2) := by decide +kernel
theorem dX7_advance_108 : decode cX7_advance 108 = .ok (.iaload, 1) := by decide +kernel
theorem dX7_advance_109 : decode cX7_advance 109 = .ok (.aload_n 0, 1) := by decide +kernel
theorem dX7_advance_110 : decode cX7_advance 110 = .ok (.getfield 158, 3) := by decide +kernel
theorem dX7_advance_113 : decode cX7_advance 113 = .ok (.if_icmp .ne 9, 3) := by decide +kernel
theorem dX7_advance_116 : decode cX7_advance 116 = .ok (.aload_n 0, 1) := by decide +kernel
theorem dX7_advance_117 : decode cX7_advance 117 = .ok (.iload 4, 2) := by decide +kernel
theorem dX7_advance_119 : decode cX7_advance 119 = .ok (.invokevirtual 307, 3) := by decide +kernel
theorem dX7_advance_122 : decode cX7_advance 122 = .ok (.iinc 4 1, 3) := by decide +kernel
theorem dX7_advance_125 : decode cX7_advance 125 = .ok (.goto (-42), 3) := by decide +kernel
theorem dX7_advance_128 : decode cX7_advance 128 = .ok (.aload_n 0, 1) := by decide +kernel
theorem dX7_advance_129 : decode cX7_advance 129 = .ok (.invokevirtual 310, 3) := by decide +kernel
theorem dX7_advance_132 : decode cX7_advance 132 = .ok (.iinc 3 1, 3) := by decide +kernel
theorem dX7_advance_135 : decode cX7_advance 135 = .ok (.goto (-94), 3) := by decide +kernel
theorem dX7_advance_138 : decode cX7_advance 138 = .ok (.aload_n 0, 1) := by decide +kernel
theorem dX7_advance_139 : decode cX7_advance 139 = .ok (.getfield 155, 3) := by decide +kernel
theorem dX7_advance_142 : decode cX7_advance 142 = .ok (.iload_n 2, 1) := by decide +kernel
theorem dX7_advance_143 : decode cX7_advance 143 = .ok (.isub, 1) := by decide +kernel
theorem dX7_advance_144 : decode cX7_advance 144 = .ok (.ireturn, 1) := by decide +kernel
theorem dX7_forceBy_0 : decode cX7_forceBy 0 = .ok (.iload_n 2, 1) := by decide +kernel
theorem dX7_forceBy_1 : decode cX7_forceBy 1 = .ok (.aload_n 0, 1) := by decide +kernel
theorem dX7_forceBy_2 : decode cX7_forceBy 2 = .ok (.getfield 20, 3) := by decide +kernel
theorem dX7_forceBy_5 : decode cX7_forceBy 5 = .ok (.iload_n 1, 1) := by decide +kernel
theorem dX7_forceBy_6 : decode cX7_forceBy 6 = .ok (.iaload, 1) := by decide +kernel
theorem dX7_forceBy_7 : decode cX7_forceBy 7 = .ok (.imul, 1) := by decide +kernel
theorem dX7_forceBy_8 : decode cX7_forceBy 8 = .ok (.iload_n 3, 1) := by decide +kernel
theorem dX7_forceBy_9 : decode cX7_forceBy 9 = .ok (.imul, 1) := by decide +kernel
theorem dX7_forceBy_10 : decode cX7_forceBy 10 = .ok (.aload_n 0, 1) := by decide +kernel
theorem dX7_forceBy_11 : decode cX7_forceBy 11 = .ok (.getfield 23, 3) := by decide +kernel
theorem dX7_forceBy_14 : decode cX7_forceBy 14 = .ok (.iload_n 1, 1) := by decide +kernel
theorem dX7_forceBy_15 : decode cX7_forceBy 15 = .ok (.iaload, 1) := by decide +kernel
theorem dX7_forceBy_16 : decode cX7_forceBy 16 = .ok (.iconst 2, 1) := by decide +kernel
theorem dX7_forceBy_17 : decode cX7_forceBy 17 = .ok (.iload 4, 2) := by decide +kernel
theorem dX7_forceBy_19 : decode cX7_forceBy 19 = .ok (.imul, 1) := by decide +kernel
theorem dX7_forceBy_20 : decode cX7_forceBy 20 = .ok (.isub, 1) := by decide +kernel
theorem dX7_forceBy_21 : decode cX7_forceBy 21 = .ok (.imul, 1) := by decide +kernel
theorem dX7_forceBy_22 : decode cX7_forceBy 22 = .ok (.bipush 100, 2) := by decide +kernel
theorem dX7_forceBy_24 : decode cX7_forceBy 24 = .ok (.aload_n 0, 1) := by decide +kernel
theorem dX7_forceBy_25 : decode cX7_forceBy 25 = .ok (.getfield 23, 3) := by decide +kernel
theorem dX7_forceBy_28 : decode cX7_forceBy 28 = .ok (.iload_n 1, 1) := by decide +kernel
theorem dX7_forceBy_29 : decode cX7_forceBy 29 = .ok (.iaload, 1) := by decide +kernel
theorem dX7_forceBy_30 : decode cX7_forceBy 30 = .ok (.imul, 1) := by decide +kernel
theorem dX7_forceBy_31 : decode cX7_forceBy 31 = .ok (.idiv, 1) := by decide +kernel
theorem dX7_forceBy_32 : decode cX7_forceBy 32 = .ok (.ireturn, 1) := by decide +kernel
theorem dX7_laysShake_0 : decode cX7_laysShake 0 = .ok (.iconst 0, 1) := by decide +kernel
theorem dX7_laysShake_1 : decode cX7_laysShake 1 = .ok (.istore_n 2, 1) := by decide +kernel
theorem dX7_laysShake_2 : decode cX7_laysShake 2 = .ok (.iload_n 2, 1) := by decide +kernel
theorem dX7_laysShake_3 : decode cX7_laysShake 3 = .ok (.iload_n 1, 1) := by decide +kernel
theorem dX7_laysShake_4 : decode cX7_laysShake 4 = .ok (.if_icmp .gt 16, 3) := by decide +kernel
theorem dX7_laysShake_7 : decode cX7_laysShake 7 = .ok (.aload_n 0, 1) := by decide +kernel
theorem dX7_laysShake_8 : decode cX7_laysShake 8 = .ok (.getfield 120, 3) := by decide +kernel
theorem dX7_laysShake_11 : decode cX7_laysShake 11 = .ok (.iload_n 2, 1) := by decide +kernel
theorem dX7_laysShake_12 : decode cX7_laysShake 12 = .ok (.iconst 0, 1) := by decide +kernel
theorem dX7_laysShake_13 : decode cX7_laysShake 13 = .ok (.iastore, 1) := by decide +kernel
theorem dX7_laysShake_14 : decode cX7_laysShake 14 = .ok (.iinc 2 1, 3) := by decide +kernel
theorem dX7_laysShake_17 : decode cX7_laysShake 17 = .ok (.goto (-15), 3) := by decide +kernel
theorem dX7_laysShake_20 : decode cX7_laysShake 20 = .ok (.iconst 0, 1) := by decide +kernel
theorem dX7_laysShake_21 : decode cX7_laysShake 21 = .ok (.istore_n 2, 1) := by decide +kernel
theorem dX7_laysShake_22 : decode cX7_laysShake 22 = .ok (.iload_n 2, 1) := by decide +kernel
theorem dX7_laysShake_23 : decode cX7_laysShake 23 = .ok (.aload_n 0, 1) := by decide +kernel
theorem dX7_laysShake_24 : decode cX7_laysShake 24 = .ok (.getfield 132, 3) := by decide +kernel
theorem dX7_laysShake_27 : decode cX7_laysShake 27 = .ok (.if_icmp .ge 161, 3) := by decide +kernel
theorem dX7_laysShake_30 : decode cX7_laysShake 30 = .ok (.aload_n 0, 1) := by decide +kernel
theorem dX7_laysShake_31 : decode cX7_laysShake 31 = .ok (.getfield 99, 3) := by decide +kernel
theorem dX7_laysShake_34 : decode cX7_laysShake 34 = .ok (.iload_n 2, 1) := by decide +kernel
theorem dX7_laysShake_35 : decode cX7_laysShake 35 = .ok (.baload, 1) := by decide +kernel
theorem dX7_laysShake_36 : decode cX7_laysShake 36 = .ok (.istore_n 3, 1) := by decide +kernel
theorem dX7_laysShake_37 : decode cX7_laysShake 37 = .ok (.aload_n 0, 1) := by decide +kernel
theorem dX7_laysShake_38 : decode cX7_laysShake 38 = .ok (.getfield 108, 3) := by decide +kernel
theorem dX7_laysShake_41 : decode cX7_laysShake 41 = .ok (.iload_n 2, 1) := by decide +kernel
theorem dX7_laysShake_42 : decode cX7_laysShake 42 = .ok (.iaload, 1) := by decide +kernel
theorem dX7_laysShake_43 : decode cX7_laysShake 43 = .ok (.istore 4, 2) := by decide +kernel
theorem dX7_laysShake_45 : decode cX7_laysShake 45 = .ok (.aload_n 0, 1) := by decide +kernel
theorem dX7_laysShake_46 : decode cX7_laysShake 46 = .ok (.getfield 111, 3) := by decide +kernel
theorem dX7_laysShake_49 : decode cX7_laysShake 49 = .ok (.iload_n 2, 1) := by decide +kernel
theorem dX7_laysShake_50 : decode cX7_laysShake 50 = .ok (.iaload, 1) := by decide +kernel
theorem dX7_laysShake_51 : decode cX7_laysShake 51 = .ok (.istore 5, 2) := by decide +kernel
theorem dX7_laysShake_53 : decode cX7_laysShake 53 = .ok (.aload_n 0, 1) := by decide +kernel
theorem dX7_laysShake_54 : decode cX7_laysShake 54 = .ok (.getfield 117, 3) := by decide +kernel
theorem dX7_laysShake_57 : decode cX7_laysShake 57 = .ok (.iload_n 2, 1) := by decide +kernel
theorem dX7_laysShake_58 : decode cX7_laysShake 58 = .ok (.iaload, 1) := by decide +kernel
theorem dX7_laysShake_59 : decode cX7_laysShake 59 = .ok (.aload_n 0, 1) := by decide +kernel
theorem dX7_laysShake_60 : decode cX7_laysShake 60 = .ok (.getfield 158, 3) := by decide +kernel
theorem dX7_laysShake_63 : decode cX7_laysShake 63 = .ok (.isub, 1) := by decide +kernel
theorem dX7_laysShake_64 : decode cX7_laysShake 64 = .ok (.istore 6, 2) := by decide +kernel
theorem dX7_laysShake_66 : decode cX7_laysShake 66 = .ok (.iconst 0, 1) := by decide +kernel
theorem dX7_laysShake_67 : decode cX7_laysShake 67 = .ok (.istore 7, 2) := by decide +kernel
theorem dX7_laysShake_69 : decode cX7_laysShake 69 = .ok (.iload 7, 2) := by decide +kernel
theorem dX7_laysShake_71 : decode cX7_laysShake 71 = .ok (.iload_n 1, 1) := by decide +kernel
theorem dX7_laysShake_72 : decode cX7_laysShake 72 = .ok (.if_icmp .gt 110, 3) := by decide +kernel
theorem dX7_laysShake_75 : decode cX7_laysShake 75 = .ok (.iload_n 3, 1) := by decide +kernel
theorem dX7_laysShake_76 : decode cX7_laysShake 76 = .ok (.ifCond .eq 106, 3) := by decide +kernel
theorem dX7_laysShake_79 : decode cX7_laysShake 79 = .ok (.iload 7, 2) := by decide +kernel
theorem dX7_laysShake_81 : decode cX7_laysShake 81 = .ok (.iload 6, 2) := by decide +kernel
theorem dX7_laysShake_83 : decode cX7_laysShake 83 = .ok (.if_icmp .ne 58, 3) := by decide +kernel
theorem dX7_laysShake_86 : decode cX7_laysShake 86 = .ok (.iload 5, 2) := by decide +kernel
theorem dX7_laysShake_88 : decode cX7_laysShake 88 = .ok (.ineg, 1) := by decide +kernel
theorem dX7_laysShake_89 : decode cX7_laysShake 89 = .ok (.istore 5, 2) := by decide +kernel
theorem dX7_laysShake_91 : decode cX7_laysShake 91 = .ok (.iload 4, 2) := by decide +kernel
theorem dX7_laysShake_93 : decode cX7_laysShake 93 = .ok (.aload_n 0, 1) := by decide +kernel
theorem dX7_laysShake_94 : decode cX7_laysShake 94 = .ok (.getfield 105, 3) := by decide +kernel
theorem dX7_laysShake_97 : decode cX7_laysShake 97 = .ok (.iload_n 2, 1) := by decide +kernel
theorem dX7_laysShake_98 : decode cX7_laysShake 98 = .ok (.baload, 1) := by decide +kernel
theorem dX7_laysShake_99 : decode cX7_laysShake 99 = .ok (.aload_n 0, 1) := by decide +kernel
theorem dX7_laysShake_100 : decode cX7_laysShake 100 = .ok (.getfield 114, 3) := by decide +kernel
theorem dX7_laysShake_103 : decode cX7_laysShake 103 = .ok (.iload_n 2, 1) := by decide +kernel
theorem dX7_laysShake_104 : decode cX7_laysShake 104 = .ok (.iaload, 1) := by decide +kernel
theorem dX7_laysShake_105 : decode cX7_laysShake 105 = .ok (.invokestatic 294, 3) := by decide +kernel
theorem dX7_laysShake_108 : decode cX7_laysShake 108 = .ok (.istore 4, 2) := by decide +kernel
theorem dX7_laysShake_110 : decode cX7_laysShake 110 = .ok (.iload 4, 2) := by decide +kernel
theorem dX7_laysShake_112 : decode cX7_laysShake 112 = .ok (.ifCond .gt 12, 3) := by decide +kernel
theorem dX7_laysShake_115 : decode cX7_laysShake 115 = .ok (.aload_n 0, 1) := by decide +kernel
theorem dX7_laysShake_116 : decode cX7_laysShake 116 = .ok (.getfield 105, 3) := by decide +kernel
theorem dX7_laysShake_119 : decode cX7_laysShake 119 = .ok (.iload_n 2, 1) := by decide +kernel
theorem dX7_laysShake_120 : decode cX7_laysShake 120 = .ok (.baload, 1) := by decide +kernel
theorem dX7_laysShake_121 : decode cX7_laysShake 121 = .ok (.ifCond .eq 7, 3) := by decide +kernel
theorem dX7_laysShake_124 : decode cX7_laysShake 124 = .ok (.iconst 1, 1) := by decide +kernel
theorem dX7_laysShake_125 : decode cX7_laysShake 125 = .ok (.goto 4, 3) := by decide +kernel
theorem dX7_laysShake_128 : decode cX7_laysShake 128 = .ok (.iconst 0, 1) := by decide +kernel
theorem dX7_laysShake_129 : decode cX7_laysShake 129 = .ok (.istore_n 3, 1) := by decide +kernel
theorem dX7_laysShake_130 : decode cX7_laysShake 130 = .ok (.iload 6, 2) := by decide +kernel
theorem dX7_laysShake_132 : decode cX7_laysShake 132 = .ok (.aload_n 0, 1) := by decide +kernel
theorem dX7_laysShake_133 : decode cX7_laysShake 133 = .ok (.getfield 23, 3) := by decide +kernel
theorem dX7_laysShake_136 : decode cX7_laysShake 136 = .ok (.iload_n 2, 1) := by decide +kernel
theorem dX7_laysShake_137 : decode cX7_laysShake 137 = .ok (.iaload, 1) := by decide +kernel
theorem dX7_laysShake_138 : decode cX7_laysShake 138 = .ok (.iadd, 1) := by decide +kernel
theorem dX7_laysShake_139 : decode cX7_laysShake 139 = .ok (.istore 6, 2) := by decide +kernel
theorem dX7_laysShake_141 : decode cX7_laysShake 141 = .ok (.iload_n 3, 1) := by decide +kernel
theorem dX7_laysShake_142 : decode cX7_laysShake 142 = .ok (.ifCond .eq 34, 3) := by decide +kernel
theorem dX7_laysShake_145 : decode cX7_laysShake 145 = .ok (.aload_n 0, 1) := by decide +kernel
theorem dX7_laysShake_146 : decode cX7_laysShake 146 = .ok (.getfield 120, 3) := by decide +kernel
theorem dX7_laysShake_149 : decode cX7_laysShake 149 = .ok (.iload 7, 2) := by decide +kernel
theorem dX7_laysShake_151 : decode cX7_laysShake 151 = .ok (.dup2, 1) := by decide +kernel
theorem dX7_laysShake_152 : decode cX7_laysShake 152 = .ok (.iaload, 1) := by decide +kernel
theorem dX7_laysShake_153 : decode cX7_laysShake 153 = .ok (.aload_n 0, 1) := by decide +kernel
theorem dX7_laysShake_154 : decode cX7_laysShake 154 = .ok (.iload_n 2, 1) := by decide +kernel
theorem dX7_laysShake_155 : decode cX7_laysShake 155 = .ok (.iload 5, 2) := by decide +kernel
theorem dX7_laysShake_157 : decode cX7_laysShake 157 = .ok (.iload 4, 2) := by decide +kernel
theorem dX7_laysShake_159 : decode cX7_laysShake 159 = .ok (.iload 7, 2) := by decide +kernel
theorem dX7_laysShake_161 : decode cX7_laysShake 161 = .ok (.iload 6, 2) := by decide +kernel
theorem dX7_laysShake_163 : decode cX7_laysShake 163 = .ok (.isub, 1) := by decide +kernel
theorem dX7_laysShake_164 : decode cX7_laysShake 164 = .ok (.aload_n 0, 1) := by decide +kernel
theorem dX7_laysShake_165 : decode cX7_laysShake 165 = .ok (.getfield 23, 3) := by decide +kernel
theorem dX7_laysShake_168 : decode cX7_laysShake 168 = .ok (.iload_n 2, 1) := by decide +kernel
theorem dX7_laysShake_169 : decode cX7_laysShake 169 = .ok (.iaload, 1) := by decide +kernel
theorem dX7_laysShake_170 : decode cX7_laysShake 170 = .ok (.iadd, 1) := by decide +kernel
theorem dX7_laysShake_171 : decode cX7_laysShake 171 = .ok (.invokevirtual 313, 3) := by decide +kernel
theorem dX7_laysShake_174 : decode cX7_laysShake 174 = .ok (.iadd, 1) := by decide +kernel
theorem dX7_laysShake_175 : decode cX7_laysShake 175 = .ok (.iastore, 1) := by decide +kernel
theorem dX7_laysShake_176 : decode cX7_laysShake 176 = .ok (.iinc 7 1, 3) := by decide +kernel
theorem dX7_laysShake_179 : decode cX7_laysShake 179 = .ok (.goto (-110), 3) := by decide +kernel
theorem dX7_laysShake_182 : decode cX7_laysShake 182 = .ok (.iinc 2 1, 3) := by decide +kernel
theorem dX7_laysShake_185 : decode cX7_laysShake 185 = .ok (.goto (-163), 3) := by decide +kernel
theorem dX7_laysShake_188 : decode cX7_laysShake 188 = .ok (.return_, 1) := by decide +kernel
theorem dX7_laysStarted_0 : decode cX7_laysStarted 0 = .ok (.iconst 0, 1) := by decide +kernel
theorem dX7_laysStarted_1 : decode cX7_laysStarted 1 = .ok (.istore_n 3, 1) := by decide +kernel
theorem dX7_laysStarted_2 : decode cX7_laysStarted 2 = .ok (.iconst 1, 1) := by decide +kernel
theorem dX7_laysStarted_3 : decode cX7_laysStarted 3 = .ok (.istore 4, 2) := by decide +kernel
theorem dX7_laysStarted_5 : decode cX7_laysStarted 5 = .ok (.aload_n 0, 1) := by decide +kernel
theorem dX7_laysStarted_6 : decode cX7_laysStarted 6 = .ok (.getfield 23, 3) := by decide +kernel
theorem dX7_laysStarted_9 : decode cX7_laysStarted 9 = .ok (.iload_n 1, 1) := by decide +kernel
theorem dX7_laysStarted_10 : decode cX7_laysStarted 10 = .ok (.iaload, 1) := by decide +kernel
theorem dX7_laysStarted_11 : decode cX7_laysStarted 11 = .ok (.istore 5, 2) := by decide +kernel
theorem dX7_laysStarted_13 : decode cX7_laysStarted 13 = .ok (.iconst 0, 1) := by decide +kernel
theorem dX7_laysStarted_14 : decode cX7_laysStarted 14 = .ok (.istore 6, 2) := by decide +kernel
theorem dX7_laysStarted_16 : decode cX7_laysStarted 16 = .ok (.iload 6, 2) := by decide +kernel
theorem dX7_laysStarted_18 : decode cX7_laysStarted 18 = .ok (.sipush 600, 3) := by decide +kernel
theorem dX7_laysStarted_21 : decode cX7_laysStarted 21 = .ok (.if_icmp .gt 66, 3) := by decide +kernel
theorem dX7_laysStarted_24 : decode cX7_laysStarted 24 = .ok (.iload 6, 2) := by decide +kernel
theorem dX7_laysStarted_26 : decode cX7_laysStarted 26 = .ok (.iload 5, 2) := by decide +kernel
theorem dX7_laysStarted_28 : decode cX7_laysStarted 28 = .ok (.if_icmp .ne 26, 3) := by decide +kernel
theorem dX7_laysStarted_31 : decode cX7_laysStarted 31 = .ok (.iload 4, 2) := by decide +kernel
theorem dX7_laysStarted_33 : decode cX7_laysStarted 33 = .ok (.ineg, 1) := by decide +kernel
theorem dX7_laysStarted_34 : decode cX7_laysStarted 34 = .ok (.istore 4, 2) := by decide +kernel
theorem dX7_laysStarted_36 : decode cX7_laysStarted 36 = .ok (.iload_n 3, 1) := by decide +kernel
theorem dX7_laysStarted_37 : decode cX7_laysStarted 37 = .ok (.iconst 1, 1) := by decide +kernel
theorem dX7_laysStarted_38 : decode cX7_laysStarted 38 = .ok (.iload_n 2, 1) := by decide +kernel
theorem dX7_laysStarted_39 : decode cX7_laysStarted 39 = .ok (.invokestatic 294, 3) := by decide +kernel
theorem dX7_laysStarted_42 : decode cX7_laysStarted 42 = .ok (.istore_n 3, 1) := by decide +kernel
theorem dX7_laysStarted_43 : decode cX7_laysStarted 43 = .ok (.iload 5, 2) := by decide +kernel
theorem dX7_laysStarted_45 : decode cX7_laysStarted 45 = .ok (.aload_n 0, 1) := by decide +kernel
theorem dX7_laysStarted_46 : decode cX7_laysStarted 46 = .ok (.getfield 23, 3) := by decide +kernel
theorem dX7_laysStarted_49 : decode cX7_laysStarted 49 = .ok (.iload_n 1, 1) := by decide +kernel
theorem dX7_laysStarted_50 : decode cX7_laysStarted 50 = .ok (.iaload, 1) := by decide +kernel
theorem dX7_laysStarted_51 : decode cX7_laysStarted 51 = .ok (.iadd, 1) := by decide +kernel
theorem dX7_laysStarted_52 : decode cX7_laysStarted 52 = .ok (.istore 5, 2) := by decide +kernel
theorem dX7_laysStarted_54 : decode cX7_laysStarted 54 = .ok (.aload_n 0, 1) := by decide +kernel
theorem dX7_laysStarted_55 : decode cX7_laysStarted 55 = .ok (.getfield 123, 3) := by decide +kernel
theorem dX7_laysStarted_58 : decode cX7_laysStarted 58 = .ok (.iload 6, 2) := by decide +kernel
theorem dX7_laysStarted_60 : decode cX7_laysStarted 60 = .ok (.aload_n 0, 1) := by decide +kernel
theorem dX7_laysStarted_61 : decode cX7_laysStarted 61 = .ok (.iload_n 1, 1) := by decide +kernel
theorem dX7_laysStarted_62 : decode cX7_laysStarted 62 = .ok (.iload 4, 2) := by decide +kernel
theorem dX7_laysStarted_64 : decode cX7_laysStarted 64 = .ok (.iload_n 3, 1) := by decide +kernel
theorem dX7_laysStarted_65 : decode cX7_laysStarted 65 = .ok (.iload 6, 2) := by decide +kernel
theorem dX7_laysStarted_67 : decode cX7_laysStarted 67 = .ok (.iload 5, 2) := by decide +kernel
theorem dX7_laysStarted_69 : decode cX7_laysStarted 69 = .ok (.isub, 1) := by decide +kernel
theorem dX7_laysStarted_70 : decode cX7_laysStarted 70 = .ok (.aload_n 0, 1) := by decide +kernel
theorem dX7_laysStarted_71 : decode cX7_laysStarted 71 = .ok (.getfield 23, 3) := by decide +kernel
theorem dX7_laysStarted_74 : decode cX7_laysStarted 74 = .ok (.iload_n 1, 1) := by decide +kernel
theorem dX7_laysStarted_75 : decode cX7_laysStarted 75 = .ok (.iaload, 1) := by decide +kernel
theorem dX7_laysStarted_76 : decode cX7_laysStarted 76 = .ok (.iadd, 1) := by decide +kernel
theorem dX7_laysStarted_77 : decode cX7_laysStarted 77 = .ok (.invokevirtual 313, 3) := by decide +kernel
theorem dX7_laysStarted_80 : decode cX7_laysStarted 80 = .ok (.iastore, 1) := by decide +kernel
theorem dX7_laysStarted_81 : decode cX7_laysStarted 81 = .ok (.iinc 6 1, 3) := by decide +kernel
theorem dX7_laysStarted_84 : decode cX7_laysStarted 84 = .ok (.goto (-68), 3) := by decide +kernel
theorem dX7_laysStarted_87 : decode cX7_laysStarted 87 = .ok (.return_, 1) := by decide +kernel
theorem dX7_sizeOf_0 : decode cX7_sizeOf 0 = .ok (.iload_n 0, 1) := by decide +kernel
theorem dX7_sizeOf_1 : decode cX7_sizeOf 1 = .ok (.ifCond .ge 8, 3) := by decide +kernel
theorem dX7_sizeOf_4 : decode cX7_sizeOf 4 = .ok (.iload_n 0, 1) := by decide +kernel
theorem dX7_sizeOf_5 : decode cX7_sizeOf 5 = .ok (.ineg, 1) := by decide +kernel
theorem dX7_sizeOf_6 : decode cX7_sizeOf 6 = .ok (.goto 4, 3) := by decide +kernel
theorem dX7_sizeOf_9 : decode cX7_sizeOf 9 = .ok (.iload_n 0, 1) := by decide +kernel
theorem dX7_sizeOf_10 : decode cX7_sizeOf 10 = .ok (.ireturn, 1) := by decide +kernel
theorem dX7_worstBy_0 : decode cX7_worstBy 0 = .ok (.iconst 0, 1) := by decide +kernel
theorem dX7_worstBy_1 : decode cX7_worstBy 1 = .ok (.istore_n 2, 1) := by decide +kernel
theorem dX7_worstBy_2 : decode cX7_worstBy 2 = .ok (.iconst 0, 1) := by decide +kernel
theorem dX7_worstBy_3 : decode cX7_worstBy 3 = .ok (.istore_n 3, 1) := by decide +kernel
theorem dX7_worstBy_4 : decode cX7_worstBy 4 = .ok (.iload_n 3, 1) := by decide +kernel
theorem dX7_worstBy_5 : decode cX7_worstBy 5 = .ok (.sipush 600, 3) := by decide +kernel
theorem dX7_worstBy_8 : decode cX7_worstBy 8 = .ok (.if_icmp .gt 42, 3) := by decide +kernel
theorem dX7_worstBy_11 : decode cX7_worstBy 11 = .ok (.aload_n 0, 1) := by decide +kernel
theorem dX7_worstBy_12 : decode cX7_worstBy 12 = .ok (.getfield 120, 3) := by decide +kernel
theorem dX7_worstBy_15 : decode cX7_worstBy 15 = .ok (.iload_n 1, 1) := by decide +kernel
theorem dX7_worstBy_16 : decode cX7_worstBy 16 = .ok (.iload_n 3, 1) := by decide +kernel
theorem dX7_worstBy_17 : decode cX7_worstBy 17 = .ok (.iadd, 1) := by decide +kernel
theorem dX7_worstBy_18 : decode cX7_worstBy 18 = .ok (.iaload, 1) := by decide +kernel
theorem dX7_worstBy_19 : decode cX7_worstBy 19 = .ok (.aload_n 0, 1) := by decide +kernel
theorem dX7_worstBy_20 : decode cX7_worstBy 20 = .ok (.getfield 123, 3) := by decide +kernel
theorem dX7_worstBy_23 : decode cX7_worstBy 23 = .ok (.iload_n 3, 1) := by decide +kernel
theorem dX7_worstBy_24 : decode cX7_worstBy 24 = .ok (.iaload, 1) := by decide +kernel
theorem dX7_worstBy_25 : decode cX7_worstBy 25 = .ok (.iadd, 1) := by decide +kernel
theorem dX7_worstBy_26 : decode cX7_worstBy 26 = .ok (.invokestatic 316, 3) := by decide +kernel
theorem dX7_worstBy_29 : decode cX7_worstBy 29 = .ok (.istore 4, 2) := by decide +kernel
theorem dX7_worstBy_31 : decode cX7_worstBy 31 = .ok (.iload 4, 2) := by decide +kernel
theorem dX7_worstBy_33 : decode cX7_worstBy 33 = .ok (.iload_n 2, 1) := by decide +kernel
theorem dX7_worstBy_34 : decode cX7_worstBy 34 = .ok (.if_icmp .le 8, 3) := by decide +kernel
theorem dX7_worstBy_37 : decode cX7_worstBy 37 = .ok (.iload 4, 2) := by decide +kernel
theorem dX7_worstBy_39 : decode cX7_worstBy 39 = .ok (.goto 4, 3) := by decide +kernel
theorem dX7_worstBy_42 : decode cX7_worstBy 42 = .ok (.iload_n 2, 1) := by decide +kernel
theorem dX7_worstBy_43 : decode cX7_worstBy 43 = .ok (.istore_n 2, 1) := by decide +kernel
theorem dX7_worstBy_44 : decode cX7_worstBy 44 = .ok (.iinc 3 1, 3) := by decide +kernel
theorem dX7_worstBy_47 : decode cX7_worstBy 47 = .ok (.goto (-43), 3) := by decide +kernel
theorem dX7_worstBy_50 : decode cX7_worstBy 50 = .ok (.iload_n 2, 1) := by decide +kernel
theorem dX7_worstBy_51 : decode cX7_worstBy 51 = .ok (.ireturn, 1) := by decide +kernel
theorem dX7_startSwing_0 : decode cX7_startSwing 0 = .ok (.aload_n 0, 1) := by decide +kernel
theorem dX7_startSwing_1 : decode cX7_startSwing 1 = .ok (.iconst 0, 1) := by decide +kernel
theorem dX7_startSwing_2 : decode cX7_startSwing 2 = .ok (.putfield 1, 3) := by decide +kernel
theorem dX7_startSwing_5 : decode cX7_startSwing 5 = .ok (.aload_n 0, 1) := by decide +kernel
theorem dX7_startSwing_6 : decode cX7_startSwing 6 = .ok (.iload_n 1, 1) := by decide +kernel
theorem dX7_startSwing_7 : decode cX7_startSwing 7 = .ok (.invokevirtual 149, 3) := by decide +kernel
theorem dX7_startSwing_10 : decode cX7_startSwing 10 = .ok (.ifCond .ne 6, 3) := by decide +kernel
theorem dX7_startSwing_13 : decode cX7_startSwing 13 = .ok (.bipush (-2), 2) := by decide +kernel
theorem dX7_startSwing_15 : decode cX7_startSwing 15 = .ok (.ireturn, 1) := by decide +kernel
theorem dX7_startSwing_16 : decode cX7_startSwing 16 = .ok (.iload_n 2, 1) := by decide +kernel
theorem dX7_startSwing_17 : decode cX7_startSwing 17 = .ok (.i2l, 1) := by decide +kernel
theorem dX7_startSwing_18 : decode cX7_startSwing 18 = .ok (.lconst 1, 1) := by decide +kernel
theorem dX7_startSwing_19 : decode cX7_startSwing 19 = .ok (.ldc2_w 319, 3) := by decide +kernel
theorem dX7_startSwing_22 : decode cX7_startSwing 22 = .ok (.invokestatic 135, 3) := by decide +kernel
theorem dX7_startSwing_25 : decode cX7_startSwing 25 = .ok (.ifCond .ne 6, 3) := by decide +kernel
theorem dX7_startSwing_28 : decode cX7_startSwing 28 = .ok (.bipush (-3), 2) := by decide +kernel
theorem dX7_startSwing_30 : decode cX7_startSwing 30 = .ok (.ireturn, 1) := by decide +kernel
theorem dX7_startSwing_31 : decode cX7_startSwing 31 = .ok (.aload_n 0, 1) := by decide +kernel
theorem dX7_startSwing_32 : decode cX7_startSwing 32 = .ok (.getfield 99, 3) := by decide +kernel
theorem dX7_startSwing_35 : decode cX7_startSwing 35 = .ok (.iload_n 1, 1) := by decide +kernel
theorem dX7_startSwing_36 : decode cX7_startSwing 36 = .ok (.baload, 1) := by decide +kernel
theorem dX7_startSwing_37 : decode cX7_startSwing 37 = .ok (.ifCond .eq 6, 3) := by decide +kernel
theorem dX7_startSwing_40 : decode cX7_startSwing 40 = .ok (.bipush (-6), 2) := by decide +kernel
theorem dX7_startSwing_42 : decode cX7_startSwing 42 = .ok (.ireturn, 1) := by decide +kernel
theorem dX7_startSwing_43 : decode cX7_startSwing 43 = .ok (.aload_n 0, 1) := by decide +kernel
theorem dX7_startSwing_44 : decode cX7_startSwing 44 = .ok (.iload_n 1, 1) := by decide +kernel
theorem dX7_startSwing_45 : decode cX7_startSwing 45 = .ok (.invokevirtual 190, 3) := by decide +kernel
theorem dX7_startSwing_48 : decode cX7_startSwing 48 = .ok (.iconst (-1), 1) := by decide +kernel
theorem dX7_startSwing_49 : decode cX7_startSwing 49 = .ok (.if_icmp .eq 6, 3) := by decide +kernel
theorem dX7_startSwing_52 : decode cX7_startSwing 52 = .ok (.bipush (-10), 2) := by decide +kernel
theorem dX7_startSwing_54 : decode cX7_startSwing 54 = .ok (.ireturn, 1) := by decide +kernel
theorem dX7_startSwing_55 : decode cX7_startSwing 55 = .ok (.aload_n 0, 1) := by decide +kernel
theorem dX7_startSwing_56 : decode cX7_startSwing 56 = .ok (.sipush 600, 3) := by decide +kernel
theorem dX7_startSwing_59 : decode cX7_startSwing 59 = .ok (.invokevirtual 321, 3) := by decide +kernel
theorem dX7_startSwing_62 : decode cX7_startSwing 62 = .ok (.aload_n 0, 1) := by decide +kernel
theorem dX7_startSwing_63 : decode cX7_startSwing 63 = .ok (.iload_n 1, 1) := by decide +kernel
theorem dX7_startSwing_64 : decode cX7_startSwing 64 = .ok (.iload_n 2, 1) := by decide +kernel
theorem dX7_startSwing_65 : decode cX7_startSwing 65 = .ok (.invokevirtual 324, 3) := by decide +kernel
theorem dX7_startSwing_68 : decode cX7_startSwing 68 = .ok (.aload_n 0, 1) := by decide +kernel
theorem dX7_startSwing_69 : decode cX7_startSwing 69 = .ok (.iconst 0, 1) := by decide +kernel
theorem dX7_startSwing_70 : decode cX7_startSwing 70 = .ok (.invokevirtual 327, 3) := by decide +kernel
theorem dX7_startSwing_73 : decode cX7_startSwing 73 = .ok (.aload_n 0, 1) := by decide +kernel
theorem dX7_startSwing_74 : decode cX7_startSwing 74 = .ok (.getfield 129, 3) := by decide +kernel
theorem dX7_startSwing_77 : decode cX7_startSwing 77 = .ok (.if_icmp .le 6, 3) := by decide +kernel
theorem dX7_startSwing_80 : decode cX7_startSwing 80 = .ok (.bipush (-11), 2) := by decide +kernel
theorem dX7_startSwing_82 : decode cX7_startSwing 82 = .ok (.ireturn, 1) := by decide +kernel
theorem dX7_startSwing_83 : decode cX7_startSwing 83 = .ok (.aload_n 0, 1) := by decide +kernel
theorem dX7_startSwing_84 : decode cX7_startSwing 84 = .ok (.getfield 99, 3) := by decide +kernel
theorem dX7_startSwing_87 : decode cX7_startSwing 87 = .ok (.iload_n 1, 1) := by decide +kernel
theorem dX7_startSwing_88 : decode cX7_startSwing 88 = .ok (.iconst 1, 1) := by decide +kernel
theorem dX7_startSwing_89 : decode cX7_startSwing 89 = .ok (.bastore, 1) := by decide +kernel
theorem dX7_startSwing_90 : decode cX7_startSwing 90 = .ok (.aload_n 0, 1) := by decide +kernel
theorem dX7_startSwing_91 : decode cX7_startSwing 91 = .ok (.getfield 105, 3) := by decide +kernel
theorem dX7_startSwing_94 : decode cX7_startSwing 94 = .ok (.iload_n 1, 1) := by decide +kernel
theorem dX7_startSwing_95 : decode cX7_startSwing 95 = .ok (.iconst 1, 1) := by decide +kernel
theorem dX7_startSwing_96 : decode cX7_startSwing 96 = .ok (.bastore, 1) := by decide +kernel
theorem dX7_startSwing_97 : decode cX7_startSwing 97 = .ok (.aload_n 0, 1) := by decide +kernel
theorem dX7_startSwing_98 : decode cX7_startSwing 98 = .ok (.getfield 108, 3) := by decide +kernel
theorem dX7_startSwing_101 : decode cX7_startSwing 101 = .ok (.iload_n 1, 1) := by decide +kernel
theorem dX7_startSwing_102 : decode cX7_startSwing 102 = .ok (.iconst 0, 1) := by decide +kernel
theorem dX7_startSwing_103 : decode cX7_startSwing 103 = .ok (.iastore, 1) := by decide +kernel
theorem dX7_startSwing_104 : decode cX7_startSwing 104 = .ok (.aload_n 0, 1) := by decide +kernel
theorem dX7_startSwing_105 : decode cX7_startSwing 105 = .ok (.getfield 111, 3) := by decide +kernel
theorem dX7_startSwing_108 : decode cX7_startSwing 108 = .ok (.iload_n 1, 1) := by decide +kernel
theorem dX7_startSwing_109 : decode cX7_startSwing 109 = .ok (.iconst 1, 1) := by decide +kernel
theorem dX7_startSwing_110 : decode cX7_startSwing 110 = .ok (.iastore, 1) := by decide +kernel
theorem dX7_startSwing_111 : decode cX7_startSwing 111 = .ok (.aload_n 0, 1) := by decide +kernel
theorem dX7_startSwing_112 : decode cX7_startSwing 112 = .ok (.getfield 114, 3) := by decide +kernel
theorem dX7_startSwing_115 : decode cX7_startSwing 115 = .ok (.iload_n 1, 1) := by decide +kernel
theorem dX7_startSwing_116 : decode cX7_startSwing 116 = .ok (.iload_n 2, 1) := by decide +kernel
theorem dX7_startSwing_117 : decode cX7_startSwing 117 = .ok (.iastore, 1) := by decide +kernel
theorem dX7_startSwing_118 : decode cX7_startSwing 118 = .ok (.aload_n 0, 1) := by decide +kernel
theorem dX7_startSwing_119 : decode cX7_startSwing 119 = .ok (.getfield 117, 3) := by decide +kernel
theorem dX7_startSwing_122 : decode cX7_startSwing 122 = .ok (.iload_n 1, 1) := by decide +kernel
theorem dX7_startSwing_123 : decode cX7_startSwing 123 = .ok (.aload_n 0, 1) := by decide +kernel
theorem dX7_startSwing_124 : decode cX7_startSwing 124 = .ok (.getfield 158, 3) := by decide +kernel
theorem dX7_startSwing_127 : decode cX7_startSwing 127 = .ok (.aload_n 0, 1) := by decide +kernel
theorem dX7_startSwing_128 : decode cX7_startSwing 128 = .ok (.getfield 23, 3) := by decide +kernel
theorem dX7_startSwing_131 : decode cX7_startSwing 131 = .ok (.iload_n 1, 1) := by decide +kernel
theorem dX7_startSwing_132 : decode cX7_startSwing 132 = .ok (.iaload, 1) := by decide +kernel
theorem dX7_startSwing_133 : decode cX7_startSwing 133 = .ok (.iadd, 1) := by decide +kernel
theorem dX7_startSwing_134 : decode cX7_startSwing 134 = .ok (.iastore, 1) := by decide +kernel
theorem dX7_startSwing_135 : decode cX7_startSwing 135 = .ok (.aload_n 0, 1) := by decide +kernel
theorem dX7_startSwing_136 : decode cX7_startSwing 136 = .ok (.getfield 117, 3) := by decide +kernel
theorem dX7_startSwing_139 : decode cX7_startSwing 139 = .ok (.iload_n 1, 1) := by decide +kernel
theorem dX7_startSwing_140 : decode cX7_startSwing 140 = .ok (.iaload, 1) := by decide +kernel
theorem dX7_startSwing_141 : decode cX7_startSwing 141 = .ok (.ireturn, 1) := by decide +kernel
theorem dX7_stopMotor_0 : decode cX7_stopMotor 0 = .ok (.aload_n 0, 1) := by decide +kernel
theorem dX7_stopMotor_1 : decode cX7_stopMotor 1 = .ok (.iconst 0, 1) := by decide +kernel
theorem dX7_stopMotor_2 : decode cX7_stopMotor 2 = .ok (.putfield 1, 3) := by decide +kernel
theorem dX7_stopMotor_5 : decode cX7_stopMotor 5 = .ok (.aload_n 0, 1) := by decide +kernel
theorem dX7_stopMotor_6 : decode cX7_stopMotor 6 = .ok (.iload_n 1, 1) := by decide +kernel
theorem dX7_stopMotor_7 : decode cX7_stopMotor 7 = .ok (.invokevirtual 149, 3) := by decide +kernel
theorem dX7_stopMotor_10 : decode cX7_stopMotor 10 = .ok (.ifCond .ne 6, 3) := by decide +kernel
theorem dX7_stopMotor_13 : decode cX7_stopMotor 13 = .ok (.bipush (-2), 2) := by decide +kernel
theorem dX7_stopMotor_15 : decode cX7_stopMotor 15 = .ok (.ireturn, 1) := by decide +kernel
theorem dX7_stopMotor_16 : decode cX7_stopMotor 16 = .ok (.aload_n 0, 1) := by decide +kernel
theorem dX7_stopMotor_17 : decode cX7_stopMotor 17 = .ok (.getfield 99, 3) := by decide +kernel
theorem dX7_stopMotor_20 : decode cX7_stopMotor 20 = .ok (.iload_n 1, 1) := by decide +kernel
theorem dX7_stopMotor_21 : decode cX7_stopMotor 21 = .ok (.baload, 1) := by decide +kernel
theorem dX7_stopMotor_22 : decode cX7_stopMotor 22 = .ok (.ifCond .ne 5, 3) := by decide +kernel
theorem dX7_stopMotor_25 : decode cX7_stopMotor 25 = .ok (.iconst (-1), 1) := by decide +kernel
theorem dX7_stopMotor_26 : decode cX7_stopMotor 26 = .ok (.ireturn, 1) := by decide +kernel
theorem dX7_stopMotor_27 : decode cX7_stopMotor 27 = .ok (.aload_n 0, 1) := by decide +kernel
theorem dX7_stopMotor_28 : decode cX7_stopMotor 28 = .ok (.getfield 105, 3) := by decide +kernel
theorem dX7_stopMotor_31 : decode cX7_stopMotor 31 = .ok (.iload_n 1, 1) := by decide +kernel
theorem dX7_stopMotor_32 : decode cX7_stopMotor 32 = .ok (.iconst 0, 1) := by decide +kernel
theorem dX7_stopMotor_33 : decode cX7_stopMotor 33 = .ok (.bastore, 1) := by decide +kernel
theorem dX7_stopMotor_34 : decode cX7_stopMotor 34 = .ok (.aload_n 0, 1) := by decide +kernel
theorem dX7_stopMotor_35 : decode cX7_stopMotor 35 = .ok (.getfield 108, 3) := by decide +kernel
theorem dX7_stopMotor_38 : decode cX7_stopMotor 38 = .ok (.iload_n 1, 1) := by decide +kernel
theorem dX7_stopMotor_39 : decode cX7_stopMotor 39 = .ok (.iaload, 1) := by decide +kernel
theorem dX7_stopMotor_40 : decode cX7_stopMotor 40 = .ok (.ireturn, 1) := by decide +kernel
theorem dX7_holdClapper_0 : decode cX7_holdClapper 0 = .ok (.aload_n 0, 1) := by decide +kernel
theorem dX7_holdClapper_1 : decode cX7_holdClapper 1 = .ok (.iconst 0, 1) := by decide +kernel
theorem dX7_holdClapper_2 : decode cX7_holdClapper 2 = .ok (.putfield 1, 3) := by decide +kernel
theorem dX7_holdClapper_5 : decode cX7_holdClapper 5 = .ok (.aload_n 0, 1) := by decide +kernel
theorem dX7_holdClapper_6 : decode cX7_holdClapper 6 = .ok (.iload_n 1, 1) := by decide +kernel
theorem dX7_holdClapper_7 : decode cX7_holdClapper 7 = .ok (.invokevirtual 149, 3) := by decide +kernel
theorem dX7_holdClapper_10 : decode cX7_holdClapper 10 = .ok (.ifCond .ne 6, 3) := by decide +kernel
theorem dX7_holdClapper_13 : decode cX7_holdClapper 13 = .ok (.bipush (-2), 2) := by decide +kernel
theorem dX7_holdClapper_15 : decode cX7_holdClapper 15 = .ok (.ireturn, 1) := by decide +kernel
theorem dX7_holdClapper_16 : decode cX7_holdClapper 16 = .ok (.aload_n 0, 1) := by decide +kernel
theorem dX7_holdClapper_17 : decode cX7_holdClapper 17 = .ok (.getfield 102, 3) := by decide +kernel
theorem dX7_holdClapper_20 : decode cX7_holdClapper 20 = .ok (.iload_n 1, 1) := by decide +kernel
theorem dX7_holdClapper_21 : decode cX7_holdClapper 21 = .ok (.baload, 1) := by decide +kernel
theorem dX7_holdClapper_22 : decode cX7_holdClapper 22 = .ok (.ifCond .eq 7, 3) := by decide +kernel
theorem dX7_holdClapper_25 : decode cX7_holdClapper 25 = .ok (.iconst 1, 1) := by decide +kernel
theorem dX7_holdClapper_26 : decode cX7_holdClapper 26 = .ok (.goto 4, 3) := by decide +kernel
theorem dX7_holdClapper_29 : decode cX7_holdClapper 29 = .ok (.iconst 0, 1) := by decide +kernel
theorem dX7_holdClapper_30 : decode cX7_holdClapper 30 = .ok (.istore_n 3, 1) := by decide +kernel
theorem dX7_holdClapper_31 : decode cX7_holdClapper 31 = .ok (.aload_n 0, 1) := by decide +kernel
theorem dX7_holdClapper_32 : decode cX7_holdClapper 32 = .ok (.getfield 102, 3) := by decide +kernel
theorem dX7_holdClapper_35 : decode cX7_holdClapper 35 = .ok (.iload_n 1, 1) := by decide +kernel
theorem dX7_holdClapper_36 : decode cX7_holdClapper 36 = .ok (.iload_n 2, 1) := by decide +kernel
theorem dX7_holdClapper_37 : decode cX7_holdClapper 37 = .ok (.bastore, 1) := by decide +kernel
theorem dX7_holdClapper_38 : decode cX7_holdClapper 38 = .ok (.iload_n 3, 1) := by decide +kernel
theorem dX7_holdClapper_39 : decode cX7_holdClapper 39 = .ok (.ireturn, 1) := by decide +kernel
theorem dX7_amplitude_0 : decode cX7_amplitude 0 = .ok (.aload_n 0, 1) := by decide +kernel
theorem dX7_amplitude_1 : decode cX7_amplitude 1 = .ok (.iconst 0, 1) := by decide +kernel
theorem dX7_amplitude_2 : decode cX7_amplitude 2 = .ok (.putfield 1, 3) := by decide +kernel
theorem dX7_amplitude_5 : decode cX7_amplitude 5 = .ok (.aload_n 0, 1) := by decide +kernel
theorem dX7_amplitude_6 : decode cX7_amplitude 6 = .ok (.iload_n 1, 1) := by decide +kernel
theorem dX7_amplitude_7 : decode cX7_amplitude 7 = .ok (.invokevirtual 149, 3) := by decide +kernel
theorem dX7_amplitude_10 : decode cX7_amplitude 10 = .ok (.ifCond .ne 8, 3) := by decide +kernel
theorem dX7_amplitude_13 : decode cX7_amplitude 13 = .ok (.bipush (-2), 2) := by decide +kernel
theorem dX7_amplitude_15 : decode cX7_amplitude 15 = .ok (.goto 22, 3) := by decide +kernel
theorem dX7_amplitude_18 : decode cX7_amplitude 18 = .ok (.aload_n 0, 1) := by decide +kernel
theorem dX7_amplitude_19 : decode cX7_amplitude 19 = .ok (.getfield 99, 3) := by decide +kernel
theorem dX7_amplitude_22 : decode cX7_amplitude 22 = .ok (.iload_n 1, 1) := by decide +kernel
theorem dX7_amplitude_23 : decode cX7_amplitude 23 = .ok (.baload, 1) := by decide +kernel
theorem dX7_amplitude_24 : decode cX7_amplitude 24 = .ok (.ifCond .eq 12, 3) := by decide +kernel
theorem dX7_amplitude_27 : decode cX7_amplitude 27 = .ok (.aload_n 0, 1) := by decide +kernel
theorem dX7_amplitude_28 : decode cX7_amplitude 28 = .ok (.getfield 108, 3) := by decide +kernel
theorem dX7_amplitude_31 : decode cX7_amplitude 31 = .ok (.iload_n 1, 1) := by decide +kernel
theorem dX7_amplitude_32 : decode cX7_amplitude 32 = .ok (.iaload, 1) := by decide +kernel
theorem dX7_amplitude_33 : decode cX7_amplitude 33 = .ok (.goto 4, 3) := by decide +kernel
theorem dX7_amplitude_36 : decode cX7_amplitude 36 = .ok (.iconst (-1), 1) := by decide +kernel
theorem dX7_amplitude_37 : decode cX7_amplitude 37 = .ok (.ireturn, 1) := by decide +kernel
theorem dX7_nextTurn_0 : decode cX7_nextTurn 0 = .ok (.aload_n 0, 1) := by decide +kernel
theorem dX7_nextTurn_1 : decode cX7_nextTurn 1 = .ok (.iconst 0, 1) := by decide +kernel
theorem dX7_nextTurn_2 : decode cX7_nextTurn 2 = .ok (.putfield 1, 3) := by decide +kernel
theorem dX7_nextTurn_5 : decode cX7_nextTurn 5 = .ok (.aload_n 0, 1) := by decide +kernel
theorem dX7_nextTurn_6 : decode cX7_nextTurn 6 = .ok (.iload_n 1, 1) := by decide +kernel
theorem dX7_nextTurn_7 : decode cX7_nextTurn 7 = .ok (.invokevirtual 149, 3) := by decide +kernel
theorem dX7_nextTurn_10 : decode cX7_nextTurn 10 = .ok (.ifCond .ne 8, 3) := by decide +kernel
theorem dX7_nextTurn_13 : decode cX7_nextTurn 13 = .ok (.bipush (-2), 2) := by decide +kernel
theorem dX7_nextTurn_15 : decode cX7_nextTurn 15 = .ok (.goto 22, 3) := by decide +kernel
theorem dX7_nextTurn_18 : decode cX7_nextTurn 18 = .ok (.aload_n 0, 1) := by decide +kernel
theorem dX7_nextTurn_19 : decode cX7_nextTurn 19 = .ok (.getfield 99, 3) := by decide +kernel
theorem dX7_nextTurn_22 : decode cX7_nextTurn 22 = .ok (.iload_n 1, 1) := by decide +kernel
theorem dX7_nextTurn_23 : decode cX7_nextTurn 23 = .ok (.baload, 1) := by decide +kernel
theorem dX7_nextTurn_24 : decode cX7_nextTurn 24 = .ok (.ifCond .eq 12, 3) := by decide +kernel
theorem dX7_nextTurn_27 : decode cX7_nextTurn 27 = .ok (.aload_n 0, 1) := by decide +kernel
theorem dX7_nextTurn_28 : decode cX7_nextTurn 28 = .ok (.getfield 117, 3) := by decide +kernel
theorem dX7_nextTurn_31 : decode cX7_nextTurn 31 = .ok (.iload_n 1, 1) := by decide +kernel
theorem dX7_nextTurn_32 : decode cX7_nextTurn 32 = .ok (.iaload, 1) := by decide +kernel
theorem dX7_nextTurn_33 : decode cX7_nextTurn 33 = .ok (.goto 4, 3) := by decide +kernel
theorem dX7_nextTurn_36 : decode cX7_nextTurn 36 = .ok (.iconst (-1), 1) := by decide +kernel
theorem dX7_nextTurn_37 : decode cX7_nextTurn 37 = .ok (.ireturn, 1) := by decide +kernel
theorem dX7_farBehind_0 : decode cX7_farBehind 0 = .ok (.aload_n 0, 1) := by decide +kernel
theorem dX7_farBehind_1 : decode cX7_farBehind 1 = .ok (.getfield 108, 3) := by decide +kernel
theorem dX7_farBehind_4 : decode cX7_farBehind 4 = .ok (.iload_n 1, 1) := by decide +kernel
theorem dX7_farBehind_5 : decode cX7_farBehind 5 = .ok (.iaload, 1) := by decide +kernel
theorem dX7_farBehind_6 : decode cX7_farBehind 6 = .ok (.istore_n 3, 1) := by decide +kernel
theorem dX7_farBehind_7 : decode cX7_farBehind 7 = .ok (.iconst 0, 1) := by decide +kernel
theorem dX7_farBehind_8 : decode cX7_farBehind 8 = .ok (.istore 4, 2) := by decide +kernel
theorem dX7_farBehind_10 : decode cX7_farBehind 10 = .ok (.iload 4, 2) := by decide +kernel
theorem dX7_farBehind_12 : decode cX7_farBehind 12 = .ok (.iload_n 2, 1) := by decide +kernel
theorem dX7_farBehind_13 : decode cX7_farBehind 13 = .ok (.if_icmp .ge 26, 3) := by decide +kernel
theorem dX7_farBehind_16 : decode cX7_farBehind 16 = .ok (.iload_n 3, 1) := by decide +kernel
theorem dX7_farBehind_17 : decode cX7_farBehind 17 = .ok (.aload_n 0, 1) := by decide +kernel
theorem dX7_farBehind_18 : decode cX7_farBehind 18 = .ok (.getfield 105, 3) := by decide +kernel
theorem dX7_farBehind_21 : decode cX7_farBehind 21 = .ok (.iload_n 1, 1) := by decide +kernel
theorem dX7_farBehind_22 : decode cX7_farBehind 22 = .ok (.baload, 1) := by decide +kernel
theorem dX7_farBehind_23 : decode cX7_farBehind 23 = .ok (.aload_n 0, 1) := by decide +kernel
theorem dX7_farBehind_24 : decode cX7_farBehind 24 = .ok (.getfield 114, 3) := by decide +kernel
theorem dX7_farBehind_27 : decode cX7_farBehind 27 = .ok (.iload_n 1, 1) := by decide +kernel
theorem dX7_farBehind_28 : decode cX7_farBehind 28 = .ok (.iaload, 1) := by decide +kernel
theorem dX7_farBehind_29 : decode cX7_farBehind 29 = .ok (.invokestatic 294, 3) := by decide +kernel
theorem dX7_farBehind_32 : decode cX7_farBehind 32 = .ok (.istore_n 3, 1) := by decide +kernel
theorem dX7_farBehind_33 : decode cX7_farBehind 33 = .ok (.iinc 4 1, 3) := by decide +kernel
theorem dX7_farBehind_36 : decode cX7_farBehind 36 = .ok (.goto (-26), 3) := by decide +kernel
theorem dX7_farBehind_39 : decode cX7_farBehind 39 = .ok (.iload_n 3, 1) := by decide +kernel
theorem dX7_farBehind_40 : decode cX7_farBehind 40 = .ok (.ireturn, 1) := by decide +kernel
theorem dX7_amplitudeAfter_0 : decode cX7_amplitudeAfter 0 = .ok (.aload_n 0, 1) := by decide +kernel
theorem dX7_amplitudeAfter_1 : decode cX7_amplitudeAfter 1 = .ok (.iconst 0, 1) := by decide +kernel
theorem dX7_amplitudeAfter_2 : decode cX7_amplitudeAfter 2 = .ok (.putfield 1, 3) := by decide +kernel
theorem dX7_amplitudeAfter_5 : decode cX7_amplitudeAfter 5 = .ok (.aload_n 0, 1) := by decide +kernel
theorem dX7_amplitudeAfter_6 : decode cX7_amplitudeAfter 6 = .ok (.iload_n 1, 1) := by decide +kernel
theorem dX7_amplitudeAfter_7 : decode cX7_amplitudeAfter 7 = .ok (.invokevirtual 149, 3) := by decide +kernel
theorem dX7_amplitudeAfter_10 : decode cX7_amplitudeAfter 10 = .ok (.ifCond .ne 6, 3) := by decide +kernel
theorem dX7_amplitudeAfter_13 : decode cX7_amplitudeAfter 13 = .ok (.bipush (-2), 2) := by decide +kernel
theorem dX7_amplitudeAfter_15 : decode cX7_amplitudeAfter 15 = .ok (.ireturn, 1) := by decide +kernel
theorem dX7_amplitudeAfter_16 : decode cX7_amplitudeAfter 16 = .ok (.iload_n 2, 1) := by decide +kernel
theorem dX7_amplitudeAfter_17 : decode cX7_amplitudeAfter 17 = .ok (.i2l, 1) := by decide +kernel
theorem dX7_amplitudeAfter_18 : decode cX7_amplitudeAfter 18 = .ok (.lconst 0, 1) := by decide +kernel
theorem dX7_amplitudeAfter_19 : decode cX7_amplitudeAfter 19 = .ok (.ldc2_w 258, 3) := by decide +kernel
theorem dX7_amplitudeAfter_22 : decode cX7_amplitudeAfter 22 = .ok (.invokestatic 135, 3) := by decide +kernel
theorem dX7_amplitudeAfter_25 : decode cX7_amplitudeAfter 25 = .ok (.ifCond .ne 6, 3) := by decide +kernel
theorem dX7_amplitudeAfter_28 : decode cX7_amplitudeAfter 28 = .ok (.bipush (-3), 2) := by decide +kernel
theorem dX7_amplitudeAfter_30 : decode cX7_amplitudeAfter 30 = .ok (.ireturn, 1) := by decide +kernel
theorem dX7_amplitudeAfter_31 : decode cX7_amplitudeAfter 31 = .ok (.aload_n 0, 1) := by decide +kernel
theorem dX7_amplitudeAfter_32 : decode cX7_amplitudeAfter 32 = .ok (.getfield 99, 3) := by decide +kernel
theorem dX7_amplitudeAfter_35 : decode cX7_amplitudeAfter 35 = .ok (.iload_n 1, 1) := by decide +kernel
theorem dX7_amplitudeAfter_36 : decode cX7_amplitudeAfter 36 = .ok (.baload, 1) := by decide +kernel
theorem dX7_amplitudeAfter_37 : decode cX7_amplitudeAfter 37 = .ok (.ifCond .eq 12, 3) := by decide +kernel
theorem dX7_amplitudeAfter_40 : decode cX7_amplitudeAfter 40 = .ok (.aload_n 0, 1) := by decide +kernel
theorem dX7_amplitudeAfter_41 : decode cX7_amplitudeAfter 41 = .ok (.iload_n 1, 1) := by decide +kernel
theorem dX7_amplitudeAfter_42 : decode cX7_amplitudeAfter 42 = .ok (.iload_n 2, 1) := by decide +kernel
theorem dX7_amplitudeAfter_43 : decode cX7_amplitudeAfter 43 = .ok (.invokevirtual 330, 3) := by decide +kernel
theorem dX7_amplitudeAfter_46 : decode cX7_amplitudeAfter 46 = .ok (.goto 4, 3) := by decide +kernel
theorem dX7_amplitudeAfter_49 : decode cX7_amplitudeAfter 49 = .ok (.iconst (-1), 1) := by decide +kernel
theorem dX7_amplitudeAfter_50 : decode cX7_amplitudeAfter 50 = .ok (.ireturn, 1) := by decide +kernel
theorem dX7_turnsUntilLoud_0 : decode cX7_turnsUntilLoud 0 = .ok (.aload_n 0, 1) := by decide +kernel
theorem dX7_turnsUntilLoud_1 : decode cX7_turnsUntilLoud 1 = .ok (.iconst 0, 1) := by decide +kernel
theorem dX7_turnsUntilLoud_2 : decode cX7_turnsUntilLoud 2 = .ok (.putfield 1, 3) := by decide +kernel
theorem dX7_turnsUntilLoud_5 : decode cX7_turnsUntilLoud 5 = .ok (.aload_n 0, 1) := by decide +kernel
theorem dX7_turnsUntilLoud_6 : decode cX7_turnsUntilLoud 6 = .ok (.iload_n 1, 1) := by decide +kernel
theorem dX7_turnsUntilLoud_7 : decode cX7_turnsUntilLoud 7 = .ok (.invokevirtual 149, 3) := by decide +kernel
theorem dX7_turnsUntilLoud_10 : decode cX7_turnsUntilLoud 10 = .ok (.ifCond .ne 6, 3) := by decide +kernel
theorem dX7_turnsUntilLoud_13 : decode cX7_turnsUntilLoud 13 = .ok (.bipush (-2), 2) := by decide +kernel
theorem dX7_turnsUntilLoud_15 : decode cX7_turnsUntilLoud 15 = .ok (.ireturn, 1) := by decide +kernel
theorem dX7_turnsUntilLoud_16 : decode cX7_turnsUntilLoud 16 = .ok (.iconst 1, 1) := by decide +kernel
theorem dX7_turnsUntilLoud_17 : decode cX7_turnsUntilLoud 17 = .ok (.istore_n 2, 1) := by decide +kernel
theorem dX7_turnsUntilLoud_18 : decode cX7_turnsUntilLoud 18 = .ok (.iload_n 2, 1) := by decide +kernel
theorem dX7_turnsUntilLoud_19 : decode cX7_turnsUntilLoud 19 = .ok (.sipush 200, 3) := by decide +kernel
theorem dX7_turnsUntilLoud_22 : decode cX7_turnsUntilLoud 22 = .ok (.if_icmp .gt 32, 3) := by decide +kernel
theorem dX7_turnsUntilLoud_25 : decode cX7_turnsUntilLoud 25 = .ok (.aload_n 0, 1) := by decide +kernel
theorem dX7_turnsUntilLoud_26 : decode cX7_turnsUntilLoud 26 = .ok (.getfield 99, 3) := by decide +kernel
theorem dX7_turnsUntilLoud_29 : decode cX7_turnsUntilLoud 29 = .ok (.iload_n 1, 1) := by decide +kernel
theorem dX7_turnsUntilLoud_30 : decode cX7_turnsUntilLoud 30 = .ok (.baload, 1) := by decide +kernel
theorem dX7_turnsUntilLoud_31 : decode cX7_turnsUntilLoud 31 = .ok (.ifCond .eq 23, 3) := by decide +kernel
theorem dX7_turnsUntilLoud_34 : decode cX7_turnsUntilLoud 34 = .ok (.aload_n 0, 1) := by decide +kernel
theorem dX7_turnsUntilLoud_35 : decode cX7_turnsUntilLoud 35 = .ok (.iload_n 1, 1) := by decide +kernel
theorem dX7_turnsUntilLoud_36 : decode cX7_turnsUntilLoud 36 = .ok (.iload_n 2, 1) := by decide +kernel
theorem dX7_turnsUntilLoud_37 : decode cX7_turnsUntilLoud 37 = .ok (.invokevirtual 330, 3) := by decide +kernel
theorem dX7_turnsUntilLoud_40 : decode cX7_turnsUntilLoud 40 = .ok (.sipush 400, 3) := by decide +kernel
theorem dX7_turnsUntilLoud_43 : decode cX7_turnsUntilLoud 43 = .ok (.if_icmp .lt 5, 3) := by decide +kernel
theorem dX7_turnsUntilLoud_46 : decode cX7_turnsUntilLoud 46 = .ok (.iload_n 2, 1) := by decide +kernel
theorem dX7_turnsUntilLoud_47 : decode cX7_turnsUntilLoud 47 = .ok (.ireturn, 1) := by decide +kernel
theorem dX7_turnsUntilLoud_48 : decode cX7_turnsUntilLoud 48 = .ok (.iinc 2 1, 3) := by decide +kernel
theorem dX7_turnsUntilLoud_51 : decode cX7_turnsUntilLoud 51 = .ok (.goto (-33), 3) := by decide +kernel
theorem dX7_turnsUntilLoud_54 : decode cX7_turnsUntilLoud 54 = .ok (.iconst (-1), 1) := by decide +kernel
theorem dX7_turnsUntilLoud_55 : decode cX7_turnsUntilLoud 55 = .ok (.ireturn, 1) := by decide +kernel
theorem dX7_force_0 : decode cX7_force 0 = .ok (.aload_n 0, 1) := by decide +kernel
theorem dX7_force_1 : decode cX7_force 1 = .ok (.iconst 0, 1) := by decide +kernel
theorem dX7_force_2 : decode cX7_force 2 = .ok (.putfield 1, 3) := by decide +kernel
theorem dX7_force_5 : decode cX7_force 5 = .ok (.aload_n 0, 1) := by decide +kernel
theorem dX7_force_6 : decode cX7_force 6 = .ok (.iload_n 1, 1) := by decide +kernel
theorem dX7_force_7 : decode cX7_force 7 = .ok (.invokevirtual 149, 3) := by decide +kernel
theorem dX7_force_10 : decode cX7_force 10 = .ok (.ifCond .ne 6, 3) := by decide +kernel
theorem dX7_force_13 : decode cX7_force 13 = .ok (.bipush (-2), 2) := by decide +kernel
theorem dX7_force_15 : decode cX7_force 15 = .ok (.ireturn, 1) := by decide +kernel
theorem dX7_force_16 : decode cX7_force 16 = .ok (.ldc 196, 2) := by decide +kernel
theorem dX7_force_18 : decode cX7_force 18 = .ok (.aload_n 0, 1) := by decide +kernel
theorem dX7_force_19 : decode cX7_force 19 = .ok (.getfield 99, 3) := by decide +kernel
theorem dX7_force_22 : decode cX7_force 22 = .ok (.iload_n 1, 1) := by decide +kernel
theorem dX7_force_23 : decode cX7_force 23 = .ok (.baload, 1) := by decide +kernel
theorem dX7_force_24 : decode cX7_force 24 = .ok (.ifCond .eq 41, 3) := by decide +kernel
theorem dX7_force_27 : decode cX7_force 27 = .ok (.aload_n 0, 1) := by decide +kernel
theorem dX7_force_28 : decode cX7_force 28 = .ok (.iload_n 1, 1) := by decide +kernel
theorem dX7_force_29 : decode cX7_force 29 = .ok (.aload_n 0, 1) := by decide +kernel
theorem dX7_force_30 : decode cX7_force 30 = .ok (.getfield 111, 3) := by decide +kernel
theorem dX7_force_33 : decode cX7_force 33 = .ok (.iload_n 1, 1) := by decide +kernel
theorem dX7_force_34 : decode cX7_force 34 = .ok (.iaload, 1) := by decide +kernel
theorem dX7_force_35 : decode cX7_force 35 = .ok (.aload_n 0, 1) := by decide +kernel
theorem dX7_force_36 : decode cX7_force 36 = .ok (.getfield 108, 3) := by decide +kernel
theorem dX7_force_39 : decode cX7_force 39 = .ok (.iload_n 1, 1) := by decide +kernel
theorem dX7_force_40 : decode cX7_force 40 = .ok (.iaload, 1) := by decide +kernel
theorem dX7_force_41 : decode cX7_force 41 = .ok (.aload_n 0, 1) := by decide +kernel
theorem dX7_force_42 : decode cX7_force 42 = .ok (.getfield 158, 3) := by decide +kernel
theorem dX7_force_45 : decode cX7_force 45 = .ok (.aload_n 0, 1) := by decide +kernel
theorem dX7_force_46 : decode cX7_force 46 = .ok (.getfield 117, 3) := by decide +kernel
theorem dX7_force_49 : decode cX7_force 49 = .ok (.iload_n 1, 1) := by decide +kernel
theorem dX7_force_50 : decode cX7_force 50 = .ok (.iaload, 1) := by decide +kernel
theorem dX7_force_51 : decode cX7_force 51 = .ok (.isub, 1) := by decide +kernel
theorem dX7_force_52 : decode cX7_force 52 = .ok (.aload_n 0, 1) := by decide +kernel
theorem dX7_force_53 : decode cX7_force 53 = .ok (.getfield 23, 3) := by decide +kernel
theorem dX7_force_56 : decode cX7_force 56 = .ok (.iload_n 1, 1) := by decide +kernel
theorem dX7_force_57 : decode cX7_force 57 = .ok (.iaload, 1) := by decide +kernel
theorem dX7_force_58 : decode cX7_force 58 = .ok (.iadd, 1) := by decide +kernel
theorem dX7_force_59 : decode cX7_force 59 = .ok (.invokevirtual 313, 3) := by decide +kernel
theorem dX7_force_62 : decode cX7_force 62 = .ok (.goto 4, 3) := by decide +kernel
theorem dX7_force_65 : decode cX7_force 65 = .ok (.iconst 0, 1) := by decide +kernel
theorem dX7_force_66 : decode cX7_force 66 = .ok (.iadd, 1) := by decide +kernel
theorem dX7_force_67 : decode cX7_force 67 = .ok (.ireturn, 1) := by decide +kernel
theorem dX7_shake_0 : decode cX7_shake 0 = .ok (.aload_n 0, 1) := by decide +kernel
theorem dX7_shake_1 : decode cX7_shake 1 = .ok (.iconst 0, 1) := by decide +kernel
theorem dX7_shake_2 : decode cX7_shake 2 = .ok (.putfield 1, 3) := by decide +kernel
theorem dX7_shake_5 : decode cX7_shake 5 = .ok (.iload_n 1, 1) := by decide +kernel
theorem dX7_shake_6 : decode cX7_shake 6 = .ok (.i2l, 1) := by decide +kernel
theorem dX7_shake_7 : decode cX7_shake 7 = .ok (.lconst 0, 1) := by decide +kernel
theorem dX7_shake_8 : decode cX7_shake 8 = .ok (.ldc2_w 333, 3) := by decide +kernel
theorem dX7_shake_11 : decode cX7_shake 11 = .ok (.invokestatic 135, 3) := by decide +kernel
theorem dX7_shake_14 : decode cX7_shake 14 = .ok (.ifCond .ne 6, 3) := by decide +kernel
theorem dX7_shake_17 : decode cX7_shake 17 = .ok (.bipush (-3), 2) := by decide +kernel
theorem dX7_shake_19 : decode cX7_shake 19 = .ok (.ireturn, 1) := by decide +kernel
theorem dX7_shake_20 : decode cX7_shake 20 = .ok (.aload_n 0, 1) := by decide +kernel
theorem dX7_shake_21 : decode cX7_shake 21 = .ok (.iload_n 1, 1) := by decide +kernel
theorem dX7_shake_22 : decode cX7_shake 22 = .ok (.invokevirtual 321, 3) := by decide +kernel
theorem dX7_shake_25 : decode cX7_shake 25 = .ok (.ldc 196, 2) := by decide +kernel
theorem dX7_shake_27 : decode cX7_shake 27 = .ok (.aload_n 0, 1) := by decide +kernel
theorem dX7_shake_28 : decode cX7_shake 28 = .ok (.getfield 120, 3) := by decide +kernel
theorem dX7_shake_31 : decode cX7_shake 31 = .ok (.iload_n 1, 1) := by decide +kernel
theorem dX7_shake_32 : decode cX7_shake 32 = .ok (.iaload, 1) := by decide +kernel
theorem dX7_shake_33 : decode cX7_shake 33 = .ok (.iadd, 1) := by decide +kernel
theorem dX7_shake_34 : decode cX7_shake 34 = .ok (.ireturn, 1) := by decide +kernel
theorem dX7_greatestShake_0 : decode cX7_greatestShake 0 = .ok (.aload_n 0, 1) := by decide +kernel
theorem dX7_greatestShake_1 : decode cX7_greatestShake 1 = .ok (.iconst 0, 1) := by decide +kernel
theorem dX7_greatestShake_2 : decode cX7_greatestShake 2 = .ok (.putfield 1, 3) := by decide +kernel
theorem dX7_greatestShake_5 : decode cX7_greatestShake 5 = .ok (.iload_n 1, 1) := by decide +kernel
theorem dX7_greatestShake_6 : decode cX7_greatestShake 6 = .ok (.i2l, 1) := by decide +kernel
theorem dX7_greatestShake_7 : decode cX7_greatestShake 7 = .ok (.lconst 0, 1) := by decide +kernel
theorem dX7_greatestShake_8 : decode cX7_greatestShake 8 = .ok (.ldc2_w 333, 3) := by decide +kernel
theorem dX7_greatestShake_11 : decode cX7_greatestShake 11 = .ok (.invokestatic 135, 3) := by decide +kernel
theorem dX7_greatestShake_14 : decode cX7_greatestShake 14 = .ok (.ifCond .ne 6, 3) := by decide +kernel
theorem dX7_greatestShake_17 : decode cX7_greatestShake 17 = .ok (.bipush (-3), 2) := by decide +kernel
theorem dX7_greatestShake_19 : decode cX7_greatestShake 19 = .ok (.ireturn, 1) := by decide +kernel
theorem dX7_greatestShake_20 : decode cX7_greatestShake 20 = .ok (.aload_n 0, 1) := by decide +kernel
theorem dX7_greatestShake_21 : decode cX7_greatestShake 21 = .ok (.iload_n 1, 1) := by decide +kernel
theorem dX7_greatestShake_22 : decode cX7_greatestShake 22 = .ok (.invokevirtual 321, 3) := by decide +kernel
theorem dX7_greatestShake_25 : decode cX7_greatestShake 25 = .ok (.iconst 0, 1) := by decide +kernel
theorem dX7_greatestShake_26 : decode cX7_greatestShake 26 = .ok (.istore_n 2, 1) := by decide +kernel
theorem dX7_greatestShake_27 : decode cX7_greatestShake 27 = .ok (.iconst 0, 1) := by decide +kernel
theorem dX7_greatestShake_28 : decode cX7_greatestShake 28 = .ok (.istore_n 3, 1) := by decide +kernel
theorem dX7_greatestShake_29 : decode cX7_greatestShake 29 = .ok (.iload_n 3, 1) := by decide +kernel
theorem dX7_greatestShake_30 : decode cX7_greatestShake 30 = .ok (.iload_n 1, 1) := by decide +kernel
theorem dX7_greatestShake_31 : decode cX7_greatestShake 31 = .ok (.if_icmp .gt 36, 3) := by decide +kernel
theorem dX7_greatestShake_34 : decode cX7_greatestShake 34 = .ok (.aload_n 0, 1) := by decide +kernel
theorem dX7_greatestShake_35 : decode cX7_greatestShake 35 = .ok (.getfield 120, 3) := by decide +kernel
theorem dX7_greatestShake_38 : decode cX7_greatestShake 38 = .ok (.iload_n 3, 1) := by decide +kernel
theorem dX7_greatestShake_39 : decode cX7_greatestShake 39 = .ok (.iaload, 1) := by decide +kernel
theorem dX7_greatestShake_40 : decode cX7_greatestShake 40 = .ok (.invokestatic 316, 3) := by decide +kernel
theorem dX7_greatestShake_43 : decode cX7_greatestShake 43 = .ok (.iload_n 2, 1) := by decide +kernel
theorem dX7_greatestShake_44 : decode cX7_greatestShake 44 = .ok (.if_icmp .le 15, 3) := by decide +kernel
theorem dX7_greatestShake_47 : decode cX7_greatestShake 47 = .ok (.aload_n 0, 1) := by decide +kernel
theorem dX7_greatestShake_48 : decode cX7_greatestShake 48 = .ok (.getfield 120, 3) := by decide +kernel
theorem dX7_greatestShake_51 : decode cX7_greatestShake 51 = .ok (.iload_n 3, 1) := by decide +kernel
theorem dX7_greatestShake_52 : decode cX7_greatestShake 52 = .ok (.iaload, 1) := by decide +kernel
theorem dX7_greatestShake_53 : decode cX7_greatestShake 53 = .ok (.invokestatic 316, 3) := by decide +kernel
theorem dX7_greatestShake_56 : decode cX7_greatestShake 56 = .ok (.goto 4, 3) := by decide +kernel
theorem dX7_greatestShake_59 : decode cX7_greatestShake 59 = .ok (.iload_n 2, 1) := by decide +kernel
theorem dX7_greatestShake_60 : decode cX7_greatestShake 60 = .ok (.istore_n 2, 1) := by decide +kernel
theorem dX7_greatestShake_61 : decode cX7_greatestShake 61 = .ok (.iinc 3 1, 3) := by decide +kernel
theorem dX7_greatestShake_64 : decode cX7_greatestShake 64 = .ok (.goto (-35), 3) := by decide +kernel
theorem dX7_greatestShake_67 : decode cX7_greatestShake 67 = .ok (.iload_n 2, 1) := by decide +kernel
theorem dX7_greatestShake_68 : decode cX7_greatestShake 68 = .ok (.ireturn, 1) := by decide +kernel
theorem dX7_setShakeLimit_0 : decode cX7_setShakeLimit 0 = .ok (.aload_n 0, 1) := by decide +kernel
theorem dX7_setShakeLimit_1 : decode cX7_setShakeLimit 1 = .ok (.iconst 0, 1) := by decide +kernel
theorem dX7_setShakeLimit_2 : decode cX7_setShakeLimit 2 = .ok (.putfield 1, 3) := by decide +kernel
theorem dX7_setShakeLimit_5 : decode cX7_setShakeLimit 5 = .ok (.iload_n 1, 1) := by decide +kernel
theorem dX7_setShakeLimit_6 : decode cX7_setShakeLimit 6 = .ok (.i2l, 1) := by decide +kernel
theorem dX7_setShakeLimit_7 : decode cX7_setShakeLimit 7 = .ok (.lconst 0, 1) := by decide +kernel
theorem dX7_setShakeLimit_8 : decode cX7_setShakeLimit 8 = .ok (.ldc2_w 169, 3) := by decide +kernel
theorem dX7_setShakeLimit_11 : decode cX7_setShakeLimit 11 = .ok (.invokestatic 135, 3) := by decide +kernel
theorem dX7_setShakeLimit_14 : decode cX7_setShakeLimit 14 = .ok (.ifCond .ne 6, 3) := by decide +kernel
theorem dX7_setShakeLimit_17 : decode cX7_setShakeLimit 17 = .ok (.bipush (-3), 2) := by decide +kernel
theorem dX7_setShakeLimit_19 : decode cX7_setShakeLimit 19 = .ok (.ireturn, 1) := by decide +kernel
theorem dX7_setShakeLimit_20 : decode cX7_setShakeLimit 20 = .ok (.aload_n 0, 1) := by decide +kernel
theorem dX7_setShakeLimit_21 : decode cX7_setShakeLimit 21 = .ok (.getfield 129, 3) := by decide +kernel
theorem dX7_setShakeLimit_24 : decode cX7_setShakeLimit 24 = .ok (.istore_n 2, 1) := by decide +kernel
theorem dX7_setShakeLimit_25 : decode cX7_setShakeLimit 25 = .ok (.aload_n 0, 1) := by decide +kernel
theorem dX7_setShakeLimit_26 : decode cX7_setShakeLimit 26 = .ok (.iload_n 1, 1) := by decide +kernel
theorem dX7_setShakeLimit_27 : decode cX7_setShakeLimit 27 = .ok (.putfield 129, 3) := by decide +kernel
theorem dX7_setShakeLimit_30 : decode cX7_setShakeLimit 30 = .ok (.iload_n 2, 1) := by decide +kernel
theorem dX7_setShakeLimit_31 : decode cX7_setShakeLimit 31 = .ok (.ireturn, 1) := by decide +kernel
theorem dX7_calmestWait_0 : decode cX7_calmestWait 0 = .ok (.aload_n 0, 1) := by decide +kernel
theorem dX7_calmestWait_1 : decode cX7_calmestWait 1 = .ok (.iconst 0, 1) := by decide +kernel
theorem dX7_calmestWait_2 : decode cX7_calmestWait 2 = .ok (.putfield 1, 3) := by decide +kernel
theorem dX7_calmestWait_5 : decode cX7_calmestWait 5 = .ok (.aload_n 0, 1) := by decide +kernel
theorem dX7_calmestWait_6 : decode cX7_calmestWait 6 = .ok (.iload_n 1, 1) := by decide +kernel
theorem dX7_calmestWait_7 : decode cX7_calmestWait 7 = .ok (.invokevirtual 149, 3) := by decide +kernel
theorem dX7_calmestWait_10 : decode cX7_calmestWait 10 = .ok (.ifCond .ne 6, 3) := by decide +kernel
theorem dX7_calmestWait_13 : decode cX7_calmestWait 13 = .ok (.bipush (-2), 2) := by decide +kernel
theorem dX7_calmestWait_15 : decode cX7_calmestWait 15 = .ok (.ireturn, 1) := by decide +kernel
theorem dX7_calmestWait_16 : decode cX7_calmestWait 16 = .ok (.iload_n 2, 1) := by decide +kernel
theorem dX7_calmestWait_17 : decode cX7_calmestWait 17 = .ok (.i2l, 1) := by decide +kernel
theorem dX7_calmestWait_18 : decode cX7_calmestWait 18 = .ok (.lconst 1, 1) := by decide +kernel
theorem dX7_calmestWait_19 : decode cX7_calmestWait 19 = .ok (.ldc2_w 319, 3) := by decide +kernel
theorem dX7_calmestWait_22 : decode cX7_calmestWait 22 = .ok (.invokestatic 135, 3) := by decide +kernel
theorem dX7_calmestWait_25 : decode cX7_calmestWait 25 = .ok (.ifCond .ne 6, 3) := by decide +kernel
theorem dX7_calmestWait_28 : decode cX7_calmestWait 28 = .ok (.bipush (-3), 2) := by decide +kernel
theorem dX7_calmestWait_30 : decode cX7_calmestWait 30 = .ok (.ireturn, 1) := by decide +kernel
theorem dX7_calmestWait_31 : decode cX7_calmestWait 31 = .ok (.aload_n 0, 1) := by decide +kernel
theorem dX7_calmestWait_32 : decode cX7_calmestWait 32 = .ok (.getfield 99, 3) := by decide +kernel
theorem dX7_calmestWait_35 : decode cX7_calmestWait 35 = .ok (.iload_n 1, 1) := by decide +kernel
theorem dX7_calmestWait_36 : decode cX7_calmestWait 36 = .ok (.baload, 1) := by decide +kernel
theorem dX7_calmestWait_37 : decode cX7_calmestWait 37 = .ok (.ifCond .eq 6, 3) := by decide +kernel
theorem dX7_calmestWait_40 : decode cX7_calmestWait 40 = .ok (.bipush (-6), 2) := by decide +kernel
theorem dX7_calmestWait_42 : decode cX7_calmestWait 42 = .ok (.ireturn, 1) := by decide +kernel
theorem dX7_calmestWait_43 : decode cX7_calmestWait 43 = .ok (.aload_n 0, 1) := by decide +kernel
theorem dX7_calmestWait_44 : decode cX7_calmestWait 44 = .ok (.sipush 600, 3) := by decide +kernel
theorem dX7_calmestWait_47 : decode cX7_calmestWait 47 = .ok (.iconst 2, 1) := by decide +kernel
theorem dX7_calmestWait_48 : decode cX7_calmestWait 48 = .ok (.aload_n 0, 1) := by decide +kernel
theorem dX7_calmestWait_49 : decode cX7_calmestWait 49 = .ok (.getfield 23, 3) := by decide +kernel
theorem dX7_calmestWait_52 : decode cX7_calmestWait 52 = .ok (.iload_n 1, 1) := by decide +kernel
theorem dX7_calmestWait_53 : decode cX7_calmestWait 53 = .ok (.iaload, 1) := by decide +kernel
theorem dX7_calmestWait_54 : decode cX7_calmestWait 54 = .ok (.imul, 1) := by decide +kernel
theorem dX7_calmestWait_55 : decode cX7_calmestWait 55 = .ok (.iadd, 1) := by decide +kernel
theorem dX7_calmestWait_56 : decode cX7_calmestWait 56 = .ok (.iconst 1, 1) := by decide +kernel
theorem dX7_calmestWait_57 : decode cX7_calmestWait 57 = .ok (.isub, 1) := by decide +kernel
theorem dX7_calmestWait_58 : decode cX7_calmestWait 58 = .ok (.invokevirtual 321, 3) := by decide +kernel
theorem dX7_calmestWait_61 : decode cX7_calmestWait 61 = .ok (.aload_n 0, 1) := by decide +kernel
theorem dX7_calmestWait_62 : decode cX7_calmestWait 62 = .ok (.iload_n 1, 1) := by decide +kernel
theorem dX7_calmestWait_63 : decode cX7_calmestWait 63 = .ok (.iload_n 2, 1) := by decide +kernel
theorem dX7_calmestWait_64 : decode cX7_calmestWait 64 = .ok (.invokevirtual 324, 3) := by decide +kernel
theorem dX7_calmestWait_67 : decode cX7_calmestWait 67 = .ok (.iconst 0, 1) := by decide +kernel
theorem dX7_calmestWait_68 : decode cX7_calmestWait 68 = .ok (.istore_n 3, 1) := by decide +kernel
theorem dX7_calmestWait_69 : decode cX7_calmestWait 69 = .ok (.iconst 0, 1) := by decide +kernel
theorem dX7_calmestWait_70 : decode cX7_calmestWait 70 = .ok (.istore 4, 2) := by decide +kernel
theorem dX7_calmestWait_72 : decode cX7_calmestWait 72 = .ok (.iconst 0, 1) := by decide +kernel
theorem dX7_calmestWait_73 : decode cX7_calmestWait 73 = .ok (.istore 5, 2) := by decide +kernel
theorem dX7_calmestWait_75 : decode cX7_calmestWait 75 = .ok (.iload 5, 2) := by decide +kernel
theorem dX7_calmestWait_77 : decode cX7_calmestWait 77 = .ok (.iconst 2, 1) := by decide +kernel
theorem dX7_calmestWait_78 : decode cX7_calmestWait 78 = .ok (.aload_n 0, 1) := by decide +kernel
theorem dX7_calmestWait_79 : decode cX7_calmestWait 79 = .ok (.getfield 23, 3) := by decide +kernel
theorem dX7_calmestWait_82 : decode cX7_calmestWait 82 = .ok (.iload_n 1, 1) := by decide +kernel
theorem dX7_calmestWait_83 : decode cX7_calmestWait 83 = .ok (.iaload, 1) := by decide +kernel
theorem dX7_calmestWait_84 : decode cX7_calmestWait 84 = .ok (.imul, 1) := by decide +kernel
theorem dX7_calmestWait_85 : decode cX7_calmestWait 85 = .ok (.if_icmp .ge 39, 3) := by decide +kernel
theorem dX7_calmestWait_88 : decode cX7_calmestWait 88 = .ok (.aload_n 0, 1) := by decide +kernel
theorem dX7_calmestWait_89 : decode cX7_calmestWait 89 = .ok (.iload 5, 2) := by decide +kernel
theorem dX7_calmestWait_91 : decode cX7_calmestWait 91 = .ok (.invokevirtual 327, 3) := by decide +kernel
theorem dX7_calmestWait_94 : decode cX7_calmestWait 94 = .ok (.istore 6, 2) := by decide +kernel
theorem dX7_calmestWait_96 : decode cX7_calmestWait 96 = .ok (.iload 5, 2) := by decide +kernel
theorem dX7_calmestWait_98 : decode cX7_calmestWait 98 = .ok (.ifCond .le 13, 3) := by decide +kernel
theorem dX7_calmestWait_101 : decode cX7_calmestWait 101 = .ok (.iload 6, 2) := by decide +kernel
theorem dX7_calmestWait_103 : decode cX7_calmestWait 103 = .ok (.iload 4, 2) := by decide +kernel
theorem dX7_calmestWait_105 : decode cX7_calmestWait 105 = .ok (.if_icmp .lt 6, 3) := by decide +kernel
theorem dX7_calmestWait_108 : decode cX7_calmestWait 108 = .ok (.goto 10, 3) := by decide +kernel
theorem dX7_calmestWait_111 : decode cX7_calmestWait 111 = .ok (.iload 5, 2) := by decide +kernel
theorem dX7_calmestWait_113 : decode cX7_calmestWait 113 = .ok (.istore_n 3, 1) := by decide +kernel
theorem dX7_calmestWait_114 : decode cX7_calmestWait 114 = .ok (.iload 6, 2) := by decide +kernel
theorem dX7_calmestWait_116 : decode cX7_calmestWait 116 = .ok (.istore 4, 2) := by decide +kernel
theorem dX7_calmestWait_118 : decode cX7_calmestWait 118 = .ok (.iinc 5 1, 3) := by decide +kernel
theorem dX7_calmestWait_121 : decode cX7_calmestWait 121 = .ok (.goto (-46), 3) := by decide +kernel
theorem dX7_calmestWait_124 : decode cX7_calmestWait 124 = .ok (.iload_n 3, 1) := by decide +kernel
theorem dX7_calmestWait_125 : decode cX7_calmestWait 125 = .ok (.ireturn, 1) := by decide +kernel
