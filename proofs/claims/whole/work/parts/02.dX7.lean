theorem dX7_init_0 : decode cX7_init 0 = .ok (.aload_n 0, 1) := by decide +kernel
theorem dX7_init_1 : decode cX7_init 1 = .ok (.invokespecial 1, 3) := by decide +kernel
theorem dX7_init_4 : decode cX7_init 4 = .ok (.aload_n 0, 1) := by decide +kernel
theorem dX7_init_5 : decode cX7_init 5 = .ok (.bipush 10, 2) := by decide +kernel
theorem dX7_init_7 : decode cX7_init 7 = .ok (.newarray .int, 2) := by decide +kernel
theorem dX7_init_9 : decode cX7_init 9 = .ok (.putfield 7, 3) := by decide +kernel
theorem dX7_init_12 : decode cX7_init 12 = .ok (.aload_n 0, 1) := by decide +kernel
theorem dX7_init_13 : decode cX7_init 13 = .ok (.bipush 10, 2) := by decide +kernel
theorem dX7_init_15 : decode cX7_init 15 = .ok (.newarray .long, 2) := by decide +kernel
theorem dX7_init_17 : decode cX7_init 17 = .ok (.putfield 13, 3) := by decide +kernel
theorem dX7_init_20 : decode cX7_init 20 = .ok (.aload_n 0, 1) := by decide +kernel
theorem dX7_init_21 : decode cX7_init 21 = .ok (.bipush 10, 2) := by decide +kernel
theorem dX7_init_23 : decode cX7_init 23 = .ok (.newarray .long, 2) := by decide +kernel
theorem dX7_init_25 : decode cX7_init 25 = .ok (.putfield 17, 3) := by decide +kernel
theorem dX7_init_28 : decode cX7_init 28 = .ok (.aload_n 0, 1) := by decide +kernel
theorem dX7_init_29 : decode cX7_init 29 = .ok (.bipush 10, 2) := by decide +kernel
theorem dX7_init_31 : decode cX7_init 31 = .ok (.newarray .long, 2) := by decide +kernel
theorem dX7_init_33 : decode cX7_init 33 = .ok (.putfield 20, 3) := by decide +kernel
theorem dX7_init_36 : decode cX7_init 36 = .ok (.aload_n 0, 1) := by decide +kernel
theorem dX7_init_37 : decode cX7_init 37 = .ok (.bipush 10, 2) := by decide +kernel
theorem dX7_init_39 : decode cX7_init 39 = .ok (.newarray .long, 2) := by decide +kernel
theorem dX7_init_41 : decode cX7_init 41 = .ok (.putfield 23, 3) := by decide +kernel
theorem dX7_init_44 : decode cX7_init 44 = .ok (.aload_n 0, 1) := by decide +kernel
theorem dX7_init_45 : decode cX7_init 45 = .ok (.bipush 10, 2) := by decide +kernel
theorem dX7_init_47 : decode cX7_init 47 = .ok (.newarray .long, 2) := by decide +kernel
theorem dX7_init_49 : decode cX7_init 49 = .ok (.putfield 26, 3) := by decide +kernel
theorem dX7_init_52 : decode cX7_init 52 = .ok (.aload_n 0, 1) := by decide +kernel
theorem dX7_init_53 : decode cX7_init 53 = .ok (.bipush 10, 2) := by decide +kernel
theorem dX7_init_55 : decode cX7_init 55 = .ok (.newarray .long, 2) := by decide +kernel
theorem dX7_init_57 : decode cX7_init 57 = .ok (.putfield 29, 3) := by decide +kernel
theorem dX7_init_60 : decode cX7_init 60 = .ok (.aload_n 0, 1) := by decide +kernel
theorem dX7_init_61 : decode cX7_init 61 = .ok (.bipush 10, 2) := by decide +kernel
theorem dX7_init_63 : decode cX7_init 63 = .ok (.newarray .long, 2) := by decide +kernel
theorem dX7_init_65 : decode cX7_init 65 = .ok (.putfield 32, 3) := by decide +kernel
theorem dX7_init_68 : decode cX7_init 68 = .ok (.aload_n 0, 1) := by decide +kernel
theorem dX7_init_69 : decode cX7_init 69 = .ok (.bipush 10, 2) := by decide +kernel
theorem dX7_init_71 : decode cX7_init 71 = .ok (.newarray .long, 2) := by decide +kernel
theorem dX7_init_73 : decode cX7_init 73 = .ok (.putfield 35, 3) := by decide +kernel
theorem dX7_init_76 : decode cX7_init 76 = .ok (.aload_n 0, 1) := by decide +kernel
theorem dX7_init_77 : decode cX7_init 77 = .ok (.bipush 10, 2) := by decide +kernel
theorem dX7_init_79 : decode cX7_init 79 = .ok (.newarray .long, 2) := by decide +kernel
theorem dX7_init_81 : decode cX7_init 81 = .ok (.putfield 38, 3) := by decide +kernel
theorem dX7_init_84 : decode cX7_init 84 = .ok (.aload_n 0, 1) := by decide +kernel
theorem dX7_init_85 : decode cX7_init 85 = .ok (.bipush 10, 2) := by decide +kernel
theorem dX7_init_87 : decode cX7_init 87 = .ok (.newarray .long, 2) := by decide +kernel
theorem dX7_init_89 : decode cX7_init 89 = .ok (.putfield 41, 3) := by decide +kernel
theorem dX7_init_92 : decode cX7_init 92 = .ok (.aload_n 0, 1) := by decide +kernel
theorem dX7_init_93 : decode cX7_init 93 = .ok (.bipush 10, 2) := by decide +kernel
theorem dX7_init_95 : decode cX7_init 95 = .ok (.newarray .boolean, 2) := by decide +kernel
theorem dX7_init_97 : decode cX7_init 97 = .ok (.putfield 44, 3) := by decide +kernel
theorem dX7_init_100 : decode cX7_init 100 = .ok (.aload_n 0, 1) := by decide +kernel
theorem dX7_init_101 : decode cX7_init 101 = .ok (.bipush 10, 2) := by decide +kernel
theorem dX7_init_103 : decode cX7_init 103 = .ok (.newarray .long, 2) := by decide +kernel
theorem dX7_init_105 : decode cX7_init 105 = .ok (.putfield 48, 3) := by decide +kernel
theorem dX7_init_108 : decode cX7_init 108 = .ok (.aload_n 0, 1) := by decide +kernel
theorem dX7_init_109 : decode cX7_init 109 = .ok (.bipush 10, 2) := by decide +kernel
theorem dX7_init_111 : decode cX7_init 111 = .ok (.newarray .long, 2) := by decide +kernel
theorem dX7_init_113 : decode cX7_init 113 = .ok (.putfield 51, 3) := by decide +kernel
theorem dX7_init_116 : decode cX7_init 116 = .ok (.aload_n 0, 1) := by decide +kernel
theorem dX7_init_117 : decode cX7_init 117 = .ok (.bipush 10, 2) := by decide +kernel
theorem dX7_init_119 : decode cX7_init 119 = .ok (.newarray .int, 2) := by decide +kernel
theorem dX7_init_121 : decode cX7_init 121 = .ok (.putfield 54, 3) := by decide +kernel
theorem dX7_init_124 : decode cX7_init 124 = .ok (.aload_n 0, 1) := by decide +kernel
theorem dX7_init_125 : decode cX7_init 125 = .ok (.bipush 10, 2) := by decide +kernel
theorem dX7_init_127 : decode cX7_init 127 = .ok (.newarray .int, 2) := by decide +kernel
theorem dX7_init_129 : decode cX7_init 129 = .ok (.putfield 57, 3) := by decide +kernel
theorem dX7_init_132 : decode cX7_init 132 = .ok (.aload_n 0, 1) := by decide +kernel
theorem dX7_init_133 : decode cX7_init 133 = .ok (.bipush 100, 2) := by decide +kernel
theorem dX7_init_135 : decode cX7_init 135 = .ok (.newarray .boolean, 2) := by decide +kernel
theorem dX7_init_137 : decode cX7_init 137 = .ok (.putfield 60, 3) := by decide +kernel
theorem dX7_init_140 : decode cX7_init 140 = .ok (.aload_n 0, 1) := by decide +kernel
theorem dX7_init_141 : decode cX7_init 141 = .ok (.bipush 100, 2) := by decide +kernel
theorem dX7_init_143 : decode cX7_init 143 = .ok (.newarray .long, 2) := by decide +kernel
theorem dX7_init_145 : decode cX7_init 145 = .ok (.putfield 63, 3) := by decide +kernel
theorem dX7_init_148 : decode cX7_init 148 = .ok (.aload_n 0, 1) := by decide +kernel
theorem dX7_init_149 : decode cX7_init 149 = .ok (.bipush 100, 2) := by decide +kernel
theorem dX7_init_151 : decode cX7_init 151 = .ok (.newarray .long, 2) := by decide +kernel
theorem dX7_init_153 : decode cX7_init 153 = .ok (.putfield 66, 3) := by decide +kernel
theorem dX7_init_156 : decode cX7_init 156 = .ok (.aload_n 0, 1) := by decide +kernel
theorem dX7_init_157 : decode cX7_init 157 = .ok (.bipush 100, 2) := by decide +kernel
theorem dX7_init_159 : decode cX7_init 159 = .ok (.newarray .long, 2) := by decide +kernel
theorem dX7_init_161 : decode cX7_init 161 = .ok (.putfield 69, 3) := by decide +kernel
theorem dX7_init_164 : decode cX7_init 164 = .ok (.aload_n 0, 1) := by decide +kernel
theorem dX7_init_165 : decode cX7_init 165 = .ok (.sipush 200, 3) := by decide +kernel
theorem dX7_init_168 : decode cX7_init 168 = .ok (.newarray .int, 2) := by decide +kernel
theorem dX7_init_170 : decode cX7_init 170 = .ok (.putfield 72, 3) := by decide +kernel
theorem dX7_init_173 : decode cX7_init 173 = .ok (.aload_n 0, 1) := by decide +kernel
theorem dX7_init_174 : decode cX7_init 174 = .ok (.sipush 200, 3) := by decide +kernel
theorem dX7_init_177 : decode cX7_init 177 = .ok (.newarray .int, 2) := by decide +kernel
theorem dX7_init_179 : decode cX7_init 179 = .ok (.putfield 75, 3) := by decide +kernel
theorem dX7_init_182 : decode cX7_init 182 = .ok (.aload_n 0, 1) := by decide +kernel
theorem dX7_init_183 : decode cX7_init 183 = .ok (.sipush 200, 3) := by decide +kernel
theorem dX7_init_186 : decode cX7_init 186 = .ok (.newarray .int, 2) := by decide +kernel
theorem dX7_init_188 : decode cX7_init 188 = .ok (.putfield 78, 3) := by decide +kernel
theorem dX7_init_191 : decode cX7_init 191 = .ok (.aload_n 0, 1) := by decide +kernel
theorem dX7_init_192 : decode cX7_init 192 = .ok (.sipush 200, 3) := by decide +kernel
theorem dX7_init_195 : decode cX7_init 195 = .ok (.newarray .long, 2) := by decide +kernel
theorem dX7_init_197 : decode cX7_init 197 = .ok (.putfield 81, 3) := by decide +kernel
theorem dX7_init_200 : decode cX7_init 200 = .ok (.aload_n 0, 1) := by decide +kernel
theorem dX7_init_201 : decode cX7_init 201 = .ok (.sipush 200, 3) := by decide +kernel
theorem dX7_init_204 : decode cX7_init 204 = .ok (.newarray .boolean, 2) := by decide +kernel
theorem dX7_init_206 : decode cX7_init 206 = .ok (.putfield 84, 3) := by decide +kernel
theorem dX7_init_209 : decode cX7_init 209 = .ok (.aload_n 0, 1) := by decide +kernel
theorem dX7_init_210 : decode cX7_init 210 = .ok (.sipush 200, 3) := by decide +kernel
theorem dX7_init_213 : decode cX7_init 213 = .ok (.newarray .long, 2) := by decide +kernel
theorem dX7_init_215 : decode cX7_init 215 = .ok (.putfield 87, 3) := by decide +kernel
theorem dX7_init_218 : decode cX7_init 218 = .ok (.aload_n 0, 1) := by decide +kernel
theorem dX7_init_219 : decode cX7_init 219 = .ok (.sipush 200, 3) := by decide +kernel
theorem dX7_init_222 : decode cX7_init 222 = .ok (.newarray .long, 2) := by decide +kernel
theorem dX7_init_224 : decode cX7_init 224 = .ok (.putfield 90, 3) := by decide +kernel
theorem dX7_init_227 : decode cX7_init 227 = .ok (.aload_n 0, 1) := by decide +kernel
theorem dX7_init_228 : decode cX7_init 228 = .ok (.bipush 100, 2) := by decide +kernel
theorem dX7_init_230 : decode cX7_init 230 = .ok (.newarray .long, 2) := by decide +kernel
theorem dX7_init_232 : decode cX7_init 232 = .ok (.putfield 93, 3) := by decide +kernel
theorem dX7_init_235 : decode cX7_init 235 = .ok (.aload_n 0, 1) := by decide +kernel
theorem dX7_init_236 : decode cX7_init 236 = .ok (.bipush 100, 2) := by decide +kernel
theorem dX7_init_238 : decode cX7_init 238 = .ok (.newarray .long, 2) := by decide +kernel
theorem dX7_init_240 : decode cX7_init 240 = .ok (.putfield 96, 3) := by decide +kernel
theorem dX7_init_243 : decode cX7_init 243 = .ok (.aload_n 0, 1) := by decide +kernel
theorem dX7_init_244 : decode cX7_init 244 = .ok (.bipush 100, 2) := by decide +kernel
theorem dX7_init_246 : decode cX7_init 246 = .ok (.newarray .int, 2) := by decide +kernel
theorem dX7_init_248 : decode cX7_init 248 = .ok (.putfield 99, 3) := by decide +kernel
theorem dX7_init_251 : decode cX7_init 251 = .ok (.aload_n 0, 1) := by decide +kernel
theorem dX7_init_252 : decode cX7_init 252 = .ok (.bipush 100, 2) := by decide +kernel
theorem dX7_init_254 : decode cX7_init 254 = .ok (.newarray .boolean, 2) := by decide +kernel
theorem dX7_init_256 : decode cX7_init 256 = .ok (.putfield 102, 3) := by decide +kernel
theorem dX7_init_259 : decode cX7_init 259 = .ok (.aload_n 0, 1) := by decide +kernel
theorem dX7_init_260 : decode cX7_init 260 = .ok (.bipush 30, 2) := by decide +kernel
theorem dX7_init_262 : decode cX7_init 262 = .ok (.newarray .long, 2) := by decide +kernel
theorem dX7_init_264 : decode cX7_init 264 = .ok (.putfield 105, 3) := by decide +kernel
theorem dX7_init_267 : decode cX7_init 267 = .ok (.aload_n 0, 1) := by decide +kernel
theorem dX7_init_268 : decode cX7_init 268 = .ok (.bipush 30, 2) := by decide +kernel
theorem dX7_init_270 : decode cX7_init 270 = .ok (.newarray .long, 2) := by decide +kernel
theorem dX7_init_272 : decode cX7_init 272 = .ok (.putfield 108, 3) := by decide +kernel
theorem dX7_init_275 : decode cX7_init 275 = .ok (.aload_n 0, 1) := by decide +kernel
theorem dX7_init_276 : decode cX7_init 276 = .ok (.sipush 900, 3) := by decide +kernel
theorem dX7_init_279 : decode cX7_init 279 = .ok (.newarray .boolean, 2) := by decide +kernel
theorem dX7_init_281 : decode cX7_init 281 = .ok (.putfield 111, 3) := by decide +kernel
theorem dX7_init_284 : decode cX7_init 284 = .ok (.aload_n 0, 1) := by decide +kernel
theorem dX7_init_285 : decode cX7_init 285 = .ok (.bipush 10, 2) := by decide +kernel
theorem dX7_init_287 : decode cX7_init 287 = .ok (.newarray .int, 2) := by decide +kernel
theorem dX7_init_289 : decode cX7_init 289 = .ok (.putfield 114, 3) := by decide +kernel
theorem dX7_init_292 : decode cX7_init 292 = .ok (.aload_n 0, 1) := by decide +kernel
theorem dX7_init_293 : decode cX7_init 293 = .ok (.bipush 10, 2) := by decide +kernel
theorem dX7_init_295 : decode cX7_init 295 = .ok (.newarray .long, 2) := by decide +kernel
theorem dX7_init_297 : decode cX7_init 297 = .ok (.putfield 117, 3) := by decide +kernel
theorem dX7_init_300 : decode cX7_init 300 = .ok (.aload_n 0, 1) := by decide +kernel
theorem dX7_init_301 : decode cX7_init 301 = .ok (.bipush 10, 2) := by decide +kernel
theorem dX7_init_303 : decode cX7_init 303 = .ok (.newarray .long, 2) := by decide +kernel
theorem dX7_init_305 : decode cX7_init 305 = .ok (.putfield 120, 3) := by decide +kernel
theorem dX7_init_308 : decode cX7_init 308 = .ok (.aload_n 0, 1) := by decide +kernel
theorem dX7_init_309 : decode cX7_init 309 = .ok (.bipush 20, 2) := by decide +kernel
theorem dX7_init_311 : decode cX7_init 311 = .ok (.newarray .long, 2) := by decide +kernel
theorem dX7_init_313 : decode cX7_init 313 = .ok (.putfield 123, 3) := by decide +kernel
theorem dX7_init_316 : decode cX7_init 316 = .ok (.aload_n 0, 1) := by decide +kernel
theorem dX7_init_317 : decode cX7_init 317 = .ok (.sipush 900, 3) := by decide +kernel
theorem dX7_init_320 : decode cX7_init 320 = .ok (.newarray .int, 2) := by decide +kernel
theorem dX7_init_322 : decode cX7_init 322 = .ok (.putfield 126, 3) := by decide +kernel
theorem dX7_init_325 : decode cX7_init 325 = .ok (.aload_n 0, 1) := by decide +kernel
theorem dX7_init_326 : decode cX7_init 326 = .ok (.bipush 30, 2) := by decide +kernel
theorem dX7_init_328 : decode cX7_init 328 = .ok (.newarray .long, 2) := by decide +kernel
theorem dX7_init_330 : decode cX7_init 330 = .ok (.putfield 129, 3) := by decide +kernel
theorem dX7_init_333 : decode cX7_init 333 = .ok (.aload_n 0, 1) := by decide +kernel
theorem dX7_init_334 : decode cX7_init 334 = .ok (.bipush 30, 2) := by decide +kernel
theorem dX7_init_336 : decode cX7_init 336 = .ok (.newarray .int, 2) := by decide +kernel
theorem dX7_init_338 : decode cX7_init 338 = .ok (.putfield 132, 3) := by decide +kernel
theorem dX7_init_341 : decode cX7_init 341 = .ok (.return_, 1) := by decide +kernel
theorem dX7_floor_0 : decode cX7_floor 0 = .ok (.lload_n 0, 1) := by decide +kernel
theorem dX7_floor_1 : decode cX7_floor 1 = .ok (.lload_n 2, 1) := by decide +kernel
theorem dX7_floor_2 : decode cX7_floor 2 = .ok (.ldiv, 1) := by decide +kernel
theorem dX7_floor_3 : decode cX7_floor 3 = .ok (.lstore 4, 2) := by decide +kernel
theorem dX7_floor_5 : decode cX7_floor 5 = .ok (.lload_n 0, 1) := by decide +kernel
theorem dX7_floor_6 : decode cX7_floor 6 = .ok (.lload_n 2, 1) := by decide +kernel
theorem dX7_floor_7 : decode cX7_floor 7 = .ok (.lrem, 1) := by decide +kernel
theorem dX7_floor_8 : decode cX7_floor 8 = .ok (.lconst 0, 1) := by decide +kernel
theorem dX7_floor_9 : decode cX7_floor 9 = .ok (.lcmp, 1) := by decide +kernel
theorem dX7_floor_10 : decode cX7_floor 10 = .ok (.ifCond .eq 35, 3) := by decide +kernel
theorem dX7_floor_13 : decode cX7_floor 13 = .ok (.lload_n 0, 1) := by decide +kernel
theorem dX7_floor_14 : decode cX7_floor 14 = .ok (.lconst 0, 1) := by decide +kernel
theorem dX7_floor_15 : decode cX7_floor 15 = .ok (.lcmp, 1) := by decide +kernel
theorem dX7_floor_16 : decode cX7_floor 16 = .ok (.ifCond .ge 7, 3) := by decide +kernel
theorem dX7_floor_19 : decode cX7_floor 19 = .ok (.iconst 1, 1) := by decide +kernel
theorem dX7_floor_20 : decode cX7_floor 20 = .ok (.goto 4, 3) := by decide +kernel
theorem dX7_floor_23 : decode cX7_floor 23 = .ok (.iconst 0, 1) := by decide +kernel
theorem dX7_floor_24 : decode cX7_floor 24 = .ok (.lload_n 2, 1) := by decide +kernel
theorem dX7_floor_25 : decode cX7_floor 25 = .ok (.lconst 0, 1) := by decide +kernel
theorem dX7_floor_26 : decode cX7_floor 26 = .ok (.lcmp, 1) := by decide +kernel
theorem dX7_floor_27 : decode cX7_floor 27 = .ok (.ifCond .ge 7, 3) := by decide +kernel
theorem dX7_floor_30 : decode cX7_floor 30 = .ok (.iconst 1, 1) := by decide +kernel
theorem dX7_floor_31 : decode cX7_floor 31 = .ok (.goto 4, 3) := by decide +kernel
theorem dX7_floor_34 : decode cX7_floor 34 = .ok (.iconst 0, 1) := by decide +kernel
theorem dX7_floor_35 : decode cX7_floor 35 = .ok (.if_icmp .eq 10, 3) := by decide +kernel
theorem dX7_floor_38 : decode cX7_floor 38 = .ok (.lload 4, 2) := by decide +kernel
theorem dX7_floor_40 : decode cX7_floor 40 = .ok (.lconst 1, 1) := by decide +kernel
theorem dX7_floor_41 : decode cX7_floor 41 = .ok (.lsub, 1) := by decide +kernel
theorem dX7_floor_42 : decode cX7_floor 42 = .ok (.goto 5, 3) := by decide +kernel
theorem dX7_floor_45 : decode cX7_floor 45 = .ok (.lload 4, 2) := by decide +kernel
theorem dX7_floor_47 : decode cX7_floor 47 = .ok (.lreturn, 1) := by decide +kernel
theorem dX7_ceil_0 : decode cX7_ceil 0 = .ok (.lload_n 0, 1) := by decide +kernel
theorem dX7_ceil_1 : decode cX7_ceil 1 = .ok (.lneg, 1) := by decide +kernel
theorem dX7_ceil_2 : decode cX7_ceil 2 = .ok (.lload_n 2, 1) := by decide +kernel
theorem dX7_ceil_3 : decode cX7_ceil 3 = .ok (.invokestatic 135, 3) := by decide +kernel
theorem dX7_ceil_6 : decode cX7_ceil 6 = .ok (.lneg, 1) := by decide +kernel
theorem dX7_ceil_7 : decode cX7_ceil 7 = .ok (.lreturn, 1) := by decide +kernel
theorem dX7_in_0 : decode cX7_in 0 = .ok (.lload_n 0, 1) := by decide +kernel
theorem dX7_in_1 : decode cX7_in 1 = .ok (.lload_n 2, 1) := by decide +kernel
theorem dX7_in_2 : decode cX7_in 2 = .ok (.lcmp, 1) := by decide +kernel
theorem dX7_in_3 : decode cX7_in 3 = .ok (.ifCond .lt 14, 3) := by decide +kernel
theorem dX7_in_6 : decode cX7_in 6 = .ok (.lload_n 0, 1) := by decide +kernel
theorem dX7_in_7 : decode cX7_in 7 = .ok (.lload 4, 2) := by decide +kernel
theorem dX7_in_9 : decode cX7_in 9 = .ok (.lcmp, 1) := by decide +kernel
theorem dX7_in_10 : decode cX7_in 10 = .ok (.ifCond .gt 7, 3) := by decide +kernel
theorem dX7_in_13 : decode cX7_in 13 = .ok (.iconst 1, 1) := by decide +kernel
theorem dX7_in_14 : decode cX7_in 14 = .ok (.goto 4, 3) := by decide +kernel
theorem dX7_in_17 : decode cX7_in 17 = .ok (.iconst 0, 1) := by decide +kernel
theorem dX7_in_18 : decode cX7_in 18 = .ok (.ireturn, 1) := by decide +kernel
theorem dX7_isMember_0 : decode cX7_isMember 0 = .ok (.iload_n 1, 1) := by decide +kernel
theorem dX7_isMember_1 : decode cX7_isMember 1 = .ok (.i2l, 1) := by decide +kernel
theorem dX7_isMember_2 : decode cX7_isMember 2 = .ok (.lconst 0, 1) := by decide +kernel
theorem dX7_isMember_3 : decode cX7_isMember 3 = .ok (.aload_n 0, 1) := by decide +kernel
theorem dX7_isMember_4 : decode cX7_isMember 4 = .ok (.getfield 139, 3) := by decide +kernel
theorem dX7_isMember_7 : decode cX7_isMember 7 = .ok (.i2l, 1) := by decide +kernel
theorem dX7_isMember_8 : decode cX7_isMember 8 = .ok (.lconst 1, 1) := by decide +kernel
theorem dX7_isMember_9 : decode cX7_isMember 9 = .ok (.lsub, 1) := by decide +kernel
theorem dX7_isMember_10 : decode cX7_isMember 10 = .ok (.invokestatic 143, 3) := by decide +kernel
theorem dX7_isMember_13 : decode cX7_isMember 13 = .ok (.ireturn, 1) := by decide +kernel
theorem dX7_go_0 : decode cX7_go 0 = .ok (.iload_n 1, 1) := by decide +kernel
theorem dX7_go_1 : decode cX7_go 1 = .ok (.i2l, 1) := by decide +kernel
theorem dX7_go_2 : decode cX7_go 2 = .ok (.lconst 1, 1) := by decide +kernel
theorem dX7_go_3 : decode cX7_go 3 = .ok (.ldc2_w 147, 3) := by decide +kernel
theorem dX7_go_6 : decode cX7_go 6 = .ok (.invokestatic 143, 3) := by decide +kernel
theorem dX7_go_9 : decode cX7_go 9 = .ok (.ifCond .eq 17, 3) := by decide +kernel
theorem dX7_go_12 : decode cX7_go 12 = .ok (.aload_n 0, 1) := by decide +kernel
theorem dX7_go_13 : decode cX7_go 13 = .ok (.getfield 149, 3) := by decide +kernel
theorem dX7_go_16 : decode cX7_go 16 = .ok (.iload_n 1, 1) := by decide +kernel
theorem dX7_go_17 : decode cX7_go 17 = .ok (.i2l, 1) := by decide +kernel
theorem dX7_go_18 : decode cX7_go 18 = .ok (.ladd, 1) := by decide +kernel
theorem dX7_go_19 : decode cX7_go 19 = .ok (.ldc2_w 153, 3) := by decide +kernel
theorem dX7_go_22 : decode cX7_go 22 = .ok (.lcmp, 1) := by decide +kernel
theorem dX7_go_23 : decode cX7_go 23 = .ok (.ifCond .le 7, 3) := by decide +kernel
theorem dX7_go_26 : decode cX7_go 26 = .ok (.ldc2_w 155, 3) := by decide +kernel
theorem dX7_go_29 : decode cX7_go 29 = .ok (.lreturn, 1) := by decide +kernel
theorem dX7_go_30 : decode cX7_go 30 = .ok (.aload_n 0, 1) := by decide +kernel
theorem dX7_go_31 : decode cX7_go 31 = .ok (.dup, 1) := by decide +kernel
theorem dX7_go_32 : decode cX7_go 32 = .ok (.getfield 149, 3) := by decide +kernel
theorem dX7_go_35 : decode cX7_go 35 = .ok (.iload_n 1, 1) := by decide +kernel
theorem dX7_go_36 : decode cX7_go 36 = .ok (.i2l, 1) := by decide +kernel
theorem dX7_go_37 : decode cX7_go 37 = .ok (.ladd, 1) := by decide +kernel
theorem dX7_go_38 : decode cX7_go 38 = .ok (.putfield 149, 3) := by decide +kernel
theorem dX7_go_41 : decode cX7_go 41 = .ok (.aload_n 0, 1) := by decide +kernel
theorem dX7_go_42 : decode cX7_go 42 = .ok (.getfield 149, 3) := by decide +kernel
theorem dX7_go_45 : decode cX7_go 45 = .ok (.lreturn, 1) := by decide +kernel
theorem dX7_member_0 : decode cX7_member 0 = .ok (.iload_n 1, 1) := by decide +kernel
theorem dX7_member_1 : decode cX7_member 1 = .ok (.i2l, 1) := by decide +kernel
theorem dX7_member_2 : decode cX7_member 2 = .ok (.lconst 0, 1) := by decide +kernel
theorem dX7_member_3 : decode cX7_member 3 = .ok (.ldc2_w 157, 3) := by decide +kernel
theorem dX7_member_6 : decode cX7_member 6 = .ok (.invokestatic 143, 3) := by decide +kernel
theorem dX7_member_9 : decode cX7_member 9 = .ok (.ifCond .eq 36, 3) := by decide +kernel
theorem dX7_member_12 : decode cX7_member 12 = .ok (.iload_n 2, 1) := by decide +kernel
theorem dX7_member_13 : decode cX7_member 13 = .ok (.i2l, 1) := by decide +kernel
theorem dX7_member_14 : decode cX7_member 14 = .ok (.lconst 0, 1) := by decide +kernel
theorem dX7_member_15 : decode cX7_member 15 = .ok (.ldc2_w 159, 3) := by decide +kernel
theorem dX7_member_18 : decode cX7_member 18 = .ok (.invokestatic 143, 3) := by decide +kernel
theorem dX7_member_21 : decode cX7_member 21 = .ok (.ifCond .eq 24, 3) := by decide +kernel
theorem dX7_member_24 : decode cX7_member 24 = .ok (.iload_n 3, 1) := by decide +kernel
theorem dX7_member_25 : decode cX7_member 25 = .ok (.i2l, 1) := by decide +kernel
theorem dX7_member_26 : decode cX7_member 26 = .ok (.lconst 0, 1) := by decide +kernel
theorem dX7_member_27 : decode cX7_member 27 = .ok (.ldc2_w 161, 3) := by decide +kernel
theorem dX7_member_30 : decode cX7_member 30 = .ok (.invokestatic 143, 3) := by decide +kernel
theorem dX7_member_33 : decode cX7_member 33 = .ok (.ifCond .eq 12, 3) := by decide +kernel
theorem dX7_member_36 : decode cX7_member 36 = .ok (.aload_n 0, 1) := by decide +kernel
theorem dX7_member_37 : decode cX7_member 37 = .ok (.getfield 139, 3) := by decide +kernel
theorem dX7_member_40 : decode cX7_member 40 = .ok (.bipush 10, 2) := by decide +kernel
theorem dX7_member_42 : decode cX7_member 42 = .ok (.if_icmp .ne 7, 3) := by decide +kernel
theorem dX7_member_45 : decode cX7_member 45 = .ok (.ldc2_w 155, 3) := by decide +kernel
theorem dX7_member_48 : decode cX7_member 48 = .ok (.lreturn, 1) := by decide +kernel
theorem dX7_member_49 : decode cX7_member 49 = .ok (.aload_n 0, 1) := by decide +kernel
theorem dX7_member_50 : decode cX7_member 50 = .ok (.getfield 139, 3) := by decide +kernel
theorem dX7_member_53 : decode cX7_member 53 = .ok (.istore 4, 2) := by decide +kernel
theorem dX7_member_55 : decode cX7_member 55 = .ok (.aload_n 0, 1) := by decide +kernel
theorem dX7_member_56 : decode cX7_member 56 = .ok (.getfield 7, 3) := by decide +kernel
theorem dX7_member_59 : decode cX7_member 59 = .ok (.iload 4, 2) := by decide +kernel
theorem dX7_member_61 : decode cX7_member 61 = .ok (.iload_n 1, 1) := by decide +kernel
theorem dX7_member_62 : decode cX7_member 62 = .ok (.iastore, 1) := by decide +kernel
theorem dX7_member_63 : decode cX7_member 63 = .ok (.aload_n 0, 1) := by decide +kernel
theorem dX7_member_64 : decode cX7_member 64 = .ok (.getfield 13, 3) := by decide +kernel
theorem dX7_member_67 : decode cX7_member 67 = .ok (.iload 4, 2) := by decide +kernel
theorem dX7_member_69 : decode cX7_member 69 = .ok (.iload_n 2, 1) := by decide +kernel
theorem dX7_member_70 : decode cX7_member 70 = .ok (.i2l, 1) := by decide +kernel
theorem dX7_member_71 : decode cX7_member 71 = .ok (.lastore, 1) := by decide +kernel
theorem dX7_member_72 : decode cX7_member 72 = .ok (.aload_n 0, 1) := by decide +kernel
theorem dX7_member_73 : decode cX7_member 73 = .ok (.getfield 17, 3) := by decide +kernel
theorem dX7_member_76 : decode cX7_member 76 = .ok (.iload 4, 2) := by decide +kernel
theorem dX7_member_78 : decode cX7_member 78 = .ok (.iload_n 3, 1) := by decide +kernel
theorem dX7_member_79 : decode cX7_member 79 = .ok (.i2l, 1) := by decide +kernel
theorem dX7_member_80 : decode cX7_member 80 = .ok (.lastore, 1) := by decide +kernel
theorem dX7_member_81 : decode cX7_member 81 = .ok (.aload_n 0, 1) := by decide +kernel
theorem dX7_member_82 : decode cX7_member 82 = .ok (.getfield 20, 3) := by decide +kernel
theorem dX7_member_85 : decode cX7_member 85 = .ok (.iload 4, 2) := by decide +kernel
theorem dX7_member_87 : decode cX7_member 87 = .ok (.aload_n 0, 1) := by decide +kernel
theorem dX7_member_88 : decode cX7_member 88 = .ok (.getfield 149, 3) := by decide +kernel
theorem dX7_member_91 : decode cX7_member 91 = .ok (.lastore, 1) := by decide +kernel
theorem dX7_member_92 : decode cX7_member 92 = .ok (.aload_n 0, 1) := by decide +kernel
theorem dX7_member_93 : decode cX7_member 93 = .ok (.getfield 23, 3) := by decide +kernel
theorem dX7_member_96 : decode cX7_member 96 = .ok (.iload 4, 2) := by decide +kernel
theorem dX7_member_98 : decode cX7_member 98 = .ok (.lconst 1, 1) := by decide +kernel
theorem dX7_member_99 : decode cX7_member 99 = .ok (.lastore, 1) := by decide +kernel
theorem dX7_member_100 : decode cX7_member 100 = .ok (.aload_n 0, 1) := by decide +kernel
theorem dX7_member_101 : decode cX7_member 101 = .ok (.getfield 26, 3) := by decide +kernel
theorem dX7_member_104 : decode cX7_member 104 = .ok (.iload 4, 2) := by decide +kernel
theorem dX7_member_106 : decode cX7_member 106 = .ok (.lconst 1, 1) := by decide +kernel
theorem dX7_member_107 : decode cX7_member 107 = .ok (.lastore, 1) := by decide +kernel
theorem dX7_member_108 : decode cX7_member 108 = .ok (.aload_n 0, 1) := by decide +kernel
theorem dX7_member_109 : decode cX7_member 109 = .ok (.getfield 29, 3) := by decide +kernel
theorem dX7_member_112 : decode cX7_member 112 = .ok (.iload 4, 2) := by decide +kernel
theorem dX7_member_114 : decode cX7_member 114 = .ok (.aload_n 0, 1) := by decide +kernel
theorem dX7_member_115 : decode cX7_member 115 = .ok (.getfield 149, 3) := by decide +kernel
theorem dX7_member_118 : decode cX7_member 118 = .ok (.iload_n 3, 1) := by decide +kernel
theorem dX7_member_119 : decode cX7_member 119 = .ok (.i2l, 1) := by decide +kernel
theorem dX7_member_120 : decode cX7_member 120 = .ok (.lsub, 1) := by decide +kernel
theorem dX7_member_121 : decode cX7_member 121 = .ok (.lastore, 1) := by decide +kernel
theorem dX7_member_122 : decode cX7_member 122 = .ok (.aload_n 0, 1) := by decide +kernel
theorem dX7_member_123 : decode cX7_member 123 = .ok (.getfield 32, 3) := by decide +kernel
theorem dX7_member_126 : decode cX7_member 126 = .ok (.iload 4, 2) := by decide +kernel
theorem dX7_member_128 : decode cX7_member 128 = .ok (.aload_n 0, 1) := by decide +kernel
theorem dX7_member_129 : decode cX7_member 129 = .ok (.getfield 149, 3) := by decide +kernel
theorem dX7_member_132 : decode cX7_member 132 = .ok (.iload_n 3, 1) := by decide +kernel
theorem dX7_member_133 : decode cX7_member 133 = .ok (.i2l, 1) := by decide +kernel
theorem dX7_member_134 : decode cX7_member 134 = .ok (.ladd, 1) := by decide +kernel
theorem dX7_member_135 : decode cX7_member 135 = .ok (.lastore, 1) := by decide +kernel
theorem dX7_member_136 : decode cX7_member 136 = .ok (.aload_n 0, 1) := by decide +kernel
theorem dX7_member_137 : decode cX7_member 137 = .ok (.getfield 48, 3) := by decide +kernel
theorem dX7_member_140 : decode cX7_member 140 = .ok (.iload 4, 2) := by decide +kernel
theorem dX7_member_142 : decode cX7_member 142 = .ok (.aload_n 0, 1) := by decide +kernel
theorem dX7_member_143 : decode cX7_member 143 = .ok (.getfield 149, 3) := by decide +kernel
theorem dX7_member_146 : decode cX7_member 146 = .ok (.iload_n 3, 1) := by decide +kernel
theorem dX7_member_147 : decode cX7_member 147 = .ok (.i2l, 1) := by decide +kernel
theorem dX7_member_148 : decode cX7_member 148 = .ok (.lsub, 1) := by decide +kernel
theorem dX7_member_149 : decode cX7_member 149 = .ok (.lastore, 1) := by decide +kernel
theorem dX7_member_150 : decode cX7_member 150 = .ok (.aload_n 0, 1) := by decide +kernel
theorem dX7_member_151 : decode cX7_member 151 = .ok (.dup, 1) := by decide +kernel
theorem dX7_member_152 : decode cX7_member 152 = .ok (.getfield 139, 3) := by decide +kernel
theorem dX7_member_155 : decode cX7_member 155 = .ok (.iconst 1, 1) := by decide +kernel
theorem dX7_member_156 : decode cX7_member 156 = .ok (.iadd, 1) := by decide +kernel
theorem dX7_member_157 : decode cX7_member 157 = .ok (.putfield 139, 3) := by decide +kernel
theorem dX7_member_160 : decode cX7_member 160 = .ok (.iload 4, 2) := by decide +kernel
theorem dX7_member_162 : decode cX7_member 162 = .ok (.i2l, 1) := by decide +kernel
theorem dX7_member_163 : decode cX7_member 163 = .ok (.lreturn, 1) := by decide +kernel
theorem dX7_rate_0 : decode cX7_rate 0 = .ok (.aload_n 0, 1) := by decide +kernel
theorem dX7_rate_1 : decode cX7_rate 1 = .ok (.iload_n 1, 1) := by decide +kernel
theorem dX7_rate_2 : decode cX7_rate 2 = .ok (.invokevirtual 163, 3) := by decide +kernel
theorem dX7_rate_5 : decode cX7_rate 5 = .ok (.ifCond .eq 41, 3) := by decide +kernel
theorem dX7_rate_8 : decode cX7_rate 8 = .ok (.iload_n 2, 1) := by decide +kernel
theorem dX7_rate_9 : decode cX7_rate 9 = .ok (.i2l, 1) := by decide +kernel
theorem dX7_rate_10 : decode cX7_rate 10 = .ok (.lconst 1, 1) := by decide +kernel
theorem dX7_rate_11 : decode cX7_rate 11 = .ok (.ldc2_w 161, 3) := by decide +kernel
theorem dX7_rate_14 : decode cX7_rate 14 = .ok (.invokestatic 143, 3) := by decide +kernel
theorem dX7_rate_17 : decode cX7_rate 17 = .ok (.ifCond .eq 29, 3) := by decide +kernel
theorem dX7_rate_20 : decode cX7_rate 20 = .ok (.iload_n 3, 1) := by decide +kernel
theorem dX7_rate_21 : decode cX7_rate 21 = .ok (.i2l, 1) := by decide +kernel
theorem dX7_rate_22 : decode cX7_rate 22 = .ok (.lconst 1, 1) := by decide +kernel
theorem dX7_rate_23 : decode cX7_rate 23 = .ok (.ldc2_w 161, 3) := by decide +kernel
theorem dX7_rate_26 : decode cX7_rate 26 = .ok (.invokestatic 143, 3) := by decide +kernel
theorem dX7_rate_29 : decode cX7_rate 29 = .ok (.ifCond .eq 17, 3) := by decide +kernel
theorem dX7_rate_32 : decode cX7_rate 32 = .ok (.aload_n 0, 1) := by decide +kernel
theorem dX7_rate_33 : decode cX7_rate 33 = .ok (.getfield 20, 3) := by decide +kernel
theorem dX7_rate_36 : decode cX7_rate 36 = .ok (.iload_n 1, 1) := by decide +kernel
theorem dX7_rate_37 : decode cX7_rate 37 = .ok (.laload, 1) := by decide +kernel
theorem dX7_rate_38 : decode cX7_rate 38 = .ok (.aload_n 0, 1) := by decide +kernel
theorem dX7_rate_39 : decode cX7_rate 39 = .ok (.getfield 149, 3) := by decide +kernel
theorem dX7_rate_42 : decode cX7_rate 42 = .ok (.lcmp, 1) := by decide +kernel
theorem dX7_rate_43 : decode cX7_rate 43 = .ok (.ifCond .eq 7, 3) := by decide +kernel
theorem dX7_rate_46 : decode cX7_rate 46 = .ok (.ldc2_w 155, 3) := by decide +kernel
theorem dX7_rate_49 : decode cX7_rate 49 = .ok (.lreturn, 1) := by decide +kernel
theorem dX7_rate_50 : decode cX7_rate 50 = .ok (.aload_n 0, 1) := by decide +kernel
theorem dX7_rate_51 : decode cX7_rate 51 = .ok (.getfield 23, 3) := by decide +kernel
theorem dX7_rate_54 : decode cX7_rate 54 = .ok (.iload_n 1, 1) := by decide +kernel
theorem dX7_rate_55 : decode cX7_rate 55 = .ok (.iload_n 2, 1) := by decide +kernel
theorem dX7_rate_56 : decode cX7_rate 56 = .ok (.i2l, 1) := by decide +kernel
theorem dX7_rate_57 : decode cX7_rate 57 = .ok (.lastore, 1) := by decide +kernel
theorem dX7_rate_58 : decode cX7_rate 58 = .ok (.aload_n 0, 1) := by decide +kernel
theorem dX7_rate_59 : decode cX7_rate 59 = .ok (.getfield 26, 3) := by decide +kernel
theorem dX7_rate_62 : decode cX7_rate 62 = .ok (.iload_n 1, 1) := by decide +kernel
theorem dX7_rate_63 : decode cX7_rate 63 = .ok (.iload_n 3, 1) := by decide +kernel
theorem dX7_rate_64 : decode cX7_rate 64 = .ok (.i2l, 1) := by decide +kernel
theorem dX7_rate_65 : decode cX7_rate 65 = .ok (.lastore, 1) := by decide +kernel
theorem dX7_rate_66 : decode cX7_rate 66 = .ok (.iload_n 2, 1) := by decide +kernel
theorem dX7_rate_67 : decode cX7_rate 67 = .ok (.iload_n 3, 1) := by decide +kernel
theorem dX7_rate_68 : decode cX7_rate 68 = .ok (.if_icmp .le 11, 3) := by decide +kernel
theorem dX7_rate_71 : decode cX7_rate 71 = .ok (.iload_n 2, 1) := by decide +kernel
theorem dX7_rate_72 : decode cX7_rate 72 = .ok (.i2l, 1) := by decide +kernel
theorem dX7_rate_73 : decode cX7_rate 73 = .ok (.iload_n 3, 1) := by decide +kernel
theorem dX7_rate_74 : decode cX7_rate 74 = .ok (.i2l, 1) := by decide +kernel
theorem dX7_rate_75 : decode cX7_rate 75 = .ok (.lsub, 1) := by decide +kernel
theorem dX7_rate_76 : decode cX7_rate 76 = .ok (.goto 8, 3) := by decide +kernel
theorem dX7_rate_79 : decode cX7_rate 79 = .ok (.iload_n 3, 1) := by decide +kernel
theorem dX7_rate_80 : decode cX7_rate 80 = .ok (.i2l, 1) := by decide +kernel
theorem dX7_rate_81 : decode cX7_rate 81 = .ok (.iload_n 2, 1) := by decide +kernel
theorem dX7_rate_82 : decode cX7_rate 82 = .ok (.i2l, 1) := by decide +kernel
theorem dX7_rate_83 : decode cX7_rate 83 = .ok (.lsub, 1) := by decide +kernel
theorem dX7_rate_84 : decode cX7_rate 84 = .ok (.lstore 4, 2) := by decide +kernel
theorem dX7_rate_86 : decode cX7_rate 86 = .ok (.lload 4, 2) := by decide +kernel
theorem dX7_rate_88 : decode cX7_rate 88 = .ok (.ldc2_w 167, 3) := by decide +kernel
theorem dX7_rate_91 : decode cX7_rate 91 = .ok (.lmul, 1) := by decide +kernel
theorem dX7_rate_92 : decode cX7_rate 92 = .ok (.aload_n 0, 1) := by decide +kernel
theorem dX7_rate_93 : decode cX7_rate 93 = .ok (.getfield 13, 3) := by decide +kernel
theorem dX7_rate_96 : decode cX7_rate 96 = .ok (.iload_n 1, 1) := by decide +kernel
theorem dX7_rate_97 : decode cX7_rate 97 = .ok (.laload, 1) := by decide +kernel
theorem dX7_rate_98 : decode cX7_rate 98 = .ok (.iload_n 3, 1) := by decide +kernel
theorem dX7_rate_99 : decode cX7_rate 99 = .ok (.i2l, 1) := by decide +kernel
theorem dX7_rate_100 : decode cX7_rate 100 = .ok (.lmul, 1) := by decide +kernel
theorem dX7_rate_101 : decode cX7_rate 101 = .ok (.lcmp, 1) := by decide +kernel
theorem dX7_rate_102 : decode cX7_rate 102 = .ok (.ifCond .gt 7, 3) := by decide +kernel
theorem dX7_rate_105 : decode cX7_rate 105 = .ok (.lconst 1, 1) := by decide +kernel
theorem dX7_rate_106 : decode cX7_rate 106 = .ok (.goto 4, 3) := by decide +kernel
theorem dX7_rate_109 : decode cX7_rate 109 = .ok (.lconst 0, 1) := by decide +kernel
theorem dX7_rate_110 : decode cX7_rate 110 = .ok (.lreturn, 1) := by decide +kernel
theorem dX7_lie_0 : decode cX7_lie 0 = .ok (.aload_n 0, 1) := by decide +kernel
theorem dX7_lie_1 : decode cX7_lie 1 = .ok (.iload_n 1, 1) := by decide +kernel
theorem dX7_lie_2 : decode cX7_lie 2 = .ok (.invokevirtual 163, 3) := by decide +kernel
theorem dX7_lie_5 : decode cX7_lie 5 = .ok (.ifCond .eq 47, 3) := by decide +kernel
theorem dX7_lie_8 : decode cX7_lie 8 = .ok (.aload_n 0, 1) := by decide +kernel
theorem dX7_lie_9 : decode cX7_lie 9 = .ok (.getfield 7, 3) := by decide +kernel
theorem dX7_lie_12 : decode cX7_lie 12 = .ok (.iload_n 1, 1) := by decide +kernel
theorem dX7_lie_13 : decode cX7_lie 13 = .ok (.iaload, 1) := by decide +kernel
theorem dX7_lie_14 : decode cX7_lie 14 = .ok (.iconst 4, 1) := by decide +kernel
theorem dX7_lie_15 : decode cX7_lie 15 = .ok (.if_icmp .ne 37, 3) := by decide +kernel
theorem dX7_lie_18 : decode cX7_lie 18 = .ok (.lload 4, 2) := by decide +kernel
theorem dX7_lie_20 : decode cX7_lie 20 = .ok (.lload_n 2, 1) := by decide +kernel
theorem dX7_lie_21 : decode cX7_lie 21 = .ok (.lcmp, 1) := by decide +kernel
theorem dX7_lie_22 : decode cX7_lie 22 = .ok (.ifCond .lt 30, 3) := by decide +kernel
theorem dX7_lie_25 : decode cX7_lie 25 = .ok (.lload_n 2, 1) := by decide +kernel
theorem dX7_lie_26 : decode cX7_lie 26 = .ok (.ldc2_w 169, 3) := by decide +kernel
theorem dX7_lie_29 : decode cX7_lie 29 = .ok (.ldc2_w 171, 3) := by decide +kernel
theorem dX7_lie_32 : decode cX7_lie 32 = .ok (.invokestatic 143, 3) := by decide +kernel
theorem dX7_lie_35 : decode cX7_lie 35 = .ok (.ifCond .eq 17, 3) := by decide +kernel
theorem dX7_lie_38 : decode cX7_lie 38 = .ok (.lload 4, 2) := by decide +kernel
theorem dX7_lie_40 : decode cX7_lie 40 = .ok (.ldc2_w 169, 3) := by decide +kernel
theorem dX7_lie_43 : decode cX7_lie 43 = .ok (.ldc2_w 171, 3) := by decide +kernel
theorem dX7_lie_46 : decode cX7_lie 46 = .ok (.invokestatic 143, 3) := by decide +kernel
theorem dX7_lie_49 : decode cX7_lie 49 = .ok (.ifCond .ne 7, 3) := by decide +kernel
theorem dX7_lie_52 : decode cX7_lie 52 = .ok (.ldc2_w 155, 3) := by decide +kernel
theorem dX7_lie_55 : decode cX7_lie 55 = .ok (.lreturn, 1) := by decide +kernel
theorem dX7_lie_56 : decode cX7_lie 56 = .ok (.aload_n 0, 1) := by decide +kernel
theorem dX7_lie_57 : decode cX7_lie 57 = .ok (.getfield 38, 3) := by decide +kernel
theorem dX7_lie_60 : decode cX7_lie 60 = .ok (.iload_n 1, 1) := by decide +kernel
theorem dX7_lie_61 : decode cX7_lie 61 = .ok (.lload_n 2, 1) := by decide +kernel
theorem dX7_lie_62 : decode cX7_lie 62 = .ok (.lastore, 1) := by decide +kernel
theorem dX7_lie_63 : decode cX7_lie 63 = .ok (.aload_n 0, 1) := by decide +kernel
theorem dX7_lie_64 : decode cX7_lie 64 = .ok (.getfield 41, 3) := by decide +kernel
theorem dX7_lie_67 : decode cX7_lie 67 = .ok (.iload_n 1, 1) := by decide +kernel
theorem dX7_lie_68 : decode cX7_lie 68 = .ok (.lload 4, 2) := by decide +kernel
theorem dX7_lie_70 : decode cX7_lie 70 = .ok (.lastore, 1) := by decide +kernel
theorem dX7_lie_71 : decode cX7_lie 71 = .ok (.lconst 1, 1) := by decide +kernel
theorem dX7_lie_72 : decode cX7_lie 72 = .ok (.lreturn, 1) := by decide +kernel
theorem dX7_rest_0 : decode cX7_rest 0 = .ok (.aload_n 0, 1) := by decide +kernel
theorem dX7_rest_1 : decode cX7_rest 1 = .ok (.iload_n 1, 1) := by decide +kernel
theorem dX7_rest_2 : decode cX7_rest 2 = .ok (.invokevirtual 163, 3) := by decide +kernel
theorem dX7_rest_5 : decode cX7_rest 5 = .ok (.ifCond .eq 12, 3) := by decide +kernel
theorem dX7_rest_8 : decode cX7_rest 8 = .ok (.aload_n 0, 1) := by decide +kernel
theorem dX7_rest_9 : decode cX7_rest 9 = .ok (.getfield 7, 3) := by decide +kernel
theorem dX7_rest_12 : decode cX7_rest 12 = .ok (.iload_n 1, 1) := by decide +kernel
theorem dX7_rest_13 : decode cX7_rest 13 = .ok (.iaload, 1) := by decide +kernel
theorem dX7_rest_14 : decode cX7_rest 14 = .ok (.ifCond .ne 7, 3) := by decide +kernel
theorem dX7_rest_17 : decode cX7_rest 17 = .ok (.ldc2_w 155, 3) := by decide +kernel
theorem dX7_rest_20 : decode cX7_rest 20 = .ok (.lreturn, 1) := by decide +kernel
theorem dX7_rest_21 : decode cX7_rest 21 = .ok (.aload_n 0, 1) := by decide +kernel
theorem dX7_rest_22 : decode cX7_rest 22 = .ok (.getfield 44, 3) := by decide +kernel
theorem dX7_rest_25 : decode cX7_rest 25 = .ok (.iload_n 1, 1) := by decide +kernel
theorem dX7_rest_26 : decode cX7_rest 26 = .ok (.baload, 1) := by decide +kernel
theorem dX7_rest_27 : decode cX7_rest 27 = .ok (.istore_n 3, 1) := by decide +kernel
theorem dX7_rest_28 : decode cX7_rest 28 = .ok (.aload_n 0, 1) := by decide +kernel
theorem dX7_rest_29 : decode cX7_rest 29 = .ok (.getfield 44, 3) := by decide +kernel
theorem dX7_rest_32 : decode cX7_rest 32 = .ok (.iload_n 1, 1) := by decide +kernel
theorem dX7_rest_33 : decode cX7_rest 33 = .ok (.iload_n 2, 1) := by decide +kernel
theorem dX7_rest_34 : decode cX7_rest 34 = .ok (.bastore, 1) := by decide +kernel
theorem dX7_rest_35 : decode cX7_rest 35 = .ok (.iload_n 3, 1) := by decide +kernel
theorem dX7_rest_36 : decode cX7_rest 36 = .ok (.ifCond .eq 7, 3) := by decide +kernel
theorem dX7_rest_39 : decode cX7_rest 39 = .ok (.lconst 1, 1) := by decide +kernel
theorem dX7_rest_40 : decode cX7_rest 40 = .ok (.goto 4, 3) := by decide +kernel
theorem dX7_rest_43 : decode cX7_rest 43 = .ok (.lconst 0, 1) := by decide +kernel
theorem dX7_rest_44 : decode cX7_rest 44 = .ok (.lreturn, 1) := by decide +kernel
theorem dX7_counterOf_0 : decode cX7_counterOf 0 = .ok (.aload_n 0, 1) := by decide +kernel
theorem dX7_counterOf_1 : decode cX7_counterOf 1 = .ok (.getfield 149, 3) := by decide +kernel
theorem dX7_counterOf_4 : decode cX7_counterOf 4 = .ok (.aload_n 0, 1) := by decide +kernel
theorem dX7_counterOf_5 : decode cX7_counterOf 5 = .ok (.getfield 20, 3) := by decide +kernel
theorem dX7_counterOf_8 : decode cX7_counterOf 8 = .ok (.iload_n 1, 1) := by decide +kernel
theorem dX7_counterOf_9 : decode cX7_counterOf 9 = .ok (.laload, 1) := by decide +kernel
theorem dX7_counterOf_10 : decode cX7_counterOf 10 = .ok (.lsub, 1) := by decide +kernel
theorem dX7_counterOf_11 : decode cX7_counterOf 11 = .ok (.aload_n 0, 1) := by decide +kernel
theorem dX7_counterOf_12 : decode cX7_counterOf 12 = .ok (.getfield 23, 3) := by decide +kernel
theorem dX7_counterOf_15 : decode cX7_counterOf 15 = .ok (.iload_n 1, 1) := by decide +kernel
theorem dX7_counterOf_16 : decode cX7_counterOf 16 = .ok (.laload, 1) := by decide +kernel
theorem dX7_counterOf_17 : decode cX7_counterOf 17 = .ok (.lmul, 1) := by decide +kernel
theorem dX7_counterOf_18 : decode cX7_counterOf 18 = .ok (.aload_n 0, 1) := by decide +kernel
theorem dX7_counterOf_19 : decode cX7_counterOf 19 = .ok (.getfield 26, 3) := by decide +kernel
theorem dX7_counterOf_22 : decode cX7_counterOf 22 = .ok (.iload_n 1, 1) := by decide +kernel
theorem dX7_counterOf_23 : decode cX7_counterOf 23 = .ok (.laload, 1) := by decide +kernel
theorem dX7_counterOf_24 : decode cX7_counterOf 24 = .ok (.invokestatic 135, 3) := by decide +kernel
theorem dX7_counterOf_27 : decode cX7_counterOf 27 = .ok (.lreturn, 1) := by decide +kernel
theorem dX7_counter_0 : decode cX7_counter 0 = .ok (.aload_n 0, 1) := by decide +kernel
theorem dX7_counter_1 : decode cX7_counter 1 = .ok (.iload_n 1, 1) := by decide +kernel
theorem dX7_counter_2 : decode cX7_counter 2 = .ok (.invokevirtual 163, 3) := by decide +kernel
theorem dX7_counter_5 : decode cX7_counter 5 = .ok (.ifCond .eq 11, 3) := by decide +kernel
theorem dX7_counter_8 : decode cX7_counter 8 = .ok (.aload_n 0, 1) := by decide +kernel
theorem dX7_counter_9 : decode cX7_counter 9 = .ok (.iload_n 1, 1) := by decide +kernel
theorem dX7_counter_10 : decode cX7_counter 10 = .ok (.invokevirtual 173, 3) := by decide +kernel
theorem dX7_counter_13 : decode cX7_counter 13 = .ok (.goto 6, 3) := by decide +kernel
theorem dX7_counter_16 : decode cX7_counter 16 = .ok (.ldc2_w 155, 3) := by decide +kernel
theorem dX7_counter_19 : decode cX7_counter 19 = .ok (.lreturn, 1) := by decide +kernel
theorem dX7_atLeast_0 : decode cX7_atLeast 0 = .ok (.lload_n 2, 1) := by decide +kernel
theorem dX7_atLeast_1 : decode cX7_atLeast 1 = .ok (.lconst 1, 1) := by decide +kernel
theorem dX7_atLeast_2 : decode cX7_atLeast 2 = .ok (.lsub, 1) := by decide +kernel
theorem dX7_atLeast_3 : decode cX7_atLeast 3 = .ok (.ldc2_w 167, 3) := by decide +kernel
theorem dX7_atLeast_6 : decode cX7_atLeast 6 = .ok (.lmul, 1) := by decide +kernel
theorem dX7_atLeast_7 : decode cX7_atLeast 7 = .ok (.ldc2_w 167, 3) := by decide +kernel
theorem dX7_atLeast_10 : decode cX7_atLeast 10 = .ok (.aload_n 0, 1) := by decide +kernel
theorem dX7_atLeast_11 : decode cX7_atLeast 11 = .ok (.getfield 13, 3) := by decide +kernel
theorem dX7_atLeast_14 : decode cX7_atLeast 14 = .ok (.iload_n 1, 1) := by decide +kernel
theorem dX7_atLeast_15 : decode cX7_atLeast 15 = .ok (.laload, 1) := by decide +kernel
theorem dX7_atLeast_16 : decode cX7_atLeast 16 = .ok (.ladd, 1) := by decide +kernel
theorem dX7_atLeast_17 : decode cX7_atLeast 17 = .ok (.invokestatic 135, 3) := by decide +kernel
theorem dX7_atLeast_20 : decode cX7_atLeast 20 = .ok (.lconst 1, 1) := by decide +kernel
theorem dX7_atLeast_21 : decode cX7_atLeast 21 = .ok (.ladd, 1) := by decide +kernel
theorem dX7_atLeast_22 : decode cX7_atLeast 22 = .ok (.lreturn, 1) := by decide +kernel
theorem dX7_atMost_0 : decode cX7_atMost 0 = .ok (.lload_n 2, 1) := by decide +kernel
theorem dX7_atMost_1 : decode cX7_atMost 1 = .ok (.lconst 1, 1) := by decide +kernel
theorem dX7_atMost_2 : decode cX7_atMost 2 = .ok (.ladd, 1) := by decide +kernel
theorem dX7_atMost_3 : decode cX7_atMost 3 = .ok (.ldc2_w 167, 3) := by decide +kernel
theorem dX7_atMost_6 : decode cX7_atMost 6 = .ok (.lmul, 1) := by decide +kernel
theorem dX7_atMost_7 : decode cX7_atMost 7 = .ok (.ldc2_w 167, 3) := by decide +kernel
theorem dX7_atMost_10 : decode cX7_atMost 10 = .ok (.aload_n 0, 1) := by decide +kernel
theorem dX7_atMost_11 : decode cX7_atMost 11 = .ok (.getfield 13, 3) := by decide +kernel
theorem dX7_atMost_14 : decode cX7_atMost 14 = .ok (.iload_n 1, 1) := by decide +kernel
theorem dX7_atMost_15 : decode cX7_atMost 15 = .ok (.laload, 1) := by decide +kernel
theorem dX7_atMost_16 : decode cX7_atMost 16 = .ok (.lsub, 1) := by decide +kernel
theorem dX7_atMost_17 : decode cX7_atMost 17 = .ok (.invokestatic 177, 3) := by decide +kernel
theorem dX7_atMost_20 : decode cX7_atMost 20 = .ok (.lconst 1, 1) := by decide +kernel
theorem dX7_atMost_21 : decode cX7_atMost 21 = .ok (.lsub, 1) := by decide +kernel
theorem dX7_atMost_22 : decode cX7_atMost 22 = .ok (.lreturn, 1) := by decide +kernel
theorem dX7_lowOf_0 : decode cX7_lowOf 0 = .ok (.aload_n 0, 1) := by decide +kernel
theorem dX7_lowOf_1 : decode cX7_lowOf 1 = .ok (.getfield 7, 3) := by decide +kernel
theorem dX7_lowOf_4 : decode cX7_lowOf 4 = .ok (.iload_n 1, 1) := by decide +kernel
theorem dX7_lowOf_5 : decode cX7_lowOf 5 = .ok (.iaload, 1) := by decide +kernel
theorem dX7_lowOf_6 : decode cX7_lowOf 6 = .ok (.iconst 3, 1) := by decide +kernel
theorem dX7_lowOf_7 : decode cX7_lowOf 7 = .ok (.if_icmp .ne 17, 3) := by decide +kernel
theorem dX7_lowOf_10 : decode cX7_lowOf 10 = .ok (.aload_n 0, 1) := by decide +kernel
theorem dX7_lowOf_11 : decode cX7_lowOf 11 = .ok (.getfield 149, 3) := by decide +kernel
theorem dX7_lowOf_14 : decode cX7_lowOf 14 = .ok (.aload_n 0, 1) := by decide +kernel
theorem dX7_lowOf_15 : decode cX7_lowOf 15 = .ok (.getfield 17, 3) := by decide +kernel
theorem dX7_lowOf_18 : decode cX7_lowOf 18 = .ok (.iload_n 1, 1) := by decide +kernel
theorem dX7_lowOf_19 : decode cX7_lowOf 19 = .ok (.laload, 1) := by decide +kernel
theorem dX7_lowOf_20 : decode cX7_lowOf 20 = .ok (.lsub, 1) := by decide +kernel
theorem dX7_lowOf_21 : decode cX7_lowOf 21 = .ok (.goto 27, 3) := by decide +kernel
theorem dX7_lowOf_24 : decode cX7_lowOf 24 = .ok (.aload_n 0, 1) := by decide +kernel
theorem dX7_lowOf_25 : decode cX7_lowOf 25 = .ok (.getfield 29, 3) := by decide +kernel
theorem dX7_lowOf_28 : decode cX7_lowOf 28 = .ok (.iload_n 1, 1) := by decide +kernel
theorem dX7_lowOf_29 : decode cX7_lowOf 29 = .ok (.laload, 1) := by decide +kernel
theorem dX7_lowOf_30 : decode cX7_lowOf 30 = .ok (.aload_n 0, 1) := by decide +kernel
theorem dX7_lowOf_31 : decode cX7_lowOf 31 = .ok (.iload_n 1, 1) := by decide +kernel
theorem dX7_lowOf_32 : decode cX7_lowOf 32 = .ok (.aload_n 0, 1) := by decide +kernel
theorem dX7_lowOf_33 : decode cX7_lowOf 33 = .ok (.iload_n 1, 1) := by decide +kernel
theorem dX7_lowOf_34 : decode cX7_lowOf 34 = .ok (.invokevirtual 173, 3) := by decide +kernel
theorem dX7_lowOf_37 : decode cX7_lowOf 37 = .ok (.aload_n 0, 1) := by decide +kernel
theorem dX7_lowOf_38 : decode cX7_lowOf 38 = .ok (.getfield 35, 3) := by decide +kernel
theorem dX7_lowOf_41 : decode cX7_lowOf 41 = .ok (.iload_n 1, 1) := by decide +kernel
theorem dX7_lowOf_42 : decode cX7_lowOf 42 = .ok (.laload, 1) := by decide +kernel
theorem dX7_lowOf_43 : decode cX7_lowOf 43 = .ok (.lsub, 1) := by decide +kernel
theorem dX7_lowOf_44 : decode cX7_lowOf 44 = .ok (.invokevirtual 180, 3) := by decide +kernel
theorem dX7_lowOf_47 : decode cX7_lowOf 47 = .ok (.ladd, 1) := by decide +kernel
theorem dX7_lowOf_48 : decode cX7_lowOf 48 = .ok (.lreturn, 1) := by decide +kernel
theorem dX7_highOf_0 : decode cX7_highOf 0 = .ok (.aload_n 0, 1) := by decide +kernel
theorem dX7_highOf_1 : decode cX7_highOf 1 = .ok (.getfield 7, 3) := by decide +kernel
theorem dX7_highOf_4 : decode cX7_highOf 4 = .ok (.iload_n 1, 1) := by decide +kernel
theorem dX7_highOf_5 : decode cX7_highOf 5 = .ok (.iaload, 1) := by decide +kernel
theorem dX7_highOf_6 : decode cX7_highOf 6 = .ok (.iconst 3, 1) := by decide +kernel
theorem dX7_highOf_7 : decode cX7_highOf 7 = .ok (.if_icmp .ne 17, 3) := by decide +kernel
theorem dX7_highOf_10 : decode cX7_highOf 10 = .ok (.aload_n 0, 1) := by decide +kernel
theorem dX7_highOf_11 : decode cX7_highOf 11 = .ok (.getfield 149, 3) := by decide +kernel
theorem dX7_highOf_14 : decode cX7_highOf 14 = .ok (.aload_n 0, 1) := by decide +kernel
theorem dX7_highOf_15 : decode cX7_highOf 15 = .ok (.getfield 17, 3) := by decide +kernel
theorem dX7_highOf_18 : decode cX7_highOf 18 = .ok (.iload_n 1, 1) := by decide +kernel
theorem dX7_highOf_19 : decode cX7_highOf 19 = .ok (.laload, 1) := by decide +kernel
theorem dX7_highOf_20 : decode cX7_highOf 20 = .ok (.ladd, 1) := by decide +kernel
theorem dX7_highOf_21 : decode cX7_highOf 21 = .ok (.goto 27, 3) := by decide +kernel
theorem dX7_highOf_24 : decode cX7_highOf 24 = .ok (.aload_n 0, 1) := by decide +kernel
theorem dX7_highOf_25 : decode cX7_highOf 25 = .ok (.getfield 32, 3) := by decide +kernel
theorem dX7_highOf_28 : decode cX7_highOf 28 = .ok (.iload_n 1, 1) := by decide +kernel
theorem dX7_highOf_29 : decode cX7_highOf 29 = .ok (.laload, 1) := by decide +kernel
theorem dX7_highOf_30 : decode cX7_highOf 30 = .ok (.aload_n 0, 1) := by decide +kernel
theorem dX7_highOf_31 : decode cX7_highOf 31 = .ok (.iload_n 1, 1) := by decide +kernel
theorem dX7_highOf_32 : decode cX7_highOf 32 = .ok (.aload_n 0, 1) := by decide +kernel
theorem dX7_highOf_33 : decode cX7_highOf 33 = .ok (.iload_n 1, 1) := by decide +kernel
theorem dX7_highOf_34 : decode cX7_highOf 34 = .ok (.invokevirtual 173, 3) := by decide +kernel
theorem dX7_highOf_37 : decode cX7_highOf 37 = .ok (.aload_n 0, 1) := by decide +kernel
theorem dX7_highOf_38 : decode cX7_highOf 38 = .ok (.getfield 35, 3) := by decide +kernel
theorem dX7_highOf_41 : decode cX7_highOf 41 = .ok (.iload_n 1, 1) := by decide +kernel
theorem dX7_highOf_42 : decode cX7_highOf 42 = .ok (.laload, 1) := by decide +kernel
theorem dX7_highOf_43 : decode cX7_highOf 43 = .ok (.lsub, 1) := by decide +kernel
theorem dX7_highOf_44 : decode cX7_highOf 44 = .ok (.invokevirtual 184, 3) := by decide +kernel
theorem dX7_highOf_47 : decode cX7_highOf 47 = .ok (.ladd, 1) := by decide +kernel
theorem dX7_highOf_48 : decode cX7_highOf 48 = .ok (.lreturn, 1) := by decide +kernel
theorem dX7_heardLowOf_0 : decode cX7_heardLowOf 0 = .ok (.aload_n 0, 1) := by decide +kernel
theorem dX7_heardLowOf_1 : decode cX7_heardLowOf 1 = .ok (.getfield 63, 3) := by decide +kernel
theorem dX7_heardLowOf_4 : decode cX7_heardLowOf 4 = .ok (.bipush 10, 2) := by decide +kernel
theorem dX7_heardLowOf_6 : decode cX7_heardLowOf 6 = .ok (.iload_n 1, 1) := by decide +kernel
theorem dX7_heardLowOf_7 : decode cX7_heardLowOf 7 = .ok (.imul, 1) := by decide +kernel
theorem dX7_heardLowOf_8 : decode cX7_heardLowOf 8 = .ok (.iload_n 2, 1) := by decide +kernel
theorem dX7_heardLowOf_9 : decode cX7_heardLowOf 9 = .ok (.iadd, 1) := by decide +kernel
theorem dX7_heardLowOf_10 : decode cX7_heardLowOf 10 = .ok (.laload, 1) := by decide +kernel
theorem dX7_heardLowOf_11 : decode cX7_heardLowOf 11 = .ok (.aload_n 0, 1) := by decide +kernel
theorem dX7_heardLowOf_12 : decode cX7_heardLowOf 12 = .ok (.iload_n 1, 1) := by decide +kernel
theorem dX7_heardLowOf_13 : decode cX7_heardLowOf 13 = .ok (.aload_n 0, 1) := by decide +kernel
theorem dX7_heardLowOf_14 : decode cX7_heardLowOf 14 = .ok (.iload_n 1, 1) := by decide +kernel
theorem dX7_heardLowOf_15 : decode cX7_heardLowOf 15 = .ok (.invokevirtual 173, 3) := by decide +kernel
theorem dX7_heardLowOf_18 : decode cX7_heardLowOf 18 = .ok (.aload_n 0, 1) := by decide +kernel
theorem dX7_heardLowOf_19 : decode cX7_heardLowOf 19 = .ok (.getfield 69, 3) := by decide +kernel
theorem dX7_heardLowOf_22 : decode cX7_heardLowOf 22 = .ok (.bipush 10, 2) := by decide +kernel
theorem dX7_heardLowOf_24 : decode cX7_heardLowOf 24 = .ok (.iload_n 1, 1) := by decide +kernel
theorem dX7_heardLowOf_25 : decode cX7_heardLowOf 25 = .ok (.imul, 1) := by decide +kernel
theorem dX7_heardLowOf_26 : decode cX7_heardLowOf 26 = .ok (.iload_n 2, 1) := by decide +kernel
theorem dX7_heardLowOf_27 : decode cX7_heardLowOf 27 = .ok (.iadd, 1) := by decide +kernel
theorem dX7_heardLowOf_28 : decode cX7_heardLowOf 28 = .ok (.laload, 1) := by decide +kernel
theorem dX7_heardLowOf_29 : decode cX7_heardLowOf 29 = .ok (.lsub, 1) := by decide +kernel
theorem dX7_heardLowOf_30 : decode cX7_heardLowOf 30 = .ok (.invokevirtual 180, 3) := by decide +kernel
theorem dX7_heardLowOf_33 : decode cX7_heardLowOf 33 = .ok (.ladd, 1) := by decide +kernel
theorem dX7_heardLowOf_34 : decode cX7_heardLowOf 34 = .ok (.lreturn, 1) := by decide +kernel
theorem dX7_heardHighOf_0 : decode cX7_heardHighOf 0 = .ok (.aload_n 0, 1) := by decide +kernel
theorem dX7_heardHighOf_1 : decode cX7_heardHighOf 1 = .ok (.getfield 66, 3) := by decide +kernel
theorem dX7_heardHighOf_4 : decode cX7_heardHighOf 4 = .ok (.bipush 10, 2) := by decide +kernel
theorem dX7_heardHighOf_6 : decode cX7_heardHighOf 6 = .ok (.iload_n 1, 1) := by decide +kernel
theorem dX7_heardHighOf_7 : decode cX7_heardHighOf 7 = .ok (.imul, 1) := by decide +kernel
theorem dX7_heardHighOf_8 : decode cX7_heardHighOf 8 = .ok (.iload_n 2, 1) := by decide +kernel
theorem dX7_heardHighOf_9 : decode cX7_heardHighOf 9 = .ok (.iadd, 1) := by decide +kernel
theorem dX7_heardHighOf_10 : decode cX7_heardHighOf 10 = .ok (.laload, 1) := by decide +kernel
theorem dX7_heardHighOf_11 : decode cX7_heardHighOf 11 = .ok (.aload_n 0, 1) := by decide +kernel
theorem dX7_heardHighOf_12 : decode cX7_heardHighOf 12 = .ok (.iload_n 1, 1) := by decide +kernel
theorem dX7_heardHighOf_13 : decode cX7_heardHighOf 13 = .ok (.aload_n 0, 1) := by decide +kernel
theorem dX7_heardHighOf_14 : decode cX7_heardHighOf 14 = .ok (.iload_n 1, 1) := by decide +kernel
theorem dX7_heardHighOf_15 : decode cX7_heardHighOf 15 = .ok (.invokevirtual 173, 3) := by decide +kernel
theorem dX7_heardHighOf_18 : decode cX7_heardHighOf 18 = .ok (.aload_n 0, 1) := by decide +kernel
theorem dX7_heardHighOf_19 : decode cX7_heardHighOf 19 = .ok (.getfield 69, 3) := by decide +kernel
theorem dX7_heardHighOf_22 : decode cX7_heardHighOf 22 = .ok (.bipush 10, 2) := by decide +kernel
theorem dX7_heardHighOf_24 : decode cX7_heardHighOf 24 = .ok (.iload_n 1, 1) := by decide +kernel
theorem dX7_heardHighOf_25 : decode cX7_heardHighOf 25 = .ok (.imul, 1) := by decide +kernel
theorem dX7_heardHighOf_26 : decode cX7_heardHighOf 26 = .ok (.iload_n 2, 1) := by decide +kernel
theorem dX7_heardHighOf_27 : decode cX7_heardHighOf 27 = .ok (.iadd, 1) := by decide +kernel
theorem dX7_heardHighOf_28 : decode cX7_heardHighOf 28 = .ok (.laload, 1) := by decide +kernel
theorem dX7_heardHighOf_29 : decode cX7_heardHighOf 29 = .ok (.lsub, 1) := by decide +kernel
theorem dX7_heardHighOf_30 : decode cX7_heardHighOf 30 = .ok (.invokevirtual 184, 3) := by decide +kernel
theorem dX7_heardHighOf_33 : decode cX7_heardHighOf 33 = .ok (.ladd, 1) := by decide +kernel
theorem dX7_heardHighOf_34 : decode cX7_heardHighOf 34 = .ok (.lreturn, 1) := by decide +kernel
theorem dX7_heardMany_0 : decode cX7_heardMany 0 = .ok (.iconst 0, 1) := by decide +kernel
theorem dX7_heardMany_1 : decode cX7_heardMany 1 = .ok (.istore_n 2, 1) := by decide +kernel
theorem dX7_heardMany_2 : decode cX7_heardMany 2 = .ok (.iconst 0, 1) := by decide +kernel
theorem dX7_heardMany_3 : decode cX7_heardMany 3 = .ok (.istore_n 3, 1) := by decide +kernel
theorem dX7_heardMany_4 : decode cX7_heardMany 4 = .ok (.iload_n 3, 1) := by decide +kernel
theorem dX7_heardMany_5 : decode cX7_heardMany 5 = .ok (.aload_n 0, 1) := by decide +kernel
theorem dX7_heardMany_6 : decode cX7_heardMany 6 = .ok (.getfield 139, 3) := by decide +kernel
theorem dX7_heardMany_9 : decode cX7_heardMany 9 = .ok (.if_icmp .ge 31, 3) := by decide +kernel
theorem dX7_heardMany_12 : decode cX7_heardMany 12 = .ok (.iload_n 2, 1) := by decide +kernel
theorem dX7_heardMany_13 : decode cX7_heardMany 13 = .ok (.aload_n 0, 1) := by decide +kernel
theorem dX7_heardMany_14 : decode cX7_heardMany 14 = .ok (.getfield 60, 3) := by decide +kernel
theorem dX7_heardMany_17 : decode cX7_heardMany 17 = .ok (.bipush 10, 2) := by decide +kernel
theorem dX7_heardMany_19 : decode cX7_heardMany 19 = .ok (.iload_n 1, 1) := by decide +kernel
theorem dX7_heardMany_20 : decode cX7_heardMany 20 = .ok (.imul, 1) := by decide +kernel
theorem dX7_heardMany_21 : decode cX7_heardMany 21 = .ok (.iload_n 3, 1) := by decide +kernel
theorem dX7_heardMany_22 : decode cX7_heardMany 22 = .ok (.iadd, 1) := by decide +kernel
theorem dX7_heardMany_23 : decode cX7_heardMany 23 = .ok (.baload, 1) := by decide +kernel
theorem dX7_heardMany_24 : decode cX7_heardMany 24 = .ok (.ifCond .eq 7, 3) := by decide +kernel
theorem dX7_heardMany_27 : decode cX7_heardMany 27 = .ok (.iconst 1, 1) := by decide +kernel
theorem dX7_heardMany_28 : decode cX7_heardMany 28 = .ok (.goto 4, 3) := by decide +kernel
theorem dX7_heardMany_31 : decode cX7_heardMany 31 = .ok (.iconst 0, 1) := by decide +kernel
theorem dX7_heardMany_32 : decode cX7_heardMany 32 = .ok (.iadd, 1) := by decide +kernel
theorem dX7_heardMany_33 : decode cX7_heardMany 33 = .ok (.istore_n 2, 1) := by decide +kernel
theorem dX7_heardMany_34 : decode cX7_heardMany 34 = .ok (.iinc 3 1, 3) := by decide +kernel
theorem dX7_heardMany_37 : decode cX7_heardMany 37 = .ok (.goto (-33), 3) := by decide +kernel
theorem dX7_heardMany_40 : decode cX7_heardMany 40 = .ok (.iload_n 2, 1) := by decide +kernel
theorem dX7_heardMany_41 : decode cX7_heardMany 41 = .ok (.ireturn, 1) := by decide +kernel
theorem dX7_of_0 : decode cX7_of 0 = .ok (.aload_n 0, 1) := by decide +kernel
theorem dX7_of_1 : decode cX7_of 1 = .ok (.iload_n 1, 1) := by decide +kernel
theorem dX7_of_2 : decode cX7_of 2 = .ok (.invokevirtual 163, 3) := by decide +kernel
theorem dX7_of_5 : decode cX7_of 5 = .ok (.ifCond .ne 7, 3) := by decide +kernel
theorem dX7_of_8 : decode cX7_of 8 = .ok (.ldc2_w 155, 3) := by decide +kernel
theorem dX7_of_11 : decode cX7_of 11 = .ok (.lreturn, 1) := by decide +kernel
theorem dX7_of_12 : decode cX7_of 12 = .ok (.iload_n 2, 1) := by decide +kernel
theorem dX7_of_13 : decode cX7_of 13 = .ok (.tableswitch 142 0 8 #[51, 57, 63, 71, 86, 93, 119, 127, 135], 51) := by decide +kernel
theorem dX7_of_64 : decode cX7_of 64 = .ok (.aload_n 0, 1) := by decide +kernel
theorem dX7_of_65 : decode cX7_of 65 = .ok (.iload_n 1, 1) := by decide +kernel
theorem dX7_of_66 : decode cX7_of 66 = .ok (.invokevirtual 187, 3) := by decide +kernel
theorem dX7_of_69 : decode cX7_of 69 = .ok (.lreturn, 1) := by decide +kernel
theorem dX7_of_70 : decode cX7_of 70 = .ok (.aload_n 0, 1) := by decide +kernel
theorem dX7_of_71 : decode cX7_of 71 = .ok (.iload_n 1, 1) := by decide +kernel
theorem dX7_of_72 : decode cX7_of 72 = .ok (.invokevirtual 190, 3) := by decide +kernel
theorem dX7_of_75 : decode cX7_of 75 = .ok (.lreturn, 1) := by decide +kernel
theorem dX7_of_76 : decode cX7_of 76 = .ok (.aload_n 0, 1) := by decide +kernel
theorem dX7_of_77 : decode cX7_of 77 = .ok (.getfield 7, 3) := by decide +kernel
theorem dX7_of_80 : decode cX7_of 80 = .ok (.iload_n 1, 1) := by decide +kernel
theorem dX7_of_81 : decode cX7_of 81 = .ok (.iaload, 1) := by decide +kernel
theorem dX7_of_82 : decode cX7_of 82 = .ok (.i2l, 1) := by decide +kernel
theorem dX7_of_83 : decode cX7_of 83 = .ok (.lreturn, 1) := by decide +kernel
theorem dX7_of_84 : decode cX7_of 84 = .ok (.aload_n 0, 1) := by decide +kernel
theorem dX7_of_85 : decode cX7_of 85 = .ok (.getfield 44, 3) := by decide +kernel
theorem dX7_of_88 : decode cX7_of 88 = .ok (.iload_n 1, 1) := by decide +kernel
theorem dX7_of_89 : decode cX7_of 89 = .ok (.baload, 1) := by decide +kernel
theorem dX7_of_90 : decode cX7_of 90 = .ok (.ifCond .eq 7, 3) := by decide +kernel
theorem dX7_of_93 : decode cX7_of 93 = .ok (.lconst 1, 1) := by decide +kernel
theorem dX7_of_94 : decode cX7_of 94 = .ok (.goto 4, 3) := by decide +kernel
theorem dX7_of_97 : decode cX7_of 97 = .ok (.lconst 0, 1) := by decide +kernel
theorem dX7_of_98 : decode cX7_of 98 = .ok (.lreturn, 1) := by decide +kernel
theorem dX7_of_99 : decode cX7_of 99 = .ok (.aload_n 0, 1) := by decide +kernel
theorem dX7_of_100 : decode cX7_of 100 = .ok (.getfield 48, 3) := by decide +kernel
theorem dX7_of_103 : decode cX7_of 103 = .ok (.iload_n 1, 1) := by decide +kernel
theorem dX7_of_104 : decode cX7_of 104 = .ok (.laload, 1) := by decide +kernel
theorem dX7_of_105 : decode cX7_of 105 = .ok (.lreturn, 1) := by decide +kernel
theorem dX7_of_106 : decode cX7_of 106 = .ok (.aload_n 0, 1) := by decide +kernel
theorem dX7_of_107 : decode cX7_of 107 = .ok (.getfield 149, 3) := by decide +kernel
theorem dX7_of_110 : decode cX7_of 110 = .ok (.aload_n 0, 1) := by decide +kernel
theorem dX7_of_111 : decode cX7_of 111 = .ok (.iload_n 1, 1) := by decide +kernel
theorem dX7_of_112 : decode cX7_of 112 = .ok (.invokevirtual 187, 3) := by decide +kernel
theorem dX7_of_115 : decode cX7_of 115 = .ok (.aload_n 0, 1) := by decide +kernel
theorem dX7_of_116 : decode cX7_of 116 = .ok (.iload_n 1, 1) := by decide +kernel
theorem dX7_of_117 : decode cX7_of 117 = .ok (.invokevirtual 190, 3) := by decide +kernel
theorem dX7_of_120 : decode cX7_of 120 = .ok (.invokestatic 143, 3) := by decide +kernel
theorem dX7_of_123 : decode cX7_of 123 = .ok (.ifCond .eq 7, 3) := by decide +kernel
theorem dX7_of_126 : decode cX7_of 126 = .ok (.lconst 1, 1) := by decide +kernel
theorem dX7_of_127 : decode cX7_of 127 = .ok (.goto 4, 3) := by decide +kernel
theorem dX7_of_130 : decode cX7_of 130 = .ok (.lconst 0, 1) := by decide +kernel
theorem dX7_of_131 : decode cX7_of 131 = .ok (.lreturn, 1) := by decide +kernel
theorem dX7_of_132 : decode cX7_of 132 = .ok (.aload_n 0, 1) := by decide +kernel
theorem dX7_of_133 : decode cX7_of 133 = .ok (.getfield 54, 3) := by decide +kernel
theorem dX7_of_136 : decode cX7_of 136 = .ok (.iload_n 1, 1) := by decide +kernel
theorem dX7_of_137 : decode cX7_of 137 = .ok (.iaload, 1) := by decide +kernel
theorem dX7_of_138 : decode cX7_of 138 = .ok (.i2l, 1) := by decide +kernel
theorem dX7_of_139 : decode cX7_of 139 = .ok (.lreturn, 1) := by decide +kernel
theorem dX7_of_140 : decode cX7_of 140 = .ok (.aload_n 0, 1) := by decide +kernel
theorem dX7_of_141 : decode cX7_of 141 = .ok (.getfield 57, 3) := by decide +kernel
theorem dX7_of_144 : decode cX7_of 144 = .ok (.iload_n 1, 1) := by decide +kernel
theorem dX7_of_145 : decode cX7_of 145 = .ok (.iaload, 1) := by decide +kernel
theorem dX7_of_146 : decode cX7_of 146 = .ok (.i2l, 1) := by decide +kernel
theorem dX7_of_147 : decode cX7_of 147 = .ok (.lreturn, 1) := by decide +kernel
theorem dX7_of_148 : decode cX7_of 148 = .ok (.aload_n 0, 1) := by decide +kernel
theorem dX7_of_149 : decode cX7_of 149 = .ok (.iload_n 1, 1) := by decide +kernel
theorem dX7_of_150 : decode cX7_of 150 = .ok (.invokevirtual 193, 3) := by decide +kernel
theorem dX7_of_153 : decode cX7_of 153 = .ok (.i2l, 1) := by decide +kernel
theorem dX7_of_154 : decode cX7_of 154 = .ok (.lreturn, 1) := by decide +kernel
theorem dX7_of_155 : decode cX7_of 155 = .ok (.ldc2_w 155, 3) := by decide +kernel
theorem dX7_of_158 : decode cX7_of 158 = .ok (.lreturn, 1) := by decide +kernel
theorem dX7_ask_0 : decode cX7_ask 0 = .ok (.aload_n 0, 1) := by decide +kernel
theorem dX7_ask_1 : decode cX7_ask 1 = .ok (.iload_n 1, 1) := by decide +kernel
theorem dX7_ask_2 : decode cX7_ask 2 = .ok (.invokevirtual 163, 3) := by decide +kernel
theorem dX7_ask_5 : decode cX7_ask 5 = .ok (.ifCond .eq 44, 3) := by decide +kernel
theorem dX7_ask_8 : decode cX7_ask 8 = .ok (.aload_n 0, 1) := by decide +kernel
theorem dX7_ask_9 : decode cX7_ask 9 = .ok (.iload_n 2, 1) := by decide +kernel
theorem dX7_ask_10 : decode cX7_ask 10 = .ok (.invokevirtual 163, 3) := by decide +kernel
theorem dX7_ask_13 : decode cX7_ask 13 = .ok (.ifCond .eq 36, 3) := by decide +kernel
theorem dX7_ask_16 : decode cX7_ask 16 = .ok (.iload_n 1, 1) := by decide +kernel
theorem dX7_ask_17 : decode cX7_ask 17 = .ok (.iload_n 2, 1) := by decide +kernel
theorem dX7_ask_18 : decode cX7_ask 18 = .ok (.if_icmp .eq 31, 3) := by decide +kernel
theorem dX7_ask_21 : decode cX7_ask 21 = .ok (.aload_n 0, 1) := by decide +kernel
theorem dX7_ask_22 : decode cX7_ask 22 = .ok (.getfield 7, 3) := by decide +kernel
theorem dX7_ask_25 : decode cX7_ask 25 = .ok (.iload_n 1, 1) := by decide +kernel
theorem dX7_ask_26 : decode cX7_ask 26 = .ok (.iaload, 1) := by decide +kernel
theorem dX7_ask_27 : decode cX7_ask 27 = .ok (.ifCond .eq 22, 3) := by decide +kernel
theorem dX7_ask_30 : decode cX7_ask 30 = .ok (.aload_n 0, 1) := by decide +kernel
theorem dX7_ask_31 : decode cX7_ask 31 = .ok (.getfield 44, 3) := by decide +kernel
theorem dX7_ask_34 : decode cX7_ask 34 = .ok (.iload_n 1, 1) := by decide +kernel
theorem dX7_ask_35 : decode cX7_ask 35 = .ok (.baload, 1) := by decide +kernel
theorem dX7_ask_36 : decode cX7_ask 36 = .ok (.ifCond .ne 13, 3) := by decide +kernel
theorem dX7_ask_39 : decode cX7_ask 39 = .ok (.aload_n 0, 1) := by decide +kernel
theorem dX7_ask_40 : decode cX7_ask 40 = .ok (.getfield 197, 3) := by decide +kernel
theorem dX7_ask_43 : decode cX7_ask 43 = .ok (.sipush 200, 3) := by decide +kernel
theorem dX7_ask_46 : decode cX7_ask 46 = .ok (.if_icmp .ne 7, 3) := by decide +kernel
theorem dX7_ask_49 : decode cX7_ask 49 = .ok (.ldc2_w 155, 3) := by decide +kernel
theorem dX7_ask_52 : decode cX7_ask 52 = .ok (.lreturn, 1) := by decide +kernel
theorem dX7_ask_53 : decode cX7_ask 53 = .ok (.aload_n 0, 1) := by decide +kernel
theorem dX7_ask_54 : decode cX7_ask 54 = .ok (.getfield 72, 3) := by decide +kernel
theorem dX7_ask_57 : decode cX7_ask 57 = .ok (.aload_n 0, 1) := by decide +kernel
theorem dX7_ask_58 : decode cX7_ask 58 = .ok (.getfield 197, 3) := by decide +kernel
theorem dX7_ask_61 : decode cX7_ask 61 = .ok (.iload_n 1, 1) := by decide +kernel
theorem dX7_ask_62 : decode cX7_ask 62 = .ok (.iastore, 1) := by decide +kernel
theorem dX7_ask_63 : decode cX7_ask 63 = .ok (.aload_n 0, 1) := by decide +kernel
theorem dX7_ask_64 : decode cX7_ask 64 = .ok (.getfield 75, 3) := by decide +kernel
theorem dX7_ask_67 : decode cX7_ask 67 = .ok (.aload_n 0, 1) := by decide +kernel
theorem dX7_ask_68 : decode cX7_ask 68 = .ok (.getfield 197, 3) := by decide +kernel
theorem dX7_ask_71 : decode cX7_ask 71 = .ok (.iload_n 2, 1) := by decide +kernel
theorem dX7_ask_72 : decode cX7_ask 72 = .ok (.iastore, 1) := by decide +kernel
theorem dX7_ask_73 : decode cX7_ask 73 = .ok (.aload_n 0, 1) := by decide +kernel
theorem dX7_ask_74 : decode cX7_ask 74 = .ok (.getfield 78, 3) := by decide +kernel
theorem dX7_ask_77 : decode cX7_ask 77 = .ok (.aload_n 0, 1) := by decide +kernel
theorem dX7_ask_78 : decode cX7_ask 78 = .ok (.getfield 197, 3) := by decide +kernel
theorem dX7_ask_81 : decode cX7_ask 81 = .ok (.iconst 0, 1) := by decide +kernel
theorem dX7_ask_82 : decode cX7_ask 82 = .ok (.iastore, 1) := by decide +kernel
theorem dX7_ask_83 : decode cX7_ask 83 = .ok (.aload_n 0, 1) := by decide +kernel
theorem dX7_ask_84 : decode cX7_ask 84 = .ok (.getfield 81, 3) := by decide +kernel
theorem dX7_ask_87 : decode cX7_ask 87 = .ok (.aload_n 0, 1) := by decide +kernel
theorem dX7_ask_88 : decode cX7_ask 88 = .ok (.getfield 197, 3) := by decide +kernel
theorem dX7_ask_91 : decode cX7_ask 91 = .ok (.aload_n 0, 1) := by decide +kernel
theorem dX7_ask_92 : decode cX7_ask 92 = .ok (.iload_n 1, 1) := by decide +kernel
theorem dX7_ask_93 : decode cX7_ask 93 = .ok (.invokevirtual 173, 3) := by decide +kernel
theorem dX7_ask_96 : decode cX7_ask 96 = .ok (.lastore, 1) := by decide +kernel
theorem dX7_ask_97 : decode cX7_ask 97 = .ok (.aload_n 0, 1) := by decide +kernel
theorem dX7_ask_98 : decode cX7_ask 98 = .ok (.getfield 84, 3) := by decide +kernel
theorem dX7_ask_101 : decode cX7_ask 101 = .ok (.aload_n 0, 1) := by decide +kernel
theorem dX7_ask_102 : decode cX7_ask 102 = .ok (.getfield 197, 3) := by decide +kernel
theorem dX7_ask_105 : decode cX7_ask 105 = .ok (.iconst 0, 1) := by decide +kernel
theorem dX7_ask_106 : decode cX7_ask 106 = .ok (.bastore, 1) := by decide +kernel
theorem dX7_ask_107 : decode cX7_ask 107 = .ok (.aload_n 0, 1) := by decide +kernel
theorem dX7_ask_108 : decode cX7_ask 108 = .ok (.dup, 1) := by decide +kernel
theorem dX7_ask_109 : decode cX7_ask 109 = .ok (.getfield 197, 3) := by decide +kernel
theorem dX7_ask_112 : decode cX7_ask 112 = .ok (.iconst 1, 1) := by decide +kernel
theorem dX7_ask_113 : decode cX7_ask 113 = .ok (.iadd, 1) := by decide +kernel
theorem dX7_ask_114 : decode cX7_ask 114 = .ok (.putfield 197, 3) := by decide +kernel
theorem dX7_ask_117 : decode cX7_ask 117 = .ok (.aload_n 0, 1) := by decide +kernel
theorem dX7_ask_118 : decode cX7_ask 118 = .ok (.getfield 197, 3) := by decide +kernel
theorem dX7_ask_121 : decode cX7_ask 121 = .ok (.iconst 1, 1) := by decide +kernel
theorem dX7_ask_122 : decode cX7_ask 122 = .ok (.isub, 1) := by decide +kernel
theorem dX7_ask_123 : decode cX7_ask 123 = .ok (.i2l, 1) := by decide +kernel
theorem dX7_ask_124 : decode cX7_ask 124 = .ok (.lreturn, 1) := by decide +kernel
theorem dX7_isUnderWay_0 : decode cX7_isUnderWay 0 = .ok (.iload_n 1, 1) := by decide +kernel
theorem dX7_isUnderWay_1 : decode cX7_isUnderWay 1 = .ok (.i2l, 1) := by decide +kernel
theorem dX7_isUnderWay_2 : decode cX7_isUnderWay 2 = .ok (.lconst 0, 1) := by decide +kernel
theorem dX7_isUnderWay_3 : decode cX7_isUnderWay 3 = .ok (.aload_n 0, 1) := by decide +kernel
theorem dX7_isUnderWay_4 : decode cX7_isUnderWay 4 = .ok (.getfield 197, 3) := by decide +kernel
theorem dX7_isUnderWay_7 : decode cX7_isUnderWay 7 = .ok (.i2l, 1) := by decide +kernel
theorem dX7_isUnderWay_8 : decode cX7_isUnderWay 8 = .ok (.lconst 1, 1) := by decide +kernel
theorem dX7_isUnderWay_9 : decode cX7_isUnderWay 9 = .ok (.lsub, 1) := by decide +kernel
theorem dX7_isUnderWay_10 : decode cX7_isUnderWay 10 = .ok (.invokestatic 143, 3) := by decide +kernel
theorem dX7_isUnderWay_13 : decode cX7_isUnderWay 13 = .ok (.ifCond .eq 17, 3) := by decide +kernel
theorem dX7_isUnderWay_16 : decode cX7_isUnderWay 16 = .ok (.aload_n 0, 1) := by decide +kernel
theorem dX7_isUnderWay_17 : decode cX7_isUnderWay 17 = .ok (.getfield 78, 3) := by decide +kernel
theorem dX7_isUnderWay_20 : decode cX7_isUnderWay 20 = .ok (.iload_n 1, 1) := by decide +kernel
theorem dX7_isUnderWay_21 : decode cX7_isUnderWay 21 = .ok (.iaload, 1) := by decide +kernel
theorem dX7_isUnderWay_22 : decode cX7_isUnderWay 22 = .ok (.iconst 2, 1) := by decide +kernel
theorem dX7_isUnderWay_23 : decode cX7_isUnderWay 23 = .ok (.if_icmp .ge 7, 3) := by decide +kernel
theorem dX7_isUnderWay_26 : decode cX7_isUnderWay 26 = .ok (.iconst 1, 1) := by decide +kernel
theorem dX7_isUnderWay_27 : decode cX7_isUnderWay 27 = .ok (.goto 4, 3) := by decide +kernel
theorem dX7_isUnderWay_30 : decode cX7_isUnderWay 30 = .ok (.iconst 0, 1) := by decide +kernel
theorem dX7_isUnderWay_31 : decode cX7_isUnderWay 31 = .ok (.ireturn, 1) := by decide +kernel
theorem dX7_deliver_0 : decode cX7_deliver 0 = .ok (.aload_n 0, 1) := by decide +kernel
theorem dX7_deliver_1 : decode cX7_deliver 1 = .ok (.iload_n 1, 1) := by decide +kernel
theorem dX7_deliver_2 : decode cX7_deliver 2 = .ok (.invokevirtual 200, 3) := by decide +kernel
theorem dX7_deliver_5 : decode cX7_deliver 5 = .ok (.ifCond .ne 7, 3) := by decide +kernel
theorem dX7_deliver_8 : decode cX7_deliver 8 = .ok (.ldc2_w 155, 3) := by decide +kernel
theorem dX7_deliver_11 : decode cX7_deliver 11 = .ok (.lreturn, 1) := by decide +kernel
theorem dX7_deliver_12 : decode cX7_deliver 12 = .ok (.aload_n 0, 1) := by decide +kernel
theorem dX7_deliver_13 : decode cX7_deliver 13 = .ok (.getfield 72, 3) := by decide +kernel
theorem dX7_deliver_16 : decode cX7_deliver 16 = .ok (.iload_n 1, 1) := by decide +kernel
theorem dX7_deliver_17 : decode cX7_deliver 17 = .ok (.iaload, 1) := by decide +kernel
theorem dX7_deliver_18 : decode cX7_deliver 18 = .ok (.istore_n 2, 1) := by decide +kernel
theorem dX7_deliver_19 : decode cX7_deliver 19 = .ok (.aload_n 0, 1) := by decide +kernel
theorem dX7_deliver_20 : decode cX7_deliver 20 = .ok (.getfield 75, 3) := by decide +kernel
theorem dX7_deliver_23 : decode cX7_deliver 23 = .ok (.iload_n 1, 1) := by decide +kernel
theorem dX7_deliver_24 : decode cX7_deliver 24 = .ok (.iaload, 1) := by decide +kernel
theorem dX7_deliver_25 : decode cX7_deliver 25 = .ok (.istore_n 3, 1) := by decide +kernel
theorem dX7_deliver_26 : decode cX7_deliver 26 = .ok (.aload_n 0, 1) := by decide +kernel
theorem dX7_deliver_27 : decode cX7_deliver 27 = .ok (.getfield 78, 3) := by decide +kernel
theorem dX7_deliver_30 : decode cX7_deliver 30 = .ok (.iload_n 1, 1) := by decide +kernel
theorem dX7_deliver_31 : decode cX7_deliver 31 = .ok (.iaload, 1) := by decide +kernel
theorem dX7_deliver_32 : decode cX7_deliver 32 = .ok (.ifCond .ne 97, 3) := by decide +kernel
theorem dX7_deliver_35 : decode cX7_deliver 35 = .ok (.aload_n 0, 1) := by decide +kernel
theorem dX7_deliver_36 : decode cX7_deliver 36 = .ok (.getfield 44, 3) := by decide +kernel
theorem dX7_deliver_39 : decode cX7_deliver 39 = .ok (.iload_n 3, 1) := by decide +kernel
theorem dX7_deliver_40 : decode cX7_deliver 40 = .ok (.baload, 1) := by decide +kernel
theorem dX7_deliver_41 : decode cX7_deliver 41 = .ok (.ifCond .eq 12, 3) := by decide +kernel
theorem dX7_deliver_44 : decode cX7_deliver 44 = .ok (.aload_n 0, 1) := by decide +kernel
theorem dX7_deliver_45 : decode cX7_deliver 45 = .ok (.getfield 78, 3) := by decide +kernel
theorem dX7_deliver_48 : decode cX7_deliver 48 = .ok (.iload_n 1, 1) := by decide +kernel
theorem dX7_deliver_49 : decode cX7_deliver 49 = .ok (.iconst 3, 1) := by decide +kernel
theorem dX7_deliver_50 : decode cX7_deliver 50 = .ok (.iastore, 1) := by decide +kernel
theorem dX7_deliver_51 : decode cX7_deliver 51 = .ok (.lconst 0, 1) := by decide +kernel
theorem dX7_deliver_52 : decode cX7_deliver 52 = .ok (.lreturn, 1) := by decide +kernel
theorem dX7_deliver_53 : decode cX7_deliver 53 = .ok (.aload_n 0, 1) := by decide +kernel
theorem dX7_deliver_54 : decode cX7_deliver 54 = .ok (.getfield 84, 3) := by decide +kernel
theorem dX7_deliver_57 : decode cX7_deliver 57 = .ok (.iload_n 1, 1) := by decide +kernel
theorem dX7_deliver_58 : decode cX7_deliver 58 = .ok (.iconst 1, 1) := by decide +kernel
theorem dX7_deliver_59 : decode cX7_deliver 59 = .ok (.bastore, 1) := by decide +kernel
theorem dX7_deliver_60 : decode cX7_deliver 60 = .ok (.aload_n 0, 1) := by decide +kernel
theorem dX7_deliver_61 : decode cX7_deliver 61 = .ok (.getfield 87, 3) := by decide +kernel
theorem dX7_deliver_64 : decode cX7_deliver 64 = .ok (.iload_n 1, 1) := by decide +kernel
theorem dX7_deliver_65 : decode cX7_deliver 65 = .ok (.aload_n 0, 1) := by decide +kernel
theorem dX7_deliver_66 : decode cX7_deliver 66 = .ok (.getfield 7, 3) := by decide +kernel
theorem dX7_deliver_69 : decode cX7_deliver 69 = .ok (.iload_n 3, 1) := by decide +kernel
theorem dX7_deliver_70 : decode cX7_deliver 70 = .ok (.iaload, 1) := by decide +kernel
theorem dX7_deliver_71 : decode cX7_deliver 71 = .ok (.iconst 4, 1) := by decide +kernel
theorem dX7_deliver_72 : decode cX7_deliver 72 = .ok (.if_icmp .ne 12, 3) := by decide +kernel
theorem dX7_deliver_75 : decode cX7_deliver 75 = .ok (.aload_n 0, 1) := by decide +kernel
theorem dX7_deliver_76 : decode cX7_deliver 76 = .ok (.getfield 38, 3) := by decide +kernel
theorem dX7_deliver_79 : decode cX7_deliver 79 = .ok (.iload_n 3, 1) := by decide +kernel
theorem dX7_deliver_80 : decode cX7_deliver 80 = .ok (.laload, 1) := by decide +kernel
theorem dX7_deliver_81 : decode cX7_deliver 81 = .ok (.goto 8, 3) := by decide +kernel
theorem dX7_deliver_84 : decode cX7_deliver 84 = .ok (.aload_n 0, 1) := by decide +kernel
theorem dX7_deliver_85 : decode cX7_deliver 85 = .ok (.iload_n 3, 1) := by decide +kernel
theorem dX7_deliver_86 : decode cX7_deliver 86 = .ok (.invokevirtual 187, 3) := by decide +kernel
theorem dX7_deliver_89 : decode cX7_deliver 89 = .ok (.lastore, 1) := by decide +kernel
theorem dX7_deliver_90 : decode cX7_deliver 90 = .ok (.aload_n 0, 1) := by decide +kernel
theorem dX7_deliver_91 : decode cX7_deliver 91 = .ok (.getfield 90, 3) := by decide +kernel
theorem dX7_deliver_94 : decode cX7_deliver 94 = .ok (.iload_n 1, 1) := by decide +kernel
theorem dX7_deliver_95 : decode cX7_deliver 95 = .ok (.aload_n 0, 1) := by decide +kernel
theorem dX7_deliver_96 : decode cX7_deliver 96 = .ok (.getfield 7, 3) := by decide +kernel
theorem dX7_deliver_99 : decode cX7_deliver 99 = .ok (.iload_n 3, 1) := by decide +kernel
theorem dX7_deliver_100 : decode cX7_deliver 100 = .ok (.iaload, 1) := by decide +kernel
theorem dX7_deliver_101 : decode cX7_deliver 101 = .ok (.iconst 4, 1) := by decide +kernel
theorem dX7_deliver_102 : decode cX7_deliver 102 = .ok (.if_icmp .ne 12, 3) := by decide +kernel
theorem dX7_deliver_105 : decode cX7_deliver 105 = .ok (.aload_n 0, 1) := by decide +kernel
theorem dX7_deliver_106 : decode cX7_deliver 106 = .ok (.getfield 41, 3) := by decide +kernel
theorem dX7_deliver_109 : decode cX7_deliver 109 = .ok (.iload_n 3, 1) := by decide +kernel
theorem dX7_deliver_110 : decode cX7_deliver 110 = .ok (.laload, 1) := by decide +kernel
theorem dX7_deliver_111 : decode cX7_deliver 111 = .ok (.goto 8, 3) := by decide +kernel
theorem dX7_deliver_114 : decode cX7_deliver 114 = .ok (.aload_n 0, 1) := by decide +kernel
theorem dX7_deliver_115 : decode cX7_deliver 115 = .ok (.iload_n 3, 1) := by decide +kernel
theorem dX7_deliver_116 : decode cX7_deliver 116 = .ok (.invokevirtual 190, 3) := by decide +kernel
theorem dX7_deliver_119 : decode cX7_deliver 119 = .ok (.lastore, 1) := by decide +kernel
theorem dX7_deliver_120 : decode cX7_deliver 120 = .ok (.aload_n 0, 1) := by decide +kernel
theorem dX7_deliver_121 : decode cX7_deliver 121 = .ok (.getfield 78, 3) := by decide +kernel
theorem dX7_deliver_124 : decode cX7_deliver 124 = .ok (.iload_n 1, 1) := by decide +kernel
theorem dX7_deliver_125 : decode cX7_deliver 125 = .ok (.iconst 1, 1) := by decide +kernel
theorem dX7_deliver_126 : decode cX7_deliver 126 = .ok (.iastore, 1) := by decide +kernel
theorem dX7_deliver_127 : decode cX7_deliver 127 = .ok (.lconst 1, 1) := by decide +kernel
theorem dX7_deliver_128 : decode cX7_deliver 128 = .ok (.lreturn, 1) := by decide +kernel
theorem dX7_deliver_129 : decode cX7_deliver 129 = .ok (.aload_n 0, 1) := by decide +kernel
theorem dX7_deliver_130 : decode cX7_deliver 130 = .ok (.getfield 44, 3) := by decide +kernel
theorem dX7_deliver_133 : decode cX7_deliver 133 = .ok (.iload_n 2, 1) := by decide +kernel
theorem dX7_deliver_134 : decode cX7_deliver 134 = .ok (.baload, 1) := by decide +kernel
theorem dX7_deliver_135 : decode cX7_deliver 135 = .ok (.ifCond .eq 12, 3) := by decide +kernel
theorem dX7_deliver_138 : decode cX7_deliver 138 = .ok (.aload_n 0, 1) := by decide +kernel
theorem dX7_deliver_139 : decode cX7_deliver 139 = .ok (.getfield 78, 3) := by decide +kernel
theorem dX7_deliver_142 : decode cX7_deliver 142 = .ok (.iload_n 1, 1) := by decide +kernel
theorem dX7_deliver_143 : decode cX7_deliver 143 = .ok (.iconst 3, 1) := by decide +kernel
theorem dX7_deliver_144 : decode cX7_deliver 144 = .ok (.iastore, 1) := by decide +kernel
theorem dX7_deliver_145 : decode cX7_deliver 145 = .ok (.lconst 0, 1) := by decide +kernel
theorem dX7_deliver_146 : decode cX7_deliver 146 = .ok (.lreturn, 1) := by decide +kernel
theorem dX7_deliver_147 : decode cX7_deliver 147 = .ok (.aload_n 0, 1) := by decide +kernel
theorem dX7_deliver_148 : decode cX7_deliver 148 = .ok (.getfield 78, 3) := by decide +kernel
theorem dX7_deliver_151 : decode cX7_deliver 151 = .ok (.iload_n 1, 1) := by decide +kernel
theorem dX7_deliver_152 : decode cX7_deliver 152 = .ok (.iconst 2, 1) := by decide +kernel
theorem dX7_deliver_153 : decode cX7_deliver 153 = .ok (.iastore, 1) := by decide +kernel
theorem dX7_deliver_154 : decode cX7_deliver 154 = .ok (.bipush 10, 2) := by decide +kernel
theorem dX7_deliver_156 : decode cX7_deliver 156 = .ok (.iload_n 2, 1) := by decide +kernel
theorem dX7_deliver_157 : decode cX7_deliver 157 = .ok (.imul, 1) := by decide +kernel
theorem dX7_deliver_158 : decode cX7_deliver 158 = .ok (.iload_n 3, 1) := by decide +kernel
theorem dX7_deliver_159 : decode cX7_deliver 159 = .ok (.iadd, 1) := by decide +kernel
theorem dX7_deliver_160 : decode cX7_deliver 160 = .ok (.istore 4, 2) := by decide +kernel
theorem dX7_deliver_162 : decode cX7_deliver 162 = .ok (.aload_n 0, 1) := by decide +kernel
theorem dX7_deliver_163 : decode cX7_deliver 163 = .ok (.getfield 60, 3) := by decide +kernel
theorem dX7_deliver_166 : decode cX7_deliver 166 = .ok (.iload 4, 2) := by decide +kernel
theorem dX7_deliver_168 : decode cX7_deliver 168 = .ok (.iconst 1, 1) := by decide +kernel
theorem dX7_deliver_169 : decode cX7_deliver 169 = .ok (.bastore, 1) := by decide +kernel
theorem dX7_deliver_170 : decode cX7_deliver 170 = .ok (.aload_n 0, 1) := by decide +kernel
theorem dX7_deliver_171 : decode cX7_deliver 171 = .ok (.getfield 63, 3) := by decide +kernel
theorem dX7_deliver_174 : decode cX7_deliver 174 = .ok (.iload 4, 2) := by decide +kernel
theorem dX7_deliver_176 : decode cX7_deliver 176 = .ok (.aload_n 0, 1) := by decide +kernel
theorem dX7_deliver_177 : decode cX7_deliver 177 = .ok (.getfield 87, 3) := by decide +kernel
theorem dX7_deliver_180 : decode cX7_deliver 180 = .ok (.iload_n 1, 1) := by decide +kernel
theorem dX7_deliver_181 : decode cX7_deliver 181 = .ok (.laload, 1) := by decide +kernel
theorem dX7_deliver_182 : decode cX7_deliver 182 = .ok (.lastore, 1) := by decide +kernel
theorem dX7_deliver_183 : decode cX7_deliver 183 = .ok (.aload_n 0, 1) := by decide +kernel
theorem dX7_deliver_184 : decode cX7_deliver 184 = .ok (.getfield 66, 3) := by decide +kernel
theorem dX7_deliver_187 : decode cX7_deliver 187 = .ok (.iload 4, 2) := by decide +kernel
theorem dX7_deliver_189 : decode cX7_deliver 189 = .ok (.aload_n 0, 1) := by decide +kernel
theorem dX7_deliver_190 : decode cX7_deliver 190 = .ok (.getfield 90, 3) := by decide +kernel
theorem dX7_deliver_193 : decode cX7_deliver 193 = .ok (.iload_n 1, 1) := by decide +kernel
theorem dX7_deliver_194 : decode cX7_deliver 194 = .ok (.laload, 1) := by decide +kernel
theorem dX7_deliver_195 : decode cX7_deliver 195 = .ok (.aload_n 0, 1) := by decide +kernel
theorem dX7_deliver_196 : decode cX7_deliver 196 = .ok (.iload_n 2, 1) := by decide +kernel
theorem dX7_deliver_197 : decode cX7_deliver 197 = .ok (.aload_n 0, 1) := by decide +kernel
theorem dX7_deliver_198 : decode cX7_deliver 198 = .ok (.iload_n 2, 1) := by decide +kernel
theorem dX7_deliver_199 : decode cX7_deliver 199 = .ok (.invokevirtual 173, 3) := by decide +kernel
theorem dX7_deliver_202 : decode cX7_deliver 202 = .ok (.aload_n 0, 1) := by decide +kernel
theorem dX7_deliver_203 : decode cX7_deliver 203 = .ok (.getfield 81, 3) := by decide +kernel
theorem dX7_deliver_206 : decode cX7_deliver 206 = .ok (.iload_n 1, 1) := by decide +kernel
theorem dX7_deliver_207 : decode cX7_deliver 207 = .ok (.laload, 1) := by decide +kernel
theorem dX7_deliver_208 : decode cX7_deliver 208 = .ok (.lsub, 1) := by decide +kernel
theorem dX7_deliver_209 : decode cX7_deliver 209 = .ok (.invokevirtual 184, 3) := by decide +kernel
theorem dX7_deliver_212 : decode cX7_deliver 212 = .ok (.ladd, 1) := by decide +kernel
theorem dX7_deliver_213 : decode cX7_deliver 213 = .ok (.lastore, 1) := by decide +kernel
theorem dX7_deliver_214 : decode cX7_deliver 214 = .ok (.aload_n 0, 1) := by decide +kernel
theorem dX7_deliver_215 : decode cX7_deliver 215 = .ok (.getfield 69, 3) := by decide +kernel
theorem dX7_deliver_218 : decode cX7_deliver 218 = .ok (.iload 4, 2) := by decide +kernel
theorem dX7_deliver_220 : decode cX7_deliver 220 = .ok (.aload_n 0, 1) := by decide +kernel
theorem dX7_deliver_221 : decode cX7_deliver 221 = .ok (.iload_n 2, 1) := by decide +kernel
theorem dX7_deliver_222 : decode cX7_deliver 222 = .ok (.invokevirtual 173, 3) := by decide +kernel
theorem dX7_deliver_225 : decode cX7_deliver 225 = .ok (.lastore, 1) := by decide +kernel
theorem dX7_deliver_226 : decode cX7_deliver 226 = .ok (.ldc2_w 203, 3) := by decide +kernel
theorem dX7_deliver_229 : decode cX7_deliver 229 = .ok (.lreturn, 1) := by decide +kernel
theorem dX7_lose_0 : decode cX7_lose 0 = .ok (.aload_n 0, 1) := by decide +kernel
theorem dX7_lose_1 : decode cX7_lose 1 = .ok (.iload_n 1, 1) := by decide +kernel
theorem dX7_lose_2 : decode cX7_lose 2 = .ok (.invokevirtual 200, 3) := by decide +kernel
theorem dX7_lose_5 : decode cX7_lose 5 = .ok (.ifCond .ne 7, 3) := by decide +kernel
theorem dX7_lose_8 : decode cX7_lose 8 = .ok (.ldc2_w 155, 3) := by decide +kernel
theorem dX7_lose_11 : decode cX7_lose 11 = .ok (.lreturn, 1) := by decide +kernel
theorem dX7_lose_12 : decode cX7_lose 12 = .ok (.aload_n 0, 1) := by decide +kernel
theorem dX7_lose_13 : decode cX7_lose 13 = .ok (.getfield 78, 3) := by decide +kernel
theorem dX7_lose_16 : decode cX7_lose 16 = .ok (.iload_n 1, 1) := by decide +kernel
theorem dX7_lose_17 : decode cX7_lose 17 = .ok (.iconst 3, 1) := by decide +kernel
theorem dX7_lose_18 : decode cX7_lose 18 = .ok (.iastore, 1) := by decide +kernel
theorem dX7_lose_19 : decode cX7_lose 19 = .ok (.lconst 1, 1) := by decide +kernel
theorem dX7_lose_20 : decode cX7_lose 20 = .ok (.lreturn, 1) := by decide +kernel
theorem dX7_twice_0 : decode cX7_twice 0 = .ok (.aload_n 0, 1) := by decide +kernel
theorem dX7_twice_1 : decode cX7_twice 1 = .ok (.iload_n 1, 1) := by decide +kernel
theorem dX7_twice_2 : decode cX7_twice 2 = .ok (.invokevirtual 200, 3) := by decide +kernel
theorem dX7_twice_5 : decode cX7_twice 5 = .ok (.ifCond .eq 13, 3) := by decide +kernel
theorem dX7_twice_8 : decode cX7_twice 8 = .ok (.aload_n 0, 1) := by decide +kernel
theorem dX7_twice_9 : decode cX7_twice 9 = .ok (.getfield 197, 3) := by decide +kernel
theorem dX7_twice_12 : decode cX7_twice 12 = .ok (.sipush 200, 3) := by decide +kernel
theorem dX7_twice_15 : decode cX7_twice 15 = .ok (.if_icmp .ne 7, 3) := by decide +kernel
theorem dX7_twice_18 : decode cX7_twice 18 = .ok (.ldc2_w 155, 3) := by decide +kernel
theorem dX7_twice_21 : decode cX7_twice 21 = .ok (.lreturn, 1) := by decide +kernel
theorem dX7_twice_22 : decode cX7_twice 22 = .ok (.aload_n 0, 1) := by decide +kernel
theorem dX7_twice_23 : decode cX7_twice 23 = .ok (.getfield 72, 3) := by decide +kernel
theorem dX7_twice_26 : decode cX7_twice 26 = .ok (.aload_n 0, 1) := by decide +kernel
theorem dX7_twice_27 : decode cX7_twice 27 = .ok (.getfield 197, 3) := by decide +kernel
theorem dX7_twice_30 : decode cX7_twice 30 = .ok (.aload_n 0, 1) := by decide +kernel
theorem dX7_twice_31 : decode cX7_twice 31 = .ok (.getfield 72, 3) := by decide +kernel
theorem dX7_twice_34 : decode cX7_twice 34 = .ok (.iload_n 1, 1) := by decide +kernel
theorem dX7_twice_35 : decode cX7_twice 35 = .ok (.iaload, 1) := by decide +kernel
theorem dX7_twice_36 : decode cX7_twice 36 = .ok (.iastore, 1) := by decide +kernel
theorem dX7_twice_37 : decode cX7_twice 37 = .ok (.aload_n 0, 1) := by decide +kernel
theorem dX7_twice_38 : decode cX7_twice 38 = .ok (.getfield 75, 3) := by decide +kernel
theorem dX7_twice_41 : decode cX7_twice 41 = .ok (.aload_n 0, 1) := by decide +kernel
theorem dX7_twice_42 : decode cX7_twice 42 = .ok (.getfield 197, 3) := by decide +kernel
theorem dX7_twice_45 : decode cX7_twice 45 = .ok (.aload_n 0, 1) := by decide +kernel
theorem dX7_twice_46 : decode cX7_twice 46 = .ok (.getfield 75, 3) := by decide +kernel
theorem dX7_twice_49 : decode cX7_twice 49 = .ok (.iload_n 1, 1) := by decide +kernel
theorem dX7_twice_50 : decode cX7_twice 50 = .ok (.iaload, 1) := by decide +kernel
theorem dX7_twice_51 : decode cX7_twice 51 = .ok (.iastore, 1) := by decide +kernel
theorem dX7_twice_52 : decode cX7_twice 52 = .ok (.aload_n 0, 1) := by decide +kernel
theorem dX7_twice_53 : decode cX7_twice 53 = .ok (.getfield 78, 3) := by decide +kernel
theorem dX7_twice_56 : decode cX7_twice 56 = .ok (.aload_n 0, 1) := by decide +kernel
theorem dX7_twice_57 : decode cX7_twice 57 = .ok (.getfield 197, 3) := by decide +kernel
theorem dX7_twice_60 : decode cX7_twice 60 = .ok (.aload_n 0, 1) := by decide +kernel
theorem dX7_twice_61 : decode cX7_twice 61 = .ok (.getfield 78, 3) := by decide +kernel
theorem dX7_twice_64 : decode cX7_twice 64 = .ok (.iload_n 1, 1) := by decide +kernel
theorem dX7_twice_65 : decode cX7_twice 65 = .ok (.iaload, 1) := by decide +kernel
theorem dX7_twice_66 : decode cX7_twice 66 = .ok (.iastore, 1) := by decide +kernel
theorem dX7_twice_67 : decode cX7_twice 67 = .ok (.aload_n 0, 1) := by decide +kernel
theorem dX7_twice_68 : decode cX7_twice 68 = .ok (.getfield 81, 3) := by decide +kernel
theorem dX7_twice_71 : decode cX7_twice 71 = .ok (.aload_n 0, 1) := by decide +kernel
theorem dX7_twice_72 : decode cX7_twice 72 = .ok (.getfield 197, 3) := by decide +kernel
theorem dX7_twice_75 : decode cX7_twice 75 = .ok (.aload_n 0, 1) := by decide +kernel
theorem dX7_twice_76 : decode cX7_twice 76 = .ok (.getfield 81, 3) := by decide +kernel
theorem dX7_twice_79 : decode cX7_twice 79 = .ok (.iload_n 1, 1) := by decide +kernel
theorem dX7_twice_80 : decode cX7_twice 80 = .ok (.laload, 1) := by decide +kernel
theorem dX7_twice_81 : decode cX7_twice 81 = .ok (.lastore, 1) := by decide +kernel
theorem dX7_twice_82 : decode cX7_twice 82 = .ok (.aload_n 0, 1) := by decide +kernel
theorem dX7_twice_83 : decode cX7_twice 83 = .ok (.getfield 84, 3) := by decide +kernel
theorem dX7_twice_86 : decode cX7_twice 86 = .ok (.aload_n 0, 1) := by decide +kernel
theorem dX7_twice_87 : decode cX7_twice 87 = .ok (.getfield 197, 3) := by decide +kernel
theorem dX7_twice_90 : decode cX7_twice 90 = .ok (.aload_n 0, 1) := by decide +kernel
theorem dX7_twice_91 : decode cX7_twice 91 = .ok (.getfield 84, 3) := by decide +kernel
theorem dX7_twice_94 : decode cX7_twice 94 = .ok (.iload_n 1, 1) := by decide +kernel
theorem dX7_twice_95 : decode cX7_twice 95 = .ok (.baload, 1) := by decide +kernel
theorem dX7_twice_96 : decode cX7_twice 96 = .ok (.bastore, 1) := by decide +kernel
theorem dX7_twice_97 : decode cX7_twice 97 = .ok (.aload_n 0, 1) := by decide +kernel
theorem dX7_twice_98 : decode cX7_twice 98 = .ok (.getfield 87, 3) := by decide +kernel
theorem dX7_twice_101 : decode cX7_twice 101 = .ok (.aload_n 0, 1) := by decide +kernel
theorem dX7_twice_102 : decode cX7_twice 102 = .ok (.getfield 197, 3) := by decide +kernel
theorem dX7_twice_105 : decode cX7_twice 105 = .ok (.aload_n 0, 1) := by decide +kernel
theorem dX7_twice_106 : decode cX7_twice 106 = .ok (.getfield 87, 3) := by decide +kernel
theorem dX7_twice_109 : decode cX7_twice 109 = .ok (.iload_n 1, 1) := by decide +kernel
theorem dX7_twice_110 : decode cX7_twice 110 = .ok (.laload, 1) := by decide +kernel
theorem dX7_twice_111 : decode cX7_twice 111 = .ok (.lastore, 1) := by decide +kernel
theorem dX7_twice_112 : decode cX7_twice 112 = .ok (.aload_n 0, 1) := by decide +kernel
theorem dX7_twice_113 : decode cX7_twice 113 = .ok (.getfield 90, 3) := by decide +kernel
theorem dX7_twice_116 : decode cX7_twice 116 = .ok (.aload_n 0, 1) := by decide +kernel
theorem dX7_twice_117 : decode cX7_twice 117 = .ok (.getfield 197, 3) := by decide +kernel
theorem dX7_twice_120 : decode cX7_twice 120 = .ok (.aload_n 0, 1) := by decide +kernel
theorem dX7_twice_121 : decode cX7_twice 121 = .ok (.getfield 90, 3) := by decide +kernel
theorem dX7_twice_124 : decode cX7_twice 124 = .ok (.iload_n 1, 1) := by decide +kernel
theorem dX7_twice_125 : decode cX7_twice 125 = .ok (.laload, 1) := by decide +kernel
theorem dX7_twice_126 : decode cX7_twice 126 = .ok (.lastore, 1) := by decide +kernel
theorem dX7_twice_127 : decode cX7_twice 127 = .ok (.aload_n 0, 1) := by decide +kernel
theorem dX7_twice_128 : decode cX7_twice 128 = .ok (.dup, 1) := by decide +kernel
theorem dX7_twice_129 : decode cX7_twice 129 = .ok (.getfield 197, 3) := by decide +kernel
theorem dX7_twice_132 : decode cX7_twice 132 = .ok (.iconst 1, 1) := by decide +kernel
theorem dX7_twice_133 : decode cX7_twice 133 = .ok (.iadd, 1) := by decide +kernel
theorem dX7_twice_134 : decode cX7_twice 134 = .ok (.putfield 197, 3) := by decide +kernel
theorem dX7_twice_137 : decode cX7_twice 137 = .ok (.aload_n 0, 1) := by decide +kernel
theorem dX7_twice_138 : decode cX7_twice 138 = .ok (.getfield 197, 3) := by decide +kernel
theorem dX7_twice_141 : decode cX7_twice 141 = .ok (.iconst 1, 1) := by decide +kernel
theorem dX7_twice_142 : decode cX7_twice 142 = .ok (.isub, 1) := by decide +kernel
theorem dX7_twice_143 : decode cX7_twice 143 = .ok (.i2l, 1) := by decide +kernel
theorem dX7_twice_144 : decode cX7_twice 144 = .ok (.lreturn, 1) := by decide +kernel
theorem dX7_letter_0 : decode cX7_letter 0 = .ok (.iload_n 1, 1) := by decide +kernel
theorem dX7_letter_1 : decode cX7_letter 1 = .ok (.i2l, 1) := by decide +kernel
theorem dX7_letter_2 : decode cX7_letter 2 = .ok (.lconst 0, 1) := by decide +kernel
theorem dX7_letter_3 : decode cX7_letter 3 = .ok (.aload_n 0, 1) := by decide +kernel
theorem dX7_letter_4 : decode cX7_letter 4 = .ok (.getfield 197, 3) := by decide +kernel
theorem dX7_letter_7 : decode cX7_letter 7 = .ok (.i2l, 1) := by decide +kernel
theorem dX7_letter_8 : decode cX7_letter 8 = .ok (.lconst 1, 1) := by decide +kernel
theorem dX7_letter_9 : decode cX7_letter 9 = .ok (.lsub, 1) := by decide +kernel
theorem dX7_letter_10 : decode cX7_letter 10 = .ok (.invokestatic 143, 3) := by decide +kernel
theorem dX7_letter_13 : decode cX7_letter 13 = .ok (.ifCond .ne 7, 3) := by decide +kernel
theorem dX7_letter_16 : decode cX7_letter 16 = .ok (.ldc2_w 155, 3) := by decide +kernel
theorem dX7_letter_19 : decode cX7_letter 19 = .ok (.lreturn, 1) := by decide +kernel
theorem dX7_letter_20 : decode cX7_letter 20 = .ok (.iload_n 2, 1) := by decide +kernel
theorem dX7_letter_21 : decode cX7_letter 21 = .ok (.tableswitch 103 0 4 #[35, 43, 51, 59, 81], 35) := by decide +kernel
theorem dX7_letter_56 : decode cX7_letter 56 = .ok (.aload_n 0, 1) := by decide +kernel
theorem dX7_letter_57 : decode cX7_letter 57 = .ok (.getfield 72, 3) := by decide +kernel
theorem dX7_letter_60 : decode cX7_letter 60 = .ok (.iload_n 1, 1) := by decide +kernel
theorem dX7_letter_61 : decode cX7_letter 61 = .ok (.iaload, 1) := by decide +kernel
theorem dX7_letter_62 : decode cX7_letter 62 = .ok (.i2l, 1) := by decide +kernel
theorem dX7_letter_63 : decode cX7_letter 63 = .ok (.lreturn, 1) := by decide +kernel
theorem dX7_letter_64 : decode cX7_letter 64 = .ok (.aload_n 0, 1) := by decide +kernel
theorem dX7_letter_65 : decode cX7_letter 65 = .ok (.getfield 75, 3) := by decide +kernel
theorem dX7_letter_68 : decode cX7_letter 68 = .ok (.iload_n 1, 1) := by decide +kernel
theorem dX7_letter_69 : decode cX7_letter 69 = .ok (.iaload, 1) := by decide +kernel
theorem dX7_letter_70 : decode cX7_letter 70 = .ok (.i2l, 1) := by decide +kernel
theorem dX7_letter_71 : decode cX7_letter 71 = .ok (.lreturn, 1) := by decide +kernel
theorem dX7_letter_72 : decode cX7_letter 72 = .ok (.aload_n 0, 1) := by decide +kernel
theorem dX7_letter_73 : decode cX7_letter 73 = .ok (.getfield 78, 3) := by decide +kernel
theorem dX7_letter_76 : decode cX7_letter 76 = .ok (.iload_n 1, 1) := by decide +kernel
theorem dX7_letter_77 : decode cX7_letter 77 = .ok (.iaload, 1) := by decide +kernel
theorem dX7_letter_78 : decode cX7_letter 78 = .ok (.i2l, 1) := by decide +kernel
theorem dX7_letter_79 : decode cX7_letter 79 = .ok (.lreturn, 1) := by decide +kernel
theorem dX7_letter_80 : decode cX7_letter 80 = .ok (.aload_n 0, 1) := by decide +kernel
theorem dX7_letter_81 : decode cX7_letter 81 = .ok (.getfield 84, 3) := by decide +kernel
theorem dX7_letter_84 : decode cX7_letter 84 = .ok (.iload_n 1, 1) := by decide +kernel
theorem dX7_letter_85 : decode cX7_letter 85 = .ok (.baload, 1) := by decide +kernel
theorem dX7_letter_86 : decode cX7_letter 86 = .ok (.ifCond .eq 12, 3) := by decide +kernel
theorem dX7_letter_89 : decode cX7_letter 89 = .ok (.aload_n 0, 1) := by decide +kernel
theorem dX7_letter_90 : decode cX7_letter 90 = .ok (.getfield 87, 3) := by decide +kernel
theorem dX7_letter_93 : decode cX7_letter 93 = .ok (.iload_n 1, 1) := by decide +kernel
theorem dX7_letter_94 : decode cX7_letter 94 = .ok (.laload, 1) := by decide +kernel
theorem dX7_letter_95 : decode cX7_letter 95 = .ok (.goto 6, 3) := by decide +kernel
theorem dX7_letter_98 : decode cX7_letter 98 = .ok (.ldc2_w 155, 3) := by decide +kernel
theorem dX7_letter_101 : decode cX7_letter 101 = .ok (.lreturn, 1) := by decide +kernel
theorem dX7_letter_102 : decode cX7_letter 102 = .ok (.aload_n 0, 1) := by decide +kernel
theorem dX7_letter_103 : decode cX7_letter 103 = .ok (.getfield 84, 3) := by decide +kernel
theorem dX7_letter_106 : decode cX7_letter 106 = .ok (.iload_n 1, 1) := by decide +kernel
theorem dX7_letter_107 : decode cX7_letter 107 = .ok (.baload, 1) := by decide +kernel
theorem dX7_letter_108 : decode cX7_letter 108 = .ok (.ifCond .eq 12, 3) := by decide +kernel
theorem dX7_letter_111 : decode cX7_letter 111 = .ok (.aload_n 0, 1) := by decide +kernel
theorem dX7_letter_112 : decode cX7_letter 112 = .ok (.getfield 90, 3) := by decide +kernel
theorem dX7_letter_115 : decode cX7_letter 115 = .ok (.iload_n 1, 1) := by decide +kernel
theorem dX7_letter_116 : decode cX7_letter 116 = .ok (.laload, 1) := by decide +kernel
theorem dX7_letter_117 : decode cX7_letter 117 = .ok (.goto 6, 3) := by decide +kernel
theorem dX7_letter_120 : decode cX7_letter 120 = .ok (.ldc2_w 155, 3) := by decide +kernel
theorem dX7_letter_123 : decode cX7_letter 123 = .ok (.lreturn, 1) := by decide +kernel
theorem dX7_letter_124 : decode cX7_letter 124 = .ok (.ldc2_w 155, 3) := by decide +kernel
theorem dX7_letter_127 : decode cX7_letter 127 = .ok (.lreturn, 1) := by decide +kernel
theorem dX7_heard_0 : decode cX7_heard 0 = .ok (.aload_n 0, 1) := by decide +kernel
theorem dX7_heard_1 : decode cX7_heard 1 = .ok (.iload_n 1, 1) := by decide +kernel
theorem dX7_heard_2 : decode cX7_heard 2 = .ok (.invokevirtual 163, 3) := by decide +kernel
theorem dX7_heard_5 : decode cX7_heard 5 = .ok (.ifCond .eq 35, 3) := by decide +kernel
theorem dX7_heard_8 : decode cX7_heard 8 = .ok (.aload_n 0, 1) := by decide +kernel
theorem dX7_heard_9 : decode cX7_heard 9 = .ok (.iload_n 2, 1) := by decide +kernel
theorem dX7_heard_10 : decode cX7_heard 10 = .ok (.invokevirtual 163, 3) := by decide +kernel
theorem dX7_heard_13 : decode cX7_heard 13 = .ok (.ifCond .eq 27, 3) := by decide +kernel
theorem dX7_heard_16 : decode cX7_heard 16 = .ok (.aload_n 0, 1) := by decide +kernel
theorem dX7_heard_17 : decode cX7_heard 17 = .ok (.getfield 60, 3) := by decide +kernel
theorem dX7_heard_20 : decode cX7_heard 20 = .ok (.bipush 10, 2) := by decide +kernel
theorem dX7_heard_22 : decode cX7_heard 22 = .ok (.iload_n 1, 1) := by decide +kernel
theorem dX7_heard_23 : decode cX7_heard 23 = .ok (.imul, 1) := by decide +kernel
theorem dX7_heard_24 : decode cX7_heard 24 = .ok (.iload_n 2, 1) := by decide +kernel
theorem dX7_heard_25 : decode cX7_heard 25 = .ok (.iadd, 1) := by decide +kernel
theorem dX7_heard_26 : decode cX7_heard 26 = .ok (.baload, 1) := by decide +kernel
theorem dX7_heard_27 : decode cX7_heard 27 = .ok (.ifCond .eq 13, 3) := by decide +kernel
theorem dX7_heard_30 : decode cX7_heard 30 = .ok (.iload_n 3, 1) := by decide +kernel
theorem dX7_heard_31 : decode cX7_heard 31 = .ok (.i2l, 1) := by decide +kernel
theorem dX7_heard_32 : decode cX7_heard 32 = .ok (.lconst 0, 1) := by decide +kernel
theorem dX7_heard_33 : decode cX7_heard 33 = .ok (.lconst 1, 1) := by decide +kernel
theorem dX7_heard_34 : decode cX7_heard 34 = .ok (.invokestatic 143, 3) := by decide +kernel
theorem dX7_heard_37 : decode cX7_heard 37 = .ok (.ifCond .ne 7, 3) := by decide +kernel
theorem dX7_heard_40 : decode cX7_heard 40 = .ok (.ldc2_w 155, 3) := by decide +kernel
theorem dX7_heard_43 : decode cX7_heard 43 = .ok (.lreturn, 1) := by decide +kernel
theorem dX7_heard_44 : decode cX7_heard 44 = .ok (.iload_n 3, 1) := by decide +kernel
theorem dX7_heard_45 : decode cX7_heard 45 = .ok (.ifCond .ne 12, 3) := by decide +kernel
theorem dX7_heard_48 : decode cX7_heard 48 = .ok (.aload_n 0, 1) := by decide +kernel
theorem dX7_heard_49 : decode cX7_heard 49 = .ok (.iload_n 1, 1) := by decide +kernel
theorem dX7_heard_50 : decode cX7_heard 50 = .ok (.iload_n 2, 1) := by decide +kernel
theorem dX7_heard_51 : decode cX7_heard 51 = .ok (.invokevirtual 205, 3) := by decide +kernel
theorem dX7_heard_54 : decode cX7_heard 54 = .ok (.goto 9, 3) := by decide +kernel
theorem dX7_heard_57 : decode cX7_heard 57 = .ok (.aload_n 0, 1) := by decide +kernel
theorem dX7_heard_58 : decode cX7_heard 58 = .ok (.iload_n 1, 1) := by decide +kernel
theorem dX7_heard_59 : decode cX7_heard 59 = .ok (.iload_n 2, 1) := by decide +kernel
theorem dX7_heard_60 : decode cX7_heard 60 = .ok (.invokevirtual 209, 3) := by decide +kernel
theorem dX7_heard_63 : decode cX7_heard 63 = .ok (.lreturn, 1) := by decide +kernel
theorem dX7_gather_0 : decode cX7_gather 0 = .ok (.aload_n 0, 1) := by decide +kernel
theorem dX7_gather_1 : decode cX7_gather 1 = .ok (.iconst 0, 1) := by decide +kernel
theorem dX7_gather_2 : decode cX7_gather 2 = .ok (.putfield 212, 3) := by decide +kernel
theorem dX7_gather_5 : decode cX7_gather 5 = .ok (.iconst 0, 1) := by decide +kernel
theorem dX7_gather_6 : decode cX7_gather 6 = .ok (.istore_n 2, 1) := by decide +kernel
theorem dX7_gather_7 : decode cX7_gather 7 = .ok (.iload_n 2, 1) := by decide +kernel
theorem dX7_gather_8 : decode cX7_gather 8 = .ok (.aload_n 0, 1) := by decide +kernel
theorem dX7_gather_9 : decode cX7_gather 9 = .ok (.getfield 139, 3) := by decide +kernel
theorem dX7_gather_12 : decode cX7_gather 12 = .ok (.if_icmp .ge 104, 3) := by decide +kernel
theorem dX7_gather_15 : decode cX7_gather 15 = .ok (.iload_n 2, 1) := by decide +kernel
theorem dX7_gather_16 : decode cX7_gather 16 = .ok (.iload_n 1, 1) := by decide +kernel
theorem dX7_gather_17 : decode cX7_gather 17 = .ok (.if_icmp .eq 17, 3) := by decide +kernel
theorem dX7_gather_20 : decode cX7_gather 20 = .ok (.aload_n 0, 1) := by decide +kernel
theorem dX7_gather_21 : decode cX7_gather 21 = .ok (.getfield 60, 3) := by decide +kernel
theorem dX7_gather_24 : decode cX7_gather 24 = .ok (.bipush 10, 2) := by decide +kernel
theorem dX7_gather_26 : decode cX7_gather 26 = .ok (.iload_n 1, 1) := by decide +kernel
theorem dX7_gather_27 : decode cX7_gather 27 = .ok (.imul, 1) := by decide +kernel
theorem dX7_gather_28 : decode cX7_gather 28 = .ok (.iload_n 2, 1) := by decide +kernel
theorem dX7_gather_29 : decode cX7_gather 29 = .ok (.iadd, 1) := by decide +kernel
theorem dX7_gather_30 : decode cX7_gather 30 = .ok (.baload, 1) := by decide +kernel
theorem dX7_gather_31 : decode cX7_gather 31 = .ok (.ifCond .eq 79, 3) := by decide +kernel
theorem dX7_gather_34 : decode cX7_gather 34 = .ok (.aload_n 0, 1) := by decide +kernel
theorem dX7_gather_35 : decode cX7_gather 35 = .ok (.getfield 114, 3) := by decide +kernel
theorem dX7_gather_38 : decode cX7_gather 38 = .ok (.aload_n 0, 1) := by decide +kernel
theorem dX7_gather_39 : decode cX7_gather 39 = .ok (.getfield 212, 3) := by decide +kernel
theorem dX7_gather_42 : decode cX7_gather 42 = .ok (.iload_n 2, 1) := by decide +kernel
theorem dX7_gather_43 : decode cX7_gather 43 = .ok (.iastore, 1) := by decide +kernel
theorem dX7_gather_44 : decode cX7_gather 44 = .ok (.aload_n 0, 1) := by decide +kernel
theorem dX7_gather_45 : decode cX7_gather 45 = .ok (.getfield 117, 3) := by decide +kernel
theorem dX7_gather_48 : decode cX7_gather 48 = .ok (.aload_n 0, 1) := by decide +kernel
theorem dX7_gather_49 : decode cX7_gather 49 = .ok (.getfield 212, 3) := by decide +kernel
theorem dX7_gather_52 : decode cX7_gather 52 = .ok (.iload_n 2, 1) := by decide +kernel
theorem dX7_gather_53 : decode cX7_gather 53 = .ok (.iload_n 1, 1) := by decide +kernel
theorem dX7_gather_54 : decode cX7_gather 54 = .ok (.if_icmp .ne 11, 3) := by decide +kernel
theorem dX7_gather_57 : decode cX7_gather 57 = .ok (.aload_n 0, 1) := by decide +kernel
theorem dX7_gather_58 : decode cX7_gather 58 = .ok (.iload_n 1, 1) := by decide +kernel
theorem dX7_gather_59 : decode cX7_gather 59 = .ok (.invokevirtual 187, 3) := by decide +kernel
theorem dX7_gather_62 : decode cX7_gather 62 = .ok (.goto 9, 3) := by decide +kernel
theorem dX7_gather_65 : decode cX7_gather 65 = .ok (.aload_n 0, 1) := by decide +kernel
theorem dX7_gather_66 : decode cX7_gather 66 = .ok (.iload_n 1, 1) := by decide +kernel
theorem dX7_gather_67 : decode cX7_gather 67 = .ok (.iload_n 2, 1) := by decide +kernel
theorem dX7_gather_68 : decode cX7_gather 68 = .ok (.invokevirtual 205, 3) := by decide +kernel
theorem dX7_gather_71 : decode cX7_gather 71 = .ok (.lastore, 1) := by decide +kernel
theorem dX7_gather_72 : decode cX7_gather 72 = .ok (.aload_n 0, 1) := by decide +kernel
theorem dX7_gather_73 : decode cX7_gather 73 = .ok (.getfield 120, 3) := by decide +kernel
theorem dX7_gather_76 : decode cX7_gather 76 = .ok (.aload_n 0, 1) := by decide +kernel
theorem dX7_gather_77 : decode cX7_gather 77 = .ok (.getfield 212, 3) := by decide +kernel
theorem dX7_gather_80 : decode cX7_gather 80 = .ok (.iload_n 2, 1) := by decide +kernel
theorem dX7_gather_81 : decode cX7_gather 81 = .ok (.iload_n 1, 1) := by decide +kernel
theorem dX7_gather_82 : decode cX7_gather 82 = .ok (.if_icmp .ne 11, 3) := by decide +kernel
theorem dX7_gather_85 : decode cX7_gather 85 = .ok (.aload_n 0, 1) := by decide +kernel
theorem dX7_gather_86 : decode cX7_gather 86 = .ok (.iload_n 1, 1) := by decide +kernel
theorem dX7_gather_87 : decode cX7_gather 87 = .ok (.invokevirtual 190, 3) := by decide +kernel
theorem dX7_gather_90 : decode cX7_gather 90 = .ok (.goto 9, 3) := by decide +kernel
theorem dX7_gather_93 : decode cX7_gather 93 = .ok (.aload_n 0, 1) := by decide +kernel
theorem dX7_gather_94 : decode cX7_gather 94 = .ok (.iload_n 1, 1) := by decide +kernel
theorem dX7_gather_95 : decode cX7_gather 95 = .ok (.iload_n 2, 1) := by decide +kernel
theorem dX7_gather_96 : decode cX7_gather 96 = .ok (.invokevirtual 209, 3) := by decide +kernel
theorem dX7_gather_99 : decode cX7_gather 99 = .ok (.lastore, 1) := by decide +kernel
theorem dX7_gather_100 : decode cX7_gather 100 = .ok (.aload_n 0, 1) := by decide +kernel
theorem dX7_gather_101 : decode cX7_gather 101 = .ok (.dup, 1) := by decide +kernel
theorem dX7_gather_102 : decode cX7_gather 102 = .ok (.getfield 212, 3) := by decide +kernel
theorem dX7_gather_105 : decode cX7_gather 105 = .ok (.iconst 1, 1) := by decide +kernel
theorem dX7_gather_106 : decode cX7_gather 106 = .ok (.iadd, 1) := by decide +kernel
theorem dX7_gather_107 : decode cX7_gather 107 = .ok (.putfield 212, 3) := by decide +kernel
theorem dX7_gather_110 : decode cX7_gather 110 = .ok (.iinc 2 1, 3) := by decide +kernel
theorem dX7_gather_113 : decode cX7_gather 113 = .ok (.goto (-106), 3) := by decide +kernel
theorem dX7_gather_116 : decode cX7_gather 116 = .ok (.return_, 1) := by decide +kernel
theorem dX7_votesFor_0 : decode cX7_votesFor 0 = .ok (.iconst 0, 1) := by decide +kernel
theorem dX7_votesFor_1 : decode cX7_votesFor 1 = .ok (.istore_n 3, 1) := by decide +kernel
theorem dX7_votesFor_2 : decode cX7_votesFor 2 = .ok (.iconst 0, 1) := by decide +kernel
theorem dX7_votesFor_3 : decode cX7_votesFor 3 = .ok (.istore 4, 2) := by decide +kernel
theorem dX7_votesFor_5 : decode cX7_votesFor 5 = .ok (.iload 4, 2) := by decide +kernel
theorem dX7_votesFor_7 : decode cX7_votesFor 7 = .ok (.aload_n 0, 1) := by decide +kernel
theorem dX7_votesFor_8 : decode cX7_votesFor 8 = .ok (.getfield 212, 3) := by decide +kernel
theorem dX7_votesFor_11 : decode cX7_votesFor 11 = .ok (.if_icmp .ge 38, 3) := by decide +kernel
theorem dX7_votesFor_14 : decode cX7_votesFor 14 = .ok (.iload_n 3, 1) := by decide +kernel
theorem dX7_votesFor_15 : decode cX7_votesFor 15 = .ok (.lload_n 1, 1) := by decide +kernel
theorem dX7_votesFor_16 : decode cX7_votesFor 16 = .ok (.aload_n 0, 1) := by decide +kernel
theorem dX7_votesFor_17 : decode cX7_votesFor 17 = .ok (.getfield 117, 3) := by decide +kernel
theorem dX7_votesFor_20 : decode cX7_votesFor 20 = .ok (.iload 4, 2) := by decide +kernel
theorem dX7_votesFor_22 : decode cX7_votesFor 22 = .ok (.laload, 1) := by decide +kernel
theorem dX7_votesFor_23 : decode cX7_votesFor 23 = .ok (.aload_n 0, 1) := by decide +kernel
theorem dX7_votesFor_24 : decode cX7_votesFor 24 = .ok (.getfield 120, 3) := by decide +kernel
theorem dX7_votesFor_27 : decode cX7_votesFor 27 = .ok (.iload 4, 2) := by decide +kernel
theorem dX7_votesFor_29 : decode cX7_votesFor 29 = .ok (.laload, 1) := by decide +kernel
theorem dX7_votesFor_30 : decode cX7_votesFor 30 = .ok (.invokestatic 143, 3) := by decide +kernel
theorem dX7_votesFor_33 : decode cX7_votesFor 33 = .ok (.ifCond .eq 7, 3) := by decide +kernel
theorem dX7_votesFor_36 : decode cX7_votesFor 36 = .ok (.iconst 1, 1) := by decide +kernel
theorem dX7_votesFor_37 : decode cX7_votesFor 37 = .ok (.goto 4, 3) := by decide +kernel
theorem dX7_votesFor_40 : decode cX7_votesFor 40 = .ok (.iconst 0, 1) := by decide +kernel
theorem dX7_votesFor_41 : decode cX7_votesFor 41 = .ok (.iadd, 1) := by decide +kernel
theorem dX7_votesFor_42 : decode cX7_votesFor 42 = .ok (.istore_n 3, 1) := by decide +kernel
theorem dX7_votesFor_43 : decode cX7_votesFor 43 = .ok (.iinc 4 1, 3) := by decide +kernel
theorem dX7_votesFor_46 : decode cX7_votesFor 46 = .ok (.goto (-41), 3) := by decide +kernel
theorem dX7_votesFor_49 : decode cX7_votesFor 49 = .ok (.iload_n 3, 1) := by decide +kernel
theorem dX7_votesFor_50 : decode cX7_votesFor 50 = .ok (.ireturn, 1) := by decide +kernel
theorem dX7_votes_0 : decode cX7_votes 0 = .ok (.aload_n 0, 1) := by decide +kernel
theorem dX7_votes_1 : decode cX7_votes 1 = .ok (.iload_n 1, 1) := by decide +kernel
theorem dX7_votes_2 : decode cX7_votes 2 = .ok (.invokevirtual 163, 3) := by decide +kernel
theorem dX7_votes_5 : decode cX7_votes 5 = .ok (.ifCond .ne 7, 3) := by decide +kernel
theorem dX7_votes_8 : decode cX7_votes 8 = .ok (.ldc2_w 155, 3) := by decide +kernel
theorem dX7_votes_11 : decode cX7_votes 11 = .ok (.lreturn, 1) := by decide +kernel
theorem dX7_votes_12 : decode cX7_votes 12 = .ok (.aload_n 0, 1) := by decide +kernel
theorem dX7_votes_13 : decode cX7_votes 13 = .ok (.iload_n 1, 1) := by decide +kernel
theorem dX7_votes_14 : decode cX7_votes 14 = .ok (.invokevirtual 215, 3) := by decide +kernel
theorem dX7_votes_17 : decode cX7_votes 17 = .ok (.aload_n 0, 1) := by decide +kernel
theorem dX7_votes_18 : decode cX7_votes 18 = .ok (.lload_n 2, 1) := by decide +kernel
theorem dX7_votes_19 : decode cX7_votes 19 = .ok (.invokevirtual 219, 3) := by decide +kernel
theorem dX7_votes_22 : decode cX7_votes 22 = .ok (.i2l, 1) := by decide +kernel
theorem dX7_votes_23 : decode cX7_votes 23 = .ok (.lreturn, 1) := by decide +kernel
theorem dX7_findCouncil_0 : decode cX7_findCouncil 0 = .ok (.iconst 0, 1) := by decide +kernel
theorem dX7_findCouncil_1 : decode cX7_findCouncil 1 = .ok (.istore_n 2, 1) := by decide +kernel
theorem dX7_findCouncil_2 : decode cX7_findCouncil 2 = .ok (.iconst 0, 1) := by decide +kernel
theorem dX7_findCouncil_3 : decode cX7_findCouncil 3 = .ok (.istore_n 3, 1) := by decide +kernel
theorem dX7_findCouncil_4 : decode cX7_findCouncil 4 = .ok (.iload_n 3, 1) := by decide +kernel
theorem dX7_findCouncil_5 : decode cX7_findCouncil 5 = .ok (.iconst 2, 1) := by decide +kernel
theorem dX7_findCouncil_6 : decode cX7_findCouncil 6 = .ok (.aload_n 0, 1) := by decide +kernel
theorem dX7_findCouncil_7 : decode cX7_findCouncil 7 = .ok (.getfield 212, 3) := by decide +kernel
theorem dX7_findCouncil_10 : decode cX7_findCouncil 10 = .ok (.imul, 1) := by decide +kernel
theorem dX7_findCouncil_11 : decode cX7_findCouncil 11 = .ok (.if_icmp .ge 98, 3) := by decide +kernel
theorem dX7_findCouncil_14 : decode cX7_findCouncil 14 = .ok (.iload_n 3, 1) := by decide +kernel
theorem dX7_findCouncil_15 : decode cX7_findCouncil 15 = .ok (.aload_n 0, 1) := by decide +kernel
theorem dX7_findCouncil_16 : decode cX7_findCouncil 16 = .ok (.getfield 212, 3) := by decide +kernel
theorem dX7_findCouncil_19 : decode cX7_findCouncil 19 = .ok (.if_icmp .ge 12, 3) := by decide +kernel
theorem dX7_findCouncil_22 : decode cX7_findCouncil 22 = .ok (.aload_n 0, 1) := by decide +kernel
theorem dX7_findCouncil_23 : decode cX7_findCouncil 23 = .ok (.getfield 117, 3) := by decide +kernel
theorem dX7_findCouncil_26 : decode cX7_findCouncil 26 = .ok (.iload_n 3, 1) := by decide +kernel
theorem dX7_findCouncil_27 : decode cX7_findCouncil 27 = .ok (.laload, 1) := by decide +kernel
theorem dX7_findCouncil_28 : decode cX7_findCouncil 28 = .ok (.goto 16, 3) := by decide +kernel
theorem dX7_findCouncil_31 : decode cX7_findCouncil 31 = .ok (.aload_n 0, 1) := by decide +kernel
theorem dX7_findCouncil_32 : decode cX7_findCouncil 32 = .ok (.getfield 120, 3) := by decide +kernel
theorem dX7_findCouncil_35 : decode cX7_findCouncil 35 = .ok (.iload_n 3, 1) := by decide +kernel
theorem dX7_findCouncil_36 : decode cX7_findCouncil 36 = .ok (.aload_n 0, 1) := by decide +kernel
theorem dX7_findCouncil_37 : decode cX7_findCouncil 37 = .ok (.getfield 212, 3) := by decide +kernel
theorem dX7_findCouncil_40 : decode cX7_findCouncil 40 = .ok (.isub, 1) := by decide +kernel
theorem dX7_findCouncil_41 : decode cX7_findCouncil 41 = .ok (.laload, 1) := by decide +kernel
theorem dX7_findCouncil_42 : decode cX7_findCouncil 42 = .ok (.lconst 1, 1) := by decide +kernel
theorem dX7_findCouncil_43 : decode cX7_findCouncil 43 = .ok (.ladd, 1) := by decide +kernel
theorem dX7_findCouncil_44 : decode cX7_findCouncil 44 = .ok (.lstore 4, 2) := by decide +kernel
theorem dX7_findCouncil_46 : decode cX7_findCouncil 46 = .ok (.iload_n 2, 1) := by decide +kernel
theorem dX7_findCouncil_47 : decode cX7_findCouncil 47 = .ok (.istore 6, 2) := by decide +kernel
theorem dX7_findCouncil_49 : decode cX7_findCouncil 49 = .ok (.iload 6, 2) := by decide +kernel
theorem dX7_findCouncil_51 : decode cX7_findCouncil 51 = .ok (.ifCond .le 40, 3) := by decide +kernel
theorem dX7_findCouncil_54 : decode cX7_findCouncil 54 = .ok (.aload_n 0, 1) := by decide +kernel
theorem dX7_findCouncil_55 : decode cX7_findCouncil 55 = .ok (.getfield 123, 3) := by decide +kernel
theorem dX7_findCouncil_58 : decode cX7_findCouncil 58 = .ok (.iload 6, 2) := by decide +kernel
theorem dX7_findCouncil_60 : decode cX7_findCouncil 60 = .ok (.iconst 1, 1) := by decide +kernel
theorem dX7_findCouncil_61 : decode cX7_findCouncil 61 = .ok (.isub, 1) := by decide +kernel
theorem dX7_findCouncil_62 : decode cX7_findCouncil 62 = .ok (.laload, 1) := by decide +kernel
theorem dX7_findCouncil_63 : decode cX7_findCouncil 63 = .ok (.lload 4, 2) := by decide +kernel
theorem dX7_findCouncil_65 : decode cX7_findCouncil 65 = .ok (.lcmp, 1) := by decide +kernel
theorem dX7_findCouncil_66 : decode cX7_findCouncil 66 = .ok (.ifCond .le 25, 3) := by decide +kernel
theorem dX7_findCouncil_69 : decode cX7_findCouncil 69 = .ok (.aload_n 0, 1) := by decide +kernel
theorem dX7_findCouncil_70 : decode cX7_findCouncil 70 = .ok (.getfield 123, 3) := by decide +kernel
theorem dX7_findCouncil_73 : decode cX7_findCouncil 73 = .ok (.iload 6, 2) := by decide +kernel
theorem dX7_findCouncil_75 : decode cX7_findCouncil 75 = .ok (.aload_n 0, 1) := by decide +kernel
theorem dX7_findCouncil_76 : decode cX7_findCouncil 76 = .ok (.getfield 123, 3) := by decide +kernel
theorem dX7_findCouncil_79 : decode cX7_findCouncil 79 = .ok (.iload 6, 2) := by decide +kernel
theorem dX7_findCouncil_81 : decode cX7_findCouncil 81 = .ok (.iconst 1, 1) := by decide +kernel
theorem dX7_findCouncil_82 : decode cX7_findCouncil 82 = .ok (.isub, 1) := by decide +kernel
theorem dX7_findCouncil_83 : decode cX7_findCouncil 83 = .ok (.laload, 1) := by decide +kernel
theorem dX7_findCouncil_84 : decode cX7_findCouncil 84 = .ok (.lastore, 1) := by decide +kernel
theorem dX7_findCouncil_85 : decode cX7_findCouncil 85 = .ok (.iinc 6 (-1), 3) := by decide +kernel
theorem dX7_findCouncil_88 : decode cX7_findCouncil 88 = .ok (.goto (-39), 3) := by decide +kernel
theorem dX7_findCouncil_91 : decode cX7_findCouncil 91 = .ok (.aload_n 0, 1) := by decide +kernel
theorem dX7_findCouncil_92 : decode cX7_findCouncil 92 = .ok (.getfield 123, 3) := by decide +kernel
theorem dX7_findCouncil_95 : decode cX7_findCouncil 95 = .ok (.iload 6, 2) := by decide +kernel
theorem dX7_findCouncil_97 : decode cX7_findCouncil 97 = .ok (.lload 4, 2) := by decide +kernel
theorem dX7_findCouncil_99 : decode cX7_findCouncil 99 = .ok (.lastore, 1) := by decide +kernel
theorem dX7_findCouncil_100 : decode cX7_findCouncil 100 = .ok (.iinc 2 1, 3) := by decide +kernel
theorem dX7_findCouncil_103 : decode cX7_findCouncil 103 = .ok (.iinc 3 1, 3) := by decide +kernel
theorem dX7_findCouncil_106 : decode cX7_findCouncil 106 = .ok (.goto (-102), 3) := by decide +kernel
theorem dX7_findCouncil_109 : decode cX7_findCouncil 109 = .ok (.aload_n 0, 1) := by decide +kernel
theorem dX7_findCouncil_110 : decode cX7_findCouncil 110 = .ok (.iconst 0, 1) := by decide +kernel
theorem dX7_findCouncil_111 : decode cX7_findCouncil 111 = .ok (.putfield 223, 3) := by decide +kernel
theorem dX7_findCouncil_114 : decode cX7_findCouncil 114 = .ok (.iconst 0, 1) := by decide +kernel
theorem dX7_findCouncil_115 : decode cX7_findCouncil 115 = .ok (.istore_n 3, 1) := by decide +kernel
theorem dX7_findCouncil_116 : decode cX7_findCouncil 116 = .ok (.iconst 0, 1) := by decide +kernel
theorem dX7_findCouncil_117 : decode cX7_findCouncil 117 = .ok (.istore 4, 2) := by decide +kernel
theorem dX7_findCouncil_119 : decode cX7_findCouncil 119 = .ok (.iload 4, 2) := by decide +kernel
theorem dX7_findCouncil_121 : decode cX7_findCouncil 121 = .ok (.iload_n 2, 1) := by decide +kernel
theorem dX7_findCouncil_122 : decode cX7_findCouncil 122 = .ok (.iconst 1, 1) := by decide +kernel
theorem dX7_findCouncil_123 : decode cX7_findCouncil 123 = .ok (.isub, 1) := by decide +kernel
theorem dX7_findCouncil_124 : decode cX7_findCouncil 124 = .ok (.if_icmp .ge 132, 3) := by decide +kernel
theorem dX7_findCouncil_127 : decode cX7_findCouncil 127 = .ok (.aload_n 0, 1) := by decide +kernel
theorem dX7_findCouncil_128 : decode cX7_findCouncil 128 = .ok (.getfield 123, 3) := by decide +kernel
theorem dX7_findCouncil_131 : decode cX7_findCouncil 131 = .ok (.iload 4, 2) := by decide +kernel
theorem dX7_findCouncil_133 : decode cX7_findCouncil 133 = .ok (.laload, 1) := by decide +kernel
theorem dX7_findCouncil_134 : decode cX7_findCouncil 134 = .ok (.aload_n 0, 1) := by decide +kernel
theorem dX7_findCouncil_135 : decode cX7_findCouncil 135 = .ok (.getfield 123, 3) := by decide +kernel
theorem dX7_findCouncil_138 : decode cX7_findCouncil 138 = .ok (.iload 4, 2) := by decide +kernel
theorem dX7_findCouncil_140 : decode cX7_findCouncil 140 = .ok (.iconst 1, 1) := by decide +kernel
theorem dX7_findCouncil_141 : decode cX7_findCouncil 141 = .ok (.iadd, 1) := by decide +kernel
theorem dX7_findCouncil_142 : decode cX7_findCouncil 142 = .ok (.laload, 1) := by decide +kernel
theorem dX7_findCouncil_143 : decode cX7_findCouncil 143 = .ok (.lcmp, 1) := by decide +kernel
theorem dX7_findCouncil_144 : decode cX7_findCouncil 144 = .ok (.ifCond .ge 106, 3) := by decide +kernel
theorem dX7_findCouncil_147 : decode cX7_findCouncil 147 = .ok (.aload_n 0, 1) := by decide +kernel
theorem dX7_findCouncil_148 : decode cX7_findCouncil 148 = .ok (.aload_n 0, 1) := by decide +kernel
theorem dX7_findCouncil_149 : decode cX7_findCouncil 149 = .ok (.getfield 123, 3) := by decide +kernel
theorem dX7_findCouncil_152 : decode cX7_findCouncil 152 = .ok (.iload 4, 2) := by decide +kernel
theorem dX7_findCouncil_154 : decode cX7_findCouncil 154 = .ok (.laload, 1) := by decide +kernel
theorem dX7_findCouncil_155 : decode cX7_findCouncil 155 = .ok (.invokevirtual 219, 3) := by decide +kernel
theorem dX7_findCouncil_158 : decode cX7_findCouncil 158 = .ok (.aload_n 0, 1) := by decide +kernel
theorem dX7_findCouncil_159 : decode cX7_findCouncil 159 = .ok (.getfield 212, 3) := by decide +kernel
theorem dX7_findCouncil_162 : decode cX7_findCouncil 162 = .ok (.iload_n 1, 1) := by decide +kernel
theorem dX7_findCouncil_163 : decode cX7_findCouncil 163 = .ok (.isub, 1) := by decide +kernel
theorem dX7_findCouncil_164 : decode cX7_findCouncil 164 = .ok (.if_icmp .lt 7, 3) := by decide +kernel
theorem dX7_findCouncil_167 : decode cX7_findCouncil 167 = .ok (.iconst 1, 1) := by decide +kernel
theorem dX7_findCouncil_168 : decode cX7_findCouncil 168 = .ok (.goto 4, 3) := by decide +kernel
theorem dX7_findCouncil_171 : decode cX7_findCouncil 171 = .ok (.iconst 0, 1) := by decide +kernel
theorem dX7_findCouncil_172 : decode cX7_findCouncil 172 = .ok (.istore 5, 2) := by decide +kernel
theorem dX7_findCouncil_174 : decode cX7_findCouncil 174 = .ok (.iload 5, 2) := by decide +kernel
theorem dX7_findCouncil_176 : decode cX7_findCouncil 176 = .ok (.ifCond .eq 21, 3) := by decide +kernel
theorem dX7_findCouncil_179 : decode cX7_findCouncil 179 = .ok (.aload_n 0, 1) := by decide +kernel
theorem dX7_findCouncil_180 : decode cX7_findCouncil 180 = .ok (.getfield 223, 3) := by decide +kernel
theorem dX7_findCouncil_183 : decode cX7_findCouncil 183 = .ok (.ifCond .ne 14, 3) := by decide +kernel
theorem dX7_findCouncil_186 : decode cX7_findCouncil 186 = .ok (.aload_n 0, 1) := by decide +kernel
theorem dX7_findCouncil_187 : decode cX7_findCouncil 187 = .ok (.aload_n 0, 1) := by decide +kernel
theorem dX7_findCouncil_188 : decode cX7_findCouncil 188 = .ok (.getfield 123, 3) := by decide +kernel
theorem dX7_findCouncil_191 : decode cX7_findCouncil 191 = .ok (.iload 4, 2) := by decide +kernel
theorem dX7_findCouncil_193 : decode cX7_findCouncil 193 = .ok (.laload, 1) := by decide +kernel
theorem dX7_findCouncil_194 : decode cX7_findCouncil 194 = .ok (.putfield 226, 3) := by decide +kernel
theorem dX7_findCouncil_197 : decode cX7_findCouncil 197 = .ok (.aload_n 0, 1) := by decide +kernel
theorem dX7_findCouncil_198 : decode cX7_findCouncil 198 = .ok (.dup, 1) := by decide +kernel
theorem dX7_findCouncil_199 : decode cX7_findCouncil 199 = .ok (.getfield 223, 3) := by decide +kernel
theorem dX7_findCouncil_202 : decode cX7_findCouncil 202 = .ok (.iload 5, 2) := by decide +kernel
theorem dX7_findCouncil_204 : decode cX7_findCouncil 204 = .ok (.ifCond .eq 11, 3) := by decide +kernel
theorem dX7_findCouncil_207 : decode cX7_findCouncil 207 = .ok (.iload_n 3, 1) := by decide +kernel
theorem dX7_findCouncil_208 : decode cX7_findCouncil 208 = .ok (.ifCond .ne 7, 3) := by decide +kernel
theorem dX7_findCouncil_211 : decode cX7_findCouncil 211 = .ok (.iconst 1, 1) := by decide +kernel
theorem dX7_findCouncil_212 : decode cX7_findCouncil 212 = .ok (.goto 4, 3) := by decide +kernel
theorem dX7_findCouncil_215 : decode cX7_findCouncil 215 = .ok (.iconst 0, 1) := by decide +kernel
theorem dX7_findCouncil_216 : decode cX7_findCouncil 216 = .ok (.iadd, 1) := by decide +kernel
theorem dX7_findCouncil_217 : decode cX7_findCouncil 217 = .ok (.putfield 223, 3) := by decide +kernel
theorem dX7_findCouncil_220 : decode cX7_findCouncil 220 = .ok (.aload_n 0, 1) := by decide +kernel
theorem dX7_findCouncil_221 : decode cX7_findCouncil 221 = .ok (.iload 5, 2) := by decide +kernel
theorem dX7_findCouncil_223 : decode cX7_findCouncil 223 = .ok (.ifCond .eq 17, 3) := by decide +kernel
theorem dX7_findCouncil_226 : decode cX7_findCouncil 226 = .ok (.aload_n 0, 1) := by decide +kernel
theorem dX7_findCouncil_227 : decode cX7_findCouncil 227 = .ok (.getfield 123, 3) := by decide +kernel
theorem dX7_findCouncil_230 : decode cX7_findCouncil 230 = .ok (.iload 4, 2) := by decide +kernel
theorem dX7_findCouncil_232 : decode cX7_findCouncil 232 = .ok (.iconst 1, 1) := by decide +kernel
theorem dX7_findCouncil_233 : decode cX7_findCouncil 233 = .ok (.iadd, 1) := by decide +kernel
theorem dX7_findCouncil_234 : decode cX7_findCouncil 234 = .ok (.laload, 1) := by decide +kernel
theorem dX7_findCouncil_235 : decode cX7_findCouncil 235 = .ok (.lconst 1, 1) := by decide +kernel
theorem dX7_findCouncil_236 : decode cX7_findCouncil 236 = .ok (.lsub, 1) := by decide +kernel
theorem dX7_findCouncil_237 : decode cX7_findCouncil 237 = .ok (.goto 7, 3) := by decide +kernel
theorem dX7_findCouncil_240 : decode cX7_findCouncil 240 = .ok (.aload_n 0, 1) := by decide +kernel
theorem dX7_findCouncil_241 : decode cX7_findCouncil 241 = .ok (.getfield 229, 3) := by decide +kernel
theorem dX7_findCouncil_244 : decode cX7_findCouncil 244 = .ok (.putfield 229, 3) := by decide +kernel
theorem dX7_findCouncil_247 : decode cX7_findCouncil 247 = .ok (.iload 5, 2) := by decide +kernel
theorem dX7_findCouncil_249 : decode cX7_findCouncil 249 = .ok (.istore_n 3, 1) := by decide +kernel
theorem dX7_findCouncil_250 : decode cX7_findCouncil 250 = .ok (.iinc 4 1, 3) := by decide +kernel
theorem dX7_findCouncil_253 : decode cX7_findCouncil 253 = .ok (.goto (-134), 3) := by decide +kernel
theorem dX7_findCouncil_256 : decode cX7_findCouncil 256 = .ok (.aload_n 0, 1) := by decide +kernel
theorem dX7_findCouncil_257 : decode cX7_findCouncil 257 = .ok (.lconst 0, 1) := by decide +kernel
theorem dX7_findCouncil_258 : decode cX7_findCouncil 258 = .ok (.putfield 232, 3) := by decide +kernel
theorem dX7_findCouncil_261 : decode cX7_findCouncil 261 = .ok (.iconst 0, 1) := by decide +kernel
theorem dX7_findCouncil_262 : decode cX7_findCouncil 262 = .ok (.istore 4, 2) := by decide +kernel
theorem dX7_findCouncil_264 : decode cX7_findCouncil 264 = .ok (.iload 4, 2) := by decide +kernel
theorem dX7_findCouncil_266 : decode cX7_findCouncil 266 = .ok (.aload_n 0, 1) := by decide +kernel
theorem dX7_findCouncil_267 : decode cX7_findCouncil 267 = .ok (.getfield 212, 3) := by decide +kernel
theorem dX7_findCouncil_270 : decode cX7_findCouncil 270 = .ok (.if_icmp .ge 80, 3) := by decide +kernel
theorem dX7_findCouncil_273 : decode cX7_findCouncil 273 = .ok (.aload_n 0, 1) := by decide +kernel
theorem dX7_findCouncil_274 : decode cX7_findCouncil 274 = .ok (.getfield 223, 3) := by decide +kernel
theorem dX7_findCouncil_277 : decode cX7_findCouncil 277 = .ok (.ifCond .le 73, 3) := by decide +kernel
theorem dX7_findCouncil_280 : decode cX7_findCouncil 280 = .ok (.aload_n 0, 1) := by decide +kernel
theorem dX7_findCouncil_281 : decode cX7_findCouncil 281 = .ok (.getfield 120, 3) := by decide +kernel
theorem dX7_findCouncil_284 : decode cX7_findCouncil 284 = .ok (.iload 4, 2) := by decide +kernel
theorem dX7_findCouncil_286 : decode cX7_findCouncil 286 = .ok (.laload, 1) := by decide +kernel
theorem dX7_findCouncil_287 : decode cX7_findCouncil 287 = .ok (.aload_n 0, 1) := by decide +kernel
theorem dX7_findCouncil_288 : decode cX7_findCouncil 288 = .ok (.getfield 226, 3) := by decide +kernel
theorem dX7_findCouncil_291 : decode cX7_findCouncil 291 = .ok (.lcmp, 1) := by decide +kernel
theorem dX7_findCouncil_292 : decode cX7_findCouncil 292 = .ok (.ifCond .lt 18, 3) := by decide +kernel
theorem dX7_findCouncil_295 : decode cX7_findCouncil 295 = .ok (.aload_n 0, 1) := by decide +kernel
theorem dX7_findCouncil_296 : decode cX7_findCouncil 296 = .ok (.getfield 117, 3) := by decide +kernel
theorem dX7_findCouncil_299 : decode cX7_findCouncil 299 = .ok (.iload 4, 2) := by decide +kernel
theorem dX7_findCouncil_301 : decode cX7_findCouncil 301 = .ok (.laload, 1) := by decide +kernel
theorem dX7_findCouncil_302 : decode cX7_findCouncil 302 = .ok (.aload_n 0, 1) := by decide +kernel
theorem dX7_findCouncil_303 : decode cX7_findCouncil 303 = .ok (.getfield 229, 3) := by decide +kernel
theorem dX7_findCouncil_306 : decode cX7_findCouncil 306 = .ok (.lcmp, 1) := by decide +kernel
theorem dX7_findCouncil_307 : decode cX7_findCouncil 307 = .ok (.ifCond .le 7, 3) := by decide +kernel
theorem dX7_findCouncil_310 : decode cX7_findCouncil 310 = .ok (.iconst 1, 1) := by decide +kernel
theorem dX7_findCouncil_311 : decode cX7_findCouncil 311 = .ok (.goto 4, 3) := by decide +kernel
theorem dX7_findCouncil_314 : decode cX7_findCouncil 314 = .ok (.iconst 0, 1) := by decide +kernel
theorem dX7_findCouncil_315 : decode cX7_findCouncil 315 = .ok (.istore 5, 2) := by decide +kernel
theorem dX7_findCouncil_317 : decode cX7_findCouncil 317 = .ok (.aload_n 0, 1) := by decide +kernel
theorem dX7_findCouncil_318 : decode cX7_findCouncil 318 = .ok (.dup, 1) := by decide +kernel
theorem dX7_findCouncil_319 : decode cX7_findCouncil 319 = .ok (.getfield 232, 3) := by decide +kernel
theorem dX7_findCouncil_322 : decode cX7_findCouncil 322 = .ok (.iload 5, 2) := by decide +kernel
theorem dX7_findCouncil_324 : decode cX7_findCouncil 324 = .ok (.ifCond .eq 15, 3) := by decide +kernel
theorem dX7_findCouncil_327 : decode cX7_findCouncil 327 = .ok (.lconst 1, 1) := by decide +kernel
theorem dX7_findCouncil_328 : decode cX7_findCouncil 328 = .ok (.aload_n 0, 1) := by decide +kernel
theorem dX7_findCouncil_329 : decode cX7_findCouncil 329 = .ok (.getfield 114, 3) := by decide +kernel
theorem dX7_findCouncil_332 : decode cX7_findCouncil 332 = .ok (.iload 4, 2) := by decide +kernel
theorem dX7_findCouncil_334 : decode cX7_findCouncil 334 = .ok (.iaload, 1) := by decide +kernel
theorem dX7_findCouncil_335 : decode cX7_findCouncil 335 = .ok (.lshl, 1) := by decide +kernel
theorem dX7_findCouncil_336 : decode cX7_findCouncil 336 = .ok (.goto 4, 3) := by decide +kernel
theorem dX7_findCouncil_339 : decode cX7_findCouncil 339 = .ok (.lconst 0, 1) := by decide +kernel
theorem dX7_findCouncil_340 : decode cX7_findCouncil 340 = .ok (.lor, 1) := by decide +kernel
theorem dX7_findCouncil_341 : decode cX7_findCouncil 341 = .ok (.putfield 232, 3) := by decide +kernel
theorem dX7_findCouncil_344 : decode cX7_findCouncil 344 = .ok (.iinc 4 1, 3) := by decide +kernel
theorem dX7_findCouncil_347 : decode cX7_findCouncil 347 = .ok (.goto (-83), 3) := by decide +kernel
theorem dX7_findCouncil_350 : decode cX7_findCouncil 350 = .ok (.aload_n 0, 1) := by decide +kernel
theorem dX7_findCouncil_351 : decode cX7_findCouncil 351 = .ok (.getfield 223, 3) := by decide +kernel
theorem dX7_findCouncil_354 : decode cX7_findCouncil 354 = .ok (.ifCond .le 7, 3) := by decide +kernel
theorem dX7_findCouncil_357 : decode cX7_findCouncil 357 = .ok (.iconst 1, 1) := by decide +kernel
theorem dX7_findCouncil_358 : decode cX7_findCouncil 358 = .ok (.goto 4, 3) := by decide +kernel
theorem dX7_findCouncil_361 : decode cX7_findCouncil 361 = .ok (.iconst 0, 1) := by decide +kernel
theorem dX7_findCouncil_362 : decode cX7_findCouncil 362 = .ok (.ireturn, 1) := by decide +kernel
theorem dX7_council_0 : decode cX7_council 0 = .ok (.aload_n 0, 1) := by decide +kernel
theorem dX7_council_1 : decode cX7_council 1 = .ok (.iload_n 1, 1) := by decide +kernel
theorem dX7_council_2 : decode cX7_council 2 = .ok (.invokevirtual 163, 3) := by decide +kernel
theorem dX7_council_5 : decode cX7_council 5 = .ok (.ifCond .eq 15, 3) := by decide +kernel
theorem dX7_council_8 : decode cX7_council 8 = .ok (.iload_n 3, 1) := by decide +kernel
theorem dX7_council_9 : decode cX7_council 9 = .ok (.i2l, 1) := by decide +kernel
theorem dX7_council_10 : decode cX7_council 10 = .ok (.lconst 0, 1) := by decide +kernel
theorem dX7_council_11 : decode cX7_council 11 = .ok (.ldc2_w 157, 3) := by decide +kernel
theorem dX7_council_14 : decode cX7_council 14 = .ok (.invokestatic 143, 3) := by decide +kernel
theorem dX7_council_17 : decode cX7_council 17 = .ok (.ifCond .ne 7, 3) := by decide +kernel
theorem dX7_council_20 : decode cX7_council 20 = .ok (.ldc2_w 155, 3) := by decide +kernel
theorem dX7_council_23 : decode cX7_council 23 = .ok (.lreturn, 1) := by decide +kernel
theorem dX7_council_24 : decode cX7_council 24 = .ok (.aload_n 0, 1) := by decide +kernel
theorem dX7_council_25 : decode cX7_council 25 = .ok (.iload_n 1, 1) := by decide +kernel
theorem dX7_council_26 : decode cX7_council 26 = .ok (.invokevirtual 215, 3) := by decide +kernel
theorem dX7_council_29 : decode cX7_council 29 = .ok (.iload_n 2, 1) := by decide +kernel
theorem dX7_council_30 : decode cX7_council 30 = .ok (.i2l, 1) := by decide +kernel
theorem dX7_council_31 : decode cX7_council 31 = .ok (.lconst 0, 1) := by decide +kernel
theorem dX7_council_32 : decode cX7_council 32 = .ok (.aload_n 0, 1) := by decide +kernel
theorem dX7_council_33 : decode cX7_council 33 = .ok (.getfield 212, 3) := by decide +kernel
theorem dX7_council_36 : decode cX7_council 36 = .ok (.i2l, 1) := by decide +kernel
theorem dX7_council_37 : decode cX7_council 37 = .ok (.lconst 1, 1) := by decide +kernel
theorem dX7_council_38 : decode cX7_council 38 = .ok (.lsub, 1) := by decide +kernel
theorem dX7_council_39 : decode cX7_council 39 = .ok (.invokestatic 143, 3) := by decide +kernel
theorem dX7_council_42 : decode cX7_council 42 = .ok (.ifCond .ne 7, 3) := by decide +kernel
theorem dX7_council_45 : decode cX7_council 45 = .ok (.ldc2_w 155, 3) := by decide +kernel
theorem dX7_council_48 : decode cX7_council 48 = .ok (.lreturn, 1) := by decide +kernel
theorem dX7_council_49 : decode cX7_council 49 = .ok (.aload_n 0, 1) := by decide +kernel
theorem dX7_council_50 : decode cX7_council 50 = .ok (.iload_n 2, 1) := by decide +kernel
theorem dX7_council_51 : decode cX7_council 51 = .ok (.invokevirtual 235, 3) := by decide +kernel
theorem dX7_council_54 : decode cX7_council 54 = .ok (.istore 4, 2) := by decide +kernel
theorem dX7_council_56 : decode cX7_council 56 = .ok (.iload_n 3, 1) := by decide +kernel
theorem dX7_council_57 : decode cX7_council 57 = .ok (.iconst 2, 1) := by decide +kernel
theorem dX7_council_58 : decode cX7_council 58 = .ok (.if_icmp .ge 21, 3) := by decide +kernel
theorem dX7_council_61 : decode cX7_council 61 = .ok (.iload_n 3, 1) := by decide +kernel
theorem dX7_council_62 : decode cX7_council 62 = .ok (.ifCond .ne 11, 3) := by decide +kernel
theorem dX7_council_65 : decode cX7_council 65 = .ok (.aload_n 0, 1) := by decide +kernel
theorem dX7_council_66 : decode cX7_council 66 = .ok (.getfield 212, 3) := by decide +kernel
theorem dX7_council_69 : decode cX7_council 69 = .ok (.i2l, 1) := by decide +kernel
theorem dX7_council_70 : decode cX7_council 70 = .ok (.goto 8, 3) := by decide +kernel
theorem dX7_council_73 : decode cX7_council 73 = .ok (.aload_n 0, 1) := by decide +kernel
theorem dX7_council_74 : decode cX7_council 74 = .ok (.getfield 223, 3) := by decide +kernel
theorem dX7_council_77 : decode cX7_council 77 = .ok (.i2l, 1) := by decide +kernel
theorem dX7_council_78 : decode cX7_council 78 = .ok (.lreturn, 1) := by decide +kernel
theorem dX7_council_79 : decode cX7_council 79 = .ok (.iload 4, 2) := by decide +kernel
theorem dX7_council_81 : decode cX7_council 81 = .ok (.ifCond .ne 9, 3) := by decide +kernel
theorem dX7_council_84 : decode cX7_council 84 = .ok (.ldc2_w 155, 3) := by decide +kernel
theorem dX7_council_87 : decode cX7_council 87 = .ok (.goto 31, 3) := by decide +kernel
theorem dX7_council_90 : decode cX7_council 90 = .ok (.iload_n 3, 1) := by decide +kernel
theorem dX7_council_91 : decode cX7_council 91 = .ok (.iconst 2, 1) := by decide +kernel
theorem dX7_council_92 : decode cX7_council 92 = .ok (.if_icmp .ne 10, 3) := by decide +kernel
theorem dX7_council_95 : decode cX7_council 95 = .ok (.aload_n 0, 1) := by decide +kernel
theorem dX7_council_96 : decode cX7_council 96 = .ok (.getfield 226, 3) := by decide +kernel
theorem dX7_council_99 : decode cX7_council 99 = .ok (.goto 19, 3) := by decide +kernel
theorem dX7_council_102 : decode cX7_council 102 = .ok (.iload_n 3, 1) := by decide +kernel
theorem dX7_council_103 : decode cX7_council 103 = .ok (.iconst 3, 1) := by decide +kernel
theorem dX7_council_104 : decode cX7_council 104 = .ok (.if_icmp .ne 10, 3) := by decide +kernel
theorem dX7_council_107 : decode cX7_council 107 = .ok (.aload_n 0, 1) := by decide +kernel
theorem dX7_council_108 : decode cX7_council 108 = .ok (.getfield 229, 3) := by decide +kernel
theorem dX7_council_111 : decode cX7_council 111 = .ok (.goto 7, 3) := by decide +kernel
theorem dX7_council_114 : decode cX7_council 114 = .ok (.aload_n 0, 1) := by decide +kernel
theorem dX7_council_115 : decode cX7_council 115 = .ok (.getfield 232, 3) := by decide +kernel
theorem dX7_council_118 : decode cX7_council 118 = .ok (.lreturn, 1) := by decide +kernel
theorem dX7_meet_0 : decode cX7_meet 0 = .ok (.aload_n 0, 1) := by decide +kernel
theorem dX7_meet_1 : decode cX7_meet 1 = .ok (.iload_n 1, 1) := by decide +kernel
theorem dX7_meet_2 : decode cX7_meet 2 = .ok (.invokevirtual 163, 3) := by decide +kernel
theorem dX7_meet_5 : decode cX7_meet 5 = .ok (.ifCond .eq 22, 3) := by decide +kernel
theorem dX7_meet_8 : decode cX7_meet 8 = .ok (.aload_n 0, 1) := by decide +kernel
theorem dX7_meet_9 : decode cX7_meet 9 = .ok (.getfield 7, 3) := by decide +kernel
theorem dX7_meet_12 : decode cX7_meet 12 = .ok (.iload_n 1, 1) := by decide +kernel
theorem dX7_meet_13 : decode cX7_meet 13 = .ok (.iaload, 1) := by decide +kernel
theorem dX7_meet_14 : decode cX7_meet 14 = .ok (.iconst 2, 1) := by decide +kernel
theorem dX7_meet_15 : decode cX7_meet 15 = .ok (.if_icmp .lt 12, 3) := by decide +kernel
theorem dX7_meet_18 : decode cX7_meet 18 = .ok (.aload_n 0, 1) := by decide +kernel
theorem dX7_meet_19 : decode cX7_meet 19 = .ok (.getfield 44, 3) := by decide +kernel
theorem dX7_meet_22 : decode cX7_meet 22 = .ok (.iload_n 1, 1) := by decide +kernel
theorem dX7_meet_23 : decode cX7_meet 23 = .ok (.baload, 1) := by decide +kernel
theorem dX7_meet_24 : decode cX7_meet 24 = .ok (.ifCond .eq 7, 3) := by decide +kernel
theorem dX7_meet_27 : decode cX7_meet 27 = .ok (.ldc2_w 155, 3) := by decide +kernel
theorem dX7_meet_30 : decode cX7_meet 30 = .ok (.lreturn, 1) := by decide +kernel
theorem dX7_meet_31 : decode cX7_meet 31 = .ok (.aload_n 0, 1) := by decide +kernel
theorem dX7_meet_32 : decode cX7_meet 32 = .ok (.iload_n 1, 1) := by decide +kernel
theorem dX7_meet_33 : decode cX7_meet 33 = .ok (.invokevirtual 215, 3) := by decide +kernel
theorem dX7_meet_36 : decode cX7_meet 36 = .ok (.iload_n 2, 1) := by decide +kernel
theorem dX7_meet_37 : decode cX7_meet 37 = .ok (.i2l, 1) := by decide +kernel
theorem dX7_meet_38 : decode cX7_meet 38 = .ok (.lconst 0, 1) := by decide +kernel
theorem dX7_meet_39 : decode cX7_meet 39 = .ok (.aload_n 0, 1) := by decide +kernel
theorem dX7_meet_40 : decode cX7_meet 40 = .ok (.getfield 212, 3) := by decide +kernel
theorem dX7_meet_43 : decode cX7_meet 43 = .ok (.i2l, 1) := by decide +kernel
theorem dX7_meet_44 : decode cX7_meet 44 = .ok (.lconst 1, 1) := by decide +kernel
theorem dX7_meet_45 : decode cX7_meet 45 = .ok (.lsub, 1) := by decide +kernel
theorem dX7_meet_46 : decode cX7_meet 46 = .ok (.invokestatic 143, 3) := by decide +kernel
theorem dX7_meet_49 : decode cX7_meet 49 = .ok (.ifCond .eq 11, 3) := by decide +kernel
theorem dX7_meet_52 : decode cX7_meet 52 = .ok (.aload_n 0, 1) := by decide +kernel
theorem dX7_meet_53 : decode cX7_meet 53 = .ok (.iload_n 2, 1) := by decide +kernel
theorem dX7_meet_54 : decode cX7_meet 54 = .ok (.invokevirtual 235, 3) := by decide +kernel
theorem dX7_meet_57 : decode cX7_meet 57 = .ok (.ifCond .ne 7, 3) := by decide +kernel
theorem dX7_meet_60 : decode cX7_meet 60 = .ok (.ldc2_w 155, 3) := by decide +kernel
theorem dX7_meet_63 : decode cX7_meet 63 = .ok (.lreturn, 1) := by decide +kernel
theorem dX7_meet_64 : decode cX7_meet 64 = .ok (.iconst 0, 1) := by decide +kernel
theorem dX7_meet_65 : decode cX7_meet 65 = .ok (.istore_n 3, 1) := by decide +kernel
theorem dX7_meet_66 : decode cX7_meet 66 = .ok (.iload_n 3, 1) := by decide +kernel
theorem dX7_meet_67 : decode cX7_meet 67 = .ok (.aload_n 0, 1) := by decide +kernel
theorem dX7_meet_68 : decode cX7_meet 68 = .ok (.getfield 212, 3) := by decide +kernel
theorem dX7_meet_71 : decode cX7_meet 71 = .ok (.if_icmp .ge 61, 3) := by decide +kernel
theorem dX7_meet_74 : decode cX7_meet 74 = .ok (.aload_n 0, 1) := by decide +kernel
theorem dX7_meet_75 : decode cX7_meet 75 = .ok (.getfield 57, 3) := by decide +kernel
theorem dX7_meet_78 : decode cX7_meet 78 = .ok (.aload_n 0, 1) := by decide +kernel
theorem dX7_meet_79 : decode cX7_meet 79 = .ok (.getfield 114, 3) := by decide +kernel
theorem dX7_meet_82 : decode cX7_meet 82 = .ok (.iload_n 3, 1) := by decide +kernel
theorem dX7_meet_83 : decode cX7_meet 83 = .ok (.iaload, 1) := by decide +kernel
theorem dX7_meet_84 : decode cX7_meet 84 = .ok (.dup2, 1) := by decide +kernel
theorem dX7_meet_85 : decode cX7_meet 85 = .ok (.iaload, 1) := by decide +kernel
theorem dX7_meet_86 : decode cX7_meet 86 = .ok (.iconst 1, 1) := by decide +kernel
theorem dX7_meet_87 : decode cX7_meet 87 = .ok (.iadd, 1) := by decide +kernel
theorem dX7_meet_88 : decode cX7_meet 88 = .ok (.iastore, 1) := by decide +kernel
theorem dX7_meet_89 : decode cX7_meet 89 = .ok (.aload_n 0, 1) := by decide +kernel
theorem dX7_meet_90 : decode cX7_meet 90 = .ok (.getfield 54, 3) := by decide +kernel
theorem dX7_meet_93 : decode cX7_meet 93 = .ok (.aload_n 0, 1) := by decide +kernel
theorem dX7_meet_94 : decode cX7_meet 94 = .ok (.getfield 114, 3) := by decide +kernel
theorem dX7_meet_97 : decode cX7_meet 97 = .ok (.iload_n 3, 1) := by decide +kernel
theorem dX7_meet_98 : decode cX7_meet 98 = .ok (.iaload, 1) := by decide +kernel
theorem dX7_meet_99 : decode cX7_meet 99 = .ok (.dup2, 1) := by decide +kernel
theorem dX7_meet_100 : decode cX7_meet 100 = .ok (.iaload, 1) := by decide +kernel
theorem dX7_meet_101 : decode cX7_meet 101 = .ok (.aload_n 0, 1) := by decide +kernel
theorem dX7_meet_102 : decode cX7_meet 102 = .ok (.getfield 232, 3) := by decide +kernel
theorem dX7_meet_105 : decode cX7_meet 105 = .ok (.aload_n 0, 1) := by decide +kernel
theorem dX7_meet_106 : decode cX7_meet 106 = .ok (.getfield 114, 3) := by decide +kernel
theorem dX7_meet_109 : decode cX7_meet 109 = .ok (.iload_n 3, 1) := by decide +kernel
theorem dX7_meet_110 : decode cX7_meet 110 = .ok (.iaload, 1) := by decide +kernel
theorem dX7_meet_111 : decode cX7_meet 111 = .ok (.lshr, 1) := by decide +kernel
theorem dX7_meet_112 : decode cX7_meet 112 = .ok (.lconst 1, 1) := by decide +kernel
theorem dX7_meet_113 : decode cX7_meet 113 = .ok (.land, 1) := by decide +kernel
theorem dX7_meet_114 : decode cX7_meet 114 = .ok (.lconst 1, 1) := by decide +kernel
theorem dX7_meet_115 : decode cX7_meet 115 = .ok (.lcmp, 1) := by decide +kernel
theorem dX7_meet_116 : decode cX7_meet 116 = .ok (.ifCond .ne 7, 3) := by decide +kernel
theorem dX7_meet_119 : decode cX7_meet 119 = .ok (.iconst 1, 1) := by decide +kernel
theorem dX7_meet_120 : decode cX7_meet 120 = .ok (.goto 4, 3) := by decide +kernel
theorem dX7_meet_123 : decode cX7_meet 123 = .ok (.iconst 0, 1) := by decide +kernel
theorem dX7_meet_124 : decode cX7_meet 124 = .ok (.iadd, 1) := by decide +kernel
theorem dX7_meet_125 : decode cX7_meet 125 = .ok (.iastore, 1) := by decide +kernel
theorem dX7_meet_126 : decode cX7_meet 126 = .ok (.iinc 3 1, 3) := by decide +kernel
theorem dX7_meet_129 : decode cX7_meet 129 = .ok (.goto (-63), 3) := by decide +kernel
theorem dX7_meet_132 : decode cX7_meet 132 = .ok (.aload_n 0, 1) := by decide +kernel
theorem dX7_meet_133 : decode cX7_meet 133 = .ok (.getfield 29, 3) := by decide +kernel
theorem dX7_meet_136 : decode cX7_meet 136 = .ok (.iload_n 1, 1) := by decide +kernel
theorem dX7_meet_137 : decode cX7_meet 137 = .ok (.aload_n 0, 1) := by decide +kernel
theorem dX7_meet_138 : decode cX7_meet 138 = .ok (.getfield 226, 3) := by decide +kernel
theorem dX7_meet_141 : decode cX7_meet 141 = .ok (.lastore, 1) := by decide +kernel
theorem dX7_meet_142 : decode cX7_meet 142 = .ok (.aload_n 0, 1) := by decide +kernel
theorem dX7_meet_143 : decode cX7_meet 143 = .ok (.getfield 32, 3) := by decide +kernel
theorem dX7_meet_146 : decode cX7_meet 146 = .ok (.iload_n 1, 1) := by decide +kernel
theorem dX7_meet_147 : decode cX7_meet 147 = .ok (.aload_n 0, 1) := by decide +kernel
theorem dX7_meet_148 : decode cX7_meet 148 = .ok (.getfield 229, 3) := by decide +kernel
theorem dX7_meet_151 : decode cX7_meet 151 = .ok (.lastore, 1) := by decide +kernel
theorem dX7_meet_152 : decode cX7_meet 152 = .ok (.aload_n 0, 1) := by decide +kernel
theorem dX7_meet_153 : decode cX7_meet 153 = .ok (.getfield 35, 3) := by decide +kernel
theorem dX7_meet_156 : decode cX7_meet 156 = .ok (.iload_n 1, 1) := by decide +kernel
theorem dX7_meet_157 : decode cX7_meet 157 = .ok (.aload_n 0, 1) := by decide +kernel
theorem dX7_meet_158 : decode cX7_meet 158 = .ok (.iload_n 1, 1) := by decide +kernel
theorem dX7_meet_159 : decode cX7_meet 159 = .ok (.invokevirtual 173, 3) := by decide +kernel
theorem dX7_meet_162 : decode cX7_meet 162 = .ok (.lastore, 1) := by decide +kernel
theorem dX7_meet_163 : decode cX7_meet 163 = .ok (.iconst 0, 1) := by decide +kernel
theorem dX7_meet_164 : decode cX7_meet 164 = .ok (.istore_n 3, 1) := by decide +kernel
theorem dX7_meet_165 : decode cX7_meet 165 = .ok (.iload_n 3, 1) := by decide +kernel
theorem dX7_meet_166 : decode cX7_meet 166 = .ok (.bipush 10, 2) := by decide +kernel
theorem dX7_meet_168 : decode cX7_meet 168 = .ok (.if_icmp .ge 21, 3) := by decide +kernel
theorem dX7_meet_171 : decode cX7_meet 171 = .ok (.aload_n 0, 1) := by decide +kernel
theorem dX7_meet_172 : decode cX7_meet 172 = .ok (.getfield 60, 3) := by decide +kernel
theorem dX7_meet_175 : decode cX7_meet 175 = .ok (.bipush 10, 2) := by decide +kernel
theorem dX7_meet_177 : decode cX7_meet 177 = .ok (.iload_n 1, 1) := by decide +kernel
theorem dX7_meet_178 : decode cX7_meet 178 = .ok (.imul, 1) := by decide +kernel
theorem dX7_meet_179 : decode cX7_meet 179 = .ok (.iload_n 3, 1) := by decide +kernel
theorem dX7_meet_180 : decode cX7_meet 180 = .ok (.iadd, 1) := by decide +kernel
theorem dX7_meet_181 : decode cX7_meet 181 = .ok (.iconst 0, 1) := by decide +kernel
theorem dX7_meet_182 : decode cX7_meet 182 = .ok (.bastore, 1) := by decide +kernel
theorem dX7_meet_183 : decode cX7_meet 183 = .ok (.iinc 3 1, 3) := by decide +kernel
theorem dX7_meet_186 : decode cX7_meet 186 = .ok (.goto (-21), 3) := by decide +kernel
theorem dX7_meet_189 : decode cX7_meet 189 = .ok (.aload_n 0, 1) := by decide +kernel
theorem dX7_meet_190 : decode cX7_meet 190 = .ok (.getfield 232, 3) := by decide +kernel
theorem dX7_meet_193 : decode cX7_meet 193 = .ok (.lreturn, 1) := by decide +kernel
theorem dX7_lead_0 : decode cX7_lead 0 = .ok (.aload_n 0, 1) := by decide +kernel
theorem dX7_lead_1 : decode cX7_lead 1 = .ok (.iload_n 1, 1) := by decide +kernel
theorem dX7_lead_2 : decode cX7_lead 2 = .ok (.invokevirtual 163, 3) := by decide +kernel
theorem dX7_lead_5 : decode cX7_lead 5 = .ok (.ifCond .eq 24, 3) := by decide +kernel
theorem dX7_lead_8 : decode cX7_lead 8 = .ok (.iload_n 2, 1) := by decide +kernel
theorem dX7_lead_9 : decode cX7_lead 9 = .ok (.i2l, 1) := by decide +kernel
theorem dX7_lead_10 : decode cX7_lead 10 = .ok (.lconst 0, 1) := by decide +kernel
theorem dX7_lead_11 : decode cX7_lead 11 = .ok (.ldc2_w 167, 3) := by decide +kernel
theorem dX7_lead_14 : decode cX7_lead 14 = .ok (.invokestatic 143, 3) := by decide +kernel
theorem dX7_lead_17 : decode cX7_lead 17 = .ok (.ifCond .eq 12, 3) := by decide +kernel
theorem dX7_lead_20 : decode cX7_lead 20 = .ok (.aload_n 0, 1) := by decide +kernel
theorem dX7_lead_21 : decode cX7_lead 21 = .ok (.getfield 44, 3) := by decide +kernel
theorem dX7_lead_24 : decode cX7_lead 24 = .ok (.iload_n 1, 1) := by decide +kernel
theorem dX7_lead_25 : decode cX7_lead 25 = .ok (.baload, 1) := by decide +kernel
theorem dX7_lead_26 : decode cX7_lead 26 = .ok (.ifCond .eq 7, 3) := by decide +kernel
theorem dX7_lead_29 : decode cX7_lead 29 = .ok (.ldc2_w 155, 3) := by decide +kernel
theorem dX7_lead_32 : decode cX7_lead 32 = .ok (.lreturn, 1) := by decide +kernel
theorem dX7_lead_33 : decode cX7_lead 33 = .ok (.aload_n 0, 1) := by decide +kernel
theorem dX7_lead_34 : decode cX7_lead 34 = .ok (.iload_n 1, 1) := by decide +kernel
theorem dX7_lead_35 : decode cX7_lead 35 = .ok (.invokevirtual 173, 3) := by decide +kernel
theorem dX7_lead_38 : decode cX7_lead 38 = .ok (.aload_n 0, 1) := by decide +kernel
theorem dX7_lead_39 : decode cX7_lead 39 = .ok (.getfield 51, 3) := by decide +kernel
theorem dX7_lead_42 : decode cX7_lead 42 = .ok (.iload_n 1, 1) := by decide +kernel
theorem dX7_lead_43 : decode cX7_lead 43 = .ok (.laload, 1) := by decide +kernel
theorem dX7_lead_44 : decode cX7_lead 44 = .ok (.lsub, 1) := by decide +kernel
theorem dX7_lead_45 : decode cX7_lead 45 = .ok (.lstore_n 3, 1) := by decide +kernel
theorem dX7_lead_46 : decode cX7_lead 46 = .ok (.lload_n 3, 1) := by decide +kernel
theorem dX7_lead_47 : decode cX7_lead 47 = .ok (.iload_n 2, 1) := by decide +kernel
theorem dX7_lead_48 : decode cX7_lead 48 = .ok (.i2l, 1) := by decide +kernel
theorem dX7_lead_49 : decode cX7_lead 49 = .ok (.lmul, 1) := by decide +kernel
theorem dX7_lead_50 : decode cX7_lead 50 = .ok (.ldc2_w 167, 3) := by decide +kernel
theorem dX7_lead_53 : decode cX7_lead 53 = .ok (.invokestatic 135, 3) := by decide +kernel
theorem dX7_lead_56 : decode cX7_lead 56 = .ok (.lstore 5, 2) := by decide +kernel
theorem dX7_lead_58 : decode cX7_lead 58 = .ok (.aload_n 0, 1) := by decide +kernel
theorem dX7_lead_59 : decode cX7_lead 59 = .ok (.iload_n 1, 1) := by decide +kernel
theorem dX7_lead_60 : decode cX7_lead 60 = .ok (.invokevirtual 187, 3) := by decide +kernel
theorem dX7_lead_63 : decode cX7_lead 63 = .ok (.aload_n 0, 1) := by decide +kernel
theorem dX7_lead_64 : decode cX7_lead 64 = .ok (.iload_n 1, 1) := by decide +kernel
theorem dX7_lead_65 : decode cX7_lead 65 = .ok (.invokevirtual 190, 3) := by decide +kernel
theorem dX7_lead_68 : decode cX7_lead 68 = .ok (.ladd, 1) := by decide +kernel
theorem dX7_lead_69 : decode cX7_lead 69 = .ok (.ldc2_w 203, 3) := by decide +kernel
theorem dX7_lead_72 : decode cX7_lead 72 = .ok (.invokestatic 135, 3) := by decide +kernel
theorem dX7_lead_75 : decode cX7_lead 75 = .ok (.aload_n 0, 1) := by decide +kernel
theorem dX7_lead_76 : decode cX7_lead 76 = .ok (.getfield 48, 3) := by decide +kernel
theorem dX7_lead_79 : decode cX7_lead 79 = .ok (.iload_n 1, 1) := by decide +kernel
theorem dX7_lead_80 : decode cX7_lead 80 = .ok (.laload, 1) := by decide +kernel
theorem dX7_lead_81 : decode cX7_lead 81 = .ok (.lsub, 1) := by decide +kernel
theorem dX7_lead_82 : decode cX7_lead 82 = .ok (.lstore 7, 2) := by decide +kernel
theorem dX7_lead_84 : decode cX7_lead 84 = .ok (.lload 7, 2) := by decide +kernel
theorem dX7_lead_86 : decode cX7_lead 86 = .ok (.lload_n 3, 1) := by decide +kernel
theorem dX7_lead_87 : decode cX7_lead 87 = .ok (.lload 5, 2) := by decide +kernel
theorem dX7_lead_89 : decode cX7_lead 89 = .ok (.lsub, 1) := by decide +kernel
theorem dX7_lead_90 : decode cX7_lead 90 = .ok (.lcmp, 1) := by decide +kernel
theorem dX7_lead_91 : decode cX7_lead 91 = .ok (.ifCond .ge 10, 3) := by decide +kernel
theorem dX7_lead_94 : decode cX7_lead 94 = .ok (.lload_n 3, 1) := by decide +kernel
theorem dX7_lead_95 : decode cX7_lead 95 = .ok (.lload 5, 2) := by decide +kernel
theorem dX7_lead_97 : decode cX7_lead 97 = .ok (.lsub, 1) := by decide +kernel
theorem dX7_lead_98 : decode cX7_lead 98 = .ok (.goto 22, 3) := by decide +kernel
theorem dX7_lead_101 : decode cX7_lead 101 = .ok (.lload 7, 2) := by decide +kernel
theorem dX7_lead_103 : decode cX7_lead 103 = .ok (.lload_n 3, 1) := by decide +kernel
theorem dX7_lead_104 : decode cX7_lead 104 = .ok (.lload 5, 2) := by decide +kernel
theorem dX7_lead_106 : decode cX7_lead 106 = .ok (.ladd, 1) := by decide +kernel
theorem dX7_lead_107 : decode cX7_lead 107 = .ok (.lcmp, 1) := by decide +kernel
theorem dX7_lead_108 : decode cX7_lead 108 = .ok (.ifCond .le 10, 3) := by decide +kernel
theorem dX7_lead_111 : decode cX7_lead 111 = .ok (.lload_n 3, 1) := by decide +kernel
theorem dX7_lead_112 : decode cX7_lead 112 = .ok (.lload 5, 2) := by decide +kernel
theorem dX7_lead_114 : decode cX7_lead 114 = .ok (.ladd, 1) := by decide +kernel
theorem dX7_lead_115 : decode cX7_lead 115 = .ok (.goto 5, 3) := by decide +kernel
theorem dX7_lead_118 : decode cX7_lead 118 = .ok (.lload 7, 2) := by decide +kernel
theorem dX7_lead_120 : decode cX7_lead 120 = .ok (.lstore 7, 2) := by decide +kernel
theorem dX7_lead_122 : decode cX7_lead 122 = .ok (.aload_n 0, 1) := by decide +kernel
theorem dX7_lead_123 : decode cX7_lead 123 = .ok (.getfield 48, 3) := by decide +kernel
theorem dX7_lead_126 : decode cX7_lead 126 = .ok (.iload_n 1, 1) := by decide +kernel
theorem dX7_lead_127 : decode cX7_lead 127 = .ok (.dup2, 1) := by decide +kernel
theorem dX7_lead_128 : decode cX7_lead 128 = .ok (.laload, 1) := by decide +kernel
theorem dX7_lead_129 : decode cX7_lead 129 = .ok (.lload 7, 2) := by decide +kernel
theorem dX7_lead_131 : decode cX7_lead 131 = .ok (.ladd, 1) := by decide +kernel
theorem dX7_lead_132 : decode cX7_lead 132 = .ok (.lastore, 1) := by decide +kernel
theorem dX7_lead_133 : decode cX7_lead 133 = .ok (.aload_n 0, 1) := by decide +kernel
theorem dX7_lead_134 : decode cX7_lead 134 = .ok (.getfield 51, 3) := by decide +kernel
theorem dX7_lead_137 : decode cX7_lead 137 = .ok (.iload_n 1, 1) := by decide +kernel
theorem dX7_lead_138 : decode cX7_lead 138 = .ok (.aload_n 0, 1) := by decide +kernel
theorem dX7_lead_139 : decode cX7_lead 139 = .ok (.iload_n 1, 1) := by decide +kernel
theorem dX7_lead_140 : decode cX7_lead 140 = .ok (.invokevirtual 173, 3) := by decide +kernel
theorem dX7_lead_143 : decode cX7_lead 143 = .ok (.lastore, 1) := by decide +kernel
theorem dX7_lead_144 : decode cX7_lead 144 = .ok (.aload_n 0, 1) := by decide +kernel
theorem dX7_lead_145 : decode cX7_lead 145 = .ok (.getfield 48, 3) := by decide +kernel
theorem dX7_lead_148 : decode cX7_lead 148 = .ok (.iload_n 1, 1) := by decide +kernel
theorem dX7_lead_149 : decode cX7_lead 149 = .ok (.laload, 1) := by decide +kernel
theorem dX7_lead_150 : decode cX7_lead 150 = .ok (.lreturn, 1) := by decide +kernel
theorem dX7_stamp_0 : decode cX7_stamp 0 = .ok (.aload_n 0, 1) := by decide +kernel
theorem dX7_stamp_1 : decode cX7_stamp 1 = .ok (.iload_n 1, 1) := by decide +kernel
theorem dX7_stamp_2 : decode cX7_stamp 2 = .ok (.invokevirtual 163, 3) := by decide +kernel
theorem dX7_stamp_5 : decode cX7_stamp 5 = .ok (.ifCond .eq 12, 3) := by decide +kernel
theorem dX7_stamp_8 : decode cX7_stamp 8 = .ok (.aload_n 0, 1) := by decide +kernel
theorem dX7_stamp_9 : decode cX7_stamp 9 = .ok (.getfield 238, 3) := by decide +kernel
theorem dX7_stamp_12 : decode cX7_stamp 12 = .ok (.bipush 100, 2) := by decide +kernel
theorem dX7_stamp_14 : decode cX7_stamp 14 = .ok (.if_icmp .ne 7, 3) := by decide +kernel
theorem dX7_stamp_17 : decode cX7_stamp 17 = .ok (.ldc2_w 155, 3) := by decide +kernel
theorem dX7_stamp_20 : decode cX7_stamp 20 = .ok (.lreturn, 1) := by decide +kernel
theorem dX7_stamp_21 : decode cX7_stamp 21 = .ok (.aload_n 0, 1) := by decide +kernel
theorem dX7_stamp_22 : decode cX7_stamp 22 = .ok (.getfield 93, 3) := by decide +kernel
theorem dX7_stamp_25 : decode cX7_stamp 25 = .ok (.aload_n 0, 1) := by decide +kernel
theorem dX7_stamp_26 : decode cX7_stamp 26 = .ok (.getfield 238, 3) := by decide +kernel
theorem dX7_stamp_29 : decode cX7_stamp 29 = .ok (.aload_n 0, 1) := by decide +kernel
theorem dX7_stamp_30 : decode cX7_stamp 30 = .ok (.iload_n 1, 1) := by decide +kernel
theorem dX7_stamp_31 : decode cX7_stamp 31 = .ok (.invokevirtual 187, 3) := by decide +kernel
theorem dX7_stamp_34 : decode cX7_stamp 34 = .ok (.lastore, 1) := by decide +kernel
theorem dX7_stamp_35 : decode cX7_stamp 35 = .ok (.aload_n 0, 1) := by decide +kernel
theorem dX7_stamp_36 : decode cX7_stamp 36 = .ok (.getfield 96, 3) := by decide +kernel
theorem dX7_stamp_39 : decode cX7_stamp 39 = .ok (.aload_n 0, 1) := by decide +kernel
theorem dX7_stamp_40 : decode cX7_stamp 40 = .ok (.getfield 238, 3) := by decide +kernel
theorem dX7_stamp_43 : decode cX7_stamp 43 = .ok (.aload_n 0, 1) := by decide +kernel
theorem dX7_stamp_44 : decode cX7_stamp 44 = .ok (.iload_n 1, 1) := by decide +kernel
theorem dX7_stamp_45 : decode cX7_stamp 45 = .ok (.invokevirtual 190, 3) := by decide +kernel
theorem dX7_stamp_48 : decode cX7_stamp 48 = .ok (.lastore, 1) := by decide +kernel
theorem dX7_stamp_49 : decode cX7_stamp 49 = .ok (.aload_n 0, 1) := by decide +kernel
theorem dX7_stamp_50 : decode cX7_stamp 50 = .ok (.getfield 99, 3) := by decide +kernel
theorem dX7_stamp_53 : decode cX7_stamp 53 = .ok (.aload_n 0, 1) := by decide +kernel
theorem dX7_stamp_54 : decode cX7_stamp 54 = .ok (.getfield 238, 3) := by decide +kernel
theorem dX7_stamp_57 : decode cX7_stamp 57 = .ok (.iload_n 1, 1) := by decide +kernel
theorem dX7_stamp_58 : decode cX7_stamp 58 = .ok (.iastore, 1) := by decide +kernel
theorem dX7_stamp_59 : decode cX7_stamp 59 = .ok (.aload_n 0, 1) := by decide +kernel
theorem dX7_stamp_60 : decode cX7_stamp 60 = .ok (.getfield 102, 3) := by decide +kernel
theorem dX7_stamp_63 : decode cX7_stamp 63 = .ok (.aload_n 0, 1) := by decide +kernel
theorem dX7_stamp_64 : decode cX7_stamp 64 = .ok (.getfield 238, 3) := by decide +kernel
theorem dX7_stamp_67 : decode cX7_stamp 67 = .ok (.aload_n 0, 1) := by decide +kernel
theorem dX7_stamp_68 : decode cX7_stamp 68 = .ok (.getfield 149, 3) := by decide +kernel
theorem dX7_stamp_71 : decode cX7_stamp 71 = .ok (.aload_n 0, 1) := by decide +kernel
theorem dX7_stamp_72 : decode cX7_stamp 72 = .ok (.iload_n 1, 1) := by decide +kernel
theorem dX7_stamp_73 : decode cX7_stamp 73 = .ok (.invokevirtual 187, 3) := by decide +kernel
theorem dX7_stamp_76 : decode cX7_stamp 76 = .ok (.aload_n 0, 1) := by decide +kernel
theorem dX7_stamp_77 : decode cX7_stamp 77 = .ok (.iload_n 1, 1) := by decide +kernel
theorem dX7_stamp_78 : decode cX7_stamp 78 = .ok (.invokevirtual 190, 3) := by decide +kernel
theorem dX7_stamp_81 : decode cX7_stamp 81 = .ok (.invokestatic 143, 3) := by decide +kernel
theorem dX7_stamp_84 : decode cX7_stamp 84 = .ok (.bastore, 1) := by decide +kernel
theorem dX7_stamp_85 : decode cX7_stamp 85 = .ok (.aload_n 0, 1) := by decide +kernel
theorem dX7_stamp_86 : decode cX7_stamp 86 = .ok (.dup, 1) := by decide +kernel
theorem dX7_stamp_87 : decode cX7_stamp 87 = .ok (.getfield 238, 3) := by decide +kernel
theorem dX7_stamp_90 : decode cX7_stamp 90 = .ok (.iconst 1, 1) := by decide +kernel
theorem dX7_stamp_91 : decode cX7_stamp 91 = .ok (.iadd, 1) := by decide +kernel
theorem dX7_stamp_92 : decode cX7_stamp 92 = .ok (.putfield 238, 3) := by decide +kernel
theorem dX7_stamp_95 : decode cX7_stamp 95 = .ok (.aload_n 0, 1) := by decide +kernel
theorem dX7_stamp_96 : decode cX7_stamp 96 = .ok (.getfield 238, 3) := by decide +kernel
theorem dX7_stamp_99 : decode cX7_stamp 99 = .ok (.iconst 1, 1) := by decide +kernel
theorem dX7_stamp_100 : decode cX7_stamp 100 = .ok (.isub, 1) := by decide +kernel
theorem dX7_stamp_101 : decode cX7_stamp 101 = .ok (.i2l, 1) := by decide +kernel
theorem dX7_stamp_102 : decode cX7_stamp 102 = .ok (.lreturn, 1) := by decide +kernel
theorem dX7_isStamp_0 : decode cX7_isStamp 0 = .ok (.iload_n 1, 1) := by decide +kernel
theorem dX7_isStamp_1 : decode cX7_isStamp 1 = .ok (.i2l, 1) := by decide +kernel
theorem dX7_isStamp_2 : decode cX7_isStamp 2 = .ok (.lconst 0, 1) := by decide +kernel
theorem dX7_isStamp_3 : decode cX7_isStamp 3 = .ok (.aload_n 0, 1) := by decide +kernel
theorem dX7_isStamp_4 : decode cX7_isStamp 4 = .ok (.getfield 238, 3) := by decide +kernel
theorem dX7_isStamp_7 : decode cX7_isStamp 7 = .ok (.i2l, 1) := by decide +kernel
theorem dX7_isStamp_8 : decode cX7_isStamp 8 = .ok (.lconst 1, 1) := by decide +kernel
theorem dX7_isStamp_9 : decode cX7_isStamp 9 = .ok (.lsub, 1) := by decide +kernel
theorem dX7_isStamp_10 : decode cX7_isStamp 10 = .ok (.invokestatic 143, 3) := by decide +kernel
theorem dX7_isStamp_13 : decode cX7_isStamp 13 = .ok (.ireturn, 1) := by decide +kernel
theorem dX7_given_0 : decode cX7_given 0 = .ok (.aload_n 0, 1) := by decide +kernel
theorem dX7_given_1 : decode cX7_given 1 = .ok (.iload_n 1, 1) := by decide +kernel
theorem dX7_given_2 : decode cX7_given 2 = .ok (.invokevirtual 241, 3) := by decide +kernel
theorem dX7_given_5 : decode cX7_given 5 = .ok (.ifCond .ne 7, 3) := by decide +kernel
theorem dX7_given_8 : decode cX7_given 8 = .ok (.ldc2_w 155, 3) := by decide +kernel
theorem dX7_given_11 : decode cX7_given 11 = .ok (.lreturn, 1) := by decide +kernel
theorem dX7_given_12 : decode cX7_given 12 = .ok (.iload_n 2, 1) := by decide +kernel
theorem dX7_given_13 : decode cX7_given 13 = .ok (.tableswitch 68 0 3 #[31, 38, 45, 53], 31) := by decide +kernel
theorem dX7_given_44 : decode cX7_given 44 = .ok (.aload_n 0, 1) := by decide +kernel
theorem dX7_given_45 : decode cX7_given 45 = .ok (.getfield 93, 3) := by decide +kernel
theorem dX7_given_48 : decode cX7_given 48 = .ok (.iload_n 1, 1) := by decide +kernel
theorem dX7_given_49 : decode cX7_given 49 = .ok (.laload, 1) := by decide +kernel
theorem dX7_given_50 : decode cX7_given 50 = .ok (.lreturn, 1) := by decide +kernel
theorem dX7_given_51 : decode cX7_given 51 = .ok (.aload_n 0, 1) := by decide +kernel
theorem dX7_given_52 : decode cX7_given 52 = .ok (.getfield 96, 3) := by decide +kernel
theorem dX7_given_55 : decode cX7_given 55 = .ok (.iload_n 1, 1) := by decide +kernel
theorem dX7_given_56 : decode cX7_given 56 = .ok (.laload, 1) := by decide +kernel
theorem dX7_given_57 : decode cX7_given 57 = .ok (.lreturn, 1) := by decide +kernel
theorem dX7_given_58 : decode cX7_given 58 = .ok (.aload_n 0, 1) := by decide +kernel
theorem dX7_given_59 : decode cX7_given 59 = .ok (.getfield 99, 3) := by decide +kernel
theorem dX7_given_62 : decode cX7_given 62 = .ok (.iload_n 1, 1) := by decide +kernel
theorem dX7_given_63 : decode cX7_given 63 = .ok (.iaload, 1) := by decide +kernel
theorem dX7_given_64 : decode cX7_given 64 = .ok (.i2l, 1) := by decide +kernel
theorem dX7_given_65 : decode cX7_given 65 = .ok (.lreturn, 1) := by decide +kernel
theorem dX7_given_66 : decode cX7_given 66 = .ok (.aload_n 0, 1) := by decide +kernel
theorem dX7_given_67 : decode cX7_given 67 = .ok (.getfield 102, 3) := by decide +kernel
theorem dX7_given_70 : decode cX7_given 70 = .ok (.iload_n 1, 1) := by decide +kernel
theorem dX7_given_71 : decode cX7_given 71 = .ok (.baload, 1) := by decide +kernel
theorem dX7_given_72 : decode cX7_given 72 = .ok (.ifCond .eq 7, 3) := by decide +kernel
theorem dX7_given_75 : decode cX7_given 75 = .ok (.lconst 1, 1) := by decide +kernel
theorem dX7_given_76 : decode cX7_given 76 = .ok (.goto 4, 3) := by decide +kernel
theorem dX7_given_79 : decode cX7_given 79 = .ok (.lconst 0, 1) := by decide +kernel
theorem dX7_given_80 : decode cX7_given 80 = .ok (.lreturn, 1) := by decide +kernel
theorem dX7_given_81 : decode cX7_given 81 = .ok (.ldc2_w 155, 3) := by decide +kernel
theorem dX7_given_84 : decode cX7_given 84 = .ok (.lreturn, 1) := by decide +kernel
theorem dX7_ahead_0 : decode cX7_ahead 0 = .ok (.aload_n 0, 1) := by decide +kernel
theorem dX7_ahead_1 : decode cX7_ahead 1 = .ok (.iload_n 1, 1) := by decide +kernel
theorem dX7_ahead_2 : decode cX7_ahead 2 = .ok (.invokevirtual 241, 3) := by decide +kernel
theorem dX7_ahead_5 : decode cX7_ahead 5 = .ok (.ifCond .eq 11, 3) := by decide +kernel
theorem dX7_ahead_8 : decode cX7_ahead 8 = .ok (.aload_n 0, 1) := by decide +kernel
theorem dX7_ahead_9 : decode cX7_ahead 9 = .ok (.iload_n 2, 1) := by decide +kernel
theorem dX7_ahead_10 : decode cX7_ahead 10 = .ok (.invokevirtual 241, 3) := by decide +kernel
theorem dX7_ahead_13 : decode cX7_ahead 13 = .ok (.ifCond .ne 7, 3) := by decide +kernel
theorem dX7_ahead_16 : decode cX7_ahead 16 = .ok (.ldc2_w 155, 3) := by decide +kernel
theorem dX7_ahead_19 : decode cX7_ahead 19 = .ok (.lreturn, 1) := by decide +kernel
theorem dX7_ahead_20 : decode cX7_ahead 20 = .ok (.aload_n 0, 1) := by decide +kernel
theorem dX7_ahead_21 : decode cX7_ahead 21 = .ok (.getfield 96, 3) := by decide +kernel
theorem dX7_ahead_24 : decode cX7_ahead 24 = .ok (.iload_n 1, 1) := by decide +kernel
theorem dX7_ahead_25 : decode cX7_ahead 25 = .ok (.laload, 1) := by decide +kernel
theorem dX7_ahead_26 : decode cX7_ahead 26 = .ok (.aload_n 0, 1) := by decide +kernel
theorem dX7_ahead_27 : decode cX7_ahead 27 = .ok (.getfield 93, 3) := by decide +kernel
theorem dX7_ahead_30 : decode cX7_ahead 30 = .ok (.iload_n 2, 1) := by decide +kernel
theorem dX7_ahead_31 : decode cX7_ahead 31 = .ok (.laload, 1) := by decide +kernel
theorem dX7_ahead_32 : decode cX7_ahead 32 = .ok (.lcmp, 1) := by decide +kernel
theorem dX7_ahead_33 : decode cX7_ahead 33 = .ok (.ifCond .ge 7, 3) := by decide +kernel
theorem dX7_ahead_36 : decode cX7_ahead 36 = .ok (.lconst 1, 1) := by decide +kernel
theorem dX7_ahead_37 : decode cX7_ahead 37 = .ok (.goto 26, 3) := by decide +kernel
theorem dX7_ahead_40 : decode cX7_ahead 40 = .ok (.aload_n 0, 1) := by decide +kernel
theorem dX7_ahead_41 : decode cX7_ahead 41 = .ok (.getfield 96, 3) := by decide +kernel
theorem dX7_ahead_44 : decode cX7_ahead 44 = .ok (.iload_n 2, 1) := by decide +kernel
theorem dX7_ahead_45 : decode cX7_ahead 45 = .ok (.laload, 1) := by decide +kernel
theorem dX7_ahead_46 : decode cX7_ahead 46 = .ok (.aload_n 0, 1) := by decide +kernel
theorem dX7_ahead_47 : decode cX7_ahead 47 = .ok (.getfield 93, 3) := by decide +kernel
theorem dX7_ahead_50 : decode cX7_ahead 50 = .ok (.iload_n 1, 1) := by decide +kernel
theorem dX7_ahead_51 : decode cX7_ahead 51 = .ok (.laload, 1) := by decide +kernel
theorem dX7_ahead_52 : decode cX7_ahead 52 = .ok (.lcmp, 1) := by decide +kernel
theorem dX7_ahead_53 : decode cX7_ahead 53 = .ok (.ifCond .ge 9, 3) := by decide +kernel
theorem dX7_ahead_56 : decode cX7_ahead 56 = .ok (.ldc2_w 244, 3) := by decide +kernel
theorem dX7_ahead_59 : decode cX7_ahead 59 = .ok (.goto 4, 3) := by decide +kernel
theorem dX7_ahead_62 : decode cX7_ahead 62 = .ok (.lconst 0, 1) := by decide +kernel
theorem dX7_ahead_63 : decode cX7_ahead 63 = .ok (.lreturn, 1) := by decide +kernel
theorem dX7_wait_0 : decode cX7_wait 0 = .ok (.aload_n 0, 1) := by decide +kernel
theorem dX7_wait_1 : decode cX7_wait 1 = .ok (.iload_n 1, 1) := by decide +kernel
theorem dX7_wait_2 : decode cX7_wait 2 = .ok (.invokevirtual 163, 3) := by decide +kernel
theorem dX7_wait_5 : decode cX7_wait 5 = .ok (.ifCond .eq 13, 3) := by decide +kernel
theorem dX7_wait_8 : decode cX7_wait 8 = .ok (.aload_n 0, 1) := by decide +kernel
theorem dX7_wait_9 : decode cX7_wait 9 = .ok (.getfield 7, 3) := by decide +kernel
theorem dX7_wait_12 : decode cX7_wait 12 = .ok (.iload_n 1, 1) := by decide +kernel
theorem dX7_wait_13 : decode cX7_wait 13 = .ok (.iaload, 1) := by decide +kernel
theorem dX7_wait_14 : decode cX7_wait 14 = .ok (.iconst 3, 1) := by decide +kernel
theorem dX7_wait_15 : decode cX7_wait 15 = .ok (.if_icmp .ne 7, 3) := by decide +kernel
theorem dX7_wait_18 : decode cX7_wait 18 = .ok (.ldc2_w 155, 3) := by decide +kernel
theorem dX7_wait_21 : decode cX7_wait 21 = .ok (.lreturn, 1) := by decide +kernel
theorem dX7_wait_22 : decode cX7_wait 22 = .ok (.aload_n 0, 1) := by decide +kernel
theorem dX7_wait_23 : decode cX7_wait 23 = .ok (.getfield 238, 3) := by decide +kernel
theorem dX7_wait_26 : decode cX7_wait 26 = .ok (.ifCond .ne 5, 3) := by decide +kernel
theorem dX7_wait_29 : decode cX7_wait 29 = .ok (.lconst 0, 1) := by decide +kernel
theorem dX7_wait_30 : decode cX7_wait 30 = .ok (.lreturn, 1) := by decide +kernel
theorem dX7_wait_31 : decode cX7_wait 31 = .ok (.aload_n 0, 1) := by decide +kernel
theorem dX7_wait_32 : decode cX7_wait 32 = .ok (.getfield 96, 3) := by decide +kernel
theorem dX7_wait_35 : decode cX7_wait 35 = .ok (.iconst 0, 1) := by decide +kernel
theorem dX7_wait_36 : decode cX7_wait 36 = .ok (.laload, 1) := by decide +kernel
theorem dX7_wait_37 : decode cX7_wait 37 = .ok (.lstore_n 2, 1) := by decide +kernel
theorem dX7_wait_38 : decode cX7_wait 38 = .ok (.iconst 1, 1) := by decide +kernel
theorem dX7_wait_39 : decode cX7_wait 39 = .ok (.istore 4, 2) := by decide +kernel
theorem dX7_wait_41 : decode cX7_wait 41 = .ok (.iload 4, 2) := by decide +kernel
theorem dX7_wait_43 : decode cX7_wait 43 = .ok (.aload_n 0, 1) := by decide +kernel
theorem dX7_wait_44 : decode cX7_wait 44 = .ok (.getfield 238, 3) := by decide +kernel
theorem dX7_wait_47 : decode cX7_wait 47 = .ok (.if_icmp .ge 33, 3) := by decide +kernel
theorem dX7_wait_50 : decode cX7_wait 50 = .ok (.aload_n 0, 1) := by decide +kernel
theorem dX7_wait_51 : decode cX7_wait 51 = .ok (.getfield 96, 3) := by decide +kernel
theorem dX7_wait_54 : decode cX7_wait 54 = .ok (.iload 4, 2) := by decide +kernel
theorem dX7_wait_56 : decode cX7_wait 56 = .ok (.laload, 1) := by decide +kernel
theorem dX7_wait_57 : decode cX7_wait 57 = .ok (.lload_n 2, 1) := by decide +kernel
theorem dX7_wait_58 : decode cX7_wait 58 = .ok (.lcmp, 1) := by decide +kernel
theorem dX7_wait_59 : decode cX7_wait 59 = .ok (.ifCond .le 13, 3) := by decide +kernel
theorem dX7_wait_62 : decode cX7_wait 62 = .ok (.aload_n 0, 1) := by decide +kernel
theorem dX7_wait_63 : decode cX7_wait 63 = .ok (.getfield 96, 3) := by decide +kernel
theorem dX7_wait_66 : decode cX7_wait 66 = .ok (.iload 4, 2) := by decide +kernel
theorem dX7_wait_68 : decode cX7_wait 68 = .ok (.laload, 1) := by decide +kernel
theorem dX7_wait_69 : decode cX7_wait 69 = .ok (.goto 4, 3) := by decide +kernel
theorem dX7_wait_72 : decode cX7_wait 72 = .ok (.lload_n 2, 1) := by decide +kernel
theorem dX7_wait_73 : decode cX7_wait 73 = .ok (.lstore_n 2, 1) := by decide +kernel
theorem dX7_wait_74 : decode cX7_wait 74 = .ok (.iinc 4 1, 3) := by decide +kernel
theorem dX7_wait_77 : decode cX7_wait 77 = .ok (.goto (-36), 3) := by decide +kernel
theorem dX7_wait_80 : decode cX7_wait 80 = .ok (.lload_n 2, 1) := by decide +kernel
theorem dX7_wait_81 : decode cX7_wait 81 = .ok (.lconst 1, 1) := by decide +kernel
theorem dX7_wait_82 : decode cX7_wait 82 = .ok (.ladd, 1) := by decide +kernel
theorem dX7_wait_83 : decode cX7_wait 83 = .ok (.aload_n 0, 1) := by decide +kernel
theorem dX7_wait_84 : decode cX7_wait 84 = .ok (.getfield 29, 3) := by decide +kernel
theorem dX7_wait_87 : decode cX7_wait 87 = .ok (.iload_n 1, 1) := by decide +kernel
theorem dX7_wait_88 : decode cX7_wait 88 = .ok (.laload, 1) := by decide +kernel
theorem dX7_wait_89 : decode cX7_wait 89 = .ok (.lsub, 1) := by decide +kernel
theorem dX7_wait_90 : decode cX7_wait 90 = .ok (.lstore 4, 2) := by decide +kernel
theorem dX7_wait_92 : decode cX7_wait 92 = .ok (.lconst 1, 1) := by decide +kernel
theorem dX7_wait_93 : decode cX7_wait 93 = .ok (.lload 4, 2) := by decide +kernel
theorem dX7_wait_95 : decode cX7_wait 95 = .ok (.lconst 1, 1) := by decide +kernel
theorem dX7_wait_96 : decode cX7_wait 96 = .ok (.lsub, 1) := by decide +kernel
theorem dX7_wait_97 : decode cX7_wait 97 = .ok (.ldc2_w 167, 3) := by decide +kernel
theorem dX7_wait_100 : decode cX7_wait 100 = .ok (.aload_n 0, 1) := by decide +kernel
theorem dX7_wait_101 : decode cX7_wait 101 = .ok (.getfield 13, 3) := by decide +kernel
theorem dX7_wait_104 : decode cX7_wait 104 = .ok (.iload_n 1, 1) := by decide +kernel
theorem dX7_wait_105 : decode cX7_wait 105 = .ok (.laload, 1) := by decide +kernel
theorem dX7_wait_106 : decode cX7_wait 106 = .ok (.ladd, 1) := by decide +kernel
theorem dX7_wait_107 : decode cX7_wait 107 = .ok (.lmul, 1) := by decide +kernel
theorem dX7_wait_108 : decode cX7_wait 108 = .ok (.ldc2_w 167, 3) := by decide +kernel
theorem dX7_wait_111 : decode cX7_wait 111 = .ok (.invokestatic 177, 3) := by decide +kernel
theorem dX7_wait_114 : decode cX7_wait 114 = .ok (.ladd, 1) := by decide +kernel
theorem dX7_wait_115 : decode cX7_wait 115 = .ok (.lstore 6, 2) := by decide +kernel
theorem dX7_wait_117 : decode cX7_wait 117 = .ok (.aload_n 0, 1) := by decide +kernel
theorem dX7_wait_118 : decode cX7_wait 118 = .ok (.iload_n 1, 1) := by decide +kernel
theorem dX7_wait_119 : decode cX7_wait 119 = .ok (.invokevirtual 173, 3) := by decide +kernel
theorem dX7_wait_122 : decode cX7_wait 122 = .ok (.aload_n 0, 1) := by decide +kernel
theorem dX7_wait_123 : decode cX7_wait 123 = .ok (.getfield 35, 3) := by decide +kernel
theorem dX7_wait_126 : decode cX7_wait 126 = .ok (.iload_n 1, 1) := by decide +kernel
theorem dX7_wait_127 : decode cX7_wait 127 = .ok (.laload, 1) := by decide +kernel
theorem dX7_wait_128 : decode cX7_wait 128 = .ok (.lsub, 1) := by decide +kernel
theorem dX7_wait_129 : decode cX7_wait 129 = .ok (.lstore 8, 2) := by decide +kernel
theorem dX7_wait_131 : decode cX7_wait 131 = .ok (.lload 6, 2) := by decide +kernel
theorem dX7_wait_133 : decode cX7_wait 133 = .ok (.lload 8, 2) := by decide +kernel
theorem dX7_wait_135 : decode cX7_wait 135 = .ok (.lcmp, 1) := by decide +kernel
theorem dX7_wait_136 : decode cX7_wait 136 = .ok (.ifCond .le 11, 3) := by decide +kernel
theorem dX7_wait_139 : decode cX7_wait 139 = .ok (.lload 6, 2) := by decide +kernel
theorem dX7_wait_141 : decode cX7_wait 141 = .ok (.lload 8, 2) := by decide +kernel
theorem dX7_wait_143 : decode cX7_wait 143 = .ok (.lsub, 1) := by decide +kernel
theorem dX7_wait_144 : decode cX7_wait 144 = .ok (.goto 4, 3) := by decide +kernel
theorem dX7_wait_147 : decode cX7_wait 147 = .ok (.lconst 0, 1) := by decide +kernel
theorem dX7_wait_148 : decode cX7_wait 148 = .ok (.lreturn, 1) := by decide +kernel
theorem dX7_event_0 : decode cX7_event 0 = .ok (.aload_n 0, 1) := by decide +kernel
theorem dX7_event_1 : decode cX7_event 1 = .ok (.iload_n 1, 1) := by decide +kernel
theorem dX7_event_2 : decode cX7_event 2 = .ok (.invokevirtual 241, 3) := by decide +kernel
theorem dX7_event_5 : decode cX7_event 5 = .ok (.ifCond .eq 12, 3) := by decide +kernel
theorem dX7_event_8 : decode cX7_event 8 = .ok (.aload_n 0, 1) := by decide +kernel
theorem dX7_event_9 : decode cX7_event 9 = .ok (.getfield 246, 3) := by decide +kernel
theorem dX7_event_12 : decode cX7_event 12 = .ok (.bipush 30, 2) := by decide +kernel
theorem dX7_event_14 : decode cX7_event 14 = .ok (.if_icmp .ne 7, 3) := by decide +kernel
theorem dX7_event_17 : decode cX7_event 17 = .ok (.ldc2_w 155, 3) := by decide +kernel
theorem dX7_event_20 : decode cX7_event 20 = .ok (.lreturn, 1) := by decide +kernel
theorem dX7_event_21 : decode cX7_event 21 = .ok (.aload_n 0, 1) := by decide +kernel
theorem dX7_event_22 : decode cX7_event 22 = .ok (.getfield 105, 3) := by decide +kernel
theorem dX7_event_25 : decode cX7_event 25 = .ok (.aload_n 0, 1) := by decide +kernel
theorem dX7_event_26 : decode cX7_event 26 = .ok (.getfield 246, 3) := by decide +kernel
theorem dX7_event_29 : decode cX7_event 29 = .ok (.aload_n 0, 1) := by decide +kernel
theorem dX7_event_30 : decode cX7_event 30 = .ok (.getfield 93, 3) := by decide +kernel
theorem dX7_event_33 : decode cX7_event 33 = .ok (.iload_n 1, 1) := by decide +kernel
theorem dX7_event_34 : decode cX7_event 34 = .ok (.laload, 1) := by decide +kernel
theorem dX7_event_35 : decode cX7_event 35 = .ok (.lastore, 1) := by decide +kernel
theorem dX7_event_36 : decode cX7_event 36 = .ok (.aload_n 0, 1) := by decide +kernel
theorem dX7_event_37 : decode cX7_event 37 = .ok (.getfield 108, 3) := by decide +kernel
theorem dX7_event_40 : decode cX7_event 40 = .ok (.aload_n 0, 1) := by decide +kernel
theorem dX7_event_41 : decode cX7_event 41 = .ok (.getfield 246, 3) := by decide +kernel
theorem dX7_event_44 : decode cX7_event 44 = .ok (.aload_n 0, 1) := by decide +kernel
theorem dX7_event_45 : decode cX7_event 45 = .ok (.getfield 96, 3) := by decide +kernel
theorem dX7_event_48 : decode cX7_event 48 = .ok (.iload_n 1, 1) := by decide +kernel
theorem dX7_event_49 : decode cX7_event 49 = .ok (.laload, 1) := by decide +kernel
theorem dX7_event_50 : decode cX7_event 50 = .ok (.lastore, 1) := by decide +kernel
theorem dX7_event_51 : decode cX7_event 51 = .ok (.aload_n 0, 1) := by decide +kernel
theorem dX7_event_52 : decode cX7_event 52 = .ok (.dup, 1) := by decide +kernel
theorem dX7_event_53 : decode cX7_event 53 = .ok (.getfield 246, 3) := by decide +kernel
theorem dX7_event_56 : decode cX7_event 56 = .ok (.iconst 1, 1) := by decide +kernel
theorem dX7_event_57 : decode cX7_event 57 = .ok (.iadd, 1) := by decide +kernel
theorem dX7_event_58 : decode cX7_event 58 = .ok (.putfield 246, 3) := by decide +kernel
theorem dX7_event_61 : decode cX7_event 61 = .ok (.aload_n 0, 1) := by decide +kernel
theorem dX7_event_62 : decode cX7_event 62 = .ok (.getfield 246, 3) := by decide +kernel
theorem dX7_event_65 : decode cX7_event 65 = .ok (.iconst 1, 1) := by decide +kernel
theorem dX7_event_66 : decode cX7_event 66 = .ok (.isub, 1) := by decide +kernel
theorem dX7_event_67 : decode cX7_event 67 = .ok (.i2l, 1) := by decide +kernel
theorem dX7_event_68 : decode cX7_event 68 = .ok (.lreturn, 1) := by decide +kernel
theorem dX7_isEvent_0 : decode cX7_isEvent 0 = .ok (.iload_n 1, 1) := by decide +kernel
theorem dX7_isEvent_1 : decode cX7_isEvent 1 = .ok (.i2l, 1) := by decide +kernel
theorem dX7_isEvent_2 : decode cX7_isEvent 2 = .ok (.lconst 0, 1) := by decide +kernel
theorem dX7_isEvent_3 : decode cX7_isEvent 3 = .ok (.aload_n 0, 1) := by decide +kernel
theorem dX7_isEvent_4 : decode cX7_isEvent 4 = .ok (.getfield 246, 3) := by decide +kernel
theorem dX7_isEvent_7 : decode cX7_isEvent 7 = .ok (.i2l, 1) := by decide +kernel
theorem dX7_isEvent_8 : decode cX7_isEvent 8 = .ok (.lconst 1, 1) := by decide +kernel
theorem dX7_isEvent_9 : decode cX7_isEvent 9 = .ok (.lsub, 1) := by decide +kernel
theorem dX7_isEvent_10 : decode cX7_isEvent 10 = .ok (.invokestatic 143, 3) := by decide +kernel
theorem dX7_isEvent_13 : decode cX7_isEvent 13 = .ok (.ireturn, 1) := by decide +kernel
theorem dX7_link_0 : decode cX7_link 0 = .ok (.aload_n 0, 1) := by decide +kernel
theorem dX7_link_1 : decode cX7_link 1 = .ok (.iload_n 1, 1) := by decide +kernel
theorem dX7_link_2 : decode cX7_link 2 = .ok (.invokevirtual 249, 3) := by decide +kernel
theorem dX7_link_5 : decode cX7_link 5 = .ok (.ifCond .eq 25, 3) := by decide +kernel
theorem dX7_link_8 : decode cX7_link 8 = .ok (.aload_n 0, 1) := by decide +kernel
theorem dX7_link_9 : decode cX7_link 9 = .ok (.iload_n 2, 1) := by decide +kernel
theorem dX7_link_10 : decode cX7_link 10 = .ok (.invokevirtual 249, 3) := by decide +kernel
theorem dX7_link_13 : decode cX7_link 13 = .ok (.ifCond .eq 17, 3) := by decide +kernel
theorem dX7_link_16 : decode cX7_link 16 = .ok (.iload_n 1, 1) := by decide +kernel
theorem dX7_link_17 : decode cX7_link 17 = .ok (.iload_n 2, 1) := by decide +kernel
theorem dX7_link_18 : decode cX7_link 18 = .ok (.if_icmp .eq 12, 3) := by decide +kernel
theorem dX7_link_21 : decode cX7_link 21 = .ok (.aload_n 0, 1) := by decide +kernel
theorem dX7_link_22 : decode cX7_link 22 = .ok (.getfield 252, 3) := by decide +kernel
theorem dX7_link_25 : decode cX7_link 25 = .ok (.bipush 60, 2) := by decide +kernel
theorem dX7_link_27 : decode cX7_link 27 = .ok (.if_icmp .ne 7, 3) := by decide +kernel
theorem dX7_link_30 : decode cX7_link 30 = .ok (.ldc2_w 155, 3) := by decide +kernel
theorem dX7_link_33 : decode cX7_link 33 = .ok (.lreturn, 1) := by decide +kernel
theorem dX7_link_34 : decode cX7_link 34 = .ok (.aload_n 0, 1) := by decide +kernel
theorem dX7_link_35 : decode cX7_link 35 = .ok (.getfield 111, 3) := by decide +kernel
theorem dX7_link_38 : decode cX7_link 38 = .ok (.bipush 30, 2) := by decide +kernel
theorem dX7_link_40 : decode cX7_link 40 = .ok (.iload_n 1, 1) := by decide +kernel
theorem dX7_link_41 : decode cX7_link 41 = .ok (.imul, 1) := by decide +kernel
theorem dX7_link_42 : decode cX7_link 42 = .ok (.iload_n 2, 1) := by decide +kernel
theorem dX7_link_43 : decode cX7_link 43 = .ok (.iadd, 1) := by decide +kernel
theorem dX7_link_44 : decode cX7_link 44 = .ok (.iconst 1, 1) := by decide +kernel
theorem dX7_link_45 : decode cX7_link 45 = .ok (.bastore, 1) := by decide +kernel
theorem dX7_link_46 : decode cX7_link 46 = .ok (.aload_n 0, 1) := by decide +kernel
theorem dX7_link_47 : decode cX7_link 47 = .ok (.dup, 1) := by decide +kernel
theorem dX7_link_48 : decode cX7_link 48 = .ok (.getfield 252, 3) := by decide +kernel
theorem dX7_link_51 : decode cX7_link 51 = .ok (.iconst 1, 1) := by decide +kernel
theorem dX7_link_52 : decode cX7_link 52 = .ok (.iadd, 1) := by decide +kernel
theorem dX7_link_53 : decode cX7_link 53 = .ok (.putfield 252, 3) := by decide +kernel
theorem dX7_link_56 : decode cX7_link 56 = .ok (.aload_n 0, 1) := by decide +kernel
theorem dX7_link_57 : decode cX7_link 57 = .ok (.getfield 252, 3) := by decide +kernel
theorem dX7_link_60 : decode cX7_link 60 = .ok (.i2l, 1) := by decide +kernel
theorem dX7_link_61 : decode cX7_link 61 = .ok (.lreturn, 1) := by decide +kernel
theorem dX7_findLongest_0 : decode cX7_findLongest 0 = .ok (.iconst 0, 1) := by decide +kernel
theorem dX7_findLongest_1 : decode cX7_findLongest 1 = .ok (.istore_n 1, 1) := by decide +kernel
theorem dX7_findLongest_2 : decode cX7_findLongest 2 = .ok (.iload_n 1, 1) := by decide +kernel
theorem dX7_findLongest_3 : decode cX7_findLongest 3 = .ok (.aload_n 0, 1) := by decide +kernel
theorem dX7_findLongest_4 : decode cX7_findLongest 4 = .ok (.getfield 246, 3) := by decide +kernel
theorem dX7_findLongest_7 : decode cX7_findLongest 7 = .ok (.if_icmp .ge 180, 3) := by decide +kernel
theorem dX7_findLongest_10 : decode cX7_findLongest 10 = .ok (.iconst 0, 1) := by decide +kernel
theorem dX7_findLongest_11 : decode cX7_findLongest 11 = .ok (.istore_n 2, 1) := by decide +kernel
theorem dX7_findLongest_12 : decode cX7_findLongest 12 = .ok (.iload_n 2, 1) := by decide +kernel
theorem dX7_findLongest_13 : decode cX7_findLongest 13 = .ok (.aload_n 0, 1) := by decide +kernel
theorem dX7_findLongest_14 : decode cX7_findLongest 14 = .ok (.getfield 246, 3) := by decide +kernel
theorem dX7_findLongest_17 : decode cX7_findLongest 17 = .ok (.if_icmp .ge 30, 3) := by decide +kernel
theorem dX7_findLongest_20 : decode cX7_findLongest 20 = .ok (.aload_n 0, 1) := by decide +kernel
theorem dX7_findLongest_21 : decode cX7_findLongest 21 = .ok (.getfield 126, 3) := by decide +kernel
theorem dX7_findLongest_24 : decode cX7_findLongest 24 = .ok (.bipush 30, 2) := by decide +kernel
theorem dX7_findLongest_26 : decode cX7_findLongest 26 = .ok (.iload_n 1, 1) := by decide +kernel
theorem dX7_findLongest_27 : decode cX7_findLongest 27 = .ok (.imul, 1) := by decide +kernel
theorem dX7_findLongest_28 : decode cX7_findLongest 28 = .ok (.iload_n 2, 1) := by decide +kernel
theorem dX7_findLongest_29 : decode cX7_findLongest 29 = .ok (.iadd, 1) := by decide +kernel
theorem dX7_findLongest_30 : decode cX7_findLongest 30 = .ok (.iload_n 1, 1) := by decide +kernel
theorem dX7_findLongest_31 : decode cX7_findLongest 31 = .ok (.iload_n 2, 1) := by decide +kernel
theorem dX7_findLongest_32 : decode cX7_findLongest 32 = .ok (.if_icmp .ne 7, 3) := by decide +kernel
theorem dX7_findLongest_35 : decode cX7_findLongest 35 = .ok (.iconst 0, 1) := by decide +kernel
theorem dX7_findLongest_36 : decode cX7_findLongest 36 = .ok (.goto 4, 3) := by decide +kernel
theorem dX7_findLongest_39 : decode cX7_findLongest 39 = .ok (.iconst (-1), 1) := by decide +kernel
theorem dX7_findLongest_40 : decode cX7_findLongest 40 = .ok (.iastore, 1) := by decide +kernel
theorem dX7_findLongest_41 : decode cX7_findLongest 41 = .ok (.iinc 2 1, 3) := by decide +kernel
theorem dX7_findLongest_44 : decode cX7_findLongest 44 = .ok (.goto (-32), 3) := by decide +kernel
theorem dX7_findLongest_47 : decode cX7_findLongest 47 = .ok (.iconst 1, 1) := by decide +kernel
theorem dX7_findLongest_48 : decode cX7_findLongest 48 = .ok (.istore_n 2, 1) := by decide +kernel
theorem dX7_findLongest_49 : decode cX7_findLongest 49 = .ok (.iconst 0, 1) := by decide +kernel
theorem dX7_findLongest_50 : decode cX7_findLongest 50 = .ok (.istore_n 3, 1) := by decide +kernel
theorem dX7_findLongest_51 : decode cX7_findLongest 51 = .ok (.iload_n 2, 1) := by decide +kernel
theorem dX7_findLongest_52 : decode cX7_findLongest 52 = .ok (.ifCond .eq 129, 3) := by decide +kernel
theorem dX7_findLongest_55 : decode cX7_findLongest 55 = .ok (.iload_n 3, 1) := by decide +kernel
theorem dX7_findLongest_56 : decode cX7_findLongest 56 = .ok (.aload_n 0, 1) := by decide +kernel
theorem dX7_findLongest_57 : decode cX7_findLongest 57 = .ok (.getfield 246, 3) := by decide +kernel
theorem dX7_findLongest_60 : decode cX7_findLongest 60 = .ok (.if_icmp .le 5, 3) := by decide +kernel
theorem dX7_findLongest_63 : decode cX7_findLongest 63 = .ok (.iconst 0, 1) := by decide +kernel
theorem dX7_findLongest_64 : decode cX7_findLongest 64 = .ok (.ireturn, 1) := by decide +kernel
theorem dX7_findLongest_65 : decode cX7_findLongest 65 = .ok (.iconst 0, 1) := by decide +kernel
theorem dX7_findLongest_66 : decode cX7_findLongest 66 = .ok (.istore_n 2, 1) := by decide +kernel
theorem dX7_findLongest_67 : decode cX7_findLongest 67 = .ok (.iconst 0, 1) := by decide +kernel
theorem dX7_findLongest_68 : decode cX7_findLongest 68 = .ok (.istore 4, 2) := by decide +kernel
theorem dX7_findLongest_70 : decode cX7_findLongest 70 = .ok (.iload 4, 2) := by decide +kernel
theorem dX7_findLongest_72 : decode cX7_findLongest 72 = .ok (.aload_n 0, 1) := by decide +kernel
theorem dX7_findLongest_73 : decode cX7_findLongest 73 = .ok (.getfield 246, 3) := by decide +kernel
theorem dX7_findLongest_76 : decode cX7_findLongest 76 = .ok (.if_icmp .ge 99, 3) := by decide +kernel
theorem dX7_findLongest_79 : decode cX7_findLongest 79 = .ok (.iconst 0, 1) := by decide +kernel
theorem dX7_findLongest_80 : decode cX7_findLongest 80 = .ok (.istore 5, 2) := by decide +kernel
theorem dX7_findLongest_82 : decode cX7_findLongest 82 = .ok (.iload 5, 2) := by decide +kernel
theorem dX7_findLongest_84 : decode cX7_findLongest 84 = .ok (.aload_n 0, 1) := by decide +kernel
theorem dX7_findLongest_85 : decode cX7_findLongest 85 = .ok (.getfield 246, 3) := by decide +kernel
theorem dX7_findLongest_88 : decode cX7_findLongest 88 = .ok (.if_icmp .ge 81, 3) := by decide +kernel
theorem dX7_findLongest_91 : decode cX7_findLongest 91 = .ok (.aload_n 0, 1) := by decide +kernel
theorem dX7_findLongest_92 : decode cX7_findLongest 92 = .ok (.getfield 126, 3) := by decide +kernel
theorem dX7_findLongest_95 : decode cX7_findLongest 95 = .ok (.bipush 30, 2) := by decide +kernel
theorem dX7_findLongest_97 : decode cX7_findLongest 97 = .ok (.iload_n 1, 1) := by decide +kernel
theorem dX7_findLongest_98 : decode cX7_findLongest 98 = .ok (.imul, 1) := by decide +kernel
theorem dX7_findLongest_99 : decode cX7_findLongest 99 = .ok (.iload 4, 2) := by decide +kernel
theorem dX7_findLongest_101 : decode cX7_findLongest 101 = .ok (.iadd, 1) := by decide +kernel
theorem dX7_findLongest_102 : decode cX7_findLongest 102 = .ok (.iaload, 1) := by decide +kernel
theorem dX7_findLongest_103 : decode cX7_findLongest 103 = .ok (.istore 6, 2) := by decide +kernel
theorem dX7_findLongest_105 : decode cX7_findLongest 105 = .ok (.iload 6, 2) := by decide +kernel
theorem dX7_findLongest_107 : decode cX7_findLongest 107 = .ok (.ifCond .lt 56, 3) := by decide +kernel
theorem dX7_findLongest_110 : decode cX7_findLongest 110 = .ok (.aload_n 0, 1) := by decide +kernel
theorem dX7_findLongest_111 : decode cX7_findLongest 111 = .ok (.getfield 111, 3) := by decide +kernel
theorem dX7_findLongest_114 : decode cX7_findLongest 114 = .ok (.bipush 30, 2) := by decide +kernel
theorem dX7_findLongest_116 : decode cX7_findLongest 116 = .ok (.iload 4, 2) := by decide +kernel
theorem dX7_findLongest_118 : decode cX7_findLongest 118 = .ok (.imul, 1) := by decide +kernel
theorem dX7_findLongest_119 : decode cX7_findLongest 119 = .ok (.iload 5, 2) := by decide +kernel
theorem dX7_findLongest_121 : decode cX7_findLongest 121 = .ok (.iadd, 1) := by decide +kernel
theorem dX7_findLongest_122 : decode cX7_findLongest 122 = .ok (.baload, 1) := by decide +kernel
theorem dX7_findLongest_123 : decode cX7_findLongest 123 = .ok (.ifCond .eq 40, 3) := by decide +kernel
theorem dX7_findLongest_126 : decode cX7_findLongest 126 = .ok (.iload 6, 2) := by decide +kernel
theorem dX7_findLongest_128 : decode cX7_findLongest 128 = .ok (.iconst 1, 1) := by decide +kernel
theorem dX7_findLongest_129 : decode cX7_findLongest 129 = .ok (.iadd, 1) := by decide +kernel
theorem dX7_findLongest_130 : decode cX7_findLongest 130 = .ok (.aload_n 0, 1) := by decide +kernel
theorem dX7_findLongest_131 : decode cX7_findLongest 131 = .ok (.getfield 126, 3) := by decide +kernel
theorem dX7_findLongest_134 : decode cX7_findLongest 134 = .ok (.bipush 30, 2) := by decide +kernel
theorem dX7_findLongest_136 : decode cX7_findLongest 136 = .ok (.iload_n 1, 1) := by decide +kernel
theorem dX7_findLongest_137 : decode cX7_findLongest 137 = .ok (.imul, 1) := by decide +kernel
theorem dX7_findLongest_138 : decode cX7_findLongest 138 = .ok (.iload 5, 2) := by decide +kernel
theorem dX7_findLongest_140 : decode cX7_findLongest 140 = .ok (.iadd, 1) := by decide +kernel
theorem dX7_findLongest_141 : decode cX7_findLongest 141 = .ok (.iaload, 1) := by decide +kernel
theorem dX7_findLongest_142 : decode cX7_findLongest 142 = .ok (.if_icmp .le 21, 3) := by decide +kernel
theorem dX7_findLongest_145 : decode cX7_findLongest 145 = .ok (.aload_n 0, 1) := by decide +kernel
theorem dX7_findLongest_146 : decode cX7_findLongest 146 = .ok (.getfield 126, 3) := by decide +kernel
theorem dX7_findLongest_149 : decode cX7_findLongest 149 = .ok (.bipush 30, 2) := by decide +kernel
theorem dX7_findLongest_151 : decode cX7_findLongest 151 = .ok (.iload_n 1, 1) := by decide +kernel
theorem dX7_findLongest_152 : decode cX7_findLongest 152 = .ok (.imul, 1) := by decide +kernel
theorem dX7_findLongest_153 : decode cX7_findLongest 153 = .ok (.iload 5, 2) := by decide +kernel
theorem dX7_findLongest_155 : decode cX7_findLongest 155 = .ok (.iadd, 1) := by decide +kernel
theorem dX7_findLongest_156 : decode cX7_findLongest 156 = .ok (.iload 6, 2) := by decide +kernel
theorem dX7_findLongest_158 : decode cX7_findLongest 158 = .ok (.iconst 1, 1) := by decide +kernel
theorem dX7_findLongest_159 : decode cX7_findLongest 159 = .ok (.iadd, 1) := by decide +kernel
theorem dX7_findLongest_160 : decode cX7_findLongest 160 = .ok (.iastore, 1) := by decide +kernel
theorem dX7_findLongest_161 : decode cX7_findLongest 161 = .ok (.iconst 1, 1) := by decide +kernel
theorem dX7_findLongest_162 : decode cX7_findLongest 162 = .ok (.istore_n 2, 1) := by decide +kernel
theorem dX7_findLongest_163 : decode cX7_findLongest 163 = .ok (.iinc 5 1, 3) := by decide +kernel
theorem dX7_findLongest_166 : decode cX7_findLongest 166 = .ok (.goto (-84), 3) := by decide +kernel
theorem dX7_findLongest_169 : decode cX7_findLongest 169 = .ok (.iinc 4 1, 3) := by decide +kernel
theorem dX7_findLongest_172 : decode cX7_findLongest 172 = .ok (.goto (-102), 3) := by decide +kernel
theorem dX7_findLongest_175 : decode cX7_findLongest 175 = .ok (.iinc 3 1, 3) := by decide +kernel
theorem dX7_findLongest_178 : decode cX7_findLongest 178 = .ok (.goto (-127), 3) := by decide +kernel
theorem dX7_findLongest_181 : decode cX7_findLongest 181 = .ok (.iinc 1 1, 3) := by decide +kernel
theorem dX7_findLongest_184 : decode cX7_findLongest 184 = .ok (.goto (-182), 3) := by decide +kernel
theorem dX7_findLongest_187 : decode cX7_findLongest 187 = .ok (.iconst 1, 1) := by decide +kernel
theorem dX7_findLongest_188 : decode cX7_findLongest 188 = .ok (.ireturn, 1) := by decide +kernel
theorem dX7_mend_0 : decode cX7_mend 0 = .ok (.aload_n 0, 1) := by decide +kernel
theorem dX7_mend_1 : decode cX7_mend 1 = .ok (.invokevirtual 255, 3) := by decide +kernel
theorem dX7_mend_4 : decode cX7_mend 4 = .ok (.ifCond .ne 7, 3) := by decide +kernel
theorem dX7_mend_7 : decode cX7_mend 7 = .ok (.ldc2_w 244, 3) := by decide +kernel
theorem dX7_mend_10 : decode cX7_mend 10 = .ok (.lreturn, 1) := by decide +kernel
theorem dX7_mend_11 : decode cX7_mend 11 = .ok (.lconst 0, 1) := by decide +kernel
theorem dX7_mend_12 : decode cX7_mend 12 = .ok (.lstore_n 1, 1) := by decide +kernel
theorem dX7_mend_13 : decode cX7_mend 13 = .ok (.iconst 0, 1) := by decide +kernel
theorem dX7_mend_14 : decode cX7_mend 14 = .ok (.istore_n 3, 1) := by decide +kernel
theorem dX7_mend_15 : decode cX7_mend 15 = .ok (.iload_n 3, 1) := by decide +kernel
theorem dX7_mend_16 : decode cX7_mend 16 = .ok (.aload_n 0, 1) := by decide +kernel
theorem dX7_mend_17 : decode cX7_mend 17 = .ok (.getfield 246, 3) := by decide +kernel
theorem dX7_mend_20 : decode cX7_mend 20 = .ok (.if_icmp .ge 90, 3) := by decide +kernel
theorem dX7_mend_23 : decode cX7_mend 23 = .ok (.iconst 0, 1) := by decide +kernel
theorem dX7_mend_24 : decode cX7_mend 24 = .ok (.istore 4, 2) := by decide +kernel
theorem dX7_mend_26 : decode cX7_mend 26 = .ok (.iload 4, 2) := by decide +kernel
theorem dX7_mend_28 : decode cX7_mend 28 = .ok (.aload_n 0, 1) := by decide +kernel
theorem dX7_mend_29 : decode cX7_mend 29 = .ok (.getfield 246, 3) := by decide +kernel
theorem dX7_mend_32 : decode cX7_mend 32 = .ok (.if_icmp .ge 72, 3) := by decide +kernel
theorem dX7_mend_35 : decode cX7_mend 35 = .ok (.aload_n 0, 1) := by decide +kernel
theorem dX7_mend_36 : decode cX7_mend 36 = .ok (.getfield 126, 3) := by decide +kernel
theorem dX7_mend_39 : decode cX7_mend 39 = .ok (.bipush 30, 2) := by decide +kernel
theorem dX7_mend_41 : decode cX7_mend 41 = .ok (.iload_n 3, 1) := by decide +kernel
theorem dX7_mend_42 : decode cX7_mend 42 = .ok (.imul, 1) := by decide +kernel
theorem dX7_mend_43 : decode cX7_mend 43 = .ok (.iload 4, 2) := by decide +kernel
theorem dX7_mend_45 : decode cX7_mend 45 = .ok (.iadd, 1) := by decide +kernel
theorem dX7_mend_46 : decode cX7_mend 46 = .ok (.iaload, 1) := by decide +kernel
theorem dX7_mend_47 : decode cX7_mend 47 = .ok (.istore 5, 2) := by decide +kernel
theorem dX7_mend_49 : decode cX7_mend 49 = .ok (.iload 5, 2) := by decide +kernel
theorem dX7_mend_51 : decode cX7_mend 51 = .ok (.ifCond .ge 7, 3) := by decide +kernel
theorem dX7_mend_54 : decode cX7_mend 54 = .ok (.lconst 0, 1) := by decide +kernel
theorem dX7_mend_55 : decode cX7_mend 55 = .ok (.goto 27, 3) := by decide +kernel
theorem dX7_mend_58 : decode cX7_mend 58 = .ok (.aload_n 0, 1) := by decide +kernel
theorem dX7_mend_59 : decode cX7_mend 59 = .ok (.getfield 105, 3) := by decide +kernel
theorem dX7_mend_62 : decode cX7_mend 62 = .ok (.iload_n 3, 1) := by decide +kernel
theorem dX7_mend_63 : decode cX7_mend 63 = .ok (.laload, 1) := by decide +kernel
theorem dX7_mend_64 : decode cX7_mend 64 = .ok (.iload 5, 2) := by decide +kernel
theorem dX7_mend_66 : decode cX7_mend 66 = .ok (.i2l, 1) := by decide +kernel
theorem dX7_mend_67 : decode cX7_mend 67 = .ok (.ladd, 1) := by decide +kernel
theorem dX7_mend_68 : decode cX7_mend 68 = .ok (.aload_n 0, 1) := by decide +kernel
theorem dX7_mend_69 : decode cX7_mend 69 = .ok (.getfield 108, 3) := by decide +kernel
theorem dX7_mend_72 : decode cX7_mend 72 = .ok (.iload 4, 2) := by decide +kernel
theorem dX7_mend_74 : decode cX7_mend 74 = .ok (.laload, 1) := by decide +kernel
theorem dX7_mend_75 : decode cX7_mend 75 = .ok (.lsub, 1) := by decide +kernel
theorem dX7_mend_76 : decode cX7_mend 76 = .ok (.ldc2_w 203, 3) := by decide +kernel
theorem dX7_mend_79 : decode cX7_mend 79 = .ok (.invokestatic 177, 3) := by decide +kernel
theorem dX7_mend_82 : decode cX7_mend 82 = .ok (.lstore 6, 2) := by decide +kernel
theorem dX7_mend_84 : decode cX7_mend 84 = .ok (.lload 6, 2) := by decide +kernel
theorem dX7_mend_86 : decode cX7_mend 86 = .ok (.lload_n 1, 1) := by decide +kernel
theorem dX7_mend_87 : decode cX7_mend 87 = .ok (.lcmp, 1) := by decide +kernel
theorem dX7_mend_88 : decode cX7_mend 88 = .ok (.ifCond .le 8, 3) := by decide +kernel
theorem dX7_mend_91 : decode cX7_mend 91 = .ok (.lload 6, 2) := by decide +kernel
theorem dX7_mend_93 : decode cX7_mend 93 = .ok (.goto 4, 3) := by decide +kernel
theorem dX7_mend_96 : decode cX7_mend 96 = .ok (.lload_n 1, 1) := by decide +kernel
theorem dX7_mend_97 : decode cX7_mend 97 = .ok (.lstore_n 1, 1) := by decide +kernel
theorem dX7_mend_98 : decode cX7_mend 98 = .ok (.iinc 4 1, 3) := by decide +kernel
theorem dX7_mend_101 : decode cX7_mend 101 = .ok (.goto (-75), 3) := by decide +kernel
theorem dX7_mend_104 : decode cX7_mend 104 = .ok (.iinc 3 1, 3) := by decide +kernel
theorem dX7_mend_107 : decode cX7_mend 107 = .ok (.goto (-92), 3) := by decide +kernel
theorem dX7_mend_110 : decode cX7_mend 110 = .ok (.lload_n 1, 1) := by decide +kernel
theorem dX7_mend_111 : decode cX7_mend 111 = .ok (.lreturn, 1) := by decide +kernel
theorem dX7_findTimes_0 : decode cX7_findTimes 0 = .ok (.aload_n 0, 1) := by decide +kernel
theorem dX7_findTimes_1 : decode cX7_findTimes 1 = .ok (.invokevirtual 259, 3) := by decide +kernel
theorem dX7_findTimes_4 : decode cX7_findTimes 4 = .ok (.lstore_n 1, 1) := by decide +kernel
theorem dX7_findTimes_5 : decode cX7_findTimes 5 = .ok (.lload_n 1, 1) := by decide +kernel
theorem dX7_findTimes_6 : decode cX7_findTimes 6 = .ok (.lconst 0, 1) := by decide +kernel
theorem dX7_findTimes_7 : decode cX7_findTimes 7 = .ok (.lcmp, 1) := by decide +kernel
theorem dX7_findTimes_8 : decode cX7_findTimes 8 = .ok (.ifCond .ge 5, 3) := by decide +kernel
theorem dX7_findTimes_11 : decode cX7_findTimes 11 = .ok (.iconst 0, 1) := by decide +kernel
theorem dX7_findTimes_12 : decode cX7_findTimes 12 = .ok (.ireturn, 1) := by decide +kernel
theorem dX7_findTimes_13 : decode cX7_findTimes 13 = .ok (.iconst 0, 1) := by decide +kernel
theorem dX7_findTimes_14 : decode cX7_findTimes 14 = .ok (.istore_n 3, 1) := by decide +kernel
theorem dX7_findTimes_15 : decode cX7_findTimes 15 = .ok (.iload_n 3, 1) := by decide +kernel
theorem dX7_findTimes_16 : decode cX7_findTimes 16 = .ok (.aload_n 0, 1) := by decide +kernel
theorem dX7_findTimes_17 : decode cX7_findTimes 17 = .ok (.getfield 246, 3) := by decide +kernel
theorem dX7_findTimes_20 : decode cX7_findTimes 20 = .ok (.if_icmp .ge 102, 3) := by decide +kernel
theorem dX7_findTimes_23 : decode cX7_findTimes 23 = .ok (.aload_n 0, 1) := by decide +kernel
theorem dX7_findTimes_24 : decode cX7_findTimes 24 = .ok (.getfield 129, 3) := by decide +kernel
theorem dX7_findTimes_27 : decode cX7_findTimes 27 = .ok (.iload_n 3, 1) := by decide +kernel
theorem dX7_findTimes_28 : decode cX7_findTimes 28 = .ok (.aload_n 0, 1) := by decide +kernel
theorem dX7_findTimes_29 : decode cX7_findTimes 29 = .ok (.getfield 105, 3) := by decide +kernel
theorem dX7_findTimes_32 : decode cX7_findTimes 32 = .ok (.iload_n 3, 1) := by decide +kernel
theorem dX7_findTimes_33 : decode cX7_findTimes 33 = .ok (.laload, 1) := by decide +kernel
theorem dX7_findTimes_34 : decode cX7_findTimes 34 = .ok (.lload_n 1, 1) := by decide +kernel
theorem dX7_findTimes_35 : decode cX7_findTimes 35 = .ok (.lsub, 1) := by decide +kernel
theorem dX7_findTimes_36 : decode cX7_findTimes 36 = .ok (.lastore, 1) := by decide +kernel
theorem dX7_findTimes_37 : decode cX7_findTimes 37 = .ok (.iconst 0, 1) := by decide +kernel
theorem dX7_findTimes_38 : decode cX7_findTimes 38 = .ok (.istore 4, 2) := by decide +kernel
theorem dX7_findTimes_40 : decode cX7_findTimes 40 = .ok (.iload 4, 2) := by decide +kernel
theorem dX7_findTimes_42 : decode cX7_findTimes 42 = .ok (.aload_n 0, 1) := by decide +kernel
theorem dX7_findTimes_43 : decode cX7_findTimes 43 = .ok (.getfield 246, 3) := by decide +kernel
theorem dX7_findTimes_46 : decode cX7_findTimes 46 = .ok (.if_icmp .ge 70, 3) := by decide +kernel
theorem dX7_findTimes_49 : decode cX7_findTimes 49 = .ok (.aload_n 0, 1) := by decide +kernel
theorem dX7_findTimes_50 : decode cX7_findTimes 50 = .ok (.getfield 126, 3) := by decide +kernel
theorem dX7_findTimes_53 : decode cX7_findTimes 53 = .ok (.bipush 30, 2) := by decide +kernel
theorem dX7_findTimes_55 : decode cX7_findTimes 55 = .ok (.iload 4, 2) := by decide +kernel
theorem dX7_findTimes_57 : decode cX7_findTimes 57 = .ok (.imul, 1) := by decide +kernel
theorem dX7_findTimes_58 : decode cX7_findTimes 58 = .ok (.iload_n 3, 1) := by decide +kernel
theorem dX7_findTimes_59 : decode cX7_findTimes 59 = .ok (.iadd, 1) := by decide +kernel
theorem dX7_findTimes_60 : decode cX7_findTimes 60 = .ok (.iaload, 1) := by decide +kernel
theorem dX7_findTimes_61 : decode cX7_findTimes 61 = .ok (.istore 5, 2) := by decide +kernel
theorem dX7_findTimes_63 : decode cX7_findTimes 63 = .ok (.iload 5, 2) := by decide +kernel
theorem dX7_findTimes_65 : decode cX7_findTimes 65 = .ok (.ifCond .lt 45, 3) := by decide +kernel
theorem dX7_findTimes_68 : decode cX7_findTimes 68 = .ok (.aload_n 0, 1) := by decide +kernel
theorem dX7_findTimes_69 : decode cX7_findTimes 69 = .ok (.getfield 105, 3) := by decide +kernel
theorem dX7_findTimes_72 : decode cX7_findTimes 72 = .ok (.iload 4, 2) := by decide +kernel
theorem dX7_findTimes_74 : decode cX7_findTimes 74 = .ok (.laload, 1) := by decide +kernel
theorem dX7_findTimes_75 : decode cX7_findTimes 75 = .ok (.lload_n 1, 1) := by decide +kernel
theorem dX7_findTimes_76 : decode cX7_findTimes 76 = .ok (.lsub, 1) := by decide +kernel
theorem dX7_findTimes_77 : decode cX7_findTimes 77 = .ok (.iload 5, 2) := by decide +kernel
theorem dX7_findTimes_79 : decode cX7_findTimes 79 = .ok (.i2l, 1) := by decide +kernel
theorem dX7_findTimes_80 : decode cX7_findTimes 80 = .ok (.ladd, 1) := by decide +kernel
theorem dX7_findTimes_81 : decode cX7_findTimes 81 = .ok (.aload_n 0, 1) := by decide +kernel
theorem dX7_findTimes_82 : decode cX7_findTimes 82 = .ok (.getfield 129, 3) := by decide +kernel
theorem dX7_findTimes_85 : decode cX7_findTimes 85 = .ok (.iload_n 3, 1) := by decide +kernel
theorem dX7_findTimes_86 : decode cX7_findTimes 86 = .ok (.laload, 1) := by decide +kernel
theorem dX7_findTimes_87 : decode cX7_findTimes 87 = .ok (.lcmp, 1) := by decide +kernel
theorem dX7_findTimes_88 : decode cX7_findTimes 88 = .ok (.ifCond .le 22, 3) := by decide +kernel
theorem dX7_findTimes_91 : decode cX7_findTimes 91 = .ok (.aload_n 0, 1) := by decide +kernel
theorem dX7_findTimes_92 : decode cX7_findTimes 92 = .ok (.getfield 129, 3) := by decide +kernel
theorem dX7_findTimes_95 : decode cX7_findTimes 95 = .ok (.iload_n 3, 1) := by decide +kernel
theorem dX7_findTimes_96 : decode cX7_findTimes 96 = .ok (.aload_n 0, 1) := by decide +kernel
theorem dX7_findTimes_97 : decode cX7_findTimes 97 = .ok (.getfield 105, 3) := by decide +kernel
theorem dX7_findTimes_100 : decode cX7_findTimes 100 = .ok (.iload 4, 2) := by decide +kernel
theorem dX7_findTimes_102 : decode cX7_findTimes 102 = .ok (.laload, 1) := by decide +kernel
theorem dX7_findTimes_103 : decode cX7_findTimes 103 = .ok (.lload_n 1, 1) := by decide +kernel
theorem dX7_findTimes_104 : decode cX7_findTimes 104 = .ok (.lsub, 1) := by decide +kernel
theorem dX7_findTimes_105 : decode cX7_findTimes 105 = .ok (.iload 5, 2) := by decide +kernel
theorem dX7_findTimes_107 : decode cX7_findTimes 107 = .ok (.i2l, 1) := by decide +kernel
theorem dX7_findTimes_108 : decode cX7_findTimes 108 = .ok (.ladd, 1) := by decide +kernel
theorem dX7_findTimes_109 : decode cX7_findTimes 109 = .ok (.lastore, 1) := by decide +kernel
theorem dX7_findTimes_110 : decode cX7_findTimes 110 = .ok (.iinc 4 1, 3) := by decide +kernel
theorem dX7_findTimes_113 : decode cX7_findTimes 113 = .ok (.goto (-73), 3) := by decide +kernel
theorem dX7_findTimes_116 : decode cX7_findTimes 116 = .ok (.iinc 3 1, 3) := by decide +kernel
theorem dX7_findTimes_119 : decode cX7_findTimes 119 = .ok (.goto (-104), 3) := by decide +kernel
theorem dX7_findTimes_122 : decode cX7_findTimes 122 = .ok (.iconst 1, 1) := by decide +kernel
theorem dX7_findTimes_123 : decode cX7_findTimes 123 = .ok (.ireturn, 1) := by decide +kernel
theorem dX7_order_0 : decode cX7_order 0 = .ok (.aload_n 0, 1) := by decide +kernel
theorem dX7_order_1 : decode cX7_order 1 = .ok (.invokevirtual 263, 3) := by decide +kernel
theorem dX7_order_4 : decode cX7_order 4 = .ok (.ifCond .eq 11, 3) := by decide +kernel
theorem dX7_order_7 : decode cX7_order 7 = .ok (.aload_n 0, 1) := by decide +kernel
theorem dX7_order_8 : decode cX7_order 8 = .ok (.iload_n 1, 1) := by decide +kernel
theorem dX7_order_9 : decode cX7_order 9 = .ok (.invokevirtual 249, 3) := by decide +kernel
theorem dX7_order_12 : decode cX7_order 12 = .ok (.ifCond .ne 7, 3) := by decide +kernel
theorem dX7_order_15 : decode cX7_order 15 = .ok (.ldc2_w 155, 3) := by decide +kernel
theorem dX7_order_18 : decode cX7_order 18 = .ok (.lreturn, 1) := by decide +kernel
theorem dX7_order_19 : decode cX7_order 19 = .ok (.iconst 0, 1) := by decide +kernel
theorem dX7_order_20 : decode cX7_order 20 = .ok (.istore_n 2, 1) := by decide +kernel
theorem dX7_order_21 : decode cX7_order 21 = .ok (.iload_n 2, 1) := by decide +kernel
theorem dX7_order_22 : decode cX7_order 22 = .ok (.aload_n 0, 1) := by decide +kernel
theorem dX7_order_23 : decode cX7_order 23 = .ok (.getfield 246, 3) := by decide +kernel
theorem dX7_order_26 : decode cX7_order 26 = .ok (.if_icmp .ge 85, 3) := by decide +kernel
theorem dX7_order_29 : decode cX7_order 29 = .ok (.iconst 0, 1) := by decide +kernel
theorem dX7_order_30 : decode cX7_order 30 = .ok (.istore_n 3, 1) := by decide +kernel
theorem dX7_order_31 : decode cX7_order 31 = .ok (.iconst 0, 1) := by decide +kernel
theorem dX7_order_32 : decode cX7_order 32 = .ok (.istore 4, 2) := by decide +kernel
theorem dX7_order_34 : decode cX7_order 34 = .ok (.iload 4, 2) := by decide +kernel
theorem dX7_order_36 : decode cX7_order 36 = .ok (.aload_n 0, 1) := by decide +kernel
theorem dX7_order_37 : decode cX7_order 37 = .ok (.getfield 246, 3) := by decide +kernel
theorem dX7_order_40 : decode cX7_order 40 = .ok (.if_icmp .ge 57, 3) := by decide +kernel
theorem dX7_order_43 : decode cX7_order 43 = .ok (.iload_n 3, 1) := by decide +kernel
theorem dX7_order_44 : decode cX7_order 44 = .ok (.aload_n 0, 1) := by decide +kernel
theorem dX7_order_45 : decode cX7_order 45 = .ok (.getfield 129, 3) := by decide +kernel
theorem dX7_order_48 : decode cX7_order 48 = .ok (.iload 4, 2) := by decide +kernel
theorem dX7_order_50 : decode cX7_order 50 = .ok (.laload, 1) := by decide +kernel
theorem dX7_order_51 : decode cX7_order 51 = .ok (.aload_n 0, 1) := by decide +kernel
theorem dX7_order_52 : decode cX7_order 52 = .ok (.getfield 129, 3) := by decide +kernel
theorem dX7_order_55 : decode cX7_order 55 = .ok (.iload_n 2, 1) := by decide +kernel
theorem dX7_order_56 : decode cX7_order 56 = .ok (.laload, 1) := by decide +kernel
theorem dX7_order_57 : decode cX7_order 57 = .ok (.lcmp, 1) := by decide +kernel
theorem dX7_order_58 : decode cX7_order 58 = .ok (.ifCond .lt 26, 3) := by decide +kernel
theorem dX7_order_61 : decode cX7_order 61 = .ok (.aload_n 0, 1) := by decide +kernel
theorem dX7_order_62 : decode cX7_order 62 = .ok (.getfield 129, 3) := by decide +kernel
theorem dX7_order_65 : decode cX7_order 65 = .ok (.iload 4, 2) := by decide +kernel
theorem dX7_order_67 : decode cX7_order 67 = .ok (.laload, 1) := by decide +kernel
theorem dX7_order_68 : decode cX7_order 68 = .ok (.aload_n 0, 1) := by decide +kernel
theorem dX7_order_69 : decode cX7_order 69 = .ok (.getfield 129, 3) := by decide +kernel
theorem dX7_order_72 : decode cX7_order 72 = .ok (.iload_n 2, 1) := by decide +kernel
theorem dX7_order_73 : decode cX7_order 73 = .ok (.laload, 1) := by decide +kernel
theorem dX7_order_74 : decode cX7_order 74 = .ok (.lcmp, 1) := by decide +kernel
theorem dX7_order_75 : decode cX7_order 75 = .ok (.ifCond .ne 13, 3) := by decide +kernel
theorem dX7_order_78 : decode cX7_order 78 = .ok (.iload 4, 2) := by decide +kernel
theorem dX7_order_80 : decode cX7_order 80 = .ok (.iload_n 2, 1) := by decide +kernel
theorem dX7_order_81 : decode cX7_order 81 = .ok (.if_icmp .ge 7, 3) := by decide +kernel
theorem dX7_order_84 : decode cX7_order 84 = .ok (.iconst 1, 1) := by decide +kernel
theorem dX7_order_85 : decode cX7_order 85 = .ok (.goto 4, 3) := by decide +kernel
theorem dX7_order_88 : decode cX7_order 88 = .ok (.iconst 0, 1) := by decide +kernel
theorem dX7_order_89 : decode cX7_order 89 = .ok (.iadd, 1) := by decide +kernel
theorem dX7_order_90 : decode cX7_order 90 = .ok (.istore_n 3, 1) := by decide +kernel
theorem dX7_order_91 : decode cX7_order 91 = .ok (.iinc 4 1, 3) := by decide +kernel
theorem dX7_order_94 : decode cX7_order 94 = .ok (.goto (-60), 3) := by decide +kernel
theorem dX7_order_97 : decode cX7_order 97 = .ok (.iload_n 3, 1) := by decide +kernel
theorem dX7_order_98 : decode cX7_order 98 = .ok (.iload_n 1, 1) := by decide +kernel
theorem dX7_order_99 : decode cX7_order 99 = .ok (.if_icmp .ne 6, 3) := by decide +kernel
theorem dX7_order_102 : decode cX7_order 102 = .ok (.iload_n 2, 1) := by decide +kernel
theorem dX7_order_103 : decode cX7_order 103 = .ok (.i2l, 1) := by decide +kernel
theorem dX7_order_104 : decode cX7_order 104 = .ok (.lreturn, 1) := by decide +kernel
theorem dX7_order_105 : decode cX7_order 105 = .ok (.iinc 2 1, 3) := by decide +kernel
theorem dX7_order_108 : decode cX7_order 108 = .ok (.goto (-87), 3) := by decide +kernel
theorem dX7_order_111 : decode cX7_order 111 = .ok (.ldc2_w 155, 3) := by decide +kernel
theorem dX7_order_114 : decode cX7_order 114 = .ok (.lreturn, 1) := by decide +kernel
theorem dX7_time_0 : decode cX7_time 0 = .ok (.aload_n 0, 1) := by decide +kernel
theorem dX7_time_1 : decode cX7_time 1 = .ok (.invokevirtual 263, 3) := by decide +kernel
theorem dX7_time_4 : decode cX7_time 4 = .ok (.ifCond .eq 20, 3) := by decide +kernel
theorem dX7_time_7 : decode cX7_time 7 = .ok (.aload_n 0, 1) := by decide +kernel
theorem dX7_time_8 : decode cX7_time 8 = .ok (.iload_n 1, 1) := by decide +kernel
theorem dX7_time_9 : decode cX7_time 9 = .ok (.invokevirtual 249, 3) := by decide +kernel
theorem dX7_time_12 : decode cX7_time 12 = .ok (.ifCond .eq 12, 3) := by decide +kernel
theorem dX7_time_15 : decode cX7_time 15 = .ok (.aload_n 0, 1) := by decide +kernel
theorem dX7_time_16 : decode cX7_time 16 = .ok (.getfield 129, 3) := by decide +kernel
theorem dX7_time_19 : decode cX7_time 19 = .ok (.iload_n 1, 1) := by decide +kernel
theorem dX7_time_20 : decode cX7_time 20 = .ok (.laload, 1) := by decide +kernel
theorem dX7_time_21 : decode cX7_time 21 = .ok (.goto 6, 3) := by decide +kernel
theorem dX7_time_24 : decode cX7_time 24 = .ok (.ldc2_w 155, 3) := by decide +kernel
theorem dX7_time_27 : decode cX7_time 27 = .ok (.lreturn, 1) := by decide +kernel
theorem dX7_ringFrom_0 : decode cX7_ringFrom 0 = .ok (.iconst 0, 1) := by decide +kernel
theorem dX7_ringFrom_1 : decode cX7_ringFrom 1 = .ok (.istore_n 2, 1) := by decide +kernel
theorem dX7_ringFrom_2 : decode cX7_ringFrom 2 = .ok (.iload_n 2, 1) := by decide +kernel
theorem dX7_ringFrom_3 : decode cX7_ringFrom 3 = .ok (.aload_n 0, 1) := by decide +kernel
theorem dX7_ringFrom_4 : decode cX7_ringFrom 4 = .ok (.getfield 246, 3) := by decide +kernel
theorem dX7_ringFrom_7 : decode cX7_ringFrom 7 = .ok (.if_icmp .ge 25, 3) := by decide +kernel
theorem dX7_ringFrom_10 : decode cX7_ringFrom 10 = .ok (.aload_n 0, 1) := by decide +kernel
theorem dX7_ringFrom_11 : decode cX7_ringFrom 11 = .ok (.getfield 132, 3) := by decide +kernel
theorem dX7_ringFrom_14 : decode cX7_ringFrom 14 = .ok (.iload_n 2, 1) := by decide +kernel
theorem dX7_ringFrom_15 : decode cX7_ringFrom 15 = .ok (.iload_n 2, 1) := by decide +kernel
theorem dX7_ringFrom_16 : decode cX7_ringFrom 16 = .ok (.iload_n 1, 1) := by decide +kernel
theorem dX7_ringFrom_17 : decode cX7_ringFrom 17 = .ok (.if_icmp .ne 7, 3) := by decide +kernel
theorem dX7_ringFrom_20 : decode cX7_ringFrom 20 = .ok (.iconst 0, 1) := by decide +kernel
theorem dX7_ringFrom_21 : decode cX7_ringFrom 21 = .ok (.goto 4, 3) := by decide +kernel
theorem dX7_ringFrom_24 : decode cX7_ringFrom 24 = .ok (.iconst (-1), 1) := by decide +kernel
theorem dX7_ringFrom_25 : decode cX7_ringFrom 25 = .ok (.iastore, 1) := by decide +kernel
theorem dX7_ringFrom_26 : decode cX7_ringFrom 26 = .ok (.iinc 2 1, 3) := by decide +kernel
theorem dX7_ringFrom_29 : decode cX7_ringFrom 29 = .ok (.goto (-27), 3) := by decide +kernel
theorem dX7_ringFrom_32 : decode cX7_ringFrom 32 = .ok (.iconst 1, 1) := by decide +kernel
theorem dX7_ringFrom_33 : decode cX7_ringFrom 33 = .ok (.istore_n 2, 1) := by decide +kernel
theorem dX7_ringFrom_34 : decode cX7_ringFrom 34 = .ok (.iconst 0, 1) := by decide +kernel
theorem dX7_ringFrom_35 : decode cX7_ringFrom 35 = .ok (.istore_n 3, 1) := by decide +kernel
theorem dX7_ringFrom_36 : decode cX7_ringFrom 36 = .ok (.iload_n 2, 1) := by decide +kernel
theorem dX7_ringFrom_37 : decode cX7_ringFrom 37 = .ok (.ifCond .eq 98, 3) := by decide +kernel
theorem dX7_ringFrom_40 : decode cX7_ringFrom 40 = .ok (.iconst 0, 1) := by decide +kernel
theorem dX7_ringFrom_41 : decode cX7_ringFrom 41 = .ok (.istore_n 2, 1) := by decide +kernel
theorem dX7_ringFrom_42 : decode cX7_ringFrom 42 = .ok (.iload_n 1, 1) := by decide +kernel
theorem dX7_ringFrom_43 : decode cX7_ringFrom 43 = .ok (.iconst 1, 1) := by decide +kernel
theorem dX7_ringFrom_44 : decode cX7_ringFrom 44 = .ok (.iadd, 1) := by decide +kernel
theorem dX7_ringFrom_45 : decode cX7_ringFrom 45 = .ok (.istore 4, 2) := by decide +kernel
theorem dX7_ringFrom_47 : decode cX7_ringFrom 47 = .ok (.iload 4, 2) := by decide +kernel
theorem dX7_ringFrom_49 : decode cX7_ringFrom 49 = .ok (.aload_n 0, 1) := by decide +kernel
theorem dX7_ringFrom_50 : decode cX7_ringFrom 50 = .ok (.getfield 246, 3) := by decide +kernel
theorem dX7_ringFrom_53 : decode cX7_ringFrom 53 = .ok (.if_icmp .ge 76, 3) := by decide +kernel
theorem dX7_ringFrom_56 : decode cX7_ringFrom 56 = .ok (.iload_n 1, 1) := by decide +kernel
theorem dX7_ringFrom_57 : decode cX7_ringFrom 57 = .ok (.istore 5, 2) := by decide +kernel
theorem dX7_ringFrom_59 : decode cX7_ringFrom 59 = .ok (.iload 5, 2) := by decide +kernel
theorem dX7_ringFrom_61 : decode cX7_ringFrom 61 = .ok (.aload_n 0, 1) := by decide +kernel
theorem dX7_ringFrom_62 : decode cX7_ringFrom 62 = .ok (.getfield 246, 3) := by decide +kernel
theorem dX7_ringFrom_65 : decode cX7_ringFrom 65 = .ok (.if_icmp .ge 58, 3) := by decide +kernel
theorem dX7_ringFrom_68 : decode cX7_ringFrom 68 = .ok (.aload_n 0, 1) := by decide +kernel
theorem dX7_ringFrom_69 : decode cX7_ringFrom 69 = .ok (.getfield 132, 3) := by decide +kernel
theorem dX7_ringFrom_72 : decode cX7_ringFrom 72 = .ok (.iload 4, 2) := by decide +kernel
theorem dX7_ringFrom_74 : decode cX7_ringFrom 74 = .ok (.iaload, 1) := by decide +kernel
theorem dX7_ringFrom_75 : decode cX7_ringFrom 75 = .ok (.ifCond .ge 48, 3) := by decide +kernel
theorem dX7_ringFrom_78 : decode cX7_ringFrom 78 = .ok (.aload_n 0, 1) := by decide +kernel
theorem dX7_ringFrom_79 : decode cX7_ringFrom 79 = .ok (.getfield 111, 3) := by decide +kernel
theorem dX7_ringFrom_82 : decode cX7_ringFrom 82 = .ok (.bipush 30, 2) := by decide +kernel
theorem dX7_ringFrom_84 : decode cX7_ringFrom 84 = .ok (.iload 4, 2) := by decide +kernel
theorem dX7_ringFrom_86 : decode cX7_ringFrom 86 = .ok (.imul, 1) := by decide +kernel
theorem dX7_ringFrom_87 : decode cX7_ringFrom 87 = .ok (.iload 5, 2) := by decide +kernel
theorem dX7_ringFrom_89 : decode cX7_ringFrom 89 = .ok (.iadd, 1) := by decide +kernel
theorem dX7_ringFrom_90 : decode cX7_ringFrom 90 = .ok (.baload, 1) := by decide +kernel
theorem dX7_ringFrom_91 : decode cX7_ringFrom 91 = .ok (.ifCond .eq 26, 3) := by decide +kernel
theorem dX7_ringFrom_94 : decode cX7_ringFrom 94 = .ok (.aload_n 0, 1) := by decide +kernel
theorem dX7_ringFrom_95 : decode cX7_ringFrom 95 = .ok (.getfield 132, 3) := by decide +kernel
theorem dX7_ringFrom_98 : decode cX7_ringFrom 98 = .ok (.iload 5, 2) := by decide +kernel
theorem dX7_ringFrom_100 : decode cX7_ringFrom 100 = .ok (.iaload, 1) := by decide +kernel
theorem dX7_ringFrom_101 : decode cX7_ringFrom 101 = .ok (.iload_n 3, 1) := by decide +kernel
theorem dX7_ringFrom_102 : decode cX7_ringFrom 102 = .ok (.if_icmp .ne 15, 3) := by decide +kernel
theorem dX7_ringFrom_105 : decode cX7_ringFrom 105 = .ok (.aload_n 0, 1) := by decide +kernel
theorem dX7_ringFrom_106 : decode cX7_ringFrom 106 = .ok (.getfield 132, 3) := by decide +kernel
theorem dX7_ringFrom_109 : decode cX7_ringFrom 109 = .ok (.iload 4, 2) := by decide +kernel
theorem dX7_ringFrom_111 : decode cX7_ringFrom 111 = .ok (.iload_n 3, 1) := by decide +kernel
theorem dX7_ringFrom_112 : decode cX7_ringFrom 112 = .ok (.iconst 1, 1) := by decide +kernel
theorem dX7_ringFrom_113 : decode cX7_ringFrom 113 = .ok (.iadd, 1) := by decide +kernel
theorem dX7_ringFrom_114 : decode cX7_ringFrom 114 = .ok (.iastore, 1) := by decide +kernel
theorem dX7_ringFrom_115 : decode cX7_ringFrom 115 = .ok (.iconst 1, 1) := by decide +kernel
theorem dX7_ringFrom_116 : decode cX7_ringFrom 116 = .ok (.istore_n 2, 1) := by decide +kernel
theorem dX7_ringFrom_117 : decode cX7_ringFrom 117 = .ok (.iinc 5 1, 3) := by decide +kernel
theorem dX7_ringFrom_120 : decode cX7_ringFrom 120 = .ok (.goto (-61), 3) := by decide +kernel
theorem dX7_ringFrom_123 : decode cX7_ringFrom 123 = .ok (.iinc 4 1, 3) := by decide +kernel
theorem dX7_ringFrom_126 : decode cX7_ringFrom 126 = .ok (.goto (-79), 3) := by decide +kernel
theorem dX7_ringFrom_129 : decode cX7_ringFrom 129 = .ok (.iinc 3 1, 3) := by decide +kernel
theorem dX7_ringFrom_132 : decode cX7_ringFrom 132 = .ok (.goto (-96), 3) := by decide +kernel
theorem dX7_ringFrom_135 : decode cX7_ringFrom 135 = .ok (.iconst 0, 1) := by decide +kernel
theorem dX7_ringFrom_136 : decode cX7_ringFrom 136 = .ok (.istore_n 3, 1) := by decide +kernel
theorem dX7_ringFrom_137 : decode cX7_ringFrom 137 = .ok (.iload_n 1, 1) := by decide +kernel
theorem dX7_ringFrom_138 : decode cX7_ringFrom 138 = .ok (.iconst 1, 1) := by decide +kernel
theorem dX7_ringFrom_139 : decode cX7_ringFrom 139 = .ok (.iadd, 1) := by decide +kernel
theorem dX7_ringFrom_140 : decode cX7_ringFrom 140 = .ok (.istore 4, 2) := by decide +kernel
theorem dX7_ringFrom_142 : decode cX7_ringFrom 142 = .ok (.iload 4, 2) := by decide +kernel
theorem dX7_ringFrom_144 : decode cX7_ringFrom 144 = .ok (.aload_n 0, 1) := by decide +kernel
theorem dX7_ringFrom_145 : decode cX7_ringFrom 145 = .ok (.getfield 246, 3) := by decide +kernel
theorem dX7_ringFrom_148 : decode cX7_ringFrom 148 = .ok (.if_icmp .ge 61, 3) := by decide +kernel
theorem dX7_ringFrom_151 : decode cX7_ringFrom 151 = .ok (.aload_n 0, 1) := by decide +kernel
theorem dX7_ringFrom_152 : decode cX7_ringFrom 152 = .ok (.getfield 111, 3) := by decide +kernel
theorem dX7_ringFrom_155 : decode cX7_ringFrom 155 = .ok (.bipush 30, 2) := by decide +kernel
theorem dX7_ringFrom_157 : decode cX7_ringFrom 157 = .ok (.iload_n 1, 1) := by decide +kernel
theorem dX7_ringFrom_158 : decode cX7_ringFrom 158 = .ok (.imul, 1) := by decide +kernel
theorem dX7_ringFrom_159 : decode cX7_ringFrom 159 = .ok (.iload 4, 2) := by decide +kernel
theorem dX7_ringFrom_161 : decode cX7_ringFrom 161 = .ok (.iadd, 1) := by decide +kernel
theorem dX7_ringFrom_162 : decode cX7_ringFrom 162 = .ok (.baload, 1) := by decide +kernel
theorem dX7_ringFrom_163 : decode cX7_ringFrom 163 = .ok (.ifCond .eq 40, 3) := by decide +kernel
theorem dX7_ringFrom_166 : decode cX7_ringFrom 166 = .ok (.aload_n 0, 1) := by decide +kernel
theorem dX7_ringFrom_167 : decode cX7_ringFrom 167 = .ok (.getfield 132, 3) := by decide +kernel
theorem dX7_ringFrom_170 : decode cX7_ringFrom 170 = .ok (.iload 4, 2) := by decide +kernel
theorem dX7_ringFrom_172 : decode cX7_ringFrom 172 = .ok (.iaload, 1) := by decide +kernel
theorem dX7_ringFrom_173 : decode cX7_ringFrom 173 = .ok (.ifCond .le 30, 3) := by decide +kernel
theorem dX7_ringFrom_176 : decode cX7_ringFrom 176 = .ok (.iload_n 3, 1) := by decide +kernel
theorem dX7_ringFrom_177 : decode cX7_ringFrom 177 = .ok (.ifCond .eq 16, 3) := by decide +kernel
theorem dX7_ringFrom_180 : decode cX7_ringFrom 180 = .ok (.aload_n 0, 1) := by decide +kernel
theorem dX7_ringFrom_181 : decode cX7_ringFrom 181 = .ok (.getfield 132, 3) := by decide +kernel
theorem dX7_ringFrom_184 : decode cX7_ringFrom 184 = .ok (.iload 4, 2) := by decide +kernel
theorem dX7_ringFrom_186 : decode cX7_ringFrom 186 = .ok (.iaload, 1) := by decide +kernel
theorem dX7_ringFrom_187 : decode cX7_ringFrom 187 = .ok (.iconst 1, 1) := by decide +kernel
theorem dX7_ringFrom_188 : decode cX7_ringFrom 188 = .ok (.iadd, 1) := by decide +kernel
theorem dX7_ringFrom_189 : decode cX7_ringFrom 189 = .ok (.iload_n 3, 1) := by decide +kernel
theorem dX7_ringFrom_190 : decode cX7_ringFrom 190 = .ok (.if_icmp .ge 13, 3) := by decide +kernel
theorem dX7_ringFrom_193 : decode cX7_ringFrom 193 = .ok (.aload_n 0, 1) := by decide +kernel
theorem dX7_ringFrom_194 : decode cX7_ringFrom 194 = .ok (.getfield 132, 3) := by decide +kernel
theorem dX7_ringFrom_197 : decode cX7_ringFrom 197 = .ok (.iload 4, 2) := by decide +kernel
theorem dX7_ringFrom_199 : decode cX7_ringFrom 199 = .ok (.iaload, 1) := by decide +kernel
theorem dX7_ringFrom_200 : decode cX7_ringFrom 200 = .ok (.iconst 1, 1) := by decide +kernel
theorem dX7_ringFrom_201 : decode cX7_ringFrom 201 = .ok (.iadd, 1) := by decide +kernel
theorem dX7_ringFrom_202 : decode cX7_ringFrom 202 = .ok (.istore_n 3, 1) := by decide +kernel
theorem dX7_ringFrom_203 : decode cX7_ringFrom 203 = .ok (.iinc 4 1, 3) := by decide +kernel
theorem dX7_ringFrom_206 : decode cX7_ringFrom 206 = .ok (.goto (-64), 3) := by decide +kernel
theorem dX7_ringFrom_209 : decode cX7_ringFrom 209 = .ok (.iload_n 3, 1) := by decide +kernel
theorem dX7_ringFrom_210 : decode cX7_ringFrom 210 = .ok (.ireturn, 1) := by decide +kernel
theorem dX7_ring_0 : decode cX7_ring 0 = .ok (.iconst 0, 1) := by decide +kernel
theorem dX7_ring_1 : decode cX7_ring 1 = .ok (.istore_n 2, 1) := by decide +kernel
theorem dX7_ring_2 : decode cX7_ring 2 = .ok (.iconst (-1), 1) := by decide +kernel
theorem dX7_ring_3 : decode cX7_ring 3 = .ok (.istore_n 3, 1) := by decide +kernel
theorem dX7_ring_4 : decode cX7_ring 4 = .ok (.iconst 0, 1) := by decide +kernel
theorem dX7_ring_5 : decode cX7_ring 5 = .ok (.istore 4, 2) := by decide +kernel
theorem dX7_ring_7 : decode cX7_ring 7 = .ok (.iload 4, 2) := by decide +kernel
theorem dX7_ring_9 : decode cX7_ring 9 = .ok (.aload_n 0, 1) := by decide +kernel
theorem dX7_ring_10 : decode cX7_ring 10 = .ok (.getfield 246, 3) := by decide +kernel
theorem dX7_ring_13 : decode cX7_ring 13 = .ok (.if_icmp .ge 38, 3) := by decide +kernel
theorem dX7_ring_16 : decode cX7_ring 16 = .ok (.aload_n 0, 1) := by decide +kernel
theorem dX7_ring_17 : decode cX7_ring 17 = .ok (.iload 4, 2) := by decide +kernel
theorem dX7_ring_19 : decode cX7_ring 19 = .ok (.invokevirtual 266, 3) := by decide +kernel
theorem dX7_ring_22 : decode cX7_ring 22 = .ok (.istore 5, 2) := by decide +kernel
theorem dX7_ring_24 : decode cX7_ring 24 = .ok (.iload 5, 2) := by decide +kernel
theorem dX7_ring_26 : decode cX7_ring 26 = .ok (.ifCond .le 19, 3) := by decide +kernel
theorem dX7_ring_29 : decode cX7_ring 29 = .ok (.iload_n 2, 1) := by decide +kernel
theorem dX7_ring_30 : decode cX7_ring 30 = .ok (.ifCond .eq 9, 3) := by decide +kernel
theorem dX7_ring_33 : decode cX7_ring 33 = .ok (.iload 5, 2) := by decide +kernel
theorem dX7_ring_35 : decode cX7_ring 35 = .ok (.iload_n 2, 1) := by decide +kernel
theorem dX7_ring_36 : decode cX7_ring 36 = .ok (.if_icmp .ge 9, 3) := by decide +kernel
theorem dX7_ring_39 : decode cX7_ring 39 = .ok (.iload 5, 2) := by decide +kernel
theorem dX7_ring_41 : decode cX7_ring 41 = .ok (.istore_n 2, 1) := by decide +kernel
theorem dX7_ring_42 : decode cX7_ring 42 = .ok (.iload 4, 2) := by decide +kernel
theorem dX7_ring_44 : decode cX7_ring 44 = .ok (.istore_n 3, 1) := by decide +kernel
theorem dX7_ring_45 : decode cX7_ring 45 = .ok (.iinc 4 1, 3) := by decide +kernel
theorem dX7_ring_48 : decode cX7_ring 48 = .ok (.goto (-41), 3) := by decide +kernel
theorem dX7_ring_51 : decode cX7_ring 51 = .ok (.iload_n 3, 1) := by decide +kernel
theorem dX7_ring_52 : decode cX7_ring 52 = .ok (.ifCond .lt 7, 3) := by decide +kernel
theorem dX7_ring_55 : decode cX7_ring 55 = .ok (.iload_n 1, 1) := by decide +kernel
theorem dX7_ring_56 : decode cX7_ring 56 = .ok (.ifCond .ge 7, 3) := by decide +kernel
theorem dX7_ring_59 : decode cX7_ring 59 = .ok (.ldc2_w 155, 3) := by decide +kernel
theorem dX7_ring_62 : decode cX7_ring 62 = .ok (.lreturn, 1) := by decide +kernel
theorem dX7_ring_63 : decode cX7_ring 63 = .ok (.iload_n 1, 1) := by decide +kernel
theorem dX7_ring_64 : decode cX7_ring 64 = .ok (.iload_n 2, 1) := by decide +kernel
theorem dX7_ring_65 : decode cX7_ring 65 = .ok (.if_icmp .lt 7, 3) := by decide +kernel
theorem dX7_ring_68 : decode cX7_ring 68 = .ok (.ldc2_w 244, 3) := by decide +kernel
theorem dX7_ring_71 : decode cX7_ring 71 = .ok (.lreturn, 1) := by decide +kernel
theorem dX7_ring_72 : decode cX7_ring 72 = .ok (.aload_n 0, 1) := by decide +kernel
theorem dX7_ring_73 : decode cX7_ring 73 = .ok (.iload_n 3, 1) := by decide +kernel
theorem dX7_ring_74 : decode cX7_ring 74 = .ok (.invokevirtual 266, 3) := by decide +kernel
theorem dX7_ring_77 : decode cX7_ring 77 = .ok (.istore_n 2, 1) := by decide +kernel
theorem dX7_ring_78 : decode cX7_ring 78 = .ok (.iload_n 3, 1) := by decide +kernel
theorem dX7_ring_79 : decode cX7_ring 79 = .ok (.istore 4, 2) := by decide +kernel
theorem dX7_ring_81 : decode cX7_ring 81 = .ok (.iconst 0, 1) := by decide +kernel
theorem dX7_ring_82 : decode cX7_ring 82 = .ok (.istore 5, 2) := by decide +kernel
theorem dX7_ring_84 : decode cX7_ring 84 = .ok (.iload 5, 2) := by decide +kernel
theorem dX7_ring_86 : decode cX7_ring 86 = .ok (.iload_n 1, 1) := by decide +kernel
theorem dX7_ring_87 : decode cX7_ring 87 = .ok (.if_icmp .ge 56, 3) := by decide +kernel
theorem dX7_ring_90 : decode cX7_ring 90 = .ok (.iload_n 3, 1) := by decide +kernel
theorem dX7_ring_91 : decode cX7_ring 91 = .ok (.iconst 1, 1) := by decide +kernel
theorem dX7_ring_92 : decode cX7_ring 92 = .ok (.iadd, 1) := by decide +kernel
theorem dX7_ring_93 : decode cX7_ring 93 = .ok (.istore 6, 2) := by decide +kernel
theorem dX7_ring_95 : decode cX7_ring 95 = .ok (.aload_n 0, 1) := by decide +kernel
theorem dX7_ring_96 : decode cX7_ring 96 = .ok (.getfield 111, 3) := by decide +kernel
theorem dX7_ring_99 : decode cX7_ring 99 = .ok (.bipush 30, 2) := by decide +kernel
theorem dX7_ring_101 : decode cX7_ring 101 = .ok (.iload 4, 2) := by decide +kernel
theorem dX7_ring_103 : decode cX7_ring 103 = .ok (.imul, 1) := by decide +kernel
theorem dX7_ring_104 : decode cX7_ring 104 = .ok (.iload 6, 2) := by decide +kernel
theorem dX7_ring_106 : decode cX7_ring 106 = .ok (.iadd, 1) := by decide +kernel
theorem dX7_ring_107 : decode cX7_ring 107 = .ok (.baload, 1) := by decide +kernel
theorem dX7_ring_108 : decode cX7_ring 108 = .ok (.ifCond .eq 19, 3) := by decide +kernel
theorem dX7_ring_111 : decode cX7_ring 111 = .ok (.aload_n 0, 1) := by decide +kernel
theorem dX7_ring_112 : decode cX7_ring 112 = .ok (.getfield 132, 3) := by decide +kernel
theorem dX7_ring_115 : decode cX7_ring 115 = .ok (.iload 6, 2) := by decide +kernel
theorem dX7_ring_117 : decode cX7_ring 117 = .ok (.iaload, 1) := by decide +kernel
theorem dX7_ring_118 : decode cX7_ring 118 = .ok (.iload_n 2, 1) := by decide +kernel
theorem dX7_ring_119 : decode cX7_ring 119 = .ok (.iconst 1, 1) := by decide +kernel
theorem dX7_ring_120 : decode cX7_ring 120 = .ok (.isub, 1) := by decide +kernel
theorem dX7_ring_121 : decode cX7_ring 121 = .ok (.iload 5, 2) := by decide +kernel
theorem dX7_ring_123 : decode cX7_ring 123 = .ok (.isub, 1) := by decide +kernel
theorem dX7_ring_124 : decode cX7_ring 124 = .ok (.if_icmp .eq 9, 3) := by decide +kernel
theorem dX7_ring_127 : decode cX7_ring 127 = .ok (.iinc 6 1, 3) := by decide +kernel
theorem dX7_ring_130 : decode cX7_ring 130 = .ok (.goto (-35), 3) := by decide +kernel
theorem dX7_ring_133 : decode cX7_ring 133 = .ok (.iload 6, 2) := by decide +kernel
theorem dX7_ring_135 : decode cX7_ring 135 = .ok (.istore 4, 2) := by decide +kernel
theorem dX7_ring_137 : decode cX7_ring 137 = .ok (.iinc 5 1, 3) := by decide +kernel
theorem dX7_ring_140 : decode cX7_ring 140 = .ok (.goto (-56), 3) := by decide +kernel
theorem dX7_ring_143 : decode cX7_ring 143 = .ok (.iload 4, 2) := by decide +kernel
theorem dX7_ring_145 : decode cX7_ring 145 = .ok (.i2l, 1) := by decide +kernel
theorem dX7_ring_146 : decode cX7_ring 146 = .ok (.lreturn, 1) := by decide +kernel
theorem dX7_count_0 : decode cX7_count 0 = .ok (.iload_n 1, 1) := by decide +kernel
theorem dX7_count_1 : decode cX7_count 1 = .ok (.tableswitch 117 0 6 #[43, 49, 55, 94, 100, 106, 112], 43) := by decide +kernel
theorem dX7_count_44 : decode cX7_count 44 = .ok (.aload_n 0, 1) := by decide +kernel
theorem dX7_count_45 : decode cX7_count 45 = .ok (.getfield 139, 3) := by decide +kernel
theorem dX7_count_48 : decode cX7_count 48 = .ok (.i2l, 1) := by decide +kernel
theorem dX7_count_49 : decode cX7_count 49 = .ok (.lreturn, 1) := by decide +kernel
theorem dX7_count_50 : decode cX7_count 50 = .ok (.aload_n 0, 1) := by decide +kernel
theorem dX7_count_51 : decode cX7_count 51 = .ok (.getfield 197, 3) := by decide +kernel
theorem dX7_count_54 : decode cX7_count 54 = .ok (.i2l, 1) := by decide +kernel
theorem dX7_count_55 : decode cX7_count 55 = .ok (.lreturn, 1) := by decide +kernel
theorem dX7_count_56 : decode cX7_count 56 = .ok (.iconst 0, 1) := by decide +kernel
theorem dX7_count_57 : decode cX7_count 57 = .ok (.istore_n 2, 1) := by decide +kernel
theorem dX7_count_58 : decode cX7_count 58 = .ok (.iconst 0, 1) := by decide +kernel
theorem dX7_count_59 : decode cX7_count 59 = .ok (.istore_n 3, 1) := by decide +kernel
theorem dX7_count_60 : decode cX7_count 60 = .ok (.iload_n 3, 1) := by decide +kernel
theorem dX7_count_61 : decode cX7_count 61 = .ok (.aload_n 0, 1) := by decide +kernel
theorem dX7_count_62 : decode cX7_count 62 = .ok (.getfield 197, 3) := by decide +kernel
theorem dX7_count_65 : decode cX7_count 65 = .ok (.if_icmp .ge 27, 3) := by decide +kernel
theorem dX7_count_68 : decode cX7_count 68 = .ok (.iload_n 2, 1) := by decide +kernel
theorem dX7_count_69 : decode cX7_count 69 = .ok (.aload_n 0, 1) := by decide +kernel
theorem dX7_count_70 : decode cX7_count 70 = .ok (.getfield 78, 3) := by decide +kernel
theorem dX7_count_73 : decode cX7_count 73 = .ok (.iload_n 3, 1) := by decide +kernel
theorem dX7_count_74 : decode cX7_count 74 = .ok (.iaload, 1) := by decide +kernel
theorem dX7_count_75 : decode cX7_count 75 = .ok (.iconst 2, 1) := by decide +kernel
theorem dX7_count_76 : decode cX7_count 76 = .ok (.if_icmp .ge 7, 3) := by decide +kernel
theorem dX7_count_79 : decode cX7_count 79 = .ok (.iconst 1, 1) := by decide +kernel
theorem dX7_count_80 : decode cX7_count 80 = .ok (.goto 4, 3) := by decide +kernel
theorem dX7_count_83 : decode cX7_count 83 = .ok (.iconst 0, 1) := by decide +kernel
theorem dX7_count_84 : decode cX7_count 84 = .ok (.iadd, 1) := by decide +kernel
theorem dX7_count_85 : decode cX7_count 85 = .ok (.istore_n 2, 1) := by decide +kernel
theorem dX7_count_86 : decode cX7_count 86 = .ok (.iinc 3 1, 3) := by decide +kernel
theorem dX7_count_89 : decode cX7_count 89 = .ok (.goto (-29), 3) := by decide +kernel
theorem dX7_count_92 : decode cX7_count 92 = .ok (.iload_n 2, 1) := by decide +kernel
theorem dX7_count_93 : decode cX7_count 93 = .ok (.i2l, 1) := by decide +kernel
theorem dX7_count_94 : decode cX7_count 94 = .ok (.lreturn, 1) := by decide +kernel
theorem dX7_count_95 : decode cX7_count 95 = .ok (.aload_n 0, 1) := by decide +kernel
theorem dX7_count_96 : decode cX7_count 96 = .ok (.getfield 238, 3) := by decide +kernel
theorem dX7_count_99 : decode cX7_count 99 = .ok (.i2l, 1) := by decide +kernel
theorem dX7_count_100 : decode cX7_count 100 = .ok (.lreturn, 1) := by decide +kernel
theorem dX7_count_101 : decode cX7_count 101 = .ok (.aload_n 0, 1) := by decide +kernel
theorem dX7_count_102 : decode cX7_count 102 = .ok (.getfield 246, 3) := by decide +kernel
theorem dX7_count_105 : decode cX7_count 105 = .ok (.i2l, 1) := by decide +kernel
theorem dX7_count_106 : decode cX7_count 106 = .ok (.lreturn, 1) := by decide +kernel
theorem dX7_count_107 : decode cX7_count 107 = .ok (.aload_n 0, 1) := by decide +kernel
theorem dX7_count_108 : decode cX7_count 108 = .ok (.getfield 252, 3) := by decide +kernel
theorem dX7_count_111 : decode cX7_count 111 = .ok (.i2l, 1) := by decide +kernel
theorem dX7_count_112 : decode cX7_count 112 = .ok (.lreturn, 1) := by decide +kernel
theorem dX7_count_113 : decode cX7_count 113 = .ok (.aload_n 0, 1) := by decide +kernel
theorem dX7_count_114 : decode cX7_count 114 = .ok (.getfield 149, 3) := by decide +kernel
theorem dX7_count_117 : decode cX7_count 117 = .ok (.lreturn, 1) := by decide +kernel
theorem dX7_count_118 : decode cX7_count 118 = .ok (.ldc2_w 155, 3) := by decide +kernel
theorem dX7_count_121 : decode cX7_count 121 = .ok (.lreturn, 1) := by decide +kernel
