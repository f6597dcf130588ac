theorem dX8_next_187 : decode cX8_next 187 = .ok (.getfield 121, 3) := by decide +kernel
theorem dX8_next_190 : decode cX8_next 190 = .ok (.iconst 2, 1) := by decide +kernel
theorem dX8_next_191 : decode cX8_next 191 = .ok (.iadd, 1) := by decide +kernel
theorem dX8_next_192 : decode cX8_next 192 = .ok (.putfield 118, 3) := by decide +kernel
theorem dX8_next_195 : decode cX8_next 195 = .ok (.aload_n 0, 1) := by decide +kernel
theorem dX8_next_196 : decode cX8_next 196 = .ok (.iconst 3, 1) := by decide +kernel
theorem dX8_next_197 : decode cX8_next 197 = .ok (.putfield 128, 3) := by decide +kernel
theorem dX8_next_200 : decode cX8_next 200 = .ok (.goto 189, 3) := by decide +kernel
theorem dX8_next_203 : decode cX8_next 203 = .ok (.iload_n 1, 1) := by decide +kernel
theorem dX8_next_204 : decode cX8_next 204 = .ok (.invokestatic 135, 3) := by decide +kernel
theorem dX8_next_207 : decode cX8_next 207 = .ok (.ifCond .eq 109, 3) := by decide +kernel
theorem dX8_next_210 : decode cX8_next 210 = .ok (.aload_n 0, 1) := by decide +kernel
theorem dX8_next_211 : decode cX8_next 211 = .ok (.aload_n 0, 1) := by decide +kernel
theorem dX8_next_212 : decode cX8_next 212 = .ok (.getfield 118, 3) := by decide +kernel
theorem dX8_next_215 : decode cX8_next 215 = .ok (.invokevirtual 124, 3) := by decide +kernel
theorem dX8_next_218 : decode cX8_next 218 = .ok (.invokestatic 135, 3) := by decide +kernel
theorem dX8_next_221 : decode cX8_next 221 = .ok (.ifCond .eq 16, 3) := by decide +kernel
theorem dX8_next_224 : decode cX8_next 224 = .ok (.aload_n 0, 1) := by decide +kernel
theorem dX8_next_225 : decode cX8_next 225 = .ok (.dup, 1) := by decide +kernel
theorem dX8_next_226 : decode cX8_next 226 = .ok (.getfield 118, 3) := by decide +kernel
theorem dX8_next_229 : decode cX8_next 229 = .ok (.iconst 1, 1) := by decide +kernel
theorem dX8_next_230 : decode cX8_next 230 = .ok (.iadd, 1) := by decide +kernel
theorem dX8_next_231 : decode cX8_next 231 = .ok (.putfield 118, 3) := by decide +kernel
theorem dX8_next_234 : decode cX8_next 234 = .ok (.goto (-24), 3) := by decide +kernel
theorem dX8_next_237 : decode cX8_next 237 = .ok (.aload_n 0, 1) := by decide +kernel
theorem dX8_next_238 : decode cX8_next 238 = .ok (.lconst 0, 1) := by decide +kernel
theorem dX8_next_239 : decode cX8_next 239 = .ok (.putfield 141, 3) := by decide +kernel
theorem dX8_next_242 : decode cX8_next 242 = .ok (.aload_n 0, 1) := by decide +kernel
theorem dX8_next_243 : decode cX8_next 243 = .ok (.getfield 121, 3) := by decide +kernel
theorem dX8_next_246 : decode cX8_next 246 = .ok (.istore_n 2, 1) := by decide +kernel
theorem dX8_next_247 : decode cX8_next 247 = .ok (.iload_n 2, 1) := by decide +kernel
theorem dX8_next_248 : decode cX8_next 248 = .ok (.aload_n 0, 1) := by decide +kernel
theorem dX8_next_249 : decode cX8_next 249 = .ok (.getfield 118, 3) := by decide +kernel
theorem dX8_next_252 : decode cX8_next 252 = .ok (.if_icmp .ge 38, 3) := by decide +kernel
theorem dX8_next_255 : decode cX8_next 255 = .ok (.iload_n 2, 1) := by decide +kernel
theorem dX8_next_256 : decode cX8_next 256 = .ok (.aload_n 0, 1) := by decide +kernel
theorem dX8_next_257 : decode cX8_next 257 = .ok (.getfield 121, 3) := by decide +kernel
theorem dX8_next_260 : decode cX8_next 260 = .ok (.bipush 8, 2) := by decide +kernel
theorem dX8_next_262 : decode cX8_next 262 = .ok (.iadd, 1) := by decide +kernel
theorem dX8_next_263 : decode cX8_next 263 = .ok (.if_icmp .ge 27, 3) := by decide +kernel
theorem dX8_next_266 : decode cX8_next 266 = .ok (.aload_n 0, 1) := by decide +kernel
theorem dX8_next_267 : decode cX8_next 267 = .ok (.aload_n 0, 1) := by decide +kernel
theorem dX8_next_268 : decode cX8_next 268 = .ok (.getfield 141, 3) := by decide +kernel
theorem dX8_next_271 : decode cX8_next 271 = .ok (.bipush 8, 2) := by decide +kernel
theorem dX8_next_273 : decode cX8_next 273 = .ok (.lshl, 1) := by decide +kernel
theorem dX8_next_274 : decode cX8_next 274 = .ok (.aload_n 0, 1) := by decide +kernel
theorem dX8_next_275 : decode cX8_next 275 = .ok (.iload_n 2, 1) := by decide +kernel
theorem dX8_next_276 : decode cX8_next 276 = .ok (.invokevirtual 124, 3) := by decide +kernel
theorem dX8_next_279 : decode cX8_next 279 = .ok (.i2l, 1) := by decide +kernel
theorem dX8_next_280 : decode cX8_next 280 = .ok (.lor, 1) := by decide +kernel
theorem dX8_next_281 : decode cX8_next 281 = .ok (.putfield 141, 3) := by decide +kernel
theorem dX8_next_284 : decode cX8_next 284 = .ok (.iinc 2 1, 3) := by decide +kernel
theorem dX8_next_287 : decode cX8_next 287 = .ok (.goto (-40), 3) := by decide +kernel
theorem dX8_next_290 : decode cX8_next 290 = .ok (.aload_n 0, 1) := by decide +kernel
theorem dX8_next_291 : decode cX8_next 291 = .ok (.aload_n 0, 1) := by decide +kernel
theorem dX8_next_292 : decode cX8_next 292 = .ok (.getfield 118, 3) := by decide +kernel
theorem dX8_next_295 : decode cX8_next 295 = .ok (.aload_n 0, 1) := by decide +kernel
theorem dX8_next_296 : decode cX8_next 296 = .ok (.getfield 121, 3) := by decide +kernel
theorem dX8_next_299 : decode cX8_next 299 = .ok (.isub, 1) := by decide +kernel
theorem dX8_next_300 : decode cX8_next 300 = .ok (.bipush 8, 2) := by decide +kernel
theorem dX8_next_302 : decode cX8_next 302 = .ok (.if_icmp .le 7, 3) := by decide +kernel
theorem dX8_next_305 : decode cX8_next 305 = .ok (.iconst 1, 1) := by decide +kernel
theorem dX8_next_306 : decode cX8_next 306 = .ok (.goto 4, 3) := by decide +kernel
theorem dX8_next_309 : decode cX8_next 309 = .ok (.iconst 2, 1) := by decide +kernel
theorem dX8_next_310 : decode cX8_next 310 = .ok (.putfield 128, 3) := by decide +kernel
theorem dX8_next_313 : decode cX8_next 313 = .ok (.goto 76, 3) := by decide +kernel
theorem dX8_next_316 : decode cX8_next 316 = .ok (.iload_n 1, 1) := by decide +kernel
theorem dX8_next_317 : decode cX8_next 317 = .ok (.invokestatic 131, 3) := by decide +kernel
theorem dX8_next_320 : decode cX8_next 320 = .ok (.ifCond .ne 25, 3) := by decide +kernel
theorem dX8_next_323 : decode cX8_next 323 = .ok (.iload_n 1, 1) := by decide +kernel
theorem dX8_next_324 : decode cX8_next 324 = .ok (.bipush 45, 2) := by decide +kernel
theorem dX8_next_326 : decode cX8_next 326 = .ok (.if_icmp .ne 37, 3) := by decide +kernel
theorem dX8_next_329 : decode cX8_next 329 = .ok (.aload_n 0, 1) := by decide +kernel
theorem dX8_next_330 : decode cX8_next 330 = .ok (.aload_n 0, 1) := by decide +kernel
theorem dX8_next_331 : decode cX8_next 331 = .ok (.getfield 121, 3) := by decide +kernel
theorem dX8_next_334 : decode cX8_next 334 = .ok (.iconst 1, 1) := by decide +kernel
theorem dX8_next_335 : decode cX8_next 335 = .ok (.iadd, 1) := by decide +kernel
theorem dX8_next_336 : decode cX8_next 336 = .ok (.invokevirtual 124, 3) := by decide +kernel
theorem dX8_next_339 : decode cX8_next 339 = .ok (.invokestatic 131, 3) := by decide +kernel
theorem dX8_next_342 : decode cX8_next 342 = .ok (.ifCond .eq 21, 3) := by decide +kernel
theorem dX8_next_345 : decode cX8_next 345 = .ok (.aload_n 0, 1) := by decide +kernel
theorem dX8_next_346 : decode cX8_next 346 = .ok (.iload_n 1, 1) := by decide +kernel
theorem dX8_next_347 : decode cX8_next 347 = .ok (.bipush 45, 2) := by decide +kernel
theorem dX8_next_349 : decode cX8_next 349 = .ok (.if_icmp .ne 7, 3) := by decide +kernel
theorem dX8_next_352 : decode cX8_next 352 = .ok (.iconst 1, 1) := by decide +kernel
theorem dX8_next_353 : decode cX8_next 353 = .ok (.goto 4, 3) := by decide +kernel
theorem dX8_next_356 : decode cX8_next 356 = .ok (.iconst 0, 1) := by decide +kernel
theorem dX8_next_357 : decode cX8_next 357 = .ok (.invokevirtual 145, 3) := by decide +kernel
theorem dX8_next_360 : decode cX8_next 360 = .ok (.goto 29, 3) := by decide +kernel
theorem dX8_next_363 : decode cX8_next 363 = .ok (.aload_n 0, 1) := by decide +kernel
theorem dX8_next_364 : decode cX8_next 364 = .ok (.iload_n 1, 1) := by decide +kernel
theorem dX8_next_365 : decode cX8_next 365 = .ok (.bipush 58, 2) := by decide +kernel
theorem dX8_next_367 : decode cX8_next 367 = .ok (.if_icmp .ne 7, 3) := by decide +kernel
theorem dX8_next_370 : decode cX8_next 370 = .ok (.iconst 5, 1) := by decide +kernel
theorem dX8_next_371 : decode cX8_next 371 = .ok (.goto 15, 3) := by decide +kernel
theorem dX8_next_374 : decode cX8_next 374 = .ok (.iload_n 1, 1) := by decide +kernel
theorem dX8_next_375 : decode cX8_next 375 = .ok (.bipush 10, 2) := by decide +kernel
theorem dX8_next_377 : decode cX8_next 377 = .ok (.if_icmp .ne 8, 3) := by decide +kernel
theorem dX8_next_380 : decode cX8_next 380 = .ok (.bipush 6, 2) := by decide +kernel
theorem dX8_next_382 : decode cX8_next 382 = .ok (.goto 4, 3) := by decide +kernel
theorem dX8_next_385 : decode cX8_next 385 = .ok (.iconst 1, 1) := by decide +kernel
theorem dX8_next_386 : decode cX8_next 386 = .ok (.putfield 128, 3) := by decide +kernel
theorem dX8_next_389 : decode cX8_next 389 = .ok (.return_, 1) := by decide +kernel
theorem dX8_numeral_0 : decode cX8_numeral 0 = .ok (.iload_n 1, 1) := by decide +kernel
theorem dX8_numeral_1 : decode cX8_numeral 1 = .ok (.ifCond .eq 12, 3) := by decide +kernel
theorem dX8_numeral_4 : decode cX8_numeral 4 = .ok (.aload_n 0, 1) := by decide +kernel
theorem dX8_numeral_5 : decode cX8_numeral 5 = .ok (.getfield 121, 3) := by decide +kernel
theorem dX8_numeral_8 : decode cX8_numeral 8 = .ok (.iconst 1, 1) := by decide +kernel
theorem dX8_numeral_9 : decode cX8_numeral 9 = .ok (.iadd, 1) := by decide +kernel
theorem dX8_numeral_10 : decode cX8_numeral 10 = .ok (.goto 7, 3) := by decide +kernel
theorem dX8_numeral_13 : decode cX8_numeral 13 = .ok (.aload_n 0, 1) := by decide +kernel
theorem dX8_numeral_14 : decode cX8_numeral 14 = .ok (.getfield 121, 3) := by decide +kernel
theorem dX8_numeral_17 : decode cX8_numeral 17 = .ok (.istore_n 2, 1) := by decide +kernel
theorem dX8_numeral_18 : decode cX8_numeral 18 = .ok (.aload_n 0, 1) := by decide +kernel
theorem dX8_numeral_19 : decode cX8_numeral 19 = .ok (.iconst 0, 1) := by decide +kernel
theorem dX8_numeral_20 : decode cX8_numeral 20 = .ok (.putfield 138, 3) := by decide +kernel
theorem dX8_numeral_23 : decode cX8_numeral 23 = .ok (.aload_n 0, 1) := by decide +kernel
theorem dX8_numeral_24 : decode cX8_numeral 24 = .ok (.iload_n 2, 1) := by decide +kernel
theorem dX8_numeral_25 : decode cX8_numeral 25 = .ok (.putfield 118, 3) := by decide +kernel
theorem dX8_numeral_28 : decode cX8_numeral 28 = .ok (.aload_n 0, 1) := by decide +kernel
theorem dX8_numeral_29 : decode cX8_numeral 29 = .ok (.aload_n 0, 1) := by decide +kernel
theorem dX8_numeral_30 : decode cX8_numeral 30 = .ok (.getfield 118, 3) := by decide +kernel
theorem dX8_numeral_33 : decode cX8_numeral 33 = .ok (.invokevirtual 124, 3) := by decide +kernel
theorem dX8_numeral_36 : decode cX8_numeral 36 = .ok (.invokestatic 131, 3) := by decide +kernel
theorem dX8_numeral_39 : decode cX8_numeral 39 = .ok (.ifCond .eq 50, 3) := by decide +kernel
theorem dX8_numeral_42 : decode cX8_numeral 42 = .ok (.aload_n 0, 1) := by decide +kernel
theorem dX8_numeral_43 : decode cX8_numeral 43 = .ok (.getfield 118, 3) := by decide +kernel
theorem dX8_numeral_46 : decode cX8_numeral 46 = .ok (.iload_n 2, 1) := by decide +kernel
theorem dX8_numeral_47 : decode cX8_numeral 47 = .ok (.isub, 1) := by decide +kernel
theorem dX8_numeral_48 : decode cX8_numeral 48 = .ok (.bipush 6, 2) := by decide +kernel
theorem dX8_numeral_50 : decode cX8_numeral 50 = .ok (.if_icmp .ge 26, 3) := by decide +kernel
theorem dX8_numeral_53 : decode cX8_numeral 53 = .ok (.aload_n 0, 1) := by decide +kernel
theorem dX8_numeral_54 : decode cX8_numeral 54 = .ok (.bipush 10, 2) := by decide +kernel
theorem dX8_numeral_56 : decode cX8_numeral 56 = .ok (.aload_n 0, 1) := by decide +kernel
theorem dX8_numeral_57 : decode cX8_numeral 57 = .ok (.getfield 138, 3) := by decide +kernel
theorem dX8_numeral_60 : decode cX8_numeral 60 = .ok (.imul, 1) := by decide +kernel
theorem dX8_numeral_61 : decode cX8_numeral 61 = .ok (.aload_n 0, 1) := by decide +kernel
theorem dX8_numeral_62 : decode cX8_numeral 62 = .ok (.aload_n 0, 1) := by decide +kernel
theorem dX8_numeral_63 : decode cX8_numeral 63 = .ok (.getfield 118, 3) := by decide +kernel
theorem dX8_numeral_66 : decode cX8_numeral 66 = .ok (.invokevirtual 124, 3) := by decide +kernel
theorem dX8_numeral_69 : decode cX8_numeral 69 = .ok (.iadd, 1) := by decide +kernel
theorem dX8_numeral_70 : decode cX8_numeral 70 = .ok (.bipush 48, 2) := by decide +kernel
theorem dX8_numeral_72 : decode cX8_numeral 72 = .ok (.isub, 1) := by decide +kernel
theorem dX8_numeral_73 : decode cX8_numeral 73 = .ok (.putfield 138, 3) := by decide +kernel
theorem dX8_numeral_76 : decode cX8_numeral 76 = .ok (.aload_n 0, 1) := by decide +kernel
theorem dX8_numeral_77 : decode cX8_numeral 77 = .ok (.dup, 1) := by decide +kernel
theorem dX8_numeral_78 : decode cX8_numeral 78 = .ok (.getfield 118, 3) := by decide +kernel
theorem dX8_numeral_81 : decode cX8_numeral 81 = .ok (.iconst 1, 1) := by decide +kernel
theorem dX8_numeral_82 : decode cX8_numeral 82 = .ok (.iadd, 1) := by decide +kernel
theorem dX8_numeral_83 : decode cX8_numeral 83 = .ok (.putfield 118, 3) := by decide +kernel
theorem dX8_numeral_86 : decode cX8_numeral 86 = .ok (.goto (-58), 3) := by decide +kernel
theorem dX8_numeral_89 : decode cX8_numeral 89 = .ok (.iload_n 1, 1) := by decide +kernel
theorem dX8_numeral_90 : decode cX8_numeral 90 = .ok (.ifCond .eq 12, 3) := by decide +kernel
theorem dX8_numeral_93 : decode cX8_numeral 93 = .ok (.aload_n 0, 1) := by decide +kernel
theorem dX8_numeral_94 : decode cX8_numeral 94 = .ok (.aload_n 0, 1) := by decide +kernel
theorem dX8_numeral_95 : decode cX8_numeral 95 = .ok (.getfield 138, 3) := by decide +kernel
theorem dX8_numeral_98 : decode cX8_numeral 98 = .ok (.ineg, 1) := by decide +kernel
theorem dX8_numeral_99 : decode cX8_numeral 99 = .ok (.putfield 138, 3) := by decide +kernel
theorem dX8_numeral_102 : decode cX8_numeral 102 = .ok (.aload_n 0, 1) := by decide +kernel
theorem dX8_numeral_103 : decode cX8_numeral 103 = .ok (.aload_n 0, 1) := by decide +kernel
theorem dX8_numeral_104 : decode cX8_numeral 104 = .ok (.getfield 118, 3) := by decide +kernel
theorem dX8_numeral_107 : decode cX8_numeral 107 = .ok (.iload_n 2, 1) := by decide +kernel
theorem dX8_numeral_108 : decode cX8_numeral 108 = .ok (.isub, 1) := by decide +kernel
theorem dX8_numeral_109 : decode cX8_numeral 109 = .ok (.bipush 6, 2) := by decide +kernel
theorem dX8_numeral_111 : decode cX8_numeral 111 = .ok (.if_icmp .gt 17, 3) := by decide +kernel
theorem dX8_numeral_114 : decode cX8_numeral 114 = .ok (.aload_n 0, 1) := by decide +kernel
theorem dX8_numeral_115 : decode cX8_numeral 115 = .ok (.aload_n 0, 1) := by decide +kernel
theorem dX8_numeral_116 : decode cX8_numeral 116 = .ok (.getfield 118, 3) := by decide +kernel
theorem dX8_numeral_119 : decode cX8_numeral 119 = .ok (.invokevirtual 124, 3) := by decide +kernel
theorem dX8_numeral_122 : decode cX8_numeral 122 = .ok (.invokestatic 135, 3) := by decide +kernel
theorem dX8_numeral_125 : decode cX8_numeral 125 = .ok (.ifCond .eq 7, 3) := by decide +kernel
theorem dX8_numeral_128 : decode cX8_numeral 128 = .ok (.iconst 1, 1) := by decide +kernel
theorem dX8_numeral_129 : decode cX8_numeral 129 = .ok (.goto 4, 3) := by decide +kernel
theorem dX8_numeral_132 : decode cX8_numeral 132 = .ok (.iconst 4, 1) := by decide +kernel
theorem dX8_numeral_133 : decode cX8_numeral 133 = .ok (.putfield 128, 3) := by decide +kernel
theorem dX8_numeral_136 : decode cX8_numeral 136 = .ok (.return_, 1) := by decide +kernel
theorem dX8_wrong_0 : decode cX8_wrong 0 = .ok (.aload_n 0, 1) := by decide +kernel
theorem dX8_wrong_1 : decode cX8_wrong 1 = .ok (.aload_n 0, 1) := by decide +kernel
theorem dX8_wrong_2 : decode cX8_wrong 2 = .ok (.getfield 128, 3) := by decide +kernel
theorem dX8_wrong_5 : decode cX8_wrong 5 = .ok (.iconst 1, 1) := by decide +kernel
theorem dX8_wrong_6 : decode cX8_wrong 6 = .ok (.if_icmp .ne 7, 3) := by decide +kernel
theorem dX8_wrong_9 : decode cX8_wrong 9 = .ok (.iconst 1, 1) := by decide +kernel
theorem dX8_wrong_10 : decode cX8_wrong 10 = .ok (.goto 4, 3) := by decide +kernel
theorem dX8_wrong_13 : decode cX8_wrong 13 = .ok (.iconst 2, 1) := by decide +kernel
theorem dX8_wrong_14 : decode cX8_wrong 14 = .ok (.aload_n 0, 1) := by decide +kernel
theorem dX8_wrong_15 : decode cX8_wrong 15 = .ok (.getfield 121, 3) := by decide +kernel
theorem dX8_wrong_18 : decode cX8_wrong 18 = .ok (.invokevirtual 149, 3) := by decide +kernel
theorem dX8_wrong_21 : decode cX8_wrong 21 = .ok (.return_, 1) := by decide +kernel
theorem dX8_actHere_0 : decode cX8_actHere 0 = .ok (.aload_n 0, 1) := by decide +kernel
theorem dX8_actHere_1 : decode cX8_actHere 1 = .ok (.getfield 128, 3) := by decide +kernel
theorem dX8_actHere_4 : decode cX8_actHere 4 = .ok (.iconst 2, 1) := by decide +kernel
theorem dX8_actHere_5 : decode cX8_actHere 5 = .ok (.if_icmp .eq 5, 3) := by decide +kernel
theorem dX8_actHere_8 : decode cX8_actHere 8 = .ok (.iconst (-1), 1) := by decide +kernel
theorem dX8_actHere_9 : decode cX8_actHere 9 = .ok (.ireturn, 1) := by decide +kernel
theorem dX8_actHere_10 : decode cX8_actHere 10 = .ok (.aload_n 0, 1) := by decide +kernel
theorem dX8_actHere_11 : decode cX8_actHere 11 = .ok (.getfield 141, 3) := by decide +kernel
theorem dX8_actHere_14 : decode cX8_actHere 14 = .ok (.ldc2_w 153, 3) := by decide +kernel
theorem dX8_actHere_17 : decode cX8_actHere 17 = .ok (.lcmp, 1) := by decide +kernel
theorem dX8_actHere_18 : decode cX8_actHere 18 = .ok (.ifCond .ne 7, 3) := by decide +kernel
theorem dX8_actHere_21 : decode cX8_actHere 21 = .ok (.iconst 0, 1) := by decide +kernel
theorem dX8_actHere_22 : decode cX8_actHere 22 = .ok (.goto 95, 3) := by decide +kernel
theorem dX8_actHere_25 : decode cX8_actHere 25 = .ok (.aload_n 0, 1) := by decide +kernel
theorem dX8_actHere_26 : decode cX8_actHere 26 = .ok (.getfield 141, 3) := by decide +kernel
theorem dX8_actHere_29 : decode cX8_actHere 29 = .ok (.ldc2_w 155, 3) := by decide +kernel
theorem dX8_actHere_32 : decode cX8_actHere 32 = .ok (.lcmp, 1) := by decide +kernel
theorem dX8_actHere_33 : decode cX8_actHere 33 = .ok (.ifCond .ne 7, 3) := by decide +kernel
theorem dX8_actHere_36 : decode cX8_actHere 36 = .ok (.iconst 1, 1) := by decide +kernel
theorem dX8_actHere_37 : decode cX8_actHere 37 = .ok (.goto 80, 3) := by decide +kernel
theorem dX8_actHere_40 : decode cX8_actHere 40 = .ok (.aload_n 0, 1) := by decide +kernel
theorem dX8_actHere_41 : decode cX8_actHere 41 = .ok (.getfield 141, 3) := by decide +kernel
theorem dX8_actHere_44 : decode cX8_actHere 44 = .ok (.ldc2_w 157, 3) := by decide +kernel
theorem dX8_actHere_47 : decode cX8_actHere 47 = .ok (.lcmp, 1) := by decide +kernel
theorem dX8_actHere_48 : decode cX8_actHere 48 = .ok (.ifCond .ne 7, 3) := by decide +kernel
theorem dX8_actHere_51 : decode cX8_actHere 51 = .ok (.iconst 2, 1) := by decide +kernel
theorem dX8_actHere_52 : decode cX8_actHere 52 = .ok (.goto 65, 3) := by decide +kernel
theorem dX8_actHere_55 : decode cX8_actHere 55 = .ok (.aload_n 0, 1) := by decide +kernel
theorem dX8_actHere_56 : decode cX8_actHere 56 = .ok (.getfield 141, 3) := by decide +kernel
theorem dX8_actHere_59 : decode cX8_actHere 59 = .ok (.ldc2_w 159, 3) := by decide +kernel
theorem dX8_actHere_62 : decode cX8_actHere 62 = .ok (.lcmp, 1) := by decide +kernel
theorem dX8_actHere_63 : decode cX8_actHere 63 = .ok (.ifCond .ne 7, 3) := by decide +kernel
theorem dX8_actHere_66 : decode cX8_actHere 66 = .ok (.iconst 3, 1) := by decide +kernel
theorem dX8_actHere_67 : decode cX8_actHere 67 = .ok (.goto 50, 3) := by decide +kernel
theorem dX8_actHere_70 : decode cX8_actHere 70 = .ok (.aload_n 0, 1) := by decide +kernel
theorem dX8_actHere_71 : decode cX8_actHere 71 = .ok (.getfield 141, 3) := by decide +kernel
theorem dX8_actHere_74 : decode cX8_actHere 74 = .ok (.ldc2_w 161, 3) := by decide +kernel
theorem dX8_actHere_77 : decode cX8_actHere 77 = .ok (.lcmp, 1) := by decide +kernel
theorem dX8_actHere_78 : decode cX8_actHere 78 = .ok (.ifCond .ne 7, 3) := by decide +kernel
theorem dX8_actHere_81 : decode cX8_actHere 81 = .ok (.iconst 4, 1) := by decide +kernel
theorem dX8_actHere_82 : decode cX8_actHere 82 = .ok (.goto 35, 3) := by decide +kernel
theorem dX8_actHere_85 : decode cX8_actHere 85 = .ok (.aload_n 0, 1) := by decide +kernel
theorem dX8_actHere_86 : decode cX8_actHere 86 = .ok (.getfield 141, 3) := by decide +kernel
theorem dX8_actHere_89 : decode cX8_actHere 89 = .ok (.ldc2_w 163, 3) := by decide +kernel
theorem dX8_actHere_92 : decode cX8_actHere 92 = .ok (.lcmp, 1) := by decide +kernel
theorem dX8_actHere_93 : decode cX8_actHere 93 = .ok (.ifCond .ne 7, 3) := by decide +kernel
theorem dX8_actHere_96 : decode cX8_actHere 96 = .ok (.iconst 5, 1) := by decide +kernel
theorem dX8_actHere_97 : decode cX8_actHere 97 = .ok (.goto 20, 3) := by decide +kernel
theorem dX8_actHere_100 : decode cX8_actHere 100 = .ok (.aload_n 0, 1) := by decide +kernel
theorem dX8_actHere_101 : decode cX8_actHere 101 = .ok (.getfield 141, 3) := by decide +kernel
theorem dX8_actHere_104 : decode cX8_actHere 104 = .ok (.ldc2_w 165, 3) := by decide +kernel
theorem dX8_actHere_107 : decode cX8_actHere 107 = .ok (.lcmp, 1) := by decide +kernel
theorem dX8_actHere_108 : decode cX8_actHere 108 = .ok (.ifCond .ne 8, 3) := by decide +kernel
theorem dX8_actHere_111 : decode cX8_actHere 111 = .ok (.bipush 6, 2) := by decide +kernel
theorem dX8_actHere_113 : decode cX8_actHere 113 = .ok (.goto 4, 3) := by decide +kernel
theorem dX8_actHere_116 : decode cX8_actHere 116 = .ok (.iconst (-1), 1) := by decide +kernel
theorem dX8_actHere_117 : decode cX8_actHere 117 = .ok (.istore_n 1, 1) := by decide +kernel
theorem dX8_actHere_118 : decode cX8_actHere 118 = .ok (.iload_n 1, 1) := by decide +kernel
theorem dX8_actHere_119 : decode cX8_actHere 119 = .ok (.ifCond .lt 7, 3) := by decide +kernel
theorem dX8_actHere_122 : decode cX8_actHere 122 = .ok (.iload_n 1, 1) := by decide +kernel
theorem dX8_actHere_123 : decode cX8_actHere 123 = .ok (.goto 116, 3) := by decide +kernel
theorem dX8_actHere_126 : decode cX8_actHere 126 = .ok (.aload_n 0, 1) := by decide +kernel
theorem dX8_actHere_127 : decode cX8_actHere 127 = .ok (.getfield 141, 3) := by decide +kernel
theorem dX8_actHere_130 : decode cX8_actHere 130 = .ok (.ldc2_w 167, 3) := by decide +kernel
theorem dX8_actHere_133 : decode cX8_actHere 133 = .ok (.lcmp, 1) := by decide +kernel
theorem dX8_actHere_134 : decode cX8_actHere 134 = .ok (.ifCond .ne 8, 3) := by decide +kernel
theorem dX8_actHere_137 : decode cX8_actHere 137 = .ok (.bipush 7, 2) := by decide +kernel
theorem dX8_actHere_139 : decode cX8_actHere 139 = .ok (.goto 100, 3) := by decide +kernel
theorem dX8_actHere_142 : decode cX8_actHere 142 = .ok (.aload_n 0, 1) := by decide +kernel
theorem dX8_actHere_143 : decode cX8_actHere 143 = .ok (.getfield 141, 3) := by decide +kernel
theorem dX8_actHere_146 : decode cX8_actHere 146 = .ok (.ldc2_w 169, 3) := by decide +kernel
theorem dX8_actHere_149 : decode cX8_actHere 149 = .ok (.lcmp, 1) := by decide +kernel
theorem dX8_actHere_150 : decode cX8_actHere 150 = .ok (.ifCond .ne 8, 3) := by decide +kernel
theorem dX8_actHere_153 : decode cX8_actHere 153 = .ok (.bipush 8, 2) := by decide +kernel
theorem dX8_actHere_155 : decode cX8_actHere 155 = .ok (.goto 84, 3) := by decide +kernel
theorem dX8_actHere_158 : decode cX8_actHere 158 = .ok (.aload_n 0, 1) := by decide +kernel
theorem dX8_actHere_159 : decode cX8_actHere 159 = .ok (.getfield 141, 3) := by decide +kernel
theorem dX8_actHere_162 : decode cX8_actHere 162 = .ok (.ldc2_w 171, 3) := by decide +kernel
theorem dX8_actHere_165 : decode cX8_actHere 165 = .ok (.lcmp, 1) := by decide +kernel
theorem dX8_actHere_166 : decode cX8_actHere 166 = .ok (.ifCond .ne 8, 3) := by decide +kernel
theorem dX8_actHere_169 : decode cX8_actHere 169 = .ok (.bipush 9, 2) := by decide +kernel
theorem dX8_actHere_171 : decode cX8_actHere 171 = .ok (.goto 68, 3) := by decide +kernel
theorem dX8_actHere_174 : decode cX8_actHere 174 = .ok (.aload_n 0, 1) := by decide +kernel
theorem dX8_actHere_175 : decode cX8_actHere 175 = .ok (.getfield 141, 3) := by decide +kernel
theorem dX8_actHere_178 : decode cX8_actHere 178 = .ok (.ldc2_w 173, 3) := by decide +kernel
theorem dX8_actHere_181 : decode cX8_actHere 181 = .ok (.lcmp, 1) := by decide +kernel
theorem dX8_actHere_182 : decode cX8_actHere 182 = .ok (.ifCond .ne 8, 3) := by decide +kernel
theorem dX8_actHere_185 : decode cX8_actHere 185 = .ok (.bipush 10, 2) := by decide +kernel
theorem dX8_actHere_187 : decode cX8_actHere 187 = .ok (.goto 52, 3) := by decide +kernel
theorem dX8_actHere_190 : decode cX8_actHere 190 = .ok (.aload_n 0, 1) := by decide +kernel
theorem dX8_actHere_191 : decode cX8_actHere 191 = .ok (.getfield 141, 3) := by decide +kernel
theorem dX8_actHere_194 : decode cX8_actHere 194 = .ok (.ldc2_w 175, 3) := by decide +kernel
theorem dX8_actHere_197 : decode cX8_actHere 197 = .ok (.lcmp, 1) := by decide +kernel
theorem dX8_actHere_198 : decode cX8_actHere 198 = .ok (.ifCond .ne 8, 3) := by decide +kernel
theorem dX8_actHere_201 : decode cX8_actHere 201 = .ok (.bipush 11, 2) := by decide +kernel
theorem dX8_actHere_203 : decode cX8_actHere 203 = .ok (.goto 36, 3) := by decide +kernel
theorem dX8_actHere_206 : decode cX8_actHere 206 = .ok (.aload_n 0, 1) := by decide +kernel
theorem dX8_actHere_207 : decode cX8_actHere 207 = .ok (.getfield 141, 3) := by decide +kernel
theorem dX8_actHere_210 : decode cX8_actHere 210 = .ok (.ldc2_w 177, 3) := by decide +kernel
theorem dX8_actHere_213 : decode cX8_actHere 213 = .ok (.lcmp, 1) := by decide +kernel
theorem dX8_actHere_214 : decode cX8_actHere 214 = .ok (.ifCond .ne 8, 3) := by decide +kernel
theorem dX8_actHere_217 : decode cX8_actHere 217 = .ok (.bipush 12, 2) := by decide +kernel
theorem dX8_actHere_219 : decode cX8_actHere 219 = .ok (.goto 20, 3) := by decide +kernel
theorem dX8_actHere_222 : decode cX8_actHere 222 = .ok (.aload_n 0, 1) := by decide +kernel
theorem dX8_actHere_223 : decode cX8_actHere 223 = .ok (.getfield 141, 3) := by decide +kernel
theorem dX8_actHere_226 : decode cX8_actHere 226 = .ok (.ldc2_w 179, 3) := by decide +kernel
theorem dX8_actHere_229 : decode cX8_actHere 229 = .ok (.lcmp, 1) := by decide +kernel
theorem dX8_actHere_230 : decode cX8_actHere 230 = .ok (.ifCond .ne 8, 3) := by decide +kernel
theorem dX8_actHere_233 : decode cX8_actHere 233 = .ok (.bipush 13, 2) := by decide +kernel
theorem dX8_actHere_235 : decode cX8_actHere 235 = .ok (.goto 4, 3) := by decide +kernel
theorem dX8_actHere_238 : decode cX8_actHere 238 = .ok (.iconst (-1), 1) := by decide +kernel
theorem dX8_actHere_239 : decode cX8_actHere 239 = .ok (.ireturn, 1) := by decide +kernel
theorem dX8_isShelf_0 : decode cX8_isShelf 0 = .ok (.iload_n 0, 1) := by decide +kernel
theorem dX8_isShelf_1 : decode cX8_isShelf 1 = .ok (.ifCond .lt 12, 3) := by decide +kernel
theorem dX8_isShelf_4 : decode cX8_isShelf 4 = .ok (.iload_n 0, 1) := by decide +kernel
theorem dX8_isShelf_5 : decode cX8_isShelf 5 = .ok (.iconst 3, 1) := by decide +kernel
theorem dX8_isShelf_6 : decode cX8_isShelf 6 = .ok (.if_icmp .ge 7, 3) := by decide +kernel
theorem dX8_isShelf_9 : decode cX8_isShelf 9 = .ok (.iconst 1, 1) := by decide +kernel
theorem dX8_isShelf_10 : decode cX8_isShelf 10 = .ok (.goto 4, 3) := by decide +kernel
theorem dX8_isShelf_13 : decode cX8_isShelf 13 = .ok (.iconst 0, 1) := by decide +kernel
theorem dX8_isShelf_14 : decode cX8_isShelf 14 = .ok (.ireturn, 1) := by decide +kernel
theorem dX8_program_0 : decode cX8_program 0 = .ok (.iload_n 1, 1) := by decide +kernel
theorem dX8_program_1 : decode cX8_program 1 = .ok (.invokestatic 181, 3) := by decide +kernel
theorem dX8_program_4 : decode cX8_program 4 = .ok (.ifCond .ne 6, 3) := by decide +kernel
theorem dX8_program_7 : decode cX8_program 7 = .ok (.bipush (-2), 2) := by decide +kernel
theorem dX8_program_9 : decode cX8_program 9 = .ok (.ireturn, 1) := by decide +kernel
theorem dX8_program_10 : decode cX8_program 10 = .ok (.aload_n 0, 1) := by decide +kernel
theorem dX8_program_11 : decode cX8_program 11 = .ok (.iconst 0, 1) := by decide +kernel
theorem dX8_program_12 : decode cX8_program 12 = .ok (.putfield 115, 3) := by decide +kernel
theorem dX8_program_15 : decode cX8_program 15 = .ok (.aload_n 0, 1) := by decide +kernel
theorem dX8_program_16 : decode cX8_program 16 = .ok (.iconst (-1), 1) := by decide +kernel
theorem dX8_program_17 : decode cX8_program 17 = .ok (.putfield 16, 3) := by decide +kernel
theorem dX8_program_20 : decode cX8_program 20 = .ok (.aload_n 0, 1) := by decide +kernel
theorem dX8_program_21 : decode cX8_program 21 = .ok (.aload_n 0, 1) := by decide +kernel
theorem dX8_program_22 : decode cX8_program 22 = .ok (.getfield 184, 3) := by decide +kernel
theorem dX8_program_25 : decode cX8_program 25 = .ok (.putfield 112, 3) := by decide +kernel
theorem dX8_program_28 : decode cX8_program 28 = .ok (.iconst 0, 1) := by decide +kernel
theorem dX8_program_29 : decode cX8_program 29 = .ok (.istore_n 2, 1) := by decide +kernel
theorem dX8_program_30 : decode cX8_program 30 = .ok (.iload_n 2, 1) := by decide +kernel
theorem dX8_program_31 : decode cX8_program 31 = .ok (.aload_n 0, 1) := by decide +kernel
theorem dX8_program_32 : decode cX8_program 32 = .ok (.getfield 112, 3) := by decide +kernel
theorem dX8_program_35 : decode cX8_program 35 = .ok (.if_icmp .ge 21, 3) := by decide +kernel
theorem dX8_program_38 : decode cX8_program 38 = .ok (.aload_n 0, 1) := by decide +kernel
theorem dX8_program_39 : decode cX8_program 39 = .ok (.getfield 13, 3) := by decide +kernel
theorem dX8_program_42 : decode cX8_program 42 = .ok (.iload_n 2, 1) := by decide +kernel
theorem dX8_program_43 : decode cX8_program 43 = .ok (.aload_n 0, 1) := by decide +kernel
theorem dX8_program_44 : decode cX8_program 44 = .ok (.getfield 7, 3) := by decide +kernel
theorem dX8_program_47 : decode cX8_program 47 = .ok (.iload_n 2, 1) := by decide +kernel
theorem dX8_program_48 : decode cX8_program 48 = .ok (.baload, 1) := by decide +kernel
theorem dX8_program_49 : decode cX8_program 49 = .ok (.bastore, 1) := by decide +kernel
theorem dX8_program_50 : decode cX8_program 50 = .ok (.iinc 2 1, 3) := by decide +kernel
theorem dX8_program_53 : decode cX8_program 53 = .ok (.goto (-23), 3) := by decide +kernel
theorem dX8_program_56 : decode cX8_program 56 = .ok (.aload_n 0, 1) := by decide +kernel
theorem dX8_program_57 : decode cX8_program 57 = .ok (.iconst 0, 1) := by decide +kernel
theorem dX8_program_58 : decode cX8_program 58 = .ok (.putfield 184, 3) := by decide +kernel
theorem dX8_program_61 : decode cX8_program 61 = .ok (.aload_n 0, 1) := by decide +kernel
theorem dX8_program_62 : decode cX8_program 62 = .ok (.iconst 0, 1) := by decide +kernel
theorem dX8_program_63 : decode cX8_program 63 = .ok (.putfield 118, 3) := by decide +kernel
theorem dX8_program_66 : decode cX8_program 66 = .ok (.aload_n 0, 1) := by decide +kernel
theorem dX8_program_67 : decode cX8_program 67 = .ok (.getfield 33, 3) := by decide +kernel
theorem dX8_program_70 : decode cX8_program 70 = .ok (.iconst 3, 1) := by decide +kernel
theorem dX8_program_71 : decode cX8_program 71 = .ok (.iconst 0, 1) := by decide +kernel
theorem dX8_program_72 : decode cX8_program 72 = .ok (.iastore, 1) := by decide +kernel
theorem dX8_program_73 : decode cX8_program 73 = .ok (.aload_n 0, 1) := by decide +kernel
theorem dX8_program_74 : decode cX8_program 74 = .ok (.iconst 0, 1) := by decide +kernel
theorem dX8_program_75 : decode cX8_program 75 = .ok (.putfield 187, 3) := by decide +kernel
theorem dX8_program_78 : decode cX8_program 78 = .ok (.aload_n 0, 1) := by decide +kernel
theorem dX8_program_79 : decode cX8_program 79 = .ok (.invokevirtual 190, 3) := by decide +kernel
theorem dX8_program_82 : decode cX8_program 82 = .ok (.aload_n 0, 1) := by decide +kernel
theorem dX8_program_83 : decode cX8_program 83 = .ok (.invokevirtual 193, 3) := by decide +kernel
theorem dX8_program_86 : decode cX8_program 86 = .ok (.ifCond .eq 17, 3) := by decide +kernel
theorem dX8_program_89 : decode cX8_program 89 = .ok (.aload_n 0, 1) := by decide +kernel
theorem dX8_program_90 : decode cX8_program 90 = .ok (.getfield 128, 3) := by decide +kernel
theorem dX8_program_93 : decode cX8_program 93 = .ok (.ifCond .eq 10, 3) := by decide +kernel
theorem dX8_program_96 : decode cX8_program 96 = .ok (.aload_n 0, 1) := by decide +kernel
theorem dX8_program_97 : decode cX8_program 97 = .ok (.invokevirtual 197, 3) := by decide +kernel
theorem dX8_program_100 : decode cX8_program 100 = .ok (.goto (-18), 3) := by decide +kernel
theorem dX8_program_103 : decode cX8_program 103 = .ok (.iconst 0, 1) := by decide +kernel
theorem dX8_program_104 : decode cX8_program 104 = .ok (.istore_n 2, 1) := by decide +kernel
theorem dX8_program_105 : decode cX8_program 105 = .ok (.iload_n 2, 1) := by decide +kernel
theorem dX8_program_106 : decode cX8_program 106 = .ok (.aload_n 0, 1) := by decide +kernel
theorem dX8_program_107 : decode cX8_program 107 = .ok (.getfield 33, 3) := by decide +kernel
theorem dX8_program_110 : decode cX8_program 110 = .ok (.iconst 3, 1) := by decide +kernel
theorem dX8_program_111 : decode cX8_program 111 = .ok (.iaload, 1) := by decide +kernel
theorem dX8_program_112 : decode cX8_program 112 = .ok (.if_icmp .ge 21, 3) := by decide +kernel
theorem dX8_program_115 : decode cX8_program 115 = .ok (.aload_n 0, 1) := by decide +kernel
theorem dX8_program_116 : decode cX8_program 116 = .ok (.invokevirtual 193, 3) := by decide +kernel
theorem dX8_program_119 : decode cX8_program 119 = .ok (.ifCond .eq 14, 3) := by decide +kernel
theorem dX8_program_122 : decode cX8_program 122 = .ok (.aload_n 0, 1) := by decide +kernel
theorem dX8_program_123 : decode cX8_program 123 = .ok (.iload_n 2, 1) := by decide +kernel
theorem dX8_program_124 : decode cX8_program 124 = .ok (.invokevirtual 200, 3) := by decide +kernel
theorem dX8_program_127 : decode cX8_program 127 = .ok (.iinc 2 1, 3) := by decide +kernel
theorem dX8_program_130 : decode cX8_program 130 = .ok (.goto (-25), 3) := by decide +kernel
theorem dX8_program_133 : decode cX8_program 133 = .ok (.aload_n 0, 1) := by decide +kernel
theorem dX8_program_134 : decode cX8_program 134 = .ok (.invokevirtual 193, 3) := by decide +kernel
theorem dX8_program_137 : decode cX8_program 137 = .ok (.ifCond .ne 5, 3) := by decide +kernel
theorem dX8_program_140 : decode cX8_program 140 = .ok (.iconst (-1), 1) := by decide +kernel
theorem dX8_program_141 : decode cX8_program 141 = .ok (.ireturn, 1) := by decide +kernel
theorem dX8_program_142 : decode cX8_program 142 = .ok (.aload_n 0, 1) := by decide +kernel
theorem dX8_program_143 : decode cX8_program 143 = .ok (.getfield 33, 3) := by decide +kernel
theorem dX8_program_146 : decode cX8_program 146 = .ok (.iload_n 1, 1) := by decide +kernel
theorem dX8_program_147 : decode cX8_program 147 = .ok (.aload_n 0, 1) := by decide +kernel
theorem dX8_program_148 : decode cX8_program 148 = .ok (.getfield 33, 3) := by decide +kernel
theorem dX8_program_151 : decode cX8_program 151 = .ok (.iconst 3, 1) := by decide +kernel
theorem dX8_program_152 : decode cX8_program 152 = .ok (.iaload, 1) := by decide +kernel
theorem dX8_program_153 : decode cX8_program 153 = .ok (.iastore, 1) := by decide +kernel
theorem dX8_program_154 : decode cX8_program 154 = .ok (.iconst 0, 1) := by decide +kernel
theorem dX8_program_155 : decode cX8_program 155 = .ok (.istore_n 2, 1) := by decide +kernel
theorem dX8_program_156 : decode cX8_program 156 = .ok (.iload_n 2, 1) := by decide +kernel
theorem dX8_program_157 : decode cX8_program 157 = .ok (.aload_n 0, 1) := by decide +kernel
theorem dX8_program_158 : decode cX8_program 158 = .ok (.getfield 33, 3) := by decide +kernel
theorem dX8_program_161 : decode cX8_program 161 = .ok (.iload_n 1, 1) := by decide +kernel
theorem dX8_program_162 : decode cX8_program 162 = .ok (.iaload, 1) := by decide +kernel
theorem dX8_program_163 : decode cX8_program 163 = .ok (.if_icmp .ge 93, 3) := by decide +kernel
theorem dX8_program_166 : decode cX8_program 166 = .ok (.aload_n 0, 1) := by decide +kernel
theorem dX8_program_167 : decode cX8_program 167 = .ok (.getfield 20, 3) := by decide +kernel
theorem dX8_program_170 : decode cX8_program 170 = .ok (.bipush 80, 2) := by decide +kernel
theorem dX8_program_172 : decode cX8_program 172 = .ok (.iload_n 1, 1) := by decide +kernel
theorem dX8_program_173 : decode cX8_program 173 = .ok (.imul, 1) := by decide +kernel
theorem dX8_program_174 : decode cX8_program 174 = .ok (.iload_n 2, 1) := by decide +kernel
theorem dX8_program_175 : decode cX8_program 175 = .ok (.iadd, 1) := by decide +kernel
theorem dX8_program_176 : decode cX8_program 176 = .ok (.aload_n 0, 1) := by decide +kernel
theorem dX8_program_177 : decode cX8_program 177 = .ok (.getfield 20, 3) := by decide +kernel
theorem dX8_program_180 : decode cX8_program 180 = .ok (.sipush 240, 3) := by decide +kernel
theorem dX8_program_183 : decode cX8_program 183 = .ok (.iload_n 2, 1) := by decide +kernel
theorem dX8_program_184 : decode cX8_program 184 = .ok (.iadd, 1) := by decide +kernel
theorem dX8_program_185 : decode cX8_program 185 = .ok (.iaload, 1) := by decide +kernel
theorem dX8_program_186 : decode cX8_program 186 = .ok (.iastore, 1) := by decide +kernel
theorem dX8_program_187 : decode cX8_program 187 = .ok (.aload_n 0, 1) := by decide +kernel
theorem dX8_program_188 : decode cX8_program 188 = .ok (.getfield 24, 3) := by decide +kernel
theorem dX8_program_191 : decode cX8_program 191 = .ok (.bipush 80, 2) := by decide +kernel
theorem dX8_program_193 : decode cX8_program 193 = .ok (.iload_n 1, 1) := by decide +kernel
theorem dX8_program_194 : decode cX8_program 194 = .ok (.imul, 1) := by decide +kernel
theorem dX8_program_195 : decode cX8_program 195 = .ok (.iload_n 2, 1) := by decide +kernel
theorem dX8_program_196 : decode cX8_program 196 = .ok (.iadd, 1) := by decide +kernel
theorem dX8_program_197 : decode cX8_program 197 = .ok (.aload_n 0, 1) := by decide +kernel
theorem dX8_program_198 : decode cX8_program 198 = .ok (.getfield 24, 3) := by decide +kernel
theorem dX8_program_201 : decode cX8_program 201 = .ok (.sipush 240, 3) := by decide +kernel
theorem dX8_program_204 : decode cX8_program 204 = .ok (.iload_n 2, 1) := by decide +kernel
theorem dX8_program_205 : decode cX8_program 205 = .ok (.iadd, 1) := by decide +kernel
theorem dX8_program_206 : decode cX8_program 206 = .ok (.iaload, 1) := by decide +kernel
theorem dX8_program_207 : decode cX8_program 207 = .ok (.iastore, 1) := by decide +kernel
theorem dX8_program_208 : decode cX8_program 208 = .ok (.aload_n 0, 1) := by decide +kernel
theorem dX8_program_209 : decode cX8_program 209 = .ok (.getfield 27, 3) := by decide +kernel
theorem dX8_program_212 : decode cX8_program 212 = .ok (.bipush 80, 2) := by decide +kernel
theorem dX8_program_214 : decode cX8_program 214 = .ok (.iload_n 1, 1) := by decide +kernel
theorem dX8_program_215 : decode cX8_program 215 = .ok (.imul, 1) := by decide +kernel
theorem dX8_program_216 : decode cX8_program 216 = .ok (.iload_n 2, 1) := by decide +kernel
theorem dX8_program_217 : decode cX8_program 217 = .ok (.iadd, 1) := by decide +kernel
theorem dX8_program_218 : decode cX8_program 218 = .ok (.aload_n 0, 1) := by decide +kernel
theorem dX8_program_219 : decode cX8_program 219 = .ok (.getfield 27, 3) := by decide +kernel
theorem dX8_program_222 : decode cX8_program 222 = .ok (.sipush 240, 3) := by decide +kernel
theorem dX8_program_225 : decode cX8_program 225 = .ok (.iload_n 2, 1) := by decide +kernel
theorem dX8_program_226 : decode cX8_program 226 = .ok (.iadd, 1) := by decide +kernel
theorem dX8_program_227 : decode cX8_program 227 = .ok (.iaload, 1) := by decide +kernel
theorem dX8_program_228 : decode cX8_program 228 = .ok (.iastore, 1) := by decide +kernel
theorem dX8_program_229 : decode cX8_program 229 = .ok (.aload_n 0, 1) := by decide +kernel
theorem dX8_program_230 : decode cX8_program 230 = .ok (.getfield 30, 3) := by decide +kernel
theorem dX8_program_233 : decode cX8_program 233 = .ok (.bipush 80, 2) := by decide +kernel
theorem dX8_program_235 : decode cX8_program 235 = .ok (.iload_n 1, 1) := by decide +kernel
theorem dX8_program_236 : decode cX8_program 236 = .ok (.imul, 1) := by decide +kernel
theorem dX8_program_237 : decode cX8_program 237 = .ok (.iload_n 2, 1) := by decide +kernel
theorem dX8_program_238 : decode cX8_program 238 = .ok (.iadd, 1) := by decide +kernel
theorem dX8_program_239 : decode cX8_program 239 = .ok (.aload_n 0, 1) := by decide +kernel
theorem dX8_program_240 : decode cX8_program 240 = .ok (.getfield 30, 3) := by decide +kernel
theorem dX8_program_243 : decode cX8_program 243 = .ok (.sipush 240, 3) := by decide +kernel
theorem dX8_program_246 : decode cX8_program 246 = .ok (.iload_n 2, 1) := by decide +kernel
theorem dX8_program_247 : decode cX8_program 247 = .ok (.iadd, 1) := by decide +kernel
theorem dX8_program_248 : decode cX8_program 248 = .ok (.iaload, 1) := by decide +kernel
theorem dX8_program_249 : decode cX8_program 249 = .ok (.iastore, 1) := by decide +kernel
theorem dX8_program_250 : decode cX8_program 250 = .ok (.iinc 2 1, 3) := by decide +kernel
theorem dX8_program_253 : decode cX8_program 253 = .ok (.goto (-97), 3) := by decide +kernel
theorem dX8_program_256 : decode cX8_program 256 = .ok (.aload_n 0, 1) := by decide +kernel
theorem dX8_program_257 : decode cX8_program 257 = .ok (.getfield 33, 3) := by decide +kernel
theorem dX8_program_260 : decode cX8_program 260 = .ok (.iload_n 1, 1) := by decide +kernel
theorem dX8_program_261 : decode cX8_program 261 = .ok (.iaload, 1) := by decide +kernel
theorem dX8_program_262 : decode cX8_program 262 = .ok (.ireturn, 1) := by decide +kernel
theorem dX8_labelOf_0 : decode cX8_labelOf 0 = .ok (.iconst 0, 1) := by decide +kernel
theorem dX8_labelOf_1 : decode cX8_labelOf 1 = .ok (.istore_n 3, 1) := by decide +kernel
theorem dX8_labelOf_2 : decode cX8_labelOf 2 = .ok (.iload_n 3, 1) := by decide +kernel
theorem dX8_labelOf_3 : decode cX8_labelOf 3 = .ok (.aload_n 0, 1) := by decide +kernel
theorem dX8_labelOf_4 : decode cX8_labelOf 4 = .ok (.getfield 187, 3) := by decide +kernel
theorem dX8_labelOf_7 : decode cX8_labelOf 7 = .ok (.if_icmp .ge 22, 3) := by decide +kernel
theorem dX8_labelOf_10 : decode cX8_labelOf 10 = .ok (.aload_n 0, 1) := by decide +kernel
theorem dX8_labelOf_11 : decode cX8_labelOf 11 = .ok (.getfield 42, 3) := by decide +kernel
theorem dX8_labelOf_14 : decode cX8_labelOf 14 = .ok (.iload_n 3, 1) := by decide +kernel
theorem dX8_labelOf_15 : decode cX8_labelOf 15 = .ok (.laload, 1) := by decide +kernel
theorem dX8_labelOf_16 : decode cX8_labelOf 16 = .ok (.lload_n 1, 1) := by decide +kernel
theorem dX8_labelOf_17 : decode cX8_labelOf 17 = .ok (.lcmp, 1) := by decide +kernel
theorem dX8_labelOf_18 : decode cX8_labelOf 18 = .ok (.ifCond .ne 5, 3) := by decide +kernel
theorem dX8_labelOf_21 : decode cX8_labelOf 21 = .ok (.iload_n 3, 1) := by decide +kernel
theorem dX8_labelOf_22 : decode cX8_labelOf 22 = .ok (.ireturn, 1) := by decide +kernel
theorem dX8_labelOf_23 : decode cX8_labelOf 23 = .ok (.iinc 3 1, 3) := by decide +kernel
theorem dX8_labelOf_26 : decode cX8_labelOf 26 = .ok (.goto (-24), 3) := by decide +kernel
theorem dX8_labelOf_29 : decode cX8_labelOf 29 = .ok (.iconst (-1), 1) := by decide +kernel
theorem dX8_labelOf_30 : decode cX8_labelOf 30 = .ok (.ireturn, 1) := by decide +kernel
theorem dX8_goTo_0 : decode cX8_goTo 0 = .ok (.sipush 240, 3) := by decide +kernel
theorem dX8_goTo_3 : decode cX8_goTo 3 = .ok (.iload_n 1, 1) := by decide +kernel
theorem dX8_goTo_4 : decode cX8_goTo 4 = .ok (.iadd, 1) := by decide +kernel
theorem dX8_goTo_5 : decode cX8_goTo 5 = .ok (.istore_n 2, 1) := by decide +kernel
theorem dX8_goTo_6 : decode cX8_goTo 6 = .ok (.aload_n 0, 1) := by decide +kernel
theorem dX8_goTo_7 : decode cX8_goTo 7 = .ok (.getfield 20, 3) := by decide +kernel
theorem dX8_goTo_10 : decode cX8_goTo 10 = .ok (.iload_n 2, 1) := by decide +kernel
theorem dX8_goTo_11 : decode cX8_goTo 11 = .ok (.iaload, 1) := by decide +kernel
theorem dX8_goTo_12 : decode cX8_goTo 12 = .ok (.bipush 8, 2) := by decide +kernel
theorem dX8_goTo_14 : decode cX8_goTo 14 = .ok (.if_icmp .lt 14, 3) := by decide +kernel
theorem dX8_goTo_17 : decode cX8_goTo 17 = .ok (.aload_n 0, 1) := by decide +kernel
theorem dX8_goTo_18 : decode cX8_goTo 18 = .ok (.getfield 20, 3) := by decide +kernel
theorem dX8_goTo_21 : decode cX8_goTo 21 = .ok (.iload_n 2, 1) := by decide +kernel
theorem dX8_goTo_22 : decode cX8_goTo 22 = .ok (.iaload, 1) := by decide +kernel
theorem dX8_goTo_23 : decode cX8_goTo 23 = .ok (.bipush 10, 2) := by decide +kernel
theorem dX8_goTo_25 : decode cX8_goTo 25 = .ok (.if_icmp .le 4, 3) := by decide +kernel
theorem dX8_goTo_28 : decode cX8_goTo 28 = .ok (.return_, 1) := by decide +kernel
theorem dX8_goTo_29 : decode cX8_goTo 29 = .ok (.aload_n 0, 1) := by decide +kernel
theorem dX8_goTo_30 : decode cX8_goTo 30 = .ok (.aload_n 0, 1) := by decide +kernel
theorem dX8_goTo_31 : decode cX8_goTo 31 = .ok (.getfield 46, 3) := by decide +kernel
theorem dX8_goTo_34 : decode cX8_goTo 34 = .ok (.iload_n 1, 1) := by decide +kernel
theorem dX8_goTo_35 : decode cX8_goTo 35 = .ok (.laload, 1) := by decide +kernel
theorem dX8_goTo_36 : decode cX8_goTo 36 = .ok (.invokevirtual 204, 3) := by decide +kernel
theorem dX8_goTo_39 : decode cX8_goTo 39 = .ok (.istore_n 3, 1) := by decide +kernel
theorem dX8_goTo_40 : decode cX8_goTo 40 = .ok (.iload_n 3, 1) := by decide +kernel
theorem dX8_goTo_41 : decode cX8_goTo 41 = .ok (.ifCond .ge 17, 3) := by decide +kernel
theorem dX8_goTo_44 : decode cX8_goTo 44 = .ok (.aload_n 0, 1) := by decide +kernel
theorem dX8_goTo_45 : decode cX8_goTo 45 = .ok (.iconst 4, 1) := by decide +kernel
theorem dX8_goTo_46 : decode cX8_goTo 46 = .ok (.aload_n 0, 1) := by decide +kernel
theorem dX8_goTo_47 : decode cX8_goTo 47 = .ok (.getfield 39, 3) := by decide +kernel
theorem dX8_goTo_50 : decode cX8_goTo 50 = .ok (.iload_n 1, 1) := by decide +kernel
theorem dX8_goTo_51 : decode cX8_goTo 51 = .ok (.iaload, 1) := by decide +kernel
theorem dX8_goTo_52 : decode cX8_goTo 52 = .ok (.invokevirtual 149, 3) := by decide +kernel
theorem dX8_goTo_55 : decode cX8_goTo 55 = .ok (.goto 15, 3) := by decide +kernel
theorem dX8_goTo_58 : decode cX8_goTo 58 = .ok (.aload_n 0, 1) := by decide +kernel
theorem dX8_goTo_59 : decode cX8_goTo 59 = .ok (.getfield 30, 3) := by decide +kernel
theorem dX8_goTo_62 : decode cX8_goTo 62 = .ok (.iload_n 2, 1) := by decide +kernel
theorem dX8_goTo_63 : decode cX8_goTo 63 = .ok (.aload_n 0, 1) := by decide +kernel
theorem dX8_goTo_64 : decode cX8_goTo 64 = .ok (.getfield 36, 3) := by decide +kernel
theorem dX8_goTo_67 : decode cX8_goTo 67 = .ok (.iload_n 3, 1) := by decide +kernel
theorem dX8_goTo_68 : decode cX8_goTo 68 = .ok (.iaload, 1) := by decide +kernel
theorem dX8_goTo_69 : decode cX8_goTo 69 = .ok (.iastore, 1) := by decide +kernel
theorem dX8_goTo_70 : decode cX8_goTo 70 = .ok (.return_, 1) := by decide +kernel
theorem dX8_readLine_0 : decode cX8_readLine 0 = .ok (.aload_n 0, 1) := by decide +kernel
theorem dX8_readLine_1 : decode cX8_readLine 1 = .ok (.invokevirtual 193, 3) := by decide +kernel
theorem dX8_readLine_4 : decode cX8_readLine 4 = .ok (.ifCond .eq 25, 3) := by decide +kernel
theorem dX8_readLine_7 : decode cX8_readLine 7 = .ok (.aload_n 0, 1) := by decide +kernel
theorem dX8_readLine_8 : decode cX8_readLine 8 = .ok (.getfield 128, 3) := by decide +kernel
theorem dX8_readLine_11 : decode cX8_readLine 11 = .ok (.iconst 2, 1) := by decide +kernel
theorem dX8_readLine_12 : decode cX8_readLine 12 = .ok (.if_icmp .ne 17, 3) := by decide +kernel
theorem dX8_readLine_15 : decode cX8_readLine 15 = .ok (.aload_n 0, 1) := by decide +kernel
theorem dX8_readLine_16 : decode cX8_readLine 16 = .ok (.invokevirtual 208, 3) := by decide +kernel
theorem dX8_readLine_19 : decode cX8_readLine 19 = .ok (.ifCond .ge 10, 3) := by decide +kernel
theorem dX8_readLine_22 : decode cX8_readLine 22 = .ok (.aload_n 0, 1) := by decide +kernel
theorem dX8_readLine_23 : decode cX8_readLine 23 = .ok (.invokevirtual 212, 3) := by decide +kernel
theorem dX8_readLine_26 : decode cX8_readLine 26 = .ok (.goto (-26), 3) := by decide +kernel
theorem dX8_readLine_29 : decode cX8_readLine 29 = .ok (.aload_n 0, 1) := by decide +kernel
theorem dX8_readLine_30 : decode cX8_readLine 30 = .ok (.invokevirtual 193, 3) := by decide +kernel
theorem dX8_readLine_33 : decode cX8_readLine 33 = .ok (.ifCond .eq 14, 3) := by decide +kernel
theorem dX8_readLine_36 : decode cX8_readLine 36 = .ok (.aload_n 0, 1) := by decide +kernel
theorem dX8_readLine_37 : decode cX8_readLine 37 = .ok (.invokevirtual 208, 3) := by decide +kernel
theorem dX8_readLine_40 : decode cX8_readLine 40 = .ok (.ifCond .lt 7, 3) := by decide +kernel
theorem dX8_readLine_43 : decode cX8_readLine 43 = .ok (.aload_n 0, 1) := by decide +kernel
theorem dX8_readLine_44 : decode cX8_readLine 44 = .ok (.invokevirtual 215, 3) := by decide +kernel
theorem dX8_readLine_47 : decode cX8_readLine 47 = .ok (.aload_n 0, 1) := by decide +kernel
theorem dX8_readLine_48 : decode cX8_readLine 48 = .ok (.invokevirtual 193, 3) := by decide +kernel
theorem dX8_readLine_51 : decode cX8_readLine 51 = .ok (.ifCond .eq 23, 3) := by decide +kernel
theorem dX8_readLine_54 : decode cX8_readLine 54 = .ok (.aload_n 0, 1) := by decide +kernel
theorem dX8_readLine_55 : decode cX8_readLine 55 = .ok (.getfield 128, 3) := by decide +kernel
theorem dX8_readLine_58 : decode cX8_readLine 58 = .ok (.bipush 6, 2) := by decide +kernel
theorem dX8_readLine_60 : decode cX8_readLine 60 = .ok (.if_icmp .eq 14, 3) := by decide +kernel
theorem dX8_readLine_63 : decode cX8_readLine 63 = .ok (.aload_n 0, 1) := by decide +kernel
theorem dX8_readLine_64 : decode cX8_readLine 64 = .ok (.getfield 128, 3) := by decide +kernel
theorem dX8_readLine_67 : decode cX8_readLine 67 = .ok (.ifCond .eq 7, 3) := by decide +kernel
theorem dX8_readLine_70 : decode cX8_readLine 70 = .ok (.aload_n 0, 1) := by decide +kernel
theorem dX8_readLine_71 : decode cX8_readLine 71 = .ok (.invokevirtual 218, 3) := by decide +kernel
theorem dX8_readLine_74 : decode cX8_readLine 74 = .ok (.aload_n 0, 1) := by decide +kernel
theorem dX8_readLine_75 : decode cX8_readLine 75 = .ok (.invokevirtual 193, 3) := by decide +kernel
theorem dX8_readLine_78 : decode cX8_readLine 78 = .ok (.ifCond .eq 16, 3) := by decide +kernel
theorem dX8_readLine_81 : decode cX8_readLine 81 = .ok (.aload_n 0, 1) := by decide +kernel
theorem dX8_readLine_82 : decode cX8_readLine 82 = .ok (.getfield 128, 3) := by decide +kernel
theorem dX8_readLine_85 : decode cX8_readLine 85 = .ok (.bipush 6, 2) := by decide +kernel
theorem dX8_readLine_87 : decode cX8_readLine 87 = .ok (.if_icmp .ne 7, 3) := by decide +kernel
theorem dX8_readLine_90 : decode cX8_readLine 90 = .ok (.aload_n 0, 1) := by decide +kernel
theorem dX8_readLine_91 : decode cX8_readLine 91 = .ok (.invokevirtual 190, 3) := by decide +kernel
theorem dX8_readLine_94 : decode cX8_readLine 94 = .ok (.return_, 1) := by decide +kernel
theorem dX8_readLabel_0 : decode cX8_readLabel 0 = .ok (.aload_n 0, 1) := by decide +kernel
theorem dX8_readLabel_1 : decode cX8_readLabel 1 = .ok (.getfield 187, 3) := by decide +kernel
theorem dX8_readLabel_4 : decode cX8_readLabel 4 = .ok (.bipush 20, 2) := by decide +kernel
theorem dX8_readLabel_6 : decode cX8_readLabel 6 = .ok (.if_icmp .ne 7, 3) := by decide +kernel
theorem dX8_readLabel_9 : decode cX8_readLabel 9 = .ok (.aload_n 0, 1) := by decide +kernel
theorem dX8_readLabel_10 : decode cX8_readLabel 10 = .ok (.invokevirtual 218, 3) := by decide +kernel
theorem dX8_readLabel_13 : decode cX8_readLabel 13 = .ok (.aload_n 0, 1) := by decide +kernel
theorem dX8_readLabel_14 : decode cX8_readLabel 14 = .ok (.invokevirtual 193, 3) := by decide +kernel
theorem dX8_readLabel_17 : decode cX8_readLabel 17 = .ok (.ifCond .eq 23, 3) := by decide +kernel
theorem dX8_readLabel_20 : decode cX8_readLabel 20 = .ok (.aload_n 0, 1) := by decide +kernel
theorem dX8_readLabel_21 : decode cX8_readLabel 21 = .ok (.aload_n 0, 1) := by decide +kernel
theorem dX8_readLabel_22 : decode cX8_readLabel 22 = .ok (.getfield 141, 3) := by decide +kernel
theorem dX8_readLabel_25 : decode cX8_readLabel 25 = .ok (.invokevirtual 204, 3) := by decide +kernel
theorem dX8_readLabel_28 : decode cX8_readLabel 28 = .ok (.ifCond .lt 12, 3) := by decide +kernel
theorem dX8_readLabel_31 : decode cX8_readLabel 31 = .ok (.aload_n 0, 1) := by decide +kernel
theorem dX8_readLabel_32 : decode cX8_readLabel 32 = .ok (.iconst 3, 1) := by decide +kernel
theorem dX8_readLabel_33 : decode cX8_readLabel 33 = .ok (.aload_n 0, 1) := by decide +kernel
theorem dX8_readLabel_34 : decode cX8_readLabel 34 = .ok (.getfield 121, 3) := by decide +kernel
theorem dX8_readLabel_37 : decode cX8_readLabel 37 = .ok (.invokevirtual 149, 3) := by decide +kernel
theorem dX8_readLabel_40 : decode cX8_readLabel 40 = .ok (.aload_n 0, 1) := by decide +kernel
theorem dX8_readLabel_41 : decode cX8_readLabel 41 = .ok (.invokevirtual 193, 3) := by decide +kernel
theorem dX8_readLabel_44 : decode cX8_readLabel 44 = .ok (.ifCond .ne 4, 3) := by decide +kernel
theorem dX8_readLabel_47 : decode cX8_readLabel 47 = .ok (.return_, 1) := by decide +kernel
theorem dX8_readLabel_48 : decode cX8_readLabel 48 = .ok (.aload_n 0, 1) := by decide +kernel
theorem dX8_readLabel_49 : decode cX8_readLabel 49 = .ok (.getfield 42, 3) := by decide +kernel
theorem dX8_readLabel_52 : decode cX8_readLabel 52 = .ok (.aload_n 0, 1) := by decide +kernel
theorem dX8_readLabel_53 : decode cX8_readLabel 53 = .ok (.getfield 187, 3) := by decide +kernel
theorem dX8_readLabel_56 : decode cX8_readLabel 56 = .ok (.aload_n 0, 1) := by decide +kernel
theorem dX8_readLabel_57 : decode cX8_readLabel 57 = .ok (.getfield 141, 3) := by decide +kernel
theorem dX8_readLabel_60 : decode cX8_readLabel 60 = .ok (.lastore, 1) := by decide +kernel
theorem dX8_readLabel_61 : decode cX8_readLabel 61 = .ok (.aload_n 0, 1) := by decide +kernel
theorem dX8_readLabel_62 : decode cX8_readLabel 62 = .ok (.getfield 36, 3) := by decide +kernel
theorem dX8_readLabel_65 : decode cX8_readLabel 65 = .ok (.aload_n 0, 1) := by decide +kernel
theorem dX8_readLabel_66 : decode cX8_readLabel 66 = .ok (.getfield 187, 3) := by decide +kernel
theorem dX8_readLabel_69 : decode cX8_readLabel 69 = .ok (.aload_n 0, 1) := by decide +kernel
theorem dX8_readLabel_70 : decode cX8_readLabel 70 = .ok (.getfield 33, 3) := by decide +kernel
theorem dX8_readLabel_73 : decode cX8_readLabel 73 = .ok (.iconst 3, 1) := by decide +kernel
theorem dX8_readLabel_74 : decode cX8_readLabel 74 = .ok (.iaload, 1) := by decide +kernel
theorem dX8_readLabel_75 : decode cX8_readLabel 75 = .ok (.iastore, 1) := by decide +kernel
theorem dX8_readLabel_76 : decode cX8_readLabel 76 = .ok (.aload_n 0, 1) := by decide +kernel
theorem dX8_readLabel_77 : decode cX8_readLabel 77 = .ok (.dup, 1) := by decide +kernel
theorem dX8_readLabel_78 : decode cX8_readLabel 78 = .ok (.getfield 187, 3) := by decide +kernel
theorem dX8_readLabel_81 : decode cX8_readLabel 81 = .ok (.iconst 1, 1) := by decide +kernel
theorem dX8_readLabel_82 : decode cX8_readLabel 82 = .ok (.iadd, 1) := by decide +kernel
theorem dX8_readLabel_83 : decode cX8_readLabel 83 = .ok (.putfield 187, 3) := by decide +kernel
theorem dX8_readLabel_86 : decode cX8_readLabel 86 = .ok (.aload_n 0, 1) := by decide +kernel
theorem dX8_readLabel_87 : decode cX8_readLabel 87 = .ok (.invokevirtual 190, 3) := by decide +kernel
theorem dX8_readLabel_90 : decode cX8_readLabel 90 = .ok (.aload_n 0, 1) := by decide +kernel
theorem dX8_readLabel_91 : decode cX8_readLabel 91 = .ok (.getfield 128, 3) := by decide +kernel
theorem dX8_readLabel_94 : decode cX8_readLabel 94 = .ok (.iconst 5, 1) := by decide +kernel
theorem dX8_readLabel_95 : decode cX8_readLabel 95 = .ok (.if_icmp .eq 7, 3) := by decide +kernel
theorem dX8_readLabel_98 : decode cX8_readLabel 98 = .ok (.aload_n 0, 1) := by decide +kernel
theorem dX8_readLabel_99 : decode cX8_readLabel 99 = .ok (.invokevirtual 218, 3) := by decide +kernel
theorem dX8_readLabel_102 : decode cX8_readLabel 102 = .ok (.aload_n 0, 1) := by decide +kernel
theorem dX8_readLabel_103 : decode cX8_readLabel 103 = .ok (.invokevirtual 193, 3) := by decide +kernel
theorem dX8_readLabel_106 : decode cX8_readLabel 106 = .ok (.ifCond .eq 7, 3) := by decide +kernel
theorem dX8_readLabel_109 : decode cX8_readLabel 109 = .ok (.aload_n 0, 1) := by decide +kernel
theorem dX8_readLabel_110 : decode cX8_readLabel 110 = .ok (.invokevirtual 190, 3) := by decide +kernel
theorem dX8_readLabel_113 : decode cX8_readLabel 113 = .ok (.return_, 1) := by decide +kernel
theorem dX8_readAct_0 : decode cX8_readAct 0 = .ok (.aload_n 0, 1) := by decide +kernel
theorem dX8_readAct_1 : decode cX8_readAct 1 = .ok (.getfield 33, 3) := by decide +kernel
theorem dX8_readAct_4 : decode cX8_readAct 4 = .ok (.iconst 3, 1) := by decide +kernel
theorem dX8_readAct_5 : decode cX8_readAct 5 = .ok (.iaload, 1) := by decide +kernel
theorem dX8_readAct_6 : decode cX8_readAct 6 = .ok (.bipush 80, 2) := by decide +kernel
theorem dX8_readAct_8 : decode cX8_readAct 8 = .ok (.if_icmp .ne 7, 3) := by decide +kernel
theorem dX8_readAct_11 : decode cX8_readAct 11 = .ok (.aload_n 0, 1) := by decide +kernel
theorem dX8_readAct_12 : decode cX8_readAct 12 = .ok (.invokevirtual 218, 3) := by decide +kernel
theorem dX8_readAct_15 : decode cX8_readAct 15 = .ok (.aload_n 0, 1) := by decide +kernel
theorem dX8_readAct_16 : decode cX8_readAct 16 = .ok (.invokevirtual 193, 3) := by decide +kernel
theorem dX8_readAct_19 : decode cX8_readAct 19 = .ok (.ifCond .ne 4, 3) := by decide +kernel
theorem dX8_readAct_22 : decode cX8_readAct 22 = .ok (.return_, 1) := by decide +kernel
theorem dX8_readAct_23 : decode cX8_readAct 23 = .ok (.aload_n 0, 1) := by decide +kernel
theorem dX8_readAct_24 : decode cX8_readAct 24 = .ok (.getfield 33, 3) := by decide +kernel
theorem dX8_readAct_27 : decode cX8_readAct 27 = .ok (.iconst 3, 1) := by decide +kernel
theorem dX8_readAct_28 : decode cX8_readAct 28 = .ok (.iaload, 1) := by decide +kernel
theorem dX8_readAct_29 : decode cX8_readAct 29 = .ok (.istore_n 1, 1) := by decide +kernel
theorem dX8_readAct_30 : decode cX8_readAct 30 = .ok (.sipush 240, 3) := by decide +kernel
theorem dX8_readAct_33 : decode cX8_readAct 33 = .ok (.iload_n 1, 1) := by decide +kernel
theorem dX8_readAct_34 : decode cX8_readAct 34 = .ok (.iadd, 1) := by decide +kernel
theorem dX8_readAct_35 : decode cX8_readAct 35 = .ok (.istore_n 2, 1) := by decide +kernel
theorem dX8_readAct_36 : decode cX8_readAct 36 = .ok (.aload_n 0, 1) := by decide +kernel
theorem dX8_readAct_37 : decode cX8_readAct 37 = .ok (.invokevirtual 208, 3) := by decide +kernel
theorem dX8_readAct_40 : decode cX8_readAct 40 = .ok (.istore_n 3, 1) := by decide +kernel
theorem dX8_readAct_41 : decode cX8_readAct 41 = .ok (.aload_n 0, 1) := by decide +kernel
theorem dX8_readAct_42 : decode cX8_readAct 42 = .ok (.getfield 20, 3) := by decide +kernel
theorem dX8_readAct_45 : decode cX8_readAct 45 = .ok (.iload_n 2, 1) := by decide +kernel
theorem dX8_readAct_46 : decode cX8_readAct 46 = .ok (.iload_n 3, 1) := by decide +kernel
theorem dX8_readAct_47 : decode cX8_readAct 47 = .ok (.iastore, 1) := by decide +kernel
theorem dX8_readAct_48 : decode cX8_readAct 48 = .ok (.aload_n 0, 1) := by decide +kernel
theorem dX8_readAct_49 : decode cX8_readAct 49 = .ok (.getfield 24, 3) := by decide +kernel
theorem dX8_readAct_52 : decode cX8_readAct 52 = .ok (.iload_n 2, 1) := by decide +kernel
theorem dX8_readAct_53 : decode cX8_readAct 53 = .ok (.iconst (-1), 1) := by decide +kernel
theorem dX8_readAct_54 : decode cX8_readAct 54 = .ok (.iastore, 1) := by decide +kernel
theorem dX8_readAct_55 : decode cX8_readAct 55 = .ok (.aload_n 0, 1) := by decide +kernel
theorem dX8_readAct_56 : decode cX8_readAct 56 = .ok (.getfield 27, 3) := by decide +kernel
theorem dX8_readAct_59 : decode cX8_readAct 59 = .ok (.iload_n 2, 1) := by decide +kernel
theorem dX8_readAct_60 : decode cX8_readAct 60 = .ok (.iconst (-1), 1) := by decide +kernel
theorem dX8_readAct_61 : decode cX8_readAct 61 = .ok (.iastore, 1) := by decide +kernel
theorem dX8_readAct_62 : decode cX8_readAct 62 = .ok (.aload_n 0, 1) := by decide +kernel
theorem dX8_readAct_63 : decode cX8_readAct 63 = .ok (.getfield 30, 3) := by decide +kernel
theorem dX8_readAct_66 : decode cX8_readAct 66 = .ok (.iload_n 2, 1) := by decide +kernel
theorem dX8_readAct_67 : decode cX8_readAct 67 = .ok (.iconst 0, 1) := by decide +kernel
theorem dX8_readAct_68 : decode cX8_readAct 68 = .ok (.iastore, 1) := by decide +kernel
theorem dX8_readAct_69 : decode cX8_readAct 69 = .ok (.aload_n 0, 1) := by decide +kernel
theorem dX8_readAct_70 : decode cX8_readAct 70 = .ok (.getfield 33, 3) := by decide +kernel
theorem dX8_readAct_73 : decode cX8_readAct 73 = .ok (.iconst 3, 1) := by decide +kernel
theorem dX8_readAct_74 : decode cX8_readAct 74 = .ok (.dup2, 1) := by decide +kernel
theorem dX8_readAct_75 : decode cX8_readAct 75 = .ok (.iaload, 1) := by decide +kernel
theorem dX8_readAct_76 : decode cX8_readAct 76 = .ok (.iconst 1, 1) := by decide +kernel
theorem dX8_readAct_77 : decode cX8_readAct 77 = .ok (.iadd, 1) := by decide +kernel
theorem dX8_readAct_78 : decode cX8_readAct 78 = .ok (.iastore, 1) := by decide +kernel
theorem dX8_readAct_79 : decode cX8_readAct 79 = .ok (.aload_n 0, 1) := by decide +kernel
theorem dX8_readAct_80 : decode cX8_readAct 80 = .ok (.invokevirtual 190, 3) := by decide +kernel
theorem dX8_readAct_83 : decode cX8_readAct 83 = .ok (.iload_n 3, 1) := by decide +kernel
theorem dX8_readAct_84 : decode cX8_readAct 84 = .ok (.bipush 10, 2) := by decide +kernel
theorem dX8_readAct_86 : decode cX8_readAct 86 = .ok (.if_icmp .lt 15, 3) := by decide +kernel
theorem dX8_readAct_89 : decode cX8_readAct 89 = .ok (.iload_n 3, 1) := by decide +kernel
theorem dX8_readAct_90 : decode cX8_readAct 90 = .ok (.bipush 11, 2) := by decide +kernel
theorem dX8_readAct_92 : decode cX8_readAct 92 = .ok (.if_icmp .eq 9, 3) := by decide +kernel
theorem dX8_readAct_95 : decode cX8_readAct 95 = .ok (.iload_n 3, 1) := by decide +kernel
theorem dX8_readAct_96 : decode cX8_readAct 96 = .ok (.bipush 12, 2) := by decide +kernel
theorem dX8_readAct_98 : decode cX8_readAct 98 = .ok (.if_icmp .ne 13, 3) := by decide +kernel
theorem dX8_readAct_101 : decode cX8_readAct 101 = .ok (.aload_n 0, 1) := by decide +kernel
theorem dX8_readAct_102 : decode cX8_readAct 102 = .ok (.getfield 24, 3) := by decide +kernel
theorem dX8_readAct_105 : decode cX8_readAct 105 = .ok (.iload_n 2, 1) := by decide +kernel
theorem dX8_readAct_106 : decode cX8_readAct 106 = .ok (.aload_n 0, 1) := by decide +kernel
theorem dX8_readAct_107 : decode cX8_readAct 107 = .ok (.invokevirtual 221, 3) := by decide +kernel
theorem dX8_readAct_110 : decode cX8_readAct 110 = .ok (.iastore, 1) := by decide +kernel
theorem dX8_readAct_111 : decode cX8_readAct 111 = .ok (.iload_n 3, 1) := by decide +kernel
theorem dX8_readAct_112 : decode cX8_readAct 112 = .ok (.iconst 2, 1) := by decide +kernel
theorem dX8_readAct_113 : decode cX8_readAct 113 = .ok (.if_icmp .lt 19, 3) := by decide +kernel
theorem dX8_readAct_116 : decode cX8_readAct 116 = .ok (.iload_n 3, 1) := by decide +kernel
theorem dX8_readAct_117 : decode cX8_readAct 117 = .ok (.bipush 10, 2) := by decide +kernel
theorem dX8_readAct_119 : decode cX8_readAct 119 = .ok (.if_icmp .ge 13, 3) := by decide +kernel
theorem dX8_readAct_122 : decode cX8_readAct 122 = .ok (.aload_n 0, 1) := by decide +kernel
theorem dX8_readAct_123 : decode cX8_readAct 123 = .ok (.getfield 27, 3) := by decide +kernel
theorem dX8_readAct_126 : decode cX8_readAct 126 = .ok (.iload_n 2, 1) := by decide +kernel
theorem dX8_readAct_127 : decode cX8_readAct 127 = .ok (.aload_n 0, 1) := by decide +kernel
theorem dX8_readAct_128 : decode cX8_readAct 128 = .ok (.invokevirtual 221, 3) := by decide +kernel
theorem dX8_readAct_131 : decode cX8_readAct 131 = .ok (.iastore, 1) := by decide +kernel
theorem dX8_readAct_132 : decode cX8_readAct 132 = .ok (.iload_n 3, 1) := by decide +kernel
theorem dX8_readAct_133 : decode cX8_readAct 133 = .ok (.iconst 1, 1) := by decide +kernel
theorem dX8_readAct_134 : decode cX8_readAct 134 = .ok (.if_icmp .ne 43, 3) := by decide +kernel
theorem dX8_readAct_137 : decode cX8_readAct 137 = .ok (.aload_n 0, 1) := by decide +kernel
theorem dX8_readAct_138 : decode cX8_readAct 138 = .ok (.invokevirtual 193, 3) := by decide +kernel
theorem dX8_readAct_141 : decode cX8_readAct 141 = .ok (.ifCond .eq 15, 3) := by decide +kernel
theorem dX8_readAct_144 : decode cX8_readAct 144 = .ok (.aload_n 0, 1) := by decide +kernel
theorem dX8_readAct_145 : decode cX8_readAct 145 = .ok (.getfield 128, 3) := by decide +kernel
theorem dX8_readAct_148 : decode cX8_readAct 148 = .ok (.iconst 4, 1) := by decide +kernel
theorem dX8_readAct_149 : decode cX8_readAct 149 = .ok (.if_icmp .eq 7, 3) := by decide +kernel
theorem dX8_readAct_152 : decode cX8_readAct 152 = .ok (.aload_n 0, 1) := by decide +kernel
theorem dX8_readAct_153 : decode cX8_readAct 153 = .ok (.invokevirtual 218, 3) := by decide +kernel
theorem dX8_readAct_156 : decode cX8_readAct 156 = .ok (.aload_n 0, 1) := by decide +kernel
theorem dX8_readAct_157 : decode cX8_readAct 157 = .ok (.getfield 30, 3) := by decide +kernel
theorem dX8_readAct_160 : decode cX8_readAct 160 = .ok (.iload_n 2, 1) := by decide +kernel
theorem dX8_readAct_161 : decode cX8_readAct 161 = .ok (.aload_n 0, 1) := by decide +kernel
theorem dX8_readAct_162 : decode cX8_readAct 162 = .ok (.getfield 138, 3) := by decide +kernel
theorem dX8_readAct_165 : decode cX8_readAct 165 = .ok (.iastore, 1) := by decide +kernel
theorem dX8_readAct_166 : decode cX8_readAct 166 = .ok (.aload_n 0, 1) := by decide +kernel
theorem dX8_readAct_167 : decode cX8_readAct 167 = .ok (.invokevirtual 193, 3) := by decide +kernel
theorem dX8_readAct_170 : decode cX8_readAct 170 = .ok (.ifCond .eq 7, 3) := by decide +kernel
theorem dX8_readAct_173 : decode cX8_readAct 173 = .ok (.aload_n 0, 1) := by decide +kernel
theorem dX8_readAct_174 : decode cX8_readAct 174 = .ok (.invokevirtual 190, 3) := by decide +kernel
theorem dX8_readAct_177 : decode cX8_readAct 177 = .ok (.iload_n 3, 1) := by decide +kernel
theorem dX8_readAct_178 : decode cX8_readAct 178 = .ok (.bipush 8, 2) := by decide +kernel
theorem dX8_readAct_180 : decode cX8_readAct 180 = .ok (.if_icmp .lt 16, 3) := by decide +kernel
theorem dX8_readAct_183 : decode cX8_readAct 183 = .ok (.iload_n 3, 1) := by decide +kernel
theorem dX8_readAct_184 : decode cX8_readAct 184 = .ok (.bipush 10, 2) := by decide +kernel
theorem dX8_readAct_186 : decode cX8_readAct 186 = .ok (.if_icmp .gt 10, 3) := by decide +kernel
theorem dX8_readAct_189 : decode cX8_readAct 189 = .ok (.aload_n 0, 1) := by decide +kernel
theorem dX8_readAct_190 : decode cX8_readAct 190 = .ok (.invokevirtual 193, 3) := by decide +kernel
theorem dX8_readAct_193 : decode cX8_readAct 193 = .ok (.ifCond .ne 4, 3) := by decide +kernel
theorem dX8_readAct_196 : decode cX8_readAct 196 = .ok (.return_, 1) := by decide +kernel
theorem dX8_readAct_197 : decode cX8_readAct 197 = .ok (.aload_n 0, 1) := by decide +kernel
theorem dX8_readAct_198 : decode cX8_readAct 198 = .ok (.getfield 128, 3) := by decide +kernel
theorem dX8_readAct_201 : decode cX8_readAct 201 = .ok (.iconst 2, 1) := by decide +kernel
theorem dX8_readAct_202 : decode cX8_readAct 202 = .ok (.if_icmp .ne 10, 3) := by decide +kernel
theorem dX8_readAct_205 : decode cX8_readAct 205 = .ok (.aload_n 0, 1) := by decide +kernel
theorem dX8_readAct_206 : decode cX8_readAct 206 = .ok (.invokevirtual 208, 3) := by decide +kernel
theorem dX8_readAct_209 : decode cX8_readAct 209 = .ok (.ifCond .lt 7, 3) := by decide +kernel
theorem dX8_readAct_212 : decode cX8_readAct 212 = .ok (.aload_n 0, 1) := by decide +kernel
theorem dX8_readAct_213 : decode cX8_readAct 213 = .ok (.invokevirtual 218, 3) := by decide +kernel
theorem dX8_readAct_216 : decode cX8_readAct 216 = .ok (.aload_n 0, 1) := by decide +kernel
theorem dX8_readAct_217 : decode cX8_readAct 217 = .ok (.getfield 46, 3) := by decide +kernel
theorem dX8_readAct_220 : decode cX8_readAct 220 = .ok (.iload_n 1, 1) := by decide +kernel
theorem dX8_readAct_221 : decode cX8_readAct 221 = .ok (.aload_n 0, 1) := by decide +kernel
theorem dX8_readAct_222 : decode cX8_readAct 222 = .ok (.getfield 141, 3) := by decide +kernel
theorem dX8_readAct_225 : decode cX8_readAct 225 = .ok (.lastore, 1) := by decide +kernel
theorem dX8_readAct_226 : decode cX8_readAct 226 = .ok (.aload_n 0, 1) := by decide +kernel
theorem dX8_readAct_227 : decode cX8_readAct 227 = .ok (.getfield 39, 3) := by decide +kernel
theorem dX8_readAct_230 : decode cX8_readAct 230 = .ok (.iload_n 1, 1) := by decide +kernel
theorem dX8_readAct_231 : decode cX8_readAct 231 = .ok (.aload_n 0, 1) := by decide +kernel
theorem dX8_readAct_232 : decode cX8_readAct 232 = .ok (.getfield 121, 3) := by decide +kernel
theorem dX8_readAct_235 : decode cX8_readAct 235 = .ok (.iastore, 1) := by decide +kernel
theorem dX8_readAct_236 : decode cX8_readAct 236 = .ok (.aload_n 0, 1) := by decide +kernel
theorem dX8_readAct_237 : decode cX8_readAct 237 = .ok (.invokevirtual 193, 3) := by decide +kernel
theorem dX8_readAct_240 : decode cX8_readAct 240 = .ok (.ifCond .eq 7, 3) := by decide +kernel
theorem dX8_readAct_243 : decode cX8_readAct 243 = .ok (.aload_n 0, 1) := by decide +kernel
theorem dX8_readAct_244 : decode cX8_readAct 244 = .ok (.invokevirtual 190, 3) := by decide +kernel
theorem dX8_readAct_247 : decode cX8_readAct 247 = .ok (.return_, 1) := by decide +kernel
theorem dX8_register_0 : decode cX8_register 0 = .ok (.aload_n 0, 1) := by decide +kernel
theorem dX8_register_1 : decode cX8_register 1 = .ok (.invokevirtual 193, 3) := by decide +kernel
theorem dX8_register_4 : decode cX8_register 4 = .ok (.ifCond .eq 15, 3) := by decide +kernel
theorem dX8_register_7 : decode cX8_register 7 = .ok (.aload_n 0, 1) := by decide +kernel
theorem dX8_register_8 : decode cX8_register 8 = .ok (.getfield 128, 3) := by decide +kernel
theorem dX8_register_11 : decode cX8_register 11 = .ok (.iconst 3, 1) := by decide +kernel
theorem dX8_register_12 : decode cX8_register 12 = .ok (.if_icmp .eq 7, 3) := by decide +kernel
theorem dX8_register_15 : decode cX8_register 15 = .ok (.aload_n 0, 1) := by decide +kernel
theorem dX8_register_16 : decode cX8_register 16 = .ok (.invokevirtual 218, 3) := by decide +kernel
theorem dX8_register_19 : decode cX8_register 19 = .ok (.aload_n 0, 1) := by decide +kernel
theorem dX8_register_20 : decode cX8_register 20 = .ok (.getfield 138, 3) := by decide +kernel
theorem dX8_register_23 : decode cX8_register 23 = .ok (.istore_n 1, 1) := by decide +kernel
theorem dX8_register_24 : decode cX8_register 24 = .ok (.aload_n 0, 1) := by decide +kernel
theorem dX8_register_25 : decode cX8_register 25 = .ok (.invokevirtual 193, 3) := by decide +kernel
theorem dX8_register_28 : decode cX8_register 28 = .ok (.ifCond .eq 7, 3) := by decide +kernel
theorem dX8_register_31 : decode cX8_register 31 = .ok (.aload_n 0, 1) := by decide +kernel
theorem dX8_register_32 : decode cX8_register 32 = .ok (.invokevirtual 190, 3) := by decide +kernel
theorem dX8_register_35 : decode cX8_register 35 = .ok (.iload_n 1, 1) := by decide +kernel
theorem dX8_register_36 : decode cX8_register 36 = .ok (.ireturn, 1) := by decide +kernel
theorem dX8_fault_0 : decode cX8_fault 0 = .ok (.iload_n 1, 1) := by decide +kernel
theorem dX8_fault_1 : decode cX8_fault 1 = .ok (.ifCond .ne 10, 3) := by decide +kernel
theorem dX8_fault_4 : decode cX8_fault 4 = .ok (.aload_n 0, 1) := by decide +kernel
theorem dX8_fault_5 : decode cX8_fault 5 = .ok (.getfield 115, 3) := by decide +kernel
theorem dX8_fault_8 : decode cX8_fault 8 = .ok (.goto 16, 3) := by decide +kernel
theorem dX8_fault_11 : decode cX8_fault 11 = .ok (.iload_n 1, 1) := by decide +kernel
theorem dX8_fault_12 : decode cX8_fault 12 = .ok (.iconst 1, 1) := by decide +kernel
theorem dX8_fault_13 : decode cX8_fault 13 = .ok (.if_icmp .ne 10, 3) := by decide +kernel
theorem dX8_fault_16 : decode cX8_fault 16 = .ok (.aload_n 0, 1) := by decide +kernel
theorem dX8_fault_17 : decode cX8_fault 17 = .ok (.getfield 16, 3) := by decide +kernel
theorem dX8_fault_20 : decode cX8_fault 20 = .ok (.goto 4, 3) := by decide +kernel
