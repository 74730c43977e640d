theorem dL_quotient_215 : decode cL_quotient 215 = .ok (.lstore 13, 2) := by decide +kernel
theorem dL_quotient_217 : decode cL_quotient 217 = .ok (.iinc 15 1, 3) := by decide +kernel
theorem dL_quotient_220 : decode cL_quotient 220 = .ok (.goto (-145), 3) := by decide +kernel
theorem dL_quotient_223 : decode cL_quotient 223 = .ok (.lload 9, 2) := by decide +kernel
theorem dL_quotient_225 : decode cL_quotient 225 = .ok (.lconst 0, 1) := by decide +kernel
theorem dL_quotient_226 : decode cL_quotient 226 = .ok (.lcmp, 1) := by decide +kernel
theorem dL_quotient_227 : decode cL_quotient 227 = .ok (.ifCond .lt 11, 3) := by decide +kernel
theorem dL_quotient_230 : decode cL_quotient 230 = .ok (.lload 13, 2) := by decide +kernel
theorem dL_quotient_232 : decode cL_quotient 232 = .ok (.lload 9, 2) := by decide +kernel
theorem dL_quotient_234 : decode cL_quotient 234 = .ok (.lcmp, 1) := by decide +kernel
theorem dL_quotient_235 : decode cL_quotient 235 = .ok (.ifCond .ge 7, 3) := by decide +kernel
theorem dL_quotient_238 : decode cL_quotient 238 = .ok (.iconst 1, 1) := by decide +kernel
theorem dL_quotient_239 : decode cL_quotient 239 = .ok (.goto 4, 3) := by decide +kernel
theorem dL_quotient_242 : decode cL_quotient 242 = .ok (.iconst 0, 1) := by decide +kernel
theorem dL_quotient_243 : decode cL_quotient 243 = .ok (.istore 15, 2) := by decide +kernel
theorem dL_quotient_245 : decode cL_quotient 245 = .ok (.iload 15, 2) := by decide +kernel
theorem dL_quotient_247 : decode cL_quotient 247 = .ok (.ifCond .ne 69, 3) := by decide +kernel
theorem dL_quotient_250 : decode cL_quotient 250 = .ok (.lload 13, 2) := by decide +kernel
theorem dL_quotient_252 : decode cL_quotient 252 = .ok (.lload 9, 2) := by decide +kernel
theorem dL_quotient_254 : decode cL_quotient 254 = .ok (.lcmp, 1) := by decide +kernel
theorem dL_quotient_255 : decode cL_quotient 255 = .ok (.ifCond .ne 61, 3) := by decide +kernel
theorem dL_quotient_258 : decode cL_quotient 258 = .ok (.iconst 0, 1) := by decide +kernel
theorem dL_quotient_259 : decode cL_quotient 259 = .ok (.istore 16, 2) := by decide +kernel
theorem dL_quotient_261 : decode cL_quotient 261 = .ok (.iload 16, 2) := by decide +kernel
theorem dL_quotient_263 : decode cL_quotient 263 = .ok (.bipush 8, 2) := by decide +kernel
theorem dL_quotient_265 : decode cL_quotient 265 = .ok (.if_icmp .ge 23, 3) := by decide +kernel
theorem dL_quotient_268 : decode cL_quotient 268 = .ok (.aload 12, 2) := by decide +kernel
theorem dL_quotient_270 : decode cL_quotient 270 = .ok (.iload 16, 2) := by decide +kernel
theorem dL_quotient_272 : decode cL_quotient 272 = .ok (.laload, 1) := by decide +kernel
theorem dL_quotient_273 : decode cL_quotient 273 = .ok (.aload 8, 2) := by decide +kernel
theorem dL_quotient_275 : decode cL_quotient 275 = .ok (.iload 16, 2) := by decide +kernel
theorem dL_quotient_277 : decode cL_quotient 277 = .ok (.laload, 1) := by decide +kernel
theorem dL_quotient_278 : decode cL_quotient 278 = .ok (.lcmp, 1) := by decide +kernel
theorem dL_quotient_279 : decode cL_quotient 279 = .ok (.ifCond .ne 9, 3) := by decide +kernel
theorem dL_quotient_282 : decode cL_quotient 282 = .ok (.iinc 16 1, 3) := by decide +kernel
theorem dL_quotient_285 : decode cL_quotient 285 = .ok (.goto (-24), 3) := by decide +kernel
theorem dL_quotient_288 : decode cL_quotient 288 = .ok (.iload 16, 2) := by decide +kernel
theorem dL_quotient_290 : decode cL_quotient 290 = .ok (.bipush 8, 2) := by decide +kernel
theorem dL_quotient_292 : decode cL_quotient 292 = .ok (.if_icmp .ge 21, 3) := by decide +kernel
theorem dL_quotient_295 : decode cL_quotient 295 = .ok (.aload 12, 2) := by decide +kernel
theorem dL_quotient_297 : decode cL_quotient 297 = .ok (.iload 16, 2) := by decide +kernel
theorem dL_quotient_299 : decode cL_quotient 299 = .ok (.laload, 1) := by decide +kernel
theorem dL_quotient_300 : decode cL_quotient 300 = .ok (.aload 8, 2) := by decide +kernel
theorem dL_quotient_302 : decode cL_quotient 302 = .ok (.iload 16, 2) := by decide +kernel
theorem dL_quotient_304 : decode cL_quotient 304 = .ok (.laload, 1) := by decide +kernel
theorem dL_quotient_305 : decode cL_quotient 305 = .ok (.lcmp, 1) := by decide +kernel
theorem dL_quotient_306 : decode cL_quotient 306 = .ok (.ifCond .ge 7, 3) := by decide +kernel
theorem dL_quotient_309 : decode cL_quotient 309 = .ok (.iconst 1, 1) := by decide +kernel
theorem dL_quotient_310 : decode cL_quotient 310 = .ok (.goto 4, 3) := by decide +kernel
theorem dL_quotient_313 : decode cL_quotient 313 = .ok (.iconst 0, 1) := by decide +kernel
theorem dL_quotient_314 : decode cL_quotient 314 = .ok (.istore 15, 2) := by decide +kernel
theorem dL_quotient_316 : decode cL_quotient 316 = .ok (.iload 15, 2) := by decide +kernel
theorem dL_quotient_318 : decode cL_quotient 318 = .ok (.ifCond .eq 8, 3) := by decide +kernel
theorem dL_quotient_321 : decode cL_quotient 321 = .ok (.lload 13, 2) := by decide +kernel
theorem dL_quotient_323 : decode cL_quotient 323 = .ok (.goto 5, 3) := by decide +kernel
theorem dL_quotient_326 : decode cL_quotient 326 = .ok (.lload 9, 2) := by decide +kernel
theorem dL_quotient_328 : decode cL_quotient 328 = .ok (.lstore 9, 2) := by decide +kernel
theorem dL_quotient_330 : decode cL_quotient 330 = .ok (.iload 15, 2) := by decide +kernel
theorem dL_quotient_332 : decode cL_quotient 332 = .ok (.ifCond .eq 8, 3) := by decide +kernel
theorem dL_quotient_335 : decode cL_quotient 335 = .ok (.aload 12, 2) := by decide +kernel
theorem dL_quotient_337 : decode cL_quotient 337 = .ok (.goto 5, 3) := by decide +kernel
theorem dL_quotient_340 : decode cL_quotient 340 = .ok (.aload 8, 2) := by decide +kernel
theorem dL_quotient_342 : decode cL_quotient 342 = .ok (.astore 8, 2) := by decide +kernel
theorem dL_quotient_344 : decode cL_quotient 344 = .ok (.iinc 11 1, 3) := by decide +kernel
theorem dL_quotient_347 : decode cL_quotient 347 = .ok (.goto (-301), 3) := by decide +kernel
theorem dL_quotient_350 : decode cL_quotient 350 = .ok (.aload 8, 2) := by decide +kernel
theorem dL_quotient_352 : decode cL_quotient 352 = .ok (.areturn, 1) := by decide +kernel
theorem dL_acts_0 : decode cL_acts 0 = .ok (.iload 4, 2) := by decide +kernel
theorem dL_acts_2 : decode cL_acts 2 = .ok (.iconst 5, 1) := by decide +kernel
theorem dL_acts_3 : decode cL_acts 3 = .ok (.ishr, 1) := by decide +kernel
theorem dL_acts_4 : decode cL_acts 4 = .ok (.ldc 104, 2) := by decide +kernel
theorem dL_acts_6 : decode cL_acts 6 = .ok (.invokestatic 105, 3) := by decide +kernel
theorem dL_acts_9 : decode cL_acts 9 = .ok (.istore 5, 2) := by decide +kernel
theorem dL_acts_11 : decode cL_acts 11 = .ok (.iload 4, 2) := by decide +kernel
theorem dL_acts_13 : decode cL_acts 13 = .ok (.bipush 24, 2) := by decide +kernel
theorem dL_acts_15 : decode cL_acts 15 = .ok (.invokestatic 105, 3) := by decide +kernel
theorem dL_acts_18 : decode cL_acts 18 = .ok (.istore 6, 2) := by decide +kernel
theorem dL_acts_20 : decode cL_acts 20 = .ok (.iload 5, 2) := by decide +kernel
theorem dL_acts_22 : decode cL_acts 22 = .ok (.bipush 8, 2) := by decide +kernel
theorem dL_acts_24 : decode cL_acts 24 = .ok (.irem, 1) := by decide +kernel
theorem dL_acts_25 : decode cL_acts 25 = .ok (.istore 7, 2) := by decide +kernel
theorem dL_acts_27 : decode cL_acts 27 = .ok (.iload 5, 2) := by decide +kernel
theorem dL_acts_29 : decode cL_acts 29 = .ok (.bipush 8, 2) := by decide +kernel
theorem dL_acts_31 : decode cL_acts 31 = .ok (.idiv, 1) := by decide +kernel
theorem dL_acts_32 : decode cL_acts 32 = .ok (.bipush 8, 2) := by decide +kernel
theorem dL_acts_34 : decode cL_acts 34 = .ok (.irem, 1) := by decide +kernel
theorem dL_acts_35 : decode cL_acts 35 = .ok (.istore 8, 2) := by decide +kernel
theorem dL_acts_37 : decode cL_acts 37 = .ok (.iload 5, 2) := by decide +kernel
theorem dL_acts_39 : decode cL_acts 39 = .ok (.bipush 64, 2) := by decide +kernel
theorem dL_acts_41 : decode cL_acts 41 = .ok (.idiv, 1) := by decide +kernel
theorem dL_acts_42 : decode cL_acts 42 = .ok (.bipush 8, 2) := by decide +kernel
theorem dL_acts_44 : decode cL_acts 44 = .ok (.irem, 1) := by decide +kernel
theorem dL_acts_45 : decode cL_acts 45 = .ok (.istore 9, 2) := by decide +kernel
theorem dL_acts_47 : decode cL_acts 47 = .ok (.iload 6, 2) := by decide +kernel
theorem dL_acts_49 : decode cL_acts 49 = .ok (.iconst 3, 1) := by decide +kernel
theorem dL_acts_50 : decode cL_acts 50 = .ok (.if_icmp .ge 88, 3) := by decide +kernel
theorem dL_acts_53 : decode cL_acts 53 = .ok (.aload_n 2, 1) := by decide +kernel
theorem dL_acts_54 : decode cL_acts 54 = .ok (.bipush 8, 2) := by decide +kernel
theorem dL_acts_56 : decode cL_acts 56 = .ok (.iload 7, 2) := by decide +kernel
theorem dL_acts_58 : decode cL_acts 58 = .ok (.imul, 1) := by decide +kernel
theorem dL_acts_59 : decode cL_acts 59 = .ok (.iload 8, 2) := by decide +kernel
theorem dL_acts_61 : decode cL_acts 61 = .ok (.iadd, 1) := by decide +kernel
theorem dL_acts_62 : decode cL_acts 62 = .ok (.iaload, 1) := by decide +kernel
theorem dL_acts_63 : decode cL_acts 63 = .ok (.istore 10, 2) := by decide +kernel
theorem dL_acts_65 : decode cL_acts 65 = .ok (.aload_n 2, 1) := by decide +kernel
theorem dL_acts_66 : decode cL_acts 66 = .ok (.bipush 8, 2) := by decide +kernel
theorem dL_acts_68 : decode cL_acts 68 = .ok (.iload 7, 2) := by decide +kernel
theorem dL_acts_70 : decode cL_acts 70 = .ok (.imul, 1) := by decide +kernel
theorem dL_acts_71 : decode cL_acts 71 = .ok (.iload 8, 2) := by decide +kernel
theorem dL_acts_73 : decode cL_acts 73 = .ok (.iadd, 1) := by decide +kernel
theorem dL_acts_74 : decode cL_acts 74 = .ok (.iload 5, 2) := by decide +kernel
theorem dL_acts_76 : decode cL_acts 76 = .ok (.iconst 5, 1) := by decide +kernel
theorem dL_acts_77 : decode cL_acts 77 = .ok (.irem, 1) := by decide +kernel
theorem dL_acts_78 : decode cL_acts 78 = .ok (.ifCond .ne 19, 3) := by decide +kernel
theorem dL_acts_81 : decode cL_acts 81 = .ok (.iload 5, 2) := by decide +kernel
theorem dL_acts_83 : decode cL_acts 83 = .ok (.bipush 64, 2) := by decide +kernel
theorem dL_acts_85 : decode cL_acts 85 = .ok (.idiv, 1) := by decide +kernel
theorem dL_acts_86 : decode cL_acts 86 = .ok (.sipush 4001, 3) := by decide +kernel
theorem dL_acts_89 : decode cL_acts 89 = .ok (.irem, 1) := by decide +kernel
theorem dL_acts_90 : decode cL_acts 90 = .ok (.sipush 2000, 3) := by decide +kernel
