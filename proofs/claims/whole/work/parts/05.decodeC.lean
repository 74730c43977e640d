theorem dX8_init_0 : decode cX8_init 0 = .ok (.aload_n 0, 1) := by decide +kernel
theorem dX8_init_1 : decode cX8_init 1 = .ok (.invokespecial 1, 3) := by decide +kernel
theorem dX8_init_4 : decode cX8_init 4 = .ok (.aload_n 0, 1) := by decide +kernel
theorem dX8_init_5 : decode cX8_init 5 = .ok (.bipush 67, 2) := by decide +kernel
theorem dX8_init_7 : decode cX8_init 7 = .ok (.newarray .int, 2) := by decide +kernel
theorem dX8_init_9 : decode cX8_init 9 = .ok (.putfield 7, 3) := by decide +kernel
theorem dX8_init_12 : decode cX8_init 12 = .ok (.aload_n 0, 1) := by decide +kernel
theorem dX8_init_13 : decode cX8_init 13 = .ok (.sipush 268, 3) := by decide +kernel
theorem dX8_init_16 : decode cX8_init 16 = .ok (.newarray .int, 2) := by decide +kernel
theorem dX8_init_18 : decode cX8_init 18 = .ok (.putfield 13, 3) := by decide +kernel
theorem dX8_init_21 : decode cX8_init 21 = .ok (.aload_n 0, 1) := by decide +kernel
theorem dX8_init_22 : decode cX8_init 22 = .ok (.bipush 100, 2) := by decide +kernel
theorem dX8_init_24 : decode cX8_init 24 = .ok (.newarray .int, 2) := by decide +kernel
theorem dX8_init_26 : decode cX8_init 26 = .ok (.putfield 16, 3) := by decide +kernel
theorem dX8_init_29 : decode cX8_init 29 = .ok (.aload_n 0, 1) := by decide +kernel
theorem dX8_init_30 : decode cX8_init 30 = .ok (.bipush 64, 2) := by decide +kernel
theorem dX8_init_32 : decode cX8_init 32 = .ok (.newarray .int, 2) := by decide +kernel
theorem dX8_init_34 : decode cX8_init 34 = .ok (.putfield 19, 3) := by decide +kernel
theorem dX8_init_37 : decode cX8_init 37 = .ok (.aload_n 0, 1) := by decide +kernel
theorem dX8_init_38 : decode cX8_init 38 = .ok (.bipush 64, 2) := by decide +kernel
theorem dX8_init_40 : decode cX8_init 40 = .ok (.newarray .int, 2) := by decide +kernel
theorem dX8_init_42 : decode cX8_init 42 = .ok (.putfield 22, 3) := by decide +kernel
theorem dX8_init_45 : decode cX8_init 45 = .ok (.aload_n 0, 1) := by decide +kernel
theorem dX8_init_46 : decode cX8_init 46 = .ok (.bipush 8, 2) := by decide +kernel
theorem dX8_init_48 : decode cX8_init 48 = .ok (.newarray .long, 2) := by decide +kernel
theorem dX8_init_50 : decode cX8_init 50 = .ok (.putfield 25, 3) := by decide +kernel
theorem dX8_init_53 : decode cX8_init 53 = .ok (.aload_n 0, 1) := by decide +kernel
theorem dX8_init_54 : decode cX8_init 54 = .ok (.bipush 8, 2) := by decide +kernel
theorem dX8_init_56 : decode cX8_init 56 = .ok (.newarray .long, 2) := by decide +kernel
theorem dX8_init_58 : decode cX8_init 58 = .ok (.putfield 29, 3) := by decide +kernel
theorem dX8_init_61 : decode cX8_init 61 = .ok (.aload_n 0, 1) := by decide +kernel
theorem dX8_init_62 : decode cX8_init 62 = .ok (.bipush 8, 2) := by decide +kernel
theorem dX8_init_64 : decode cX8_init 64 = .ok (.newarray .long, 2) := by decide +kernel
theorem dX8_init_66 : decode cX8_init 66 = .ok (.putfield 32, 3) := by decide +kernel
theorem dX8_init_69 : decode cX8_init 69 = .ok (.aload_n 0, 1) := by decide +kernel
theorem dX8_init_70 : decode cX8_init 70 = .ok (.bipush 8, 2) := by decide +kernel
theorem dX8_init_72 : decode cX8_init 72 = .ok (.newarray .long, 2) := by decide +kernel
theorem dX8_init_74 : decode cX8_init 74 = .ok (.putfield 35, 3) := by decide +kernel
theorem dX8_init_77 : decode cX8_init 77 = .ok (.aload_n 0, 1) := by decide +kernel
theorem dX8_init_78 : decode cX8_init 78 = .ok (.bipush 8, 2) := by decide +kernel
theorem dX8_init_80 : decode cX8_init 80 = .ok (.newarray .long, 2) := by decide +kernel
theorem dX8_init_82 : decode cX8_init 82 = .ok (.putfield 38, 3) := by decide +kernel
theorem dX8_init_85 : decode cX8_init 85 = .ok (.aload_n 0, 1) := by decide +kernel
theorem dX8_init_86 : decode cX8_init 86 = .ok (.bipush 8, 2) := by decide +kernel
theorem dX8_init_88 : decode cX8_init 88 = .ok (.newarray .long, 2) := by decide +kernel
theorem dX8_init_90 : decode cX8_init 90 = .ok (.putfield 41, 3) := by decide +kernel
theorem dX8_init_93 : decode cX8_init 93 = .ok (.aload_n 0, 1) := by decide +kernel
theorem dX8_init_94 : decode cX8_init 94 = .ok (.iconst (-1), 1) := by decide +kernel
theorem dX8_init_95 : decode cX8_init 95 = .ok (.putfield 44, 3) := by decide +kernel
theorem dX8_init_98 : decode cX8_init 98 = .ok (.aload_n 0, 1) := by decide +kernel
theorem dX8_init_99 : decode cX8_init 99 = .ok (.sipush 1920, 3) := by decide +kernel
theorem dX8_init_102 : decode cX8_init 102 = .ok (.newarray .int, 2) := by decide +kernel
theorem dX8_init_104 : decode cX8_init 104 = .ok (.putfield 48, 3) := by decide +kernel
theorem dX8_init_107 : decode cX8_init 107 = .ok (.aload_n 0, 1) := by decide +kernel
theorem dX8_init_108 : decode cX8_init 108 = .ok (.bipush 8, 2) := by decide +kernel
theorem dX8_init_110 : decode cX8_init 110 = .ok (.newarray .long, 2) := by decide +kernel
theorem dX8_init_112 : decode cX8_init 112 = .ok (.putfield 51, 3) := by decide +kernel
theorem dX8_init_115 : decode cX8_init 115 = .ok (.aload_n 0, 1) := by decide +kernel
theorem dX8_init_116 : decode cX8_init 116 = .ok (.bipush 8, 2) := by decide +kernel
theorem dX8_init_118 : decode cX8_init 118 = .ok (.newarray .long, 2) := by decide +kernel
theorem dX8_init_120 : decode cX8_init 120 = .ok (.putfield 54, 3) := by decide +kernel
theorem dX8_init_123 : decode cX8_init 123 = .ok (.aload_n 0, 1) := by decide +kernel
theorem dX8_init_124 : decode cX8_init 124 = .ok (.bipush 8, 2) := by decide +kernel
theorem dX8_init_126 : decode cX8_init 126 = .ok (.newarray .long, 2) := by decide +kernel
theorem dX8_init_128 : decode cX8_init 128 = .ok (.putfield 57, 3) := by decide +kernel
theorem dX8_init_131 : decode cX8_init 131 = .ok (.aload_n 0, 1) := by decide +kernel
theorem dX8_init_132 : decode cX8_init 132 = .ok (.bipush 56, 2) := by decide +kernel
theorem dX8_init_134 : decode cX8_init 134 = .ok (.newarray .long, 2) := by decide +kernel
theorem dX8_init_136 : decode cX8_init 136 = .ok (.putfield 60, 3) := by decide +kernel
theorem dX8_init_139 : decode cX8_init 139 = .ok (.aload_n 0, 1) := by decide +kernel
theorem dX8_init_140 : decode cX8_init 140 = .ok (.bipush 56, 2) := by decide +kernel
theorem dX8_init_142 : decode cX8_init 142 = .ok (.newarray .long, 2) := by decide +kernel
theorem dX8_init_144 : decode cX8_init 144 = .ok (.putfield 63, 3) := by decide +kernel
theorem dX8_init_147 : decode cX8_init 147 = .ok (.aload_n 0, 1) := by decide +kernel
theorem dX8_init_148 : decode cX8_init 148 = .ok (.bipush 7, 2) := by decide +kernel
theorem dX8_init_150 : decode cX8_init 150 = .ok (.newarray .int, 2) := by decide +kernel
theorem dX8_init_152 : decode cX8_init 152 = .ok (.putfield 66, 3) := by decide +kernel
theorem dX8_init_155 : decode cX8_init 155 = .ok (.aload_n 0, 1) := by decide +kernel
theorem dX8_init_156 : decode cX8_init 156 = .ok (.bipush 7, 2) := by decide +kernel
theorem dX8_init_158 : decode cX8_init 158 = .ok (.newarray .boolean, 2) := by decide +kernel
theorem dX8_init_160 : decode cX8_init 160 = .ok (.putfield 69, 3) := by decide +kernel
theorem dX8_init_163 : decode cX8_init 163 = .ok (.aload_n 0, 1) := by decide +kernel
theorem dX8_init_164 : decode cX8_init 164 = .ok (.bipush 7, 2) := by decide +kernel
theorem dX8_init_166 : decode cX8_init 166 = .ok (.newarray .int, 2) := by decide +kernel
theorem dX8_init_168 : decode cX8_init 168 = .ok (.putfield 73, 3) := by decide +kernel
theorem dX8_init_171 : decode cX8_init 171 = .ok (.aload_n 0, 1) := by decide +kernel
theorem dX8_init_172 : decode cX8_init 172 = .ok (.bipush 8, 2) := by decide +kernel
theorem dX8_init_174 : decode cX8_init 174 = .ok (.newarray .long, 2) := by decide +kernel
theorem dX8_init_176 : decode cX8_init 176 = .ok (.putfield 76, 3) := by decide +kernel
theorem dX8_init_179 : decode cX8_init 179 = .ok (.iconst 0, 1) := by decide +kernel
theorem dX8_init_180 : decode cX8_init 180 = .ok (.istore_n 1, 1) := by decide +kernel
theorem dX8_init_181 : decode cX8_init 181 = .ok (.iload_n 1, 1) := by decide +kernel
theorem dX8_init_182 : decode cX8_init 182 = .ok (.bipush 8, 2) := by decide +kernel
theorem dX8_init_184 : decode cX8_init 184 = .ok (.if_icmp .ge 53, 3) := by decide +kernel
theorem dX8_init_187 : decode cX8_init 187 = .ok (.aload_n 0, 1) := by decide +kernel
theorem dX8_init_188 : decode cX8_init 188 = .ok (.getfield 7, 3) := by decide +kernel
theorem dX8_init_191 : decode cX8_init 191 = .ok (.bipush 9, 2) := by decide +kernel
theorem dX8_init_193 : decode cX8_init 193 = .ok (.iload_n 1, 1) := by decide +kernel
theorem dX8_init_194 : decode cX8_init 194 = .ok (.imul, 1) := by decide +kernel
theorem dX8_init_195 : decode cX8_init 195 = .ok (.iconst 2, 1) := by decide +kernel
theorem dX8_init_196 : decode cX8_init 196 = .ok (.iastore, 1) := by decide +kernel
theorem dX8_init_197 : decode cX8_init 197 = .ok (.aload_n 0, 1) := by decide +kernel
theorem dX8_init_198 : decode cX8_init 198 = .ok (.getfield 19, 3) := by decide +kernel
theorem dX8_init_201 : decode cX8_init 201 = .ok (.iload_n 1, 1) := by decide +kernel
theorem dX8_init_202 : decode cX8_init 202 = .ok (.iload_n 1, 1) := by decide +kernel
theorem dX8_init_203 : decode cX8_init 203 = .ok (.iastore, 1) := by decide +kernel
theorem dX8_init_204 : decode cX8_init 204 = .ok (.aload_n 0, 1) := by decide +kernel
theorem dX8_init_205 : decode cX8_init 205 = .ok (.getfield 22, 3) := by decide +kernel
theorem dX8_init_208 : decode cX8_init 208 = .ok (.iload_n 1, 1) := by decide +kernel
theorem dX8_init_209 : decode cX8_init 209 = .ok (.iconst 1, 1) := by decide +kernel
theorem dX8_init_210 : decode cX8_init 210 = .ok (.iastore, 1) := by decide +kernel
theorem dX8_init_211 : decode cX8_init 211 = .ok (.aload_n 0, 1) := by decide +kernel
theorem dX8_init_212 : decode cX8_init 212 = .ok (.getfield 19, 3) := by decide +kernel
theorem dX8_init_215 : decode cX8_init 215 = .ok (.bipush 8, 2) := by decide +kernel
theorem dX8_init_217 : decode cX8_init 217 = .ok (.iload_n 1, 1) := by decide +kernel
theorem dX8_init_218 : decode cX8_init 218 = .ok (.imul, 1) := by decide +kernel
theorem dX8_init_219 : decode cX8_init 219 = .ok (.iload_n 1, 1) := by decide +kernel
theorem dX8_init_220 : decode cX8_init 220 = .ok (.iastore, 1) := by decide +kernel
theorem dX8_init_221 : decode cX8_init 221 = .ok (.aload_n 0, 1) := by decide +kernel
theorem dX8_init_222 : decode cX8_init 222 = .ok (.getfield 22, 3) := by decide +kernel
theorem dX8_init_225 : decode cX8_init 225 = .ok (.bipush 8, 2) := by decide +kernel
theorem dX8_init_227 : decode cX8_init 227 = .ok (.iload_n 1, 1) := by decide +kernel
theorem dX8_init_228 : decode cX8_init 228 = .ok (.imul, 1) := by decide +kernel
theorem dX8_init_229 : decode cX8_init 229 = .ok (.iconst 1, 1) := by decide +kernel
theorem dX8_init_230 : decode cX8_init 230 = .ok (.iastore, 1) := by decide +kernel
theorem dX8_init_231 : decode cX8_init 231 = .ok (.iinc 1 1, 3) := by decide +kernel
theorem dX8_init_234 : decode cX8_init 234 = .ok (.goto (-53), 3) := by decide +kernel
theorem dX8_init_237 : decode cX8_init 237 = .ok (.iconst 1, 1) := by decide +kernel
theorem dX8_init_238 : decode cX8_init 238 = .ok (.istore_n 1, 1) := by decide +kernel
theorem dX8_init_239 : decode cX8_init 239 = .ok (.iload_n 1, 1) := by decide +kernel
theorem dX8_init_240 : decode cX8_init 240 = .ok (.bipush 8, 2) := by decide +kernel
theorem dX8_init_242 : decode cX8_init 242 = .ok (.if_icmp .ge 19, 3) := by decide +kernel
theorem dX8_init_245 : decode cX8_init 245 = .ok (.aload_n 0, 1) := by decide +kernel
theorem dX8_init_246 : decode cX8_init 246 = .ok (.getfield 22, 3) := by decide +kernel
theorem dX8_init_249 : decode cX8_init 249 = .ok (.bipush 9, 2) := by decide +kernel
theorem dX8_init_251 : decode cX8_init 251 = .ok (.iload_n 1, 1) := by decide +kernel
theorem dX8_init_252 : decode cX8_init 252 = .ok (.imul, 1) := by decide +kernel
theorem dX8_init_253 : decode cX8_init 253 = .ok (.iconst (-1), 1) := by decide +kernel
theorem dX8_init_254 : decode cX8_init 254 = .ok (.iastore, 1) := by decide +kernel
theorem dX8_init_255 : decode cX8_init 255 = .ok (.iinc 1 1, 3) := by decide +kernel
theorem dX8_init_258 : decode cX8_init 258 = .ok (.goto (-19), 3) := by decide +kernel
theorem dX8_init_261 : decode cX8_init 261 = .ok (.iconst 0, 1) := by decide +kernel
theorem dX8_init_262 : decode cX8_init 262 = .ok (.istore_n 1, 1) := by decide +kernel
theorem dX8_init_263 : decode cX8_init 263 = .ok (.iload_n 1, 1) := by decide +kernel
theorem dX8_init_264 : decode cX8_init 264 = .ok (.bipush 7, 2) := by decide +kernel
theorem dX8_init_266 : decode cX8_init 266 = .ok (.if_icmp .ge 56, 3) := by decide +kernel
theorem dX8_init_269 : decode cX8_init 269 = .ok (.iload_n 1, 1) := by decide +kernel
theorem dX8_init_270 : decode cX8_init 270 = .ok (.iconst 1, 1) := by decide +kernel
theorem dX8_init_271 : decode cX8_init 271 = .ok (.iadd, 1) := by decide +kernel
theorem dX8_init_272 : decode cX8_init 272 = .ok (.istore_n 2, 1) := by decide +kernel
theorem dX8_init_273 : decode cX8_init 273 = .ok (.iload_n 1, 1) := by decide +kernel
theorem dX8_init_274 : decode cX8_init 274 = .ok (.iconst 1, 1) := by decide +kernel
theorem dX8_init_275 : decode cX8_init 275 = .ok (.iadd, 1) := by decide +kernel
theorem dX8_init_276 : decode cX8_init 276 = .ok (.bipush 7, 2) := by decide +kernel
theorem dX8_init_278 : decode cX8_init 278 = .ok (.irem, 1) := by decide +kernel
theorem dX8_init_279 : decode cX8_init 279 = .ok (.iconst 1, 1) := by decide +kernel
theorem dX8_init_280 : decode cX8_init 280 = .ok (.iadd, 1) := by decide +kernel
theorem dX8_init_281 : decode cX8_init 281 = .ok (.istore_n 3, 1) := by decide +kernel
theorem dX8_init_282 : decode cX8_init 282 = .ok (.iload_n 1, 1) := by decide +kernel
theorem dX8_init_283 : decode cX8_init 283 = .ok (.iconst 3, 1) := by decide +kernel
theorem dX8_init_284 : decode cX8_init 284 = .ok (.iadd, 1) := by decide +kernel
theorem dX8_init_285 : decode cX8_init 285 = .ok (.bipush 7, 2) := by decide +kernel
theorem dX8_init_287 : decode cX8_init 287 = .ok (.irem, 1) := by decide +kernel
theorem dX8_init_288 : decode cX8_init 288 = .ok (.iconst 1, 1) := by decide +kernel
theorem dX8_init_289 : decode cX8_init 289 = .ok (.iadd, 1) := by decide +kernel
theorem dX8_init_290 : decode cX8_init 290 = .ok (.istore 4, 2) := by decide +kernel
theorem dX8_init_292 : decode cX8_init 292 = .ok (.aload_n 0, 1) := by decide +kernel
theorem dX8_init_293 : decode cX8_init 293 = .ok (.iload_n 2, 1) := by decide +kernel
theorem dX8_init_294 : decode cX8_init 294 = .ok (.iload_n 3, 1) := by decide +kernel
theorem dX8_init_295 : decode cX8_init 295 = .ok (.iload 4, 2) := by decide +kernel
theorem dX8_init_297 : decode cX8_init 297 = .ok (.invokevirtual 79, 3) := by decide +kernel
theorem dX8_init_300 : decode cX8_init 300 = .ok (.aload_n 0, 1) := by decide +kernel
theorem dX8_init_301 : decode cX8_init 301 = .ok (.iload_n 3, 1) := by decide +kernel
theorem dX8_init_302 : decode cX8_init 302 = .ok (.iload 4, 2) := by decide +kernel
theorem dX8_init_304 : decode cX8_init 304 = .ok (.iload_n 2, 1) := by decide +kernel
theorem dX8_init_305 : decode cX8_init 305 = .ok (.invokevirtual 79, 3) := by decide +kernel
theorem dX8_init_308 : decode cX8_init 308 = .ok (.aload_n 0, 1) := by decide +kernel
theorem dX8_init_309 : decode cX8_init 309 = .ok (.iload 4, 2) := by decide +kernel
theorem dX8_init_311 : decode cX8_init 311 = .ok (.iload_n 2, 1) := by decide +kernel
theorem dX8_init_312 : decode cX8_init 312 = .ok (.iload_n 3, 1) := by decide +kernel
theorem dX8_init_313 : decode cX8_init 313 = .ok (.invokevirtual 79, 3) := by decide +kernel
theorem dX8_init_316 : decode cX8_init 316 = .ok (.iinc 1 1, 3) := by decide +kernel
theorem dX8_init_319 : decode cX8_init 319 = .ok (.goto (-56), 3) := by decide +kernel
theorem dX8_init_322 : decode cX8_init 322 = .ok (.aload_n 0, 1) := by decide +kernel
theorem dX8_init_323 : decode cX8_init 323 = .ok (.getfield 7, 3) := by decide +kernel
theorem dX8_init_326 : decode cX8_init 326 = .ok (.bipush 64, 2) := by decide +kernel
theorem dX8_init_328 : decode cX8_init 328 = .ok (.iconst 1, 1) := by decide +kernel
theorem dX8_init_329 : decode cX8_init 329 = .ok (.iastore, 1) := by decide +kernel
theorem dX8_init_330 : decode cX8_init 330 = .ok (.return_, 1) := by decide +kernel
theorem dX8_lays_0 : decode cX8_lays 0 = .ok (.aload_n 0, 1) := by decide +kernel
theorem dX8_lays_1 : decode cX8_lays 1 = .ok (.getfield 19, 3) := by decide +kernel
theorem dX8_lays_4 : decode cX8_lays 4 = .ok (.bipush 8, 2) := by decide +kernel
theorem dX8_lays_6 : decode cX8_lays 6 = .ok (.iload_n 1, 1) := by decide +kernel
theorem dX8_lays_7 : decode cX8_lays 7 = .ok (.imul, 1) := by decide +kernel
theorem dX8_lays_8 : decode cX8_lays 8 = .ok (.iload_n 2, 1) := by decide +kernel
theorem dX8_lays_9 : decode cX8_lays 9 = .ok (.iadd, 1) := by decide +kernel
theorem dX8_lays_10 : decode cX8_lays 10 = .ok (.iload_n 3, 1) := by decide +kernel
theorem dX8_lays_11 : decode cX8_lays 11 = .ok (.iastore, 1) := by decide +kernel
theorem dX8_lays_12 : decode cX8_lays 12 = .ok (.aload_n 0, 1) := by decide +kernel
theorem dX8_lays_13 : decode cX8_lays 13 = .ok (.getfield 22, 3) := by decide +kernel
theorem dX8_lays_16 : decode cX8_lays 16 = .ok (.bipush 8, 2) := by decide +kernel
theorem dX8_lays_18 : decode cX8_lays 18 = .ok (.iload_n 1, 1) := by decide +kernel
theorem dX8_lays_19 : decode cX8_lays 19 = .ok (.imul, 1) := by decide +kernel
theorem dX8_lays_20 : decode cX8_lays 20 = .ok (.iload_n 2, 1) := by decide +kernel
theorem dX8_lays_21 : decode cX8_lays 21 = .ok (.iadd, 1) := by decide +kernel
theorem dX8_lays_22 : decode cX8_lays 22 = .ok (.iconst 1, 1) := by decide +kernel
theorem dX8_lays_23 : decode cX8_lays 23 = .ok (.iastore, 1) := by decide +kernel
theorem dX8_lays_24 : decode cX8_lays 24 = .ok (.aload_n 0, 1) := by decide +kernel
theorem dX8_lays_25 : decode cX8_lays 25 = .ok (.getfield 19, 3) := by decide +kernel
theorem dX8_lays_28 : decode cX8_lays 28 = .ok (.bipush 8, 2) := by decide +kernel
theorem dX8_lays_30 : decode cX8_lays 30 = .ok (.iload_n 2, 1) := by decide +kernel
theorem dX8_lays_31 : decode cX8_lays 31 = .ok (.imul, 1) := by decide +kernel
theorem dX8_lays_32 : decode cX8_lays 32 = .ok (.iload_n 1, 1) := by decide +kernel
theorem dX8_lays_33 : decode cX8_lays 33 = .ok (.iadd, 1) := by decide +kernel
theorem dX8_lays_34 : decode cX8_lays 34 = .ok (.iload_n 3, 1) := by decide +kernel
theorem dX8_lays_35 : decode cX8_lays 35 = .ok (.iastore, 1) := by decide +kernel
theorem dX8_lays_36 : decode cX8_lays 36 = .ok (.aload_n 0, 1) := by decide +kernel
theorem dX8_lays_37 : decode cX8_lays 37 = .ok (.getfield 22, 3) := by decide +kernel
theorem dX8_lays_40 : decode cX8_lays 40 = .ok (.bipush 8, 2) := by decide +kernel
theorem dX8_lays_42 : decode cX8_lays 42 = .ok (.iload_n 2, 1) := by decide +kernel
theorem dX8_lays_43 : decode cX8_lays 43 = .ok (.imul, 1) := by decide +kernel
theorem dX8_lays_44 : decode cX8_lays 44 = .ok (.iload_n 1, 1) := by decide +kernel
theorem dX8_lays_45 : decode cX8_lays 45 = .ok (.iadd, 1) := by decide +kernel
theorem dX8_lays_46 : decode cX8_lays 46 = .ok (.iconst (-1), 1) := by decide +kernel
theorem dX8_lays_47 : decode cX8_lays 47 = .ok (.iastore, 1) := by decide +kernel
theorem dX8_lays_48 : decode cX8_lays 48 = .ok (.return_, 1) := by decide +kernel
theorem dX8_thrown_0 : decode cX8_thrown 0 = .ok (.aload_n 0, 1) := by decide +kernel
theorem dX8_thrown_1 : decode cX8_thrown 1 = .ok (.getfield 83, 3) := by decide +kernel
theorem dX8_thrown_4 : decode cX8_thrown 4 = .ok (.ireturn, 1) := by decide +kernel
theorem dX8_in_0 : decode cX8_in 0 = .ok (.iload_n 0, 1) := by decide +kernel
theorem dX8_in_1 : decode cX8_in 1 = .ok (.iload_n 1, 1) := by decide +kernel
theorem dX8_in_2 : decode cX8_in 2 = .ok (.if_icmp .lt 12, 3) := by decide +kernel
theorem dX8_in_5 : decode cX8_in 5 = .ok (.iload_n 0, 1) := by decide +kernel
theorem dX8_in_6 : decode cX8_in 6 = .ok (.iload_n 2, 1) := by decide +kernel
theorem dX8_in_7 : decode cX8_in 7 = .ok (.if_icmp .gt 7, 3) := by decide +kernel
theorem dX8_in_10 : decode cX8_in 10 = .ok (.iconst 1, 1) := by decide +kernel
theorem dX8_in_11 : decode cX8_in 11 = .ok (.goto 4, 3) := by decide +kernel
theorem dX8_in_14 : decode cX8_in 14 = .ok (.iconst 0, 1) := by decide +kernel
theorem dX8_in_15 : decode cX8_in 15 = .ok (.ireturn, 1) := by decide +kernel
theorem dX8_isEight_0 : decode cX8_isEight 0 = .ok (.iload_n 0, 1) := by decide +kernel
theorem dX8_isEight_1 : decode cX8_isEight 1 = .ok (.iconst 0, 1) := by decide +kernel
theorem dX8_isEight_2 : decode cX8_isEight 2 = .ok (.bipush 7, 2) := by decide +kernel
theorem dX8_isEight_4 : decode cX8_isEight 4 = .ok (.invokestatic 86, 3) := by decide +kernel
theorem dX8_isEight_7 : decode cX8_isEight 7 = .ok (.ireturn, 1) := by decide +kernel
theorem dX8_throwsAt_0 : decode cX8_throwsAt 0 = .ok (.aload_n 0, 1) := by decide +kernel
theorem dX8_throwsAt_1 : decode cX8_throwsAt 1 = .ok (.iload_n 1, 1) := by decide +kernel
theorem dX8_throwsAt_2 : decode cX8_throwsAt 2 = .ok (.putfield 83, 3) := by decide +kernel
theorem dX8_throwsAt_5 : decode cX8_throwsAt 5 = .ok (.iload_n 1, 1) := by decide +kernel
theorem dX8_throwsAt_6 : decode cX8_throwsAt 6 = .ok (.ifCond .le 7, 3) := by decide +kernel
theorem dX8_throwsAt_9 : decode cX8_throwsAt 9 = .ok (.iconst 1, 1) := by decide +kernel
theorem dX8_throwsAt_10 : decode cX8_throwsAt 10 = .ok (.goto 4, 3) := by decide +kernel
theorem dX8_throwsAt_13 : decode cX8_throwsAt 13 = .ok (.iconst 0, 1) := by decide +kernel
theorem dX8_throwsAt_14 : decode cX8_throwsAt 14 = .ok (.ireturn, 1) := by decide +kernel
theorem dX8_saves_0 : decode cX8_saves 0 = .ok (.aload_n 0, 1) := by decide +kernel
theorem dX8_saves_1 : decode cX8_saves 1 = .ok (.getfield 90, 3) := by decide +kernel
theorem dX8_saves_4 : decode cX8_saves 4 = .ok (.iconst 4, 1) := by decide +kernel
theorem dX8_saves_5 : decode cX8_saves 5 = .ok (.if_icmp .ne 43, 3) := by decide +kernel
theorem dX8_saves_8 : decode cX8_saves 8 = .ok (.iconst 0, 1) := by decide +kernel
theorem dX8_saves_9 : decode cX8_saves 9 = .ok (.istore_n 1, 1) := by decide +kernel
theorem dX8_saves_10 : decode cX8_saves 10 = .ok (.iload_n 1, 1) := by decide +kernel
theorem dX8_saves_11 : decode cX8_saves 11 = .ok (.sipush 201, 3) := by decide +kernel
theorem dX8_saves_14 : decode cX8_saves 14 = .ok (.if_icmp .ge 24, 3) := by decide +kernel
theorem dX8_saves_17 : decode cX8_saves 17 = .ok (.aload_n 0, 1) := by decide +kernel
theorem dX8_saves_18 : decode cX8_saves 18 = .ok (.getfield 13, 3) := by decide +kernel
theorem dX8_saves_21 : decode cX8_saves 21 = .ok (.iload_n 1, 1) := by decide +kernel
theorem dX8_saves_22 : decode cX8_saves 22 = .ok (.aload_n 0, 1) := by decide +kernel
theorem dX8_saves_23 : decode cX8_saves 23 = .ok (.getfield 13, 3) := by decide +kernel
theorem dX8_saves_26 : decode cX8_saves 26 = .ok (.iload_n 1, 1) := by decide +kernel
theorem dX8_saves_27 : decode cX8_saves 27 = .ok (.bipush 67, 2) := by decide +kernel
theorem dX8_saves_29 : decode cX8_saves 29 = .ok (.iadd, 1) := by decide +kernel
theorem dX8_saves_30 : decode cX8_saves 30 = .ok (.iaload, 1) := by decide +kernel
theorem dX8_saves_31 : decode cX8_saves 31 = .ok (.iastore, 1) := by decide +kernel
theorem dX8_saves_32 : decode cX8_saves 32 = .ok (.iinc 1 1, 3) := by decide +kernel
theorem dX8_saves_35 : decode cX8_saves 35 = .ok (.goto (-25), 3) := by decide +kernel
theorem dX8_saves_38 : decode cX8_saves 38 = .ok (.aload_n 0, 1) := by decide +kernel
theorem dX8_saves_39 : decode cX8_saves 39 = .ok (.dup, 1) := by decide +kernel
theorem dX8_saves_40 : decode cX8_saves 40 = .ok (.getfield 90, 3) := by decide +kernel
theorem dX8_saves_43 : decode cX8_saves 43 = .ok (.iconst 1, 1) := by decide +kernel
theorem dX8_saves_44 : decode cX8_saves 44 = .ok (.isub, 1) := by decide +kernel
theorem dX8_saves_45 : decode cX8_saves 45 = .ok (.putfield 90, 3) := by decide +kernel
theorem dX8_saves_48 : decode cX8_saves 48 = .ok (.iconst 0, 1) := by decide +kernel
theorem dX8_saves_49 : decode cX8_saves 49 = .ok (.istore_n 1, 1) := by decide +kernel
theorem dX8_saves_50 : decode cX8_saves 50 = .ok (.iload_n 1, 1) := by decide +kernel
theorem dX8_saves_51 : decode cX8_saves 51 = .ok (.bipush 67, 2) := by decide +kernel
theorem dX8_saves_53 : decode cX8_saves 53 = .ok (.if_icmp .ge 29, 3) := by decide +kernel
theorem dX8_saves_56 : decode cX8_saves 56 = .ok (.aload_n 0, 1) := by decide +kernel
theorem dX8_saves_57 : decode cX8_saves 57 = .ok (.getfield 13, 3) := by decide +kernel
theorem dX8_saves_60 : decode cX8_saves 60 = .ok (.bipush 67, 2) := by decide +kernel
theorem dX8_saves_62 : decode cX8_saves 62 = .ok (.aload_n 0, 1) := by decide +kernel
theorem dX8_saves_63 : decode cX8_saves 63 = .ok (.getfield 90, 3) := by decide +kernel
theorem dX8_saves_66 : decode cX8_saves 66 = .ok (.imul, 1) := by decide +kernel
theorem dX8_saves_67 : decode cX8_saves 67 = .ok (.iload_n 1, 1) := by decide +kernel
theorem dX8_saves_68 : decode cX8_saves 68 = .ok (.iadd, 1) := by decide +kernel
theorem dX8_saves_69 : decode cX8_saves 69 = .ok (.aload_n 0, 1) := by decide +kernel
theorem dX8_saves_70 : decode cX8_saves 70 = .ok (.getfield 7, 3) := by decide +kernel
theorem dX8_saves_73 : decode cX8_saves 73 = .ok (.iload_n 1, 1) := by decide +kernel
theorem dX8_saves_74 : decode cX8_saves 74 = .ok (.iaload, 1) := by decide +kernel
theorem dX8_saves_75 : decode cX8_saves 75 = .ok (.iastore, 1) := by decide +kernel
theorem dX8_saves_76 : decode cX8_saves 76 = .ok (.iinc 1 1, 3) := by decide +kernel
theorem dX8_saves_79 : decode cX8_saves 79 = .ok (.goto (-29), 3) := by decide +kernel
theorem dX8_saves_82 : decode cX8_saves 82 = .ok (.aload_n 0, 1) := by decide +kernel
theorem dX8_saves_83 : decode cX8_saves 83 = .ok (.dup, 1) := by decide +kernel
theorem dX8_saves_84 : decode cX8_saves 84 = .ok (.getfield 90, 3) := by decide +kernel
theorem dX8_saves_87 : decode cX8_saves 87 = .ok (.iconst 1, 1) := by decide +kernel
theorem dX8_saves_88 : decode cX8_saves 88 = .ok (.iadd, 1) := by decide +kernel
theorem dX8_saves_89 : decode cX8_saves 89 = .ok (.putfield 90, 3) := by decide +kernel
theorem dX8_saves_92 : decode cX8_saves 92 = .ok (.return_, 1) := by decide +kernel
theorem dX8_takes_0 : decode cX8_takes 0 = .ok (.iconst 0, 1) := by decide +kernel
theorem dX8_takes_1 : decode cX8_takes 1 = .ok (.istore_n 3, 1) := by decide +kernel
theorem dX8_takes_2 : decode cX8_takes 2 = .ok (.iload_n 3, 1) := by decide +kernel
theorem dX8_takes_3 : decode cX8_takes 3 = .ok (.bipush 8, 2) := by decide +kernel
theorem dX8_takes_5 : decode cX8_takes 5 = .ok (.if_icmp .ge 24, 3) := by decide +kernel
theorem dX8_takes_8 : decode cX8_takes 8 = .ok (.aload_n 1, 1) := by decide +kernel
theorem dX8_takes_9 : decode cX8_takes 9 = .ok (.iload_n 3, 1) := by decide +kernel
theorem dX8_takes_10 : decode cX8_takes 10 = .ok (.aload_n 0, 1) := by decide +kernel
theorem dX8_takes_11 : decode cX8_takes 11 = .ok (.getfield 7, 3) := by decide +kernel
theorem dX8_takes_14 : decode cX8_takes 14 = .ok (.bipush 8, 2) := by decide +kernel
theorem dX8_takes_16 : decode cX8_takes 16 = .ok (.iload_n 2, 1) := by decide +kernel
theorem dX8_takes_17 : decode cX8_takes 17 = .ok (.imul, 1) := by decide +kernel
theorem dX8_takes_18 : decode cX8_takes 18 = .ok (.iload_n 3, 1) := by decide +kernel
theorem dX8_takes_19 : decode cX8_takes 19 = .ok (.iadd, 1) := by decide +kernel
theorem dX8_takes_20 : decode cX8_takes 20 = .ok (.iaload, 1) := by decide +kernel
theorem dX8_takes_21 : decode cX8_takes 21 = .ok (.i2l, 1) := by decide +kernel
theorem dX8_takes_22 : decode cX8_takes 22 = .ok (.lastore, 1) := by decide +kernel
theorem dX8_takes_23 : decode cX8_takes 23 = .ok (.iinc 3 1, 3) := by decide +kernel
theorem dX8_takes_26 : decode cX8_takes 26 = .ok (.goto (-24), 3) := by decide +kernel
theorem dX8_takes_29 : decode cX8_takes 29 = .ok (.return_, 1) := by decide +kernel
theorem dX8_times_0 : decode cX8_times 0 = .ok (.iconst 0, 1) := by decide +kernel
theorem dX8_times_1 : decode cX8_times 1 = .ok (.istore 4, 2) := by decide +kernel
theorem dX8_times_3 : decode cX8_times 3 = .ok (.iload 4, 2) := by decide +kernel
theorem dX8_times_5 : decode cX8_times 5 = .ok (.bipush 8, 2) := by decide +kernel
theorem dX8_times_7 : decode cX8_times 7 = .ok (.if_icmp .ge 17, 3) := by decide +kernel
theorem dX8_times_10 : decode cX8_times 10 = .ok (.aload_n 0, 1) := by decide +kernel
theorem dX8_times_11 : decode cX8_times 11 = .ok (.getfield 38, 3) := by decide +kernel
theorem dX8_times_14 : decode cX8_times 14 = .ok (.iload 4, 2) := by decide +kernel
theorem dX8_times_16 : decode cX8_times 16 = .ok (.lconst 0, 1) := by decide +kernel
theorem dX8_times_17 : decode cX8_times 17 = .ok (.lastore, 1) := by decide +kernel
theorem dX8_times_18 : decode cX8_times 18 = .ok (.iinc 4 1, 3) := by decide +kernel
theorem dX8_times_21 : decode cX8_times 21 = .ok (.goto (-18), 3) := by decide +kernel
theorem dX8_times_24 : decode cX8_times 24 = .ok (.iconst 0, 1) := by decide +kernel
theorem dX8_times_25 : decode cX8_times 25 = .ok (.istore 4, 2) := by decide +kernel
theorem dX8_times_27 : decode cX8_times 27 = .ok (.iload 4, 2) := by decide +kernel
theorem dX8_times_29 : decode cX8_times 29 = .ok (.bipush 8, 2) := by decide +kernel
theorem dX8_times_31 : decode cX8_times 31 = .ok (.if_icmp .ge 70, 3) := by decide +kernel
theorem dX8_times_34 : decode cX8_times 34 = .ok (.iconst 0, 1) := by decide +kernel
theorem dX8_times_35 : decode cX8_times 35 = .ok (.istore 5, 2) := by decide +kernel
theorem dX8_times_37 : decode cX8_times 37 = .ok (.iload 5, 2) := by decide +kernel
theorem dX8_times_39 : decode cX8_times 39 = .ok (.bipush 8, 2) := by decide +kernel
theorem dX8_times_41 : decode cX8_times 41 = .ok (.if_icmp .ge 54, 3) := by decide +kernel
theorem dX8_times_44 : decode cX8_times 44 = .ok (.aload_n 0, 1) := by decide +kernel
theorem dX8_times_45 : decode cX8_times 45 = .ok (.getfield 38, 3) := by decide +kernel
theorem dX8_times_48 : decode cX8_times 48 = .ok (.aload_n 0, 1) := by decide +kernel
theorem dX8_times_49 : decode cX8_times 49 = .ok (.getfield 19, 3) := by decide +kernel
theorem dX8_times_52 : decode cX8_times 52 = .ok (.bipush 8, 2) := by decide +kernel
theorem dX8_times_54 : decode cX8_times 54 = .ok (.iload 4, 2) := by decide +kernel
theorem dX8_times_56 : decode cX8_times 56 = .ok (.imul, 1) := by decide +kernel
theorem dX8_times_57 : decode cX8_times 57 = .ok (.iload 5, 2) := by decide +kernel
theorem dX8_times_59 : decode cX8_times 59 = .ok (.iadd, 1) := by decide +kernel
theorem dX8_times_60 : decode cX8_times 60 = .ok (.iaload, 1) := by decide +kernel
theorem dX8_times_61 : decode cX8_times 61 = .ok (.dup2, 1) := by decide +kernel
theorem dX8_times_62 : decode cX8_times 62 = .ok (.laload, 1) := by decide +kernel
theorem dX8_times_63 : decode cX8_times 63 = .ok (.aload_n 0, 1) := by decide +kernel
theorem dX8_times_64 : decode cX8_times 64 = .ok (.getfield 22, 3) := by decide +kernel
theorem dX8_times_67 : decode cX8_times 67 = .ok (.bipush 8, 2) := by decide +kernel
theorem dX8_times_69 : decode cX8_times 69 = .ok (.iload 4, 2) := by decide +kernel
theorem dX8_times_71 : decode cX8_times 71 = .ok (.imul, 1) := by decide +kernel
theorem dX8_times_72 : decode cX8_times 72 = .ok (.iload 5, 2) := by decide +kernel
theorem dX8_times_74 : decode cX8_times 74 = .ok (.iadd, 1) := by decide +kernel
theorem dX8_times_75 : decode cX8_times 75 = .ok (.iaload, 1) := by decide +kernel
theorem dX8_times_76 : decode cX8_times 76 = .ok (.i2l, 1) := by decide +kernel
theorem dX8_times_77 : decode cX8_times 77 = .ok (.aload_n 1, 1) := by decide +kernel
theorem dX8_times_78 : decode cX8_times 78 = .ok (.iload 4, 2) := by decide +kernel
theorem dX8_times_80 : decode cX8_times 80 = .ok (.laload, 1) := by decide +kernel
theorem dX8_times_81 : decode cX8_times 81 = .ok (.lmul, 1) := by decide +kernel
theorem dX8_times_82 : decode cX8_times 82 = .ok (.aload_n 2, 1) := by decide +kernel
theorem dX8_times_83 : decode cX8_times 83 = .ok (.iload 5, 2) := by decide +kernel
theorem dX8_times_85 : decode cX8_times 85 = .ok (.laload, 1) := by decide +kernel
theorem dX8_times_86 : decode cX8_times 86 = .ok (.lmul, 1) := by decide +kernel
theorem dX8_times_87 : decode cX8_times 87 = .ok (.ladd, 1) := by decide +kernel
theorem dX8_times_88 : decode cX8_times 88 = .ok (.lastore, 1) := by decide +kernel
theorem dX8_times_89 : decode cX8_times 89 = .ok (.iinc 5 1, 3) := by decide +kernel
theorem dX8_times_92 : decode cX8_times 92 = .ok (.goto (-55), 3) := by decide +kernel
theorem dX8_times_95 : decode cX8_times 95 = .ok (.iinc 4 1, 3) := by decide +kernel
theorem dX8_times_98 : decode cX8_times 98 = .ok (.goto (-71), 3) := by decide +kernel
theorem dX8_times_101 : decode cX8_times 101 = .ok (.iconst 0, 1) := by decide +kernel
theorem dX8_times_102 : decode cX8_times 102 = .ok (.istore 4, 2) := by decide +kernel
theorem dX8_times_104 : decode cX8_times 104 = .ok (.iload 4, 2) := by decide +kernel
theorem dX8_times_106 : decode cX8_times 106 = .ok (.bipush 8, 2) := by decide +kernel
theorem dX8_times_108 : decode cX8_times 108 = .ok (.if_icmp .ge 20, 3) := by decide +kernel
theorem dX8_times_111 : decode cX8_times 111 = .ok (.aload_n 3, 1) := by decide +kernel
theorem dX8_times_112 : decode cX8_times 112 = .ok (.iload 4, 2) := by decide +kernel
theorem dX8_times_114 : decode cX8_times 114 = .ok (.aload_n 0, 1) := by decide +kernel
theorem dX8_times_115 : decode cX8_times 115 = .ok (.getfield 38, 3) := by decide +kernel
theorem dX8_times_118 : decode cX8_times 118 = .ok (.iload 4, 2) := by decide +kernel
theorem dX8_times_120 : decode cX8_times 120 = .ok (.laload, 1) := by decide +kernel
theorem dX8_times_121 : decode cX8_times 121 = .ok (.lastore, 1) := by decide +kernel
theorem dX8_times_122 : decode cX8_times 122 = .ok (.iinc 4 1, 3) := by decide +kernel
theorem dX8_times_125 : decode cX8_times 125 = .ok (.goto (-21), 3) := by decide +kernel
theorem dX8_times_128 : decode cX8_times 128 = .ok (.return_, 1) := by decide +kernel
theorem dX8_halves_0 : decode cX8_halves 0 = .ok (.iconst 1, 1) := by decide +kernel
theorem dX8_halves_1 : decode cX8_halves 1 = .ok (.istore_n 2, 1) := by decide +kernel
theorem dX8_halves_2 : decode cX8_halves 2 = .ok (.iconst 0, 1) := by decide +kernel
theorem dX8_halves_3 : decode cX8_halves 3 = .ok (.istore_n 3, 1) := by decide +kernel
theorem dX8_halves_4 : decode cX8_halves 4 = .ok (.iload_n 3, 1) := by decide +kernel
theorem dX8_halves_5 : decode cX8_halves 5 = .ok (.bipush 8, 2) := by decide +kernel
theorem dX8_halves_7 : decode cX8_halves 7 = .ok (.if_icmp .ge 56, 3) := by decide +kernel
theorem dX8_halves_10 : decode cX8_halves 10 = .ok (.iload_n 2, 1) := by decide +kernel
theorem dX8_halves_11 : decode cX8_halves 11 = .ok (.ifCond .eq 44, 3) := by decide +kernel
theorem dX8_halves_14 : decode cX8_halves 14 = .ok (.aload_n 0, 1) := by decide +kernel
theorem dX8_halves_15 : decode cX8_halves 15 = .ok (.iload_n 3, 1) := by decide +kernel
theorem dX8_halves_16 : decode cX8_halves 16 = .ok (.laload, 1) := by decide +kernel
theorem dX8_halves_17 : decode cX8_halves 17 = .ok (.iload_n 1, 1) := by decide +kernel
theorem dX8_halves_18 : decode cX8_halves 18 = .ok (.i2l, 1) := by decide +kernel
theorem dX8_halves_19 : decode cX8_halves 19 = .ok (.lrem, 1) := by decide +kernel
theorem dX8_halves_20 : decode cX8_halves 20 = .ok (.lconst 0, 1) := by decide +kernel
theorem dX8_halves_21 : decode cX8_halves 21 = .ok (.lcmp, 1) := by decide +kernel
theorem dX8_halves_22 : decode cX8_halves 22 = .ok (.ifCond .ne 33, 3) := by decide +kernel
theorem dX8_halves_25 : decode cX8_halves 25 = .ok (.aload_n 0, 1) := by decide +kernel
theorem dX8_halves_26 : decode cX8_halves 26 = .ok (.iload_n 3, 1) := by decide +kernel
theorem dX8_halves_27 : decode cX8_halves 27 = .ok (.laload, 1) := by decide +kernel
theorem dX8_halves_28 : decode cX8_halves 28 = .ok (.iload_n 1, 1) := by decide +kernel
theorem dX8_halves_29 : decode cX8_halves 29 = .ok (.i2l, 1) := by decide +kernel
theorem dX8_halves_30 : decode cX8_halves 30 = .ok (.ldiv, 1) := by decide +kernel
theorem dX8_halves_31 : decode cX8_halves 31 = .ok (.ldc2_w 93, 3) := by decide +kernel
theorem dX8_halves_34 : decode cX8_halves 34 = .ok (.lcmp, 1) := by decide +kernel
theorem dX8_halves_35 : decode cX8_halves 35 = .ok (.ifCond .lt 20, 3) := by decide +kernel
theorem dX8_halves_38 : decode cX8_halves 38 = .ok (.aload_n 0, 1) := by decide +kernel
theorem dX8_halves_39 : decode cX8_halves 39 = .ok (.iload_n 3, 1) := by decide +kernel
theorem dX8_halves_40 : decode cX8_halves 40 = .ok (.laload, 1) := by decide +kernel
theorem dX8_halves_41 : decode cX8_halves 41 = .ok (.iload_n 1, 1) := by decide +kernel
theorem dX8_halves_42 : decode cX8_halves 42 = .ok (.i2l, 1) := by decide +kernel
theorem dX8_halves_43 : decode cX8_halves 43 = .ok (.ldiv, 1) := by decide +kernel
theorem dX8_halves_44 : decode cX8_halves 44 = .ok (.ldc2_w 95, 3) := by decide +kernel
theorem dX8_halves_47 : decode cX8_halves 47 = .ok (.lcmp, 1) := by decide +kernel
theorem dX8_halves_48 : decode cX8_halves 48 = .ok (.ifCond .gt 7, 3) := by decide +kernel
theorem dX8_halves_51 : decode cX8_halves 51 = .ok (.iconst 1, 1) := by decide +kernel
theorem dX8_halves_52 : decode cX8_halves 52 = .ok (.goto 4, 3) := by decide +kernel
theorem dX8_halves_55 : decode cX8_halves 55 = .ok (.iconst 0, 1) := by decide +kernel
theorem dX8_halves_56 : decode cX8_halves 56 = .ok (.istore_n 2, 1) := by decide +kernel
theorem dX8_halves_57 : decode cX8_halves 57 = .ok (.iinc 3 1, 3) := by decide +kernel
theorem dX8_halves_60 : decode cX8_halves 60 = .ok (.goto (-56), 3) := by decide +kernel
theorem dX8_halves_63 : decode cX8_halves 63 = .ok (.iconst 0, 1) := by decide +kernel
theorem dX8_halves_64 : decode cX8_halves 64 = .ok (.istore_n 3, 1) := by decide +kernel
theorem dX8_halves_65 : decode cX8_halves 65 = .ok (.iload_n 3, 1) := by decide +kernel
theorem dX8_halves_66 : decode cX8_halves 66 = .ok (.bipush 8, 2) := by decide +kernel
theorem dX8_halves_68 : decode cX8_halves 68 = .ok (.if_icmp .ge 21, 3) := by decide +kernel
theorem dX8_halves_71 : decode cX8_halves 71 = .ok (.iload_n 2, 1) := by decide +kernel
theorem dX8_halves_72 : decode cX8_halves 72 = .ok (.ifCond .eq 17, 3) := by decide +kernel
theorem dX8_halves_75 : decode cX8_halves 75 = .ok (.aload_n 0, 1) := by decide +kernel
theorem dX8_halves_76 : decode cX8_halves 76 = .ok (.iload_n 3, 1) := by decide +kernel
theorem dX8_halves_77 : decode cX8_halves 77 = .ok (.dup2, 1) := by decide +kernel
theorem dX8_halves_78 : decode cX8_halves 78 = .ok (.laload, 1) := by decide +kernel
theorem dX8_halves_79 : decode cX8_halves 79 = .ok (.iload_n 1, 1) := by decide +kernel
theorem dX8_halves_80 : decode cX8_halves 80 = .ok (.i2l, 1) := by decide +kernel
theorem dX8_halves_81 : decode cX8_halves 81 = .ok (.ldiv, 1) := by decide +kernel
theorem dX8_halves_82 : decode cX8_halves 82 = .ok (.lastore, 1) := by decide +kernel
theorem dX8_halves_83 : decode cX8_halves 83 = .ok (.iinc 3 1, 3) := by decide +kernel
theorem dX8_halves_86 : decode cX8_halves 86 = .ok (.goto (-21), 3) := by decide +kernel
theorem dX8_halves_89 : decode cX8_halves 89 = .ok (.iload_n 2, 1) := by decide +kernel
theorem dX8_halves_90 : decode cX8_halves 90 = .ok (.ireturn, 1) := by decide +kernel
theorem dX8_puts_0 : decode cX8_puts 0 = .ok (.iconst 0, 1) := by decide +kernel
theorem dX8_puts_1 : decode cX8_puts 1 = .ok (.istore_n 3, 1) := by decide +kernel
theorem dX8_puts_2 : decode cX8_puts 2 = .ok (.iload_n 3, 1) := by decide +kernel
theorem dX8_puts_3 : decode cX8_puts 3 = .ok (.bipush 8, 2) := by decide +kernel
theorem dX8_puts_5 : decode cX8_puts 5 = .ok (.if_icmp .ge 24, 3) := by decide +kernel
theorem dX8_puts_8 : decode cX8_puts 8 = .ok (.aload_n 0, 1) := by decide +kernel
theorem dX8_puts_9 : decode cX8_puts 9 = .ok (.getfield 7, 3) := by decide +kernel
theorem dX8_puts_12 : decode cX8_puts 12 = .ok (.bipush 8, 2) := by decide +kernel
theorem dX8_puts_14 : decode cX8_puts 14 = .ok (.iload_n 2, 1) := by decide +kernel
theorem dX8_puts_15 : decode cX8_puts 15 = .ok (.imul, 1) := by decide +kernel
theorem dX8_puts_16 : decode cX8_puts 16 = .ok (.iload_n 3, 1) := by decide +kernel
theorem dX8_puts_17 : decode cX8_puts 17 = .ok (.iadd, 1) := by decide +kernel
theorem dX8_puts_18 : decode cX8_puts 18 = .ok (.aload_n 1, 1) := by decide +kernel
theorem dX8_puts_19 : decode cX8_puts 19 = .ok (.iload_n 3, 1) := by decide +kernel
theorem dX8_puts_20 : decode cX8_puts 20 = .ok (.laload, 1) := by decide +kernel
theorem dX8_puts_21 : decode cX8_puts 21 = .ok (.l2i, 1) := by decide +kernel
theorem dX8_puts_22 : decode cX8_puts 22 = .ok (.iastore, 1) := by decide +kernel
theorem dX8_puts_23 : decode cX8_puts 23 = .ok (.iinc 3 1, 3) := by decide +kernel
theorem dX8_puts_26 : decode cX8_puts 26 = .ok (.goto (-24), 3) := by decide +kernel
theorem dX8_puts_29 : decode cX8_puts 29 = .ok (.return_, 1) := by decide +kernel
theorem dX8_square_0 : decode cX8_square 0 = .ok (.lconst 0, 1) := by decide +kernel
theorem dX8_square_1 : decode cX8_square 1 = .ok (.lstore_n 1, 1) := by decide +kernel
theorem dX8_square_2 : decode cX8_square 2 = .ok (.iconst 0, 1) := by decide +kernel
theorem dX8_square_3 : decode cX8_square 3 = .ok (.istore_n 3, 1) := by decide +kernel
theorem dX8_square_4 : decode cX8_square 4 = .ok (.iload_n 3, 1) := by decide +kernel
theorem dX8_square_5 : decode cX8_square 5 = .ok (.bipush 8, 2) := by decide +kernel
theorem dX8_square_7 : decode cX8_square 7 = .ok (.if_icmp .ge 19, 3) := by decide +kernel
theorem dX8_square_10 : decode cX8_square 10 = .ok (.lload_n 1, 1) := by decide +kernel
theorem dX8_square_11 : decode cX8_square 11 = .ok (.aload_n 0, 1) := by decide +kernel
theorem dX8_square_12 : decode cX8_square 12 = .ok (.iload_n 3, 1) := by decide +kernel
theorem dX8_square_13 : decode cX8_square 13 = .ok (.laload, 1) := by decide +kernel
theorem dX8_square_14 : decode cX8_square 14 = .ok (.aload_n 0, 1) := by decide +kernel
theorem dX8_square_15 : decode cX8_square 15 = .ok (.iload_n 3, 1) := by decide +kernel
theorem dX8_square_16 : decode cX8_square 16 = .ok (.laload, 1) := by decide +kernel
theorem dX8_square_17 : decode cX8_square 17 = .ok (.lmul, 1) := by decide +kernel
theorem dX8_square_18 : decode cX8_square 18 = .ok (.ladd, 1) := by decide +kernel
theorem dX8_square_19 : decode cX8_square 19 = .ok (.lstore_n 1, 1) := by decide +kernel
theorem dX8_square_20 : decode cX8_square 20 = .ok (.iinc 3 1, 3) := by decide +kernel
theorem dX8_square_23 : decode cX8_square 23 = .ok (.goto (-19), 3) := by decide +kernel
theorem dX8_square_26 : decode cX8_square 26 = .ok (.lload_n 1, 1) := by decide +kernel
theorem dX8_square_27 : decode cX8_square 27 = .ok (.lreturn, 1) := by decide +kernel
theorem dX8_isNought_0 : decode cX8_isNought 0 = .ok (.aload_n 0, 1) := by decide +kernel
theorem dX8_isNought_1 : decode cX8_isNought 1 = .ok (.invokestatic 97, 3) := by decide +kernel
theorem dX8_isNought_4 : decode cX8_isNought 4 = .ok (.lconst 0, 1) := by decide +kernel
theorem dX8_isNought_5 : decode cX8_isNought 5 = .ok (.lcmp, 1) := by decide +kernel
theorem dX8_isNought_6 : decode cX8_isNought 6 = .ok (.ifCond .ne 7, 3) := by decide +kernel
theorem dX8_isNought_9 : decode cX8_isNought 9 = .ok (.iconst 1, 1) := by decide +kernel
theorem dX8_isNought_10 : decode cX8_isNought 10 = .ok (.goto 4, 3) := by decide +kernel
theorem dX8_isNought_13 : decode cX8_isNought 13 = .ok (.iconst 0, 1) := by decide +kernel
theorem dX8_isNought_14 : decode cX8_isNought 14 = .ok (.ireturn, 1) := by decide +kernel
theorem dX8_isSet_0 : decode cX8_isSet 0 = .ok (.iconst 1, 1) := by decide +kernel
theorem dX8_isSet_1 : decode cX8_isSet 1 = .ok (.iconst 1, 1) := by decide +kernel
theorem dX8_isSet_2 : decode cX8_isSet 2 = .ok (.iload_n 2, 1) := by decide +kernel
theorem dX8_isSet_3 : decode cX8_isSet 3 = .ok (.ishl, 1) := by decide +kernel
theorem dX8_isSet_4 : decode cX8_isSet 4 = .ok (.ior, 1) := by decide +kernel
theorem dX8_isSet_5 : decode cX8_isSet 5 = .ok (.istore_n 3, 1) := by decide +kernel
theorem dX8_isSet_6 : decode cX8_isSet 6 = .ok (.iload_n 1, 1) := by decide +kernel
theorem dX8_isSet_7 : decode cX8_isSet 7 = .ok (.iload_n 3, 1) := by decide +kernel
theorem dX8_isSet_8 : decode cX8_isSet 8 = .ok (.iand, 1) := by decide +kernel
theorem dX8_isSet_9 : decode cX8_isSet 9 = .ok (.ifCond .eq 10, 3) := by decide +kernel
theorem dX8_isSet_12 : decode cX8_isSet 12 = .ok (.iload_n 1, 1) := by decide +kernel
theorem dX8_isSet_13 : decode cX8_isSet 13 = .ok (.iload_n 3, 1) := by decide +kernel
theorem dX8_isSet_14 : decode cX8_isSet 14 = .ok (.iand, 1) := by decide +kernel
theorem dX8_isSet_15 : decode cX8_isSet 15 = .ok (.iload_n 3, 1) := by decide +kernel
theorem dX8_isSet_16 : decode cX8_isSet 16 = .ok (.if_icmp .ne 7, 3) := by decide +kernel
theorem dX8_isSet_19 : decode cX8_isSet 19 = .ok (.iload_n 1, 1) := by decide +kernel
theorem dX8_isSet_20 : decode cX8_isSet 20 = .ok (.goto 6, 3) := by decide +kernel
theorem dX8_isSet_23 : decode cX8_isSet 23 = .ok (.iload_n 1, 1) := by decide +kernel
theorem dX8_isSet_24 : decode cX8_isSet 24 = .ok (.iload_n 3, 1) := by decide +kernel
theorem dX8_isSet_25 : decode cX8_isSet 25 = .ok (.ixor, 1) := by decide +kernel
theorem dX8_isSet_26 : decode cX8_isSet 26 = .ok (.istore 4, 2) := by decide +kernel
theorem dX8_isSet_28 : decode cX8_isSet 28 = .ok (.iload 4, 2) := by decide +kernel
theorem dX8_isSet_30 : decode cX8_isSet 30 = .ok (.ifCond .eq 11, 3) := by decide +kernel
theorem dX8_isSet_33 : decode cX8_isSet 33 = .ok (.iload 4, 2) := by decide +kernel
theorem dX8_isSet_35 : decode cX8_isSet 35 = .ok (.sipush 255, 3) := by decide +kernel
theorem dX8_isSet_38 : decode cX8_isSet 38 = .ok (.if_icmp .ne 7, 3) := by decide +kernel
theorem dX8_isSet_41 : decode cX8_isSet 41 = .ok (.iconst 1, 1) := by decide +kernel
theorem dX8_isSet_42 : decode cX8_isSet 42 = .ok (.goto 4, 3) := by decide +kernel
theorem dX8_isSet_45 : decode cX8_isSet 45 = .ok (.iconst 0, 1) := by decide +kernel
theorem dX8_isSet_46 : decode cX8_isSet 46 = .ok (.istore 5, 2) := by decide +kernel
theorem dX8_isSet_48 : decode cX8_isSet 48 = .ok (.iconst 0, 1) := by decide +kernel
theorem dX8_isSet_49 : decode cX8_isSet 49 = .ok (.istore 6, 2) := by decide +kernel
theorem dX8_isSet_51 : decode cX8_isSet 51 = .ok (.iload 6, 2) := by decide +kernel
theorem dX8_isSet_53 : decode cX8_isSet 53 = .ok (.bipush 7, 2) := by decide +kernel
theorem dX8_isSet_55 : decode cX8_isSet 55 = .ok (.if_icmp .ge 73, 3) := by decide +kernel
theorem dX8_isSet_58 : decode cX8_isSet 58 = .ok (.iconst 1, 1) := by decide +kernel
theorem dX8_isSet_59 : decode cX8_isSet 59 = .ok (.iconst 1, 1) := by decide +kernel
theorem dX8_isSet_60 : decode cX8_isSet 60 = .ok (.iload 6, 2) := by decide +kernel
theorem dX8_isSet_62 : decode cX8_isSet 62 = .ok (.iconst 1, 1) := by decide +kernel
theorem dX8_isSet_63 : decode cX8_isSet 63 = .ok (.iadd, 1) := by decide +kernel
theorem dX8_isSet_64 : decode cX8_isSet 64 = .ok (.ishl, 1) := by decide +kernel
theorem dX8_isSet_65 : decode cX8_isSet 65 = .ok (.ior, 1) := by decide +kernel
theorem dX8_isSet_66 : decode cX8_isSet 66 = .ok (.iconst 1, 1) := by decide +kernel
theorem dX8_isSet_67 : decode cX8_isSet 67 = .ok (.iload 6, 2) := by decide +kernel
theorem dX8_isSet_69 : decode cX8_isSet 69 = .ok (.iconst 1, 1) := by decide +kernel
theorem dX8_isSet_70 : decode cX8_isSet 70 = .ok (.iadd, 1) := by decide +kernel
theorem dX8_isSet_71 : decode cX8_isSet 71 = .ok (.bipush 7, 2) := by decide +kernel
theorem dX8_isSet_73 : decode cX8_isSet 73 = .ok (.irem, 1) := by decide +kernel
theorem dX8_isSet_74 : decode cX8_isSet 74 = .ok (.iconst 1, 1) := by decide +kernel
theorem dX8_isSet_75 : decode cX8_isSet 75 = .ok (.iadd, 1) := by decide +kernel
theorem dX8_isSet_76 : decode cX8_isSet 76 = .ok (.ishl, 1) := by decide +kernel
theorem dX8_isSet_77 : decode cX8_isSet 77 = .ok (.ior, 1) := by decide +kernel
theorem dX8_isSet_78 : decode cX8_isSet 78 = .ok (.iconst 1, 1) := by decide +kernel
theorem dX8_isSet_79 : decode cX8_isSet 79 = .ok (.iload 6, 2) := by decide +kernel
theorem dX8_isSet_81 : decode cX8_isSet 81 = .ok (.iconst 3, 1) := by decide +kernel
theorem dX8_isSet_82 : decode cX8_isSet 82 = .ok (.iadd, 1) := by decide +kernel
theorem dX8_isSet_83 : decode cX8_isSet 83 = .ok (.bipush 7, 2) := by decide +kernel
theorem dX8_isSet_85 : decode cX8_isSet 85 = .ok (.irem, 1) := by decide +kernel
theorem dX8_isSet_86 : decode cX8_isSet 86 = .ok (.iconst 1, 1) := by decide +kernel
theorem dX8_isSet_87 : decode cX8_isSet 87 = .ok (.iadd, 1) := by decide +kernel
theorem dX8_isSet_88 : decode cX8_isSet 88 = .ok (.ishl, 1) := by decide +kernel
theorem dX8_isSet_89 : decode cX8_isSet 89 = .ok (.ior, 1) := by decide +kernel
theorem dX8_isSet_90 : decode cX8_isSet 90 = .ok (.istore 7, 2) := by decide +kernel
theorem dX8_isSet_92 : decode cX8_isSet 92 = .ok (.iload 5, 2) := by decide +kernel
theorem dX8_isSet_94 : decode cX8_isSet 94 = .ok (.ifCond .ne 21, 3) := by decide +kernel
theorem dX8_isSet_97 : decode cX8_isSet 97 = .ok (.iload 4, 2) := by decide +kernel
theorem dX8_isSet_99 : decode cX8_isSet 99 = .ok (.iload 7, 2) := by decide +kernel
theorem dX8_isSet_101 : decode cX8_isSet 101 = .ok (.if_icmp .eq 14, 3) := by decide +kernel
theorem dX8_isSet_104 : decode cX8_isSet 104 = .ok (.iload 4, 2) := by decide +kernel
theorem dX8_isSet_106 : decode cX8_isSet 106 = .ok (.iload 7, 2) := by decide +kernel
theorem dX8_isSet_108 : decode cX8_isSet 108 = .ok (.sipush 255, 3) := by decide +kernel
theorem dX8_isSet_111 : decode cX8_isSet 111 = .ok (.ixor, 1) := by decide +kernel
theorem dX8_isSet_112 : decode cX8_isSet 112 = .ok (.if_icmp .ne 7, 3) := by decide +kernel
theorem dX8_isSet_115 : decode cX8_isSet 115 = .ok (.iconst 1, 1) := by decide +kernel
theorem dX8_isSet_116 : decode cX8_isSet 116 = .ok (.goto 4, 3) := by decide +kernel
theorem dX8_isSet_119 : decode cX8_isSet 119 = .ok (.iconst 0, 1) := by decide +kernel
theorem dX8_isSet_120 : decode cX8_isSet 120 = .ok (.istore 5, 2) := by decide +kernel
theorem dX8_isSet_122 : decode cX8_isSet 122 = .ok (.iinc 6 1, 3) := by decide +kernel
theorem dX8_isSet_125 : decode cX8_isSet 125 = .ok (.goto (-74), 3) := by decide +kernel
theorem dX8_isSet_128 : decode cX8_isSet 128 = .ok (.iload 5, 2) := by decide +kernel
theorem dX8_isSet_130 : decode cX8_isSet 130 = .ok (.ireturn, 1) := by decide +kernel
theorem dX8_isIn_0 : decode cX8_isIn 0 = .ok (.iconst 0, 1) := by decide +kernel
theorem dX8_isIn_1 : decode cX8_isIn 1 = .ok (.istore_n 3, 1) := by decide +kernel
theorem dX8_isIn_2 : decode cX8_isIn 2 = .ok (.iconst 0, 1) := by decide +kernel
theorem dX8_isIn_3 : decode cX8_isIn 3 = .ok (.istore 4, 2) := by decide +kernel
theorem dX8_isIn_5 : decode cX8_isIn 5 = .ok (.iload 4, 2) := by decide +kernel
theorem dX8_isIn_7 : decode cX8_isIn 7 = .ok (.bipush 8, 2) := by decide +kernel
theorem dX8_isIn_9 : decode cX8_isIn 9 = .ok (.if_icmp .ge 33, 3) := by decide +kernel
theorem dX8_isIn_12 : decode cX8_isIn 12 = .ok (.iload_n 3, 1) := by decide +kernel
theorem dX8_isIn_13 : decode cX8_isIn 13 = .ok (.aload_n 1, 1) := by decide +kernel
theorem dX8_isIn_14 : decode cX8_isIn 14 = .ok (.iload 4, 2) := by decide +kernel
theorem dX8_isIn_16 : decode cX8_isIn 16 = .ok (.laload, 1) := by decide +kernel
theorem dX8_isIn_17 : decode cX8_isIn 17 = .ok (.ldc2_w 101, 3) := by decide +kernel
theorem dX8_isIn_20 : decode cX8_isIn 20 = .ok (.lrem, 1) := by decide +kernel
theorem dX8_isIn_21 : decode cX8_isIn 21 = .ok (.lconst 0, 1) := by decide +kernel
theorem dX8_isIn_22 : decode cX8_isIn 22 = .ok (.lcmp, 1) := by decide +kernel
theorem dX8_isIn_23 : decode cX8_isIn 23 = .ok (.ifCond .ne 7, 3) := by decide +kernel
theorem dX8_isIn_26 : decode cX8_isIn 26 = .ok (.iconst 0, 1) := by decide +kernel
theorem dX8_isIn_27 : decode cX8_isIn 27 = .ok (.goto 7, 3) := by decide +kernel
theorem dX8_isIn_30 : decode cX8_isIn 30 = .ok (.iconst 1, 1) := by decide +kernel
theorem dX8_isIn_31 : decode cX8_isIn 31 = .ok (.iload 4, 2) := by decide +kernel
theorem dX8_isIn_33 : decode cX8_isIn 33 = .ok (.ishl, 1) := by decide +kernel
theorem dX8_isIn_34 : decode cX8_isIn 34 = .ok (.ior, 1) := by decide +kernel
theorem dX8_isIn_35 : decode cX8_isIn 35 = .ok (.istore_n 3, 1) := by decide +kernel
theorem dX8_isIn_36 : decode cX8_isIn 36 = .ok (.iinc 4 1, 3) := by decide +kernel
theorem dX8_isIn_39 : decode cX8_isIn 39 = .ok (.goto (-34), 3) := by decide +kernel
theorem dX8_isIn_42 : decode cX8_isIn 42 = .ok (.iload_n 2, 1) := by decide +kernel
theorem dX8_isIn_43 : decode cX8_isIn 43 = .ok (.ifCond .ne 15, 3) := by decide +kernel
theorem dX8_isIn_46 : decode cX8_isIn 46 = .ok (.iload_n 3, 1) := by decide +kernel
theorem dX8_isIn_47 : decode cX8_isIn 47 = .ok (.ifCond .ne 7, 3) := by decide +kernel
theorem dX8_isIn_50 : decode cX8_isIn 50 = .ok (.iconst 1, 1) := by decide +kernel
theorem dX8_isIn_51 : decode cX8_isIn 51 = .ok (.goto 13, 3) := by decide +kernel
theorem dX8_isIn_54 : decode cX8_isIn 54 = .ok (.iconst 0, 1) := by decide +kernel
theorem dX8_isIn_55 : decode cX8_isIn 55 = .ok (.goto 9, 3) := by decide +kernel
theorem dX8_isIn_58 : decode cX8_isIn 58 = .ok (.aload_n 0, 1) := by decide +kernel
theorem dX8_isIn_59 : decode cX8_isIn 59 = .ok (.iload_n 3, 1) := by decide +kernel
theorem dX8_isIn_60 : decode cX8_isIn 60 = .ok (.iload_n 2, 1) := by decide +kernel
theorem dX8_isIn_61 : decode cX8_isIn 61 = .ok (.invokevirtual 103, 3) := by decide +kernel
theorem dX8_isIn_64 : decode cX8_isIn 64 = .ok (.ireturn, 1) := by decide +kernel
theorem dX8_laysUnits_0 : decode cX8_laysUnits 0 = .ok (.aload_n 0, 1) := by decide +kernel
theorem dX8_laysUnits_1 : decode cX8_laysUnits 1 = .ok (.getfield 44, 3) := by decide +kernel
theorem dX8_laysUnits_4 : decode cX8_laysUnits 4 = .ok (.aload_n 0, 1) := by decide +kernel
theorem dX8_laysUnits_5 : decode cX8_laysUnits 5 = .ok (.getfield 7, 3) := by decide +kernel
theorem dX8_laysUnits_8 : decode cX8_laysUnits 8 = .ok (.bipush 64, 2) := by decide +kernel
theorem dX8_laysUnits_10 : decode cX8_laysUnits 10 = .ok (.iaload, 1) := by decide +kernel
theorem dX8_laysUnits_11 : decode cX8_laysUnits 11 = .ok (.if_icmp .ne 4, 3) := by decide +kernel
theorem dX8_laysUnits_14 : decode cX8_laysUnits 14 = .ok (.return_, 1) := by decide +kernel
theorem dX8_laysUnits_15 : decode cX8_laysUnits 15 = .ok (.aload_n 0, 1) := by decide +kernel
theorem dX8_laysUnits_16 : decode cX8_laysUnits 16 = .ok (.aload_n 0, 1) := by decide +kernel
theorem dX8_laysUnits_17 : decode cX8_laysUnits 17 = .ok (.getfield 7, 3) := by decide +kernel
theorem dX8_laysUnits_20 : decode cX8_laysUnits 20 = .ok (.bipush 64, 2) := by decide +kernel
theorem dX8_laysUnits_22 : decode cX8_laysUnits 22 = .ok (.iaload, 1) := by decide +kernel
theorem dX8_laysUnits_23 : decode cX8_laysUnits 23 = .ok (.putfield 44, 3) := by decide +kernel
theorem dX8_laysUnits_26 : decode cX8_laysUnits 26 = .ok (.aload_n 0, 1) := by decide +kernel
theorem dX8_laysUnits_27 : decode cX8_laysUnits 27 = .ok (.iconst 0, 1) := by decide +kernel
theorem dX8_laysUnits_28 : decode cX8_laysUnits 28 = .ok (.putfield 107, 3) := by decide +kernel
theorem dX8_laysUnits_31 : decode cX8_laysUnits 31 = .ok (.iconst 0, 1) := by decide +kernel
theorem dX8_laysUnits_32 : decode cX8_laysUnits 32 = .ok (.istore_n 1, 1) := by decide +kernel
theorem dX8_laysUnits_33 : decode cX8_laysUnits 33 = .ok (.aload_n 0, 1) := by decide +kernel
theorem dX8_laysUnits_34 : decode cX8_laysUnits 34 = .ok (.getfield 32, 3) := by decide +kernel
theorem dX8_laysUnits_37 : decode cX8_laysUnits 37 = .ok (.iconst 0, 1) := by decide +kernel
theorem dX8_laysUnits_38 : decode cX8_laysUnits 38 = .ok (.ldc2_w 110, 3) := by decide +kernel
theorem dX8_laysUnits_41 : decode cX8_laysUnits 41 = .ok (.lastore, 1) := by decide +kernel
theorem dX8_laysUnits_42 : decode cX8_laysUnits 42 = .ok (.iload_n 1, 1) := by decide +kernel
theorem dX8_laysUnits_43 : decode cX8_laysUnits 43 = .ok (.ifCond .lt 171, 3) := by decide +kernel
theorem dX8_laysUnits_46 : decode cX8_laysUnits 46 = .ok (.aload_n 0, 1) := by decide +kernel
theorem dX8_laysUnits_47 : decode cX8_laysUnits 47 = .ok (.getfield 32, 3) := by decide +kernel
theorem dX8_laysUnits_50 : decode cX8_laysUnits 50 = .ok (.iload_n 1, 1) := by decide +kernel
theorem dX8_laysUnits_51 : decode cX8_laysUnits 51 = .ok (.dup2, 1) := by decide +kernel
theorem dX8_laysUnits_52 : decode cX8_laysUnits 52 = .ok (.laload, 1) := by decide +kernel
theorem dX8_laysUnits_53 : decode cX8_laysUnits 53 = .ok (.lconst 1, 1) := by decide +kernel
theorem dX8_laysUnits_54 : decode cX8_laysUnits 54 = .ok (.ladd, 1) := by decide +kernel
theorem dX8_laysUnits_55 : decode cX8_laysUnits 55 = .ok (.lastore, 1) := by decide +kernel
theorem dX8_laysUnits_56 : decode cX8_laysUnits 56 = .ok (.lconst 0, 1) := by decide +kernel
theorem dX8_laysUnits_57 : decode cX8_laysUnits 57 = .ok (.lstore_n 2, 1) := by decide +kernel
theorem dX8_laysUnits_58 : decode cX8_laysUnits 58 = .ok (.iconst 0, 1) := by decide +kernel
theorem dX8_laysUnits_59 : decode cX8_laysUnits 59 = .ok (.istore 4, 2) := by decide +kernel
theorem dX8_laysUnits_61 : decode cX8_laysUnits 61 = .ok (.iload 4, 2) := by decide +kernel
theorem dX8_laysUnits_63 : decode cX8_laysUnits 63 = .ok (.iload_n 1, 1) := by decide +kernel
theorem dX8_laysUnits_64 : decode cX8_laysUnits 64 = .ok (.if_icmp .gt 27, 3) := by decide +kernel
theorem dX8_laysUnits_67 : decode cX8_laysUnits 67 = .ok (.lload_n 2, 1) := by decide +kernel
theorem dX8_laysUnits_68 : decode cX8_laysUnits 68 = .ok (.aload_n 0, 1) := by decide +kernel
theorem dX8_laysUnits_69 : decode cX8_laysUnits 69 = .ok (.getfield 32, 3) := by decide +kernel
theorem dX8_laysUnits_72 : decode cX8_laysUnits 72 = .ok (.iload 4, 2) := by decide +kernel
theorem dX8_laysUnits_74 : decode cX8_laysUnits 74 = .ok (.laload, 1) := by decide +kernel
theorem dX8_laysUnits_75 : decode cX8_laysUnits 75 = .ok (.aload_n 0, 1) := by decide +kernel
theorem dX8_laysUnits_76 : decode cX8_laysUnits 76 = .ok (.getfield 32, 3) := by decide +kernel
theorem dX8_laysUnits_79 : decode cX8_laysUnits 79 = .ok (.iload 4, 2) := by decide +kernel
theorem dX8_laysUnits_81 : decode cX8_laysUnits 81 = .ok (.laload, 1) := by decide +kernel
theorem dX8_laysUnits_82 : decode cX8_laysUnits 82 = .ok (.lmul, 1) := by decide +kernel
theorem dX8_laysUnits_83 : decode cX8_laysUnits 83 = .ok (.ladd, 1) := by decide +kernel
theorem dX8_laysUnits_84 : decode cX8_laysUnits 84 = .ok (.lstore_n 2, 1) := by decide +kernel
theorem dX8_laysUnits_85 : decode cX8_laysUnits 85 = .ok (.iinc 4 1, 3) := by decide +kernel
theorem dX8_laysUnits_88 : decode cX8_laysUnits 88 = .ok (.goto (-27), 3) := by decide +kernel
theorem dX8_laysUnits_91 : decode cX8_laysUnits 91 = .ok (.aload_n 0, 1) := by decide +kernel
theorem dX8_laysUnits_92 : decode cX8_laysUnits 92 = .ok (.getfield 32, 3) := by decide +kernel
theorem dX8_laysUnits_95 : decode cX8_laysUnits 95 = .ok (.iload_n 1, 1) := by decide +kernel
theorem dX8_laysUnits_96 : decode cX8_laysUnits 96 = .ok (.laload, 1) := by decide +kernel
theorem dX8_laysUnits_97 : decode cX8_laysUnits 97 = .ok (.ldc2_w 101, 3) := by decide +kernel
theorem dX8_laysUnits_100 : decode cX8_laysUnits 100 = .ok (.lcmp, 1) := by decide +kernel
theorem dX8_laysUnits_101 : decode cX8_laysUnits 101 = .ok (.ifCond .le 9, 3) := by decide +kernel
theorem dX8_laysUnits_104 : decode cX8_laysUnits 104 = .ok (.iinc 1 (-1), 3) := by decide +kernel
theorem dX8_laysUnits_107 : decode cX8_laysUnits 107 = .ok (.goto 104, 3) := by decide +kernel
theorem dX8_laysUnits_110 : decode cX8_laysUnits 110 = .ok (.lload_n 2, 1) := by decide +kernel
theorem dX8_laysUnits_111 : decode cX8_laysUnits 111 = .ok (.ldc2_w 112, 3) := by decide +kernel
theorem dX8_laysUnits_114 : decode cX8_laysUnits 114 = .ok (.lcmp, 1) := by decide +kernel
theorem dX8_laysUnits_115 : decode cX8_laysUnits 115 = .ok (.ifCond .gt 24, 3) := by decide +kernel
theorem dX8_laysUnits_118 : decode cX8_laysUnits 118 = .ok (.iload_n 1, 1) := by decide +kernel
theorem dX8_laysUnits_119 : decode cX8_laysUnits 119 = .ok (.bipush 7, 2) := by decide +kernel
theorem dX8_laysUnits_121 : decode cX8_laysUnits 121 = .ok (.if_icmp .ge 18, 3) := by decide +kernel
theorem dX8_laysUnits_124 : decode cX8_laysUnits 124 = .ok (.iinc 1 1, 3) := by decide +kernel
theorem dX8_laysUnits_127 : decode cX8_laysUnits 127 = .ok (.aload_n 0, 1) := by decide +kernel
theorem dX8_laysUnits_128 : decode cX8_laysUnits 128 = .ok (.getfield 32, 3) := by decide +kernel
theorem dX8_laysUnits_131 : decode cX8_laysUnits 131 = .ok (.iload_n 1, 1) := by decide +kernel
theorem dX8_laysUnits_132 : decode cX8_laysUnits 132 = .ok (.ldc2_w 110, 3) := by decide +kernel
theorem dX8_laysUnits_135 : decode cX8_laysUnits 135 = .ok (.lastore, 1) := by decide +kernel
theorem dX8_laysUnits_136 : decode cX8_laysUnits 136 = .ok (.goto 75, 3) := by decide +kernel
theorem dX8_laysUnits_139 : decode cX8_laysUnits 139 = .ok (.lload_n 2, 1) := by decide +kernel
theorem dX8_laysUnits_140 : decode cX8_laysUnits 140 = .ok (.ldc2_w 112, 3) := by decide +kernel
theorem dX8_laysUnits_143 : decode cX8_laysUnits 143 = .ok (.lcmp, 1) := by decide +kernel
theorem dX8_laysUnits_144 : decode cX8_laysUnits 144 = .ok (.ifCond .ne 67, 3) := by decide +kernel
theorem dX8_laysUnits_147 : decode cX8_laysUnits 147 = .ok (.aload_n 0, 1) := by decide +kernel
theorem dX8_laysUnits_148 : decode cX8_laysUnits 148 = .ok (.aload_n 0, 1) := by decide +kernel
theorem dX8_laysUnits_149 : decode cX8_laysUnits 149 = .ok (.getfield 32, 3) := by decide +kernel
theorem dX8_laysUnits_152 : decode cX8_laysUnits 152 = .ok (.aload_n 0, 1) := by decide +kernel
theorem dX8_laysUnits_153 : decode cX8_laysUnits 153 = .ok (.getfield 44, 3) := by decide +kernel
theorem dX8_laysUnits_156 : decode cX8_laysUnits 156 = .ok (.invokevirtual 114, 3) := by decide +kernel
theorem dX8_laysUnits_159 : decode cX8_laysUnits 159 = .ok (.ifCond .eq 52, 3) := by decide +kernel
theorem dX8_laysUnits_162 : decode cX8_laysUnits 162 = .ok (.iconst 0, 1) := by decide +kernel
theorem dX8_laysUnits_163 : decode cX8_laysUnits 163 = .ok (.istore 4, 2) := by decide +kernel
theorem dX8_laysUnits_165 : decode cX8_laysUnits 165 = .ok (.iload 4, 2) := by decide +kernel
theorem dX8_laysUnits_167 : decode cX8_laysUnits 167 = .ok (.bipush 8, 2) := by decide +kernel
theorem dX8_laysUnits_169 : decode cX8_laysUnits 169 = .ok (.if_icmp .ge 32, 3) := by decide +kernel
theorem dX8_laysUnits_172 : decode cX8_laysUnits 172 = .ok (.aload_n 0, 1) := by decide +kernel
theorem dX8_laysUnits_173 : decode cX8_laysUnits 173 = .ok (.getfield 48, 3) := by decide +kernel
theorem dX8_laysUnits_176 : decode cX8_laysUnits 176 = .ok (.bipush 8, 2) := by decide +kernel
theorem dX8_laysUnits_178 : decode cX8_laysUnits 178 = .ok (.aload_n 0, 1) := by decide +kernel
theorem dX8_laysUnits_179 : decode cX8_laysUnits 179 = .ok (.getfield 107, 3) := by decide +kernel
theorem dX8_laysUnits_182 : decode cX8_laysUnits 182 = .ok (.imul, 1) := by decide +kernel
theorem dX8_laysUnits_183 : decode cX8_laysUnits 183 = .ok (.iload 4, 2) := by decide +kernel
theorem dX8_laysUnits_185 : decode cX8_laysUnits 185 = .ok (.iadd, 1) := by decide +kernel
theorem dX8_laysUnits_186 : decode cX8_laysUnits 186 = .ok (.aload_n 0, 1) := by decide +kernel
theorem dX8_laysUnits_187 : decode cX8_laysUnits 187 = .ok (.getfield 32, 3) := by decide +kernel
theorem dX8_laysUnits_190 : decode cX8_laysUnits 190 = .ok (.iload 4, 2) := by decide +kernel
theorem dX8_laysUnits_192 : decode cX8_laysUnits 192 = .ok (.laload, 1) := by decide +kernel
theorem dX8_laysUnits_193 : decode cX8_laysUnits 193 = .ok (.l2i, 1) := by decide +kernel
theorem dX8_laysUnits_194 : decode cX8_laysUnits 194 = .ok (.iastore, 1) := by decide +kernel
theorem dX8_laysUnits_195 : decode cX8_laysUnits 195 = .ok (.iinc 4 1, 3) := by decide +kernel
theorem dX8_laysUnits_198 : decode cX8_laysUnits 198 = .ok (.goto (-33), 3) := by decide +kernel
theorem dX8_laysUnits_201 : decode cX8_laysUnits 201 = .ok (.aload_n 0, 1) := by decide +kernel
theorem dX8_laysUnits_202 : decode cX8_laysUnits 202 = .ok (.dup, 1) := by decide +kernel
theorem dX8_laysUnits_203 : decode cX8_laysUnits 203 = .ok (.getfield 107, 3) := by decide +kernel
theorem dX8_laysUnits_206 : decode cX8_laysUnits 206 = .ok (.iconst 1, 1) := by decide +kernel
theorem dX8_laysUnits_207 : decode cX8_laysUnits 207 = .ok (.iadd, 1) := by decide +kernel
theorem dX8_laysUnits_208 : decode cX8_laysUnits 208 = .ok (.putfield 107, 3) := by decide +kernel
theorem dX8_laysUnits_211 : decode cX8_laysUnits 211 = .ok (.goto (-169), 3) := by decide +kernel
theorem dX8_laysUnits_214 : decode cX8_laysUnits 214 = .ok (.return_, 1) := by decide +kernel
theorem dX8_unitAt_0 : decode cX8_unitAt 0 = .ok (.aload_n 0, 1) := by decide +kernel
theorem dX8_unitAt_1 : decode cX8_unitAt 1 = .ok (.invokevirtual 118, 3) := by decide +kernel
theorem dX8_unitAt_4 : decode cX8_unitAt 4 = .ok (.iconst (-1), 1) := by decide +kernel
theorem dX8_unitAt_5 : decode cX8_unitAt 5 = .ok (.istore_n 2, 1) := by decide +kernel
theorem dX8_unitAt_6 : decode cX8_unitAt 6 = .ok (.iconst 0, 1) := by decide +kernel
theorem dX8_unitAt_7 : decode cX8_unitAt 7 = .ok (.istore_n 3, 1) := by decide +kernel
theorem dX8_unitAt_8 : decode cX8_unitAt 8 = .ok (.iload_n 3, 1) := by decide +kernel
theorem dX8_unitAt_9 : decode cX8_unitAt 9 = .ok (.aload_n 0, 1) := by decide +kernel
theorem dX8_unitAt_10 : decode cX8_unitAt 10 = .ok (.getfield 107, 3) := by decide +kernel
theorem dX8_unitAt_13 : decode cX8_unitAt 13 = .ok (.if_icmp .ge 83, 3) := by decide +kernel
theorem dX8_unitAt_16 : decode cX8_unitAt 16 = .ok (.iload_n 2, 1) := by decide +kernel
theorem dX8_unitAt_17 : decode cX8_unitAt 17 = .ok (.iconst (-1), 1) := by decide +kernel
theorem dX8_unitAt_18 : decode cX8_unitAt 18 = .ok (.if_icmp .ne 78, 3) := by decide +kernel
theorem dX8_unitAt_21 : decode cX8_unitAt 21 = .ok (.iconst 1, 1) := by decide +kernel
theorem dX8_unitAt_22 : decode cX8_unitAt 22 = .ok (.istore 4, 2) := by decide +kernel
theorem dX8_unitAt_24 : decode cX8_unitAt 24 = .ok (.iconst 0, 1) := by decide +kernel
theorem dX8_unitAt_25 : decode cX8_unitAt 25 = .ok (.istore 5, 2) := by decide +kernel
theorem dX8_unitAt_27 : decode cX8_unitAt 27 = .ok (.iload 5, 2) := by decide +kernel
theorem dX8_unitAt_29 : decode cX8_unitAt 29 = .ok (.bipush 8, 2) := by decide +kernel
theorem dX8_unitAt_31 : decode cX8_unitAt 31 = .ok (.if_icmp .ge 48, 3) := by decide +kernel
theorem dX8_unitAt_34 : decode cX8_unitAt 34 = .ok (.iload 4, 2) := by decide +kernel
theorem dX8_unitAt_36 : decode cX8_unitAt 36 = .ok (.ifCond .eq 34, 3) := by decide +kernel
theorem dX8_unitAt_39 : decode cX8_unitAt 39 = .ok (.aload_n 0, 1) := by decide +kernel
theorem dX8_unitAt_40 : decode cX8_unitAt 40 = .ok (.getfield 48, 3) := by decide +kernel
theorem dX8_unitAt_43 : decode cX8_unitAt 43 = .ok (.bipush 8, 2) := by decide +kernel
theorem dX8_unitAt_45 : decode cX8_unitAt 45 = .ok (.iload_n 3, 1) := by decide +kernel
theorem dX8_unitAt_46 : decode cX8_unitAt 46 = .ok (.imul, 1) := by decide +kernel
theorem dX8_unitAt_47 : decode cX8_unitAt 47 = .ok (.iload 5, 2) := by decide +kernel
theorem dX8_unitAt_49 : decode cX8_unitAt 49 = .ok (.iadd, 1) := by decide +kernel
theorem dX8_unitAt_50 : decode cX8_unitAt 50 = .ok (.iaload, 1) := by decide +kernel
theorem dX8_unitAt_51 : decode cX8_unitAt 51 = .ok (.aload_n 0, 1) := by decide +kernel
theorem dX8_unitAt_52 : decode cX8_unitAt 52 = .ok (.getfield 7, 3) := by decide +kernel
theorem dX8_unitAt_55 : decode cX8_unitAt 55 = .ok (.bipush 8, 2) := by decide +kernel
theorem dX8_unitAt_57 : decode cX8_unitAt 57 = .ok (.iload_n 1, 1) := by decide +kernel
theorem dX8_unitAt_58 : decode cX8_unitAt 58 = .ok (.imul, 1) := by decide +kernel
theorem dX8_unitAt_59 : decode cX8_unitAt 59 = .ok (.iload 5, 2) := by decide +kernel
theorem dX8_unitAt_61 : decode cX8_unitAt 61 = .ok (.iadd, 1) := by decide +kernel
theorem dX8_unitAt_62 : decode cX8_unitAt 62 = .ok (.iaload, 1) := by decide +kernel
theorem dX8_unitAt_63 : decode cX8_unitAt 63 = .ok (.if_icmp .ne 7, 3) := by decide +kernel
theorem dX8_unitAt_66 : decode cX8_unitAt 66 = .ok (.iconst 1, 1) := by decide +kernel
theorem dX8_unitAt_67 : decode cX8_unitAt 67 = .ok (.goto 4, 3) := by decide +kernel
theorem dX8_unitAt_70 : decode cX8_unitAt 70 = .ok (.iconst 0, 1) := by decide +kernel
theorem dX8_unitAt_71 : decode cX8_unitAt 71 = .ok (.istore 4, 2) := by decide +kernel
theorem dX8_unitAt_73 : decode cX8_unitAt 73 = .ok (.iinc 5 1, 3) := by decide +kernel
theorem dX8_unitAt_76 : decode cX8_unitAt 76 = .ok (.goto (-49), 3) := by decide +kernel
theorem dX8_unitAt_79 : decode cX8_unitAt 79 = .ok (.iload 4, 2) := by decide +kernel
theorem dX8_unitAt_81 : decode cX8_unitAt 81 = .ok (.ifCond .eq 7, 3) := by decide +kernel
theorem dX8_unitAt_84 : decode cX8_unitAt 84 = .ok (.iload_n 3, 1) := by decide +kernel
theorem dX8_unitAt_85 : decode cX8_unitAt 85 = .ok (.goto 4, 3) := by decide +kernel
theorem dX8_unitAt_88 : decode cX8_unitAt 88 = .ok (.iconst (-1), 1) := by decide +kernel
theorem dX8_unitAt_89 : decode cX8_unitAt 89 = .ok (.istore_n 2, 1) := by decide +kernel
theorem dX8_unitAt_90 : decode cX8_unitAt 90 = .ok (.iinc 3 1, 3) := by decide +kernel
theorem dX8_unitAt_93 : decode cX8_unitAt 93 = .ok (.goto (-85), 3) := by decide +kernel
theorem dX8_unitAt_96 : decode cX8_unitAt 96 = .ok (.iload_n 2, 1) := by decide +kernel
theorem dX8_unitAt_97 : decode cX8_unitAt 97 = .ok (.ireturn, 1) := by decide +kernel
theorem dX8_set_0 : decode cX8_set 0 = .ok (.aload_n 0, 1) := by decide +kernel
theorem dX8_set_1 : decode cX8_set 1 = .ok (.iload_n 1, 1) := by decide +kernel
theorem dX8_set_2 : decode cX8_set 2 = .ok (.invokestatic 121, 3) := by decide +kernel
theorem dX8_set_5 : decode cX8_set 5 = .ok (.ifCond .eq 10, 3) := by decide +kernel
theorem dX8_set_8 : decode cX8_set 8 = .ok (.iload_n 2, 1) := by decide +kernel
theorem dX8_set_9 : decode cX8_set 9 = .ok (.invokestatic 121, 3) := by decide +kernel
theorem dX8_set_12 : decode cX8_set 12 = .ok (.ifCond .ne 7, 3) := by decide +kernel
theorem dX8_set_15 : decode cX8_set 15 = .ok (.iconst 1, 1) := by decide +kernel
theorem dX8_set_16 : decode cX8_set 16 = .ok (.goto 21, 3) := by decide +kernel
theorem dX8_set_19 : decode cX8_set 19 = .ok (.iload_n 3, 1) := by decide +kernel
theorem dX8_set_20 : decode cX8_set 20 = .ok (.sipush (-2000), 3) := by decide +kernel
theorem dX8_set_23 : decode cX8_set 23 = .ok (.sipush 2000, 3) := by decide +kernel
theorem dX8_set_26 : decode cX8_set 26 = .ok (.invokestatic 86, 3) := by decide +kernel
theorem dX8_set_29 : decode cX8_set 29 = .ok (.ifCond .eq 7, 3) := by decide +kernel
theorem dX8_set_32 : decode cX8_set 32 = .ok (.iconst 0, 1) := by decide +kernel
theorem dX8_set_33 : decode cX8_set 33 = .ok (.goto 4, 3) := by decide +kernel
theorem dX8_set_36 : decode cX8_set 36 = .ok (.iconst 2, 1) := by decide +kernel
theorem dX8_set_37 : decode cX8_set 37 = .ok (.invokevirtual 125, 3) := by decide +kernel
theorem dX8_set_40 : decode cX8_set 40 = .ok (.ifCond .eq 5, 3) := by decide +kernel
theorem dX8_set_43 : decode cX8_set 43 = .ok (.iconst 0, 1) := by decide +kernel
theorem dX8_set_44 : decode cX8_set 44 = .ok (.ireturn, 1) := by decide +kernel
theorem dX8_set_45 : decode cX8_set 45 = .ok (.aload_n 0, 1) := by decide +kernel
theorem dX8_set_46 : decode cX8_set 46 = .ok (.invokevirtual 128, 3) := by decide +kernel
theorem dX8_set_49 : decode cX8_set 49 = .ok (.aload_n 0, 1) := by decide +kernel
theorem dX8_set_50 : decode cX8_set 50 = .ok (.getfield 7, 3) := by decide +kernel
theorem dX8_set_53 : decode cX8_set 53 = .ok (.bipush 8, 2) := by decide +kernel
theorem dX8_set_55 : decode cX8_set 55 = .ok (.iload_n 1, 1) := by decide +kernel
theorem dX8_set_56 : decode cX8_set 56 = .ok (.imul, 1) := by decide +kernel
theorem dX8_set_57 : decode cX8_set 57 = .ok (.iload_n 2, 1) := by decide +kernel
theorem dX8_set_58 : decode cX8_set 58 = .ok (.iadd, 1) := by decide +kernel
theorem dX8_set_59 : decode cX8_set 59 = .ok (.iaload, 1) := by decide +kernel
theorem dX8_set_60 : decode cX8_set 60 = .ok (.istore 4, 2) := by decide +kernel
theorem dX8_set_62 : decode cX8_set 62 = .ok (.aload_n 0, 1) := by decide +kernel
theorem dX8_set_63 : decode cX8_set 63 = .ok (.getfield 7, 3) := by decide +kernel
theorem dX8_set_66 : decode cX8_set 66 = .ok (.bipush 8, 2) := by decide +kernel
theorem dX8_set_68 : decode cX8_set 68 = .ok (.iload_n 1, 1) := by decide +kernel
theorem dX8_set_69 : decode cX8_set 69 = .ok (.imul, 1) := by decide +kernel
theorem dX8_set_70 : decode cX8_set 70 = .ok (.iload_n 2, 1) := by decide +kernel
theorem dX8_set_71 : decode cX8_set 71 = .ok (.iadd, 1) := by decide +kernel
theorem dX8_set_72 : decode cX8_set 72 = .ok (.iload_n 3, 1) := by decide +kernel
theorem dX8_set_73 : decode cX8_set 73 = .ok (.iastore, 1) := by decide +kernel
theorem dX8_set_74 : decode cX8_set 74 = .ok (.iload 4, 2) := by decide +kernel
theorem dX8_set_76 : decode cX8_set 76 = .ok (.ireturn, 1) := by decide +kernel
theorem dX8_normOf_0 : decode cX8_normOf 0 = .ok (.aload_n 0, 1) := by decide +kernel
theorem dX8_normOf_1 : decode cX8_normOf 1 = .ok (.aload_n 0, 1) := by decide +kernel
theorem dX8_normOf_2 : decode cX8_normOf 2 = .ok (.getfield 25, 3) := by decide +kernel
theorem dX8_normOf_5 : decode cX8_normOf 5 = .ok (.iload_n 1, 1) := by decide +kernel
theorem dX8_normOf_6 : decode cX8_normOf 6 = .ok (.invokevirtual 131, 3) := by decide +kernel
theorem dX8_normOf_9 : decode cX8_normOf 9 = .ok (.aload_n 0, 1) := by decide +kernel
theorem dX8_normOf_10 : decode cX8_normOf 10 = .ok (.getfield 25, 3) := by decide +kernel
theorem dX8_normOf_13 : decode cX8_normOf 13 = .ok (.invokestatic 97, 3) := by decide +kernel
theorem dX8_normOf_16 : decode cX8_normOf 16 = .ok (.lreturn, 1) := by decide +kernel
theorem dX8_setFour_0 : decode cX8_setFour 0 = .ok (.iload_n 3, 1) := by decide +kernel
theorem dX8_setFour_1 : decode cX8_setFour 1 = .ok (.sipush (-2000), 3) := by decide +kernel
theorem dX8_setFour_4 : decode cX8_setFour 4 = .ok (.sipush 2000, 3) := by decide +kernel
theorem dX8_setFour_7 : decode cX8_setFour 7 = .ok (.invokestatic 86, 3) := by decide +kernel
theorem dX8_setFour_10 : decode cX8_setFour 10 = .ok (.ifCond .eq 49, 3) := by decide +kernel
theorem dX8_setFour_13 : decode cX8_setFour 13 = .ok (.iload 4, 2) := by decide +kernel
theorem dX8_setFour_15 : decode cX8_setFour 15 = .ok (.sipush (-2000), 3) := by decide +kernel
theorem dX8_setFour_18 : decode cX8_setFour 18 = .ok (.sipush 2000, 3) := by decide +kernel
theorem dX8_setFour_21 : decode cX8_setFour 21 = .ok (.invokestatic 86, 3) := by decide +kernel
theorem dX8_setFour_24 : decode cX8_setFour 24 = .ok (.ifCond .eq 35, 3) := by decide +kernel
theorem dX8_setFour_27 : decode cX8_setFour 27 = .ok (.iload 5, 2) := by decide +kernel
theorem dX8_setFour_29 : decode cX8_setFour 29 = .ok (.sipush (-2000), 3) := by decide +kernel
theorem dX8_setFour_32 : decode cX8_setFour 32 = .ok (.sipush 2000, 3) := by decide +kernel
theorem dX8_setFour_35 : decode cX8_setFour 35 = .ok (.invokestatic 86, 3) := by decide +kernel
theorem dX8_setFour_38 : decode cX8_setFour 38 = .ok (.ifCond .eq 21, 3) := by decide +kernel
theorem dX8_setFour_41 : decode cX8_setFour 41 = .ok (.iload 6, 2) := by decide +kernel
theorem dX8_setFour_43 : decode cX8_setFour 43 = .ok (.sipush (-2000), 3) := by decide +kernel
theorem dX8_setFour_46 : decode cX8_setFour 46 = .ok (.sipush 2000, 3) := by decide +kernel
theorem dX8_setFour_49 : decode cX8_setFour 49 = .ok (.invokestatic 86, 3) := by decide +kernel
theorem dX8_setFour_52 : decode cX8_setFour 52 = .ok (.ifCond .eq 7, 3) := by decide +kernel
theorem dX8_setFour_55 : decode cX8_setFour 55 = .ok (.iconst 1, 1) := by decide +kernel
theorem dX8_setFour_56 : decode cX8_setFour 56 = .ok (.goto 4, 3) := by decide +kernel
theorem dX8_setFour_59 : decode cX8_setFour 59 = .ok (.iconst 0, 1) := by decide +kernel
theorem dX8_setFour_60 : decode cX8_setFour 60 = .ok (.istore 7, 2) := by decide +kernel
theorem dX8_setFour_62 : decode cX8_setFour 62 = .ok (.aload_n 0, 1) := by decide +kernel
theorem dX8_setFour_63 : decode cX8_setFour 63 = .ok (.iload_n 1, 1) := by decide +kernel
theorem dX8_setFour_64 : decode cX8_setFour 64 = .ok (.invokestatic 121, 3) := by decide +kernel
theorem dX8_setFour_67 : decode cX8_setFour 67 = .ok (.ifCond .ne 7, 3) := by decide +kernel
theorem dX8_setFour_70 : decode cX8_setFour 70 = .ok (.iconst 1, 1) := by decide +kernel
theorem dX8_setFour_71 : decode cX8_setFour 71 = .ok (.goto 13, 3) := by decide +kernel
theorem dX8_setFour_74 : decode cX8_setFour 74 = .ok (.iload 7, 2) := by decide +kernel
theorem dX8_setFour_76 : decode cX8_setFour 76 = .ok (.ifCond .eq 7, 3) := by decide +kernel
theorem dX8_setFour_79 : decode cX8_setFour 79 = .ok (.iconst 0, 1) := by decide +kernel
theorem dX8_setFour_80 : decode cX8_setFour 80 = .ok (.goto 4, 3) := by decide +kernel
theorem dX8_setFour_83 : decode cX8_setFour 83 = .ok (.iconst 2, 1) := by decide +kernel
theorem dX8_setFour_84 : decode cX8_setFour 84 = .ok (.invokevirtual 125, 3) := by decide +kernel
theorem dX8_setFour_87 : decode cX8_setFour 87 = .ok (.ifCond .eq 5, 3) := by decide +kernel
theorem dX8_setFour_90 : decode cX8_setFour 90 = .ok (.lconst 0, 1) := by decide +kernel
theorem dX8_setFour_91 : decode cX8_setFour 91 = .ok (.lreturn, 1) := by decide +kernel
theorem dX8_setFour_92 : decode cX8_setFour 92 = .ok (.aload_n 0, 1) := by decide +kernel
theorem dX8_setFour_93 : decode cX8_setFour 93 = .ok (.invokevirtual 128, 3) := by decide +kernel
theorem dX8_setFour_96 : decode cX8_setFour 96 = .ok (.bipush 8, 2) := by decide +kernel
theorem dX8_setFour_98 : decode cX8_setFour 98 = .ok (.iload_n 1, 1) := by decide +kernel
theorem dX8_setFour_99 : decode cX8_setFour 99 = .ok (.imul, 1) := by decide +kernel
theorem dX8_setFour_100 : decode cX8_setFour 100 = .ok (.iload_n 2, 1) := by decide +kernel
theorem dX8_setFour_101 : decode cX8_setFour 101 = .ok (.ifCond .eq 7, 3) := by decide +kernel
theorem dX8_setFour_104 : decode cX8_setFour 104 = .ok (.iconst 4, 1) := by decide +kernel
theorem dX8_setFour_105 : decode cX8_setFour 105 = .ok (.goto 4, 3) := by decide +kernel
theorem dX8_setFour_108 : decode cX8_setFour 108 = .ok (.iconst 0, 1) := by decide +kernel
theorem dX8_setFour_109 : decode cX8_setFour 109 = .ok (.iadd, 1) := by decide +kernel
theorem dX8_setFour_110 : decode cX8_setFour 110 = .ok (.istore 8, 2) := by decide +kernel
theorem dX8_setFour_112 : decode cX8_setFour 112 = .ok (.aload_n 0, 1) := by decide +kernel
theorem dX8_setFour_113 : decode cX8_setFour 113 = .ok (.getfield 7, 3) := by decide +kernel
theorem dX8_setFour_116 : decode cX8_setFour 116 = .ok (.iload 8, 2) := by decide +kernel
theorem dX8_setFour_118 : decode cX8_setFour 118 = .ok (.iload_n 3, 1) := by decide +kernel
theorem dX8_setFour_119 : decode cX8_setFour 119 = .ok (.iastore, 1) := by decide +kernel
theorem dX8_setFour_120 : decode cX8_setFour 120 = .ok (.aload_n 0, 1) := by decide +kernel
theorem dX8_setFour_121 : decode cX8_setFour 121 = .ok (.getfield 7, 3) := by decide +kernel
theorem dX8_setFour_124 : decode cX8_setFour 124 = .ok (.iload 8, 2) := by decide +kernel
theorem dX8_setFour_126 : decode cX8_setFour 126 = .ok (.iconst 1, 1) := by decide +kernel
theorem dX8_setFour_127 : decode cX8_setFour 127 = .ok (.iadd, 1) := by decide +kernel
theorem dX8_setFour_128 : decode cX8_setFour 128 = .ok (.iload 4, 2) := by decide +kernel
theorem dX8_setFour_130 : decode cX8_setFour 130 = .ok (.iastore, 1) := by decide +kernel
theorem dX8_setFour_131 : decode cX8_setFour 131 = .ok (.aload_n 0, 1) := by decide +kernel
theorem dX8_setFour_132 : decode cX8_setFour 132 = .ok (.getfield 7, 3) := by decide +kernel
theorem dX8_setFour_135 : decode cX8_setFour 135 = .ok (.iload 8, 2) := by decide +kernel
theorem dX8_setFour_137 : decode cX8_setFour 137 = .ok (.iconst 2, 1) := by decide +kernel
theorem dX8_setFour_138 : decode cX8_setFour 138 = .ok (.iadd, 1) := by decide +kernel
theorem dX8_setFour_139 : decode cX8_setFour 139 = .ok (.iload 5, 2) := by decide +kernel
theorem dX8_setFour_141 : decode cX8_setFour 141 = .ok (.iastore, 1) := by decide +kernel
theorem dX8_setFour_142 : decode cX8_setFour 142 = .ok (.aload_n 0, 1) := by decide +kernel
theorem dX8_setFour_143 : decode cX8_setFour 143 = .ok (.getfield 7, 3) := by decide +kernel
theorem dX8_setFour_146 : decode cX8_setFour 146 = .ok (.iload 8, 2) := by decide +kernel
theorem dX8_setFour_148 : decode cX8_setFour 148 = .ok (.iconst 3, 1) := by decide +kernel
theorem dX8_setFour_149 : decode cX8_setFour 149 = .ok (.iadd, 1) := by decide +kernel
theorem dX8_setFour_150 : decode cX8_setFour 150 = .ok (.iload 6, 2) := by decide +kernel
theorem dX8_setFour_152 : decode cX8_setFour 152 = .ok (.iastore, 1) := by decide +kernel
theorem dX8_setFour_153 : decode cX8_setFour 153 = .ok (.aload_n 0, 1) := by decide +kernel
theorem dX8_setFour_154 : decode cX8_setFour 154 = .ok (.iload_n 1, 1) := by decide +kernel
theorem dX8_setFour_155 : decode cX8_setFour 155 = .ok (.invokevirtual 135, 3) := by decide +kernel
theorem dX8_setFour_158 : decode cX8_setFour 158 = .ok (.lreturn, 1) := by decide +kernel
theorem dX8_setOrder_0 : decode cX8_setOrder 0 = .ok (.aload_n 0, 1) := by decide +kernel
theorem dX8_setOrder_1 : decode cX8_setOrder 1 = .ok (.iload_n 1, 1) := by decide +kernel
theorem dX8_setOrder_2 : decode cX8_setOrder 2 = .ok (.invokestatic 121, 3) := by decide +kernel
theorem dX8_setOrder_5 : decode cX8_setOrder 5 = .ok (.ifCond .eq 7, 3) := by decide +kernel
theorem dX8_setOrder_8 : decode cX8_setOrder 8 = .ok (.iconst 0, 1) := by decide +kernel
theorem dX8_setOrder_9 : decode cX8_setOrder 9 = .ok (.goto 4, 3) := by decide +kernel
theorem dX8_setOrder_12 : decode cX8_setOrder 12 = .ok (.iconst 1, 1) := by decide +kernel
theorem dX8_setOrder_13 : decode cX8_setOrder 13 = .ok (.invokevirtual 125, 3) := by decide +kernel
theorem dX8_setOrder_16 : decode cX8_setOrder 16 = .ok (.ifCond .eq 5, 3) := by decide +kernel
theorem dX8_setOrder_19 : decode cX8_setOrder 19 = .ok (.iconst 0, 1) := by decide +kernel
theorem dX8_setOrder_20 : decode cX8_setOrder 20 = .ok (.ireturn, 1) := by decide +kernel
theorem dX8_setOrder_21 : decode cX8_setOrder 21 = .ok (.aload_n 0, 1) := by decide +kernel
theorem dX8_setOrder_22 : decode cX8_setOrder 22 = .ok (.invokevirtual 128, 3) := by decide +kernel
theorem dX8_setOrder_25 : decode cX8_setOrder 25 = .ok (.aload_n 0, 1) := by decide +kernel
theorem dX8_setOrder_26 : decode cX8_setOrder 26 = .ok (.getfield 7, 3) := by decide +kernel
theorem dX8_setOrder_29 : decode cX8_setOrder 29 = .ok (.bipush 64, 2) := by decide +kernel
theorem dX8_setOrder_31 : decode cX8_setOrder 31 = .ok (.iaload, 1) := by decide +kernel
theorem dX8_setOrder_32 : decode cX8_setOrder 32 = .ok (.istore_n 2, 1) := by decide +kernel
theorem dX8_setOrder_33 : decode cX8_setOrder 33 = .ok (.aload_n 0, 1) := by decide +kernel
theorem dX8_setOrder_34 : decode cX8_setOrder 34 = .ok (.getfield 7, 3) := by decide +kernel
theorem dX8_setOrder_37 : decode cX8_setOrder 37 = .ok (.bipush 64, 2) := by decide +kernel
theorem dX8_setOrder_39 : decode cX8_setOrder 39 = .ok (.iload_n 1, 1) := by decide +kernel
theorem dX8_setOrder_40 : decode cX8_setOrder 40 = .ok (.iastore, 1) := by decide +kernel
theorem dX8_setOrder_41 : decode cX8_setOrder 41 = .ok (.iload_n 2, 1) := by decide +kernel
theorem dX8_setOrder_42 : decode cX8_setOrder 42 = .ok (.ireturn, 1) := by decide +kernel
theorem dX8_load_0 : decode cX8_load 0 = .ok (.aload_n 0, 1) := by decide +kernel
theorem dX8_load_1 : decode cX8_load 1 = .ok (.invokevirtual 118, 3) := by decide +kernel
theorem dX8_load_4 : decode cX8_load 4 = .ok (.aload_n 0, 1) := by decide +kernel
theorem dX8_load_5 : decode cX8_load 5 = .ok (.iload_n 1, 1) := by decide +kernel
theorem dX8_load_6 : decode cX8_load 6 = .ok (.iconst 0, 1) := by decide +kernel
theorem dX8_load_7 : decode cX8_load 7 = .ok (.aload_n 0, 1) := by decide +kernel
theorem dX8_load_8 : decode cX8_load 8 = .ok (.getfield 107, 3) := by decide +kernel
theorem dX8_load_11 : decode cX8_load 11 = .ok (.iconst 1, 1) := by decide +kernel
theorem dX8_load_12 : decode cX8_load 12 = .ok (.isub, 1) := by decide +kernel
theorem dX8_load_13 : decode cX8_load 13 = .ok (.invokestatic 86, 3) := by decide +kernel
theorem dX8_load_16 : decode cX8_load 16 = .ok (.ifCond .eq 10, 3) := by decide +kernel
theorem dX8_load_19 : decode cX8_load 19 = .ok (.iload_n 2, 1) := by decide +kernel
theorem dX8_load_20 : decode cX8_load 20 = .ok (.invokestatic 121, 3) := by decide +kernel
theorem dX8_load_23 : decode cX8_load 23 = .ok (.ifCond .ne 7, 3) := by decide +kernel
theorem dX8_load_26 : decode cX8_load 26 = .ok (.iconst 1, 1) := by decide +kernel
theorem dX8_load_27 : decode cX8_load 27 = .ok (.goto 4, 3) := by decide +kernel
theorem dX8_load_30 : decode cX8_load 30 = .ok (.iconst 0, 1) := by decide +kernel
theorem dX8_load_31 : decode cX8_load 31 = .ok (.invokevirtual 125, 3) := by decide +kernel
theorem dX8_load_34 : decode cX8_load 34 = .ok (.ifCond .eq 5, 3) := by decide +kernel
theorem dX8_load_37 : decode cX8_load 37 = .ok (.iconst 0, 1) := by decide +kernel
theorem dX8_load_38 : decode cX8_load 38 = .ok (.ireturn, 1) := by decide +kernel
theorem dX8_load_39 : decode cX8_load 39 = .ok (.aload_n 0, 1) := by decide +kernel
theorem dX8_load_40 : decode cX8_load 40 = .ok (.invokevirtual 128, 3) := by decide +kernel
theorem dX8_load_43 : decode cX8_load 43 = .ok (.iconst 0, 1) := by decide +kernel
theorem dX8_load_44 : decode cX8_load 44 = .ok (.istore_n 3, 1) := by decide +kernel
theorem dX8_load_45 : decode cX8_load 45 = .ok (.iload_n 3, 1) := by decide +kernel
theorem dX8_load_46 : decode cX8_load 46 = .ok (.bipush 8, 2) := by decide +kernel
theorem dX8_load_48 : decode cX8_load 48 = .ok (.if_icmp .ge 31, 3) := by decide +kernel
theorem dX8_load_51 : decode cX8_load 51 = .ok (.aload_n 0, 1) := by decide +kernel
theorem dX8_load_52 : decode cX8_load 52 = .ok (.getfield 7, 3) := by decide +kernel
theorem dX8_load_55 : decode cX8_load 55 = .ok (.bipush 8, 2) := by decide +kernel
theorem dX8_load_57 : decode cX8_load 57 = .ok (.iload_n 2, 1) := by decide +kernel
theorem dX8_load_58 : decode cX8_load 58 = .ok (.imul, 1) := by decide +kernel
theorem dX8_load_59 : decode cX8_load 59 = .ok (.iload_n 3, 1) := by decide +kernel
theorem dX8_load_60 : decode cX8_load 60 = .ok (.iadd, 1) := by decide +kernel
theorem dX8_load_61 : decode cX8_load 61 = .ok (.aload_n 0, 1) := by decide +kernel
theorem dX8_load_62 : decode cX8_load 62 = .ok (.getfield 48, 3) := by decide +kernel
theorem dX8_load_65 : decode cX8_load 65 = .ok (.bipush 8, 2) := by decide +kernel
theorem dX8_load_67 : decode cX8_load 67 = .ok (.iload_n 1, 1) := by decide +kernel
theorem dX8_load_68 : decode cX8_load 68 = .ok (.imul, 1) := by decide +kernel
theorem dX8_load_69 : decode cX8_load 69 = .ok (.iload_n 3, 1) := by decide +kernel
theorem dX8_load_70 : decode cX8_load 70 = .ok (.iadd, 1) := by decide +kernel
theorem dX8_load_71 : decode cX8_load 71 = .ok (.iaload, 1) := by decide +kernel
theorem dX8_load_72 : decode cX8_load 72 = .ok (.iastore, 1) := by decide +kernel
theorem dX8_load_73 : decode cX8_load 73 = .ok (.iinc 3 1, 3) := by decide +kernel
theorem dX8_load_76 : decode cX8_load 76 = .ok (.goto (-31), 3) := by decide +kernel
theorem dX8_load_79 : decode cX8_load 79 = .ok (.aload_n 0, 1) := by decide +kernel
theorem dX8_load_80 : decode cX8_load 80 = .ok (.getfield 7, 3) := by decide +kernel
theorem dX8_load_83 : decode cX8_load 83 = .ok (.bipush 8, 2) := by decide +kernel
theorem dX8_load_85 : decode cX8_load 85 = .ok (.iload_n 2, 1) := by decide +kernel
theorem dX8_load_86 : decode cX8_load 86 = .ok (.imul, 1) := by decide +kernel
theorem dX8_load_87 : decode cX8_load 87 = .ok (.iaload, 1) := by decide +kernel
theorem dX8_load_88 : decode cX8_load 88 = .ok (.ireturn, 1) := by decide +kernel
theorem dX8_gives_0 : decode cX8_gives 0 = .ok (.aload_n 0, 1) := by decide +kernel
theorem dX8_gives_1 : decode cX8_gives 1 = .ok (.invokevirtual 128, 3) := by decide +kernel
theorem dX8_gives_4 : decode cX8_gives 4 = .ok (.aload_n 0, 1) := by decide +kernel
theorem dX8_gives_5 : decode cX8_gives 5 = .ok (.aload_n 0, 1) := by decide +kernel
theorem dX8_gives_6 : decode cX8_gives 6 = .ok (.getfield 35, 3) := by decide +kernel
theorem dX8_gives_9 : decode cX8_gives 9 = .ok (.iload_n 1, 1) := by decide +kernel
theorem dX8_gives_10 : decode cX8_gives 10 = .ok (.invokevirtual 139, 3) := by decide +kernel
theorem dX8_gives_13 : decode cX8_gives 13 = .ok (.aload_n 0, 1) := by decide +kernel
theorem dX8_gives_14 : decode cX8_gives 14 = .ok (.getfield 35, 3) := by decide +kernel
theorem dX8_gives_17 : decode cX8_gives 17 = .ok (.invokestatic 97, 3) := by decide +kernel
theorem dX8_gives_20 : decode cX8_gives 20 = .ok (.lreturn, 1) := by decide +kernel
theorem dX8_add_0 : decode cX8_add 0 = .ok (.aload_n 0, 1) := by decide +kernel
theorem dX8_add_1 : decode cX8_add 1 = .ok (.iload_n 1, 1) := by decide +kernel
theorem dX8_add_2 : decode cX8_add 2 = .ok (.invokestatic 121, 3) := by decide +kernel
theorem dX8_add_5 : decode cX8_add 5 = .ok (.ifCond .eq 17, 3) := by decide +kernel
theorem dX8_add_8 : decode cX8_add 8 = .ok (.iload_n 2, 1) := by decide +kernel
theorem dX8_add_9 : decode cX8_add 9 = .ok (.invokestatic 121, 3) := by decide +kernel
theorem dX8_add_12 : decode cX8_add 12 = .ok (.ifCond .eq 10, 3) := by decide +kernel
theorem dX8_add_15 : decode cX8_add 15 = .ok (.iload_n 3, 1) := by decide +kernel
theorem dX8_add_16 : decode cX8_add 16 = .ok (.invokestatic 121, 3) := by decide +kernel
theorem dX8_add_19 : decode cX8_add 19 = .ok (.ifCond .ne 7, 3) := by decide +kernel
theorem dX8_add_22 : decode cX8_add 22 = .ok (.iconst 1, 1) := by decide +kernel
theorem dX8_add_23 : decode cX8_add 23 = .ok (.goto 4, 3) := by decide +kernel
theorem dX8_add_26 : decode cX8_add 26 = .ok (.iconst 0, 1) := by decide +kernel
theorem dX8_add_27 : decode cX8_add 27 = .ok (.invokevirtual 125, 3) := by decide +kernel
theorem dX8_add_30 : decode cX8_add 30 = .ok (.ifCond .eq 5, 3) := by decide +kernel
theorem dX8_add_33 : decode cX8_add 33 = .ok (.lconst 0, 1) := by decide +kernel
theorem dX8_add_34 : decode cX8_add 34 = .ok (.lreturn, 1) := by decide +kernel
theorem dX8_add_35 : decode cX8_add 35 = .ok (.iconst 0, 1) := by decide +kernel
theorem dX8_add_36 : decode cX8_add 36 = .ok (.istore 5, 2) := by decide +kernel
theorem dX8_add_38 : decode cX8_add 38 = .ok (.iload 5, 2) := by decide +kernel
theorem dX8_add_40 : decode cX8_add 40 = .ok (.bipush 8, 2) := by decide +kernel
theorem dX8_add_42 : decode cX8_add 42 = .ok (.if_icmp .ge 63, 3) := by decide +kernel
theorem dX8_add_45 : decode cX8_add 45 = .ok (.aload_n 0, 1) := by decide +kernel
theorem dX8_add_46 : decode cX8_add 46 = .ok (.getfield 35, 3) := by decide +kernel
theorem dX8_add_49 : decode cX8_add 49 = .ok (.iload 5, 2) := by decide +kernel
theorem dX8_add_51 : decode cX8_add 51 = .ok (.aload_n 0, 1) := by decide +kernel
theorem dX8_add_52 : decode cX8_add 52 = .ok (.getfield 7, 3) := by decide +kernel
theorem dX8_add_55 : decode cX8_add 55 = .ok (.bipush 8, 2) := by decide +kernel
theorem dX8_add_57 : decode cX8_add 57 = .ok (.iload_n 1, 1) := by decide +kernel
theorem dX8_add_58 : decode cX8_add 58 = .ok (.imul, 1) := by decide +kernel
theorem dX8_add_59 : decode cX8_add 59 = .ok (.iload 5, 2) := by decide +kernel
theorem dX8_add_61 : decode cX8_add 61 = .ok (.iadd, 1) := by decide +kernel
theorem dX8_add_62 : decode cX8_add 62 = .ok (.iaload, 1) := by decide +kernel
theorem dX8_add_63 : decode cX8_add 63 = .ok (.iload 4, 2) := by decide +kernel
theorem dX8_add_65 : decode cX8_add 65 = .ok (.ifCond .eq 19, 3) := by decide +kernel
theorem dX8_add_68 : decode cX8_add 68 = .ok (.aload_n 0, 1) := by decide +kernel
theorem dX8_add_69 : decode cX8_add 69 = .ok (.getfield 7, 3) := by decide +kernel
theorem dX8_add_72 : decode cX8_add 72 = .ok (.bipush 8, 2) := by decide +kernel
theorem dX8_add_74 : decode cX8_add 74 = .ok (.iload_n 2, 1) := by decide +kernel
theorem dX8_add_75 : decode cX8_add 75 = .ok (.imul, 1) := by decide +kernel
theorem dX8_add_76 : decode cX8_add 76 = .ok (.iload 5, 2) := by decide +kernel
theorem dX8_add_78 : decode cX8_add 78 = .ok (.iadd, 1) := by decide +kernel
theorem dX8_add_79 : decode cX8_add 79 = .ok (.iaload, 1) := by decide +kernel
theorem dX8_add_80 : decode cX8_add 80 = .ok (.ineg, 1) := by decide +kernel
theorem dX8_add_81 : decode cX8_add 81 = .ok (.goto 15, 3) := by decide +kernel
theorem dX8_add_84 : decode cX8_add 84 = .ok (.aload_n 0, 1) := by decide +kernel
theorem dX8_add_85 : decode cX8_add 85 = .ok (.getfield 7, 3) := by decide +kernel
theorem dX8_add_88 : decode cX8_add 88 = .ok (.bipush 8, 2) := by decide +kernel
theorem dX8_add_90 : decode cX8_add 90 = .ok (.iload_n 2, 1) := by decide +kernel
theorem dX8_add_91 : decode cX8_add 91 = .ok (.imul, 1) := by decide +kernel
theorem dX8_add_92 : decode cX8_add 92 = .ok (.iload 5, 2) := by decide +kernel
theorem dX8_add_94 : decode cX8_add 94 = .ok (.iadd, 1) := by decide +kernel
theorem dX8_add_95 : decode cX8_add 95 = .ok (.iaload, 1) := by decide +kernel
theorem dX8_add_96 : decode cX8_add 96 = .ok (.iadd, 1) := by decide +kernel
theorem dX8_add_97 : decode cX8_add 97 = .ok (.i2l, 1) := by decide +kernel
theorem dX8_add_98 : decode cX8_add 98 = .ok (.lastore, 1) := by decide +kernel
theorem dX8_add_99 : decode cX8_add 99 = .ok (.iinc 5 1, 3) := by decide +kernel
theorem dX8_add_102 : decode cX8_add 102 = .ok (.goto (-64), 3) := by decide +kernel
theorem dX8_add_105 : decode cX8_add 105 = .ok (.aload_n 0, 1) := by decide +kernel
theorem dX8_add_106 : decode cX8_add 106 = .ok (.aload_n 0, 1) := by decide +kernel
theorem dX8_add_107 : decode cX8_add 107 = .ok (.getfield 35, 3) := by decide +kernel
theorem dX8_add_110 : decode cX8_add 110 = .ok (.iconst 1, 1) := by decide +kernel
theorem dX8_add_111 : decode cX8_add 111 = .ok (.invokestatic 142, 3) := by decide +kernel
theorem dX8_add_114 : decode cX8_add 114 = .ok (.ifCond .eq 7, 3) := by decide +kernel
theorem dX8_add_117 : decode cX8_add 117 = .ok (.iconst 0, 1) := by decide +kernel
theorem dX8_add_118 : decode cX8_add 118 = .ok (.goto 4, 3) := by decide +kernel
theorem dX8_add_121 : decode cX8_add 121 = .ok (.iconst 2, 1) := by decide +kernel
theorem dX8_add_122 : decode cX8_add 122 = .ok (.invokevirtual 125, 3) := by decide +kernel
theorem dX8_add_125 : decode cX8_add 125 = .ok (.ifCond .eq 7, 3) := by decide +kernel
theorem dX8_add_128 : decode cX8_add 128 = .ok (.lconst 0, 1) := by decide +kernel
theorem dX8_add_129 : decode cX8_add 129 = .ok (.goto 8, 3) := by decide +kernel
theorem dX8_add_132 : decode cX8_add 132 = .ok (.aload_n 0, 1) := by decide +kernel
theorem dX8_add_133 : decode cX8_add 133 = .ok (.iload_n 3, 1) := by decide +kernel
theorem dX8_add_134 : decode cX8_add 134 = .ok (.invokevirtual 145, 3) := by decide +kernel
theorem dX8_add_137 : decode cX8_add 137 = .ok (.lreturn, 1) := by decide +kernel
theorem dX8_multiply_0 : decode cX8_multiply 0 = .ok (.aload_n 0, 1) := by decide +kernel
theorem dX8_multiply_1 : decode cX8_multiply 1 = .ok (.iload_n 1, 1) := by decide +kernel
theorem dX8_multiply_2 : decode cX8_multiply 2 = .ok (.invokestatic 121, 3) := by decide +kernel
theorem dX8_multiply_5 : decode cX8_multiply 5 = .ok (.ifCond .eq 17, 3) := by decide +kernel
theorem dX8_multiply_8 : decode cX8_multiply 8 = .ok (.iload_n 2, 1) := by decide +kernel
theorem dX8_multiply_9 : decode cX8_multiply 9 = .ok (.invokestatic 121, 3) := by decide +kernel
theorem dX8_multiply_12 : decode cX8_multiply 12 = .ok (.ifCond .eq 10, 3) := by decide +kernel
theorem dX8_multiply_15 : decode cX8_multiply 15 = .ok (.iload_n 3, 1) := by decide +kernel
theorem dX8_multiply_16 : decode cX8_multiply 16 = .ok (.invokestatic 121, 3) := by decide +kernel
theorem dX8_multiply_19 : decode cX8_multiply 19 = .ok (.ifCond .ne 7, 3) := by decide +kernel
theorem dX8_multiply_22 : decode cX8_multiply 22 = .ok (.iconst 1, 1) := by decide +kernel
theorem dX8_multiply_23 : decode cX8_multiply 23 = .ok (.goto 4, 3) := by decide +kernel
theorem dX8_multiply_26 : decode cX8_multiply 26 = .ok (.iconst 0, 1) := by decide +kernel
theorem dX8_multiply_27 : decode cX8_multiply 27 = .ok (.invokevirtual 125, 3) := by decide +kernel
theorem dX8_multiply_30 : decode cX8_multiply 30 = .ok (.ifCond .eq 5, 3) := by decide +kernel
theorem dX8_multiply_33 : decode cX8_multiply 33 = .ok (.lconst 0, 1) := by decide +kernel
theorem dX8_multiply_34 : decode cX8_multiply 34 = .ok (.lreturn, 1) := by decide +kernel
theorem dX8_multiply_35 : decode cX8_multiply 35 = .ok (.aload_n 0, 1) := by decide +kernel
theorem dX8_multiply_36 : decode cX8_multiply 36 = .ok (.aload_n 0, 1) := by decide +kernel
theorem dX8_multiply_37 : decode cX8_multiply 37 = .ok (.getfield 25, 3) := by decide +kernel
theorem dX8_multiply_40 : decode cX8_multiply 40 = .ok (.iload_n 1, 1) := by decide +kernel
theorem dX8_multiply_41 : decode cX8_multiply 41 = .ok (.invokevirtual 131, 3) := by decide +kernel
theorem dX8_multiply_44 : decode cX8_multiply 44 = .ok (.aload_n 0, 1) := by decide +kernel
theorem dX8_multiply_45 : decode cX8_multiply 45 = .ok (.aload_n 0, 1) := by decide +kernel
theorem dX8_multiply_46 : decode cX8_multiply 46 = .ok (.getfield 29, 3) := by decide +kernel
theorem dX8_multiply_49 : decode cX8_multiply 49 = .ok (.iload_n 2, 1) := by decide +kernel
theorem dX8_multiply_50 : decode cX8_multiply 50 = .ok (.invokevirtual 131, 3) := by decide +kernel
theorem dX8_multiply_53 : decode cX8_multiply 53 = .ok (.aload_n 0, 1) := by decide +kernel
theorem dX8_multiply_54 : decode cX8_multiply 54 = .ok (.aload_n 0, 1) := by decide +kernel
theorem dX8_multiply_55 : decode cX8_multiply 55 = .ok (.getfield 25, 3) := by decide +kernel
theorem dX8_multiply_58 : decode cX8_multiply 58 = .ok (.aload_n 0, 1) := by decide +kernel
theorem dX8_multiply_59 : decode cX8_multiply 59 = .ok (.getfield 29, 3) := by decide +kernel
theorem dX8_multiply_62 : decode cX8_multiply 62 = .ok (.aload_n 0, 1) := by decide +kernel
theorem dX8_multiply_63 : decode cX8_multiply 63 = .ok (.getfield 35, 3) := by decide +kernel
theorem dX8_multiply_66 : decode cX8_multiply 66 = .ok (.invokevirtual 148, 3) := by decide +kernel
theorem dX8_multiply_69 : decode cX8_multiply 69 = .ok (.aload_n 0, 1) := by decide +kernel
theorem dX8_multiply_70 : decode cX8_multiply 70 = .ok (.aload_n 0, 1) := by decide +kernel
theorem dX8_multiply_71 : decode cX8_multiply 71 = .ok (.getfield 35, 3) := by decide +kernel
theorem dX8_multiply_74 : decode cX8_multiply 74 = .ok (.iconst 2, 1) := by decide +kernel
theorem dX8_multiply_75 : decode cX8_multiply 75 = .ok (.invokestatic 142, 3) := by decide +kernel
theorem dX8_multiply_78 : decode cX8_multiply 78 = .ok (.ifCond .eq 7, 3) := by decide +kernel
theorem dX8_multiply_81 : decode cX8_multiply 81 = .ok (.iconst 0, 1) := by decide +kernel
theorem dX8_multiply_82 : decode cX8_multiply 82 = .ok (.goto 4, 3) := by decide +kernel
theorem dX8_multiply_85 : decode cX8_multiply 85 = .ok (.iconst 2, 1) := by decide +kernel
theorem dX8_multiply_86 : decode cX8_multiply 86 = .ok (.invokevirtual 125, 3) := by decide +kernel
theorem dX8_multiply_89 : decode cX8_multiply 89 = .ok (.ifCond .eq 5, 3) := by decide +kernel
theorem dX8_multiply_92 : decode cX8_multiply 92 = .ok (.lconst 0, 1) := by decide +kernel
theorem dX8_multiply_93 : decode cX8_multiply 93 = .ok (.lreturn, 1) := by decide +kernel
theorem dX8_multiply_94 : decode cX8_multiply 94 = .ok (.aload_n 0, 1) := by decide +kernel
theorem dX8_multiply_95 : decode cX8_multiply 95 = .ok (.iload_n 3, 1) := by decide +kernel
theorem dX8_multiply_96 : decode cX8_multiply 96 = .ok (.invokevirtual 145, 3) := by decide +kernel
theorem dX8_multiply_99 : decode cX8_multiply 99 = .ok (.lstore 4, 2) := by decide +kernel
theorem dX8_multiply_101 : decode cX8_multiply 101 = .ok (.aload_n 0, 1) := by decide +kernel
theorem dX8_multiply_102 : decode cX8_multiply 102 = .ok (.getfield 7, 3) := by decide +kernel
theorem dX8_multiply_105 : decode cX8_multiply 105 = .ok (.bipush 65, 2) := by decide +kernel
theorem dX8_multiply_107 : decode cX8_multiply 107 = .ok (.dup2, 1) := by decide +kernel
theorem dX8_multiply_108 : decode cX8_multiply 108 = .ok (.iaload, 1) := by decide +kernel
theorem dX8_multiply_109 : decode cX8_multiply 109 = .ok (.iconst 1, 1) := by decide +kernel
theorem dX8_multiply_110 : decode cX8_multiply 110 = .ok (.iadd, 1) := by decide +kernel
theorem dX8_multiply_111 : decode cX8_multiply 111 = .ok (.iastore, 1) := by decide +kernel
theorem dX8_multiply_112 : decode cX8_multiply 112 = .ok (.lload 4, 2) := by decide +kernel
theorem dX8_multiply_114 : decode cX8_multiply 114 = .ok (.lreturn, 1) := by decide +kernel
theorem dX8_conjugate_0 : decode cX8_conjugate 0 = .ok (.aload_n 0, 1) := by decide +kernel
theorem dX8_conjugate_1 : decode cX8_conjugate 1 = .ok (.iload_n 1, 1) := by decide +kernel
theorem dX8_conjugate_2 : decode cX8_conjugate 2 = .ok (.invokestatic 121, 3) := by decide +kernel
theorem dX8_conjugate_5 : decode cX8_conjugate 5 = .ok (.ifCond .eq 7, 3) := by decide +kernel
theorem dX8_conjugate_8 : decode cX8_conjugate 8 = .ok (.iconst 0, 1) := by decide +kernel
theorem dX8_conjugate_9 : decode cX8_conjugate 9 = .ok (.goto 4, 3) := by decide +kernel
theorem dX8_conjugate_12 : decode cX8_conjugate 12 = .ok (.iconst 1, 1) := by decide +kernel
theorem dX8_conjugate_13 : decode cX8_conjugate 13 = .ok (.invokevirtual 125, 3) := by decide +kernel
theorem dX8_conjugate_16 : decode cX8_conjugate 16 = .ok (.ifCond .eq 5, 3) := by decide +kernel
theorem dX8_conjugate_19 : decode cX8_conjugate 19 = .ok (.iconst 0, 1) := by decide +kernel
theorem dX8_conjugate_20 : decode cX8_conjugate 20 = .ok (.ireturn, 1) := by decide +kernel
theorem dX8_conjugate_21 : decode cX8_conjugate 21 = .ok (.aload_n 0, 1) := by decide +kernel
theorem dX8_conjugate_22 : decode cX8_conjugate 22 = .ok (.invokevirtual 128, 3) := by decide +kernel
theorem dX8_conjugate_25 : decode cX8_conjugate 25 = .ok (.iconst 1, 1) := by decide +kernel
theorem dX8_conjugate_26 : decode cX8_conjugate 26 = .ok (.istore_n 2, 1) := by decide +kernel
theorem dX8_conjugate_27 : decode cX8_conjugate 27 = .ok (.iload_n 2, 1) := by decide +kernel
theorem dX8_conjugate_28 : decode cX8_conjugate 28 = .ok (.bipush 8, 2) := by decide +kernel
theorem dX8_conjugate_30 : decode cX8_conjugate 30 = .ok (.if_icmp .ge 32, 3) := by decide +kernel
theorem dX8_conjugate_33 : decode cX8_conjugate 33 = .ok (.aload_n 0, 1) := by decide +kernel
theorem dX8_conjugate_34 : decode cX8_conjugate 34 = .ok (.getfield 7, 3) := by decide +kernel
theorem dX8_conjugate_37 : decode cX8_conjugate 37 = .ok (.bipush 8, 2) := by decide +kernel
theorem dX8_conjugate_39 : decode cX8_conjugate 39 = .ok (.iload_n 1, 1) := by decide +kernel
theorem dX8_conjugate_40 : decode cX8_conjugate 40 = .ok (.imul, 1) := by decide +kernel
theorem dX8_conjugate_41 : decode cX8_conjugate 41 = .ok (.iload_n 2, 1) := by decide +kernel
theorem dX8_conjugate_42 : decode cX8_conjugate 42 = .ok (.iadd, 1) := by decide +kernel
theorem dX8_conjugate_43 : decode cX8_conjugate 43 = .ok (.aload_n 0, 1) := by decide +kernel
theorem dX8_conjugate_44 : decode cX8_conjugate 44 = .ok (.getfield 7, 3) := by decide +kernel
theorem dX8_conjugate_47 : decode cX8_conjugate 47 = .ok (.bipush 8, 2) := by decide +kernel
theorem dX8_conjugate_49 : decode cX8_conjugate 49 = .ok (.iload_n 1, 1) := by decide +kernel
theorem dX8_conjugate_50 : decode cX8_conjugate 50 = .ok (.imul, 1) := by decide +kernel
theorem dX8_conjugate_51 : decode cX8_conjugate 51 = .ok (.iload_n 2, 1) := by decide +kernel
theorem dX8_conjugate_52 : decode cX8_conjugate 52 = .ok (.iadd, 1) := by decide +kernel
theorem dX8_conjugate_53 : decode cX8_conjugate 53 = .ok (.iaload, 1) := by decide +kernel
theorem dX8_conjugate_54 : decode cX8_conjugate 54 = .ok (.ineg, 1) := by decide +kernel
theorem dX8_conjugate_55 : decode cX8_conjugate 55 = .ok (.iastore, 1) := by decide +kernel
theorem dX8_conjugate_56 : decode cX8_conjugate 56 = .ok (.iinc 2 1, 3) := by decide +kernel
theorem dX8_conjugate_59 : decode cX8_conjugate 59 = .ok (.goto (-32), 3) := by decide +kernel
theorem dX8_conjugate_62 : decode cX8_conjugate 62 = .ok (.aload_n 0, 1) := by decide +kernel
theorem dX8_conjugate_63 : decode cX8_conjugate 63 = .ok (.getfield 7, 3) := by decide +kernel
theorem dX8_conjugate_66 : decode cX8_conjugate 66 = .ok (.bipush 8, 2) := by decide +kernel
theorem dX8_conjugate_68 : decode cX8_conjugate 68 = .ok (.iload_n 1, 1) := by decide +kernel
theorem dX8_conjugate_69 : decode cX8_conjugate 69 = .ok (.imul, 1) := by decide +kernel
theorem dX8_conjugate_70 : decode cX8_conjugate 70 = .ok (.iaload, 1) := by decide +kernel
theorem dX8_conjugate_71 : decode cX8_conjugate 71 = .ok (.ireturn, 1) := by decide +kernel
theorem dX8_commutes_0 : decode cX8_commutes 0 = .ok (.aload_n 0, 1) := by decide +kernel
theorem dX8_commutes_1 : decode cX8_commutes 1 = .ok (.aload_n 0, 1) := by decide +kernel
theorem dX8_commutes_2 : decode cX8_commutes 2 = .ok (.getfield 25, 3) := by decide +kernel
theorem dX8_commutes_5 : decode cX8_commutes 5 = .ok (.iload_n 1, 1) := by decide +kernel
theorem dX8_commutes_6 : decode cX8_commutes 6 = .ok (.invokevirtual 131, 3) := by decide +kernel
theorem dX8_commutes_9 : decode cX8_commutes 9 = .ok (.aload_n 0, 1) := by decide +kernel
theorem dX8_commutes_10 : decode cX8_commutes 10 = .ok (.aload_n 0, 1) := by decide +kernel
theorem dX8_commutes_11 : decode cX8_commutes 11 = .ok (.getfield 29, 3) := by decide +kernel
theorem dX8_commutes_14 : decode cX8_commutes 14 = .ok (.iload_n 2, 1) := by decide +kernel
theorem dX8_commutes_15 : decode cX8_commutes 15 = .ok (.invokevirtual 131, 3) := by decide +kernel
theorem dX8_commutes_18 : decode cX8_commutes 18 = .ok (.aload_n 0, 1) := by decide +kernel
theorem dX8_commutes_19 : decode cX8_commutes 19 = .ok (.aload_n 0, 1) := by decide +kernel
theorem dX8_commutes_20 : decode cX8_commutes 20 = .ok (.getfield 25, 3) := by decide +kernel
theorem dX8_commutes_23 : decode cX8_commutes 23 = .ok (.aload_n 0, 1) := by decide +kernel
theorem dX8_commutes_24 : decode cX8_commutes 24 = .ok (.getfield 29, 3) := by decide +kernel
theorem dX8_commutes_27 : decode cX8_commutes 27 = .ok (.aload_n 0, 1) := by decide +kernel
theorem dX8_commutes_28 : decode cX8_commutes 28 = .ok (.getfield 41, 3) := by decide +kernel
theorem dX8_commutes_31 : decode cX8_commutes 31 = .ok (.invokevirtual 148, 3) := by decide +kernel
theorem dX8_commutes_34 : decode cX8_commutes 34 = .ok (.aload_n 0, 1) := by decide +kernel
theorem dX8_commutes_35 : decode cX8_commutes 35 = .ok (.aload_n 0, 1) := by decide +kernel
theorem dX8_commutes_36 : decode cX8_commutes 36 = .ok (.getfield 29, 3) := by decide +kernel
theorem dX8_commutes_39 : decode cX8_commutes 39 = .ok (.aload_n 0, 1) := by decide +kernel
theorem dX8_commutes_40 : decode cX8_commutes 40 = .ok (.getfield 25, 3) := by decide +kernel
theorem dX8_commutes_43 : decode cX8_commutes 43 = .ok (.aload_n 0, 1) := by decide +kernel
theorem dX8_commutes_44 : decode cX8_commutes 44 = .ok (.getfield 35, 3) := by decide +kernel
theorem dX8_commutes_47 : decode cX8_commutes 47 = .ok (.invokevirtual 148, 3) := by decide +kernel
theorem dX8_commutes_50 : decode cX8_commutes 50 = .ok (.iconst 0, 1) := by decide +kernel
theorem dX8_commutes_51 : decode cX8_commutes 51 = .ok (.istore_n 3, 1) := by decide +kernel
theorem dX8_commutes_52 : decode cX8_commutes 52 = .ok (.iload_n 3, 1) := by decide +kernel
theorem dX8_commutes_53 : decode cX8_commutes 53 = .ok (.bipush 8, 2) := by decide +kernel
theorem dX8_commutes_55 : decode cX8_commutes 55 = .ok (.if_icmp .ge 28, 3) := by decide +kernel
theorem dX8_commutes_58 : decode cX8_commutes 58 = .ok (.aload_n 0, 1) := by decide +kernel
theorem dX8_commutes_59 : decode cX8_commutes 59 = .ok (.getfield 35, 3) := by decide +kernel
theorem dX8_commutes_62 : decode cX8_commutes 62 = .ok (.iload_n 3, 1) := by decide +kernel
theorem dX8_commutes_63 : decode cX8_commutes 63 = .ok (.aload_n 0, 1) := by decide +kernel
theorem dX8_commutes_64 : decode cX8_commutes 64 = .ok (.getfield 41, 3) := by decide +kernel
theorem dX8_commutes_67 : decode cX8_commutes 67 = .ok (.iload_n 3, 1) := by decide +kernel
theorem dX8_commutes_68 : decode cX8_commutes 68 = .ok (.laload, 1) := by decide +kernel
theorem dX8_commutes_69 : decode cX8_commutes 69 = .ok (.aload_n 0, 1) := by decide +kernel
theorem dX8_commutes_70 : decode cX8_commutes 70 = .ok (.getfield 35, 3) := by decide +kernel
theorem dX8_commutes_73 : decode cX8_commutes 73 = .ok (.iload_n 3, 1) := by decide +kernel
theorem dX8_commutes_74 : decode cX8_commutes 74 = .ok (.laload, 1) := by decide +kernel
theorem dX8_commutes_75 : decode cX8_commutes 75 = .ok (.lsub, 1) := by decide +kernel
theorem dX8_commutes_76 : decode cX8_commutes 76 = .ok (.lastore, 1) := by decide +kernel
theorem dX8_commutes_77 : decode cX8_commutes 77 = .ok (.iinc 3 1, 3) := by decide +kernel
theorem dX8_commutes_80 : decode cX8_commutes 80 = .ok (.goto (-28), 3) := by decide +kernel
theorem dX8_commutes_83 : decode cX8_commutes 83 = .ok (.return_, 1) := by decide +kernel
theorem dX8_commutator_0 : decode cX8_commutator 0 = .ok (.aload_n 0, 1) := by decide +kernel
theorem dX8_commutator_1 : decode cX8_commutator 1 = .ok (.iload_n 1, 1) := by decide +kernel
theorem dX8_commutator_2 : decode cX8_commutator 2 = .ok (.invokestatic 121, 3) := by decide +kernel
theorem dX8_commutator_5 : decode cX8_commutator 5 = .ok (.ifCond .eq 17, 3) := by decide +kernel
theorem dX8_commutator_8 : decode cX8_commutator 8 = .ok (.iload_n 2, 1) := by decide +kernel
theorem dX8_commutator_9 : decode cX8_commutator 9 = .ok (.invokestatic 121, 3) := by decide +kernel
theorem dX8_commutator_12 : decode cX8_commutator 12 = .ok (.ifCond .eq 10, 3) := by decide +kernel
theorem dX8_commutator_15 : decode cX8_commutator 15 = .ok (.iload_n 3, 1) := by decide +kernel
theorem dX8_commutator_16 : decode cX8_commutator 16 = .ok (.invokestatic 121, 3) := by decide +kernel
theorem dX8_commutator_19 : decode cX8_commutator 19 = .ok (.ifCond .ne 7, 3) := by decide +kernel
theorem dX8_commutator_22 : decode cX8_commutator 22 = .ok (.iconst 1, 1) := by decide +kernel
theorem dX8_commutator_23 : decode cX8_commutator 23 = .ok (.goto 4, 3) := by decide +kernel
theorem dX8_commutator_26 : decode cX8_commutator 26 = .ok (.iconst 0, 1) := by decide +kernel
theorem dX8_commutator_27 : decode cX8_commutator 27 = .ok (.invokevirtual 125, 3) := by decide +kernel
theorem dX8_commutator_30 : decode cX8_commutator 30 = .ok (.ifCond .eq 5, 3) := by decide +kernel
theorem dX8_commutator_33 : decode cX8_commutator 33 = .ok (.lconst 0, 1) := by decide +kernel
theorem dX8_commutator_34 : decode cX8_commutator 34 = .ok (.lreturn, 1) := by decide +kernel
theorem dX8_commutator_35 : decode cX8_commutator 35 = .ok (.aload_n 0, 1) := by decide +kernel
theorem dX8_commutator_36 : decode cX8_commutator 36 = .ok (.iload_n 1, 1) := by decide +kernel
theorem dX8_commutator_37 : decode cX8_commutator 37 = .ok (.iload_n 2, 1) := by decide +kernel
theorem dX8_commutator_38 : decode cX8_commutator 38 = .ok (.invokevirtual 152, 3) := by decide +kernel
theorem dX8_commutator_41 : decode cX8_commutator 41 = .ok (.aload_n 0, 1) := by decide +kernel
theorem dX8_commutator_42 : decode cX8_commutator 42 = .ok (.aload_n 0, 1) := by decide +kernel
theorem dX8_commutator_43 : decode cX8_commutator 43 = .ok (.getfield 35, 3) := by decide +kernel
theorem dX8_commutator_46 : decode cX8_commutator 46 = .ok (.iconst 2, 1) := by decide +kernel
theorem dX8_commutator_47 : decode cX8_commutator 47 = .ok (.invokestatic 142, 3) := by decide +kernel
theorem dX8_commutator_50 : decode cX8_commutator 50 = .ok (.ifCond .eq 7, 3) := by decide +kernel
theorem dX8_commutator_53 : decode cX8_commutator 53 = .ok (.iconst 0, 1) := by decide +kernel
theorem dX8_commutator_54 : decode cX8_commutator 54 = .ok (.goto 4, 3) := by decide +kernel
theorem dX8_commutator_57 : decode cX8_commutator 57 = .ok (.iconst 2, 1) := by decide +kernel
theorem dX8_commutator_58 : decode cX8_commutator 58 = .ok (.invokevirtual 125, 3) := by decide +kernel
theorem dX8_commutator_61 : decode cX8_commutator 61 = .ok (.ifCond .eq 7, 3) := by decide +kernel
theorem dX8_commutator_64 : decode cX8_commutator 64 = .ok (.lconst 0, 1) := by decide +kernel
theorem dX8_commutator_65 : decode cX8_commutator 65 = .ok (.goto 8, 3) := by decide +kernel
theorem dX8_commutator_68 : decode cX8_commutator 68 = .ok (.aload_n 0, 1) := by decide +kernel
theorem dX8_commutator_69 : decode cX8_commutator 69 = .ok (.iload_n 3, 1) := by decide +kernel
theorem dX8_commutator_70 : decode cX8_commutator 70 = .ok (.invokevirtual 145, 3) := by decide +kernel
theorem dX8_commutator_73 : decode cX8_commutator 73 = .ok (.lreturn, 1) := by decide +kernel
theorem dX8_associates_0 : decode cX8_associates 0 = .ok (.aload_n 0, 1) := by decide +kernel
theorem dX8_associates_1 : decode cX8_associates 1 = .ok (.aload_n 0, 1) := by decide +kernel
theorem dX8_associates_2 : decode cX8_associates 2 = .ok (.getfield 25, 3) := by decide +kernel
theorem dX8_associates_5 : decode cX8_associates 5 = .ok (.iload_n 1, 1) := by decide +kernel
theorem dX8_associates_6 : decode cX8_associates 6 = .ok (.invokevirtual 131, 3) := by decide +kernel
theorem dX8_associates_9 : decode cX8_associates 9 = .ok (.aload_n 0, 1) := by decide +kernel
theorem dX8_associates_10 : decode cX8_associates 10 = .ok (.aload_n 0, 1) := by decide +kernel
theorem dX8_associates_11 : decode cX8_associates 11 = .ok (.getfield 29, 3) := by decide +kernel
theorem dX8_associates_14 : decode cX8_associates 14 = .ok (.iload_n 2, 1) := by decide +kernel
theorem dX8_associates_15 : decode cX8_associates 15 = .ok (.invokevirtual 131, 3) := by decide +kernel
theorem dX8_associates_18 : decode cX8_associates 18 = .ok (.aload_n 0, 1) := by decide +kernel
theorem dX8_associates_19 : decode cX8_associates 19 = .ok (.aload_n 0, 1) := by decide +kernel
theorem dX8_associates_20 : decode cX8_associates 20 = .ok (.getfield 25, 3) := by decide +kernel
theorem dX8_associates_23 : decode cX8_associates 23 = .ok (.aload_n 0, 1) := by decide +kernel
theorem dX8_associates_24 : decode cX8_associates 24 = .ok (.getfield 29, 3) := by decide +kernel
theorem dX8_associates_27 : decode cX8_associates 27 = .ok (.aload_n 0, 1) := by decide +kernel
theorem dX8_associates_28 : decode cX8_associates 28 = .ok (.getfield 41, 3) := by decide +kernel
theorem dX8_associates_31 : decode cX8_associates 31 = .ok (.invokevirtual 148, 3) := by decide +kernel
theorem dX8_associates_34 : decode cX8_associates 34 = .ok (.aload_n 0, 1) := by decide +kernel
theorem dX8_associates_35 : decode cX8_associates 35 = .ok (.aload_n 0, 1) := by decide +kernel
theorem dX8_associates_36 : decode cX8_associates 36 = .ok (.getfield 29, 3) := by decide +kernel
theorem dX8_associates_39 : decode cX8_associates 39 = .ok (.iload_n 3, 1) := by decide +kernel
theorem dX8_associates_40 : decode cX8_associates 40 = .ok (.invokevirtual 131, 3) := by decide +kernel
theorem dX8_associates_43 : decode cX8_associates 43 = .ok (.aload_n 0, 1) := by decide +kernel
theorem dX8_associates_44 : decode cX8_associates 44 = .ok (.aload_n 0, 1) := by decide +kernel
theorem dX8_associates_45 : decode cX8_associates 45 = .ok (.getfield 41, 3) := by decide +kernel
theorem dX8_associates_48 : decode cX8_associates 48 = .ok (.aload_n 0, 1) := by decide +kernel
theorem dX8_associates_49 : decode cX8_associates 49 = .ok (.getfield 29, 3) := by decide +kernel
theorem dX8_associates_52 : decode cX8_associates 52 = .ok (.aload_n 0, 1) := by decide +kernel
theorem dX8_associates_53 : decode cX8_associates 53 = .ok (.getfield 41, 3) := by decide +kernel
theorem dX8_associates_56 : decode cX8_associates 56 = .ok (.invokevirtual 148, 3) := by decide +kernel
theorem dX8_associates_59 : decode cX8_associates 59 = .ok (.aload_n 0, 1) := by decide +kernel
theorem dX8_associates_60 : decode cX8_associates 60 = .ok (.aload_n 0, 1) := by decide +kernel
theorem dX8_associates_61 : decode cX8_associates 61 = .ok (.getfield 25, 3) := by decide +kernel
theorem dX8_associates_64 : decode cX8_associates 64 = .ok (.iload_n 2, 1) := by decide +kernel
theorem dX8_associates_65 : decode cX8_associates 65 = .ok (.invokevirtual 131, 3) := by decide +kernel
theorem dX8_associates_68 : decode cX8_associates 68 = .ok (.aload_n 0, 1) := by decide +kernel
theorem dX8_associates_69 : decode cX8_associates 69 = .ok (.aload_n 0, 1) := by decide +kernel
theorem dX8_associates_70 : decode cX8_associates 70 = .ok (.getfield 25, 3) := by decide +kernel
theorem dX8_associates_73 : decode cX8_associates 73 = .ok (.aload_n 0, 1) := by decide +kernel
theorem dX8_associates_74 : decode cX8_associates 74 = .ok (.getfield 29, 3) := by decide +kernel
theorem dX8_associates_77 : decode cX8_associates 77 = .ok (.aload_n 0, 1) := by decide +kernel
theorem dX8_associates_78 : decode cX8_associates 78 = .ok (.getfield 35, 3) := by decide +kernel
theorem dX8_associates_81 : decode cX8_associates 81 = .ok (.invokevirtual 148, 3) := by decide +kernel
theorem dX8_associates_84 : decode cX8_associates 84 = .ok (.aload_n 0, 1) := by decide +kernel
theorem dX8_associates_85 : decode cX8_associates 85 = .ok (.aload_n 0, 1) := by decide +kernel
theorem dX8_associates_86 : decode cX8_associates 86 = .ok (.getfield 25, 3) := by decide +kernel
theorem dX8_associates_89 : decode cX8_associates 89 = .ok (.iload_n 1, 1) := by decide +kernel
theorem dX8_associates_90 : decode cX8_associates 90 = .ok (.invokevirtual 131, 3) := by decide +kernel
theorem dX8_associates_93 : decode cX8_associates 93 = .ok (.aload_n 0, 1) := by decide +kernel
theorem dX8_associates_94 : decode cX8_associates 94 = .ok (.aload_n 0, 1) := by decide +kernel
theorem dX8_associates_95 : decode cX8_associates 95 = .ok (.getfield 25, 3) := by decide +kernel
theorem dX8_associates_98 : decode cX8_associates 98 = .ok (.aload_n 0, 1) := by decide +kernel
theorem dX8_associates_99 : decode cX8_associates 99 = .ok (.getfield 35, 3) := by decide +kernel
theorem dX8_associates_102 : decode cX8_associates 102 = .ok (.aload_n 0, 1) := by decide +kernel
theorem dX8_associates_103 : decode cX8_associates 103 = .ok (.getfield 35, 3) := by decide +kernel
theorem dX8_associates_106 : decode cX8_associates 106 = .ok (.invokevirtual 148, 3) := by decide +kernel
theorem dX8_associates_109 : decode cX8_associates 109 = .ok (.iconst 0, 1) := by decide +kernel
theorem dX8_associates_110 : decode cX8_associates 110 = .ok (.istore 4, 2) := by decide +kernel
theorem dX8_associates_112 : decode cX8_associates 112 = .ok (.iload 4, 2) := by decide +kernel
theorem dX8_associates_114 : decode cX8_associates 114 = .ok (.bipush 8, 2) := by decide +kernel
theorem dX8_associates_116 : decode cX8_associates 116 = .ok (.if_icmp .ge 31, 3) := by decide +kernel
theorem dX8_associates_119 : decode cX8_associates 119 = .ok (.aload_n 0, 1) := by decide +kernel
theorem dX8_associates_120 : decode cX8_associates 120 = .ok (.getfield 35, 3) := by decide +kernel
theorem dX8_associates_123 : decode cX8_associates 123 = .ok (.iload 4, 2) := by decide +kernel
theorem dX8_associates_125 : decode cX8_associates 125 = .ok (.aload_n 0, 1) := by decide +kernel
theorem dX8_associates_126 : decode cX8_associates 126 = .ok (.getfield 41, 3) := by decide +kernel
theorem dX8_associates_129 : decode cX8_associates 129 = .ok (.iload 4, 2) := by decide +kernel
theorem dX8_associates_131 : decode cX8_associates 131 = .ok (.laload, 1) := by decide +kernel
theorem dX8_associates_132 : decode cX8_associates 132 = .ok (.aload_n 0, 1) := by decide +kernel
theorem dX8_associates_133 : decode cX8_associates 133 = .ok (.getfield 35, 3) := by decide +kernel
theorem dX8_associates_136 : decode cX8_associates 136 = .ok (.iload 4, 2) := by decide +kernel
theorem dX8_associates_138 : decode cX8_associates 138 = .ok (.laload, 1) := by decide +kernel
theorem dX8_associates_139 : decode cX8_associates 139 = .ok (.lsub, 1) := by decide +kernel
theorem dX8_associates_140 : decode cX8_associates 140 = .ok (.lastore, 1) := by decide +kernel
theorem dX8_associates_141 : decode cX8_associates 141 = .ok (.iinc 4 1, 3) := by decide +kernel
theorem dX8_associates_144 : decode cX8_associates 144 = .ok (.goto (-32), 3) := by decide +kernel
theorem dX8_associates_147 : decode cX8_associates 147 = .ok (.return_, 1) := by decide +kernel
theorem dX8_associator_0 : decode cX8_associator 0 = .ok (.aload_n 0, 1) := by decide +kernel
theorem dX8_associator_1 : decode cX8_associator 1 = .ok (.iload_n 1, 1) := by decide +kernel
theorem dX8_associator_2 : decode cX8_associator 2 = .ok (.invokestatic 121, 3) := by decide +kernel
theorem dX8_associator_5 : decode cX8_associator 5 = .ok (.ifCond .eq 25, 3) := by decide +kernel
theorem dX8_associator_8 : decode cX8_associator 8 = .ok (.iload_n 2, 1) := by decide +kernel
theorem dX8_associator_9 : decode cX8_associator 9 = .ok (.invokestatic 121, 3) := by decide +kernel
theorem dX8_associator_12 : decode cX8_associator 12 = .ok (.ifCond .eq 18, 3) := by decide +kernel
theorem dX8_associator_15 : decode cX8_associator 15 = .ok (.iload_n 3, 1) := by decide +kernel
theorem dX8_associator_16 : decode cX8_associator 16 = .ok (.invokestatic 121, 3) := by decide +kernel
theorem dX8_associator_19 : decode cX8_associator 19 = .ok (.ifCond .eq 11, 3) := by decide +kernel
theorem dX8_associator_22 : decode cX8_associator 22 = .ok (.iload 4, 2) := by decide +kernel
theorem dX8_associator_24 : decode cX8_associator 24 = .ok (.invokestatic 121, 3) := by decide +kernel
theorem dX8_associator_27 : decode cX8_associator 27 = .ok (.ifCond .ne 7, 3) := by decide +kernel
theorem dX8_associator_30 : decode cX8_associator 30 = .ok (.iconst 1, 1) := by decide +kernel
theorem dX8_associator_31 : decode cX8_associator 31 = .ok (.goto 4, 3) := by decide +kernel
theorem dX8_associator_34 : decode cX8_associator 34 = .ok (.iconst 0, 1) := by decide +kernel
theorem dX8_associator_35 : decode cX8_associator 35 = .ok (.invokevirtual 125, 3) := by decide +kernel
theorem dX8_associator_38 : decode cX8_associator 38 = .ok (.ifCond .eq 5, 3) := by decide +kernel
theorem dX8_associator_41 : decode cX8_associator 41 = .ok (.lconst 0, 1) := by decide +kernel
theorem dX8_associator_42 : decode cX8_associator 42 = .ok (.lreturn, 1) := by decide +kernel
theorem dX8_associator_43 : decode cX8_associator 43 = .ok (.aload_n 0, 1) := by decide +kernel
theorem dX8_associator_44 : decode cX8_associator 44 = .ok (.iload_n 1, 1) := by decide +kernel
theorem dX8_associator_45 : decode cX8_associator 45 = .ok (.iload_n 2, 1) := by decide +kernel
theorem dX8_associator_46 : decode cX8_associator 46 = .ok (.iload_n 3, 1) := by decide +kernel
theorem dX8_associator_47 : decode cX8_associator 47 = .ok (.invokevirtual 156, 3) := by decide +kernel
theorem dX8_associator_50 : decode cX8_associator 50 = .ok (.aload_n 0, 1) := by decide +kernel
theorem dX8_associator_51 : decode cX8_associator 51 = .ok (.aload_n 0, 1) := by decide +kernel
theorem dX8_associator_52 : decode cX8_associator 52 = .ok (.getfield 35, 3) := by decide +kernel
theorem dX8_associator_55 : decode cX8_associator 55 = .ok (.iconst 4, 1) := by decide +kernel
theorem dX8_associator_56 : decode cX8_associator 56 = .ok (.invokestatic 142, 3) := by decide +kernel
theorem dX8_associator_59 : decode cX8_associator 59 = .ok (.ifCond .eq 7, 3) := by decide +kernel
theorem dX8_associator_62 : decode cX8_associator 62 = .ok (.iconst 0, 1) := by decide +kernel
theorem dX8_associator_63 : decode cX8_associator 63 = .ok (.goto 4, 3) := by decide +kernel
theorem dX8_associator_66 : decode cX8_associator 66 = .ok (.iconst 2, 1) := by decide +kernel
theorem dX8_associator_67 : decode cX8_associator 67 = .ok (.invokevirtual 125, 3) := by decide +kernel
theorem dX8_associator_70 : decode cX8_associator 70 = .ok (.ifCond .eq 7, 3) := by decide +kernel
theorem dX8_associator_73 : decode cX8_associator 73 = .ok (.lconst 0, 1) := by decide +kernel
theorem dX8_associator_74 : decode cX8_associator 74 = .ok (.goto 9, 3) := by decide +kernel
theorem dX8_associator_77 : decode cX8_associator 77 = .ok (.aload_n 0, 1) := by decide +kernel
theorem dX8_associator_78 : decode cX8_associator 78 = .ok (.iload 4, 2) := by decide +kernel
theorem dX8_associator_80 : decode cX8_associator 80 = .ok (.invokevirtual 145, 3) := by decide +kernel
theorem dX8_associator_83 : decode cX8_associator 83 = .ok (.lreturn, 1) := by decide +kernel
theorem dX8_cut_0 : decode cX8_cut 0 = .ok (.lload_n 0, 1) := by decide +kernel
theorem dX8_cut_1 : decode cX8_cut 1 = .ok (.lload_n 2, 1) := by decide +kernel
theorem dX8_cut_2 : decode cX8_cut 2 = .ok (.ldiv, 1) := by decide +kernel
theorem dX8_cut_3 : decode cX8_cut 3 = .ok (.lstore 4, 2) := by decide +kernel
theorem dX8_cut_5 : decode cX8_cut 5 = .ok (.lload_n 0, 1) := by decide +kernel
theorem dX8_cut_6 : decode cX8_cut 6 = .ok (.lload_n 2, 1) := by decide +kernel
theorem dX8_cut_7 : decode cX8_cut 7 = .ok (.lrem, 1) := by decide +kernel
theorem dX8_cut_8 : decode cX8_cut 8 = .ok (.lconst 0, 1) := by decide +kernel
theorem dX8_cut_9 : decode cX8_cut 9 = .ok (.lcmp, 1) := by decide +kernel
theorem dX8_cut_10 : decode cX8_cut 10 = .ok (.ifCond .ge 10, 3) := by decide +kernel
theorem dX8_cut_13 : decode cX8_cut 13 = .ok (.lload 4, 2) := by decide +kernel
theorem dX8_cut_15 : decode cX8_cut 15 = .ok (.lconst 1, 1) := by decide +kernel
theorem dX8_cut_16 : decode cX8_cut 16 = .ok (.lsub, 1) := by decide +kernel
theorem dX8_cut_17 : decode cX8_cut 17 = .ok (.goto 5, 3) := by decide +kernel
theorem dX8_cut_20 : decode cX8_cut 20 = .ok (.lload 4, 2) := by decide +kernel
theorem dX8_cut_22 : decode cX8_cut 22 = .ok (.lreturn, 1) := by decide +kernel
theorem dX8_nearest_0 : decode cX8_nearest 0 = .ok (.ldc2_w 101, 3) := by decide +kernel
theorem dX8_nearest_3 : decode cX8_nearest 3 = .ok (.lload_n 0, 1) := by decide +kernel
theorem dX8_nearest_4 : decode cX8_nearest 4 = .ok (.lload_n 2, 1) := by decide +kernel
theorem dX8_nearest_5 : decode cX8_nearest 5 = .ok (.invokestatic 159, 3) := by decide +kernel
theorem dX8_nearest_8 : decode cX8_nearest 8 = .ok (.lmul, 1) := by decide +kernel
theorem dX8_nearest_9 : decode cX8_nearest 9 = .ok (.iload 4, 2) := by decide +kernel
theorem dX8_nearest_11 : decode cX8_nearest 11 = .ok (.i2l, 1) := by decide +kernel
theorem dX8_nearest_12 : decode cX8_nearest 12 = .ok (.ladd, 1) := by decide +kernel
theorem dX8_nearest_13 : decode cX8_nearest 13 = .ok (.lstore 5, 2) := by decide +kernel
theorem dX8_nearest_15 : decode cX8_nearest 15 = .ok (.lload 5, 2) := by decide +kernel
theorem dX8_nearest_17 : decode cX8_nearest 17 = .ok (.lload_n 2, 1) := by decide +kernel
theorem dX8_nearest_18 : decode cX8_nearest 18 = .ok (.lmul, 1) := by decide +kernel
theorem dX8_nearest_19 : decode cX8_nearest 19 = .ok (.ldc2_w 101, 3) := by decide +kernel
theorem dX8_nearest_22 : decode cX8_nearest 22 = .ok (.lload_n 0, 1) := by decide +kernel
theorem dX8_nearest_23 : decode cX8_nearest 23 = .ok (.lmul, 1) := by decide +kernel
theorem dX8_nearest_24 : decode cX8_nearest 24 = .ok (.lcmp, 1) := by decide +kernel
theorem dX8_nearest_25 : decode cX8_nearest 25 = .ok (.ifCond .le 12, 3) := by decide +kernel
theorem dX8_nearest_28 : decode cX8_nearest 28 = .ok (.lload 5, 2) := by decide +kernel
theorem dX8_nearest_30 : decode cX8_nearest 30 = .ok (.ldc2_w 101, 3) := by decide +kernel
theorem dX8_nearest_33 : decode cX8_nearest 33 = .ok (.lsub, 1) := by decide +kernel
theorem dX8_nearest_34 : decode cX8_nearest 34 = .ok (.goto 5, 3) := by decide +kernel
theorem dX8_nearest_37 : decode cX8_nearest 37 = .ok (.lload 5, 2) := by decide +kernel
theorem dX8_nearest_39 : decode cX8_nearest 39 = .ok (.lstore 5, 2) := by decide +kernel
theorem dX8_nearest_41 : decode cX8_nearest 41 = .ok (.ldc2_w 101, 3) := by decide +kernel
theorem dX8_nearest_44 : decode cX8_nearest 44 = .ok (.lload_n 0, 1) := by decide +kernel
theorem dX8_nearest_45 : decode cX8_nearest 45 = .ok (.lmul, 1) := by decide +kernel
theorem dX8_nearest_46 : decode cX8_nearest 46 = .ok (.lload 5, 2) := by decide +kernel
theorem dX8_nearest_48 : decode cX8_nearest 48 = .ok (.lload_n 2, 1) := by decide +kernel
theorem dX8_nearest_49 : decode cX8_nearest 49 = .ok (.lmul, 1) := by decide +kernel
theorem dX8_nearest_50 : decode cX8_nearest 50 = .ok (.lsub, 1) := by decide +kernel
theorem dX8_nearest_51 : decode cX8_nearest 51 = .ok (.lload 5, 2) := by decide +kernel
theorem dX8_nearest_53 : decode cX8_nearest 53 = .ok (.ldc2_w 101, 3) := by decide +kernel
theorem dX8_nearest_56 : decode cX8_nearest 56 = .ok (.ladd, 1) := by decide +kernel
theorem dX8_nearest_57 : decode cX8_nearest 57 = .ok (.lload_n 2, 1) := by decide +kernel
theorem dX8_nearest_58 : decode cX8_nearest 58 = .ok (.lmul, 1) := by decide +kernel
theorem dX8_nearest_59 : decode cX8_nearest 59 = .ok (.ldc2_w 101, 3) := by decide +kernel
theorem dX8_nearest_62 : decode cX8_nearest 62 = .ok (.lload_n 0, 1) := by decide +kernel
theorem dX8_nearest_63 : decode cX8_nearest 63 = .ok (.lmul, 1) := by decide +kernel
theorem dX8_nearest_64 : decode cX8_nearest 64 = .ok (.lsub, 1) := by decide +kernel
theorem dX8_nearest_65 : decode cX8_nearest 65 = .ok (.lcmp, 1) := by decide +kernel
theorem dX8_nearest_66 : decode cX8_nearest 66 = .ok (.ifCond .gt 8, 3) := by decide +kernel
theorem dX8_nearest_69 : decode cX8_nearest 69 = .ok (.lload 5, 2) := by decide +kernel
theorem dX8_nearest_71 : decode cX8_nearest 71 = .ok (.goto 9, 3) := by decide +kernel
theorem dX8_nearest_74 : decode cX8_nearest 74 = .ok (.lload 5, 2) := by decide +kernel
theorem dX8_nearest_76 : decode cX8_nearest 76 = .ok (.ldc2_w 101, 3) := by decide +kernel
theorem dX8_nearest_79 : decode cX8_nearest 79 = .ok (.ladd, 1) := by decide +kernel
theorem dX8_nearest_80 : decode cX8_nearest 80 = .ok (.lreturn, 1) := by decide +kernel
theorem dX8_isLower_0 : decode cX8_isLower 0 = .ok (.iconst 0, 1) := by decide +kernel
theorem dX8_isLower_1 : decode cX8_isLower 1 = .ok (.istore_n 1, 1) := by decide +kernel
theorem dX8_isLower_2 : decode cX8_isLower 2 = .ok (.iload_n 1, 1) := by decide +kernel
theorem dX8_isLower_3 : decode cX8_isLower 3 = .ok (.bipush 8, 2) := by decide +kernel
theorem dX8_isLower_5 : decode cX8_isLower 5 = .ok (.if_icmp .ge 47, 3) := by decide +kernel
theorem dX8_isLower_8 : decode cX8_isLower 8 = .ok (.aload_n 0, 1) := by decide +kernel
theorem dX8_isLower_9 : decode cX8_isLower 9 = .ok (.getfield 57, 3) := by decide +kernel
theorem dX8_isLower_12 : decode cX8_isLower 12 = .ok (.iload_n 1, 1) := by decide +kernel
theorem dX8_isLower_13 : decode cX8_isLower 13 = .ok (.laload, 1) := by decide +kernel
theorem dX8_isLower_14 : decode cX8_isLower 14 = .ok (.aload_n 0, 1) := by decide +kernel
theorem dX8_isLower_15 : decode cX8_isLower 15 = .ok (.getfield 51, 3) := by decide +kernel
theorem dX8_isLower_18 : decode cX8_isLower 18 = .ok (.iload_n 1, 1) := by decide +kernel
theorem dX8_isLower_19 : decode cX8_isLower 19 = .ok (.laload, 1) := by decide +kernel
theorem dX8_isLower_20 : decode cX8_isLower 20 = .ok (.lcmp, 1) := by decide +kernel
theorem dX8_isLower_21 : decode cX8_isLower 21 = .ok (.ifCond .eq 25, 3) := by decide +kernel
theorem dX8_isLower_24 : decode cX8_isLower 24 = .ok (.aload_n 0, 1) := by decide +kernel
theorem dX8_isLower_25 : decode cX8_isLower 25 = .ok (.getfield 57, 3) := by decide +kernel
theorem dX8_isLower_28 : decode cX8_isLower 28 = .ok (.iload_n 1, 1) := by decide +kernel
theorem dX8_isLower_29 : decode cX8_isLower 29 = .ok (.laload, 1) := by decide +kernel
theorem dX8_isLower_30 : decode cX8_isLower 30 = .ok (.aload_n 0, 1) := by decide +kernel
theorem dX8_isLower_31 : decode cX8_isLower 31 = .ok (.getfield 51, 3) := by decide +kernel
theorem dX8_isLower_34 : decode cX8_isLower 34 = .ok (.iload_n 1, 1) := by decide +kernel
theorem dX8_isLower_35 : decode cX8_isLower 35 = .ok (.laload, 1) := by decide +kernel
theorem dX8_isLower_36 : decode cX8_isLower 36 = .ok (.lcmp, 1) := by decide +kernel
theorem dX8_isLower_37 : decode cX8_isLower 37 = .ok (.ifCond .ge 7, 3) := by decide +kernel
theorem dX8_isLower_40 : decode cX8_isLower 40 = .ok (.iconst 1, 1) := by decide +kernel
theorem dX8_isLower_41 : decode cX8_isLower 41 = .ok (.goto 4, 3) := by decide +kernel
theorem dX8_isLower_44 : decode cX8_isLower 44 = .ok (.iconst 0, 1) := by decide +kernel
theorem dX8_isLower_45 : decode cX8_isLower 45 = .ok (.ireturn, 1) := by decide +kernel
theorem dX8_isLower_46 : decode cX8_isLower 46 = .ok (.iinc 1 1, 3) := by decide +kernel
theorem dX8_isLower_49 : decode cX8_isLower 49 = .ok (.goto (-47), 3) := by decide +kernel
theorem dX8_isLower_52 : decode cX8_isLower 52 = .ok (.iconst 0, 1) := by decide +kernel
theorem dX8_isLower_53 : decode cX8_isLower 53 = .ok (.ireturn, 1) := by decide +kernel
theorem dX8_divides_0 : decode cX8_divides 0 = .ok (.aload_n 0, 1) := by decide +kernel
theorem dX8_divides_1 : decode cX8_divides 1 = .ok (.getfield 29, 3) := by decide +kernel
theorem dX8_divides_4 : decode cX8_divides 4 = .ok (.invokestatic 97, 3) := by decide +kernel
theorem dX8_divides_7 : decode cX8_divides 7 = .ok (.lstore_n 1, 1) := by decide +kernel
theorem dX8_divides_8 : decode cX8_divides 8 = .ok (.iconst 1, 1) := by decide +kernel
theorem dX8_divides_9 : decode cX8_divides 9 = .ok (.istore_n 3, 1) := by decide +kernel
theorem dX8_divides_10 : decode cX8_divides 10 = .ok (.iload_n 3, 1) := by decide +kernel
theorem dX8_divides_11 : decode cX8_divides 11 = .ok (.bipush 8, 2) := by decide +kernel
theorem dX8_divides_13 : decode cX8_divides 13 = .ok (.if_icmp .ge 22, 3) := by decide +kernel
theorem dX8_divides_16 : decode cX8_divides 16 = .ok (.aload_n 0, 1) := by decide +kernel
theorem dX8_divides_17 : decode cX8_divides 17 = .ok (.getfield 29, 3) := by decide +kernel
theorem dX8_divides_20 : decode cX8_divides 20 = .ok (.iload_n 3, 1) := by decide +kernel
theorem dX8_divides_21 : decode cX8_divides 21 = .ok (.aload_n 0, 1) := by decide +kernel
theorem dX8_divides_22 : decode cX8_divides 22 = .ok (.getfield 29, 3) := by decide +kernel
theorem dX8_divides_25 : decode cX8_divides 25 = .ok (.iload_n 3, 1) := by decide +kernel
theorem dX8_divides_26 : decode cX8_divides 26 = .ok (.laload, 1) := by decide +kernel
theorem dX8_divides_27 : decode cX8_divides 27 = .ok (.lneg, 1) := by decide +kernel
theorem dX8_divides_28 : decode cX8_divides 28 = .ok (.lastore, 1) := by decide +kernel
theorem dX8_divides_29 : decode cX8_divides 29 = .ok (.iinc 3 1, 3) := by decide +kernel
theorem dX8_divides_32 : decode cX8_divides 32 = .ok (.goto (-22), 3) := by decide +kernel
theorem dX8_divides_35 : decode cX8_divides 35 = .ok (.aload_n 0, 1) := by decide +kernel
theorem dX8_divides_36 : decode cX8_divides 36 = .ok (.aload_n 0, 1) := by decide +kernel
theorem dX8_divides_37 : decode cX8_divides 37 = .ok (.getfield 25, 3) := by decide +kernel
theorem dX8_divides_40 : decode cX8_divides 40 = .ok (.aload_n 0, 1) := by decide +kernel
theorem dX8_divides_41 : decode cX8_divides 41 = .ok (.getfield 29, 3) := by decide +kernel
theorem dX8_divides_44 : decode cX8_divides 44 = .ok (.aload_n 0, 1) := by decide +kernel
theorem dX8_divides_45 : decode cX8_divides 45 = .ok (.getfield 41, 3) := by decide +kernel
theorem dX8_divides_48 : decode cX8_divides 48 = .ok (.invokevirtual 148, 3) := by decide +kernel
theorem dX8_divides_51 : decode cX8_divides 51 = .ok (.iconst 1, 1) := by decide +kernel
theorem dX8_divides_52 : decode cX8_divides 52 = .ok (.istore_n 3, 1) := by decide +kernel
theorem dX8_divides_53 : decode cX8_divides 53 = .ok (.iload_n 3, 1) := by decide +kernel
theorem dX8_divides_54 : decode cX8_divides 54 = .ok (.bipush 8, 2) := by decide +kernel
theorem dX8_divides_56 : decode cX8_divides 56 = .ok (.if_icmp .ge 22, 3) := by decide +kernel
theorem dX8_divides_59 : decode cX8_divides 59 = .ok (.aload_n 0, 1) := by decide +kernel
theorem dX8_divides_60 : decode cX8_divides 60 = .ok (.getfield 29, 3) := by decide +kernel
theorem dX8_divides_63 : decode cX8_divides 63 = .ok (.iload_n 3, 1) := by decide +kernel
theorem dX8_divides_64 : decode cX8_divides 64 = .ok (.aload_n 0, 1) := by decide +kernel
theorem dX8_divides_65 : decode cX8_divides 65 = .ok (.getfield 29, 3) := by decide +kernel
theorem dX8_divides_68 : decode cX8_divides 68 = .ok (.iload_n 3, 1) := by decide +kernel
theorem dX8_divides_69 : decode cX8_divides 69 = .ok (.laload, 1) := by decide +kernel
theorem dX8_divides_70 : decode cX8_divides 70 = .ok (.lneg, 1) := by decide +kernel
theorem dX8_divides_71 : decode cX8_divides 71 = .ok (.lastore, 1) := by decide +kernel
theorem dX8_divides_72 : decode cX8_divides 72 = .ok (.iinc 3 1, 3) := by decide +kernel
theorem dX8_divides_75 : decode cX8_divides 75 = .ok (.goto (-22), 3) := by decide +kernel
theorem dX8_divides_78 : decode cX8_divides 78 = .ok (.ldc2_w 163, 3) := by decide +kernel
theorem dX8_divides_81 : decode cX8_divides 81 = .ok (.lstore_n 3, 1) := by decide +kernel
theorem dX8_divides_82 : decode cX8_divides 82 = .ok (.iconst 0, 1) := by decide +kernel
theorem dX8_divides_83 : decode cX8_divides 83 = .ok (.istore 5, 2) := by decide +kernel
theorem dX8_divides_85 : decode cX8_divides 85 = .ok (.iload 5, 2) := by decide +kernel
theorem dX8_divides_87 : decode cX8_divides 87 = .ok (.sipush 256, 3) := by decide +kernel
theorem dX8_divides_90 : decode cX8_divides 90 = .ok (.if_icmp .ge 180, 3) := by decide +kernel
theorem dX8_divides_93 : decode cX8_divides 93 = .ok (.aload_n 0, 1) := by decide +kernel
theorem dX8_divides_94 : decode cX8_divides 94 = .ok (.getfield 7, 3) := by decide +kernel
theorem dX8_divides_97 : decode cX8_divides 97 = .ok (.bipush 64, 2) := by decide +kernel
theorem dX8_divides_99 : decode cX8_divides 99 = .ok (.iaload, 1) := by decide +kernel
theorem dX8_divides_100 : decode cX8_divides 100 = .ok (.ifCond .ne 11, 3) := by decide +kernel
theorem dX8_divides_103 : decode cX8_divides 103 = .ok (.iload 5, 2) := by decide +kernel
theorem dX8_divides_105 : decode cX8_divides 105 = .ok (.ifCond .ne 159, 3) := by decide +kernel
theorem dX8_divides_108 : decode cX8_divides 108 = .ok (.goto 19, 3) := by decide +kernel
theorem dX8_divides_111 : decode cX8_divides 111 = .ok (.aload_n 0, 1) := by decide +kernel
theorem dX8_divides_112 : decode cX8_divides 112 = .ok (.iload 5, 2) := by decide +kernel
theorem dX8_divides_114 : decode cX8_divides 114 = .ok (.aload_n 0, 1) := by decide +kernel
theorem dX8_divides_115 : decode cX8_divides 115 = .ok (.getfield 7, 3) := by decide +kernel
theorem dX8_divides_118 : decode cX8_divides 118 = .ok (.bipush 64, 2) := by decide +kernel
theorem dX8_divides_120 : decode cX8_divides 120 = .ok (.iaload, 1) := by decide +kernel
theorem dX8_divides_121 : decode cX8_divides 121 = .ok (.invokevirtual 103, 3) := by decide +kernel
theorem dX8_divides_124 : decode cX8_divides 124 = .ok (.ifCond .eq 140, 3) := by decide +kernel
theorem dX8_divides_127 : decode cX8_divides 127 = .ok (.lconst 0, 1) := by decide +kernel
theorem dX8_divides_128 : decode cX8_divides 128 = .ok (.lstore 6, 2) := by decide +kernel
theorem dX8_divides_130 : decode cX8_divides 130 = .ok (.iconst 0, 1) := by decide +kernel
theorem dX8_divides_131 : decode cX8_divides 131 = .ok (.istore 8, 2) := by decide +kernel
theorem dX8_divides_133 : decode cX8_divides 133 = .ok (.iload 8, 2) := by decide +kernel
theorem dX8_divides_135 : decode cX8_divides 135 = .ok (.bipush 8, 2) := by decide +kernel
theorem dX8_divides_137 : decode cX8_divides 137 = .ok (.if_icmp .ge 67, 3) := by decide +kernel
theorem dX8_divides_140 : decode cX8_divides 140 = .ok (.aload_n 0, 1) := by decide +kernel
theorem dX8_divides_141 : decode cX8_divides 141 = .ok (.getfield 57, 3) := by decide +kernel
theorem dX8_divides_144 : decode cX8_divides 144 = .ok (.iload 8, 2) := by decide +kernel
theorem dX8_divides_146 : decode cX8_divides 146 = .ok (.aload_n 0, 1) := by decide +kernel
theorem dX8_divides_147 : decode cX8_divides 147 = .ok (.getfield 41, 3) := by decide +kernel
theorem dX8_divides_150 : decode cX8_divides 150 = .ok (.iload 8, 2) := by decide +kernel
theorem dX8_divides_152 : decode cX8_divides 152 = .ok (.laload, 1) := by decide +kernel
theorem dX8_divides_153 : decode cX8_divides 153 = .ok (.lload_n 1, 1) := by decide +kernel
theorem dX8_divides_154 : decode cX8_divides 154 = .ok (.iload 5, 2) := by decide +kernel
theorem dX8_divides_156 : decode cX8_divides 156 = .ok (.iload 8, 2) := by decide +kernel
theorem dX8_divides_158 : decode cX8_divides 158 = .ok (.ishr, 1) := by decide +kernel
theorem dX8_divides_159 : decode cX8_divides 159 = .ok (.iconst 1, 1) := by decide +kernel
theorem dX8_divides_160 : decode cX8_divides 160 = .ok (.iand, 1) := by decide +kernel
theorem dX8_divides_161 : decode cX8_divides 161 = .ok (.invokestatic 165, 3) := by decide +kernel
theorem dX8_divides_164 : decode cX8_divides 164 = .ok (.lastore, 1) := by decide +kernel
theorem dX8_divides_165 : decode cX8_divides 165 = .ok (.aload_n 0, 1) := by decide +kernel
theorem dX8_divides_166 : decode cX8_divides 166 = .ok (.getfield 57, 3) := by decide +kernel
theorem dX8_divides_169 : decode cX8_divides 169 = .ok (.iload 8, 2) := by decide +kernel
theorem dX8_divides_171 : decode cX8_divides 171 = .ok (.laload, 1) := by decide +kernel
theorem dX8_divides_172 : decode cX8_divides 172 = .ok (.lload_n 1, 1) := by decide +kernel
theorem dX8_divides_173 : decode cX8_divides 173 = .ok (.lmul, 1) := by decide +kernel
theorem dX8_divides_174 : decode cX8_divides 174 = .ok (.ldc2_w 101, 3) := by decide +kernel
theorem dX8_divides_177 : decode cX8_divides 177 = .ok (.aload_n 0, 1) := by decide +kernel
theorem dX8_divides_178 : decode cX8_divides 178 = .ok (.getfield 41, 3) := by decide +kernel
theorem dX8_divides_181 : decode cX8_divides 181 = .ok (.iload 8, 2) := by decide +kernel
theorem dX8_divides_183 : decode cX8_divides 183 = .ok (.laload, 1) := by decide +kernel
theorem dX8_divides_184 : decode cX8_divides 184 = .ok (.lmul, 1) := by decide +kernel
theorem dX8_divides_185 : decode cX8_divides 185 = .ok (.lsub, 1) := by decide +kernel
theorem dX8_divides_186 : decode cX8_divides 186 = .ok (.lstore 9, 2) := by decide +kernel
theorem dX8_divides_188 : decode cX8_divides 188 = .ok (.lload 6, 2) := by decide +kernel
theorem dX8_divides_190 : decode cX8_divides 190 = .ok (.lload 9, 2) := by decide +kernel
theorem dX8_divides_192 : decode cX8_divides 192 = .ok (.lload 9, 2) := by decide +kernel
theorem dX8_divides_194 : decode cX8_divides 194 = .ok (.lmul, 1) := by decide +kernel
theorem dX8_divides_195 : decode cX8_divides 195 = .ok (.ladd, 1) := by decide +kernel
theorem dX8_divides_196 : decode cX8_divides 196 = .ok (.lstore 6, 2) := by decide +kernel
theorem dX8_divides_198 : decode cX8_divides 198 = .ok (.iinc 8 1, 3) := by decide +kernel
theorem dX8_divides_201 : decode cX8_divides 201 = .ok (.goto (-68), 3) := by decide +kernel
theorem dX8_divides_204 : decode cX8_divides 204 = .ok (.lload_n 3, 1) := by decide +kernel
theorem dX8_divides_205 : decode cX8_divides 205 = .ok (.lconst 0, 1) := by decide +kernel
theorem dX8_divides_206 : decode cX8_divides 206 = .ok (.lcmp, 1) := by decide +kernel
theorem dX8_divides_207 : decode cX8_divides 207 = .ok (.ifCond .lt 24, 3) := by decide +kernel
theorem dX8_divides_210 : decode cX8_divides 210 = .ok (.lload 6, 2) := by decide +kernel
theorem dX8_divides_212 : decode cX8_divides 212 = .ok (.lload_n 3, 1) := by decide +kernel
theorem dX8_divides_213 : decode cX8_divides 213 = .ok (.lcmp, 1) := by decide +kernel
theorem dX8_divides_214 : decode cX8_divides 214 = .ok (.ifCond .lt 17, 3) := by decide +kernel
theorem dX8_divides_217 : decode cX8_divides 217 = .ok (.lload 6, 2) := by decide +kernel
theorem dX8_divides_219 : decode cX8_divides 219 = .ok (.lload_n 3, 1) := by decide +kernel
theorem dX8_divides_220 : decode cX8_divides 220 = .ok (.lcmp, 1) := by decide +kernel
theorem dX8_divides_221 : decode cX8_divides 221 = .ok (.ifCond .ne 43, 3) := by decide +kernel
theorem dX8_divides_224 : decode cX8_divides 224 = .ok (.aload_n 0, 1) := by decide +kernel
theorem dX8_divides_225 : decode cX8_divides 225 = .ok (.invokevirtual 169, 3) := by decide +kernel
theorem dX8_divides_228 : decode cX8_divides 228 = .ok (.ifCond .eq 36, 3) := by decide +kernel
theorem dX8_divides_231 : decode cX8_divides 231 = .ok (.lload 6, 2) := by decide +kernel
theorem dX8_divides_233 : decode cX8_divides 233 = .ok (.lstore_n 3, 1) := by decide +kernel
theorem dX8_divides_234 : decode cX8_divides 234 = .ok (.iconst 0, 1) := by decide +kernel
theorem dX8_divides_235 : decode cX8_divides 235 = .ok (.istore 8, 2) := by decide +kernel
theorem dX8_divides_237 : decode cX8_divides 237 = .ok (.iload 8, 2) := by decide +kernel
theorem dX8_divides_239 : decode cX8_divides 239 = .ok (.bipush 8, 2) := by decide +kernel
theorem dX8_divides_241 : decode cX8_divides 241 = .ok (.if_icmp .ge 23, 3) := by decide +kernel
theorem dX8_divides_244 : decode cX8_divides 244 = .ok (.aload_n 0, 1) := by decide +kernel
theorem dX8_divides_245 : decode cX8_divides 245 = .ok (.getfield 51, 3) := by decide +kernel
theorem dX8_divides_248 : decode cX8_divides 248 = .ok (.iload 8, 2) := by decide +kernel
theorem dX8_divides_250 : decode cX8_divides 250 = .ok (.aload_n 0, 1) := by decide +kernel
theorem dX8_divides_251 : decode cX8_divides 251 = .ok (.getfield 57, 3) := by decide +kernel
theorem dX8_divides_254 : decode cX8_divides 254 = .ok (.iload 8, 2) := by decide +kernel
theorem dX8_divides_256 : decode cX8_divides 256 = .ok (.laload, 1) := by decide +kernel
theorem dX8_divides_257 : decode cX8_divides 257 = .ok (.lastore, 1) := by decide +kernel
theorem dX8_divides_258 : decode cX8_divides 258 = .ok (.iinc 8 1, 3) := by decide +kernel
theorem dX8_divides_261 : decode cX8_divides 261 = .ok (.goto (-24), 3) := by decide +kernel
theorem dX8_divides_264 : decode cX8_divides 264 = .ok (.iinc 5 1, 3) := by decide +kernel
theorem dX8_divides_267 : decode cX8_divides 267 = .ok (.goto (-182), 3) := by decide +kernel
theorem dX8_divides_270 : decode cX8_divides 270 = .ok (.aload_n 0, 1) := by decide +kernel
theorem dX8_divides_271 : decode cX8_divides 271 = .ok (.aload_n 0, 1) := by decide +kernel
theorem dX8_divides_272 : decode cX8_divides 272 = .ok (.getfield 51, 3) := by decide +kernel
theorem dX8_divides_275 : decode cX8_divides 275 = .ok (.aload_n 0, 1) := by decide +kernel
theorem dX8_divides_276 : decode cX8_divides 276 = .ok (.getfield 29, 3) := by decide +kernel
theorem dX8_divides_279 : decode cX8_divides 279 = .ok (.aload_n 0, 1) := by decide +kernel
theorem dX8_divides_280 : decode cX8_divides 280 = .ok (.getfield 54, 3) := by decide +kernel
theorem dX8_divides_283 : decode cX8_divides 283 = .ok (.invokevirtual 148, 3) := by decide +kernel
theorem dX8_divides_286 : decode cX8_divides 286 = .ok (.iconst 0, 1) := by decide +kernel
theorem dX8_divides_287 : decode cX8_divides 287 = .ok (.istore 5, 2) := by decide +kernel
theorem dX8_divides_289 : decode cX8_divides 289 = .ok (.iload 5, 2) := by decide +kernel
theorem dX8_divides_291 : decode cX8_divides 291 = .ok (.bipush 8, 2) := by decide +kernel
theorem dX8_divides_293 : decode cX8_divides 293 = .ok (.if_icmp .ge 35, 3) := by decide +kernel
theorem dX8_divides_296 : decode cX8_divides 296 = .ok (.aload_n 0, 1) := by decide +kernel
theorem dX8_divides_297 : decode cX8_divides 297 = .ok (.getfield 54, 3) := by decide +kernel
theorem dX8_divides_300 : decode cX8_divides 300 = .ok (.iload 5, 2) := by decide +kernel
theorem dX8_divides_302 : decode cX8_divides 302 = .ok (.aload_n 0, 1) := by decide +kernel
theorem dX8_divides_303 : decode cX8_divides 303 = .ok (.getfield 25, 3) := by decide +kernel
theorem dX8_divides_306 : decode cX8_divides 306 = .ok (.iload 5, 2) := by decide +kernel
theorem dX8_divides_308 : decode cX8_divides 308 = .ok (.laload, 1) := by decide +kernel
theorem dX8_divides_309 : decode cX8_divides 309 = .ok (.aload_n 0, 1) := by decide +kernel
theorem dX8_divides_310 : decode cX8_divides 310 = .ok (.getfield 54, 3) := by decide +kernel
theorem dX8_divides_313 : decode cX8_divides 313 = .ok (.iload 5, 2) := by decide +kernel
theorem dX8_divides_315 : decode cX8_divides 315 = .ok (.laload, 1) := by decide +kernel
theorem dX8_divides_316 : decode cX8_divides 316 = .ok (.ldc2_w 101, 3) := by decide +kernel
theorem dX8_divides_319 : decode cX8_divides 319 = .ok (.ldiv, 1) := by decide +kernel
theorem dX8_divides_320 : decode cX8_divides 320 = .ok (.lsub, 1) := by decide +kernel
theorem dX8_divides_321 : decode cX8_divides 321 = .ok (.lastore, 1) := by decide +kernel
theorem dX8_divides_322 : decode cX8_divides 322 = .ok (.iinc 5 1, 3) := by decide +kernel
theorem dX8_divides_325 : decode cX8_divides 325 = .ok (.goto (-36), 3) := by decide +kernel
theorem dX8_divides_328 : decode cX8_divides 328 = .ok (.return_, 1) := by decide +kernel
theorem dX8_cannotDivide_0 : decode cX8_cannotDivide 0 = .ok (.aload_n 0, 1) := by decide +kernel
theorem dX8_cannotDivide_1 : decode cX8_cannotDivide 1 = .ok (.aload_n 0, 1) := by decide +kernel
theorem dX8_cannotDivide_2 : decode cX8_cannotDivide 2 = .ok (.getfield 25, 3) := by decide +kernel
theorem dX8_cannotDivide_5 : decode cX8_cannotDivide 5 = .ok (.iload_n 1, 1) := by decide +kernel
theorem dX8_cannotDivide_6 : decode cX8_cannotDivide 6 = .ok (.invokevirtual 131, 3) := by decide +kernel
theorem dX8_cannotDivide_9 : decode cX8_cannotDivide 9 = .ok (.aload_n 0, 1) := by decide +kernel
theorem dX8_cannotDivide_10 : decode cX8_cannotDivide 10 = .ok (.aload_n 0, 1) := by decide +kernel
theorem dX8_cannotDivide_11 : decode cX8_cannotDivide 11 = .ok (.getfield 29, 3) := by decide +kernel
theorem dX8_cannotDivide_14 : decode cX8_cannotDivide 14 = .ok (.iload_n 2, 1) := by decide +kernel
theorem dX8_cannotDivide_15 : decode cX8_cannotDivide 15 = .ok (.invokevirtual 131, 3) := by decide +kernel
theorem dX8_cannotDivide_18 : decode cX8_cannotDivide 18 = .ok (.aload_n 0, 1) := by decide +kernel
theorem dX8_cannotDivide_19 : decode cX8_cannotDivide 19 = .ok (.aload_n 0, 1) := by decide +kernel
theorem dX8_cannotDivide_20 : decode cX8_cannotDivide 20 = .ok (.getfield 25, 3) := by decide +kernel
theorem dX8_cannotDivide_23 : decode cX8_cannotDivide 23 = .ok (.aload_n 0, 1) := by decide +kernel
theorem dX8_cannotDivide_24 : decode cX8_cannotDivide 24 = .ok (.getfield 7, 3) := by decide +kernel
theorem dX8_cannotDivide_27 : decode cX8_cannotDivide 27 = .ok (.bipush 64, 2) := by decide +kernel
theorem dX8_cannotDivide_29 : decode cX8_cannotDivide 29 = .ok (.iaload, 1) := by decide +kernel
theorem dX8_cannotDivide_30 : decode cX8_cannotDivide 30 = .ok (.invokevirtual 114, 3) := by decide +kernel
theorem dX8_cannotDivide_33 : decode cX8_cannotDivide 33 = .ok (.ifCond .eq 31, 3) := by decide +kernel
theorem dX8_cannotDivide_36 : decode cX8_cannotDivide 36 = .ok (.aload_n 0, 1) := by decide +kernel
theorem dX8_cannotDivide_37 : decode cX8_cannotDivide 37 = .ok (.aload_n 0, 1) := by decide +kernel
theorem dX8_cannotDivide_38 : decode cX8_cannotDivide 38 = .ok (.getfield 29, 3) := by decide +kernel
theorem dX8_cannotDivide_41 : decode cX8_cannotDivide 41 = .ok (.aload_n 0, 1) := by decide +kernel
theorem dX8_cannotDivide_42 : decode cX8_cannotDivide 42 = .ok (.getfield 7, 3) := by decide +kernel
theorem dX8_cannotDivide_45 : decode cX8_cannotDivide 45 = .ok (.bipush 64, 2) := by decide +kernel
theorem dX8_cannotDivide_47 : decode cX8_cannotDivide 47 = .ok (.iaload, 1) := by decide +kernel
theorem dX8_cannotDivide_48 : decode cX8_cannotDivide 48 = .ok (.invokevirtual 114, 3) := by decide +kernel
theorem dX8_cannotDivide_51 : decode cX8_cannotDivide 51 = .ok (.ifCond .eq 13, 3) := by decide +kernel
theorem dX8_cannotDivide_54 : decode cX8_cannotDivide 54 = .ok (.aload_n 0, 1) := by decide +kernel
theorem dX8_cannotDivide_55 : decode cX8_cannotDivide 55 = .ok (.getfield 29, 3) := by decide +kernel
theorem dX8_cannotDivide_58 : decode cX8_cannotDivide 58 = .ok (.invokestatic 173, 3) := by decide +kernel
theorem dX8_cannotDivide_61 : decode cX8_cannotDivide 61 = .ok (.ifCond .eq 7, 3) := by decide +kernel
theorem dX8_cannotDivide_64 : decode cX8_cannotDivide 64 = .ok (.iconst 1, 1) := by decide +kernel
theorem dX8_cannotDivide_65 : decode cX8_cannotDivide 65 = .ok (.goto 4, 3) := by decide +kernel
theorem dX8_cannotDivide_68 : decode cX8_cannotDivide 68 = .ok (.iconst 0, 1) := by decide +kernel
theorem dX8_cannotDivide_69 : decode cX8_cannotDivide 69 = .ok (.ireturn, 1) := by decide +kernel
theorem dX8_divide_0 : decode cX8_divide 0 = .ok (.iload_n 1, 1) := by decide +kernel
theorem dX8_divide_1 : decode cX8_divide 1 = .ok (.invokestatic 121, 3) := by decide +kernel
theorem dX8_divide_4 : decode cX8_divide 4 = .ok (.ifCond .eq 29, 3) := by decide +kernel
theorem dX8_divide_7 : decode cX8_divide 7 = .ok (.iload_n 2, 1) := by decide +kernel
theorem dX8_divide_8 : decode cX8_divide 8 = .ok (.invokestatic 121, 3) := by decide +kernel
theorem dX8_divide_11 : decode cX8_divide 11 = .ok (.ifCond .eq 22, 3) := by decide +kernel
theorem dX8_divide_14 : decode cX8_divide 14 = .ok (.iload_n 3, 1) := by decide +kernel
theorem dX8_divide_15 : decode cX8_divide 15 = .ok (.invokestatic 121, 3) := by decide +kernel
theorem dX8_divide_18 : decode cX8_divide 18 = .ok (.ifCond .eq 15, 3) := by decide +kernel
theorem dX8_divide_21 : decode cX8_divide 21 = .ok (.iload 4, 2) := by decide +kernel
theorem dX8_divide_23 : decode cX8_divide 23 = .ok (.invokestatic 121, 3) := by decide +kernel
theorem dX8_divide_26 : decode cX8_divide 26 = .ok (.ifCond .eq 7, 3) := by decide +kernel
theorem dX8_divide_29 : decode cX8_divide 29 = .ok (.iconst 1, 1) := by decide +kernel
theorem dX8_divide_30 : decode cX8_divide 30 = .ok (.goto 4, 3) := by decide +kernel
theorem dX8_divide_33 : decode cX8_divide 33 = .ok (.iconst 0, 1) := by decide +kernel
theorem dX8_divide_34 : decode cX8_divide 34 = .ok (.istore 5, 2) := by decide +kernel
theorem dX8_divide_36 : decode cX8_divide 36 = .ok (.aload_n 0, 1) := by decide +kernel
theorem dX8_divide_37 : decode cX8_divide 37 = .ok (.iload 5, 2) := by decide +kernel
theorem dX8_divide_39 : decode cX8_divide 39 = .ok (.ifCond .ne 7, 3) := by decide +kernel
theorem dX8_divide_42 : decode cX8_divide 42 = .ok (.iconst 1, 1) := by decide +kernel
theorem dX8_divide_43 : decode cX8_divide 43 = .ok (.goto 27, 3) := by decide +kernel
theorem dX8_divide_46 : decode cX8_divide 46 = .ok (.iload_n 3, 1) := by decide +kernel
theorem dX8_divide_47 : decode cX8_divide 47 = .ok (.iload 4, 2) := by decide +kernel
theorem dX8_divide_49 : decode cX8_divide 49 = .ok (.if_icmp .ne 7, 3) := by decide +kernel
theorem dX8_divide_52 : decode cX8_divide 52 = .ok (.iconst 2, 1) := by decide +kernel
theorem dX8_divide_53 : decode cX8_divide 53 = .ok (.goto 17, 3) := by decide +kernel
theorem dX8_divide_56 : decode cX8_divide 56 = .ok (.aload_n 0, 1) := by decide +kernel
theorem dX8_divide_57 : decode cX8_divide 57 = .ok (.iload_n 1, 1) := by decide +kernel
theorem dX8_divide_58 : decode cX8_divide 58 = .ok (.iload_n 2, 1) := by decide +kernel
theorem dX8_divide_59 : decode cX8_divide 59 = .ok (.invokevirtual 177, 3) := by decide +kernel
theorem dX8_divide_62 : decode cX8_divide 62 = .ok (.ifCond .eq 7, 3) := by decide +kernel
theorem dX8_divide_65 : decode cX8_divide 65 = .ok (.iconst 3, 1) := by decide +kernel
theorem dX8_divide_66 : decode cX8_divide 66 = .ok (.goto 4, 3) := by decide +kernel
theorem dX8_divide_69 : decode cX8_divide 69 = .ok (.iconst 0, 1) := by decide +kernel
theorem dX8_divide_70 : decode cX8_divide 70 = .ok (.invokevirtual 125, 3) := by decide +kernel
theorem dX8_divide_73 : decode cX8_divide 73 = .ok (.ifCond .eq 5, 3) := by decide +kernel
theorem dX8_divide_76 : decode cX8_divide 76 = .ok (.lconst 0, 1) := by decide +kernel
theorem dX8_divide_77 : decode cX8_divide 77 = .ok (.lreturn, 1) := by decide +kernel
theorem dX8_divide_78 : decode cX8_divide 78 = .ok (.aload_n 0, 1) := by decide +kernel
theorem dX8_divide_79 : decode cX8_divide 79 = .ok (.invokevirtual 180, 3) := by decide +kernel
theorem dX8_divide_82 : decode cX8_divide 82 = .ok (.aload_n 0, 1) := by decide +kernel
theorem dX8_divide_83 : decode cX8_divide 83 = .ok (.aload_n 0, 1) := by decide +kernel
theorem dX8_divide_84 : decode cX8_divide 84 = .ok (.getfield 51, 3) := by decide +kernel
theorem dX8_divide_87 : decode cX8_divide 87 = .ok (.iconst 1, 1) := by decide +kernel
theorem dX8_divide_88 : decode cX8_divide 88 = .ok (.invokestatic 142, 3) := by decide +kernel
theorem dX8_divide_91 : decode cX8_divide 91 = .ok (.ifCond .eq 18, 3) := by decide +kernel
theorem dX8_divide_94 : decode cX8_divide 94 = .ok (.aload_n 0, 1) := by decide +kernel
theorem dX8_divide_95 : decode cX8_divide 95 = .ok (.getfield 54, 3) := by decide +kernel
theorem dX8_divide_98 : decode cX8_divide 98 = .ok (.iconst 1, 1) := by decide +kernel
theorem dX8_divide_99 : decode cX8_divide 99 = .ok (.invokestatic 142, 3) := by decide +kernel
theorem dX8_divide_102 : decode cX8_divide 102 = .ok (.ifCond .eq 7, 3) := by decide +kernel
theorem dX8_divide_105 : decode cX8_divide 105 = .ok (.iconst 0, 1) := by decide +kernel
theorem dX8_divide_106 : decode cX8_divide 106 = .ok (.goto 4, 3) := by decide +kernel
theorem dX8_divide_109 : decode cX8_divide 109 = .ok (.iconst 4, 1) := by decide +kernel
theorem dX8_divide_110 : decode cX8_divide 110 = .ok (.invokevirtual 125, 3) := by decide +kernel
theorem dX8_divide_113 : decode cX8_divide 113 = .ok (.ifCond .eq 5, 3) := by decide +kernel
theorem dX8_divide_116 : decode cX8_divide 116 = .ok (.lconst 0, 1) := by decide +kernel
theorem dX8_divide_117 : decode cX8_divide 117 = .ok (.lreturn, 1) := by decide +kernel
theorem dX8_divide_118 : decode cX8_divide 118 = .ok (.aload_n 0, 1) := by decide +kernel
theorem dX8_divide_119 : decode cX8_divide 119 = .ok (.invokevirtual 128, 3) := by decide +kernel
theorem dX8_divide_122 : decode cX8_divide 122 = .ok (.aload_n 0, 1) := by decide +kernel
theorem dX8_divide_123 : decode cX8_divide 123 = .ok (.aload_n 0, 1) := by decide +kernel
theorem dX8_divide_124 : decode cX8_divide 124 = .ok (.getfield 51, 3) := by decide +kernel
theorem dX8_divide_127 : decode cX8_divide 127 = .ok (.iload_n 3, 1) := by decide +kernel
theorem dX8_divide_128 : decode cX8_divide 128 = .ok (.invokevirtual 139, 3) := by decide +kernel
theorem dX8_divide_131 : decode cX8_divide 131 = .ok (.aload_n 0, 1) := by decide +kernel
theorem dX8_divide_132 : decode cX8_divide 132 = .ok (.aload_n 0, 1) := by decide +kernel
theorem dX8_divide_133 : decode cX8_divide 133 = .ok (.getfield 54, 3) := by decide +kernel
theorem dX8_divide_136 : decode cX8_divide 136 = .ok (.iload 4, 2) := by decide +kernel
theorem dX8_divide_138 : decode cX8_divide 138 = .ok (.invokevirtual 139, 3) := by decide +kernel
theorem dX8_divide_141 : decode cX8_divide 141 = .ok (.aload_n 0, 1) := by decide +kernel
theorem dX8_divide_142 : decode cX8_divide 142 = .ok (.getfield 7, 3) := by decide +kernel
theorem dX8_divide_145 : decode cX8_divide 145 = .ok (.bipush 66, 2) := by decide +kernel
theorem dX8_divide_147 : decode cX8_divide 147 = .ok (.dup2, 1) := by decide +kernel
theorem dX8_divide_148 : decode cX8_divide 148 = .ok (.iaload, 1) := by decide +kernel
theorem dX8_divide_149 : decode cX8_divide 149 = .ok (.iconst 1, 1) := by decide +kernel
theorem dX8_divide_150 : decode cX8_divide 150 = .ok (.iadd, 1) := by decide +kernel
theorem dX8_divide_151 : decode cX8_divide 151 = .ok (.iastore, 1) := by decide +kernel
theorem dX8_divide_152 : decode cX8_divide 152 = .ok (.aload_n 0, 1) := by decide +kernel
theorem dX8_divide_153 : decode cX8_divide 153 = .ok (.getfield 54, 3) := by decide +kernel
theorem dX8_divide_156 : decode cX8_divide 156 = .ok (.invokestatic 97, 3) := by decide +kernel
theorem dX8_divide_159 : decode cX8_divide 159 = .ok (.lreturn, 1) := by decide +kernel
theorem dX8_euclid_0 : decode cX8_euclid 0 = .ok (.aload_n 0, 1) := by decide +kernel
theorem dX8_euclid_1 : decode cX8_euclid 1 = .ok (.aload_n 0, 1) := by decide +kernel
theorem dX8_euclid_2 : decode cX8_euclid 2 = .ok (.getfield 25, 3) := by decide +kernel
theorem dX8_euclid_5 : decode cX8_euclid 5 = .ok (.iload_n 1, 1) := by decide +kernel
theorem dX8_euclid_6 : decode cX8_euclid 6 = .ok (.invokevirtual 131, 3) := by decide +kernel
theorem dX8_euclid_9 : decode cX8_euclid 9 = .ok (.aload_n 0, 1) := by decide +kernel
theorem dX8_euclid_10 : decode cX8_euclid 10 = .ok (.aload_n 0, 1) := by decide +kernel
theorem dX8_euclid_11 : decode cX8_euclid 11 = .ok (.getfield 29, 3) := by decide +kernel
theorem dX8_euclid_14 : decode cX8_euclid 14 = .ok (.iload_n 2, 1) := by decide +kernel
theorem dX8_euclid_15 : decode cX8_euclid 15 = .ok (.invokevirtual 131, 3) := by decide +kernel
theorem dX8_euclid_18 : decode cX8_euclid 18 = .ok (.iconst 0, 1) := by decide +kernel
theorem dX8_euclid_19 : decode cX8_euclid 19 = .ok (.istore_n 3, 1) := by decide +kernel
theorem dX8_euclid_20 : decode cX8_euclid 20 = .ok (.iload_n 3, 1) := by decide +kernel
theorem dX8_euclid_21 : decode cX8_euclid 21 = .ok (.bipush 40, 2) := by decide +kernel
theorem dX8_euclid_23 : decode cX8_euclid 23 = .ok (.if_icmp .gt 78, 3) := by decide +kernel
theorem dX8_euclid_26 : decode cX8_euclid 26 = .ok (.aload_n 0, 1) := by decide +kernel
theorem dX8_euclid_27 : decode cX8_euclid 27 = .ok (.getfield 29, 3) := by decide +kernel
theorem dX8_euclid_30 : decode cX8_euclid 30 = .ok (.invokestatic 173, 3) := by decide +kernel
theorem dX8_euclid_33 : decode cX8_euclid 33 = .ok (.ifCond .ne 68, 3) := by decide +kernel
theorem dX8_euclid_36 : decode cX8_euclid 36 = .ok (.aload_n 0, 1) := by decide +kernel
theorem dX8_euclid_37 : decode cX8_euclid 37 = .ok (.aload_n 0, 1) := by decide +kernel
theorem dX8_euclid_38 : decode cX8_euclid 38 = .ok (.getfield 29, 3) := by decide +kernel
theorem dX8_euclid_41 : decode cX8_euclid 41 = .ok (.invokestatic 97, 3) := by decide +kernel
theorem dX8_euclid_44 : decode cX8_euclid 44 = .ok (.putfield 183, 3) := by decide +kernel
theorem dX8_euclid_47 : decode cX8_euclid 47 = .ok (.aload_n 0, 1) := by decide +kernel
theorem dX8_euclid_48 : decode cX8_euclid 48 = .ok (.invokevirtual 180, 3) := by decide +kernel
theorem dX8_euclid_51 : decode cX8_euclid 51 = .ok (.iconst 0, 1) := by decide +kernel
theorem dX8_euclid_52 : decode cX8_euclid 52 = .ok (.istore 4, 2) := by decide +kernel
theorem dX8_euclid_54 : decode cX8_euclid 54 = .ok (.iload 4, 2) := by decide +kernel
theorem dX8_euclid_56 : decode cX8_euclid 56 = .ok (.bipush 8, 2) := by decide +kernel
theorem dX8_euclid_58 : decode cX8_euclid 58 = .ok (.if_icmp .ge 37, 3) := by decide +kernel
theorem dX8_euclid_61 : decode cX8_euclid 61 = .ok (.aload_n 0, 1) := by decide +kernel
theorem dX8_euclid_62 : decode cX8_euclid 62 = .ok (.getfield 25, 3) := by decide +kernel
theorem dX8_euclid_65 : decode cX8_euclid 65 = .ok (.iload 4, 2) := by decide +kernel
theorem dX8_euclid_67 : decode cX8_euclid 67 = .ok (.aload_n 0, 1) := by decide +kernel
theorem dX8_euclid_68 : decode cX8_euclid 68 = .ok (.getfield 29, 3) := by decide +kernel
theorem dX8_euclid_71 : decode cX8_euclid 71 = .ok (.iload 4, 2) := by decide +kernel
theorem dX8_euclid_73 : decode cX8_euclid 73 = .ok (.laload, 1) := by decide +kernel
theorem dX8_euclid_74 : decode cX8_euclid 74 = .ok (.lastore, 1) := by decide +kernel
theorem dX8_euclid_75 : decode cX8_euclid 75 = .ok (.aload_n 0, 1) := by decide +kernel
theorem dX8_euclid_76 : decode cX8_euclid 76 = .ok (.getfield 29, 3) := by decide +kernel
theorem dX8_euclid_79 : decode cX8_euclid 79 = .ok (.iload 4, 2) := by decide +kernel
theorem dX8_euclid_81 : decode cX8_euclid 81 = .ok (.aload_n 0, 1) := by decide +kernel
theorem dX8_euclid_82 : decode cX8_euclid 82 = .ok (.getfield 54, 3) := by decide +kernel
theorem dX8_euclid_85 : decode cX8_euclid 85 = .ok (.iload 4, 2) := by decide +kernel
theorem dX8_euclid_87 : decode cX8_euclid 87 = .ok (.laload, 1) := by decide +kernel
theorem dX8_euclid_88 : decode cX8_euclid 88 = .ok (.lastore, 1) := by decide +kernel
theorem dX8_euclid_89 : decode cX8_euclid 89 = .ok (.iinc 4 1, 3) := by decide +kernel
theorem dX8_euclid_92 : decode cX8_euclid 92 = .ok (.goto (-38), 3) := by decide +kernel
theorem dX8_euclid_95 : decode cX8_euclid 95 = .ok (.iinc 3 1, 3) := by decide +kernel
theorem dX8_euclid_98 : decode cX8_euclid 98 = .ok (.goto (-78), 3) := by decide +kernel
theorem dX8_euclid_101 : decode cX8_euclid 101 = .ok (.iload_n 3, 1) := by decide +kernel
theorem dX8_euclid_102 : decode cX8_euclid 102 = .ok (.bipush 40, 2) := by decide +kernel
theorem dX8_euclid_104 : decode cX8_euclid 104 = .ok (.if_icmp .le 7, 3) := by decide +kernel
theorem dX8_euclid_107 : decode cX8_euclid 107 = .ok (.iconst (-1), 1) := by decide +kernel
theorem dX8_euclid_108 : decode cX8_euclid 108 = .ok (.goto 4, 3) := by decide +kernel
theorem dX8_euclid_111 : decode cX8_euclid 111 = .ok (.iload_n 3, 1) := by decide +kernel
theorem dX8_euclid_112 : decode cX8_euclid 112 = .ok (.ireturn, 1) := by decide +kernel
theorem dX8_steps_0 : decode cX8_steps 0 = .ok (.aload_n 0, 1) := by decide +kernel
theorem dX8_steps_1 : decode cX8_steps 1 = .ok (.iload_n 1, 1) := by decide +kernel
theorem dX8_steps_2 : decode cX8_steps 2 = .ok (.invokestatic 121, 3) := by decide +kernel
theorem dX8_steps_5 : decode cX8_steps 5 = .ok (.ifCond .eq 10, 3) := by decide +kernel
theorem dX8_steps_8 : decode cX8_steps 8 = .ok (.iload_n 2, 1) := by decide +kernel
theorem dX8_steps_9 : decode cX8_steps 9 = .ok (.invokestatic 121, 3) := by decide +kernel
theorem dX8_steps_12 : decode cX8_steps 12 = .ok (.ifCond .ne 7, 3) := by decide +kernel
theorem dX8_steps_15 : decode cX8_steps 15 = .ok (.iconst 1, 1) := by decide +kernel
theorem dX8_steps_16 : decode cX8_steps 16 = .ok (.goto 17, 3) := by decide +kernel
theorem dX8_steps_19 : decode cX8_steps 19 = .ok (.aload_n 0, 1) := by decide +kernel
theorem dX8_steps_20 : decode cX8_steps 20 = .ok (.iload_n 1, 1) := by decide +kernel
theorem dX8_steps_21 : decode cX8_steps 21 = .ok (.iload_n 2, 1) := by decide +kernel
theorem dX8_steps_22 : decode cX8_steps 22 = .ok (.invokevirtual 177, 3) := by decide +kernel
theorem dX8_steps_25 : decode cX8_steps 25 = .ok (.ifCond .eq 7, 3) := by decide +kernel
theorem dX8_steps_28 : decode cX8_steps 28 = .ok (.iconst 2, 1) := by decide +kernel
theorem dX8_steps_29 : decode cX8_steps 29 = .ok (.goto 4, 3) := by decide +kernel
theorem dX8_steps_32 : decode cX8_steps 32 = .ok (.iconst 0, 1) := by decide +kernel
theorem dX8_steps_33 : decode cX8_steps 33 = .ok (.invokevirtual 125, 3) := by decide +kernel
theorem dX8_steps_36 : decode cX8_steps 36 = .ok (.ifCond .eq 7, 3) := by decide +kernel
theorem dX8_steps_39 : decode cX8_steps 39 = .ok (.iconst 0, 1) := by decide +kernel
theorem dX8_steps_40 : decode cX8_steps 40 = .ok (.goto 9, 3) := by decide +kernel
theorem dX8_steps_43 : decode cX8_steps 43 = .ok (.aload_n 0, 1) := by decide +kernel
theorem dX8_steps_44 : decode cX8_steps 44 = .ok (.iload_n 1, 1) := by decide +kernel
theorem dX8_steps_45 : decode cX8_steps 45 = .ok (.iload_n 2, 1) := by decide +kernel
theorem dX8_steps_46 : decode cX8_steps 46 = .ok (.invokevirtual 187, 3) := by decide +kernel
theorem dX8_steps_49 : decode cX8_steps 49 = .ok (.ireturn, 1) := by decide +kernel
theorem dX8_lastNorm_0 : decode cX8_lastNorm 0 = .ok (.aload_n 0, 1) := by decide +kernel
theorem dX8_lastNorm_1 : decode cX8_lastNorm 1 = .ok (.iload_n 1, 1) := by decide +kernel
theorem dX8_lastNorm_2 : decode cX8_lastNorm 2 = .ok (.invokestatic 121, 3) := by decide +kernel
theorem dX8_lastNorm_5 : decode cX8_lastNorm 5 = .ok (.ifCond .eq 10, 3) := by decide +kernel
theorem dX8_lastNorm_8 : decode cX8_lastNorm 8 = .ok (.iload_n 2, 1) := by decide +kernel
theorem dX8_lastNorm_9 : decode cX8_lastNorm 9 = .ok (.invokestatic 121, 3) := by decide +kernel
theorem dX8_lastNorm_12 : decode cX8_lastNorm 12 = .ok (.ifCond .ne 7, 3) := by decide +kernel
theorem dX8_lastNorm_15 : decode cX8_lastNorm 15 = .ok (.iconst 1, 1) := by decide +kernel
theorem dX8_lastNorm_16 : decode cX8_lastNorm 16 = .ok (.goto 17, 3) := by decide +kernel
theorem dX8_lastNorm_19 : decode cX8_lastNorm 19 = .ok (.aload_n 0, 1) := by decide +kernel
theorem dX8_lastNorm_20 : decode cX8_lastNorm 20 = .ok (.iload_n 1, 1) := by decide +kernel
theorem dX8_lastNorm_21 : decode cX8_lastNorm 21 = .ok (.iload_n 2, 1) := by decide +kernel
theorem dX8_lastNorm_22 : decode cX8_lastNorm 22 = .ok (.invokevirtual 177, 3) := by decide +kernel
theorem dX8_lastNorm_25 : decode cX8_lastNorm 25 = .ok (.ifCond .eq 7, 3) := by decide +kernel
theorem dX8_lastNorm_28 : decode cX8_lastNorm 28 = .ok (.iconst 2, 1) := by decide +kernel
theorem dX8_lastNorm_29 : decode cX8_lastNorm 29 = .ok (.goto 4, 3) := by decide +kernel
theorem dX8_lastNorm_32 : decode cX8_lastNorm 32 = .ok (.iconst 0, 1) := by decide +kernel
theorem dX8_lastNorm_33 : decode cX8_lastNorm 33 = .ok (.invokevirtual 125, 3) := by decide +kernel
theorem dX8_lastNorm_36 : decode cX8_lastNorm 36 = .ok (.ifCond .eq 5, 3) := by decide +kernel
theorem dX8_lastNorm_39 : decode cX8_lastNorm 39 = .ok (.lconst 0, 1) := by decide +kernel
theorem dX8_lastNorm_40 : decode cX8_lastNorm 40 = .ok (.lreturn, 1) := by decide +kernel
theorem dX8_lastNorm_41 : decode cX8_lastNorm 41 = .ok (.aload_n 0, 1) := by decide +kernel
theorem dX8_lastNorm_42 : decode cX8_lastNorm 42 = .ok (.iload_n 1, 1) := by decide +kernel
theorem dX8_lastNorm_43 : decode cX8_lastNorm 43 = .ok (.iload_n 2, 1) := by decide +kernel
theorem dX8_lastNorm_44 : decode cX8_lastNorm 44 = .ok (.invokevirtual 187, 3) := by decide +kernel
theorem dX8_lastNorm_47 : decode cX8_lastNorm 47 = .ok (.iconst (-1), 1) := by decide +kernel
theorem dX8_lastNorm_48 : decode cX8_lastNorm 48 = .ok (.if_icmp .ne 9, 3) := by decide +kernel
theorem dX8_lastNorm_51 : decode cX8_lastNorm 51 = .ok (.ldc2_w 163, 3) := by decide +kernel
theorem dX8_lastNorm_54 : decode cX8_lastNorm 54 = .ok (.goto 7, 3) := by decide +kernel
theorem dX8_lastNorm_57 : decode cX8_lastNorm 57 = .ok (.aload_n 0, 1) := by decide +kernel
theorem dX8_lastNorm_58 : decode cX8_lastNorm 58 = .ok (.getfield 183, 3) := by decide +kernel
theorem dX8_lastNorm_61 : decode cX8_lastNorm 61 = .ok (.lreturn, 1) := by decide +kernel
theorem dX8_coordinate_0 : decode cX8_coordinate 0 = .ok (.aload_n 0, 1) := by decide +kernel
theorem dX8_coordinate_1 : decode cX8_coordinate 1 = .ok (.iload_n 1, 1) := by decide +kernel
theorem dX8_coordinate_2 : decode cX8_coordinate 2 = .ok (.invokestatic 121, 3) := by decide +kernel
theorem dX8_coordinate_5 : decode cX8_coordinate 5 = .ok (.ifCond .eq 14, 3) := by decide +kernel
theorem dX8_coordinate_8 : decode cX8_coordinate 8 = .ok (.iload_n 2, 1) := by decide +kernel
theorem dX8_coordinate_9 : decode cX8_coordinate 9 = .ok (.invokestatic 121, 3) := by decide +kernel
theorem dX8_coordinate_12 : decode cX8_coordinate 12 = .ok (.ifCond .eq 7, 3) := by decide +kernel
theorem dX8_coordinate_15 : decode cX8_coordinate 15 = .ok (.iconst 0, 1) := by decide +kernel
theorem dX8_coordinate_16 : decode cX8_coordinate 16 = .ok (.goto 4, 3) := by decide +kernel
theorem dX8_coordinate_19 : decode cX8_coordinate 19 = .ok (.iconst 1, 1) := by decide +kernel
theorem dX8_coordinate_20 : decode cX8_coordinate 20 = .ok (.invokevirtual 125, 3) := by decide +kernel
theorem dX8_coordinate_23 : decode cX8_coordinate 23 = .ok (.ifCond .eq 7, 3) := by decide +kernel
theorem dX8_coordinate_26 : decode cX8_coordinate 26 = .ok (.iconst 0, 1) := by decide +kernel
theorem dX8_coordinate_27 : decode cX8_coordinate 27 = .ok (.goto 14, 3) := by decide +kernel
theorem dX8_coordinate_30 : decode cX8_coordinate 30 = .ok (.aload_n 0, 1) := by decide +kernel
theorem dX8_coordinate_31 : decode cX8_coordinate 31 = .ok (.getfield 7, 3) := by decide +kernel
theorem dX8_coordinate_34 : decode cX8_coordinate 34 = .ok (.bipush 8, 2) := by decide +kernel
theorem dX8_coordinate_36 : decode cX8_coordinate 36 = .ok (.iload_n 1, 1) := by decide +kernel
theorem dX8_coordinate_37 : decode cX8_coordinate 37 = .ok (.imul, 1) := by decide +kernel
theorem dX8_coordinate_38 : decode cX8_coordinate 38 = .ok (.iload_n 2, 1) := by decide +kernel
theorem dX8_coordinate_39 : decode cX8_coordinate 39 = .ok (.iadd, 1) := by decide +kernel
theorem dX8_coordinate_40 : decode cX8_coordinate 40 = .ok (.iaload, 1) := by decide +kernel
theorem dX8_coordinate_41 : decode cX8_coordinate 41 = .ok (.ireturn, 1) := by decide +kernel
theorem dX8_norm_0 : decode cX8_norm 0 = .ok (.aload_n 0, 1) := by decide +kernel
theorem dX8_norm_1 : decode cX8_norm 1 = .ok (.iload_n 1, 1) := by decide +kernel
theorem dX8_norm_2 : decode cX8_norm 2 = .ok (.invokestatic 121, 3) := by decide +kernel
theorem dX8_norm_5 : decode cX8_norm 5 = .ok (.ifCond .eq 7, 3) := by decide +kernel
theorem dX8_norm_8 : decode cX8_norm 8 = .ok (.iconst 0, 1) := by decide +kernel
theorem dX8_norm_9 : decode cX8_norm 9 = .ok (.goto 4, 3) := by decide +kernel
theorem dX8_norm_12 : decode cX8_norm 12 = .ok (.iconst 1, 1) := by decide +kernel
theorem dX8_norm_13 : decode cX8_norm 13 = .ok (.invokevirtual 125, 3) := by decide +kernel
theorem dX8_norm_16 : decode cX8_norm 16 = .ok (.ifCond .eq 7, 3) := by decide +kernel
theorem dX8_norm_19 : decode cX8_norm 19 = .ok (.lconst 0, 1) := by decide +kernel
theorem dX8_norm_20 : decode cX8_norm 20 = .ok (.goto 8, 3) := by decide +kernel
theorem dX8_norm_23 : decode cX8_norm 23 = .ok (.aload_n 0, 1) := by decide +kernel
theorem dX8_norm_24 : decode cX8_norm 24 = .ok (.iload_n 1, 1) := by decide +kernel
theorem dX8_norm_25 : decode cX8_norm 25 = .ok (.invokevirtual 135, 3) := by decide +kernel
theorem dX8_norm_28 : decode cX8_norm 28 = .ok (.lreturn, 1) := by decide +kernel
theorem dX8_dot_0 : decode cX8_dot 0 = .ok (.aload_n 0, 1) := by decide +kernel
theorem dX8_dot_1 : decode cX8_dot 1 = .ok (.iload_n 1, 1) := by decide +kernel
theorem dX8_dot_2 : decode cX8_dot 2 = .ok (.invokestatic 121, 3) := by decide +kernel
theorem dX8_dot_5 : decode cX8_dot 5 = .ok (.ifCond .eq 14, 3) := by decide +kernel
theorem dX8_dot_8 : decode cX8_dot 8 = .ok (.iload_n 2, 1) := by decide +kernel
theorem dX8_dot_9 : decode cX8_dot 9 = .ok (.invokestatic 121, 3) := by decide +kernel
theorem dX8_dot_12 : decode cX8_dot 12 = .ok (.ifCond .eq 7, 3) := by decide +kernel
theorem dX8_dot_15 : decode cX8_dot 15 = .ok (.iconst 0, 1) := by decide +kernel
theorem dX8_dot_16 : decode cX8_dot 16 = .ok (.goto 4, 3) := by decide +kernel
theorem dX8_dot_19 : decode cX8_dot 19 = .ok (.iconst 1, 1) := by decide +kernel
theorem dX8_dot_20 : decode cX8_dot 20 = .ok (.invokevirtual 125, 3) := by decide +kernel
theorem dX8_dot_23 : decode cX8_dot 23 = .ok (.ifCond .eq 5, 3) := by decide +kernel
theorem dX8_dot_26 : decode cX8_dot 26 = .ok (.lconst 0, 1) := by decide +kernel
theorem dX8_dot_27 : decode cX8_dot 27 = .ok (.lreturn, 1) := by decide +kernel
theorem dX8_dot_28 : decode cX8_dot 28 = .ok (.lconst 0, 1) := by decide +kernel
theorem dX8_dot_29 : decode cX8_dot 29 = .ok (.lstore_n 3, 1) := by decide +kernel
theorem dX8_dot_30 : decode cX8_dot 30 = .ok (.iconst 0, 1) := by decide +kernel
theorem dX8_dot_31 : decode cX8_dot 31 = .ok (.istore 5, 2) := by decide +kernel
theorem dX8_dot_33 : decode cX8_dot 33 = .ok (.iload 5, 2) := by decide +kernel
theorem dX8_dot_35 : decode cX8_dot 35 = .ok (.bipush 8, 2) := by decide +kernel
theorem dX8_dot_37 : decode cX8_dot 37 = .ok (.if_icmp .ge 39, 3) := by decide +kernel
theorem dX8_dot_40 : decode cX8_dot 40 = .ok (.lload_n 3, 1) := by decide +kernel
theorem dX8_dot_41 : decode cX8_dot 41 = .ok (.aload_n 0, 1) := by decide +kernel
theorem dX8_dot_42 : decode cX8_dot 42 = .ok (.getfield 7, 3) := by decide +kernel
theorem dX8_dot_45 : decode cX8_dot 45 = .ok (.bipush 8, 2) := by decide +kernel
theorem dX8_dot_47 : decode cX8_dot 47 = .ok (.iload_n 1, 1) := by decide +kernel
theorem dX8_dot_48 : decode cX8_dot 48 = .ok (.imul, 1) := by decide +kernel
theorem dX8_dot_49 : decode cX8_dot 49 = .ok (.iload 5, 2) := by decide +kernel
theorem dX8_dot_51 : decode cX8_dot 51 = .ok (.iadd, 1) := by decide +kernel
theorem dX8_dot_52 : decode cX8_dot 52 = .ok (.iaload, 1) := by decide +kernel
theorem dX8_dot_53 : decode cX8_dot 53 = .ok (.i2l, 1) := by decide +kernel
theorem dX8_dot_54 : decode cX8_dot 54 = .ok (.aload_n 0, 1) := by decide +kernel
theorem dX8_dot_55 : decode cX8_dot 55 = .ok (.getfield 7, 3) := by decide +kernel
theorem dX8_dot_58 : decode cX8_dot 58 = .ok (.bipush 8, 2) := by decide +kernel
theorem dX8_dot_60 : decode cX8_dot 60 = .ok (.iload_n 2, 1) := by decide +kernel
theorem dX8_dot_61 : decode cX8_dot 61 = .ok (.imul, 1) := by decide +kernel
theorem dX8_dot_62 : decode cX8_dot 62 = .ok (.iload 5, 2) := by decide +kernel
theorem dX8_dot_64 : decode cX8_dot 64 = .ok (.iadd, 1) := by decide +kernel
theorem dX8_dot_65 : decode cX8_dot 65 = .ok (.iaload, 1) := by decide +kernel
theorem dX8_dot_66 : decode cX8_dot 66 = .ok (.i2l, 1) := by decide +kernel
theorem dX8_dot_67 : decode cX8_dot 67 = .ok (.lmul, 1) := by decide +kernel
theorem dX8_dot_68 : decode cX8_dot 68 = .ok (.ladd, 1) := by decide +kernel
theorem dX8_dot_69 : decode cX8_dot 69 = .ok (.lstore_n 3, 1) := by decide +kernel
theorem dX8_dot_70 : decode cX8_dot 70 = .ok (.iinc 5 1, 3) := by decide +kernel
theorem dX8_dot_73 : decode cX8_dot 73 = .ok (.goto (-40), 3) := by decide +kernel
theorem dX8_dot_76 : decode cX8_dot 76 = .ok (.lload_n 3, 1) := by decide +kernel
theorem dX8_dot_77 : decode cX8_dot 77 = .ok (.lreturn, 1) := by decide +kernel
theorem dX8_orders_0 : decode cX8_orders 0 = .ok (.aload_n 0, 1) := by decide +kernel
theorem dX8_orders_1 : decode cX8_orders 1 = .ok (.aload_n 0, 1) := by decide +kernel
theorem dX8_orders_2 : decode cX8_orders 2 = .ok (.getfield 25, 3) := by decide +kernel
theorem dX8_orders_5 : decode cX8_orders 5 = .ok (.iload_n 1, 1) := by decide +kernel
theorem dX8_orders_6 : decode cX8_orders 6 = .ok (.invokevirtual 131, 3) := by decide +kernel
theorem dX8_orders_9 : decode cX8_orders 9 = .ok (.iconst 0, 1) := by decide +kernel
theorem dX8_orders_10 : decode cX8_orders 10 = .ok (.istore_n 2, 1) := by decide +kernel
theorem dX8_orders_11 : decode cX8_orders 11 = .ok (.iconst 0, 1) := by decide +kernel
theorem dX8_orders_12 : decode cX8_orders 12 = .ok (.istore_n 3, 1) := by decide +kernel
theorem dX8_orders_13 : decode cX8_orders 13 = .ok (.iload_n 3, 1) := by decide +kernel
theorem dX8_orders_14 : decode cX8_orders 14 = .ok (.bipush 8, 2) := by decide +kernel
theorem dX8_orders_16 : decode cX8_orders 16 = .ok (.if_icmp .ge 31, 3) := by decide +kernel
theorem dX8_orders_19 : decode cX8_orders 19 = .ok (.iload_n 2, 1) := by decide +kernel
theorem dX8_orders_20 : decode cX8_orders 20 = .ok (.aload_n 0, 1) := by decide +kernel
theorem dX8_orders_21 : decode cX8_orders 21 = .ok (.aload_n 0, 1) := by decide +kernel
theorem dX8_orders_22 : decode cX8_orders 22 = .ok (.getfield 25, 3) := by decide +kernel
theorem dX8_orders_25 : decode cX8_orders 25 = .ok (.iload_n 3, 1) := by decide +kernel
theorem dX8_orders_26 : decode cX8_orders 26 = .ok (.invokevirtual 114, 3) := by decide +kernel
theorem dX8_orders_29 : decode cX8_orders 29 = .ok (.ifCond .eq 9, 3) := by decide +kernel
theorem dX8_orders_32 : decode cX8_orders 32 = .ok (.iconst 1, 1) := by decide +kernel
theorem dX8_orders_33 : decode cX8_orders 33 = .ok (.iload_n 3, 1) := by decide +kernel
theorem dX8_orders_34 : decode cX8_orders 34 = .ok (.ishl, 1) := by decide +kernel
theorem dX8_orders_35 : decode cX8_orders 35 = .ok (.goto 4, 3) := by decide +kernel
theorem dX8_orders_38 : decode cX8_orders 38 = .ok (.iconst 0, 1) := by decide +kernel
theorem dX8_orders_39 : decode cX8_orders 39 = .ok (.ior, 1) := by decide +kernel
theorem dX8_orders_40 : decode cX8_orders 40 = .ok (.istore_n 2, 1) := by decide +kernel
theorem dX8_orders_41 : decode cX8_orders 41 = .ok (.iinc 3 1, 3) := by decide +kernel
theorem dX8_orders_44 : decode cX8_orders 44 = .ok (.goto (-31), 3) := by decide +kernel
theorem dX8_orders_47 : decode cX8_orders 47 = .ok (.iload_n 2, 1) := by decide +kernel
theorem dX8_orders_48 : decode cX8_orders 48 = .ok (.ireturn, 1) := by decide +kernel
theorem dX8_ordersOf_0 : decode cX8_ordersOf 0 = .ok (.aload_n 0, 1) := by decide +kernel
theorem dX8_ordersOf_1 : decode cX8_ordersOf 1 = .ok (.iload_n 1, 1) := by decide +kernel
theorem dX8_ordersOf_2 : decode cX8_ordersOf 2 = .ok (.invokestatic 121, 3) := by decide +kernel
theorem dX8_ordersOf_5 : decode cX8_ordersOf 5 = .ok (.ifCond .eq 7, 3) := by decide +kernel
theorem dX8_ordersOf_8 : decode cX8_ordersOf 8 = .ok (.iconst 0, 1) := by decide +kernel
theorem dX8_ordersOf_9 : decode cX8_ordersOf 9 = .ok (.goto 4, 3) := by decide +kernel
theorem dX8_ordersOf_12 : decode cX8_ordersOf 12 = .ok (.iconst 1, 1) := by decide +kernel
theorem dX8_ordersOf_13 : decode cX8_ordersOf 13 = .ok (.invokevirtual 125, 3) := by decide +kernel
theorem dX8_ordersOf_16 : decode cX8_ordersOf 16 = .ok (.ifCond .eq 7, 3) := by decide +kernel
theorem dX8_ordersOf_19 : decode cX8_ordersOf 19 = .ok (.iconst 0, 1) := by decide +kernel
theorem dX8_ordersOf_20 : decode cX8_ordersOf 20 = .ok (.goto 8, 3) := by decide +kernel
theorem dX8_ordersOf_23 : decode cX8_ordersOf 23 = .ok (.aload_n 0, 1) := by decide +kernel
theorem dX8_ordersOf_24 : decode cX8_ordersOf 24 = .ok (.iload_n 1, 1) := by decide +kernel
theorem dX8_ordersOf_25 : decode cX8_ordersOf 25 = .ok (.invokevirtual 191, 3) := by decide +kernel
theorem dX8_ordersOf_28 : decode cX8_ordersOf 28 = .ok (.ireturn, 1) := by decide +kernel
theorem dX8_left_0 : decode cX8_left 0 = .ok (.aload_n 0, 1) := by decide +kernel
theorem dX8_left_1 : decode cX8_left 1 = .ok (.iload_n 1, 1) := by decide +kernel
theorem dX8_left_2 : decode cX8_left 2 = .ok (.invokestatic 121, 3) := by decide +kernel
theorem dX8_left_5 : decode cX8_left 5 = .ok (.ifCond .eq 21, 3) := by decide +kernel
theorem dX8_left_8 : decode cX8_left 8 = .ok (.iload_n 2, 1) := by decide +kernel
theorem dX8_left_9 : decode cX8_left 9 = .ok (.invokestatic 121, 3) := by decide +kernel
theorem dX8_left_12 : decode cX8_left 12 = .ok (.ifCond .eq 14, 3) := by decide +kernel
theorem dX8_left_15 : decode cX8_left 15 = .ok (.iload_n 3, 1) := by decide +kernel
theorem dX8_left_16 : decode cX8_left 16 = .ok (.invokestatic 121, 3) := by decide +kernel
theorem dX8_left_19 : decode cX8_left 19 = .ok (.ifCond .eq 7, 3) := by decide +kernel
theorem dX8_left_22 : decode cX8_left 22 = .ok (.iconst 0, 1) := by decide +kernel
theorem dX8_left_23 : decode cX8_left 23 = .ok (.goto 4, 3) := by decide +kernel
theorem dX8_left_26 : decode cX8_left 26 = .ok (.iconst 1, 1) := by decide +kernel
theorem dX8_left_27 : decode cX8_left 27 = .ok (.invokevirtual 125, 3) := by decide +kernel
theorem dX8_left_30 : decode cX8_left 30 = .ok (.ifCond .eq 5, 3) := by decide +kernel
theorem dX8_left_33 : decode cX8_left 33 = .ok (.iconst 0, 1) := by decide +kernel
theorem dX8_left_34 : decode cX8_left 34 = .ok (.ireturn, 1) := by decide +kernel
theorem dX8_left_35 : decode cX8_left 35 = .ok (.iconst 0, 1) := by decide +kernel
theorem dX8_left_36 : decode cX8_left 36 = .ok (.istore 4, 2) := by decide +kernel
theorem dX8_left_38 : decode cX8_left 38 = .ok (.iconst 0, 1) := by decide +kernel
theorem dX8_left_39 : decode cX8_left 39 = .ok (.istore 5, 2) := by decide +kernel
theorem dX8_left_41 : decode cX8_left 41 = .ok (.iload 5, 2) := by decide +kernel
theorem dX8_left_43 : decode cX8_left 43 = .ok (.bipush 8, 2) := by decide +kernel
theorem dX8_left_45 : decode cX8_left 45 = .ok (.if_icmp .ge 59, 3) := by decide +kernel
theorem dX8_left_48 : decode cX8_left 48 = .ok (.iload 4, 2) := by decide +kernel
theorem dX8_left_50 : decode cX8_left 50 = .ok (.aload_n 0, 1) := by decide +kernel
theorem dX8_left_51 : decode cX8_left 51 = .ok (.getfield 19, 3) := by decide +kernel
theorem dX8_left_54 : decode cX8_left 54 = .ok (.bipush 8, 2) := by decide +kernel
theorem dX8_left_56 : decode cX8_left 56 = .ok (.iload 5, 2) := by decide +kernel
theorem dX8_left_58 : decode cX8_left 58 = .ok (.imul, 1) := by decide +kernel
theorem dX8_left_59 : decode cX8_left 59 = .ok (.iload_n 3, 1) := by decide +kernel
theorem dX8_left_60 : decode cX8_left 60 = .ok (.iadd, 1) := by decide +kernel
theorem dX8_left_61 : decode cX8_left 61 = .ok (.iaload, 1) := by decide +kernel
theorem dX8_left_62 : decode cX8_left 62 = .ok (.iload_n 2, 1) := by decide +kernel
theorem dX8_left_63 : decode cX8_left 63 = .ok (.if_icmp .ne 31, 3) := by decide +kernel
theorem dX8_left_66 : decode cX8_left 66 = .ok (.aload_n 0, 1) := by decide +kernel
theorem dX8_left_67 : decode cX8_left 67 = .ok (.getfield 22, 3) := by decide +kernel
theorem dX8_left_70 : decode cX8_left 70 = .ok (.bipush 8, 2) := by decide +kernel
theorem dX8_left_72 : decode cX8_left 72 = .ok (.iload 5, 2) := by decide +kernel
theorem dX8_left_74 : decode cX8_left 74 = .ok (.imul, 1) := by decide +kernel
theorem dX8_left_75 : decode cX8_left 75 = .ok (.iload_n 3, 1) := by decide +kernel
theorem dX8_left_76 : decode cX8_left 76 = .ok (.iadd, 1) := by decide +kernel
theorem dX8_left_77 : decode cX8_left 77 = .ok (.iaload, 1) := by decide +kernel
theorem dX8_left_78 : decode cX8_left 78 = .ok (.aload_n 0, 1) := by decide +kernel
theorem dX8_left_79 : decode cX8_left 79 = .ok (.getfield 7, 3) := by decide +kernel
theorem dX8_left_82 : decode cX8_left 82 = .ok (.bipush 8, 2) := by decide +kernel
theorem dX8_left_84 : decode cX8_left 84 = .ok (.iload_n 1, 1) := by decide +kernel
theorem dX8_left_85 : decode cX8_left 85 = .ok (.imul, 1) := by decide +kernel
theorem dX8_left_86 : decode cX8_left 86 = .ok (.iload 5, 2) := by decide +kernel
theorem dX8_left_88 : decode cX8_left 88 = .ok (.iadd, 1) := by decide +kernel
theorem dX8_left_89 : decode cX8_left 89 = .ok (.iaload, 1) := by decide +kernel
theorem dX8_left_90 : decode cX8_left 90 = .ok (.imul, 1) := by decide +kernel
theorem dX8_left_91 : decode cX8_left 91 = .ok (.goto 4, 3) := by decide +kernel
theorem dX8_left_94 : decode cX8_left 94 = .ok (.iconst 0, 1) := by decide +kernel
theorem dX8_left_95 : decode cX8_left 95 = .ok (.iadd, 1) := by decide +kernel
theorem dX8_left_96 : decode cX8_left 96 = .ok (.istore 4, 2) := by decide +kernel
theorem dX8_left_98 : decode cX8_left 98 = .ok (.iinc 5 1, 3) := by decide +kernel
theorem dX8_left_101 : decode cX8_left 101 = .ok (.goto (-60), 3) := by decide +kernel
theorem dX8_left_104 : decode cX8_left 104 = .ok (.iload 4, 2) := by decide +kernel
theorem dX8_left_106 : decode cX8_left 106 = .ok (.ireturn, 1) := by decide +kernel
theorem dX8_unitOf_0 : decode cX8_unitOf 0 = .ok (.aload_n 0, 1) := by decide +kernel
theorem dX8_unitOf_1 : decode cX8_unitOf 1 = .ok (.iload_n 1, 1) := by decide +kernel
theorem dX8_unitOf_2 : decode cX8_unitOf 2 = .ok (.invokestatic 121, 3) := by decide +kernel
theorem dX8_unitOf_5 : decode cX8_unitOf 5 = .ok (.ifCond .eq 7, 3) := by decide +kernel
theorem dX8_unitOf_8 : decode cX8_unitOf 8 = .ok (.iconst 0, 1) := by decide +kernel
theorem dX8_unitOf_9 : decode cX8_unitOf 9 = .ok (.goto 4, 3) := by decide +kernel
theorem dX8_unitOf_12 : decode cX8_unitOf 12 = .ok (.iconst 1, 1) := by decide +kernel
theorem dX8_unitOf_13 : decode cX8_unitOf 13 = .ok (.invokevirtual 125, 3) := by decide +kernel
theorem dX8_unitOf_16 : decode cX8_unitOf 16 = .ok (.ifCond .eq 7, 3) := by decide +kernel
theorem dX8_unitOf_19 : decode cX8_unitOf 19 = .ok (.iconst 0, 1) := by decide +kernel
theorem dX8_unitOf_20 : decode cX8_unitOf 20 = .ok (.goto 8, 3) := by decide +kernel
theorem dX8_unitOf_23 : decode cX8_unitOf 23 = .ok (.aload_n 0, 1) := by decide +kernel
theorem dX8_unitOf_24 : decode cX8_unitOf 24 = .ok (.iload_n 1, 1) := by decide +kernel
theorem dX8_unitOf_25 : decode cX8_unitOf 25 = .ok (.invokevirtual 195, 3) := by decide +kernel
theorem dX8_unitOf_28 : decode cX8_unitOf 28 = .ok (.ireturn, 1) := by decide +kernel
theorem dX8_valueOf_0 : decode cX8_valueOf 0 = .ok (.aload_n 0, 1) := by decide +kernel
theorem dX8_valueOf_1 : decode cX8_valueOf 1 = .ok (.invokevirtual 118, 3) := by decide +kernel
theorem dX8_valueOf_4 : decode cX8_valueOf 4 = .ok (.iconst 0, 1) := by decide +kernel
theorem dX8_valueOf_5 : decode cX8_valueOf 5 = .ok (.istore_n 2, 1) := by decide +kernel
theorem dX8_valueOf_6 : decode cX8_valueOf 6 = .ok (.iconst 0, 1) := by decide +kernel
theorem dX8_valueOf_7 : decode cX8_valueOf 7 = .ok (.istore_n 3, 1) := by decide +kernel
theorem dX8_valueOf_8 : decode cX8_valueOf 8 = .ok (.iload_n 3, 1) := by decide +kernel
theorem dX8_valueOf_9 : decode cX8_valueOf 9 = .ok (.bipush 8, 2) := by decide +kernel
theorem dX8_valueOf_11 : decode cX8_valueOf 11 = .ok (.if_icmp .ge 67, 3) := by decide +kernel
theorem dX8_valueOf_14 : decode cX8_valueOf 14 = .ok (.iload_n 1, 1) := by decide +kernel
theorem dX8_valueOf_15 : decode cX8_valueOf 15 = .ok (.iconst 3, 1) := by decide +kernel
theorem dX8_valueOf_16 : decode cX8_valueOf 16 = .ok (.if_icmp .le 62, 3) := by decide +kernel
theorem dX8_valueOf_19 : decode cX8_valueOf 19 = .ok (.aload_n 0, 1) := by decide +kernel
theorem dX8_valueOf_20 : decode cX8_valueOf 20 = .ok (.aload_n 0, 1) := by decide +kernel
theorem dX8_valueOf_21 : decode cX8_valueOf 21 = .ok (.getfield 25, 3) := by decide +kernel
theorem dX8_valueOf_24 : decode cX8_valueOf 24 = .ok (.iload_n 3, 1) := by decide +kernel
theorem dX8_valueOf_25 : decode cX8_valueOf 25 = .ok (.invokevirtual 131, 3) := by decide +kernel
theorem dX8_valueOf_28 : decode cX8_valueOf 28 = .ok (.iload_n 2, 1) := by decide +kernel
theorem dX8_valueOf_29 : decode cX8_valueOf 29 = .ok (.iload_n 1, 1) := by decide +kernel
theorem dX8_valueOf_30 : decode cX8_valueOf 30 = .ok (.iconst 4, 1) := by decide +kernel
theorem dX8_valueOf_31 : decode cX8_valueOf 31 = .ok (.if_icmp .ne 24, 3) := by decide +kernel
theorem dX8_valueOf_34 : decode cX8_valueOf 34 = .ok (.aload_n 0, 1) := by decide +kernel
theorem dX8_valueOf_35 : decode cX8_valueOf 35 = .ok (.aload_n 0, 1) := by decide +kernel
theorem dX8_valueOf_36 : decode cX8_valueOf 36 = .ok (.getfield 25, 3) := by decide +kernel
theorem dX8_valueOf_39 : decode cX8_valueOf 39 = .ok (.aload_n 0, 1) := by decide +kernel
theorem dX8_valueOf_40 : decode cX8_valueOf 40 = .ok (.getfield 7, 3) := by decide +kernel
theorem dX8_valueOf_43 : decode cX8_valueOf 43 = .ok (.bipush 64, 2) := by decide +kernel
theorem dX8_valueOf_45 : decode cX8_valueOf 45 = .ok (.iaload, 1) := by decide +kernel
theorem dX8_valueOf_46 : decode cX8_valueOf 46 = .ok (.invokevirtual 114, 3) := by decide +kernel
theorem dX8_valueOf_49 : decode cX8_valueOf 49 = .ok (.ifCond .eq 20, 3) := by decide +kernel
theorem dX8_valueOf_52 : decode cX8_valueOf 52 = .ok (.goto 13, 3) := by decide +kernel
theorem dX8_valueOf_55 : decode cX8_valueOf 55 = .ok (.aload_n 0, 1) := by decide +kernel
theorem dX8_valueOf_56 : decode cX8_valueOf 56 = .ok (.getfield 25, 3) := by decide +kernel
theorem dX8_valueOf_59 : decode cX8_valueOf 59 = .ok (.invokestatic 173, 3) := by decide +kernel
theorem dX8_valueOf_62 : decode cX8_valueOf 62 = .ok (.ifCond .eq 7, 3) := by decide +kernel
theorem dX8_valueOf_65 : decode cX8_valueOf 65 = .ok (.iconst 1, 1) := by decide +kernel
theorem dX8_valueOf_66 : decode cX8_valueOf 66 = .ok (.goto 4, 3) := by decide +kernel
theorem dX8_valueOf_69 : decode cX8_valueOf 69 = .ok (.iconst 0, 1) := by decide +kernel
theorem dX8_valueOf_70 : decode cX8_valueOf 70 = .ok (.iadd, 1) := by decide +kernel
theorem dX8_valueOf_71 : decode cX8_valueOf 71 = .ok (.istore_n 2, 1) := by decide +kernel
theorem dX8_valueOf_72 : decode cX8_valueOf 72 = .ok (.iinc 3 1, 3) := by decide +kernel
theorem dX8_valueOf_75 : decode cX8_valueOf 75 = .ok (.goto (-67), 3) := by decide +kernel
theorem dX8_valueOf_78 : decode cX8_valueOf 78 = .ok (.iload_n 1, 1) := by decide +kernel
theorem dX8_valueOf_79 : decode cX8_valueOf 79 = .ok (.ifCond .ne 13, 3) := by decide +kernel
theorem dX8_valueOf_82 : decode cX8_valueOf 82 = .ok (.aload_n 0, 1) := by decide +kernel
theorem dX8_valueOf_83 : decode cX8_valueOf 83 = .ok (.getfield 7, 3) := by decide +kernel
theorem dX8_valueOf_86 : decode cX8_valueOf 86 = .ok (.bipush 64, 2) := by decide +kernel
theorem dX8_valueOf_88 : decode cX8_valueOf 88 = .ok (.iaload, 1) := by decide +kernel
theorem dX8_valueOf_89 : decode cX8_valueOf 89 = .ok (.goto 46, 3) := by decide +kernel
theorem dX8_valueOf_92 : decode cX8_valueOf 92 = .ok (.iload_n 1, 1) := by decide +kernel
theorem dX8_valueOf_93 : decode cX8_valueOf 93 = .ok (.iconst 1, 1) := by decide +kernel
theorem dX8_valueOf_94 : decode cX8_valueOf 94 = .ok (.if_icmp .ne 10, 3) := by decide +kernel
theorem dX8_valueOf_97 : decode cX8_valueOf 97 = .ok (.aload_n 0, 1) := by decide +kernel
theorem dX8_valueOf_98 : decode cX8_valueOf 98 = .ok (.getfield 107, 3) := by decide +kernel
theorem dX8_valueOf_101 : decode cX8_valueOf 101 = .ok (.goto 34, 3) := by decide +kernel
theorem dX8_valueOf_104 : decode cX8_valueOf 104 = .ok (.iload_n 1, 1) := by decide +kernel
theorem dX8_valueOf_105 : decode cX8_valueOf 105 = .ok (.iconst 2, 1) := by decide +kernel
theorem dX8_valueOf_106 : decode cX8_valueOf 106 = .ok (.if_icmp .ne 13, 3) := by decide +kernel
theorem dX8_valueOf_109 : decode cX8_valueOf 109 = .ok (.aload_n 0, 1) := by decide +kernel
theorem dX8_valueOf_110 : decode cX8_valueOf 110 = .ok (.getfield 7, 3) := by decide +kernel
theorem dX8_valueOf_113 : decode cX8_valueOf 113 = .ok (.bipush 65, 2) := by decide +kernel
theorem dX8_valueOf_115 : decode cX8_valueOf 115 = .ok (.iaload, 1) := by decide +kernel
theorem dX8_valueOf_116 : decode cX8_valueOf 116 = .ok (.goto 19, 3) := by decide +kernel
theorem dX8_valueOf_119 : decode cX8_valueOf 119 = .ok (.iload_n 1, 1) := by decide +kernel
theorem dX8_valueOf_120 : decode cX8_valueOf 120 = .ok (.iconst 3, 1) := by decide +kernel
theorem dX8_valueOf_121 : decode cX8_valueOf 121 = .ok (.if_icmp .ne 13, 3) := by decide +kernel
theorem dX8_valueOf_124 : decode cX8_valueOf 124 = .ok (.aload_n 0, 1) := by decide +kernel
theorem dX8_valueOf_125 : decode cX8_valueOf 125 = .ok (.getfield 7, 3) := by decide +kernel
theorem dX8_valueOf_128 : decode cX8_valueOf 128 = .ok (.bipush 66, 2) := by decide +kernel
theorem dX8_valueOf_130 : decode cX8_valueOf 130 = .ok (.iaload, 1) := by decide +kernel
theorem dX8_valueOf_131 : decode cX8_valueOf 131 = .ok (.goto 4, 3) := by decide +kernel
theorem dX8_valueOf_134 : decode cX8_valueOf 134 = .ok (.iload_n 2, 1) := by decide +kernel
theorem dX8_valueOf_135 : decode cX8_valueOf 135 = .ok (.ireturn, 1) := by decide +kernel
theorem dX8_value_0 : decode cX8_value 0 = .ok (.aload_n 0, 1) := by decide +kernel
theorem dX8_value_1 : decode cX8_value 1 = .ok (.iload_n 1, 1) := by decide +kernel
theorem dX8_value_2 : decode cX8_value 2 = .ok (.iconst 0, 1) := by decide +kernel
theorem dX8_value_3 : decode cX8_value 3 = .ok (.iconst 5, 1) := by decide +kernel
theorem dX8_value_4 : decode cX8_value 4 = .ok (.invokestatic 86, 3) := by decide +kernel
theorem dX8_value_7 : decode cX8_value 7 = .ok (.ifCond .eq 7, 3) := by decide +kernel
theorem dX8_value_10 : decode cX8_value 10 = .ok (.iconst 0, 1) := by decide +kernel
theorem dX8_value_11 : decode cX8_value 11 = .ok (.goto 4, 3) := by decide +kernel
theorem dX8_value_14 : decode cX8_value 14 = .ok (.iconst 1, 1) := by decide +kernel
theorem dX8_value_15 : decode cX8_value 15 = .ok (.invokevirtual 125, 3) := by decide +kernel
theorem dX8_value_18 : decode cX8_value 18 = .ok (.ifCond .eq 7, 3) := by decide +kernel
theorem dX8_value_21 : decode cX8_value 21 = .ok (.iconst 0, 1) := by decide +kernel
theorem dX8_value_22 : decode cX8_value 22 = .ok (.goto 8, 3) := by decide +kernel
theorem dX8_value_25 : decode cX8_value 25 = .ok (.aload_n 0, 1) := by decide +kernel
theorem dX8_value_26 : decode cX8_value 26 = .ok (.iload_n 1, 1) := by decide +kernel
theorem dX8_value_27 : decode cX8_value 27 = .ok (.invokevirtual 198, 3) := by decide +kernel
theorem dX8_value_30 : decode cX8_value 30 = .ok (.ireturn, 1) := by decide +kernel
theorem dX8_doCommute_0 : decode cX8_doCommute 0 = .ok (.aload_n 0, 1) := by decide +kernel
theorem dX8_doCommute_1 : decode cX8_doCommute 1 = .ok (.iload_n 1, 1) := by decide +kernel
theorem dX8_doCommute_2 : decode cX8_doCommute 2 = .ok (.iload_n 2, 1) := by decide +kernel
theorem dX8_doCommute_3 : decode cX8_doCommute 3 = .ok (.invokevirtual 152, 3) := by decide +kernel
theorem dX8_doCommute_6 : decode cX8_doCommute 6 = .ok (.aload_n 0, 1) := by decide +kernel
theorem dX8_doCommute_7 : decode cX8_doCommute 7 = .ok (.getfield 35, 3) := by decide +kernel
theorem dX8_doCommute_10 : decode cX8_doCommute 10 = .ok (.invokestatic 173, 3) := by decide +kernel
theorem dX8_doCommute_13 : decode cX8_doCommute 13 = .ok (.ireturn, 1) := by decide +kernel
theorem dX8_isFlat_0 : decode cX8_isFlat 0 = .ok (.iconst 1, 1) := by decide +kernel
theorem dX8_isFlat_1 : decode cX8_isFlat 1 = .ok (.istore_n 1, 1) := by decide +kernel
theorem dX8_isFlat_2 : decode cX8_isFlat 2 = .ok (.iconst 0, 1) := by decide +kernel
theorem dX8_isFlat_3 : decode cX8_isFlat 3 = .ok (.istore_n 2, 1) := by decide +kernel
theorem dX8_isFlat_4 : decode cX8_isFlat 4 = .ok (.iload_n 2, 1) := by decide +kernel
theorem dX8_isFlat_5 : decode cX8_isFlat 5 = .ok (.bipush 8, 2) := by decide +kernel
theorem dX8_isFlat_7 : decode cX8_isFlat 7 = .ok (.if_icmp .ge 30, 3) := by decide +kernel
theorem dX8_isFlat_10 : decode cX8_isFlat 10 = .ok (.iload_n 1, 1) := by decide +kernel
theorem dX8_isFlat_11 : decode cX8_isFlat 11 = .ok (.ifCond .eq 18, 3) := by decide +kernel
theorem dX8_isFlat_14 : decode cX8_isFlat 14 = .ok (.aload_n 0, 1) := by decide +kernel
theorem dX8_isFlat_15 : decode cX8_isFlat 15 = .ok (.getfield 35, 3) := by decide +kernel
theorem dX8_isFlat_18 : decode cX8_isFlat 18 = .ok (.iload_n 2, 1) := by decide +kernel
theorem dX8_isFlat_19 : decode cX8_isFlat 19 = .ok (.laload, 1) := by decide +kernel
theorem dX8_isFlat_20 : decode cX8_isFlat 20 = .ok (.lconst 0, 1) := by decide +kernel
theorem dX8_isFlat_21 : decode cX8_isFlat 21 = .ok (.lcmp, 1) := by decide +kernel
theorem dX8_isFlat_22 : decode cX8_isFlat 22 = .ok (.ifCond .ne 7, 3) := by decide +kernel
theorem dX8_isFlat_25 : decode cX8_isFlat 25 = .ok (.iconst 1, 1) := by decide +kernel
theorem dX8_isFlat_26 : decode cX8_isFlat 26 = .ok (.goto 4, 3) := by decide +kernel
theorem dX8_isFlat_29 : decode cX8_isFlat 29 = .ok (.iconst 0, 1) := by decide +kernel
theorem dX8_isFlat_30 : decode cX8_isFlat 30 = .ok (.istore_n 1, 1) := by decide +kernel
theorem dX8_isFlat_31 : decode cX8_isFlat 31 = .ok (.iinc 2 1, 3) := by decide +kernel
theorem dX8_isFlat_34 : decode cX8_isFlat 34 = .ok (.goto (-30), 3) := by decide +kernel
theorem dX8_isFlat_37 : decode cX8_isFlat 37 = .ok (.iload_n 1, 1) := by decide +kernel
theorem dX8_isFlat_38 : decode cX8_isFlat 38 = .ok (.ireturn, 1) := by decide +kernel
theorem dX8_dimension_0 : decode cX8_dimension 0 = .ok (.aload_n 0, 1) := by decide +kernel
theorem dX8_dimension_1 : decode cX8_dimension 1 = .ok (.iload_n 1, 1) := by decide +kernel
theorem dX8_dimension_2 : decode cX8_dimension 2 = .ok (.iconst 1, 1) := by decide +kernel
theorem dX8_dimension_3 : decode cX8_dimension 3 = .ok (.sipush 255, 3) := by decide +kernel
theorem dX8_dimension_6 : decode cX8_dimension 6 = .ok (.invokestatic 86, 3) := by decide +kernel
theorem dX8_dimension_9 : decode cX8_dimension 9 = .ok (.ifCond .eq 7, 3) := by decide +kernel
theorem dX8_dimension_12 : decode cX8_dimension 12 = .ok (.iconst 0, 1) := by decide +kernel
theorem dX8_dimension_13 : decode cX8_dimension 13 = .ok (.goto 4, 3) := by decide +kernel
theorem dX8_dimension_16 : decode cX8_dimension 16 = .ok (.iconst 1, 1) := by decide +kernel
theorem dX8_dimension_17 : decode cX8_dimension 17 = .ok (.invokevirtual 125, 3) := by decide +kernel
theorem dX8_dimension_20 : decode cX8_dimension 20 = .ok (.ifCond .eq 5, 3) := by decide +kernel
theorem dX8_dimension_23 : decode cX8_dimension 23 = .ok (.iconst 0, 1) := by decide +kernel
theorem dX8_dimension_24 : decode cX8_dimension 24 = .ok (.ireturn, 1) := by decide +kernel
theorem dX8_dimension_25 : decode cX8_dimension 25 = .ok (.iconst (-1), 1) := by decide +kernel
theorem dX8_dimension_26 : decode cX8_dimension 26 = .ok (.istore_n 2, 1) := by decide +kernel
theorem dX8_dimension_27 : decode cX8_dimension 27 = .ok (.iconst (-1), 1) := by decide +kernel
theorem dX8_dimension_28 : decode cX8_dimension 28 = .ok (.istore_n 3, 1) := by decide +kernel
theorem dX8_dimension_29 : decode cX8_dimension 29 = .ok (.iconst 0, 1) := by decide +kernel
theorem dX8_dimension_30 : decode cX8_dimension 30 = .ok (.istore 4, 2) := by decide +kernel
theorem dX8_dimension_32 : decode cX8_dimension 32 = .ok (.iconst 0, 1) := by decide +kernel
theorem dX8_dimension_33 : decode cX8_dimension 33 = .ok (.istore 5, 2) := by decide +kernel
theorem dX8_dimension_35 : decode cX8_dimension 35 = .ok (.iload 5, 2) := by decide +kernel
theorem dX8_dimension_37 : decode cX8_dimension 37 = .ok (.bipush 8, 2) := by decide +kernel
theorem dX8_dimension_39 : decode cX8_dimension 39 = .ok (.if_icmp .ge 58, 3) := by decide +kernel
theorem dX8_dimension_42 : decode cX8_dimension 42 = .ok (.aload_n 0, 1) := by decide +kernel
theorem dX8_dimension_43 : decode cX8_dimension 43 = .ok (.aload_n 0, 1) := by decide +kernel
theorem dX8_dimension_44 : decode cX8_dimension 44 = .ok (.getfield 25, 3) := by decide +kernel
theorem dX8_dimension_47 : decode cX8_dimension 47 = .ok (.iload 5, 2) := by decide +kernel
theorem dX8_dimension_49 : decode cX8_dimension 49 = .ok (.invokevirtual 131, 3) := by decide +kernel
theorem dX8_dimension_52 : decode cX8_dimension 52 = .ok (.aload_n 0, 1) := by decide +kernel
theorem dX8_dimension_53 : decode cX8_dimension 53 = .ok (.getfield 25, 3) := by decide +kernel
theorem dX8_dimension_56 : decode cX8_dimension 56 = .ok (.iconst 0, 1) := by decide +kernel
theorem dX8_dimension_57 : decode cX8_dimension 57 = .ok (.lconst 0, 1) := by decide +kernel
theorem dX8_dimension_58 : decode cX8_dimension 58 = .ok (.lastore, 1) := by decide +kernel
theorem dX8_dimension_59 : decode cX8_dimension 59 = .ok (.iload_n 2, 1) := by decide +kernel
theorem dX8_dimension_60 : decode cX8_dimension 60 = .ok (.iconst (-1), 1) := by decide +kernel
theorem dX8_dimension_61 : decode cX8_dimension 61 = .ok (.if_icmp .ne 28, 3) := by decide +kernel
theorem dX8_dimension_64 : decode cX8_dimension 64 = .ok (.iload_n 1, 1) := by decide +kernel
theorem dX8_dimension_65 : decode cX8_dimension 65 = .ok (.iload 5, 2) := by decide +kernel
theorem dX8_dimension_67 : decode cX8_dimension 67 = .ok (.ishr, 1) := by decide +kernel
theorem dX8_dimension_68 : decode cX8_dimension 68 = .ok (.iconst 1, 1) := by decide +kernel
theorem dX8_dimension_69 : decode cX8_dimension 69 = .ok (.iand, 1) := by decide +kernel
theorem dX8_dimension_70 : decode cX8_dimension 70 = .ok (.iconst 1, 1) := by decide +kernel
theorem dX8_dimension_71 : decode cX8_dimension 71 = .ok (.if_icmp .ne 18, 3) := by decide +kernel
theorem dX8_dimension_74 : decode cX8_dimension 74 = .ok (.aload_n 0, 1) := by decide +kernel
theorem dX8_dimension_75 : decode cX8_dimension 75 = .ok (.getfield 25, 3) := by decide +kernel
theorem dX8_dimension_78 : decode cX8_dimension 78 = .ok (.invokestatic 173, 3) := by decide +kernel
theorem dX8_dimension_81 : decode cX8_dimension 81 = .ok (.ifCond .ne 8, 3) := by decide +kernel
theorem dX8_dimension_84 : decode cX8_dimension 84 = .ok (.iload 5, 2) := by decide +kernel
theorem dX8_dimension_86 : decode cX8_dimension 86 = .ok (.goto 4, 3) := by decide +kernel
theorem dX8_dimension_89 : decode cX8_dimension 89 = .ok (.iload_n 2, 1) := by decide +kernel
theorem dX8_dimension_90 : decode cX8_dimension 90 = .ok (.istore_n 2, 1) := by decide +kernel
theorem dX8_dimension_91 : decode cX8_dimension 91 = .ok (.iinc 5 1, 3) := by decide +kernel
theorem dX8_dimension_94 : decode cX8_dimension 94 = .ok (.goto (-59), 3) := by decide +kernel
theorem dX8_dimension_97 : decode cX8_dimension 97 = .ok (.iconst 0, 1) := by decide +kernel
theorem dX8_dimension_98 : decode cX8_dimension 98 = .ok (.istore 5, 2) := by decide +kernel
theorem dX8_dimension_100 : decode cX8_dimension 100 = .ok (.iload 5, 2) := by decide +kernel
theorem dX8_dimension_102 : decode cX8_dimension 102 = .ok (.bipush 8, 2) := by decide +kernel
theorem dX8_dimension_104 : decode cX8_dimension 104 = .ok (.if_icmp .ge 46, 3) := by decide +kernel
theorem dX8_dimension_107 : decode cX8_dimension 107 = .ok (.iload_n 2, 1) := by decide +kernel
theorem dX8_dimension_108 : decode cX8_dimension 108 = .ok (.iconst (-1), 1) := by decide +kernel
theorem dX8_dimension_109 : decode cX8_dimension 109 = .ok (.if_icmp .eq 33, 3) := by decide +kernel
theorem dX8_dimension_112 : decode cX8_dimension 112 = .ok (.iload_n 3, 1) := by decide +kernel
theorem dX8_dimension_113 : decode cX8_dimension 113 = .ok (.iconst (-1), 1) := by decide +kernel
theorem dX8_dimension_114 : decode cX8_dimension 114 = .ok (.if_icmp .ne 28, 3) := by decide +kernel
theorem dX8_dimension_117 : decode cX8_dimension 117 = .ok (.iload_n 1, 1) := by decide +kernel
theorem dX8_dimension_118 : decode cX8_dimension 118 = .ok (.iload 5, 2) := by decide +kernel
theorem dX8_dimension_120 : decode cX8_dimension 120 = .ok (.ishr, 1) := by decide +kernel
theorem dX8_dimension_121 : decode cX8_dimension 121 = .ok (.iconst 1, 1) := by decide +kernel
theorem dX8_dimension_122 : decode cX8_dimension 122 = .ok (.iand, 1) := by decide +kernel
theorem dX8_dimension_123 : decode cX8_dimension 123 = .ok (.iconst 1, 1) := by decide +kernel
theorem dX8_dimension_124 : decode cX8_dimension 124 = .ok (.if_icmp .ne 18, 3) := by decide +kernel
theorem dX8_dimension_127 : decode cX8_dimension 127 = .ok (.aload_n 0, 1) := by decide +kernel
theorem dX8_dimension_128 : decode cX8_dimension 128 = .ok (.iload_n 2, 1) := by decide +kernel
theorem dX8_dimension_129 : decode cX8_dimension 129 = .ok (.iload 5, 2) := by decide +kernel
theorem dX8_dimension_131 : decode cX8_dimension 131 = .ok (.invokevirtual 201, 3) := by decide +kernel
theorem dX8_dimension_134 : decode cX8_dimension 134 = .ok (.ifCond .ne 8, 3) := by decide +kernel
theorem dX8_dimension_137 : decode cX8_dimension 137 = .ok (.iload 5, 2) := by decide +kernel
theorem dX8_dimension_139 : decode cX8_dimension 139 = .ok (.goto 4, 3) := by decide +kernel
theorem dX8_dimension_142 : decode cX8_dimension 142 = .ok (.iload_n 3, 1) := by decide +kernel
theorem dX8_dimension_143 : decode cX8_dimension 143 = .ok (.istore_n 3, 1) := by decide +kernel
theorem dX8_dimension_144 : decode cX8_dimension 144 = .ok (.iinc 5 1, 3) := by decide +kernel
theorem dX8_dimension_147 : decode cX8_dimension 147 = .ok (.goto (-47), 3) := by decide +kernel
theorem dX8_dimension_150 : decode cX8_dimension 150 = .ok (.iconst 0, 1) := by decide +kernel
theorem dX8_dimension_151 : decode cX8_dimension 151 = .ok (.istore 5, 2) := by decide +kernel
theorem dX8_dimension_153 : decode cX8_dimension 153 = .ok (.iload 5, 2) := by decide +kernel
theorem dX8_dimension_155 : decode cX8_dimension 155 = .ok (.bipush 8, 2) := by decide +kernel
theorem dX8_dimension_157 : decode cX8_dimension 157 = .ok (.if_icmp .ge 51, 3) := by decide +kernel
theorem dX8_dimension_160 : decode cX8_dimension 160 = .ok (.iload_n 3, 1) := by decide +kernel
theorem dX8_dimension_161 : decode cX8_dimension 161 = .ok (.iconst (-1), 1) := by decide +kernel
theorem dX8_dimension_162 : decode cX8_dimension 162 = .ok (.if_icmp .eq 46, 3) := by decide +kernel
theorem dX8_dimension_165 : decode cX8_dimension 165 = .ok (.iload_n 1, 1) := by decide +kernel
theorem dX8_dimension_166 : decode cX8_dimension 166 = .ok (.iload 5, 2) := by decide +kernel
theorem dX8_dimension_168 : decode cX8_dimension 168 = .ok (.ishr, 1) := by decide +kernel
theorem dX8_dimension_169 : decode cX8_dimension 169 = .ok (.iconst 1, 1) := by decide +kernel
theorem dX8_dimension_170 : decode cX8_dimension 170 = .ok (.iand, 1) := by decide +kernel
theorem dX8_dimension_171 : decode cX8_dimension 171 = .ok (.iconst 1, 1) := by decide +kernel
theorem dX8_dimension_172 : decode cX8_dimension 172 = .ok (.if_icmp .ne 30, 3) := by decide +kernel
theorem dX8_dimension_175 : decode cX8_dimension 175 = .ok (.aload_n 0, 1) := by decide +kernel
theorem dX8_dimension_176 : decode cX8_dimension 176 = .ok (.iload_n 2, 1) := by decide +kernel
theorem dX8_dimension_177 : decode cX8_dimension 177 = .ok (.iload_n 3, 1) := by decide +kernel
theorem dX8_dimension_178 : decode cX8_dimension 178 = .ok (.iload 5, 2) := by decide +kernel
theorem dX8_dimension_180 : decode cX8_dimension 180 = .ok (.invokevirtual 156, 3) := by decide +kernel
theorem dX8_dimension_183 : decode cX8_dimension 183 = .ok (.iload 4, 2) := by decide +kernel
theorem dX8_dimension_185 : decode cX8_dimension 185 = .ok (.ifCond .ne 10, 3) := by decide +kernel
theorem dX8_dimension_188 : decode cX8_dimension 188 = .ok (.aload_n 0, 1) := by decide +kernel
theorem dX8_dimension_189 : decode cX8_dimension 189 = .ok (.invokevirtual 204, 3) := by decide +kernel
theorem dX8_dimension_192 : decode cX8_dimension 192 = .ok (.ifCond .ne 7, 3) := by decide +kernel
theorem dX8_dimension_195 : decode cX8_dimension 195 = .ok (.iconst 1, 1) := by decide +kernel
theorem dX8_dimension_196 : decode cX8_dimension 196 = .ok (.goto 4, 3) := by decide +kernel
theorem dX8_dimension_199 : decode cX8_dimension 199 = .ok (.iconst 0, 1) := by decide +kernel
theorem dX8_dimension_200 : decode cX8_dimension 200 = .ok (.istore 4, 2) := by decide +kernel
theorem dX8_dimension_202 : decode cX8_dimension 202 = .ok (.iinc 5 1, 3) := by decide +kernel
theorem dX8_dimension_205 : decode cX8_dimension 205 = .ok (.goto (-52), 3) := by decide +kernel
theorem dX8_dimension_208 : decode cX8_dimension 208 = .ok (.iload_n 2, 1) := by decide +kernel
theorem dX8_dimension_209 : decode cX8_dimension 209 = .ok (.iconst (-1), 1) := by decide +kernel
theorem dX8_dimension_210 : decode cX8_dimension 210 = .ok (.if_icmp .ne 7, 3) := by decide +kernel
theorem dX8_dimension_213 : decode cX8_dimension 213 = .ok (.iconst 1, 1) := by decide +kernel
theorem dX8_dimension_214 : decode cX8_dimension 214 = .ok (.goto 23, 3) := by decide +kernel
theorem dX8_dimension_217 : decode cX8_dimension 217 = .ok (.iload_n 3, 1) := by decide +kernel
theorem dX8_dimension_218 : decode cX8_dimension 218 = .ok (.iconst (-1), 1) := by decide +kernel
theorem dX8_dimension_219 : decode cX8_dimension 219 = .ok (.if_icmp .ne 7, 3) := by decide +kernel
theorem dX8_dimension_222 : decode cX8_dimension 222 = .ok (.iconst 2, 1) := by decide +kernel
theorem dX8_dimension_223 : decode cX8_dimension 223 = .ok (.goto 14, 3) := by decide +kernel
theorem dX8_dimension_226 : decode cX8_dimension 226 = .ok (.iload 4, 2) := by decide +kernel
theorem dX8_dimension_228 : decode cX8_dimension 228 = .ok (.ifCond .eq 8, 3) := by decide +kernel
theorem dX8_dimension_231 : decode cX8_dimension 231 = .ok (.bipush 8, 2) := by decide +kernel
theorem dX8_dimension_233 : decode cX8_dimension 233 = .ok (.goto 4, 3) := by decide +kernel
theorem dX8_dimension_236 : decode cX8_dimension 236 = .ok (.iconst 4, 1) := by decide +kernel
theorem dX8_dimension_237 : decode cX8_dimension 237 = .ok (.ireturn, 1) := by decide +kernel
theorem dX8_commute_0 : decode cX8_commute 0 = .ok (.aload_n 0, 1) := by decide +kernel
theorem dX8_commute_1 : decode cX8_commute 1 = .ok (.iload_n 1, 1) := by decide +kernel
theorem dX8_commute_2 : decode cX8_commute 2 = .ok (.invokestatic 121, 3) := by decide +kernel
theorem dX8_commute_5 : decode cX8_commute 5 = .ok (.ifCond .eq 14, 3) := by decide +kernel
theorem dX8_commute_8 : decode cX8_commute 8 = .ok (.iload_n 2, 1) := by decide +kernel
theorem dX8_commute_9 : decode cX8_commute 9 = .ok (.invokestatic 121, 3) := by decide +kernel
theorem dX8_commute_12 : decode cX8_commute 12 = .ok (.ifCond .eq 7, 3) := by decide +kernel
theorem dX8_commute_15 : decode cX8_commute 15 = .ok (.iconst 0, 1) := by decide +kernel
theorem dX8_commute_16 : decode cX8_commute 16 = .ok (.goto 4, 3) := by decide +kernel
theorem dX8_commute_19 : decode cX8_commute 19 = .ok (.iconst 1, 1) := by decide +kernel
theorem dX8_commute_20 : decode cX8_commute 20 = .ok (.invokevirtual 125, 3) := by decide +kernel
theorem dX8_commute_23 : decode cX8_commute 23 = .ok (.ifCond .eq 5, 3) := by decide +kernel
theorem dX8_commute_26 : decode cX8_commute 26 = .ok (.iconst 0, 1) := by decide +kernel
theorem dX8_commute_27 : decode cX8_commute 27 = .ok (.ireturn, 1) := by decide +kernel
theorem dX8_commute_28 : decode cX8_commute 28 = .ok (.aload_n 0, 1) := by decide +kernel
theorem dX8_commute_29 : decode cX8_commute 29 = .ok (.iload_n 1, 1) := by decide +kernel
theorem dX8_commute_30 : decode cX8_commute 30 = .ok (.iload_n 2, 1) := by decide +kernel
theorem dX8_commute_31 : decode cX8_commute 31 = .ok (.invokevirtual 201, 3) := by decide +kernel
theorem dX8_commute_34 : decode cX8_commute 34 = .ok (.ireturn, 1) := by decide +kernel
theorem dX8_associate_0 : decode cX8_associate 0 = .ok (.aload_n 0, 1) := by decide +kernel
theorem dX8_associate_1 : decode cX8_associate 1 = .ok (.iload_n 1, 1) := by decide +kernel
theorem dX8_associate_2 : decode cX8_associate 2 = .ok (.invokestatic 121, 3) := by decide +kernel
theorem dX8_associate_5 : decode cX8_associate 5 = .ok (.ifCond .eq 21, 3) := by decide +kernel
theorem dX8_associate_8 : decode cX8_associate 8 = .ok (.iload_n 2, 1) := by decide +kernel
theorem dX8_associate_9 : decode cX8_associate 9 = .ok (.invokestatic 121, 3) := by decide +kernel
theorem dX8_associate_12 : decode cX8_associate 12 = .ok (.ifCond .eq 14, 3) := by decide +kernel
theorem dX8_associate_15 : decode cX8_associate 15 = .ok (.iload_n 3, 1) := by decide +kernel
theorem dX8_associate_16 : decode cX8_associate 16 = .ok (.invokestatic 121, 3) := by decide +kernel
theorem dX8_associate_19 : decode cX8_associate 19 = .ok (.ifCond .eq 7, 3) := by decide +kernel
theorem dX8_associate_22 : decode cX8_associate 22 = .ok (.iconst 0, 1) := by decide +kernel
theorem dX8_associate_23 : decode cX8_associate 23 = .ok (.goto 4, 3) := by decide +kernel
theorem dX8_associate_26 : decode cX8_associate 26 = .ok (.iconst 1, 1) := by decide +kernel
theorem dX8_associate_27 : decode cX8_associate 27 = .ok (.invokevirtual 125, 3) := by decide +kernel
theorem dX8_associate_30 : decode cX8_associate 30 = .ok (.ifCond .eq 5, 3) := by decide +kernel
theorem dX8_associate_33 : decode cX8_associate 33 = .ok (.iconst 0, 1) := by decide +kernel
theorem dX8_associate_34 : decode cX8_associate 34 = .ok (.ireturn, 1) := by decide +kernel
theorem dX8_associate_35 : decode cX8_associate 35 = .ok (.aload_n 0, 1) := by decide +kernel
theorem dX8_associate_36 : decode cX8_associate 36 = .ok (.iload_n 1, 1) := by decide +kernel
theorem dX8_associate_37 : decode cX8_associate 37 = .ok (.iload_n 2, 1) := by decide +kernel
theorem dX8_associate_38 : decode cX8_associate 38 = .ok (.iload_n 3, 1) := by decide +kernel
theorem dX8_associate_39 : decode cX8_associate 39 = .ok (.invokevirtual 156, 3) := by decide +kernel
theorem dX8_associate_42 : decode cX8_associate 42 = .ok (.aload_n 0, 1) := by decide +kernel
theorem dX8_associate_43 : decode cX8_associate 43 = .ok (.invokevirtual 204, 3) := by decide +kernel
theorem dX8_associate_46 : decode cX8_associate 46 = .ok (.ireturn, 1) := by decide +kernel
theorem dX8_elements_0 : decode cX8_elements 0 = .ok (.aload_n 0, 1) := by decide +kernel
theorem dX8_elements_1 : decode cX8_elements 1 = .ok (.iload_n 1, 1) := by decide +kernel
theorem dX8_elements_2 : decode cX8_elements 2 = .ok (.iconst 0, 1) := by decide +kernel
theorem dX8_elements_3 : decode cX8_elements 3 = .ok (.sipush 1000, 3) := by decide +kernel
theorem dX8_elements_6 : decode cX8_elements 6 = .ok (.invokestatic 86, 3) := by decide +kernel
theorem dX8_elements_9 : decode cX8_elements 9 = .ok (.ifCond .eq 7, 3) := by decide +kernel
theorem dX8_elements_12 : decode cX8_elements 12 = .ok (.iconst 0, 1) := by decide +kernel
theorem dX8_elements_13 : decode cX8_elements 13 = .ok (.goto 4, 3) := by decide +kernel
theorem dX8_elements_16 : decode cX8_elements 16 = .ok (.iconst 1, 1) := by decide +kernel
theorem dX8_elements_17 : decode cX8_elements 17 = .ok (.invokevirtual 125, 3) := by decide +kernel
theorem dX8_elements_20 : decode cX8_elements 20 = .ok (.ifCond .eq 5, 3) := by decide +kernel
theorem dX8_elements_23 : decode cX8_elements 23 = .ok (.lconst 0, 1) := by decide +kernel
theorem dX8_elements_24 : decode cX8_elements 24 = .ok (.lreturn, 1) := by decide +kernel
theorem dX8_elements_25 : decode cX8_elements 25 = .ok (.lconst 0, 1) := by decide +kernel
theorem dX8_elements_26 : decode cX8_elements 26 = .ok (.lstore_n 2, 1) := by decide +kernel
theorem dX8_elements_27 : decode cX8_elements 27 = .ok (.iconst 1, 1) := by decide +kernel
theorem dX8_elements_28 : decode cX8_elements 28 = .ok (.istore 4, 2) := by decide +kernel
theorem dX8_elements_30 : decode cX8_elements 30 = .ok (.iload 4, 2) := by decide +kernel
theorem dX8_elements_32 : decode cX8_elements 32 = .ok (.iload_n 1, 1) := by decide +kernel
theorem dX8_elements_33 : decode cX8_elements 33 = .ok (.if_icmp .gt 64, 3) := by decide +kernel
theorem dX8_elements_36 : decode cX8_elements 36 = .ok (.iload_n 1, 1) := by decide +kernel
theorem dX8_elements_37 : decode cX8_elements 37 = .ok (.iload 4, 2) := by decide +kernel
theorem dX8_elements_39 : decode cX8_elements 39 = .ok (.irem, 1) := by decide +kernel
theorem dX8_elements_40 : decode cX8_elements 40 = .ok (.ifCond .ne 17, 3) := by decide +kernel
theorem dX8_elements_43 : decode cX8_elements 43 = .ok (.iload 4, 2) := by decide +kernel
theorem dX8_elements_45 : decode cX8_elements 45 = .ok (.i2l, 1) := by decide +kernel
theorem dX8_elements_46 : decode cX8_elements 46 = .ok (.iload 4, 2) := by decide +kernel
theorem dX8_elements_48 : decode cX8_elements 48 = .ok (.i2l, 1) := by decide +kernel
theorem dX8_elements_49 : decode cX8_elements 49 = .ok (.lmul, 1) := by decide +kernel
theorem dX8_elements_50 : decode cX8_elements 50 = .ok (.iload 4, 2) := by decide +kernel
theorem dX8_elements_52 : decode cX8_elements 52 = .ok (.i2l, 1) := by decide +kernel
theorem dX8_elements_53 : decode cX8_elements 53 = .ok (.lmul, 1) := by decide +kernel
theorem dX8_elements_54 : decode cX8_elements 54 = .ok (.goto 4, 3) := by decide +kernel
theorem dX8_elements_57 : decode cX8_elements 57 = .ok (.lconst 0, 1) := by decide +kernel
theorem dX8_elements_58 : decode cX8_elements 58 = .ok (.lstore 5, 2) := by decide +kernel
theorem dX8_elements_60 : decode cX8_elements 60 = .ok (.lload_n 2, 1) := by decide +kernel
theorem dX8_elements_61 : decode cX8_elements 61 = .ok (.aload_n 0, 1) := by decide +kernel
theorem dX8_elements_62 : decode cX8_elements 62 = .ok (.getfield 7, 3) := by decide +kernel
theorem dX8_elements_65 : decode cX8_elements 65 = .ok (.bipush 64, 2) := by decide +kernel
theorem dX8_elements_67 : decode cX8_elements 67 = .ok (.iaload, 1) := by decide +kernel
theorem dX8_elements_68 : decode cX8_elements 68 = .ok (.ifCond .ne 19, 3) := by decide +kernel
theorem dX8_elements_71 : decode cX8_elements 71 = .ok (.iload_n 1, 1) := by decide +kernel
theorem dX8_elements_72 : decode cX8_elements 72 = .ok (.iload 4, 2) := by decide +kernel
theorem dX8_elements_74 : decode cX8_elements 74 = .ok (.iadd, 1) := by decide +kernel
theorem dX8_elements_75 : decode cX8_elements 75 = .ok (.iconst 2, 1) := by decide +kernel
theorem dX8_elements_76 : decode cX8_elements 76 = .ok (.irem, 1) := by decide +kernel
theorem dX8_elements_77 : decode cX8_elements 77 = .ok (.iconst 1, 1) := by decide +kernel
theorem dX8_elements_78 : decode cX8_elements 78 = .ok (.if_icmp .ne 9, 3) := by decide +kernel
theorem dX8_elements_81 : decode cX8_elements 81 = .ok (.lload 5, 2) := by decide +kernel
theorem dX8_elements_83 : decode cX8_elements 83 = .ok (.lneg, 1) := by decide +kernel
theorem dX8_elements_84 : decode cX8_elements 84 = .ok (.goto 5, 3) := by decide +kernel
theorem dX8_elements_87 : decode cX8_elements 87 = .ok (.lload 5, 2) := by decide +kernel
theorem dX8_elements_89 : decode cX8_elements 89 = .ok (.ladd, 1) := by decide +kernel
theorem dX8_elements_90 : decode cX8_elements 90 = .ok (.lstore_n 2, 1) := by decide +kernel
theorem dX8_elements_91 : decode cX8_elements 91 = .ok (.iinc 4 1, 3) := by decide +kernel
theorem dX8_elements_94 : decode cX8_elements 94 = .ok (.goto (-64), 3) := by decide +kernel
theorem dX8_elements_97 : decode cX8_elements 97 = .ok (.iload_n 1, 1) := by decide +kernel
theorem dX8_elements_98 : decode cX8_elements 98 = .ok (.ifCond .ne 7, 3) := by decide +kernel
theorem dX8_elements_101 : decode cX8_elements 101 = .ok (.lconst 1, 1) := by decide +kernel
theorem dX8_elements_102 : decode cX8_elements 102 = .ok (.goto 24, 3) := by decide +kernel
theorem dX8_elements_105 : decode cX8_elements 105 = .ok (.aload_n 0, 1) := by decide +kernel
theorem dX8_elements_106 : decode cX8_elements 106 = .ok (.getfield 7, 3) := by decide +kernel
theorem dX8_elements_109 : decode cX8_elements 109 = .ok (.bipush 64, 2) := by decide +kernel
theorem dX8_elements_111 : decode cX8_elements 111 = .ok (.iaload, 1) := by decide +kernel
theorem dX8_elements_112 : decode cX8_elements 112 = .ok (.ifCond .ne 9, 3) := by decide +kernel
theorem dX8_elements_115 : decode cX8_elements 115 = .ok (.ldc2_w 207, 3) := by decide +kernel
theorem dX8_elements_118 : decode cX8_elements 118 = .ok (.goto 6, 3) := by decide +kernel
theorem dX8_elements_121 : decode cX8_elements 121 = .ok (.ldc2_w 209, 3) := by decide +kernel
theorem dX8_elements_124 : decode cX8_elements 124 = .ok (.lload_n 2, 1) := by decide +kernel
theorem dX8_elements_125 : decode cX8_elements 125 = .ok (.lmul, 1) := by decide +kernel
theorem dX8_elements_126 : decode cX8_elements 126 = .ok (.lreturn, 1) := by decide +kernel
theorem dX8_commuting_0 : decode cX8_commuting 0 = .ok (.aload_n 0, 1) := by decide +kernel
theorem dX8_commuting_1 : decode cX8_commuting 1 = .ok (.iload_n 1, 1) := by decide +kernel
theorem dX8_commuting_2 : decode cX8_commuting 2 = .ok (.invokestatic 121, 3) := by decide +kernel
theorem dX8_commuting_5 : decode cX8_commuting 5 = .ok (.ifCond .eq 7, 3) := by decide +kernel
theorem dX8_commuting_8 : decode cX8_commuting 8 = .ok (.iconst 0, 1) := by decide +kernel
theorem dX8_commuting_9 : decode cX8_commuting 9 = .ok (.goto 4, 3) := by decide +kernel
theorem dX8_commuting_12 : decode cX8_commuting 12 = .ok (.iconst 1, 1) := by decide +kernel
theorem dX8_commuting_13 : decode cX8_commuting 13 = .ok (.invokevirtual 125, 3) := by decide +kernel
theorem dX8_commuting_16 : decode cX8_commuting 16 = .ok (.ifCond .eq 5, 3) := by decide +kernel
theorem dX8_commuting_19 : decode cX8_commuting 19 = .ok (.iconst 0, 1) := by decide +kernel
theorem dX8_commuting_20 : decode cX8_commuting 20 = .ok (.ireturn, 1) := by decide +kernel
theorem dX8_commuting_21 : decode cX8_commuting 21 = .ok (.aload_n 0, 1) := by decide +kernel
theorem dX8_commuting_22 : decode cX8_commuting 22 = .ok (.invokevirtual 118, 3) := by decide +kernel
theorem dX8_commuting_25 : decode cX8_commuting 25 = .ok (.iconst 0, 1) := by decide +kernel
theorem dX8_commuting_26 : decode cX8_commuting 26 = .ok (.istore_n 2, 1) := by decide +kernel
theorem dX8_commuting_27 : decode cX8_commuting 27 = .ok (.iconst 0, 1) := by decide +kernel
theorem dX8_commuting_28 : decode cX8_commuting 28 = .ok (.istore_n 3, 1) := by decide +kernel
theorem dX8_commuting_29 : decode cX8_commuting 29 = .ok (.iload_n 3, 1) := by decide +kernel
theorem dX8_commuting_30 : decode cX8_commuting 30 = .ok (.aload_n 0, 1) := by decide +kernel
theorem dX8_commuting_31 : decode cX8_commuting 31 = .ok (.getfield 107, 3) := by decide +kernel
theorem dX8_commuting_34 : decode cX8_commuting 34 = .ok (.if_icmp .ge 148, 3) := by decide +kernel
theorem dX8_commuting_37 : decode cX8_commuting 37 = .ok (.aload_n 0, 1) := by decide +kernel
theorem dX8_commuting_38 : decode cX8_commuting 38 = .ok (.aload_n 0, 1) := by decide +kernel
theorem dX8_commuting_39 : decode cX8_commuting 39 = .ok (.getfield 25, 3) := by decide +kernel
theorem dX8_commuting_42 : decode cX8_commuting 42 = .ok (.iload_n 1, 1) := by decide +kernel
theorem dX8_commuting_43 : decode cX8_commuting 43 = .ok (.invokevirtual 131, 3) := by decide +kernel
theorem dX8_commuting_46 : decode cX8_commuting 46 = .ok (.iconst 0, 1) := by decide +kernel
theorem dX8_commuting_47 : decode cX8_commuting 47 = .ok (.istore 4, 2) := by decide +kernel
theorem dX8_commuting_49 : decode cX8_commuting 49 = .ok (.iload 4, 2) := by decide +kernel
theorem dX8_commuting_51 : decode cX8_commuting 51 = .ok (.bipush 8, 2) := by decide +kernel
theorem dX8_commuting_53 : decode cX8_commuting 53 = .ok (.if_icmp .ge 29, 3) := by decide +kernel
theorem dX8_commuting_56 : decode cX8_commuting 56 = .ok (.aload_n 0, 1) := by decide +kernel
theorem dX8_commuting_57 : decode cX8_commuting 57 = .ok (.getfield 29, 3) := by decide +kernel
theorem dX8_commuting_60 : decode cX8_commuting 60 = .ok (.iload 4, 2) := by decide +kernel
theorem dX8_commuting_62 : decode cX8_commuting 62 = .ok (.aload_n 0, 1) := by decide +kernel
theorem dX8_commuting_63 : decode cX8_commuting 63 = .ok (.getfield 48, 3) := by decide +kernel
theorem dX8_commuting_66 : decode cX8_commuting 66 = .ok (.bipush 8, 2) := by decide +kernel
theorem dX8_commuting_68 : decode cX8_commuting 68 = .ok (.iload_n 3, 1) := by decide +kernel
theorem dX8_commuting_69 : decode cX8_commuting 69 = .ok (.imul, 1) := by decide +kernel
theorem dX8_commuting_70 : decode cX8_commuting 70 = .ok (.iload 4, 2) := by decide +kernel
theorem dX8_commuting_72 : decode cX8_commuting 72 = .ok (.iadd, 1) := by decide +kernel
theorem dX8_commuting_73 : decode cX8_commuting 73 = .ok (.iaload, 1) := by decide +kernel
theorem dX8_commuting_74 : decode cX8_commuting 74 = .ok (.i2l, 1) := by decide +kernel
theorem dX8_commuting_75 : decode cX8_commuting 75 = .ok (.lastore, 1) := by decide +kernel
theorem dX8_commuting_76 : decode cX8_commuting 76 = .ok (.iinc 4 1, 3) := by decide +kernel
theorem dX8_commuting_79 : decode cX8_commuting 79 = .ok (.goto (-30), 3) := by decide +kernel
theorem dX8_commuting_82 : decode cX8_commuting 82 = .ok (.aload_n 0, 1) := by decide +kernel
theorem dX8_commuting_83 : decode cX8_commuting 83 = .ok (.aload_n 0, 1) := by decide +kernel
theorem dX8_commuting_84 : decode cX8_commuting 84 = .ok (.getfield 25, 3) := by decide +kernel
theorem dX8_commuting_87 : decode cX8_commuting 87 = .ok (.aload_n 0, 1) := by decide +kernel
theorem dX8_commuting_88 : decode cX8_commuting 88 = .ok (.getfield 29, 3) := by decide +kernel
theorem dX8_commuting_91 : decode cX8_commuting 91 = .ok (.aload_n 0, 1) := by decide +kernel
theorem dX8_commuting_92 : decode cX8_commuting 92 = .ok (.getfield 41, 3) := by decide +kernel
theorem dX8_commuting_95 : decode cX8_commuting 95 = .ok (.invokevirtual 148, 3) := by decide +kernel
theorem dX8_commuting_98 : decode cX8_commuting 98 = .ok (.aload_n 0, 1) := by decide +kernel
theorem dX8_commuting_99 : decode cX8_commuting 99 = .ok (.aload_n 0, 1) := by decide +kernel
theorem dX8_commuting_100 : decode cX8_commuting 100 = .ok (.getfield 29, 3) := by decide +kernel
theorem dX8_commuting_103 : decode cX8_commuting 103 = .ok (.aload_n 0, 1) := by decide +kernel
theorem dX8_commuting_104 : decode cX8_commuting 104 = .ok (.getfield 25, 3) := by decide +kernel
theorem dX8_commuting_107 : decode cX8_commuting 107 = .ok (.aload_n 0, 1) := by decide +kernel
theorem dX8_commuting_108 : decode cX8_commuting 108 = .ok (.getfield 35, 3) := by decide +kernel
theorem dX8_commuting_111 : decode cX8_commuting 111 = .ok (.invokevirtual 148, 3) := by decide +kernel
theorem dX8_commuting_114 : decode cX8_commuting 114 = .ok (.iconst 1, 1) := by decide +kernel
theorem dX8_commuting_115 : decode cX8_commuting 115 = .ok (.istore 4, 2) := by decide +kernel
theorem dX8_commuting_117 : decode cX8_commuting 117 = .ok (.iconst 0, 1) := by decide +kernel
theorem dX8_commuting_118 : decode cX8_commuting 118 = .ok (.istore 5, 2) := by decide +kernel
theorem dX8_commuting_120 : decode cX8_commuting 120 = .ok (.iload 5, 2) := by decide +kernel
theorem dX8_commuting_122 : decode cX8_commuting 122 = .ok (.bipush 8, 2) := by decide +kernel
theorem dX8_commuting_124 : decode cX8_commuting 124 = .ok (.if_icmp .ge 39, 3) := by decide +kernel
theorem dX8_commuting_127 : decode cX8_commuting 127 = .ok (.iload 4, 2) := by decide +kernel
theorem dX8_commuting_129 : decode cX8_commuting 129 = .ok (.ifCond .eq 25, 3) := by decide +kernel
theorem dX8_commuting_132 : decode cX8_commuting 132 = .ok (.aload_n 0, 1) := by decide +kernel
theorem dX8_commuting_133 : decode cX8_commuting 133 = .ok (.getfield 41, 3) := by decide +kernel
theorem dX8_commuting_136 : decode cX8_commuting 136 = .ok (.iload 5, 2) := by decide +kernel
theorem dX8_commuting_138 : decode cX8_commuting 138 = .ok (.laload, 1) := by decide +kernel
theorem dX8_commuting_139 : decode cX8_commuting 139 = .ok (.aload_n 0, 1) := by decide +kernel
theorem dX8_commuting_140 : decode cX8_commuting 140 = .ok (.getfield 35, 3) := by decide +kernel
theorem dX8_commuting_143 : decode cX8_commuting 143 = .ok (.iload 5, 2) := by decide +kernel
theorem dX8_commuting_145 : decode cX8_commuting 145 = .ok (.laload, 1) := by decide +kernel
theorem dX8_commuting_146 : decode cX8_commuting 146 = .ok (.lcmp, 1) := by decide +kernel
theorem dX8_commuting_147 : decode cX8_commuting 147 = .ok (.ifCond .ne 7, 3) := by decide +kernel
theorem dX8_commuting_150 : decode cX8_commuting 150 = .ok (.iconst 1, 1) := by decide +kernel
theorem dX8_commuting_151 : decode cX8_commuting 151 = .ok (.goto 4, 3) := by decide +kernel
theorem dX8_commuting_154 : decode cX8_commuting 154 = .ok (.iconst 0, 1) := by decide +kernel
theorem dX8_commuting_155 : decode cX8_commuting 155 = .ok (.istore 4, 2) := by decide +kernel
theorem dX8_commuting_157 : decode cX8_commuting 157 = .ok (.iinc 5 1, 3) := by decide +kernel
theorem dX8_commuting_160 : decode cX8_commuting 160 = .ok (.goto (-40), 3) := by decide +kernel
theorem dX8_commuting_163 : decode cX8_commuting 163 = .ok (.iload_n 2, 1) := by decide +kernel
theorem dX8_commuting_164 : decode cX8_commuting 164 = .ok (.iload 4, 2) := by decide +kernel
theorem dX8_commuting_166 : decode cX8_commuting 166 = .ok (.ifCond .eq 7, 3) := by decide +kernel
theorem dX8_commuting_169 : decode cX8_commuting 169 = .ok (.iconst 1, 1) := by decide +kernel
theorem dX8_commuting_170 : decode cX8_commuting 170 = .ok (.goto 4, 3) := by decide +kernel
theorem dX8_commuting_173 : decode cX8_commuting 173 = .ok (.iconst 0, 1) := by decide +kernel
theorem dX8_commuting_174 : decode cX8_commuting 174 = .ok (.iadd, 1) := by decide +kernel
theorem dX8_commuting_175 : decode cX8_commuting 175 = .ok (.istore_n 2, 1) := by decide +kernel
theorem dX8_commuting_176 : decode cX8_commuting 176 = .ok (.iinc 3 1, 3) := by decide +kernel
theorem dX8_commuting_179 : decode cX8_commuting 179 = .ok (.goto (-150), 3) := by decide +kernel
theorem dX8_commuting_182 : decode cX8_commuting 182 = .ok (.iload_n 2, 1) := by decide +kernel
theorem dX8_commuting_183 : decode cX8_commuting 183 = .ok (.ireturn, 1) := by decide +kernel
theorem dX8_append_0 : decode cX8_append 0 = .ok (.aload_n 0, 1) := by decide +kernel
theorem dX8_append_1 : decode cX8_append 1 = .ok (.iload_n 1, 1) := by decide +kernel
theorem dX8_append_2 : decode cX8_append 2 = .ok (.iconst 0, 1) := by decide +kernel
theorem dX8_append_3 : decode cX8_append 3 = .ok (.bipush 127, 2) := by decide +kernel
theorem dX8_append_5 : decode cX8_append 5 = .ok (.invokestatic 86, 3) := by decide +kernel
theorem dX8_append_8 : decode cX8_append 8 = .ok (.ifCond .ne 7, 3) := by decide +kernel
theorem dX8_append_11 : decode cX8_append 11 = .ok (.iconst 1, 1) := by decide +kernel
theorem dX8_append_12 : decode cX8_append 12 = .ok (.goto 17, 3) := by decide +kernel
theorem dX8_append_15 : decode cX8_append 15 = .ok (.aload_n 0, 1) := by decide +kernel
theorem dX8_append_16 : decode cX8_append 16 = .ok (.getfield 211, 3) := by decide +kernel
theorem dX8_append_19 : decode cX8_append 19 = .ok (.bipush 100, 2) := by decide +kernel
theorem dX8_append_21 : decode cX8_append 21 = .ok (.if_icmp .ne 7, 3) := by decide +kernel
theorem dX8_append_24 : decode cX8_append 24 = .ok (.iconst 2, 1) := by decide +kernel
theorem dX8_append_25 : decode cX8_append 25 = .ok (.goto 4, 3) := by decide +kernel
theorem dX8_append_28 : decode cX8_append 28 = .ok (.iconst 0, 1) := by decide +kernel
theorem dX8_append_29 : decode cX8_append 29 = .ok (.invokevirtual 125, 3) := by decide +kernel
theorem dX8_append_32 : decode cX8_append 32 = .ok (.ifCond .eq 5, 3) := by decide +kernel
theorem dX8_append_35 : decode cX8_append 35 = .ok (.iconst 0, 1) := by decide +kernel
theorem dX8_append_36 : decode cX8_append 36 = .ok (.ireturn, 1) := by decide +kernel
theorem dX8_append_37 : decode cX8_append 37 = .ok (.aload_n 0, 1) := by decide +kernel
theorem dX8_append_38 : decode cX8_append 38 = .ok (.getfield 16, 3) := by decide +kernel
theorem dX8_append_41 : decode cX8_append 41 = .ok (.aload_n 0, 1) := by decide +kernel
theorem dX8_append_42 : decode cX8_append 42 = .ok (.getfield 211, 3) := by decide +kernel
theorem dX8_append_45 : decode cX8_append 45 = .ok (.iload_n 1, 1) := by decide +kernel
theorem dX8_append_46 : decode cX8_append 46 = .ok (.iastore, 1) := by decide +kernel
theorem dX8_append_47 : decode cX8_append 47 = .ok (.aload_n 0, 1) := by decide +kernel
theorem dX8_append_48 : decode cX8_append 48 = .ok (.dup, 1) := by decide +kernel
theorem dX8_append_49 : decode cX8_append 49 = .ok (.getfield 211, 3) := by decide +kernel
theorem dX8_append_52 : decode cX8_append 52 = .ok (.iconst 1, 1) := by decide +kernel
theorem dX8_append_53 : decode cX8_append 53 = .ok (.iadd, 1) := by decide +kernel
theorem dX8_append_54 : decode cX8_append 54 = .ok (.putfield 211, 3) := by decide +kernel
theorem dX8_append_57 : decode cX8_append 57 = .ok (.aload_n 0, 1) := by decide +kernel
theorem dX8_append_58 : decode cX8_append 58 = .ok (.getfield 211, 3) := by decide +kernel
theorem dX8_append_61 : decode cX8_append 61 = .ok (.ireturn, 1) := by decide +kernel
theorem dX8_clearText_0 : decode cX8_clearText 0 = .ok (.aload_n 0, 1) := by decide +kernel
theorem dX8_clearText_1 : decode cX8_clearText 1 = .ok (.iconst 0, 1) := by decide +kernel
theorem dX8_clearText_2 : decode cX8_clearText 2 = .ok (.putfield 83, 3) := by decide +kernel
theorem dX8_clearText_5 : decode cX8_clearText 5 = .ok (.aload_n 0, 1) := by decide +kernel
theorem dX8_clearText_6 : decode cX8_clearText 6 = .ok (.getfield 211, 3) := by decide +kernel
theorem dX8_clearText_9 : decode cX8_clearText 9 = .ok (.istore_n 1, 1) := by decide +kernel
theorem dX8_clearText_10 : decode cX8_clearText 10 = .ok (.aload_n 0, 1) := by decide +kernel
theorem dX8_clearText_11 : decode cX8_clearText 11 = .ok (.iconst 0, 1) := by decide +kernel
theorem dX8_clearText_12 : decode cX8_clearText 12 = .ok (.putfield 211, 3) := by decide +kernel
theorem dX8_clearText_15 : decode cX8_clearText 15 = .ok (.iload_n 1, 1) := by decide +kernel
theorem dX8_clearText_16 : decode cX8_clearText 16 = .ok (.ireturn, 1) := by decide +kernel
theorem dX8_behind_0 : decode cX8_behind 0 = .ok (.iload_n 2, 1) := by decide +kernel
theorem dX8_behind_1 : decode cX8_behind 1 = .ok (.bipush 97, 2) := by decide +kernel
theorem dX8_behind_3 : decode cX8_behind 3 = .ok (.bipush 104, 2) := by decide +kernel
theorem dX8_behind_5 : decode cX8_behind 5 = .ok (.invokestatic 86, 3) := by decide +kernel
theorem dX8_behind_8 : decode cX8_behind 8 = .ok (.istore_n 3, 1) := by decide +kernel
theorem dX8_behind_9 : decode cX8_behind 9 = .ok (.iload_n 1, 1) := by decide +kernel
theorem dX8_behind_10 : decode cX8_behind 10 = .ok (.tableswitch 109 0 3 #[30, 40, 52, 52], 30) := by decide +kernel
theorem dX8_behind_40 : decode cX8_behind 40 = .ok (.iload_n 3, 1) := by decide +kernel
theorem dX8_behind_41 : decode cX8_behind 41 = .ok (.ifCond .eq 7, 3) := by decide +kernel
theorem dX8_behind_44 : decode cX8_behind 44 = .ok (.iconst 1, 1) := by decide +kernel
theorem dX8_behind_45 : decode cX8_behind 45 = .ok (.goto 4, 3) := by decide +kernel
theorem dX8_behind_48 : decode cX8_behind 48 = .ok (.iconst (-1), 1) := by decide +kernel
theorem dX8_behind_49 : decode cX8_behind 49 = .ok (.ireturn, 1) := by decide +kernel
theorem dX8_behind_50 : decode cX8_behind 50 = .ok (.iload_n 2, 1) := by decide +kernel
theorem dX8_behind_51 : decode cX8_behind 51 = .ok (.bipush 61, 2) := by decide +kernel
theorem dX8_behind_53 : decode cX8_behind 53 = .ok (.if_icmp .ne 7, 3) := by decide +kernel
theorem dX8_behind_56 : decode cX8_behind 56 = .ok (.iconst 2, 1) := by decide +kernel
theorem dX8_behind_57 : decode cX8_behind 57 = .ok (.goto 4, 3) := by decide +kernel
theorem dX8_behind_60 : decode cX8_behind 60 = .ok (.iconst (-1), 1) := by decide +kernel
theorem dX8_behind_61 : decode cX8_behind 61 = .ok (.ireturn, 1) := by decide +kernel
theorem dX8_behind_62 : decode cX8_behind 62 = .ok (.iload_n 2, 1) := by decide +kernel
theorem dX8_behind_63 : decode cX8_behind 63 = .ok (.bipush 40, 2) := by decide +kernel
theorem dX8_behind_65 : decode cX8_behind 65 = .ok (.if_icmp .ne 24, 3) := by decide +kernel
theorem dX8_behind_68 : decode cX8_behind 68 = .ok (.aload_n 0, 1) := by decide +kernel
theorem dX8_behind_69 : decode cX8_behind 69 = .ok (.getfield 214, 3) := by decide +kernel
theorem dX8_behind_72 : decode cX8_behind 72 = .ok (.bipush 6, 2) := by decide +kernel
theorem dX8_behind_74 : decode cX8_behind 74 = .ok (.if_icmp .ge 15, 3) := by decide +kernel
theorem dX8_behind_77 : decode cX8_behind 77 = .ok (.aload_n 0, 1) := by decide +kernel
theorem dX8_behind_78 : decode cX8_behind 78 = .ok (.dup, 1) := by decide +kernel
theorem dX8_behind_79 : decode cX8_behind 79 = .ok (.getfield 214, 3) := by decide +kernel
theorem dX8_behind_82 : decode cX8_behind 82 = .ok (.iconst 1, 1) := by decide +kernel
theorem dX8_behind_83 : decode cX8_behind 83 = .ok (.iadd, 1) := by decide +kernel
theorem dX8_behind_84 : decode cX8_behind 84 = .ok (.putfield 214, 3) := by decide +kernel
theorem dX8_behind_87 : decode cX8_behind 87 = .ok (.iconst 2, 1) := by decide +kernel
theorem dX8_behind_88 : decode cX8_behind 88 = .ok (.ireturn, 1) := by decide +kernel
theorem dX8_behind_89 : decode cX8_behind 89 = .ok (.iload_n 3, 1) := by decide +kernel
theorem dX8_behind_90 : decode cX8_behind 90 = .ok (.ifCond .eq 7, 3) := by decide +kernel
theorem dX8_behind_93 : decode cX8_behind 93 = .ok (.iconst 4, 1) := by decide +kernel
theorem dX8_behind_94 : decode cX8_behind 94 = .ok (.goto 24, 3) := by decide +kernel
theorem dX8_behind_97 : decode cX8_behind 97 = .ok (.iload_n 1, 1) := by decide +kernel
theorem dX8_behind_98 : decode cX8_behind 98 = .ok (.iconst 2, 1) := by decide +kernel
theorem dX8_behind_99 : decode cX8_behind 99 = .ok (.if_icmp .ne 18, 3) := by decide +kernel
theorem dX8_behind_102 : decode cX8_behind 102 = .ok (.iload_n 2, 1) := by decide +kernel
theorem dX8_behind_103 : decode cX8_behind 103 = .ok (.bipush 49, 2) := by decide +kernel
theorem dX8_behind_105 : decode cX8_behind 105 = .ok (.bipush 57, 2) := by decide +kernel
theorem dX8_behind_107 : decode cX8_behind 107 = .ok (.invokestatic 86, 3) := by decide +kernel
theorem dX8_behind_110 : decode cX8_behind 110 = .ok (.ifCond .eq 7, 3) := by decide +kernel
theorem dX8_behind_113 : decode cX8_behind 113 = .ok (.iconst 3, 1) := by decide +kernel
theorem dX8_behind_114 : decode cX8_behind 114 = .ok (.goto 4, 3) := by decide +kernel
theorem dX8_behind_117 : decode cX8_behind 117 = .ok (.iconst (-1), 1) := by decide +kernel
theorem dX8_behind_118 : decode cX8_behind 118 = .ok (.ireturn, 1) := by decide +kernel
theorem dX8_behind_119 : decode cX8_behind 119 = .ok (.iload_n 2, 1) := by decide +kernel
theorem dX8_behind_120 : decode cX8_behind 120 = .ok (.bipush 41, 2) := by decide +kernel
theorem dX8_behind_122 : decode cX8_behind 122 = .ok (.if_icmp .ne 22, 3) := by decide +kernel
theorem dX8_behind_125 : decode cX8_behind 125 = .ok (.aload_n 0, 1) := by decide +kernel
theorem dX8_behind_126 : decode cX8_behind 126 = .ok (.getfield 214, 3) := by decide +kernel
theorem dX8_behind_129 : decode cX8_behind 129 = .ok (.ifCond .le 15, 3) := by decide +kernel
theorem dX8_behind_132 : decode cX8_behind 132 = .ok (.aload_n 0, 1) := by decide +kernel
theorem dX8_behind_133 : decode cX8_behind 133 = .ok (.dup, 1) := by decide +kernel
theorem dX8_behind_134 : decode cX8_behind 134 = .ok (.getfield 214, 3) := by decide +kernel
theorem dX8_behind_137 : decode cX8_behind 137 = .ok (.iconst 1, 1) := by decide +kernel
theorem dX8_behind_138 : decode cX8_behind 138 = .ok (.isub, 1) := by decide +kernel
theorem dX8_behind_139 : decode cX8_behind 139 = .ok (.putfield 214, 3) := by decide +kernel
theorem dX8_behind_142 : decode cX8_behind 142 = .ok (.iconst 4, 1) := by decide +kernel
theorem dX8_behind_143 : decode cX8_behind 143 = .ok (.ireturn, 1) := by decide +kernel
theorem dX8_behind_144 : decode cX8_behind 144 = .ok (.iload_n 2, 1) := by decide +kernel
theorem dX8_behind_145 : decode cX8_behind 145 = .ok (.bipush 39, 2) := by decide +kernel
theorem dX8_behind_147 : decode cX8_behind 147 = .ok (.if_icmp .ne 7, 3) := by decide +kernel
theorem dX8_behind_150 : decode cX8_behind 150 = .ok (.iconst 4, 1) := by decide +kernel
theorem dX8_behind_151 : decode cX8_behind 151 = .ok (.goto 43, 3) := by decide +kernel
theorem dX8_behind_154 : decode cX8_behind 154 = .ok (.iload_n 2, 1) := by decide +kernel
theorem dX8_behind_155 : decode cX8_behind 155 = .ok (.bipush 42, 2) := by decide +kernel
theorem dX8_behind_157 : decode cX8_behind 157 = .ok (.if_icmp .eq 15, 3) := by decide +kernel
theorem dX8_behind_160 : decode cX8_behind 160 = .ok (.iload_n 2, 1) := by decide +kernel
theorem dX8_behind_161 : decode cX8_behind 161 = .ok (.bipush 43, 2) := by decide +kernel
theorem dX8_behind_163 : decode cX8_behind 163 = .ok (.if_icmp .eq 9, 3) := by decide +kernel
theorem dX8_behind_166 : decode cX8_behind 166 = .ok (.iload_n 2, 1) := by decide +kernel
theorem dX8_behind_167 : decode cX8_behind 167 = .ok (.bipush 45, 2) := by decide +kernel
theorem dX8_behind_169 : decode cX8_behind 169 = .ok (.if_icmp .ne 7, 3) := by decide +kernel
theorem dX8_behind_172 : decode cX8_behind 172 = .ok (.iconst 2, 1) := by decide +kernel
theorem dX8_behind_173 : decode cX8_behind 173 = .ok (.goto 21, 3) := by decide +kernel
theorem dX8_behind_176 : decode cX8_behind 176 = .ok (.iload_n 2, 1) := by decide +kernel
theorem dX8_behind_177 : decode cX8_behind 177 = .ok (.bipush 59, 2) := by decide +kernel
theorem dX8_behind_179 : decode cX8_behind 179 = .ok (.if_icmp .ne 14, 3) := by decide +kernel
theorem dX8_behind_182 : decode cX8_behind 182 = .ok (.aload_n 0, 1) := by decide +kernel
theorem dX8_behind_183 : decode cX8_behind 183 = .ok (.getfield 214, 3) := by decide +kernel
theorem dX8_behind_186 : decode cX8_behind 186 = .ok (.ifCond .ne 7, 3) := by decide +kernel
theorem dX8_behind_189 : decode cX8_behind 189 = .ok (.iconst 0, 1) := by decide +kernel
theorem dX8_behind_190 : decode cX8_behind 190 = .ok (.goto 4, 3) := by decide +kernel
theorem dX8_behind_193 : decode cX8_behind 193 = .ok (.iconst (-1), 1) := by decide +kernel
theorem dX8_behind_194 : decode cX8_behind 194 = .ok (.ireturn, 1) := by decide +kernel
theorem dX8_fault_0 : decode cX8_fault 0 = .ok (.aload_n 0, 1) := by decide +kernel
theorem dX8_fault_1 : decode cX8_fault 1 = .ok (.iconst 0, 1) := by decide +kernel
theorem dX8_fault_2 : decode cX8_fault 2 = .ok (.putfield 214, 3) := by decide +kernel
theorem dX8_fault_5 : decode cX8_fault 5 = .ok (.iconst 0, 1) := by decide +kernel
theorem dX8_fault_6 : decode cX8_fault 6 = .ok (.istore_n 1, 1) := by decide +kernel
theorem dX8_fault_7 : decode cX8_fault 7 = .ok (.iconst 0, 1) := by decide +kernel
theorem dX8_fault_8 : decode cX8_fault 8 = .ok (.istore_n 2, 1) := by decide +kernel
theorem dX8_fault_9 : decode cX8_fault 9 = .ok (.iload_n 2, 1) := by decide +kernel
theorem dX8_fault_10 : decode cX8_fault 10 = .ok (.aload_n 0, 1) := by decide +kernel
theorem dX8_fault_11 : decode cX8_fault 11 = .ok (.getfield 211, 3) := by decide +kernel
theorem dX8_fault_14 : decode cX8_fault 14 = .ok (.if_icmp .ge 28, 3) := by decide +kernel
theorem dX8_fault_17 : decode cX8_fault 17 = .ok (.aload_n 0, 1) := by decide +kernel
theorem dX8_fault_18 : decode cX8_fault 18 = .ok (.iload_n 1, 1) := by decide +kernel
theorem dX8_fault_19 : decode cX8_fault 19 = .ok (.aload_n 0, 1) := by decide +kernel
theorem dX8_fault_20 : decode cX8_fault 20 = .ok (.getfield 16, 3) := by decide +kernel
theorem dX8_fault_23 : decode cX8_fault 23 = .ok (.iload_n 2, 1) := by decide +kernel
theorem dX8_fault_24 : decode cX8_fault 24 = .ok (.iaload, 1) := by decide +kernel
theorem dX8_fault_25 : decode cX8_fault 25 = .ok (.invokevirtual 217, 3) := by decide +kernel
theorem dX8_fault_28 : decode cX8_fault 28 = .ok (.istore_n 1, 1) := by decide +kernel
theorem dX8_fault_29 : decode cX8_fault 29 = .ok (.iload_n 1, 1) := by decide +kernel
theorem dX8_fault_30 : decode cX8_fault 30 = .ok (.iconst (-1), 1) := by decide +kernel
theorem dX8_fault_31 : decode cX8_fault 31 = .ok (.if_icmp .ne 5, 3) := by decide +kernel
theorem dX8_fault_34 : decode cX8_fault 34 = .ok (.iload_n 2, 1) := by decide +kernel
theorem dX8_fault_35 : decode cX8_fault 35 = .ok (.ireturn, 1) := by decide +kernel
theorem dX8_fault_36 : decode cX8_fault 36 = .ok (.iinc 2 1, 3) := by decide +kernel
theorem dX8_fault_39 : decode cX8_fault 39 = .ok (.goto (-30), 3) := by decide +kernel
theorem dX8_fault_42 : decode cX8_fault 42 = .ok (.iload_n 1, 1) := by decide +kernel
theorem dX8_fault_43 : decode cX8_fault 43 = .ok (.ifCond .ne 7, 3) := by decide +kernel
theorem dX8_fault_46 : decode cX8_fault 46 = .ok (.iconst (-1), 1) := by decide +kernel
theorem dX8_fault_47 : decode cX8_fault 47 = .ok (.goto 7, 3) := by decide +kernel
theorem dX8_fault_50 : decode cX8_fault 50 = .ok (.aload_n 0, 1) := by decide +kernel
theorem dX8_fault_51 : decode cX8_fault 51 = .ok (.getfield 211, 3) := by decide +kernel
theorem dX8_fault_54 : decode cX8_fault 54 = .ok (.ireturn, 1) := by decide +kernel
theorem dX8_opens_0 : decode cX8_opens 0 = .ok (.aload_n 0, 1) := by decide +kernel
theorem dX8_opens_1 : decode cX8_opens 1 = .ok (.getfield 66, 3) := by decide +kernel
theorem dX8_opens_4 : decode cX8_opens 4 = .ok (.aload_n 0, 1) := by decide +kernel
theorem dX8_opens_5 : decode cX8_opens 5 = .ok (.getfield 214, 3) := by decide +kernel
theorem dX8_opens_8 : decode cX8_opens 8 = .ok (.iconst 0, 1) := by decide +kernel
theorem dX8_opens_9 : decode cX8_opens 9 = .ok (.iastore, 1) := by decide +kernel
theorem dX8_opens_10 : decode cX8_opens 10 = .ok (.aload_n 0, 1) := by decide +kernel
theorem dX8_opens_11 : decode cX8_opens 11 = .ok (.getfield 69, 3) := by decide +kernel
theorem dX8_opens_14 : decode cX8_opens 14 = .ok (.aload_n 0, 1) := by decide +kernel
theorem dX8_opens_15 : decode cX8_opens 15 = .ok (.getfield 214, 3) := by decide +kernel
theorem dX8_opens_18 : decode cX8_opens 18 = .ok (.iconst 0, 1) := by decide +kernel
theorem dX8_opens_19 : decode cX8_opens 19 = .ok (.bastore, 1) := by decide +kernel
theorem dX8_opens_20 : decode cX8_opens 20 = .ok (.aload_n 0, 1) := by decide +kernel
theorem dX8_opens_21 : decode cX8_opens 21 = .ok (.getfield 73, 3) := by decide +kernel
theorem dX8_opens_24 : decode cX8_opens 24 = .ok (.aload_n 0, 1) := by decide +kernel
theorem dX8_opens_25 : decode cX8_opens 25 = .ok (.getfield 214, 3) := by decide +kernel
theorem dX8_opens_28 : decode cX8_opens 28 = .ok (.iconst 1, 1) := by decide +kernel
theorem dX8_opens_29 : decode cX8_opens 29 = .ok (.iastore, 1) := by decide +kernel
theorem dX8_opens_30 : decode cX8_opens 30 = .ok (.return_, 1) := by decide +kernel
theorem dX8_ends_0 : decode cX8_ends 0 = .ok (.iconst 0, 1) := by decide +kernel
theorem dX8_ends_1 : decode cX8_ends 1 = .ok (.istore_n 1, 1) := by decide +kernel
theorem dX8_ends_2 : decode cX8_ends 2 = .ok (.iload_n 1, 1) := by decide +kernel
theorem dX8_ends_3 : decode cX8_ends 3 = .ok (.bipush 8, 2) := by decide +kernel
theorem dX8_ends_5 : decode cX8_ends 5 = .ok (.if_icmp .ge 28, 3) := by decide +kernel
theorem dX8_ends_8 : decode cX8_ends 8 = .ok (.aload_n 0, 1) := by decide +kernel
theorem dX8_ends_9 : decode cX8_ends 9 = .ok (.getfield 76, 3) := by decide +kernel
theorem dX8_ends_12 : decode cX8_ends 12 = .ok (.iload_n 1, 1) := by decide +kernel
theorem dX8_ends_13 : decode cX8_ends 13 = .ok (.dup2, 1) := by decide +kernel
theorem dX8_ends_14 : decode cX8_ends 14 = .ok (.laload, 1) := by decide +kernel
theorem dX8_ends_15 : decode cX8_ends 15 = .ok (.aload_n 0, 1) := by decide +kernel
theorem dX8_ends_16 : decode cX8_ends 16 = .ok (.getfield 73, 3) := by decide +kernel
theorem dX8_ends_19 : decode cX8_ends 19 = .ok (.aload_n 0, 1) := by decide +kernel
theorem dX8_ends_20 : decode cX8_ends 20 = .ok (.getfield 214, 3) := by decide +kernel
theorem dX8_ends_23 : decode cX8_ends 23 = .ok (.iaload, 1) := by decide +kernel
theorem dX8_ends_24 : decode cX8_ends 24 = .ok (.i2l, 1) := by decide +kernel
theorem dX8_ends_25 : decode cX8_ends 25 = .ok (.lmul, 1) := by decide +kernel
theorem dX8_ends_26 : decode cX8_ends 26 = .ok (.lastore, 1) := by decide +kernel
theorem dX8_ends_27 : decode cX8_ends 27 = .ok (.iinc 1 1, 3) := by decide +kernel
theorem dX8_ends_30 : decode cX8_ends 30 = .ok (.goto (-28), 3) := by decide +kernel
theorem dX8_ends_33 : decode cX8_ends 33 = .ok (.aload_n 0, 1) := by decide +kernel
theorem dX8_ends_34 : decode cX8_ends 34 = .ok (.aload_n 0, 1) := by decide +kernel
theorem dX8_ends_35 : decode cX8_ends 35 = .ok (.getfield 220, 3) := by decide +kernel
theorem dX8_ends_38 : decode cX8_ends 38 = .ok (.ifCond .eq 18, 3) := by decide +kernel
theorem dX8_ends_41 : decode cX8_ends 41 = .ok (.aload_n 0, 1) := by decide +kernel
theorem dX8_ends_42 : decode cX8_ends 42 = .ok (.getfield 76, 3) := by decide +kernel
theorem dX8_ends_45 : decode cX8_ends 45 = .ok (.iconst 1, 1) := by decide +kernel
theorem dX8_ends_46 : decode cX8_ends 46 = .ok (.invokestatic 142, 3) := by decide +kernel
theorem dX8_ends_49 : decode cX8_ends 49 = .ok (.ifCond .eq 7, 3) := by decide +kernel
theorem dX8_ends_52 : decode cX8_ends 52 = .ok (.iconst 1, 1) := by decide +kernel
theorem dX8_ends_53 : decode cX8_ends 53 = .ok (.goto 4, 3) := by decide +kernel
theorem dX8_ends_56 : decode cX8_ends 56 = .ok (.iconst 0, 1) := by decide +kernel
theorem dX8_ends_57 : decode cX8_ends 57 = .ok (.putfield 220, 3) := by decide +kernel
theorem dX8_ends_60 : decode cX8_ends 60 = .ok (.aload_n 0, 1) := by decide +kernel
theorem dX8_ends_61 : decode cX8_ends 61 = .ok (.getfield 73, 3) := by decide +kernel
theorem dX8_ends_64 : decode cX8_ends 64 = .ok (.aload_n 0, 1) := by decide +kernel
theorem dX8_ends_65 : decode cX8_ends 65 = .ok (.getfield 214, 3) := by decide +kernel
theorem dX8_ends_68 : decode cX8_ends 68 = .ok (.iconst 1, 1) := by decide +kernel
theorem dX8_ends_69 : decode cX8_ends 69 = .ok (.iastore, 1) := by decide +kernel
theorem dX8_ends_70 : decode cX8_ends 70 = .ok (.aload_n 0, 1) := by decide +kernel
theorem dX8_ends_71 : decode cX8_ends 71 = .ok (.getfield 69, 3) := by decide +kernel
theorem dX8_ends_74 : decode cX8_ends 74 = .ok (.aload_n 0, 1) := by decide +kernel
theorem dX8_ends_75 : decode cX8_ends 75 = .ok (.getfield 214, 3) := by decide +kernel
theorem dX8_ends_78 : decode cX8_ends 78 = .ok (.baload, 1) := by decide +kernel
theorem dX8_ends_79 : decode cX8_ends 79 = .ok (.ifCond .eq 82, 3) := by decide +kernel
theorem dX8_ends_82 : decode cX8_ends 82 = .ok (.aload_n 0, 1) := by decide +kernel
theorem dX8_ends_83 : decode cX8_ends 83 = .ok (.getfield 220, 3) := by decide +kernel
theorem dX8_ends_86 : decode cX8_ends 86 = .ok (.ifCond .eq 75, 3) := by decide +kernel
theorem dX8_ends_89 : decode cX8_ends 89 = .ok (.iconst 0, 1) := by decide +kernel
theorem dX8_ends_90 : decode cX8_ends 90 = .ok (.istore_n 1, 1) := by decide +kernel
theorem dX8_ends_91 : decode cX8_ends 91 = .ok (.iload_n 1, 1) := by decide +kernel
theorem dX8_ends_92 : decode cX8_ends 92 = .ok (.bipush 8, 2) := by decide +kernel
theorem dX8_ends_94 : decode cX8_ends 94 = .ok (.if_icmp .ge 29, 3) := by decide +kernel
theorem dX8_ends_97 : decode cX8_ends 97 = .ok (.aload_n 0, 1) := by decide +kernel
theorem dX8_ends_98 : decode cX8_ends 98 = .ok (.getfield 25, 3) := by decide +kernel
theorem dX8_ends_101 : decode cX8_ends 101 = .ok (.iload_n 1, 1) := by decide +kernel
theorem dX8_ends_102 : decode cX8_ends 102 = .ok (.aload_n 0, 1) := by decide +kernel
theorem dX8_ends_103 : decode cX8_ends 103 = .ok (.getfield 63, 3) := by decide +kernel
theorem dX8_ends_106 : decode cX8_ends 106 = .ok (.bipush 8, 2) := by decide +kernel
theorem dX8_ends_108 : decode cX8_ends 108 = .ok (.aload_n 0, 1) := by decide +kernel
theorem dX8_ends_109 : decode cX8_ends 109 = .ok (.getfield 214, 3) := by decide +kernel
theorem dX8_ends_112 : decode cX8_ends 112 = .ok (.imul, 1) := by decide +kernel
theorem dX8_ends_113 : decode cX8_ends 113 = .ok (.iload_n 1, 1) := by decide +kernel
theorem dX8_ends_114 : decode cX8_ends 114 = .ok (.iadd, 1) := by decide +kernel
theorem dX8_ends_115 : decode cX8_ends 115 = .ok (.laload, 1) := by decide +kernel
theorem dX8_ends_116 : decode cX8_ends 116 = .ok (.lastore, 1) := by decide +kernel
theorem dX8_ends_117 : decode cX8_ends 117 = .ok (.iinc 1 1, 3) := by decide +kernel
theorem dX8_ends_120 : decode cX8_ends 120 = .ok (.goto (-29), 3) := by decide +kernel
theorem dX8_ends_123 : decode cX8_ends 123 = .ok (.aload_n 0, 1) := by decide +kernel
theorem dX8_ends_124 : decode cX8_ends 124 = .ok (.aload_n 0, 1) := by decide +kernel
theorem dX8_ends_125 : decode cX8_ends 125 = .ok (.getfield 25, 3) := by decide +kernel
theorem dX8_ends_128 : decode cX8_ends 128 = .ok (.aload_n 0, 1) := by decide +kernel
theorem dX8_ends_129 : decode cX8_ends 129 = .ok (.getfield 76, 3) := by decide +kernel
theorem dX8_ends_132 : decode cX8_ends 132 = .ok (.aload_n 0, 1) := by decide +kernel
theorem dX8_ends_133 : decode cX8_ends 133 = .ok (.getfield 76, 3) := by decide +kernel
theorem dX8_ends_136 : decode cX8_ends 136 = .ok (.invokevirtual 148, 3) := by decide +kernel
theorem dX8_ends_139 : decode cX8_ends 139 = .ok (.aload_n 0, 1) := by decide +kernel
theorem dX8_ends_140 : decode cX8_ends 140 = .ok (.aload_n 0, 1) := by decide +kernel
theorem dX8_ends_141 : decode cX8_ends 141 = .ok (.getfield 76, 3) := by decide +kernel
theorem dX8_ends_144 : decode cX8_ends 144 = .ok (.iconst 2, 1) := by decide +kernel
theorem dX8_ends_145 : decode cX8_ends 145 = .ok (.invokestatic 142, 3) := by decide +kernel
theorem dX8_ends_148 : decode cX8_ends 148 = .ok (.putfield 220, 3) := by decide +kernel
theorem dX8_ends_151 : decode cX8_ends 151 = .ok (.aload_n 0, 1) := by decide +kernel
theorem dX8_ends_152 : decode cX8_ends 152 = .ok (.dup, 1) := by decide +kernel
theorem dX8_ends_153 : decode cX8_ends 153 = .ok (.getfield 224, 3) := by decide +kernel
theorem dX8_ends_156 : decode cX8_ends 156 = .ok (.iconst 1, 1) := by decide +kernel
theorem dX8_ends_157 : decode cX8_ends 157 = .ok (.iadd, 1) := by decide +kernel
theorem dX8_ends_158 : decode cX8_ends 158 = .ok (.putfield 224, 3) := by decide +kernel
theorem dX8_ends_161 : decode cX8_ends 161 = .ok (.aload_n 0, 1) := by decide +kernel
theorem dX8_ends_162 : decode cX8_ends 162 = .ok (.getfield 69, 3) := by decide +kernel
theorem dX8_ends_165 : decode cX8_ends 165 = .ok (.aload_n 0, 1) := by decide +kernel
theorem dX8_ends_166 : decode cX8_ends 166 = .ok (.getfield 214, 3) := by decide +kernel
theorem dX8_ends_169 : decode cX8_ends 169 = .ok (.iconst 1, 1) := by decide +kernel
theorem dX8_ends_170 : decode cX8_ends 170 = .ok (.bastore, 1) := by decide +kernel
theorem dX8_ends_171 : decode cX8_ends 171 = .ok (.iconst 0, 1) := by decide +kernel
theorem dX8_ends_172 : decode cX8_ends 172 = .ok (.istore_n 1, 1) := by decide +kernel
theorem dX8_ends_173 : decode cX8_ends 173 = .ok (.iload_n 1, 1) := by decide +kernel
theorem dX8_ends_174 : decode cX8_ends 174 = .ok (.bipush 8, 2) := by decide +kernel
theorem dX8_ends_176 : decode cX8_ends 176 = .ok (.if_icmp .ge 29, 3) := by decide +kernel
theorem dX8_ends_179 : decode cX8_ends 179 = .ok (.aload_n 0, 1) := by decide +kernel
theorem dX8_ends_180 : decode cX8_ends 180 = .ok (.getfield 63, 3) := by decide +kernel
theorem dX8_ends_183 : decode cX8_ends 183 = .ok (.bipush 8, 2) := by decide +kernel
theorem dX8_ends_185 : decode cX8_ends 185 = .ok (.aload_n 0, 1) := by decide +kernel
theorem dX8_ends_186 : decode cX8_ends 186 = .ok (.getfield 214, 3) := by decide +kernel
theorem dX8_ends_189 : decode cX8_ends 189 = .ok (.imul, 1) := by decide +kernel
theorem dX8_ends_190 : decode cX8_ends 190 = .ok (.iload_n 1, 1) := by decide +kernel
theorem dX8_ends_191 : decode cX8_ends 191 = .ok (.iadd, 1) := by decide +kernel
theorem dX8_ends_192 : decode cX8_ends 192 = .ok (.aload_n 0, 1) := by decide +kernel
theorem dX8_ends_193 : decode cX8_ends 193 = .ok (.getfield 76, 3) := by decide +kernel
theorem dX8_ends_196 : decode cX8_ends 196 = .ok (.iload_n 1, 1) := by decide +kernel
theorem dX8_ends_197 : decode cX8_ends 197 = .ok (.laload, 1) := by decide +kernel
theorem dX8_ends_198 : decode cX8_ends 198 = .ok (.lastore, 1) := by decide +kernel
theorem dX8_ends_199 : decode cX8_ends 199 = .ok (.iinc 1 1, 3) := by decide +kernel
theorem dX8_ends_202 : decode cX8_ends 202 = .ok (.goto (-29), 3) := by decide +kernel
theorem dX8_ends_205 : decode cX8_ends 205 = .ok (.return_, 1) := by decide +kernel
theorem dX8_endsTerm_0 : decode cX8_endsTerm 0 = .ok (.iconst 0, 1) := by decide +kernel
theorem dX8_endsTerm_1 : decode cX8_endsTerm 1 = .ok (.istore_n 2, 1) := by decide +kernel
theorem dX8_endsTerm_2 : decode cX8_endsTerm 2 = .ok (.iload_n 2, 1) := by decide +kernel
theorem dX8_endsTerm_3 : decode cX8_endsTerm 3 = .ok (.bipush 8, 2) := by decide +kernel
theorem dX8_endsTerm_5 : decode cX8_endsTerm 5 = .ok (.if_icmp .ge 84, 3) := by decide +kernel
theorem dX8_endsTerm_8 : decode cX8_endsTerm 8 = .ok (.aload_n 0, 1) := by decide +kernel
theorem dX8_endsTerm_9 : decode cX8_endsTerm 9 = .ok (.getfield 76, 3) := by decide +kernel
theorem dX8_endsTerm_12 : decode cX8_endsTerm 12 = .ok (.iload_n 2, 1) := by decide +kernel
theorem dX8_endsTerm_13 : decode cX8_endsTerm 13 = .ok (.aload_n 0, 1) := by decide +kernel
theorem dX8_endsTerm_14 : decode cX8_endsTerm 14 = .ok (.getfield 66, 3) := by decide +kernel
theorem dX8_endsTerm_17 : decode cX8_endsTerm 17 = .ok (.aload_n 0, 1) := by decide +kernel
theorem dX8_endsTerm_18 : decode cX8_endsTerm 18 = .ok (.getfield 214, 3) := by decide +kernel
theorem dX8_endsTerm_21 : decode cX8_endsTerm 21 = .ok (.iaload, 1) := by decide +kernel
theorem dX8_endsTerm_22 : decode cX8_endsTerm 22 = .ok (.ifCond .ne 20, 3) := by decide +kernel
theorem dX8_endsTerm_25 : decode cX8_endsTerm 25 = .ok (.aload_n 0, 1) := by decide +kernel
theorem dX8_endsTerm_26 : decode cX8_endsTerm 26 = .ok (.getfield 63, 3) := by decide +kernel
theorem dX8_endsTerm_29 : decode cX8_endsTerm 29 = .ok (.bipush 8, 2) := by decide +kernel
theorem dX8_endsTerm_31 : decode cX8_endsTerm 31 = .ok (.aload_n 0, 1) := by decide +kernel
theorem dX8_endsTerm_32 : decode cX8_endsTerm 32 = .ok (.getfield 214, 3) := by decide +kernel
theorem dX8_endsTerm_35 : decode cX8_endsTerm 35 = .ok (.imul, 1) := by decide +kernel
theorem dX8_endsTerm_36 : decode cX8_endsTerm 36 = .ok (.iload_n 2, 1) := by decide +kernel
theorem dX8_endsTerm_37 : decode cX8_endsTerm 37 = .ok (.iadd, 1) := by decide +kernel
theorem dX8_endsTerm_38 : decode cX8_endsTerm 38 = .ok (.laload, 1) := by decide +kernel
theorem dX8_endsTerm_39 : decode cX8_endsTerm 39 = .ok (.goto 43, 3) := by decide +kernel
theorem dX8_endsTerm_42 : decode cX8_endsTerm 42 = .ok (.aload_n 0, 1) := by decide +kernel
theorem dX8_endsTerm_43 : decode cX8_endsTerm 43 = .ok (.getfield 60, 3) := by decide +kernel
theorem dX8_endsTerm_46 : decode cX8_endsTerm 46 = .ok (.bipush 8, 2) := by decide +kernel
theorem dX8_endsTerm_48 : decode cX8_endsTerm 48 = .ok (.aload_n 0, 1) := by decide +kernel
theorem dX8_endsTerm_49 : decode cX8_endsTerm 49 = .ok (.getfield 214, 3) := by decide +kernel
theorem dX8_endsTerm_52 : decode cX8_endsTerm 52 = .ok (.imul, 1) := by decide +kernel
theorem dX8_endsTerm_53 : decode cX8_endsTerm 53 = .ok (.iload_n 2, 1) := by decide +kernel
theorem dX8_endsTerm_54 : decode cX8_endsTerm 54 = .ok (.iadd, 1) := by decide +kernel
theorem dX8_endsTerm_55 : decode cX8_endsTerm 55 = .ok (.laload, 1) := by decide +kernel
theorem dX8_endsTerm_56 : decode cX8_endsTerm 56 = .ok (.aload_n 0, 1) := by decide +kernel
theorem dX8_endsTerm_57 : decode cX8_endsTerm 57 = .ok (.getfield 66, 3) := by decide +kernel
theorem dX8_endsTerm_60 : decode cX8_endsTerm 60 = .ok (.aload_n 0, 1) := by decide +kernel
theorem dX8_endsTerm_61 : decode cX8_endsTerm 61 = .ok (.getfield 214, 3) := by decide +kernel
theorem dX8_endsTerm_64 : decode cX8_endsTerm 64 = .ok (.iaload, 1) := by decide +kernel
theorem dX8_endsTerm_65 : decode cX8_endsTerm 65 = .ok (.i2l, 1) := by decide +kernel
theorem dX8_endsTerm_66 : decode cX8_endsTerm 66 = .ok (.aload_n 0, 1) := by decide +kernel
theorem dX8_endsTerm_67 : decode cX8_endsTerm 67 = .ok (.getfield 63, 3) := by decide +kernel
theorem dX8_endsTerm_70 : decode cX8_endsTerm 70 = .ok (.bipush 8, 2) := by decide +kernel
theorem dX8_endsTerm_72 : decode cX8_endsTerm 72 = .ok (.aload_n 0, 1) := by decide +kernel
theorem dX8_endsTerm_73 : decode cX8_endsTerm 73 = .ok (.getfield 214, 3) := by decide +kernel
theorem dX8_endsTerm_76 : decode cX8_endsTerm 76 = .ok (.imul, 1) := by decide +kernel
theorem dX8_endsTerm_77 : decode cX8_endsTerm 77 = .ok (.iload_n 2, 1) := by decide +kernel
theorem dX8_endsTerm_78 : decode cX8_endsTerm 78 = .ok (.iadd, 1) := by decide +kernel
theorem dX8_endsTerm_79 : decode cX8_endsTerm 79 = .ok (.laload, 1) := by decide +kernel
theorem dX8_endsTerm_80 : decode cX8_endsTerm 80 = .ok (.lmul, 1) := by decide +kernel
theorem dX8_endsTerm_81 : decode cX8_endsTerm 81 = .ok (.ladd, 1) := by decide +kernel
theorem dX8_endsTerm_82 : decode cX8_endsTerm 82 = .ok (.lastore, 1) := by decide +kernel
theorem dX8_endsTerm_83 : decode cX8_endsTerm 83 = .ok (.iinc 2 1, 3) := by decide +kernel
theorem dX8_endsTerm_86 : decode cX8_endsTerm 86 = .ok (.goto (-84), 3) := by decide +kernel
theorem dX8_endsTerm_89 : decode cX8_endsTerm 89 = .ok (.aload_n 0, 1) := by decide +kernel
theorem dX8_endsTerm_90 : decode cX8_endsTerm 90 = .ok (.aload_n 0, 1) := by decide +kernel
theorem dX8_endsTerm_91 : decode cX8_endsTerm 91 = .ok (.getfield 220, 3) := by decide +kernel
theorem dX8_endsTerm_94 : decode cX8_endsTerm 94 = .ok (.ifCond .eq 18, 3) := by decide +kernel
theorem dX8_endsTerm_97 : decode cX8_endsTerm 97 = .ok (.aload_n 0, 1) := by decide +kernel
theorem dX8_endsTerm_98 : decode cX8_endsTerm 98 = .ok (.getfield 76, 3) := by decide +kernel
theorem dX8_endsTerm_101 : decode cX8_endsTerm 101 = .ok (.iconst 1, 1) := by decide +kernel
theorem dX8_endsTerm_102 : decode cX8_endsTerm 102 = .ok (.invokestatic 142, 3) := by decide +kernel
theorem dX8_endsTerm_105 : decode cX8_endsTerm 105 = .ok (.ifCond .eq 7, 3) := by decide +kernel
theorem dX8_endsTerm_108 : decode cX8_endsTerm 108 = .ok (.iconst 1, 1) := by decide +kernel
theorem dX8_endsTerm_109 : decode cX8_endsTerm 109 = .ok (.goto 4, 3) := by decide +kernel
theorem dX8_endsTerm_112 : decode cX8_endsTerm 112 = .ok (.iconst 0, 1) := by decide +kernel
theorem dX8_endsTerm_113 : decode cX8_endsTerm 113 = .ok (.putfield 220, 3) := by decide +kernel
theorem dX8_endsTerm_116 : decode cX8_endsTerm 116 = .ok (.iconst 0, 1) := by decide +kernel
theorem dX8_endsTerm_117 : decode cX8_endsTerm 117 = .ok (.istore_n 2, 1) := by decide +kernel
theorem dX8_endsTerm_118 : decode cX8_endsTerm 118 = .ok (.iload_n 2, 1) := by decide +kernel
theorem dX8_endsTerm_119 : decode cX8_endsTerm 119 = .ok (.bipush 8, 2) := by decide +kernel
theorem dX8_endsTerm_121 : decode cX8_endsTerm 121 = .ok (.if_icmp .ge 29, 3) := by decide +kernel
theorem dX8_endsTerm_124 : decode cX8_endsTerm 124 = .ok (.aload_n 0, 1) := by decide +kernel
theorem dX8_endsTerm_125 : decode cX8_endsTerm 125 = .ok (.getfield 60, 3) := by decide +kernel
theorem dX8_endsTerm_128 : decode cX8_endsTerm 128 = .ok (.bipush 8, 2) := by decide +kernel
theorem dX8_endsTerm_130 : decode cX8_endsTerm 130 = .ok (.aload_n 0, 1) := by decide +kernel
theorem dX8_endsTerm_131 : decode cX8_endsTerm 131 = .ok (.getfield 214, 3) := by decide +kernel
theorem dX8_endsTerm_134 : decode cX8_endsTerm 134 = .ok (.imul, 1) := by decide +kernel
theorem dX8_endsTerm_135 : decode cX8_endsTerm 135 = .ok (.iload_n 2, 1) := by decide +kernel
theorem dX8_endsTerm_136 : decode cX8_endsTerm 136 = .ok (.iadd, 1) := by decide +kernel
theorem dX8_endsTerm_137 : decode cX8_endsTerm 137 = .ok (.aload_n 0, 1) := by decide +kernel
theorem dX8_endsTerm_138 : decode cX8_endsTerm 138 = .ok (.getfield 76, 3) := by decide +kernel
theorem dX8_endsTerm_141 : decode cX8_endsTerm 141 = .ok (.iload_n 2, 1) := by decide +kernel
theorem dX8_endsTerm_142 : decode cX8_endsTerm 142 = .ok (.laload, 1) := by decide +kernel
theorem dX8_endsTerm_143 : decode cX8_endsTerm 143 = .ok (.lastore, 1) := by decide +kernel
theorem dX8_endsTerm_144 : decode cX8_endsTerm 144 = .ok (.iinc 2 1, 3) := by decide +kernel
theorem dX8_endsTerm_147 : decode cX8_endsTerm 147 = .ok (.goto (-29), 3) := by decide +kernel
theorem dX8_endsTerm_150 : decode cX8_endsTerm 150 = .ok (.aload_n 0, 1) := by decide +kernel
theorem dX8_endsTerm_151 : decode cX8_endsTerm 151 = .ok (.getfield 66, 3) := by decide +kernel
theorem dX8_endsTerm_154 : decode cX8_endsTerm 154 = .ok (.aload_n 0, 1) := by decide +kernel
theorem dX8_endsTerm_155 : decode cX8_endsTerm 155 = .ok (.getfield 214, 3) := by decide +kernel
theorem dX8_endsTerm_158 : decode cX8_endsTerm 158 = .ok (.iload_n 1, 1) := by decide +kernel
theorem dX8_endsTerm_159 : decode cX8_endsTerm 159 = .ok (.iastore, 1) := by decide +kernel
theorem dX8_endsTerm_160 : decode cX8_endsTerm 160 = .ok (.aload_n 0, 1) := by decide +kernel
theorem dX8_endsTerm_161 : decode cX8_endsTerm 161 = .ok (.getfield 69, 3) := by decide +kernel
theorem dX8_endsTerm_164 : decode cX8_endsTerm 164 = .ok (.aload_n 0, 1) := by decide +kernel
theorem dX8_endsTerm_165 : decode cX8_endsTerm 165 = .ok (.getfield 214, 3) := by decide +kernel
theorem dX8_endsTerm_168 : decode cX8_endsTerm 168 = .ok (.iconst 0, 1) := by decide +kernel
theorem dX8_endsTerm_169 : decode cX8_endsTerm 169 = .ok (.bastore, 1) := by decide +kernel
theorem dX8_endsTerm_170 : decode cX8_endsTerm 170 = .ok (.return_, 1) := by decide +kernel
theorem dX8_reads_0 : decode cX8_reads 0 = .ok (.iload_n 1, 1) := by decide +kernel
theorem dX8_reads_1 : decode cX8_reads 1 = .ok (.bipush 49, 2) := by decide +kernel
theorem dX8_reads_3 : decode cX8_reads 3 = .ok (.bipush 57, 2) := by decide +kernel
theorem dX8_reads_5 : decode cX8_reads 5 = .ok (.invokestatic 86, 3) := by decide +kernel
theorem dX8_reads_8 : decode cX8_reads 8 = .ok (.ifCond .eq 19, 3) := by decide +kernel
theorem dX8_reads_11 : decode cX8_reads 11 = .ok (.aload_n 0, 1) := by decide +kernel
theorem dX8_reads_12 : decode cX8_reads 12 = .ok (.getfield 73, 3) := by decide +kernel
theorem dX8_reads_15 : decode cX8_reads 15 = .ok (.aload_n 0, 1) := by decide +kernel
theorem dX8_reads_16 : decode cX8_reads 16 = .ok (.getfield 214, 3) := by decide +kernel
theorem dX8_reads_19 : decode cX8_reads 19 = .ok (.iload_n 1, 1) := by decide +kernel
theorem dX8_reads_20 : decode cX8_reads 20 = .ok (.bipush 48, 2) := by decide +kernel
theorem dX8_reads_22 : decode cX8_reads 22 = .ok (.isub, 1) := by decide +kernel
theorem dX8_reads_23 : decode cX8_reads 23 = .ok (.iastore, 1) := by decide +kernel
theorem dX8_reads_24 : decode cX8_reads 24 = .ok (.goto 133, 3) := by decide +kernel
theorem dX8_reads_27 : decode cX8_reads 27 = .ok (.iload_n 1, 1) := by decide +kernel
theorem dX8_reads_28 : decode cX8_reads 28 = .ok (.bipush 97, 2) := by decide +kernel
theorem dX8_reads_30 : decode cX8_reads 30 = .ok (.bipush 104, 2) := by decide +kernel
theorem dX8_reads_32 : decode cX8_reads 32 = .ok (.invokestatic 86, 3) := by decide +kernel
theorem dX8_reads_35 : decode cX8_reads 35 = .ok (.ifCond .eq 18, 3) := by decide +kernel
theorem dX8_reads_38 : decode cX8_reads 38 = .ok (.aload_n 0, 1) := by decide +kernel
theorem dX8_reads_39 : decode cX8_reads 39 = .ok (.aload_n 0, 1) := by decide +kernel
theorem dX8_reads_40 : decode cX8_reads 40 = .ok (.getfield 76, 3) := by decide +kernel
theorem dX8_reads_43 : decode cX8_reads 43 = .ok (.iload_n 1, 1) := by decide +kernel
theorem dX8_reads_44 : decode cX8_reads 44 = .ok (.bipush 97, 2) := by decide +kernel
theorem dX8_reads_46 : decode cX8_reads 46 = .ok (.isub, 1) := by decide +kernel
theorem dX8_reads_47 : decode cX8_reads 47 = .ok (.invokevirtual 131, 3) := by decide +kernel
theorem dX8_reads_50 : decode cX8_reads 50 = .ok (.goto 107, 3) := by decide +kernel
theorem dX8_reads_53 : decode cX8_reads 53 = .ok (.iload_n 1, 1) := by decide +kernel
theorem dX8_reads_54 : decode cX8_reads 54 = .ok (.bipush 40, 2) := by decide +kernel
theorem dX8_reads_56 : decode cX8_reads 56 = .ok (.if_icmp .ne 20, 3) := by decide +kernel
theorem dX8_reads_59 : decode cX8_reads 59 = .ok (.aload_n 0, 1) := by decide +kernel
theorem dX8_reads_60 : decode cX8_reads 60 = .ok (.dup, 1) := by decide +kernel
theorem dX8_reads_61 : decode cX8_reads 61 = .ok (.getfield 214, 3) := by decide +kernel
theorem dX8_reads_64 : decode cX8_reads 64 = .ok (.iconst 1, 1) := by decide +kernel
theorem dX8_reads_65 : decode cX8_reads 65 = .ok (.iadd, 1) := by decide +kernel
theorem dX8_reads_66 : decode cX8_reads 66 = .ok (.putfield 214, 3) := by decide +kernel
theorem dX8_reads_69 : decode cX8_reads 69 = .ok (.aload_n 0, 1) := by decide +kernel
theorem dX8_reads_70 : decode cX8_reads 70 = .ok (.invokevirtual 227, 3) := by decide +kernel
theorem dX8_reads_73 : decode cX8_reads 73 = .ok (.goto 84, 3) := by decide +kernel
theorem dX8_reads_76 : decode cX8_reads 76 = .ok (.iload_n 1, 1) := by decide +kernel
theorem dX8_reads_77 : decode cX8_reads 77 = .ok (.bipush 39, 2) := by decide +kernel
theorem dX8_reads_79 : decode cX8_reads 79 = .ok (.if_icmp .ne 33, 3) := by decide +kernel
theorem dX8_reads_82 : decode cX8_reads 82 = .ok (.iconst 1, 1) := by decide +kernel
theorem dX8_reads_83 : decode cX8_reads 83 = .ok (.istore_n 2, 1) := by decide +kernel
theorem dX8_reads_84 : decode cX8_reads 84 = .ok (.iload_n 2, 1) := by decide +kernel
theorem dX8_reads_85 : decode cX8_reads 85 = .ok (.bipush 8, 2) := by decide +kernel
theorem dX8_reads_87 : decode cX8_reads 87 = .ok (.if_icmp .ge 22, 3) := by decide +kernel
theorem dX8_reads_90 : decode cX8_reads 90 = .ok (.aload_n 0, 1) := by decide +kernel
theorem dX8_reads_91 : decode cX8_reads 91 = .ok (.getfield 76, 3) := by decide +kernel
theorem dX8_reads_94 : decode cX8_reads 94 = .ok (.iload_n 2, 1) := by decide +kernel
theorem dX8_reads_95 : decode cX8_reads 95 = .ok (.aload_n 0, 1) := by decide +kernel
theorem dX8_reads_96 : decode cX8_reads 96 = .ok (.getfield 76, 3) := by decide +kernel
theorem dX8_reads_99 : decode cX8_reads 99 = .ok (.iload_n 2, 1) := by decide +kernel
theorem dX8_reads_100 : decode cX8_reads 100 = .ok (.laload, 1) := by decide +kernel
theorem dX8_reads_101 : decode cX8_reads 101 = .ok (.lneg, 1) := by decide +kernel
theorem dX8_reads_102 : decode cX8_reads 102 = .ok (.lastore, 1) := by decide +kernel
theorem dX8_reads_103 : decode cX8_reads 103 = .ok (.iinc 2 1, 3) := by decide +kernel
theorem dX8_reads_106 : decode cX8_reads 106 = .ok (.goto (-22), 3) := by decide +kernel
theorem dX8_reads_109 : decode cX8_reads 109 = .ok (.goto 48, 3) := by decide +kernel
theorem dX8_reads_112 : decode cX8_reads 112 = .ok (.aload_n 0, 1) := by decide +kernel
theorem dX8_reads_113 : decode cX8_reads 113 = .ok (.invokevirtual 230, 3) := by decide +kernel
theorem dX8_reads_116 : decode cX8_reads 116 = .ok (.iload_n 1, 1) := by decide +kernel
theorem dX8_reads_117 : decode cX8_reads 117 = .ok (.bipush 42, 2) := by decide +kernel
theorem dX8_reads_119 : decode cX8_reads 119 = .ok (.if_icmp .eq 18, 3) := by decide +kernel
theorem dX8_reads_122 : decode cX8_reads 122 = .ok (.aload_n 0, 1) := by decide +kernel
theorem dX8_reads_123 : decode cX8_reads 123 = .ok (.iload_n 1, 1) := by decide +kernel
theorem dX8_reads_124 : decode cX8_reads 124 = .ok (.bipush 45, 2) := by decide +kernel
theorem dX8_reads_126 : decode cX8_reads 126 = .ok (.if_icmp .ne 7, 3) := by decide +kernel
theorem dX8_reads_129 : decode cX8_reads 129 = .ok (.iconst (-1), 1) := by decide +kernel
theorem dX8_reads_130 : decode cX8_reads 130 = .ok (.goto 4, 3) := by decide +kernel
theorem dX8_reads_133 : decode cX8_reads 133 = .ok (.iconst 1, 1) := by decide +kernel
theorem dX8_reads_134 : decode cX8_reads 134 = .ok (.invokevirtual 233, 3) := by decide +kernel
theorem dX8_reads_137 : decode cX8_reads 137 = .ok (.aload_n 0, 1) := by decide +kernel
theorem dX8_reads_138 : decode cX8_reads 138 = .ok (.dup, 1) := by decide +kernel
theorem dX8_reads_139 : decode cX8_reads 139 = .ok (.getfield 214, 3) := by decide +kernel
theorem dX8_reads_142 : decode cX8_reads 142 = .ok (.iload_n 1, 1) := by decide +kernel
theorem dX8_reads_143 : decode cX8_reads 143 = .ok (.bipush 41, 2) := by decide +kernel
theorem dX8_reads_145 : decode cX8_reads 145 = .ok (.if_icmp .ne 7, 3) := by decide +kernel
theorem dX8_reads_148 : decode cX8_reads 148 = .ok (.iconst 1, 1) := by decide +kernel
theorem dX8_reads_149 : decode cX8_reads 149 = .ok (.goto 4, 3) := by decide +kernel
theorem dX8_reads_152 : decode cX8_reads 152 = .ok (.iconst 0, 1) := by decide +kernel
theorem dX8_reads_153 : decode cX8_reads 153 = .ok (.isub, 1) := by decide +kernel
theorem dX8_reads_154 : decode cX8_reads 154 = .ok (.putfield 214, 3) := by decide +kernel
theorem dX8_reads_157 : decode cX8_reads 157 = .ok (.return_, 1) := by decide +kernel
theorem dX8_carryOut_0 : decode cX8_carryOut 0 = .ok (.aload_n 0, 1) := by decide +kernel
theorem dX8_carryOut_1 : decode cX8_carryOut 1 = .ok (.iconst 0, 1) := by decide +kernel
theorem dX8_carryOut_2 : decode cX8_carryOut 2 = .ok (.putfield 83, 3) := by decide +kernel
theorem dX8_carryOut_5 : decode cX8_carryOut 5 = .ok (.aload_n 0, 1) := by decide +kernel
theorem dX8_carryOut_6 : decode cX8_carryOut 6 = .ok (.invokevirtual 237, 3) := by decide +kernel
theorem dX8_carryOut_9 : decode cX8_carryOut 9 = .ok (.istore_n 1, 1) := by decide +kernel
theorem dX8_carryOut_10 : decode cX8_carryOut 10 = .ok (.iload_n 1, 1) := by decide +kernel
theorem dX8_carryOut_11 : decode cX8_carryOut 11 = .ok (.iconst (-1), 1) := by decide +kernel
theorem dX8_carryOut_12 : decode cX8_carryOut 12 = .ok (.if_icmp .eq 8, 3) := by decide +kernel
theorem dX8_carryOut_15 : decode cX8_carryOut 15 = .ok (.bipush (-10), 2) := by decide +kernel
theorem dX8_carryOut_17 : decode cX8_carryOut 17 = .ok (.iload_n 1, 1) := by decide +kernel
theorem dX8_carryOut_18 : decode cX8_carryOut 18 = .ok (.isub, 1) := by decide +kernel
theorem dX8_carryOut_19 : decode cX8_carryOut 19 = .ok (.ireturn, 1) := by decide +kernel
theorem dX8_carryOut_20 : decode cX8_carryOut 20 = .ok (.aload_n 0, 1) := by decide +kernel
theorem dX8_carryOut_21 : decode cX8_carryOut 21 = .ok (.invokevirtual 128, 3) := by decide +kernel
theorem dX8_carryOut_24 : decode cX8_carryOut 24 = .ok (.iconst 0, 1) := by decide +kernel
theorem dX8_carryOut_25 : decode cX8_carryOut 25 = .ok (.istore_n 2, 1) := by decide +kernel
theorem dX8_carryOut_26 : decode cX8_carryOut 26 = .ok (.iconst 0, 1) := by decide +kernel
theorem dX8_carryOut_27 : decode cX8_carryOut 27 = .ok (.istore_n 3, 1) := by decide +kernel
theorem dX8_carryOut_28 : decode cX8_carryOut 28 = .ok (.aload_n 0, 1) := by decide +kernel
theorem dX8_carryOut_29 : decode cX8_carryOut 29 = .ok (.iconst 1, 1) := by decide +kernel
theorem dX8_carryOut_30 : decode cX8_carryOut 30 = .ok (.putfield 220, 3) := by decide +kernel
theorem dX8_carryOut_33 : decode cX8_carryOut 33 = .ok (.iload_n 3, 1) := by decide +kernel
theorem dX8_carryOut_34 : decode cX8_carryOut 34 = .ok (.aload_n 0, 1) := by decide +kernel
theorem dX8_carryOut_35 : decode cX8_carryOut 35 = .ok (.getfield 211, 3) := by decide +kernel
theorem dX8_carryOut_38 : decode cX8_carryOut 38 = .ok (.if_icmp .ge 129, 3) := by decide +kernel
theorem dX8_carryOut_41 : decode cX8_carryOut 41 = .ok (.aload_n 0, 1) := by decide +kernel
theorem dX8_carryOut_42 : decode cX8_carryOut 42 = .ok (.getfield 220, 3) := by decide +kernel
theorem dX8_carryOut_45 : decode cX8_carryOut 45 = .ok (.ifCond .eq 122, 3) := by decide +kernel
theorem dX8_carryOut_48 : decode cX8_carryOut 48 = .ok (.aload_n 0, 1) := by decide +kernel
theorem dX8_carryOut_49 : decode cX8_carryOut 49 = .ok (.getfield 16, 3) := by decide +kernel
theorem dX8_carryOut_52 : decode cX8_carryOut 52 = .ok (.iload_n 3, 1) := by decide +kernel
theorem dX8_carryOut_53 : decode cX8_carryOut 53 = .ok (.iaload, 1) := by decide +kernel
theorem dX8_carryOut_54 : decode cX8_carryOut 54 = .ok (.bipush 97, 2) := by decide +kernel
theorem dX8_carryOut_56 : decode cX8_carryOut 56 = .ok (.isub, 1) := by decide +kernel
theorem dX8_carryOut_57 : decode cX8_carryOut 57 = .ok (.istore 4, 2) := by decide +kernel
theorem dX8_carryOut_59 : decode cX8_carryOut 59 = .ok (.aload_n 0, 1) := by decide +kernel
theorem dX8_carryOut_60 : decode cX8_carryOut 60 = .ok (.iconst 0, 1) := by decide +kernel
theorem dX8_carryOut_61 : decode cX8_carryOut 61 = .ok (.putfield 214, 3) := by decide +kernel
theorem dX8_carryOut_64 : decode cX8_carryOut 64 = .ok (.aload_n 0, 1) := by decide +kernel
theorem dX8_carryOut_65 : decode cX8_carryOut 65 = .ok (.iconst 0, 1) := by decide +kernel
theorem dX8_carryOut_66 : decode cX8_carryOut 66 = .ok (.putfield 224, 3) := by decide +kernel
theorem dX8_carryOut_69 : decode cX8_carryOut 69 = .ok (.aload_n 0, 1) := by decide +kernel
theorem dX8_carryOut_70 : decode cX8_carryOut 70 = .ok (.invokevirtual 227, 3) := by decide +kernel
theorem dX8_carryOut_73 : decode cX8_carryOut 73 = .ok (.iinc 3 2, 3) := by decide +kernel
theorem dX8_carryOut_76 : decode cX8_carryOut 76 = .ok (.aload_n 0, 1) := by decide +kernel
theorem dX8_carryOut_77 : decode cX8_carryOut 77 = .ok (.getfield 16, 3) := by decide +kernel
theorem dX8_carryOut_80 : decode cX8_carryOut 80 = .ok (.iload_n 3, 1) := by decide +kernel
theorem dX8_carryOut_81 : decode cX8_carryOut 81 = .ok (.iaload, 1) := by decide +kernel
theorem dX8_carryOut_82 : decode cX8_carryOut 82 = .ok (.bipush 59, 2) := by decide +kernel
theorem dX8_carryOut_84 : decode cX8_carryOut 84 = .ok (.if_icmp .eq 26, 3) := by decide +kernel
theorem dX8_carryOut_87 : decode cX8_carryOut 87 = .ok (.aload_n 0, 1) := by decide +kernel
theorem dX8_carryOut_88 : decode cX8_carryOut 88 = .ok (.getfield 220, 3) := by decide +kernel
theorem dX8_carryOut_91 : decode cX8_carryOut 91 = .ok (.ifCond .eq 19, 3) := by decide +kernel
theorem dX8_carryOut_94 : decode cX8_carryOut 94 = .ok (.aload_n 0, 1) := by decide +kernel
theorem dX8_carryOut_95 : decode cX8_carryOut 95 = .ok (.aload_n 0, 1) := by decide +kernel
theorem dX8_carryOut_96 : decode cX8_carryOut 96 = .ok (.getfield 16, 3) := by decide +kernel
theorem dX8_carryOut_99 : decode cX8_carryOut 99 = .ok (.iload_n 3, 1) := by decide +kernel
theorem dX8_carryOut_100 : decode cX8_carryOut 100 = .ok (.iaload, 1) := by decide +kernel
theorem dX8_carryOut_101 : decode cX8_carryOut 101 = .ok (.invokevirtual 241, 3) := by decide +kernel
theorem dX8_carryOut_104 : decode cX8_carryOut 104 = .ok (.iinc 3 1, 3) := by decide +kernel
theorem dX8_carryOut_107 : decode cX8_carryOut 107 = .ok (.goto (-31), 3) := by decide +kernel
theorem dX8_carryOut_110 : decode cX8_carryOut 110 = .ok (.aload_n 0, 1) := by decide +kernel
theorem dX8_carryOut_111 : decode cX8_carryOut 111 = .ok (.getfield 220, 3) := by decide +kernel
theorem dX8_carryOut_114 : decode cX8_carryOut 114 = .ok (.ifCond .eq 16, 3) := by decide +kernel
theorem dX8_carryOut_117 : decode cX8_carryOut 117 = .ok (.aload_n 0, 1) := by decide +kernel
theorem dX8_carryOut_118 : decode cX8_carryOut 118 = .ok (.aload_n 0, 1) := by decide +kernel
theorem dX8_carryOut_119 : decode cX8_carryOut 119 = .ok (.getfield 16, 3) := by decide +kernel
theorem dX8_carryOut_122 : decode cX8_carryOut 122 = .ok (.iload_n 3, 1) := by decide +kernel
theorem dX8_carryOut_123 : decode cX8_carryOut 123 = .ok (.iaload, 1) := by decide +kernel
theorem dX8_carryOut_124 : decode cX8_carryOut 124 = .ok (.invokevirtual 241, 3) := by decide +kernel
theorem dX8_carryOut_127 : decode cX8_carryOut 127 = .ok (.iinc 3 1, 3) := by decide +kernel
theorem dX8_carryOut_130 : decode cX8_carryOut 130 = .ok (.aload_n 0, 1) := by decide +kernel
theorem dX8_carryOut_131 : decode cX8_carryOut 131 = .ok (.getfield 220, 3) := by decide +kernel
theorem dX8_carryOut_134 : decode cX8_carryOut 134 = .ok (.ifCond .eq 30, 3) := by decide +kernel
theorem dX8_carryOut_137 : decode cX8_carryOut 137 = .ok (.aload_n 0, 1) := by decide +kernel
theorem dX8_carryOut_138 : decode cX8_carryOut 138 = .ok (.aload_n 0, 1) := by decide +kernel
theorem dX8_carryOut_139 : decode cX8_carryOut 139 = .ok (.getfield 76, 3) := by decide +kernel
theorem dX8_carryOut_142 : decode cX8_carryOut 142 = .ok (.iload 4, 2) := by decide +kernel
theorem dX8_carryOut_144 : decode cX8_carryOut 144 = .ok (.invokevirtual 139, 3) := by decide +kernel
theorem dX8_carryOut_147 : decode cX8_carryOut 147 = .ok (.aload_n 0, 1) := by decide +kernel
theorem dX8_carryOut_148 : decode cX8_carryOut 148 = .ok (.getfield 7, 3) := by decide +kernel
theorem dX8_carryOut_151 : decode cX8_carryOut 151 = .ok (.bipush 65, 2) := by decide +kernel
theorem dX8_carryOut_153 : decode cX8_carryOut 153 = .ok (.dup2, 1) := by decide +kernel
theorem dX8_carryOut_154 : decode cX8_carryOut 154 = .ok (.iaload, 1) := by decide +kernel
theorem dX8_carryOut_155 : decode cX8_carryOut 155 = .ok (.aload_n 0, 1) := by decide +kernel
theorem dX8_carryOut_156 : decode cX8_carryOut 156 = .ok (.getfield 224, 3) := by decide +kernel
theorem dX8_carryOut_159 : decode cX8_carryOut 159 = .ok (.iadd, 1) := by decide +kernel
theorem dX8_carryOut_160 : decode cX8_carryOut 160 = .ok (.iastore, 1) := by decide +kernel
theorem dX8_carryOut_161 : decode cX8_carryOut 161 = .ok (.iinc 2 1, 3) := by decide +kernel
theorem dX8_carryOut_164 : decode cX8_carryOut 164 = .ok (.goto (-131), 3) := by decide +kernel
theorem dX8_carryOut_167 : decode cX8_carryOut 167 = .ok (.iload_n 2, 1) := by decide +kernel
theorem dX8_carryOut_168 : decode cX8_carryOut 168 = .ok (.ireturn, 1) := by decide +kernel
theorem dX8_undo_0 : decode cX8_undo 0 = .ok (.aload_n 0, 1) := by decide +kernel
theorem dX8_undo_1 : decode cX8_undo 1 = .ok (.aload_n 0, 1) := by decide +kernel
theorem dX8_undo_2 : decode cX8_undo 2 = .ok (.getfield 90, 3) := by decide +kernel
theorem dX8_undo_5 : decode cX8_undo 5 = .ok (.ifCond .ne 7, 3) := by decide +kernel
theorem dX8_undo_8 : decode cX8_undo 8 = .ok (.iconst 1, 1) := by decide +kernel
theorem dX8_undo_9 : decode cX8_undo 9 = .ok (.goto 4, 3) := by decide +kernel
theorem dX8_undo_12 : decode cX8_undo 12 = .ok (.iconst 0, 1) := by decide +kernel
theorem dX8_undo_13 : decode cX8_undo 13 = .ok (.invokevirtual 125, 3) := by decide +kernel
theorem dX8_undo_16 : decode cX8_undo 16 = .ok (.ifCond .eq 5, 3) := by decide +kernel
theorem dX8_undo_19 : decode cX8_undo 19 = .ok (.iconst 0, 1) := by decide +kernel
theorem dX8_undo_20 : decode cX8_undo 20 = .ok (.ireturn, 1) := by decide +kernel
theorem dX8_undo_21 : decode cX8_undo 21 = .ok (.aload_n 0, 1) := by decide +kernel
theorem dX8_undo_22 : decode cX8_undo 22 = .ok (.dup, 1) := by decide +kernel
theorem dX8_undo_23 : decode cX8_undo 23 = .ok (.getfield 90, 3) := by decide +kernel
theorem dX8_undo_26 : decode cX8_undo 26 = .ok (.iconst 1, 1) := by decide +kernel
theorem dX8_undo_27 : decode cX8_undo 27 = .ok (.isub, 1) := by decide +kernel
theorem dX8_undo_28 : decode cX8_undo 28 = .ok (.putfield 90, 3) := by decide +kernel
theorem dX8_undo_31 : decode cX8_undo 31 = .ok (.iconst 0, 1) := by decide +kernel
theorem dX8_undo_32 : decode cX8_undo 32 = .ok (.istore_n 1, 1) := by decide +kernel
theorem dX8_undo_33 : decode cX8_undo 33 = .ok (.iload_n 1, 1) := by decide +kernel
theorem dX8_undo_34 : decode cX8_undo 34 = .ok (.bipush 67, 2) := by decide +kernel
theorem dX8_undo_36 : decode cX8_undo 36 = .ok (.if_icmp .ge 29, 3) := by decide +kernel
theorem dX8_undo_39 : decode cX8_undo 39 = .ok (.aload_n 0, 1) := by decide +kernel
theorem dX8_undo_40 : decode cX8_undo 40 = .ok (.getfield 7, 3) := by decide +kernel
theorem dX8_undo_43 : decode cX8_undo 43 = .ok (.iload_n 1, 1) := by decide +kernel
theorem dX8_undo_44 : decode cX8_undo 44 = .ok (.aload_n 0, 1) := by decide +kernel
theorem dX8_undo_45 : decode cX8_undo 45 = .ok (.getfield 13, 3) := by decide +kernel
theorem dX8_undo_48 : decode cX8_undo 48 = .ok (.bipush 67, 2) := by decide +kernel
theorem dX8_undo_50 : decode cX8_undo 50 = .ok (.aload_n 0, 1) := by decide +kernel
theorem dX8_undo_51 : decode cX8_undo 51 = .ok (.getfield 90, 3) := by decide +kernel
theorem dX8_undo_54 : decode cX8_undo 54 = .ok (.imul, 1) := by decide +kernel
theorem dX8_undo_55 : decode cX8_undo 55 = .ok (.iload_n 1, 1) := by decide +kernel
theorem dX8_undo_56 : decode cX8_undo 56 = .ok (.iadd, 1) := by decide +kernel
theorem dX8_undo_57 : decode cX8_undo 57 = .ok (.iaload, 1) := by decide +kernel
theorem dX8_undo_58 : decode cX8_undo 58 = .ok (.iastore, 1) := by decide +kernel
theorem dX8_undo_59 : decode cX8_undo 59 = .ok (.iinc 1 1, 3) := by decide +kernel
theorem dX8_undo_62 : decode cX8_undo 62 = .ok (.goto (-29), 3) := by decide +kernel
theorem dX8_undo_65 : decode cX8_undo 65 = .ok (.aload_n 0, 1) := by decide +kernel
theorem dX8_undo_66 : decode cX8_undo 66 = .ok (.getfield 90, 3) := by decide +kernel
theorem dX8_undo_69 : decode cX8_undo 69 = .ok (.ireturn, 1) := by decide +kernel
theorem dX8_digest_0 : decode cX8_digest 0 = .ok (.aload_n 0, 1) := by decide +kernel
theorem dX8_digest_1 : decode cX8_digest 1 = .ok (.iconst 0, 1) := by decide +kernel
theorem dX8_digest_2 : decode cX8_digest 2 = .ok (.putfield 83, 3) := by decide +kernel
theorem dX8_digest_5 : decode cX8_digest 5 = .ok (.ldc2_w 244, 3) := by decide +kernel
theorem dX8_digest_8 : decode cX8_digest 8 = .ok (.aload_n 0, 1) := by decide +kernel
theorem dX8_digest_9 : decode cX8_digest 9 = .ok (.getfield 211, 3) := by decide +kernel
theorem dX8_digest_12 : decode cX8_digest 12 = .ok (.i2l, 1) := by decide +kernel
theorem dX8_digest_13 : decode cX8_digest 13 = .ok (.ladd, 1) := by decide +kernel
theorem dX8_digest_14 : decode cX8_digest 14 = .ok (.lstore_n 1, 1) := by decide +kernel
theorem dX8_digest_15 : decode cX8_digest 15 = .ok (.iconst 0, 1) := by decide +kernel
theorem dX8_digest_16 : decode cX8_digest 16 = .ok (.istore_n 3, 1) := by decide +kernel
theorem dX8_digest_17 : decode cX8_digest 17 = .ok (.iload_n 3, 1) := by decide +kernel
theorem dX8_digest_18 : decode cX8_digest 18 = .ok (.bipush 6, 2) := by decide +kernel
theorem dX8_digest_20 : decode cX8_digest 20 = .ok (.if_icmp .ge 22, 3) := by decide +kernel
theorem dX8_digest_23 : decode cX8_digest 23 = .ok (.ldc2_w 246, 3) := by decide +kernel
theorem dX8_digest_26 : decode cX8_digest 26 = .ok (.lload_n 1, 1) := by decide +kernel
theorem dX8_digest_27 : decode cX8_digest 27 = .ok (.lmul, 1) := by decide +kernel
theorem dX8_digest_28 : decode cX8_digest 28 = .ok (.aload_n 0, 1) := by decide +kernel
theorem dX8_digest_29 : decode cX8_digest 29 = .ok (.iload_n 3, 1) := by decide +kernel
theorem dX8_digest_30 : decode cX8_digest 30 = .ok (.invokevirtual 198, 3) := by decide +kernel
theorem dX8_digest_33 : decode cX8_digest 33 = .ok (.i2l, 1) := by decide +kernel
theorem dX8_digest_34 : decode cX8_digest 34 = .ok (.ladd, 1) := by decide +kernel
theorem dX8_digest_35 : decode cX8_digest 35 = .ok (.lstore_n 1, 1) := by decide +kernel
theorem dX8_digest_36 : decode cX8_digest 36 = .ok (.iinc 3 1, 3) := by decide +kernel
theorem dX8_digest_39 : decode cX8_digest 39 = .ok (.goto (-22), 3) := by decide +kernel
theorem dX8_digest_42 : decode cX8_digest 42 = .ok (.iconst 0, 1) := by decide +kernel
theorem dX8_digest_43 : decode cX8_digest 43 = .ok (.istore_n 3, 1) := by decide +kernel
theorem dX8_digest_44 : decode cX8_digest 44 = .ok (.iload_n 3, 1) := by decide +kernel
theorem dX8_digest_45 : decode cX8_digest 45 = .ok (.bipush 8, 2) := by decide +kernel
theorem dX8_digest_47 : decode cX8_digest 47 = .ok (.if_icmp .ge 71, 3) := by decide +kernel
theorem dX8_digest_50 : decode cX8_digest 50 = .ok (.iconst 0, 1) := by decide +kernel
theorem dX8_digest_51 : decode cX8_digest 51 = .ok (.istore 4, 2) := by decide +kernel
theorem dX8_digest_53 : decode cX8_digest 53 = .ok (.iload 4, 2) := by decide +kernel
theorem dX8_digest_55 : decode cX8_digest 55 = .ok (.bipush 8, 2) := by decide +kernel
theorem dX8_digest_57 : decode cX8_digest 57 = .ok (.if_icmp .ge 29, 3) := by decide +kernel
theorem dX8_digest_60 : decode cX8_digest 60 = .ok (.ldc2_w 246, 3) := by decide +kernel
theorem dX8_digest_63 : decode cX8_digest 63 = .ok (.lload_n 1, 1) := by decide +kernel
theorem dX8_digest_64 : decode cX8_digest 64 = .ok (.lmul, 1) := by decide +kernel
theorem dX8_digest_65 : decode cX8_digest 65 = .ok (.aload_n 0, 1) := by decide +kernel
theorem dX8_digest_66 : decode cX8_digest 66 = .ok (.getfield 7, 3) := by decide +kernel
theorem dX8_digest_69 : decode cX8_digest 69 = .ok (.bipush 8, 2) := by decide +kernel
theorem dX8_digest_71 : decode cX8_digest 71 = .ok (.iload_n 3, 1) := by decide +kernel
theorem dX8_digest_72 : decode cX8_digest 72 = .ok (.imul, 1) := by decide +kernel
theorem dX8_digest_73 : decode cX8_digest 73 = .ok (.iload 4, 2) := by decide +kernel
theorem dX8_digest_75 : decode cX8_digest 75 = .ok (.iadd, 1) := by decide +kernel
theorem dX8_digest_76 : decode cX8_digest 76 = .ok (.iaload, 1) := by decide +kernel
theorem dX8_digest_77 : decode cX8_digest 77 = .ok (.i2l, 1) := by decide +kernel
theorem dX8_digest_78 : decode cX8_digest 78 = .ok (.ladd, 1) := by decide +kernel
theorem dX8_digest_79 : decode cX8_digest 79 = .ok (.lstore_n 1, 1) := by decide +kernel
theorem dX8_digest_80 : decode cX8_digest 80 = .ok (.iinc 4 1, 3) := by decide +kernel
theorem dX8_digest_83 : decode cX8_digest 83 = .ok (.goto (-30), 3) := by decide +kernel
theorem dX8_digest_86 : decode cX8_digest 86 = .ok (.ldc2_w 246, 3) := by decide +kernel
theorem dX8_digest_89 : decode cX8_digest 89 = .ok (.lload_n 1, 1) := by decide +kernel
theorem dX8_digest_90 : decode cX8_digest 90 = .ok (.lmul, 1) := by decide +kernel
theorem dX8_digest_91 : decode cX8_digest 91 = .ok (.aload_n 0, 1) := by decide +kernel
theorem dX8_digest_92 : decode cX8_digest 92 = .ok (.iload_n 3, 1) := by decide +kernel
theorem dX8_digest_93 : decode cX8_digest 93 = .ok (.invokevirtual 191, 3) := by decide +kernel
theorem dX8_digest_96 : decode cX8_digest 96 = .ok (.i2l, 1) := by decide +kernel
theorem dX8_digest_97 : decode cX8_digest 97 = .ok (.ladd, 1) := by decide +kernel
theorem dX8_digest_98 : decode cX8_digest 98 = .ok (.lstore_n 1, 1) := by decide +kernel
theorem dX8_digest_99 : decode cX8_digest 99 = .ok (.ldc2_w 246, 3) := by decide +kernel
theorem dX8_digest_102 : decode cX8_digest 102 = .ok (.lload_n 1, 1) := by decide +kernel
theorem dX8_digest_103 : decode cX8_digest 103 = .ok (.lmul, 1) := by decide +kernel
theorem dX8_digest_104 : decode cX8_digest 104 = .ok (.aload_n 0, 1) := by decide +kernel
theorem dX8_digest_105 : decode cX8_digest 105 = .ok (.iload_n 3, 1) := by decide +kernel
theorem dX8_digest_106 : decode cX8_digest 106 = .ok (.invokevirtual 195, 3) := by decide +kernel
theorem dX8_digest_109 : decode cX8_digest 109 = .ok (.i2l, 1) := by decide +kernel
theorem dX8_digest_110 : decode cX8_digest 110 = .ok (.ladd, 1) := by decide +kernel
theorem dX8_digest_111 : decode cX8_digest 111 = .ok (.lstore_n 1, 1) := by decide +kernel
theorem dX8_digest_112 : decode cX8_digest 112 = .ok (.iinc 3 1, 3) := by decide +kernel
theorem dX8_digest_115 : decode cX8_digest 115 = .ok (.goto (-71), 3) := by decide +kernel
theorem dX8_digest_118 : decode cX8_digest 118 = .ok (.ldc2_w 246, 3) := by decide +kernel
theorem dX8_digest_121 : decode cX8_digest 121 = .ok (.lload_n 1, 1) := by decide +kernel
theorem dX8_digest_122 : decode cX8_digest 122 = .ok (.lmul, 1) := by decide +kernel
theorem dX8_digest_123 : decode cX8_digest 123 = .ok (.aload_n 0, 1) := by decide +kernel
theorem dX8_digest_124 : decode cX8_digest 124 = .ok (.getfield 90, 3) := by decide +kernel
theorem dX8_digest_127 : decode cX8_digest 127 = .ok (.i2l, 1) := by decide +kernel
theorem dX8_digest_128 : decode cX8_digest 128 = .ok (.ladd, 1) := by decide +kernel
theorem dX8_digest_129 : decode cX8_digest 129 = .ok (.lreturn, 1) := by decide +kernel
