theorem dL_acts_93 : decode cL_acts 93 = .ok (.isub, 1) := by decide +kernel
theorem dL_acts_94 : decode cL_acts 94 = .ok (.goto 14, 3) := by decide +kernel
theorem dL_acts_97 : decode cL_acts 97 = .ok (.iload 5, 2) := by decide +kernel
theorem dL_acts_99 : decode cL_acts 99 = .ok (.bipush 64, 2) := by decide +kernel
theorem dL_acts_101 : decode cL_acts 101 = .ok (.idiv, 1) := by decide +kernel
theorem dL_acts_102 : decode cL_acts 102 = .ok (.bipush 13, 2) := by decide +kernel
theorem dL_acts_104 : decode cL_acts 104 = .ok (.irem, 1) := by decide +kernel
theorem dL_acts_105 : decode cL_acts 105 = .ok (.bipush 6, 2) := by decide +kernel
theorem dL_acts_107 : decode cL_acts 107 = .ok (.isub, 1) := by decide +kernel
theorem dL_acts_108 : decode cL_acts 108 = .ok (.iastore, 1) := by decide +kernel
theorem dL_acts_109 : decode cL_acts 109 = .ok (.aload_n 0, 1) := by decide +kernel
theorem dL_acts_110 : decode cL_acts 110 = .ok (.iload 7, 2) := by decide +kernel
theorem dL_acts_112 : decode cL_acts 112 = .ok (.iload 8, 2) := by decide +kernel
theorem dL_acts_114 : decode cL_acts 114 = .ok (.aload_n 2, 1) := by decide +kernel
theorem dL_acts_115 : decode cL_acts 115 = .ok (.bipush 8, 2) := by decide +kernel
theorem dL_acts_117 : decode cL_acts 117 = .ok (.iload 7, 2) := by decide +kernel
theorem dL_acts_119 : decode cL_acts 119 = .ok (.imul, 1) := by decide +kernel
theorem dL_acts_120 : decode cL_acts 120 = .ok (.iload 8, 2) := by decide +kernel
theorem dL_acts_122 : decode cL_acts 122 = .ok (.iadd, 1) := by decide +kernel
theorem dL_acts_123 : decode cL_acts 123 = .ok (.iaload, 1) := by decide +kernel
theorem dL_acts_124 : decode cL_acts 124 = .ok (.invokestatic 108, 3) := by decide +kernel
theorem dL_acts_127 : decode cL_acts 127 = .ok (.iload 10, 2) := by decide +kernel
theorem dL_acts_129 : decode cL_acts 129 = .ok (.if_icmp .ne 7, 3) := by decide +kernel
theorem dL_acts_132 : decode cL_acts 132 = .ok (.iconst 1, 1) := by decide +kernel
theorem dL_acts_133 : decode cL_acts 133 = .ok (.goto 4, 3) := by decide +kernel
theorem dL_acts_136 : decode cL_acts 136 = .ok (.iconst 0, 1) := by decide +kernel
theorem dL_acts_137 : decode cL_acts 137 = .ok (.ireturn, 1) := by decide +kernel
theorem dL_acts_138 : decode cL_acts 138 = .ok (.iload 6, 2) := by decide +kernel
theorem dL_acts_140 : decode cL_acts 140 = .ok (.bipush 6, 2) := by decide +kernel
theorem dL_acts_142 : decode cL_acts 142 = .ok (.if_icmp .ge 135, 3) := by decide +kernel
theorem dL_acts_145 : decode cL_acts 145 = .ok (.iload 8, 2) := by decide +kernel
theorem dL_acts_147 : decode cL_acts 147 = .ok (.iconst 2, 1) := by decide +kernel
theorem dL_acts_148 : decode cL_acts 148 = .ok (.irem, 1) := by decide +kernel
theorem dL_acts_149 : decode cL_acts 149 = .ok (.iconst 1, 1) := by decide +kernel
theorem dL_acts_150 : decode cL_acts 150 = .ok (.if_icmp .ne 7, 3) := by decide +kernel
theorem dL_acts_153 : decode cL_acts 153 = .ok (.iconst 1, 1) := by decide +kernel
theorem dL_acts_154 : decode cL_acts 154 = .ok (.goto 4, 3) := by decide +kernel
theorem dL_acts_157 : decode cL_acts 157 = .ok (.iconst 0, 1) := by decide +kernel
theorem dL_acts_158 : decode cL_acts 158 = .ok (.istore 10, 2) := by decide +kernel
theorem dL_acts_160 : decode cL_acts 160 = .ok (.iconst 0, 1) := by decide +kernel
theorem dL_acts_161 : decode cL_acts 161 = .ok (.istore 11, 2) := by decide +kernel
theorem dL_acts_163 : decode cL_acts 163 = .ok (.iload 11, 2) := by decide +kernel
theorem dL_acts_165 : decode cL_acts 165 = .ok (.iconst 4, 1) := by decide +kernel
theorem dL_acts_166 : decode cL_acts 166 = .ok (.if_icmp .ge 44, 3) := by decide +kernel
theorem dL_acts_169 : decode cL_acts 169 = .ok (.aload_n 2, 1) := by decide +kernel
theorem dL_acts_170 : decode cL_acts 170 = .ok (.bipush 8, 2) := by decide +kernel
theorem dL_acts_172 : decode cL_acts 172 = .ok (.iload 7, 2) := by decide +kernel
theorem dL_acts_174 : decode cL_acts 174 = .ok (.imul, 1) := by decide +kernel
theorem dL_acts_175 : decode cL_acts 175 = .ok (.iload 10, 2) := by decide +kernel
theorem dL_acts_177 : decode cL_acts 177 = .ok (.ifCond .eq 7, 3) := by decide +kernel
theorem dL_acts_180 : decode cL_acts 180 = .ok (.iconst 4, 1) := by decide +kernel
theorem dL_acts_181 : decode cL_acts 181 = .ok (.goto 4, 3) := by decide +kernel
theorem dL_acts_184 : decode cL_acts 184 = .ok (.iconst 0, 1) := by decide +kernel
theorem dL_acts_185 : decode cL_acts 185 = .ok (.iadd, 1) := by decide +kernel
theorem dL_acts_186 : decode cL_acts 186 = .ok (.iload 11, 2) := by decide +kernel
theorem dL_acts_188 : decode cL_acts 188 = .ok (.iadd, 1) := by decide +kernel
theorem dL_acts_189 : decode cL_acts 189 = .ok (.iload 5, 2) := by decide +kernel
theorem dL_acts_191 : decode cL_acts 191 = .ok (.iload 11, 2) := by decide +kernel
theorem dL_acts_193 : decode cL_acts 193 = .ok (.bipush 6, 2) := by decide +kernel
theorem dL_acts_195 : decode cL_acts 195 = .ok (.iadd, 1) := by decide +kernel
theorem dL_acts_196 : decode cL_acts 196 = .ok (.ishr, 1) := by decide +kernel
theorem dL_acts_197 : decode cL_acts 197 = .ok (.bipush 15, 2) := by decide +kernel
theorem dL_acts_199 : decode cL_acts 199 = .ok (.iand, 1) := by decide +kernel
theorem dL_acts_200 : decode cL_acts 200 = .ok (.bipush 7, 2) := by decide +kernel
theorem dL_acts_202 : decode cL_acts 202 = .ok (.isub, 1) := by decide +kernel
theorem dL_acts_203 : decode cL_acts 203 = .ok (.iastore, 1) := by decide +kernel
theorem dL_acts_204 : decode cL_acts 204 = .ok (.iinc 11 1, 3) := by decide +kernel
theorem dL_acts_207 : decode cL_acts 207 = .ok (.goto (-44), 3) := by decide +kernel
theorem dL_acts_210 : decode cL_acts 210 = .ok (.bipush 8, 2) := by decide +kernel
theorem dL_acts_212 : decode cL_acts 212 = .ok (.iload 7, 2) := by decide +kernel
theorem dL_acts_214 : decode cL_acts 214 = .ok (.imul, 1) := by decide +kernel
theorem dL_acts_215 : decode cL_acts 215 = .ok (.iload 10, 2) := by decide +kernel
theorem dL_acts_217 : decode cL_acts 217 = .ok (.ifCond .eq 7, 3) := by decide +kernel
theorem dL_acts_220 : decode cL_acts 220 = .ok (.iconst 4, 1) := by decide +kernel
theorem dL_acts_221 : decode cL_acts 221 = .ok (.goto 4, 3) := by decide +kernel
theorem dL_acts_224 : decode cL_acts 224 = .ok (.iconst 0, 1) := by decide +kernel
theorem dL_acts_225 : decode cL_acts 225 = .ok (.iadd, 1) := by decide +kernel
theorem dL_acts_226 : decode cL_acts 226 = .ok (.istore 11, 2) := by decide +kernel
theorem dL_acts_228 : decode cL_acts 228 = .ok (.aload_n 0, 1) := by decide +kernel
theorem dL_acts_229 : decode cL_acts 229 = .ok (.iload 7, 2) := by decide +kernel
theorem dL_acts_231 : decode cL_acts 231 = .ok (.iload 10, 2) := by decide +kernel
theorem dL_acts_233 : decode cL_acts 233 = .ok (.aload_n 2, 1) := by decide +kernel
theorem dL_acts_234 : decode cL_acts 234 = .ok (.iload 11, 2) := by decide +kernel
theorem dL_acts_236 : decode cL_acts 236 = .ok (.iaload, 1) := by decide +kernel
theorem dL_acts_237 : decode cL_acts 237 = .ok (.aload_n 2, 1) := by decide +kernel
theorem dL_acts_238 : decode cL_acts 238 = .ok (.iload 11, 2) := by decide +kernel
theorem dL_acts_240 : decode cL_acts 240 = .ok (.iconst 1, 1) := by decide +kernel
theorem dL_acts_241 : decode cL_acts 241 = .ok (.iadd, 1) := by decide +kernel
theorem dL_acts_242 : decode cL_acts 242 = .ok (.iaload, 1) := by decide +kernel
theorem dL_acts_243 : decode cL_acts 243 = .ok (.aload_n 2, 1) := by decide +kernel
theorem dL_acts_244 : decode cL_acts 244 = .ok (.iload 11, 2) := by decide +kernel
theorem dL_acts_246 : decode cL_acts 246 = .ok (.iconst 2, 1) := by decide +kernel
theorem dL_acts_247 : decode cL_acts 247 = .ok (.iadd, 1) := by decide +kernel
theorem dL_acts_248 : decode cL_acts 248 = .ok (.iaload, 1) := by decide +kernel
theorem dL_acts_249 : decode cL_acts 249 = .ok (.aload_n 2, 1) := by decide +kernel
theorem dL_acts_250 : decode cL_acts 250 = .ok (.iload 11, 2) := by decide +kernel
theorem dL_acts_252 : decode cL_acts 252 = .ok (.iconst 3, 1) := by decide +kernel
theorem dL_acts_253 : decode cL_acts 253 = .ok (.iadd, 1) := by decide +kernel
theorem dL_acts_254 : decode cL_acts 254 = .ok (.iaload, 1) := by decide +kernel
theorem dL_acts_255 : decode cL_acts 255 = .ok (.invokestatic 112, 3) := by decide +kernel
theorem dL_acts_258 : decode cL_acts 258 = .ok (.aload_n 2, 1) := by decide +kernel
theorem dL_acts_259 : decode cL_acts 259 = .ok (.iload 7, 2) := by decide +kernel
theorem dL_acts_261 : decode cL_acts 261 = .ok (.invokestatic 116, 3) := by decide +kernel
theorem dL_acts_264 : decode cL_acts 264 = .ok (.invokestatic 43, 3) := by decide +kernel
theorem dL_acts_267 : decode cL_acts 267 = .ok (.lcmp, 1) := by decide +kernel
theorem dL_acts_268 : decode cL_acts 268 = .ok (.ifCond .ne 7, 3) := by decide +kernel
theorem dL_acts_271 : decode cL_acts 271 = .ok (.iconst 1, 1) := by decide +kernel
theorem dL_acts_272 : decode cL_acts 272 = .ok (.goto 4, 3) := by decide +kernel
theorem dL_acts_275 : decode cL_acts 275 = .ok (.iconst 0, 1) := by decide +kernel
theorem dL_acts_276 : decode cL_acts 276 = .ok (.ireturn, 1) := by decide +kernel
theorem dL_acts_277 : decode cL_acts 277 = .ok (.iload 6, 2) := by decide +kernel
theorem dL_acts_279 : decode cL_acts 279 = .ok (.bipush 6, 2) := by decide +kernel
theorem dL_acts_281 : decode cL_acts 281 = .ok (.if_icmp .ne 30, 3) := by decide +kernel
theorem dL_acts_284 : decode cL_acts 284 = .ok (.aload_n 1, 1) := by decide +kernel
theorem dL_acts_285 : decode cL_acts 285 = .ok (.iconst 0, 1) := by decide +kernel
theorem dL_acts_286 : decode cL_acts 286 = .ok (.iaload, 1) := by decide +kernel
theorem dL_acts_287 : decode cL_acts 287 = .ok (.istore 10, 2) := by decide +kernel
theorem dL_acts_289 : decode cL_acts 289 = .ok (.aload_n 1, 1) := by decide +kernel
theorem dL_acts_290 : decode cL_acts 290 = .ok (.iconst 0, 1) := by decide +kernel
theorem dL_acts_291 : decode cL_acts 291 = .ok (.iload 7, 2) := by decide +kernel
