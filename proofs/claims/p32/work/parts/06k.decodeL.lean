theorem dL_law_198 : decode cL_law 198 = .ok (.invokestatic 200, 3) := by decide +kernel
theorem dL_law_201 : decode cL_law 201 = .ok (.ldc 55, 2) := by decide +kernel
theorem dL_law_203 : decode cL_law 203 = .ok (.if_icmp .ne 56, 3) := by decide +kernel
theorem dL_law_206 : decode cL_law 206 = .ok (.aload_n 1, 1) := by decide +kernel
theorem dL_law_207 : decode cL_law 207 = .ok (.iconst (-1), 1) := by decide +kernel
theorem dL_law_208 : decode cL_law 208 = .ok (.invokestatic 198, 3) := by decide +kernel
theorem dL_law_211 : decode cL_law 211 = .ok (.ldc 55, 2) := by decide +kernel
theorem dL_law_213 : decode cL_law 213 = .ok (.if_icmp .ne 46, 3) := by decide +kernel
theorem dL_law_216 : decode cL_law 216 = .ok (.aload_n 1, 1) := by decide +kernel
theorem dL_law_217 : decode cL_law 217 = .ok (.iconst 0, 1) := by decide +kernel
theorem dL_law_218 : decode cL_law 218 = .ok (.bipush 8, 2) := by decide +kernel
theorem dL_law_220 : decode cL_law 220 = .ok (.invokestatic 191, 3) := by decide +kernel
theorem dL_law_223 : decode cL_law 223 = .ok (.ldc 55, 2) := by decide +kernel
theorem dL_law_225 : decode cL_law 225 = .ok (.if_icmp .ne 34, 3) := by decide +kernel
theorem dL_law_228 : decode cL_law 228 = .ok (.aload_n 1, 1) := by decide +kernel
theorem dL_law_229 : decode cL_law 229 = .ok (.iconst 0, 1) := by decide +kernel
theorem dL_law_230 : decode cL_law 230 = .ok (.iconst 0, 1) := by decide +kernel
theorem dL_law_231 : decode cL_law 231 = .ok (.bipush 8, 2) := by decide +kernel
theorem dL_law_233 : decode cL_law 233 = .ok (.invokestatic 202, 3) := by decide +kernel
theorem dL_law_236 : decode cL_law 236 = .ok (.ldc 55, 2) := by decide +kernel
theorem dL_law_238 : decode cL_law 238 = .ok (.if_icmp .ne 21, 3) := by decide +kernel
theorem dL_law_241 : decode cL_law 241 = .ok (.aload_n 1, 1) := by decide +kernel
theorem dL_law_242 : decode cL_law 242 = .ok (.bipush 8, 2) := by decide +kernel
theorem dL_law_244 : decode cL_law 244 = .ok (.iconst 0, 1) := by decide +kernel
theorem dL_law_245 : decode cL_law 245 = .ok (.invokestatic 205, 3) := by decide +kernel
theorem dL_law_248 : decode cL_law 248 = .ok (.ldc2_w 63, 3) := by decide +kernel
theorem dL_law_251 : decode cL_law 251 = .ok (.lcmp, 1) := by decide +kernel
theorem dL_law_252 : decode cL_law 252 = .ok (.ifCond .ne 7, 3) := by decide +kernel
theorem dL_law_255 : decode cL_law 255 = .ok (.iconst 1, 1) := by decide +kernel
theorem dL_law_256 : decode cL_law 256 = .ok (.goto 4, 3) := by decide +kernel
theorem dL_law_259 : decode cL_law 259 = .ok (.iconst 0, 1) := by decide +kernel
theorem dL_law_260 : decode cL_law 260 = .ok (.ireturn, 1) := by decide +kernel
