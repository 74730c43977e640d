theorem dL_quotient_0 : decode cL_quotient 0 = .ok (.bipush 8, 2) := by decide +kernel
theorem dL_quotient_2 : decode cL_quotient 2 = .ok (.newarray .long, 2) := by decide +kernel
theorem dL_quotient_4 : decode cL_quotient 4 = .ok (.aload_n 2, 1) := by decide +kernel
theorem dL_quotient_5 : decode cL_quotient 5 = .ok (.invokestatic 31, 3) := by decide +kernel
theorem dL_quotient_8 : decode cL_quotient 8 = .ok (.astore 4, 2) := by decide +kernel
theorem dL_quotient_10 : decode cL_quotient 10 = .ok (.aload 4, 2) := by decide +kernel
theorem dL_quotient_12 : decode cL_quotient 12 = .ok (.iconst 0, 1) := by decide +kernel
theorem dL_quotient_13 : decode cL_quotient 13 = .ok (.aload_n 2, 1) := by decide +kernel
theorem dL_quotient_14 : decode cL_quotient 14 = .ok (.iconst 0, 1) := by decide +kernel
theorem dL_quotient_15 : decode cL_quotient 15 = .ok (.laload, 1) := by decide +kernel
theorem dL_quotient_16 : decode cL_quotient 16 = .ok (.lastore, 1) := by decide +kernel
theorem dL_quotient_17 : decode cL_quotient 17 = .ok (.aload_n 0, 1) := by decide +kernel
theorem dL_quotient_18 : decode cL_quotient 18 = .ok (.aload_n 1, 1) := by decide +kernel
theorem dL_quotient_19 : decode cL_quotient 19 = .ok (.aload 4, 2) := by decide +kernel
theorem dL_quotient_21 : decode cL_quotient 21 = .ok (.invokestatic 39, 3) := by decide +kernel
theorem dL_quotient_24 : decode cL_quotient 24 = .ok (.astore 5, 2) := by decide +kernel
theorem dL_quotient_26 : decode cL_quotient 26 = .ok (.aload_n 2, 1) := by decide +kernel
theorem dL_quotient_27 : decode cL_quotient 27 = .ok (.invokestatic 43, 3) := by decide +kernel
theorem dL_quotient_30 : decode cL_quotient 30 = .ok (.lstore 6, 2) := by decide +kernel
theorem dL_quotient_32 : decode cL_quotient 32 = .ok (.bipush 8, 2) := by decide +kernel
theorem dL_quotient_34 : decode cL_quotient 34 = .ok (.newarray .long, 2) := by decide +kernel
theorem dL_quotient_36 : decode cL_quotient 36 = .ok (.astore 8, 2) := by decide +kernel
theorem dL_quotient_38 : decode cL_quotient 38 = .ok (.ldc2_w 9, 3) := by decide +kernel
theorem dL_quotient_41 : decode cL_quotient 41 = .ok (.lstore 9, 2) := by decide +kernel
theorem dL_quotient_43 : decode cL_quotient 43 = .ok (.iconst 0, 1) := by decide +kernel
theorem dL_quotient_44 : decode cL_quotient 44 = .ok (.istore 11, 2) := by decide +kernel
theorem dL_quotient_46 : decode cL_quotient 46 = .ok (.iload 11, 2) := by decide +kernel
theorem dL_quotient_48 : decode cL_quotient 48 = .ok (.sipush 256, 3) := by decide +kernel
theorem dL_quotient_51 : decode cL_quotient 51 = .ok (.if_icmp .ge 299, 3) := by decide +kernel
theorem dL_quotient_54 : decode cL_quotient 54 = .ok (.iload 11, 2) := by decide +kernel
theorem dL_quotient_56 : decode cL_quotient 56 = .ok (.iload_n 3, 1) := by decide +kernel
theorem dL_quotient_57 : decode cL_quotient 57 = .ok (.invokestatic 15, 3) := by decide +kernel
theorem dL_quotient_60 : decode cL_quotient 60 = .ok (.ifCond .eq 284, 3) := by decide +kernel
theorem dL_quotient_63 : decode cL_quotient 63 = .ok (.bipush 8, 2) := by decide +kernel
theorem dL_quotient_65 : decode cL_quotient 65 = .ok (.newarray .long, 2) := by decide +kernel
theorem dL_quotient_67 : decode cL_quotient 67 = .ok (.astore 12, 2) := by decide +kernel
theorem dL_quotient_69 : decode cL_quotient 69 = .ok (.lconst 0, 1) := by decide +kernel
theorem dL_quotient_70 : decode cL_quotient 70 = .ok (.lstore 13, 2) := by decide +kernel
theorem dL_quotient_72 : decode cL_quotient 72 = .ok (.iconst 0, 1) := by decide +kernel
theorem dL_quotient_73 : decode cL_quotient 73 = .ok (.istore 15, 2) := by decide +kernel
theorem dL_quotient_75 : decode cL_quotient 75 = .ok (.iload 15, 2) := by decide +kernel
theorem dL_quotient_77 : decode cL_quotient 77 = .ok (.bipush 8, 2) := by decide +kernel
theorem dL_quotient_79 : decode cL_quotient 79 = .ok (.if_icmp .ge 144, 3) := by decide +kernel
theorem dL_quotient_82 : decode cL_quotient 82 = .ok (.ldc2_w 23, 3) := by decide +kernel
theorem dL_quotient_85 : decode cL_quotient 85 = .ok (.aload 5, 2) := by decide +kernel
theorem dL_quotient_87 : decode cL_quotient 87 = .ok (.iload 15, 2) := by decide +kernel
theorem dL_quotient_89 : decode cL_quotient 89 = .ok (.laload, 1) := by decide +kernel
theorem dL_quotient_90 : decode cL_quotient 90 = .ok (.lmul, 1) := by decide +kernel
theorem dL_quotient_91 : decode cL_quotient 91 = .ok (.lload 6, 2) := by decide +kernel
theorem dL_quotient_93 : decode cL_quotient 93 = .ok (.ldiv, 1) := by decide +kernel
theorem dL_quotient_94 : decode cL_quotient 94 = .ok (.ldc2_w 25, 3) := by decide +kernel
theorem dL_quotient_97 : decode cL_quotient 97 = .ok (.lsub, 1) := by decide +kernel
theorem dL_quotient_98 : decode cL_quotient 98 = .ok (.lstore 16, 2) := by decide +kernel
theorem dL_quotient_100 : decode cL_quotient 100 = .ok (.lload 16, 2) := by decide +kernel
theorem dL_quotient_102 : decode cL_quotient 102 = .ok (.lload 16, 2) := by decide +kernel
theorem dL_quotient_104 : decode cL_quotient 104 = .ok (.lconst 1, 1) := by decide +kernel
theorem dL_quotient_105 : decode cL_quotient 105 = .ok (.land, 1) := by decide +kernel
theorem dL_quotient_106 : decode cL_quotient 106 = .ok (.iload 11, 2) := by decide +kernel
theorem dL_quotient_108 : decode cL_quotient 108 = .ok (.iload 15, 2) := by decide +kernel
theorem dL_quotient_110 : decode cL_quotient 110 = .ok (.ishr, 1) := by decide +kernel
theorem dL_quotient_111 : decode cL_quotient 111 = .ok (.iconst 1, 1) := by decide +kernel
theorem dL_quotient_112 : decode cL_quotient 112 = .ok (.iand, 1) := by decide +kernel
theorem dL_quotient_113 : decode cL_quotient 113 = .ok (.i2l, 1) := by decide +kernel
theorem dL_quotient_114 : decode cL_quotient 114 = .ok (.lcmp, 1) := by decide +kernel
theorem dL_quotient_115 : decode cL_quotient 115 = .ok (.ifCond .ne 7, 3) := by decide +kernel
theorem dL_quotient_118 : decode cL_quotient 118 = .ok (.lconst 0, 1) := by decide +kernel
theorem dL_quotient_119 : decode cL_quotient 119 = .ok (.goto 4, 3) := by decide +kernel
theorem dL_quotient_122 : decode cL_quotient 122 = .ok (.lconst 1, 1) := by decide +kernel
theorem dL_quotient_123 : decode cL_quotient 123 = .ok (.ladd, 1) := by decide +kernel
theorem dL_quotient_124 : decode cL_quotient 124 = .ok (.lstore 16, 2) := by decide +kernel
theorem dL_quotient_126 : decode cL_quotient 126 = .ok (.lload 16, 2) := by decide +kernel
theorem dL_quotient_128 : decode cL_quotient 128 = .ok (.lload 6, 2) := by decide +kernel
theorem dL_quotient_130 : decode cL_quotient 130 = .ok (.lmul, 1) := by decide +kernel
theorem dL_quotient_131 : decode cL_quotient 131 = .ok (.ldc2_w 23, 3) := by decide +kernel
theorem dL_quotient_134 : decode cL_quotient 134 = .ok (.aload 5, 2) := by decide +kernel
theorem dL_quotient_136 : decode cL_quotient 136 = .ok (.iload 15, 2) := by decide +kernel
theorem dL_quotient_138 : decode cL_quotient 138 = .ok (.laload, 1) := by decide +kernel
theorem dL_quotient_139 : decode cL_quotient 139 = .ok (.lmul, 1) := by decide +kernel
theorem dL_quotient_140 : decode cL_quotient 140 = .ok (.lsub, 1) := by decide +kernel
theorem dL_quotient_141 : decode cL_quotient 141 = .ok (.lstore 18, 2) := by decide +kernel
theorem dL_quotient_143 : decode cL_quotient 143 = .ok (.lload 18, 2) := by decide +kernel
theorem dL_quotient_145 : decode cL_quotient 145 = .ok (.lconst 0, 1) := by decide +kernel
theorem dL_quotient_146 : decode cL_quotient 146 = .ok (.lcmp, 1) := by decide +kernel
theorem dL_quotient_147 : decode cL_quotient 147 = .ok (.ifCond .ge 53, 3) := by decide +kernel
theorem dL_quotient_150 : decode cL_quotient 150 = .ok (.lload 18, 2) := by decide +kernel
theorem dL_quotient_152 : decode cL_quotient 152 = .ok (.ldc2_w 23, 3) := by decide +kernel
theorem dL_quotient_155 : decode cL_quotient 155 = .ok (.lload 6, 2) := by decide +kernel
theorem dL_quotient_157 : decode cL_quotient 157 = .ok (.lmul, 1) := by decide +kernel
theorem dL_quotient_158 : decode cL_quotient 158 = .ok (.ladd, 1) := by decide +kernel
theorem dL_quotient_159 : decode cL_quotient 159 = .ok (.lload 18, 2) := by decide +kernel
theorem dL_quotient_161 : decode cL_quotient 161 = .ok (.ldc2_w 23, 3) := by decide +kernel
theorem dL_quotient_164 : decode cL_quotient 164 = .ok (.lload 6, 2) := by decide +kernel
theorem dL_quotient_166 : decode cL_quotient 166 = .ok (.lmul, 1) := by decide +kernel
theorem dL_quotient_167 : decode cL_quotient 167 = .ok (.ladd, 1) := by decide +kernel
theorem dL_quotient_168 : decode cL_quotient 168 = .ok (.lmul, 1) := by decide +kernel
theorem dL_quotient_169 : decode cL_quotient 169 = .ok (.lload 18, 2) := by decide +kernel
theorem dL_quotient_171 : decode cL_quotient 171 = .ok (.lload 18, 2) := by decide +kernel
theorem dL_quotient_173 : decode cL_quotient 173 = .ok (.lmul, 1) := by decide +kernel
theorem dL_quotient_174 : decode cL_quotient 174 = .ok (.lcmp, 1) := by decide +kernel
theorem dL_quotient_175 : decode cL_quotient 175 = .ok (.ifCond .ge 25, 3) := by decide +kernel
theorem dL_quotient_178 : decode cL_quotient 178 = .ok (.lload 16, 2) := by decide +kernel
theorem dL_quotient_180 : decode cL_quotient 180 = .ok (.ldc2_w 23, 3) := by decide +kernel
theorem dL_quotient_183 : decode cL_quotient 183 = .ok (.ladd, 1) := by decide +kernel
theorem dL_quotient_184 : decode cL_quotient 184 = .ok (.lstore 16, 2) := by decide +kernel
theorem dL_quotient_186 : decode cL_quotient 186 = .ok (.lload 18, 2) := by decide +kernel
theorem dL_quotient_188 : decode cL_quotient 188 = .ok (.ldc2_w 23, 3) := by decide +kernel
theorem dL_quotient_191 : decode cL_quotient 191 = .ok (.lload 6, 2) := by decide +kernel
theorem dL_quotient_193 : decode cL_quotient 193 = .ok (.lmul, 1) := by decide +kernel
theorem dL_quotient_194 : decode cL_quotient 194 = .ok (.ladd, 1) := by decide +kernel
theorem dL_quotient_195 : decode cL_quotient 195 = .ok (.lstore 18, 2) := by decide +kernel
theorem dL_quotient_197 : decode cL_quotient 197 = .ok (.goto (-54), 3) := by decide +kernel
theorem dL_quotient_200 : decode cL_quotient 200 = .ok (.aload 12, 2) := by decide +kernel
theorem dL_quotient_202 : decode cL_quotient 202 = .ok (.iload 15, 2) := by decide +kernel
theorem dL_quotient_204 : decode cL_quotient 204 = .ok (.lload 16, 2) := by decide +kernel
theorem dL_quotient_206 : decode cL_quotient 206 = .ok (.lastore, 1) := by decide +kernel
theorem dL_quotient_207 : decode cL_quotient 207 = .ok (.lload 13, 2) := by decide +kernel
theorem dL_quotient_209 : decode cL_quotient 209 = .ok (.lload 18, 2) := by decide +kernel
theorem dL_quotient_211 : decode cL_quotient 211 = .ok (.lload 18, 2) := by decide +kernel
theorem dL_quotient_213 : decode cL_quotient 213 = .ok (.lmul, 1) := by decide +kernel
theorem dL_quotient_214 : decode cL_quotient 214 = .ok (.ladd, 1) := by decide +kernel
