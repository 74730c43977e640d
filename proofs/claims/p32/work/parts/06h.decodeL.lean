theorem dL_acts_1233 : decode cL_acts 1233 = .ok (.aload 12, 2) := by decide +kernel
theorem dL_acts_1235 : decode cL_acts 1235 = .ok (.invokestatic 43, 3) := by decide +kernel
theorem dL_acts_1238 : decode cL_acts 1238 = .ok (.lcmp, 1) := by decide +kernel
theorem dL_acts_1239 : decode cL_acts 1239 = .ok (.ifCond .ne 7, 3) := by decide +kernel
theorem dL_acts_1242 : decode cL_acts 1242 = .ok (.iconst 1, 1) := by decide +kernel
theorem dL_acts_1243 : decode cL_acts 1243 = .ok (.goto 4, 3) := by decide +kernel
theorem dL_acts_1246 : decode cL_acts 1246 = .ok (.iconst 0, 1) := by decide +kernel
theorem dL_acts_1247 : decode cL_acts 1247 = .ok (.ireturn, 1) := by decide +kernel
theorem dL_isSo_0 : decode cL_isSo 0 = .ok (.iconst 0, 1) := by decide +kernel
theorem dL_isSo_1 : decode cL_isSo 1 = .ok (.istore 5, 2) := by decide +kernel
theorem dL_isSo_3 : decode cL_isSo 3 = .ok (.iconst 0, 1) := by decide +kernel
theorem dL_isSo_4 : decode cL_isSo 4 = .ok (.istore 6, 2) := by decide +kernel
theorem dL_isSo_6 : decode cL_isSo 6 = .ok (.iconst 1, 1) := by decide +kernel
theorem dL_isSo_7 : decode cL_isSo 7 = .ok (.istore 7, 2) := by decide +kernel
theorem dL_isSo_9 : decode cL_isSo 9 = .ok (.iconst 0, 1) := by decide +kernel
theorem dL_isSo_10 : decode cL_isSo 10 = .ok (.istore 8, 2) := by decide +kernel
theorem dL_isSo_12 : decode cL_isSo 12 = .ok (.iload 8, 2) := by decide +kernel
theorem dL_isSo_14 : decode cL_isSo 14 = .ok (.bipush 8, 2) := by decide +kernel
theorem dL_isSo_16 : decode cL_isSo 16 = .ok (.if_icmp .ge 225, 3) := by decide +kernel
theorem dL_isSo_19 : decode cL_isSo 19 = .ok (.iload 7, 2) := by decide +kernel
theorem dL_isSo_21 : decode cL_isSo 21 = .ok (.ifCond .eq 220, 3) := by decide +kernel
theorem dL_isSo_24 : decode cL_isSo 24 = .ok (.aload_n 2, 1) := by decide +kernel
theorem dL_isSo_25 : decode cL_isSo 25 = .ok (.iload 8, 2) := by decide +kernel
theorem dL_isSo_27 : decode cL_isSo 27 = .ok (.invokestatic 116, 3) := by decide +kernel
theorem dL_isSo_30 : decode cL_isSo 30 = .ok (.astore 9, 2) := by decide +kernel
theorem dL_isSo_32 : decode cL_isSo 32 = .ok (.iconst 0, 1) := by decide +kernel
theorem dL_isSo_33 : decode cL_isSo 33 = .ok (.istore 10, 2) := by decide +kernel
theorem dL_isSo_35 : decode cL_isSo 35 = .ok (.iconst 0, 1) := by decide +kernel
theorem dL_isSo_36 : decode cL_isSo 36 = .ok (.istore 11, 2) := by decide +kernel
theorem dL_isSo_38 : decode cL_isSo 38 = .ok (.iload 11, 2) := by decide +kernel
theorem dL_isSo_40 : decode cL_isSo 40 = .ok (.bipush 8, 2) := by decide +kernel
theorem dL_isSo_42 : decode cL_isSo 42 = .ok (.if_icmp .ge 65, 3) := by decide +kernel
theorem dL_isSo_45 : decode cL_isSo 45 = .ok (.iload 10, 2) := by decide +kernel
theorem dL_isSo_47 : decode cL_isSo 47 = .ok (.aload 9, 2) := by decide +kernel
theorem dL_isSo_49 : decode cL_isSo 49 = .ok (.iload 11, 2) := by decide +kernel
theorem dL_isSo_51 : decode cL_isSo 51 = .ok (.invokestatic 27, 3) := by decide +kernel
theorem dL_isSo_54 : decode cL_isSo 54 = .ok (.ifCond .eq 10, 3) := by decide +kernel
theorem dL_isSo_57 : decode cL_isSo 57 = .ok (.iconst 1, 1) := by decide +kernel
theorem dL_isSo_58 : decode cL_isSo 58 = .ok (.iload 11, 2) := by decide +kernel
theorem dL_isSo_60 : decode cL_isSo 60 = .ok (.ishl, 1) := by decide +kernel
theorem dL_isSo_61 : decode cL_isSo 61 = .ok (.goto 4, 3) := by decide +kernel
theorem dL_isSo_64 : decode cL_isSo 64 = .ok (.iconst 0, 1) := by decide +kernel
theorem dL_isSo_65 : decode cL_isSo 65 = .ok (.ior, 1) := by decide +kernel
theorem dL_isSo_66 : decode cL_isSo 66 = .ok (.istore 10, 2) := by decide +kernel
theorem dL_isSo_68 : decode cL_isSo 68 = .ok (.iload 7, 2) := by decide +kernel
theorem dL_isSo_70 : decode cL_isSo 70 = .ok (.ifCond .eq 28, 3) := by decide +kernel
theorem dL_isSo_73 : decode cL_isSo 73 = .ok (.aload_n 0, 1) := by decide +kernel
theorem dL_isSo_74 : decode cL_isSo 74 = .ok (.iload 8, 2) := by decide +kernel
theorem dL_isSo_76 : decode cL_isSo 76 = .ok (.iload 11, 2) := by decide +kernel
theorem dL_isSo_78 : decode cL_isSo 78 = .ok (.invokestatic 191, 3) := by decide +kernel
theorem dL_isSo_81 : decode cL_isSo 81 = .ok (.aload_n 2, 1) := by decide +kernel
theorem dL_isSo_82 : decode cL_isSo 82 = .ok (.bipush 8, 2) := by decide +kernel
theorem dL_isSo_84 : decode cL_isSo 84 = .ok (.iload 8, 2) := by decide +kernel
theorem dL_isSo_86 : decode cL_isSo 86 = .ok (.imul, 1) := by decide +kernel
theorem dL_isSo_87 : decode cL_isSo 87 = .ok (.iload 11, 2) := by decide +kernel
theorem dL_isSo_89 : decode cL_isSo 89 = .ok (.iadd, 1) := by decide +kernel
theorem dL_isSo_90 : decode cL_isSo 90 = .ok (.iaload, 1) := by decide +kernel
theorem dL_isSo_91 : decode cL_isSo 91 = .ok (.if_icmp .ne 7, 3) := by decide +kernel
theorem dL_isSo_94 : decode cL_isSo 94 = .ok (.iconst 1, 1) := by decide +kernel
theorem dL_isSo_95 : decode cL_isSo 95 = .ok (.goto 4, 3) := by decide +kernel
theorem dL_isSo_98 : decode cL_isSo 98 = .ok (.iconst 0, 1) := by decide +kernel
theorem dL_isSo_99 : decode cL_isSo 99 = .ok (.istore 7, 2) := by decide +kernel
theorem dL_isSo_101 : decode cL_isSo 101 = .ok (.iinc 11 1, 3) := by decide +kernel
theorem dL_isSo_104 : decode cL_isSo 104 = .ok (.goto (-66), 3) := by decide +kernel
theorem dL_isSo_107 : decode cL_isSo 107 = .ok (.iload 5, 2) := by decide +kernel
theorem dL_isSo_109 : decode cL_isSo 109 = .ok (.aload 9, 2) := by decide +kernel
theorem dL_isSo_111 : decode cL_isSo 111 = .ok (.aload_n 1, 1) := by decide +kernel
theorem dL_isSo_112 : decode cL_isSo 112 = .ok (.iconst 0, 1) := by decide +kernel
theorem dL_isSo_113 : decode cL_isSo 113 = .ok (.iaload, 1) := by decide +kernel
theorem dL_isSo_114 : decode cL_isSo 114 = .ok (.invokestatic 27, 3) := by decide +kernel
theorem dL_isSo_117 : decode cL_isSo 117 = .ok (.ifCond .eq 7, 3) := by decide +kernel
theorem dL_isSo_120 : decode cL_isSo 120 = .ok (.iconst 1, 1) := by decide +kernel
theorem dL_isSo_121 : decode cL_isSo 121 = .ok (.goto 4, 3) := by decide +kernel
theorem dL_isSo_124 : decode cL_isSo 124 = .ok (.iconst 0, 1) := by decide +kernel
theorem dL_isSo_125 : decode cL_isSo 125 = .ok (.iadd, 1) := by decide +kernel
theorem dL_isSo_126 : decode cL_isSo 126 = .ok (.istore 5, 2) := by decide +kernel
theorem dL_isSo_128 : decode cL_isSo 128 = .ok (.iload 6, 2) := by decide +kernel
theorem dL_isSo_130 : decode cL_isSo 130 = .ok (.aload 9, 2) := by decide +kernel
theorem dL_isSo_132 : decode cL_isSo 132 = .ok (.invokestatic 35, 3) := by decide +kernel
theorem dL_isSo_135 : decode cL_isSo 135 = .ok (.ifCond .eq 7, 3) := by decide +kernel
theorem dL_isSo_138 : decode cL_isSo 138 = .ok (.iconst 1, 1) := by decide +kernel
theorem dL_isSo_139 : decode cL_isSo 139 = .ok (.goto 4, 3) := by decide +kernel
theorem dL_isSo_142 : decode cL_isSo 142 = .ok (.iconst 0, 1) := by decide +kernel
theorem dL_isSo_143 : decode cL_isSo 143 = .ok (.iadd, 1) := by decide +kernel
theorem dL_isSo_144 : decode cL_isSo 144 = .ok (.istore 6, 2) := by decide +kernel
theorem dL_isSo_146 : decode cL_isSo 146 = .ok (.aload 9, 2) := by decide +kernel
theorem dL_isSo_148 : decode cL_isSo 148 = .ok (.invokestatic 43, 3) := by decide +kernel
theorem dL_isSo_151 : decode cL_isSo 151 = .ok (.ldc2_w 25, 3) := by decide +kernel
theorem dL_isSo_154 : decode cL_isSo 154 = .ok (.lcmp, 1) := by decide +kernel
theorem dL_isSo_155 : decode cL_isSo 155 = .ok (.ifCond .ne 28, 3) := by decide +kernel
theorem dL_isSo_158 : decode cL_isSo 158 = .ok (.aload 9, 2) := by decide +kernel
theorem dL_isSo_160 : decode cL_isSo 160 = .ok (.aload_n 1, 1) := by decide +kernel
theorem dL_isSo_161 : decode cL_isSo 161 = .ok (.iconst 0, 1) := by decide +kernel
theorem dL_isSo_162 : decode cL_isSo 162 = .ok (.iaload, 1) := by decide +kernel
theorem dL_isSo_163 : decode cL_isSo 163 = .ok (.invokestatic 27, 3) := by decide +kernel
theorem dL_isSo_166 : decode cL_isSo 166 = .ok (.ifCond .eq 17, 3) := by decide +kernel
theorem dL_isSo_169 : decode cL_isSo 169 = .ok (.aload_n 1, 1) := by decide +kernel
theorem dL_isSo_170 : decode cL_isSo 170 = .ok (.iconst 0, 1) := by decide +kernel
theorem dL_isSo_171 : decode cL_isSo 171 = .ok (.iaload, 1) := by decide +kernel
theorem dL_isSo_172 : decode cL_isSo 172 = .ok (.aload 9, 2) := by decide +kernel
theorem dL_isSo_174 : decode cL_isSo 174 = .ok (.aload 9, 2) := by decide +kernel
theorem dL_isSo_176 : decode cL_isSo 176 = .ok (.iconst (-1), 1) := by decide +kernel
theorem dL_isSo_177 : decode cL_isSo 177 = .ok (.invokestatic 131, 3) := by decide +kernel
theorem dL_isSo_180 : decode cL_isSo 180 = .ok (.goto 4, 3) := by decide +kernel
theorem dL_isSo_183 : decode cL_isSo 183 = .ok (.iconst (-1), 1) := by decide +kernel
theorem dL_isSo_184 : decode cL_isSo 184 = .ok (.istore 11, 2) := by decide +kernel
theorem dL_isSo_186 : decode cL_isSo 186 = .ok (.iload 7, 2) := by decide +kernel
theorem dL_isSo_188 : decode cL_isSo 188 = .ok (.ifCond .eq 44, 3) := by decide +kernel
theorem dL_isSo_191 : decode cL_isSo 191 = .ok (.aload_n 0, 1) := by decide +kernel
theorem dL_isSo_192 : decode cL_isSo 192 = .ok (.iload 8, 2) := by decide +kernel
theorem dL_isSo_194 : decode cL_isSo 194 = .ok (.invokestatic 194, 3) := by decide +kernel
theorem dL_isSo_197 : decode cL_isSo 197 = .ok (.aload 9, 2) := by decide +kernel
theorem dL_isSo_199 : decode cL_isSo 199 = .ok (.invokestatic 43, 3) := by decide +kernel
theorem dL_isSo_202 : decode cL_isSo 202 = .ok (.lcmp, 1) := by decide +kernel
theorem dL_isSo_203 : decode cL_isSo 203 = .ok (.ifCond .ne 29, 3) := by decide +kernel
theorem dL_isSo_206 : decode cL_isSo 206 = .ok (.aload_n 0, 1) := by decide +kernel
theorem dL_isSo_207 : decode cL_isSo 207 = .ok (.iload 8, 2) := by decide +kernel
theorem dL_isSo_209 : decode cL_isSo 209 = .ok (.invokestatic 198, 3) := by decide +kernel
theorem dL_isSo_212 : decode cL_isSo 212 = .ok (.iload 10, 2) := by decide +kernel
theorem dL_isSo_214 : decode cL_isSo 214 = .ok (.if_icmp .ne 18, 3) := by decide +kernel
