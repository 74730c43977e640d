theorem dL_isSo_432 : decode cL_isSo 432 = .ok (.if_icmp .ne 27, 3) := by decide +kernel
theorem dL_isSo_435 : decode cL_isSo 435 = .ok (.aload_n 0, 1) := by decide +kernel
theorem dL_isSo_436 : decode cL_isSo 436 = .ok (.iconst 4, 1) := by decide +kernel
theorem dL_isSo_437 : decode cL_isSo 437 = .ok (.invokestatic 209, 3) := by decide +kernel
theorem dL_isSo_440 : decode cL_isSo 440 = .ok (.iload 5, 2) := by decide +kernel
theorem dL_isSo_442 : decode cL_isSo 442 = .ok (.if_icmp .ne 17, 3) := by decide +kernel
theorem dL_isSo_445 : decode cL_isSo 445 = .ok (.aload_n 0, 1) := by decide +kernel
theorem dL_isSo_446 : decode cL_isSo 446 = .ok (.iconst 5, 1) := by decide +kernel
theorem dL_isSo_447 : decode cL_isSo 447 = .ok (.invokestatic 209, 3) := by decide +kernel
theorem dL_isSo_450 : decode cL_isSo 450 = .ok (.iload 6, 2) := by decide +kernel
theorem dL_isSo_452 : decode cL_isSo 452 = .ok (.if_icmp .ne 7, 3) := by decide +kernel
theorem dL_isSo_455 : decode cL_isSo 455 = .ok (.iconst 1, 1) := by decide +kernel
theorem dL_isSo_456 : decode cL_isSo 456 = .ok (.goto 4, 3) := by decide +kernel
theorem dL_isSo_459 : decode cL_isSo 459 = .ok (.iconst 0, 1) := by decide +kernel
theorem dL_isSo_460 : decode cL_isSo 460 = .ok (.ireturn, 1) := by decide +kernel
theorem dL_law_0 : decode cL_law 0 = .ok (.new 48, 3) := by decide +kernel
theorem dL_law_3 : decode cL_law 3 = .ok (.dup, 1) := by decide +kernel
theorem dL_law_4 : decode cL_law 4 = .ok (.invokespecial 212, 3) := by decide +kernel
theorem dL_law_7 : decode cL_law 7 = .ok (.astore_n 1, 1) := by decide +kernel
theorem dL_law_8 : decode cL_law 8 = .ok (.invokestatic 213, 3) := by decide +kernel
theorem dL_law_11 : decode cL_law 11 = .ok (.astore_n 2, 1) := by decide +kernel
theorem dL_law_12 : decode cL_law 12 = .ok (.iconst 3, 1) := by decide +kernel
theorem dL_law_13 : decode cL_law 13 = .ok (.newarray .int, 2) := by decide +kernel
theorem dL_law_15 : decode cL_law 15 = .ok (.astore_n 3, 1) := by decide +kernel
theorem dL_law_16 : decode cL_law 16 = .ok (.bipush 64, 2) := by decide +kernel
theorem dL_law_18 : decode cL_law 18 = .ok (.newarray .int, 2) := by decide +kernel
theorem dL_law_20 : decode cL_law 20 = .ok (.astore 4, 2) := by decide +kernel
theorem dL_law_22 : decode cL_law 22 = .ok (.aload_n 3, 1) := by decide +kernel
theorem dL_law_23 : decode cL_law 23 = .ok (.iconst 0, 1) := by decide +kernel
theorem dL_law_24 : decode cL_law 24 = .ok (.iconst 1, 1) := by decide +kernel
theorem dL_law_25 : decode cL_law 25 = .ok (.iastore, 1) := by decide +kernel
theorem dL_law_26 : decode cL_law 26 = .ok (.iconst 0, 1) := by decide +kernel
theorem dL_law_27 : decode cL_law 27 = .ok (.istore 5, 2) := by decide +kernel
theorem dL_law_29 : decode cL_law 29 = .ok (.iload 5, 2) := by decide +kernel
theorem dL_law_31 : decode cL_law 31 = .ok (.bipush 8, 2) := by decide +kernel
theorem dL_law_33 : decode cL_law 33 = .ok (.if_icmp .ge 18, 3) := by decide +kernel
theorem dL_law_36 : decode cL_law 36 = .ok (.aload 4, 2) := by decide +kernel
theorem dL_law_38 : decode cL_law 38 = .ok (.bipush 9, 2) := by decide +kernel
theorem dL_law_40 : decode cL_law 40 = .ok (.iload 5, 2) := by decide +kernel
theorem dL_law_42 : decode cL_law 42 = .ok (.imul, 1) := by decide +kernel
theorem dL_law_43 : decode cL_law 43 = .ok (.iconst 2, 1) := by decide +kernel
theorem dL_law_44 : decode cL_law 44 = .ok (.iastore, 1) := by decide +kernel
theorem dL_law_45 : decode cL_law 45 = .ok (.iinc 5 1, 3) := by decide +kernel
theorem dL_law_48 : decode cL_law 48 = .ok (.goto (-19), 3) := by decide +kernel
theorem dL_law_51 : decode cL_law 51 = .ok (.aload_n 1, 1) := by decide +kernel
theorem dL_law_52 : decode cL_law 52 = .ok (.aload_n 3, 1) := by decide +kernel
theorem dL_law_53 : decode cL_law 53 = .ok (.aload 4, 2) := by decide +kernel
theorem dL_law_55 : decode cL_law 55 = .ok (.aload_n 2, 1) := by decide +kernel
theorem dL_law_56 : decode cL_law 56 = .ok (.bipush 9, 2) := by decide +kernel
theorem dL_law_58 : decode cL_law 58 = .ok (.invokestatic 217, 3) := by decide +kernel
theorem dL_law_61 : decode cL_law 61 = .ok (.istore 5, 2) := by decide +kernel
theorem dL_law_63 : decode cL_law 63 = .ok (.bipush 6, 2) := by decide +kernel
theorem dL_law_65 : decode cL_law 65 = .ok (.aload_n 0, 1) := by decide +kernel
theorem dL_law_66 : decode cL_law 66 = .ok (.iconst 0, 1) := by decide +kernel
theorem dL_law_67 : decode cL_law 67 = .ok (.invokestatic 221, 3) := by decide +kernel
theorem dL_law_70 : decode cL_law 70 = .ok (.bipush 40, 2) := by decide +kernel
theorem dL_law_72 : decode cL_law 72 = .ok (.invokestatic 105, 3) := by decide +kernel
theorem dL_law_75 : decode cL_law 75 = .ok (.iadd, 1) := by decide +kernel
theorem dL_law_76 : decode cL_law 76 = .ok (.istore 6, 2) := by decide +kernel
theorem dL_law_78 : decode cL_law 78 = .ok (.iconst 0, 1) := by decide +kernel
theorem dL_law_79 : decode cL_law 79 = .ok (.istore 7, 2) := by decide +kernel
theorem dL_law_81 : decode cL_law 81 = .ok (.iload 7, 2) := by decide +kernel
theorem dL_law_83 : decode cL_law 83 = .ok (.iload 6, 2) := by decide +kernel
theorem dL_law_85 : decode cL_law 85 = .ok (.if_icmp .ge 71, 3) := by decide +kernel
theorem dL_law_88 : decode cL_law 88 = .ok (.iload 5, 2) := by decide +kernel
theorem dL_law_90 : decode cL_law 90 = .ok (.ifCond .eq 66, 3) := by decide +kernel
theorem dL_law_93 : decode cL_law 93 = .ok (.aload_n 0, 1) := by decide +kernel
theorem dL_law_94 : decode cL_law 94 = .ok (.iconst 1, 1) := by decide +kernel
theorem dL_law_95 : decode cL_law 95 = .ok (.iload 7, 2) := by decide +kernel
theorem dL_law_97 : decode cL_law 97 = .ok (.iadd, 1) := by decide +kernel
theorem dL_law_98 : decode cL_law 98 = .ok (.invokestatic 221, 3) := by decide +kernel
theorem dL_law_101 : decode cL_law 101 = .ok (.sipush 7919, 3) := by decide +kernel
theorem dL_law_104 : decode cL_law 104 = .ok (.iload 7, 2) := by decide +kernel
theorem dL_law_106 : decode cL_law 106 = .ok (.imul, 1) := by decide +kernel
theorem dL_law_107 : decode cL_law 107 = .ok (.ixor, 1) := by decide +kernel
theorem dL_law_108 : decode cL_law 108 = .ok (.istore 8, 2) := by decide +kernel
theorem dL_law_110 : decode cL_law 110 = .ok (.aload_n 1, 1) := by decide +kernel
theorem dL_law_111 : decode cL_law 111 = .ok (.aload_n 3, 1) := by decide +kernel
theorem dL_law_112 : decode cL_law 112 = .ok (.aload 4, 2) := by decide +kernel
theorem dL_law_114 : decode cL_law 114 = .ok (.aload_n 2, 1) := by decide +kernel
theorem dL_law_115 : decode cL_law 115 = .ok (.iload 8, 2) := by decide +kernel
theorem dL_law_117 : decode cL_law 117 = .ok (.invokestatic 225, 3) := by decide +kernel
theorem dL_law_120 : decode cL_law 120 = .ok (.ifCond .eq 27, 3) := by decide +kernel
theorem dL_law_123 : decode cL_law 123 = .ok (.aload_n 1, 1) := by decide +kernel
theorem dL_law_124 : decode cL_law 124 = .ok (.aload_n 3, 1) := by decide +kernel
theorem dL_law_125 : decode cL_law 125 = .ok (.aload 4, 2) := by decide +kernel
theorem dL_law_127 : decode cL_law 127 = .ok (.aload_n 2, 1) := by decide +kernel
theorem dL_law_128 : decode cL_law 128 = .ok (.iload 8, 2) := by decide +kernel
theorem dL_law_130 : decode cL_law 130 = .ok (.iconst 4, 1) := by decide +kernel
theorem dL_law_131 : decode cL_law 131 = .ok (.ishr, 1) := by decide +kernel
theorem dL_law_132 : decode cL_law 132 = .ok (.ldc 228, 2) := by decide +kernel
theorem dL_law_134 : decode cL_law 134 = .ok (.invokestatic 105, 3) := by decide +kernel
theorem dL_law_137 : decode cL_law 137 = .ok (.invokestatic 217, 3) := by decide +kernel
theorem dL_law_140 : decode cL_law 140 = .ok (.ifCond .eq 7, 3) := by decide +kernel
theorem dL_law_143 : decode cL_law 143 = .ok (.iconst 1, 1) := by decide +kernel
theorem dL_law_144 : decode cL_law 144 = .ok (.goto 4, 3) := by decide +kernel
theorem dL_law_147 : decode cL_law 147 = .ok (.iconst 0, 1) := by decide +kernel
theorem dL_law_148 : decode cL_law 148 = .ok (.istore 5, 2) := by decide +kernel
theorem dL_law_150 : decode cL_law 150 = .ok (.iinc 7 1, 3) := by decide +kernel
theorem dL_law_153 : decode cL_law 153 = .ok (.goto (-72), 3) := by decide +kernel
theorem dL_law_156 : decode cL_law 156 = .ok (.iload 5, 2) := by decide +kernel
theorem dL_law_158 : decode cL_law 158 = .ok (.ifCond .eq 101, 3) := by decide +kernel
theorem dL_law_161 : decode cL_law 161 = .ok (.aload_n 1, 1) := by decide +kernel
theorem dL_law_162 : decode cL_law 162 = .ok (.bipush 6, 2) := by decide +kernel
theorem dL_law_164 : decode cL_law 164 = .ok (.invokestatic 209, 3) := by decide +kernel
theorem dL_law_167 : decode cL_law 167 = .ok (.ldc 58, 2) := by decide +kernel
theorem dL_law_169 : decode cL_law 169 = .ok (.if_icmp .ne 90, 3) := by decide +kernel
theorem dL_law_172 : decode cL_law 172 = .ok (.aload_n 1, 1) := by decide +kernel
theorem dL_law_173 : decode cL_law 173 = .ok (.iconst (-1), 1) := by decide +kernel
theorem dL_law_174 : decode cL_law 174 = .ok (.invokestatic 209, 3) := by decide +kernel
theorem dL_law_177 : decode cL_law 177 = .ok (.ldc 58, 2) := by decide +kernel
theorem dL_law_179 : decode cL_law 179 = .ok (.if_icmp .ne 80, 3) := by decide +kernel
theorem dL_law_182 : decode cL_law 182 = .ok (.aload_n 1, 1) := by decide +kernel
theorem dL_law_183 : decode cL_law 183 = .ok (.bipush 8, 2) := by decide +kernel
theorem dL_law_185 : decode cL_law 185 = .ok (.invokestatic 194, 3) := by decide +kernel
theorem dL_law_188 : decode cL_law 188 = .ok (.ldc2_w 63, 3) := by decide +kernel
theorem dL_law_191 : decode cL_law 191 = .ok (.lcmp, 1) := by decide +kernel
theorem dL_law_192 : decode cL_law 192 = .ok (.ifCond .ne 67, 3) := by decide +kernel
theorem dL_law_195 : decode cL_law 195 = .ok (.aload_n 1, 1) := by decide +kernel
theorem dL_law_196 : decode cL_law 196 = .ok (.bipush 8, 2) := by decide +kernel
