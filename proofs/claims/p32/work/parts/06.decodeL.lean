theorem dL_cell_0 : decode cL_cell 0 = .ok (.iload_n 1, 1) := by decide +kernel
theorem dL_cell_1 : decode cL_cell 1 = .ok (.aload_n 0, 1) := by decide +kernel
theorem dL_cell_2 : decode cL_cell 2 = .ok (.arraylength, 1) := by decide +kernel
theorem dL_cell_3 : decode cL_cell 3 = .ok (.if_icmp .ge 9, 3) := by decide +kernel
theorem dL_cell_6 : decode cL_cell 6 = .ok (.aload_n 0, 1) := by decide +kernel
theorem dL_cell_7 : decode cL_cell 7 = .ok (.iload_n 1, 1) := by decide +kernel
theorem dL_cell_8 : decode cL_cell 8 = .ok (.iaload, 1) := by decide +kernel
theorem dL_cell_9 : decode cL_cell 9 = .ok (.goto 9, 3) := by decide +kernel
theorem dL_cell_12 : decode cL_cell 12 = .ok (.ldc 7, 2) := by decide +kernel
theorem dL_cell_14 : decode cL_cell 14 = .ok (.iload_n 1, 1) := by decide +kernel
theorem dL_cell_15 : decode cL_cell 15 = .ok (.iconst 3, 1) := by decide +kernel
theorem dL_cell_16 : decode cL_cell 16 = .ok (.iadd, 1) := by decide +kernel
theorem dL_cell_17 : decode cL_cell 17 = .ok (.imul, 1) := by decide +kernel
theorem dL_cell_18 : decode cL_cell 18 = .ok (.ireturn, 1) := by decide +kernel
theorem dL_low_0 : decode cL_low 0 = .ok (.iload_n 0, 1) := by decide +kernel
theorem dL_low_1 : decode cL_low 1 = .ok (.ldc 8, 2) := by decide +kernel
theorem dL_low_3 : decode cL_low 3 = .ok (.iand, 1) := by decide +kernel
theorem dL_low_4 : decode cL_low 4 = .ok (.iload_n 1, 1) := by decide +kernel
theorem dL_low_5 : decode cL_low 5 = .ok (.irem, 1) := by decide +kernel
theorem dL_low_6 : decode cL_low 6 = .ok (.ireturn, 1) := by decide +kernel
theorem dL_table_0 : decode cL_table 0 = .ok (.bipush 64, 2) := by decide +kernel
theorem dL_table_2 : decode cL_table 2 = .ok (.newarray .int, 2) := by decide +kernel
theorem dL_table_4 : decode cL_table 4 = .ok (.astore_n 0, 1) := by decide +kernel
theorem dL_table_5 : decode cL_table 5 = .ok (.iconst 0, 1) := by decide +kernel
theorem dL_table_6 : decode cL_table 6 = .ok (.istore_n 1, 1) := by decide +kernel
theorem dL_table_7 : decode cL_table 7 = .ok (.iload_n 1, 1) := by decide +kernel
theorem dL_table_8 : decode cL_table 8 = .ok (.bipush 8, 2) := by decide +kernel
theorem dL_table_10 : decode cL_table 10 = .ok (.if_icmp .ge 24, 3) := by decide +kernel
theorem dL_table_13 : decode cL_table 13 = .ok (.aload_n 0, 1) := by decide +kernel
theorem dL_table_14 : decode cL_table 14 = .ok (.iload_n 1, 1) := by decide +kernel
theorem dL_table_15 : decode cL_table 15 = .ok (.iload_n 1, 1) := by decide +kernel
theorem dL_table_16 : decode cL_table 16 = .ok (.iconst 1, 1) := by decide +kernel
theorem dL_table_17 : decode cL_table 17 = .ok (.iadd, 1) := by decide +kernel
theorem dL_table_18 : decode cL_table 18 = .ok (.iastore, 1) := by decide +kernel
theorem dL_table_19 : decode cL_table 19 = .ok (.aload_n 0, 1) := by decide +kernel
theorem dL_table_20 : decode cL_table 20 = .ok (.bipush 8, 2) := by decide +kernel
theorem dL_table_22 : decode cL_table 22 = .ok (.iload_n 1, 1) := by decide +kernel
theorem dL_table_23 : decode cL_table 23 = .ok (.imul, 1) := by decide +kernel
theorem dL_table_24 : decode cL_table 24 = .ok (.iload_n 1, 1) := by decide +kernel
theorem dL_table_25 : decode cL_table 25 = .ok (.iconst 1, 1) := by decide +kernel
theorem dL_table_26 : decode cL_table 26 = .ok (.iadd, 1) := by decide +kernel
theorem dL_table_27 : decode cL_table 27 = .ok (.iastore, 1) := by decide +kernel
theorem dL_table_28 : decode cL_table 28 = .ok (.iinc 1 1, 3) := by decide +kernel
theorem dL_table_31 : decode cL_table 31 = .ok (.goto (-24), 3) := by decide +kernel
theorem dL_table_34 : decode cL_table 34 = .ok (.iconst 1, 1) := by decide +kernel
theorem dL_table_35 : decode cL_table 35 = .ok (.istore_n 1, 1) := by decide +kernel
theorem dL_table_36 : decode cL_table 36 = .ok (.iload_n 1, 1) := by decide +kernel
theorem dL_table_37 : decode cL_table 37 = .ok (.bipush 8, 2) := by decide +kernel
theorem dL_table_39 : decode cL_table 39 = .ok (.if_icmp .ge 101, 3) := by decide +kernel
theorem dL_table_42 : decode cL_table 42 = .ok (.iload_n 1, 1) := by decide +kernel
theorem dL_table_43 : decode cL_table 43 = .ok (.bipush 7, 2) := by decide +kernel
theorem dL_table_45 : decode cL_table 45 = .ok (.irem, 1) := by decide +kernel
theorem dL_table_46 : decode cL_table 46 = .ok (.iconst 1, 1) := by decide +kernel
theorem dL_table_47 : decode cL_table 47 = .ok (.iadd, 1) := by decide +kernel
theorem dL_table_48 : decode cL_table 48 = .ok (.istore_n 2, 1) := by decide +kernel
theorem dL_table_49 : decode cL_table 49 = .ok (.iload_n 1, 1) := by decide +kernel
theorem dL_table_50 : decode cL_table 50 = .ok (.iconst 2, 1) := by decide +kernel
theorem dL_table_51 : decode cL_table 51 = .ok (.iadd, 1) := by decide +kernel
theorem dL_table_52 : decode cL_table 52 = .ok (.bipush 7, 2) := by decide +kernel
theorem dL_table_54 : decode cL_table 54 = .ok (.irem, 1) := by decide +kernel
theorem dL_table_55 : decode cL_table 55 = .ok (.iconst 1, 1) := by decide +kernel
theorem dL_table_56 : decode cL_table 56 = .ok (.iadd, 1) := by decide +kernel
theorem dL_table_57 : decode cL_table 57 = .ok (.istore_n 3, 1) := by decide +kernel
theorem dL_table_58 : decode cL_table 58 = .ok (.aload_n 0, 1) := by decide +kernel
theorem dL_table_59 : decode cL_table 59 = .ok (.bipush 9, 2) := by decide +kernel
theorem dL_table_61 : decode cL_table 61 = .ok (.iload_n 1, 1) := by decide +kernel
theorem dL_table_62 : decode cL_table 62 = .ok (.imul, 1) := by decide +kernel
theorem dL_table_63 : decode cL_table 63 = .ok (.iconst (-1), 1) := by decide +kernel
theorem dL_table_64 : decode cL_table 64 = .ok (.iastore, 1) := by decide +kernel
theorem dL_table_65 : decode cL_table 65 = .ok (.aload_n 0, 1) := by decide +kernel
theorem dL_table_66 : decode cL_table 66 = .ok (.bipush 8, 2) := by decide +kernel
theorem dL_table_68 : decode cL_table 68 = .ok (.iload_n 1, 1) := by decide +kernel
theorem dL_table_69 : decode cL_table 69 = .ok (.imul, 1) := by decide +kernel
theorem dL_table_70 : decode cL_table 70 = .ok (.iload_n 2, 1) := by decide +kernel
theorem dL_table_71 : decode cL_table 71 = .ok (.iadd, 1) := by decide +kernel
theorem dL_table_72 : decode cL_table 72 = .ok (.iload_n 3, 1) := by decide +kernel
theorem dL_table_73 : decode cL_table 73 = .ok (.iconst 1, 1) := by decide +kernel
theorem dL_table_74 : decode cL_table 74 = .ok (.iadd, 1) := by decide +kernel
theorem dL_table_75 : decode cL_table 75 = .ok (.iastore, 1) := by decide +kernel
theorem dL_table_76 : decode cL_table 76 = .ok (.aload_n 0, 1) := by decide +kernel
theorem dL_table_77 : decode cL_table 77 = .ok (.bipush 8, 2) := by decide +kernel
theorem dL_table_79 : decode cL_table 79 = .ok (.iload_n 2, 1) := by decide +kernel
theorem dL_table_80 : decode cL_table 80 = .ok (.imul, 1) := by decide +kernel
theorem dL_table_81 : decode cL_table 81 = .ok (.iload_n 3, 1) := by decide +kernel
theorem dL_table_82 : decode cL_table 82 = .ok (.iadd, 1) := by decide +kernel
theorem dL_table_83 : decode cL_table 83 = .ok (.iload_n 1, 1) := by decide +kernel
theorem dL_table_84 : decode cL_table 84 = .ok (.iconst 1, 1) := by decide +kernel
theorem dL_table_85 : decode cL_table 85 = .ok (.iadd, 1) := by decide +kernel
theorem dL_table_86 : decode cL_table 86 = .ok (.iastore, 1) := by decide +kernel
theorem dL_table_87 : decode cL_table 87 = .ok (.aload_n 0, 1) := by decide +kernel
theorem dL_table_88 : decode cL_table 88 = .ok (.bipush 8, 2) := by decide +kernel
theorem dL_table_90 : decode cL_table 90 = .ok (.iload_n 3, 1) := by decide +kernel
theorem dL_table_91 : decode cL_table 91 = .ok (.imul, 1) := by decide +kernel
theorem dL_table_92 : decode cL_table 92 = .ok (.iload_n 1, 1) := by decide +kernel
theorem dL_table_93 : decode cL_table 93 = .ok (.iadd, 1) := by decide +kernel
theorem dL_table_94 : decode cL_table 94 = .ok (.iload_n 2, 1) := by decide +kernel
theorem dL_table_95 : decode cL_table 95 = .ok (.iconst 1, 1) := by decide +kernel
theorem dL_table_96 : decode cL_table 96 = .ok (.iadd, 1) := by decide +kernel
theorem dL_table_97 : decode cL_table 97 = .ok (.iastore, 1) := by decide +kernel
theorem dL_table_98 : decode cL_table 98 = .ok (.aload_n 0, 1) := by decide +kernel
theorem dL_table_99 : decode cL_table 99 = .ok (.bipush 8, 2) := by decide +kernel
theorem dL_table_101 : decode cL_table 101 = .ok (.iload_n 2, 1) := by decide +kernel
theorem dL_table_102 : decode cL_table 102 = .ok (.imul, 1) := by decide +kernel
theorem dL_table_103 : decode cL_table 103 = .ok (.iload_n 1, 1) := by decide +kernel
theorem dL_table_104 : decode cL_table 104 = .ok (.iadd, 1) := by decide +kernel
theorem dL_table_105 : decode cL_table 105 = .ok (.iload_n 3, 1) := by decide +kernel
theorem dL_table_106 : decode cL_table 106 = .ok (.ineg, 1) := by decide +kernel
theorem dL_table_107 : decode cL_table 107 = .ok (.iconst 1, 1) := by decide +kernel
theorem dL_table_108 : decode cL_table 108 = .ok (.isub, 1) := by decide +kernel
theorem dL_table_109 : decode cL_table 109 = .ok (.iastore, 1) := by decide +kernel
theorem dL_table_110 : decode cL_table 110 = .ok (.aload_n 0, 1) := by decide +kernel
theorem dL_table_111 : decode cL_table 111 = .ok (.bipush 8, 2) := by decide +kernel
theorem dL_table_113 : decode cL_table 113 = .ok (.iload_n 3, 1) := by decide +kernel
theorem dL_table_114 : decode cL_table 114 = .ok (.imul, 1) := by decide +kernel
theorem dL_table_115 : decode cL_table 115 = .ok (.iload_n 2, 1) := by decide +kernel
theorem dL_table_116 : decode cL_table 116 = .ok (.iadd, 1) := by decide +kernel
theorem dL_table_117 : decode cL_table 117 = .ok (.iload_n 1, 1) := by decide +kernel
theorem dL_table_118 : decode cL_table 118 = .ok (.ineg, 1) := by decide +kernel
theorem dL_table_119 : decode cL_table 119 = .ok (.iconst 1, 1) := by decide +kernel
theorem dL_table_120 : decode cL_table 120 = .ok (.isub, 1) := by decide +kernel
theorem dL_table_121 : decode cL_table 121 = .ok (.iastore, 1) := by decide +kernel
theorem dL_table_122 : decode cL_table 122 = .ok (.aload_n 0, 1) := by decide +kernel
theorem dL_table_123 : decode cL_table 123 = .ok (.bipush 8, 2) := by decide +kernel
theorem dL_table_125 : decode cL_table 125 = .ok (.iload_n 1, 1) := by decide +kernel
theorem dL_table_126 : decode cL_table 126 = .ok (.imul, 1) := by decide +kernel
theorem dL_table_127 : decode cL_table 127 = .ok (.iload_n 3, 1) := by decide +kernel
theorem dL_table_128 : decode cL_table 128 = .ok (.iadd, 1) := by decide +kernel
theorem dL_table_129 : decode cL_table 129 = .ok (.iload_n 2, 1) := by decide +kernel
theorem dL_table_130 : decode cL_table 130 = .ok (.ineg, 1) := by decide +kernel
theorem dL_table_131 : decode cL_table 131 = .ok (.iconst 1, 1) := by decide +kernel
theorem dL_table_132 : decode cL_table 132 = .ok (.isub, 1) := by decide +kernel
theorem dL_table_133 : decode cL_table 133 = .ok (.iastore, 1) := by decide +kernel
theorem dL_table_134 : decode cL_table 134 = .ok (.iinc 1 1, 3) := by decide +kernel
theorem dL_table_137 : decode cL_table 137 = .ok (.goto (-101), 3) := by decide +kernel
theorem dL_table_140 : decode cL_table 140 = .ok (.aload_n 0, 1) := by decide +kernel
theorem dL_table_141 : decode cL_table 141 = .ok (.areturn, 1) := by decide +kernel
theorem dL_product_0 : decode cL_product 0 = .ok (.bipush 8, 2) := by decide +kernel
theorem dL_product_2 : decode cL_product 2 = .ok (.newarray .long, 2) := by decide +kernel
theorem dL_product_4 : decode cL_product 4 = .ok (.astore_n 3, 1) := by decide +kernel
theorem dL_product_5 : decode cL_product 5 = .ok (.iconst 0, 1) := by decide +kernel
theorem dL_product_6 : decode cL_product 6 = .ok (.istore 4, 2) := by decide +kernel
theorem dL_product_8 : decode cL_product 8 = .ok (.iload 4, 2) := by decide +kernel
theorem dL_product_10 : decode cL_product 10 = .ok (.bipush 64, 2) := by decide +kernel
theorem dL_product_12 : decode cL_product 12 = .ok (.if_icmp .ge 71, 3) := by decide +kernel
theorem dL_product_15 : decode cL_product 15 = .ok (.aload_n 0, 1) := by decide +kernel
theorem dL_product_16 : decode cL_product 16 = .ok (.iload 4, 2) := by decide +kernel
theorem dL_product_18 : decode cL_product 18 = .ok (.iaload, 1) := by decide +kernel
theorem dL_product_19 : decode cL_product 19 = .ok (.ifCond .le 12, 3) := by decide +kernel
theorem dL_product_22 : decode cL_product 22 = .ok (.aload_n 0, 1) := by decide +kernel
theorem dL_product_23 : decode cL_product 23 = .ok (.iload 4, 2) := by decide +kernel
theorem dL_product_25 : decode cL_product 25 = .ok (.iaload, 1) := by decide +kernel
theorem dL_product_26 : decode cL_product 26 = .ok (.iconst 1, 1) := by decide +kernel
theorem dL_product_27 : decode cL_product 27 = .ok (.isub, 1) := by decide +kernel
theorem dL_product_28 : decode cL_product 28 = .ok (.goto 10, 3) := by decide +kernel
theorem dL_product_31 : decode cL_product 31 = .ok (.aload_n 0, 1) := by decide +kernel
theorem dL_product_32 : decode cL_product 32 = .ok (.iload 4, 2) := by decide +kernel
theorem dL_product_34 : decode cL_product 34 = .ok (.iaload, 1) := by decide +kernel
theorem dL_product_35 : decode cL_product 35 = .ok (.ineg, 1) := by decide +kernel
theorem dL_product_36 : decode cL_product 36 = .ok (.iconst 1, 1) := by decide +kernel
theorem dL_product_37 : decode cL_product 37 = .ok (.isub, 1) := by decide +kernel
theorem dL_product_38 : decode cL_product 38 = .ok (.istore 5, 2) := by decide +kernel
theorem dL_product_40 : decode cL_product 40 = .ok (.aload_n 3, 1) := by decide +kernel
theorem dL_product_41 : decode cL_product 41 = .ok (.iload 5, 2) := by decide +kernel
theorem dL_product_43 : decode cL_product 43 = .ok (.dup2, 1) := by decide +kernel
theorem dL_product_44 : decode cL_product 44 = .ok (.laload, 1) := by decide +kernel
theorem dL_product_45 : decode cL_product 45 = .ok (.aload_n 0, 1) := by decide +kernel
theorem dL_product_46 : decode cL_product 46 = .ok (.iload 4, 2) := by decide +kernel
theorem dL_product_48 : decode cL_product 48 = .ok (.iaload, 1) := by decide +kernel
theorem dL_product_49 : decode cL_product 49 = .ok (.ifCond .le 7, 3) := by decide +kernel
theorem dL_product_52 : decode cL_product 52 = .ok (.lconst 1, 1) := by decide +kernel
theorem dL_product_53 : decode cL_product 53 = .ok (.goto 6, 3) := by decide +kernel
theorem dL_product_56 : decode cL_product 56 = .ok (.ldc2_w 9, 3) := by decide +kernel
theorem dL_product_59 : decode cL_product 59 = .ok (.aload_n 1, 1) := by decide +kernel
theorem dL_product_60 : decode cL_product 60 = .ok (.iload 4, 2) := by decide +kernel
theorem dL_product_62 : decode cL_product 62 = .ok (.bipush 8, 2) := by decide +kernel
theorem dL_product_64 : decode cL_product 64 = .ok (.idiv, 1) := by decide +kernel
theorem dL_product_65 : decode cL_product 65 = .ok (.laload, 1) := by decide +kernel
theorem dL_product_66 : decode cL_product 66 = .ok (.lmul, 1) := by decide +kernel
theorem dL_product_67 : decode cL_product 67 = .ok (.aload_n 2, 1) := by decide +kernel
theorem dL_product_68 : decode cL_product 68 = .ok (.iload 4, 2) := by decide +kernel
theorem dL_product_70 : decode cL_product 70 = .ok (.bipush 8, 2) := by decide +kernel
theorem dL_product_72 : decode cL_product 72 = .ok (.irem, 1) := by decide +kernel
theorem dL_product_73 : decode cL_product 73 = .ok (.laload, 1) := by decide +kernel
theorem dL_product_74 : decode cL_product 74 = .ok (.lmul, 1) := by decide +kernel
theorem dL_product_75 : decode cL_product 75 = .ok (.ladd, 1) := by decide +kernel
theorem dL_product_76 : decode cL_product 76 = .ok (.lastore, 1) := by decide +kernel
theorem dL_product_77 : decode cL_product 77 = .ok (.iinc 4 1, 3) := by decide +kernel
theorem dL_product_80 : decode cL_product 80 = .ok (.goto (-72), 3) := by decide +kernel
theorem dL_product_83 : decode cL_product 83 = .ok (.aload_n 3, 1) := by decide +kernel
theorem dL_product_84 : decode cL_product 84 = .ok (.areturn, 1) := by decide +kernel
theorem dL_row_0 : decode cL_row 0 = .ok (.bipush 8, 2) := by decide +kernel
theorem dL_row_2 : decode cL_row 2 = .ok (.newarray .long, 2) := by decide +kernel
theorem dL_row_4 : decode cL_row 4 = .ok (.astore_n 2, 1) := by decide +kernel
theorem dL_row_5 : decode cL_row 5 = .ok (.iconst 0, 1) := by decide +kernel
theorem dL_row_6 : decode cL_row 6 = .ok (.istore_n 3, 1) := by decide +kernel
theorem dL_row_7 : decode cL_row 7 = .ok (.iload_n 3, 1) := by decide +kernel
theorem dL_row_8 : decode cL_row 8 = .ok (.bipush 8, 2) := by decide +kernel
theorem dL_row_10 : decode cL_row 10 = .ok (.if_icmp .ge 21, 3) := by decide +kernel
theorem dL_row_13 : decode cL_row 13 = .ok (.aload_n 2, 1) := by decide +kernel
theorem dL_row_14 : decode cL_row 14 = .ok (.iload_n 3, 1) := by decide +kernel
theorem dL_row_15 : decode cL_row 15 = .ok (.aload_n 0, 1) := by decide +kernel
theorem dL_row_16 : decode cL_row 16 = .ok (.bipush 8, 2) := by decide +kernel
theorem dL_row_18 : decode cL_row 18 = .ok (.iload_n 1, 1) := by decide +kernel
theorem dL_row_19 : decode cL_row 19 = .ok (.imul, 1) := by decide +kernel
theorem dL_row_20 : decode cL_row 20 = .ok (.iload_n 3, 1) := by decide +kernel
theorem dL_row_21 : decode cL_row 21 = .ok (.iadd, 1) := by decide +kernel
theorem dL_row_22 : decode cL_row 22 = .ok (.iaload, 1) := by decide +kernel
theorem dL_row_23 : decode cL_row 23 = .ok (.i2l, 1) := by decide +kernel
theorem dL_row_24 : decode cL_row 24 = .ok (.lastore, 1) := by decide +kernel
theorem dL_row_25 : decode cL_row 25 = .ok (.iinc 3 1, 3) := by decide +kernel
theorem dL_row_28 : decode cL_row 28 = .ok (.goto (-21), 3) := by decide +kernel
theorem dL_row_31 : decode cL_row 31 = .ok (.aload_n 2, 1) := by decide +kernel
theorem dL_row_32 : decode cL_row 32 = .ok (.areturn, 1) := by decide +kernel
theorem dL_less_0 : decode cL_less 0 = .ok (.bipush 8, 2) := by decide +kernel
theorem dL_less_2 : decode cL_less 2 = .ok (.newarray .long, 2) := by decide +kernel
theorem dL_less_4 : decode cL_less 4 = .ok (.astore_n 2, 1) := by decide +kernel
theorem dL_less_5 : decode cL_less 5 = .ok (.iconst 0, 1) := by decide +kernel
theorem dL_less_6 : decode cL_less 6 = .ok (.istore_n 3, 1) := by decide +kernel
theorem dL_less_7 : decode cL_less 7 = .ok (.iload_n 3, 1) := by decide +kernel
theorem dL_less_8 : decode cL_less 8 = .ok (.bipush 8, 2) := by decide +kernel
theorem dL_less_10 : decode cL_less 10 = .ok (.if_icmp .ge 19, 3) := by decide +kernel
theorem dL_less_13 : decode cL_less 13 = .ok (.aload_n 2, 1) := by decide +kernel
theorem dL_less_14 : decode cL_less 14 = .ok (.iload_n 3, 1) := by decide +kernel
theorem dL_less_15 : decode cL_less 15 = .ok (.aload_n 0, 1) := by decide +kernel
theorem dL_less_16 : decode cL_less 16 = .ok (.iload_n 3, 1) := by decide +kernel
theorem dL_less_17 : decode cL_less 17 = .ok (.laload, 1) := by decide +kernel
theorem dL_less_18 : decode cL_less 18 = .ok (.aload_n 1, 1) := by decide +kernel
theorem dL_less_19 : decode cL_less 19 = .ok (.iload_n 3, 1) := by decide +kernel
theorem dL_less_20 : decode cL_less 20 = .ok (.laload, 1) := by decide +kernel
theorem dL_less_21 : decode cL_less 21 = .ok (.lsub, 1) := by decide +kernel
theorem dL_less_22 : decode cL_less 22 = .ok (.lastore, 1) := by decide +kernel
theorem dL_less_23 : decode cL_less 23 = .ok (.iinc 3 1, 3) := by decide +kernel
theorem dL_less_26 : decode cL_less 26 = .ok (.goto (-19), 3) := by decide +kernel
theorem dL_less_29 : decode cL_less 29 = .ok (.aload_n 2, 1) := by decide +kernel
theorem dL_less_30 : decode cL_less 30 = .ok (.areturn, 1) := by decide +kernel
theorem dL_square_0 : decode cL_square 0 = .ok (.lconst 0, 1) := by decide +kernel
theorem dL_square_1 : decode cL_square 1 = .ok (.lstore_n 1, 1) := by decide +kernel
theorem dL_square_2 : decode cL_square 2 = .ok (.iconst 0, 1) := by decide +kernel
theorem dL_square_3 : decode cL_square 3 = .ok (.istore_n 3, 1) := by decide +kernel
theorem dL_square_4 : decode cL_square 4 = .ok (.iload_n 3, 1) := by decide +kernel
theorem dL_square_5 : decode cL_square 5 = .ok (.bipush 8, 2) := by decide +kernel
theorem dL_square_7 : decode cL_square 7 = .ok (.if_icmp .ge 19, 3) := by decide +kernel
theorem dL_square_10 : decode cL_square 10 = .ok (.lload_n 1, 1) := by decide +kernel
theorem dL_square_11 : decode cL_square 11 = .ok (.aload_n 0, 1) := by decide +kernel
theorem dL_square_12 : decode cL_square 12 = .ok (.iload_n 3, 1) := by decide +kernel
theorem dL_square_13 : decode cL_square 13 = .ok (.laload, 1) := by decide +kernel
theorem dL_square_14 : decode cL_square 14 = .ok (.aload_n 0, 1) := by decide +kernel
theorem dL_square_15 : decode cL_square 15 = .ok (.iload_n 3, 1) := by decide +kernel
theorem dL_square_16 : decode cL_square 16 = .ok (.laload, 1) := by decide +kernel
theorem dL_square_17 : decode cL_square 17 = .ok (.lmul, 1) := by decide +kernel
theorem dL_square_18 : decode cL_square 18 = .ok (.ladd, 1) := by decide +kernel
theorem dL_square_19 : decode cL_square 19 = .ok (.lstore_n 1, 1) := by decide +kernel
theorem dL_square_20 : decode cL_square 20 = .ok (.iinc 3 1, 3) := by decide +kernel
theorem dL_square_23 : decode cL_square 23 = .ok (.goto (-19), 3) := by decide +kernel
theorem dL_square_26 : decode cL_square 26 = .ok (.lload_n 1, 1) := by decide +kernel
theorem dL_square_27 : decode cL_square 27 = .ok (.lreturn, 1) := by decide +kernel
theorem dL_isNought_0 : decode cL_isNought 0 = .ok (.iconst 1, 1) := by decide +kernel
theorem dL_isNought_1 : decode cL_isNought 1 = .ok (.istore_n 1, 1) := by decide +kernel
theorem dL_isNought_2 : decode cL_isNought 2 = .ok (.iconst 0, 1) := by decide +kernel
theorem dL_isNought_3 : decode cL_isNought 3 = .ok (.istore_n 2, 1) := by decide +kernel
theorem dL_isNought_4 : decode cL_isNought 4 = .ok (.iload_n 2, 1) := by decide +kernel
theorem dL_isNought_5 : decode cL_isNought 5 = .ok (.bipush 8, 2) := by decide +kernel
theorem dL_isNought_7 : decode cL_isNought 7 = .ok (.if_icmp .ge 27, 3) := by decide +kernel
theorem dL_isNought_10 : decode cL_isNought 10 = .ok (.iload_n 1, 1) := by decide +kernel
theorem dL_isNought_11 : decode cL_isNought 11 = .ok (.ifCond .eq 15, 3) := by decide +kernel
theorem dL_isNought_14 : decode cL_isNought 14 = .ok (.aload_n 0, 1) := by decide +kernel
theorem dL_isNought_15 : decode cL_isNought 15 = .ok (.iload_n 2, 1) := by decide +kernel
theorem dL_isNought_16 : decode cL_isNought 16 = .ok (.laload, 1) := by decide +kernel
theorem dL_isNought_17 : decode cL_isNought 17 = .ok (.lconst 0, 1) := by decide +kernel
theorem dL_isNought_18 : decode cL_isNought 18 = .ok (.lcmp, 1) := by decide +kernel
theorem dL_isNought_19 : decode cL_isNought 19 = .ok (.ifCond .ne 7, 3) := by decide +kernel
theorem dL_isNought_22 : decode cL_isNought 22 = .ok (.iconst 1, 1) := by decide +kernel
theorem dL_isNought_23 : decode cL_isNought 23 = .ok (.goto 4, 3) := by decide +kernel
theorem dL_isNought_26 : decode cL_isNought 26 = .ok (.iconst 0, 1) := by decide +kernel
theorem dL_isNought_27 : decode cL_isNought 27 = .ok (.istore_n 1, 1) := by decide +kernel
theorem dL_isNought_28 : decode cL_isNought 28 = .ok (.iinc 2 1, 3) := by decide +kernel
theorem dL_isNought_31 : decode cL_isNought 31 = .ok (.goto (-27), 3) := by decide +kernel
theorem dL_isNought_34 : decode cL_isNought 34 = .ok (.iload_n 1, 1) := by decide +kernel
theorem dL_isNought_35 : decode cL_isNought 35 = .ok (.ireturn, 1) := by decide +kernel
theorem dL_puts_0 : decode cL_puts 0 = .ok (.iconst 1, 1) := by decide +kernel
theorem dL_puts_1 : decode cL_puts 1 = .ok (.istore 5, 2) := by decide +kernel
theorem dL_puts_3 : decode cL_puts 3 = .ok (.iconst 0, 1) := by decide +kernel
theorem dL_puts_4 : decode cL_puts 4 = .ok (.istore 6, 2) := by decide +kernel
theorem dL_puts_6 : decode cL_puts 6 = .ok (.iload 6, 2) := by decide +kernel
theorem dL_puts_8 : decode cL_puts 8 = .ok (.bipush 8, 2) := by decide +kernel
theorem dL_puts_10 : decode cL_puts 10 = .ok (.if_icmp .ge 58, 3) := by decide +kernel
theorem dL_puts_13 : decode cL_puts 13 = .ok (.iload 5, 2) := by decide +kernel
theorem dL_puts_15 : decode cL_puts 15 = .ok (.ifCond .eq 44, 3) := by decide +kernel
theorem dL_puts_18 : decode cL_puts 18 = .ok (.aload_n 2, 1) := by decide +kernel
theorem dL_puts_19 : decode cL_puts 19 = .ok (.iload 6, 2) := by decide +kernel
theorem dL_puts_21 : decode cL_puts 21 = .ok (.laload, 1) := by decide +kernel
theorem dL_puts_22 : decode cL_puts 22 = .ok (.lload_n 3, 1) := by decide +kernel
theorem dL_puts_23 : decode cL_puts 23 = .ok (.lrem, 1) := by decide +kernel
theorem dL_puts_24 : decode cL_puts 24 = .ok (.lconst 0, 1) := by decide +kernel
theorem dL_puts_25 : decode cL_puts 25 = .ok (.lcmp, 1) := by decide +kernel
theorem dL_puts_26 : decode cL_puts 26 = .ok (.ifCond .ne 33, 3) := by decide +kernel
theorem dL_puts_29 : decode cL_puts 29 = .ok (.aload_n 2, 1) := by decide +kernel
theorem dL_puts_30 : decode cL_puts 30 = .ok (.iload 6, 2) := by decide +kernel
theorem dL_puts_32 : decode cL_puts 32 = .ok (.laload, 1) := by decide +kernel
theorem dL_puts_33 : decode cL_puts 33 = .ok (.lload_n 3, 1) := by decide +kernel
theorem dL_puts_34 : decode cL_puts 34 = .ok (.ldiv, 1) := by decide +kernel
theorem dL_puts_35 : decode cL_puts 35 = .ok (.ldc2_w 11, 3) := by decide +kernel
theorem dL_puts_38 : decode cL_puts 38 = .ok (.lcmp, 1) := by decide +kernel
theorem dL_puts_39 : decode cL_puts 39 = .ok (.ifCond .gt 20, 3) := by decide +kernel
theorem dL_puts_42 : decode cL_puts 42 = .ok (.aload_n 2, 1) := by decide +kernel
theorem dL_puts_43 : decode cL_puts 43 = .ok (.iload 6, 2) := by decide +kernel
theorem dL_puts_45 : decode cL_puts 45 = .ok (.laload, 1) := by decide +kernel
theorem dL_puts_46 : decode cL_puts 46 = .ok (.lload_n 3, 1) := by decide +kernel
theorem dL_puts_47 : decode cL_puts 47 = .ok (.ldiv, 1) := by decide +kernel
theorem dL_puts_48 : decode cL_puts 48 = .ok (.ldc2_w 13, 3) := by decide +kernel
theorem dL_puts_51 : decode cL_puts 51 = .ok (.lcmp, 1) := by decide +kernel
theorem dL_puts_52 : decode cL_puts 52 = .ok (.ifCond .lt 7, 3) := by decide +kernel
theorem dL_puts_55 : decode cL_puts 55 = .ok (.iconst 1, 1) := by decide +kernel
theorem dL_puts_56 : decode cL_puts 56 = .ok (.goto 4, 3) := by decide +kernel
theorem dL_puts_59 : decode cL_puts 59 = .ok (.iconst 0, 1) := by decide +kernel
theorem dL_puts_60 : decode cL_puts 60 = .ok (.istore 5, 2) := by decide +kernel
theorem dL_puts_62 : decode cL_puts 62 = .ok (.iinc 6 1, 3) := by decide +kernel
theorem dL_puts_65 : decode cL_puts 65 = .ok (.goto (-59), 3) := by decide +kernel
theorem dL_puts_68 : decode cL_puts 68 = .ok (.iconst 0, 1) := by decide +kernel
theorem dL_puts_69 : decode cL_puts 69 = .ok (.istore 6, 2) := by decide +kernel
theorem dL_puts_71 : decode cL_puts 71 = .ok (.iload 6, 2) := by decide +kernel
theorem dL_puts_73 : decode cL_puts 73 = .ok (.bipush 8, 2) := by decide +kernel
theorem dL_puts_75 : decode cL_puts 75 = .ok (.if_icmp .ge 30, 3) := by decide +kernel
theorem dL_puts_78 : decode cL_puts 78 = .ok (.iload 5, 2) := by decide +kernel
theorem dL_puts_80 : decode cL_puts 80 = .ok (.ifCond .eq 25, 3) := by decide +kernel
theorem dL_puts_83 : decode cL_puts 83 = .ok (.aload_n 0, 1) := by decide +kernel
theorem dL_puts_84 : decode cL_puts 84 = .ok (.bipush 8, 2) := by decide +kernel
theorem dL_puts_86 : decode cL_puts 86 = .ok (.iload_n 1, 1) := by decide +kernel
theorem dL_puts_87 : decode cL_puts 87 = .ok (.imul, 1) := by decide +kernel
theorem dL_puts_88 : decode cL_puts 88 = .ok (.iload 6, 2) := by decide +kernel
theorem dL_puts_90 : decode cL_puts 90 = .ok (.iadd, 1) := by decide +kernel
theorem dL_puts_91 : decode cL_puts 91 = .ok (.aload_n 2, 1) := by decide +kernel
theorem dL_puts_92 : decode cL_puts 92 = .ok (.iload 6, 2) := by decide +kernel
theorem dL_puts_94 : decode cL_puts 94 = .ok (.laload, 1) := by decide +kernel
theorem dL_puts_95 : decode cL_puts 95 = .ok (.lload_n 3, 1) := by decide +kernel
theorem dL_puts_96 : decode cL_puts 96 = .ok (.ldiv, 1) := by decide +kernel
theorem dL_puts_97 : decode cL_puts 97 = .ok (.l2i, 1) := by decide +kernel
theorem dL_puts_98 : decode cL_puts 98 = .ok (.iastore, 1) := by decide +kernel
theorem dL_puts_99 : decode cL_puts 99 = .ok (.iinc 6 1, 3) := by decide +kernel
theorem dL_puts_102 : decode cL_puts 102 = .ok (.goto (-31), 3) := by decide +kernel
theorem dL_puts_105 : decode cL_puts 105 = .ok (.iload 5, 2) := by decide +kernel
theorem dL_puts_107 : decode cL_puts 107 = .ok (.ireturn, 1) := by decide +kernel
theorem dL_isOne_0 : decode cL_isOne 0 = .ok (.iload_n 0, 1) := by decide +kernel
theorem dL_isOne_1 : decode cL_isOne 1 = .ok (.istore_n 2, 1) := by decide +kernel
theorem dL_isOne_2 : decode cL_isOne 2 = .ok (.iload_n 0, 1) := by decide +kernel
theorem dL_isOne_3 : decode cL_isOne 3 = .ok (.iconst 1, 1) := by decide +kernel
theorem dL_isOne_4 : decode cL_isOne 4 = .ok (.iand, 1) := by decide +kernel
theorem dL_isOne_5 : decode cL_isOne 5 = .ok (.iload_n 0, 1) := by decide +kernel
theorem dL_isOne_6 : decode cL_isOne 6 = .ok (.iload_n 1, 1) := by decide +kernel
theorem dL_isOne_7 : decode cL_isOne 7 = .ok (.ishr, 1) := by decide +kernel
theorem dL_isOne_8 : decode cL_isOne 8 = .ok (.iconst 1, 1) := by decide +kernel
theorem dL_isOne_9 : decode cL_isOne 9 = .ok (.iand, 1) := by decide +kernel
theorem dL_isOne_10 : decode cL_isOne 10 = .ok (.if_icmp .eq 11, 3) := by decide +kernel
theorem dL_isOne_13 : decode cL_isOne 13 = .ok (.iload_n 0, 1) := by decide +kernel
theorem dL_isOne_14 : decode cL_isOne 14 = .ok (.iconst 1, 1) := by decide +kernel
theorem dL_isOne_15 : decode cL_isOne 15 = .ok (.ixor, 1) := by decide +kernel
theorem dL_isOne_16 : decode cL_isOne 16 = .ok (.iconst 1, 1) := by decide +kernel
theorem dL_isOne_17 : decode cL_isOne 17 = .ok (.iload_n 1, 1) := by decide +kernel
theorem dL_isOne_18 : decode cL_isOne 18 = .ok (.ishl, 1) := by decide +kernel
theorem dL_isOne_19 : decode cL_isOne 19 = .ok (.ixor, 1) := by decide +kernel
theorem dL_isOne_20 : decode cL_isOne 20 = .ok (.istore_n 2, 1) := by decide +kernel
theorem dL_isOne_21 : decode cL_isOne 21 = .ok (.iload_n 2, 1) := by decide +kernel
theorem dL_isOne_22 : decode cL_isOne 22 = .ok (.iconst 1, 1) := by decide +kernel
theorem dL_isOne_23 : decode cL_isOne 23 = .ok (.iand, 1) := by decide +kernel
theorem dL_isOne_24 : decode cL_isOne 24 = .ok (.iconst 1, 1) := by decide +kernel
theorem dL_isOne_25 : decode cL_isOne 25 = .ok (.if_icmp .ne 7, 3) := by decide +kernel
theorem dL_isOne_28 : decode cL_isOne 28 = .ok (.iload_n 2, 1) := by decide +kernel
theorem dL_isOne_29 : decode cL_isOne 29 = .ok (.goto 8, 3) := by decide +kernel
theorem dL_isOne_32 : decode cL_isOne 32 = .ok (.iload_n 2, 1) := by decide +kernel
theorem dL_isOne_33 : decode cL_isOne 33 = .ok (.sipush 255, 3) := by decide +kernel
theorem dL_isOne_36 : decode cL_isOne 36 = .ok (.ixor, 1) := by decide +kernel
theorem dL_isOne_37 : decode cL_isOne 37 = .ok (.istore_n 2, 1) := by decide +kernel
theorem dL_isOne_38 : decode cL_isOne 38 = .ok (.iload_n 2, 1) := by decide +kernel
theorem dL_isOne_39 : decode cL_isOne 39 = .ok (.sipush 255, 3) := by decide +kernel
theorem dL_isOne_42 : decode cL_isOne 42 = .ok (.if_icmp .ne 7, 3) := by decide +kernel
theorem dL_isOne_45 : decode cL_isOne 45 = .ok (.iconst 1, 1) := by decide +kernel
theorem dL_isOne_46 : decode cL_isOne 46 = .ok (.goto 4, 3) := by decide +kernel
theorem dL_isOne_49 : decode cL_isOne 49 = .ok (.iconst 0, 1) := by decide +kernel
theorem dL_isOne_50 : decode cL_isOne 50 = .ok (.istore_n 3, 1) := by decide +kernel
theorem dL_isOne_51 : decode cL_isOne 51 = .ok (.iconst 1, 1) := by decide +kernel
theorem dL_isOne_52 : decode cL_isOne 52 = .ok (.istore 4, 2) := by decide +kernel
theorem dL_isOne_54 : decode cL_isOne 54 = .ok (.iload 4, 2) := by decide +kernel
theorem dL_isOne_56 : decode cL_isOne 56 = .ok (.bipush 8, 2) := by decide +kernel
theorem dL_isOne_58 : decode cL_isOne 58 = .ok (.if_icmp .ge 51, 3) := by decide +kernel
theorem dL_isOne_61 : decode cL_isOne 61 = .ok (.iload_n 3, 1) := by decide +kernel
theorem dL_isOne_62 : decode cL_isOne 62 = .ok (.ifCond .ne 35, 3) := by decide +kernel
theorem dL_isOne_65 : decode cL_isOne 65 = .ok (.iload_n 2, 1) := by decide +kernel
theorem dL_isOne_66 : decode cL_isOne 66 = .ok (.iconst 1, 1) := by decide +kernel
theorem dL_isOne_67 : decode cL_isOne 67 = .ok (.iconst 1, 1) := by decide +kernel
theorem dL_isOne_68 : decode cL_isOne 68 = .ok (.iload 4, 2) := by decide +kernel
theorem dL_isOne_70 : decode cL_isOne 70 = .ok (.ishl, 1) := by decide +kernel
theorem dL_isOne_71 : decode cL_isOne 71 = .ok (.ior, 1) := by decide +kernel
theorem dL_isOne_72 : decode cL_isOne 72 = .ok (.iconst 1, 1) := by decide +kernel
theorem dL_isOne_73 : decode cL_isOne 73 = .ok (.iload 4, 2) := by decide +kernel
theorem dL_isOne_75 : decode cL_isOne 75 = .ok (.bipush 7, 2) := by decide +kernel
theorem dL_isOne_77 : decode cL_isOne 77 = .ok (.irem, 1) := by decide +kernel
theorem dL_isOne_78 : decode cL_isOne 78 = .ok (.iconst 1, 1) := by decide +kernel
theorem dL_isOne_79 : decode cL_isOne 79 = .ok (.iadd, 1) := by decide +kernel
theorem dL_isOne_80 : decode cL_isOne 80 = .ok (.ishl, 1) := by decide +kernel
theorem dL_isOne_81 : decode cL_isOne 81 = .ok (.ior, 1) := by decide +kernel
theorem dL_isOne_82 : decode cL_isOne 82 = .ok (.iconst 1, 1) := by decide +kernel
theorem dL_isOne_83 : decode cL_isOne 83 = .ok (.iload 4, 2) := by decide +kernel
theorem dL_isOne_85 : decode cL_isOne 85 = .ok (.iconst 2, 1) := by decide +kernel
theorem dL_isOne_86 : decode cL_isOne 86 = .ok (.iadd, 1) := by decide +kernel
theorem dL_isOne_87 : decode cL_isOne 87 = .ok (.bipush 7, 2) := by decide +kernel
theorem dL_isOne_89 : decode cL_isOne 89 = .ok (.irem, 1) := by decide +kernel
theorem dL_isOne_90 : decode cL_isOne 90 = .ok (.iconst 1, 1) := by decide +kernel
theorem dL_isOne_91 : decode cL_isOne 91 = .ok (.iadd, 1) := by decide +kernel
theorem dL_isOne_92 : decode cL_isOne 92 = .ok (.ishl, 1) := by decide +kernel
theorem dL_isOne_93 : decode cL_isOne 93 = .ok (.ior, 1) := by decide +kernel
theorem dL_isOne_94 : decode cL_isOne 94 = .ok (.if_icmp .ne 7, 3) := by decide +kernel
theorem dL_isOne_97 : decode cL_isOne 97 = .ok (.iconst 1, 1) := by decide +kernel
theorem dL_isOne_98 : decode cL_isOne 98 = .ok (.goto 4, 3) := by decide +kernel
theorem dL_isOne_101 : decode cL_isOne 101 = .ok (.iconst 0, 1) := by decide +kernel
theorem dL_isOne_102 : decode cL_isOne 102 = .ok (.istore_n 3, 1) := by decide +kernel
theorem dL_isOne_103 : decode cL_isOne 103 = .ok (.iinc 4 1, 3) := by decide +kernel
theorem dL_isOne_106 : decode cL_isOne 106 = .ok (.goto (-52), 3) := by decide +kernel
theorem dL_isOne_109 : decode cL_isOne 109 = .ok (.iload_n 1, 1) := by decide +kernel
theorem dL_isOne_110 : decode cL_isOne 110 = .ok (.ifCond .ne 15, 3) := by decide +kernel
theorem dL_isOne_113 : decode cL_isOne 113 = .ok (.iload_n 0, 1) := by decide +kernel
theorem dL_isOne_114 : decode cL_isOne 114 = .ok (.ifCond .ne 7, 3) := by decide +kernel
theorem dL_isOne_117 : decode cL_isOne 117 = .ok (.iconst 1, 1) := by decide +kernel
theorem dL_isOne_118 : decode cL_isOne 118 = .ok (.goto 8, 3) := by decide +kernel
theorem dL_isOne_121 : decode cL_isOne 121 = .ok (.iconst 0, 1) := by decide +kernel
theorem dL_isOne_122 : decode cL_isOne 122 = .ok (.goto 4, 3) := by decide +kernel
theorem dL_isOne_125 : decode cL_isOne 125 = .ok (.iload_n 3, 1) := by decide +kernel
theorem dL_isOne_126 : decode cL_isOne 126 = .ok (.ireturn, 1) := by decide +kernel
theorem dL_isIn_0 : decode cL_isIn 0 = .ok (.iconst 0, 1) := by decide +kernel
theorem dL_isIn_1 : decode cL_isIn 1 = .ok (.istore_n 2, 1) := by decide +kernel
theorem dL_isIn_2 : decode cL_isIn 2 = .ok (.iconst 0, 1) := by decide +kernel
theorem dL_isIn_3 : decode cL_isIn 3 = .ok (.istore_n 3, 1) := by decide +kernel
theorem dL_isIn_4 : decode cL_isIn 4 = .ok (.iload_n 3, 1) := by decide +kernel
theorem dL_isIn_5 : decode cL_isIn 5 = .ok (.bipush 8, 2) := by decide +kernel
theorem dL_isIn_7 : decode cL_isIn 7 = .ok (.if_icmp .ge 29, 3) := by decide +kernel
theorem dL_isIn_10 : decode cL_isIn 10 = .ok (.iload_n 2, 1) := by decide +kernel
theorem dL_isIn_11 : decode cL_isIn 11 = .ok (.aload_n 0, 1) := by decide +kernel
theorem dL_isIn_12 : decode cL_isIn 12 = .ok (.iload_n 3, 1) := by decide +kernel
theorem dL_isIn_13 : decode cL_isIn 13 = .ok (.laload, 1) := by decide +kernel
theorem dL_isIn_14 : decode cL_isIn 14 = .ok (.lconst 1, 1) := by decide +kernel
theorem dL_isIn_15 : decode cL_isIn 15 = .ok (.land, 1) := by decide +kernel
theorem dL_isIn_16 : decode cL_isIn 16 = .ok (.lconst 1, 1) := by decide +kernel
theorem dL_isIn_17 : decode cL_isIn 17 = .ok (.lcmp, 1) := by decide +kernel
theorem dL_isIn_18 : decode cL_isIn 18 = .ok (.ifCond .ne 9, 3) := by decide +kernel
theorem dL_isIn_21 : decode cL_isIn 21 = .ok (.iconst 1, 1) := by decide +kernel
theorem dL_isIn_22 : decode cL_isIn 22 = .ok (.iload_n 3, 1) := by decide +kernel
theorem dL_isIn_23 : decode cL_isIn 23 = .ok (.ishl, 1) := by decide +kernel
theorem dL_isIn_24 : decode cL_isIn 24 = .ok (.goto 4, 3) := by decide +kernel
theorem dL_isIn_27 : decode cL_isIn 27 = .ok (.iconst 0, 1) := by decide +kernel
theorem dL_isIn_28 : decode cL_isIn 28 = .ok (.ior, 1) := by decide +kernel
theorem dL_isIn_29 : decode cL_isIn 29 = .ok (.istore_n 2, 1) := by decide +kernel
theorem dL_isIn_30 : decode cL_isIn 30 = .ok (.iinc 3 1, 3) := by decide +kernel
theorem dL_isIn_33 : decode cL_isIn 33 = .ok (.goto (-29), 3) := by decide +kernel
theorem dL_isIn_36 : decode cL_isIn 36 = .ok (.iload_n 2, 1) := by decide +kernel
theorem dL_isIn_37 : decode cL_isIn 37 = .ok (.iload_n 1, 1) := by decide +kernel
theorem dL_isIn_38 : decode cL_isIn 38 = .ok (.invokestatic 15, 3) := by decide +kernel
theorem dL_isIn_41 : decode cL_isIn 41 = .ok (.ireturn, 1) := by decide +kernel
theorem dL_units_0 : decode cL_units 0 = .ok (.iconst 0, 1) := by decide +kernel
theorem dL_units_1 : decode cL_units 1 = .ok (.istore 4, 2) := by decide +kernel
theorem dL_units_3 : decode cL_units 3 = .ok (.iconst (-1), 1) := by decide +kernel
theorem dL_units_4 : decode cL_units 4 = .ok (.istore 5, 2) := by decide +kernel
theorem dL_units_6 : decode cL_units 6 = .ok (.bipush 8, 2) := by decide +kernel
theorem dL_units_8 : decode cL_units 8 = .ok (.newarray .long, 2) := by decide +kernel
theorem dL_units_10 : decode cL_units 10 = .ok (.astore 6, 2) := by decide +kernel
theorem dL_units_12 : decode cL_units 12 = .ok (.iconst 0, 1) := by decide +kernel
theorem dL_units_13 : decode cL_units 13 = .ok (.istore 7, 2) := by decide +kernel
theorem dL_units_15 : decode cL_units 15 = .ok (.aload 6, 2) := by decide +kernel
theorem dL_units_17 : decode cL_units 17 = .ok (.iconst 0, 1) := by decide +kernel
theorem dL_units_18 : decode cL_units 18 = .ok (.ldc2_w 21, 3) := by decide +kernel
theorem dL_units_21 : decode cL_units 21 = .ok (.lastore, 1) := by decide +kernel
theorem dL_units_22 : decode cL_units 22 = .ok (.iload 7, 2) := by decide +kernel
theorem dL_units_24 : decode cL_units 24 = .ok (.ifCond .lt 178, 3) := by decide +kernel
theorem dL_units_27 : decode cL_units 27 = .ok (.aload 6, 2) := by decide +kernel
theorem dL_units_29 : decode cL_units 29 = .ok (.iload 7, 2) := by decide +kernel
theorem dL_units_31 : decode cL_units 31 = .ok (.dup2, 1) := by decide +kernel
theorem dL_units_32 : decode cL_units 32 = .ok (.laload, 1) := by decide +kernel
theorem dL_units_33 : decode cL_units 33 = .ok (.lconst 1, 1) := by decide +kernel
theorem dL_units_34 : decode cL_units 34 = .ok (.ladd, 1) := by decide +kernel
theorem dL_units_35 : decode cL_units 35 = .ok (.lastore, 1) := by decide +kernel
theorem dL_units_36 : decode cL_units 36 = .ok (.lconst 0, 1) := by decide +kernel
theorem dL_units_37 : decode cL_units 37 = .ok (.lstore 8, 2) := by decide +kernel
theorem dL_units_39 : decode cL_units 39 = .ok (.iconst 0, 1) := by decide +kernel
theorem dL_units_40 : decode cL_units 40 = .ok (.istore 10, 2) := by decide +kernel
theorem dL_units_42 : decode cL_units 42 = .ok (.iload 10, 2) := by decide +kernel
theorem dL_units_44 : decode cL_units 44 = .ok (.iload 7, 2) := by decide +kernel
theorem dL_units_46 : decode cL_units 46 = .ok (.if_icmp .gt 25, 3) := by decide +kernel
theorem dL_units_49 : decode cL_units 49 = .ok (.lload 8, 2) := by decide +kernel
theorem dL_units_51 : decode cL_units 51 = .ok (.aload 6, 2) := by decide +kernel
theorem dL_units_53 : decode cL_units 53 = .ok (.iload 10, 2) := by decide +kernel
theorem dL_units_55 : decode cL_units 55 = .ok (.laload, 1) := by decide +kernel
theorem dL_units_56 : decode cL_units 56 = .ok (.aload 6, 2) := by decide +kernel
theorem dL_units_58 : decode cL_units 58 = .ok (.iload 10, 2) := by decide +kernel
theorem dL_units_60 : decode cL_units 60 = .ok (.laload, 1) := by decide +kernel
theorem dL_units_61 : decode cL_units 61 = .ok (.lmul, 1) := by decide +kernel
theorem dL_units_62 : decode cL_units 62 = .ok (.ladd, 1) := by decide +kernel
theorem dL_units_63 : decode cL_units 63 = .ok (.lstore 8, 2) := by decide +kernel
theorem dL_units_65 : decode cL_units 65 = .ok (.iinc 10 1, 3) := by decide +kernel
theorem dL_units_68 : decode cL_units 68 = .ok (.goto (-26), 3) := by decide +kernel
theorem dL_units_71 : decode cL_units 71 = .ok (.aload 6, 2) := by decide +kernel
theorem dL_units_73 : decode cL_units 73 = .ok (.iload 7, 2) := by decide +kernel
theorem dL_units_75 : decode cL_units 75 = .ok (.laload, 1) := by decide +kernel
theorem dL_units_76 : decode cL_units 76 = .ok (.ldc2_w 23, 3) := by decide +kernel
theorem dL_units_79 : decode cL_units 79 = .ok (.lcmp, 1) := by decide +kernel
theorem dL_units_80 : decode cL_units 80 = .ok (.ifCond .le 9, 3) := by decide +kernel
theorem dL_units_83 : decode cL_units 83 = .ok (.iinc 7 (-1), 3) := by decide +kernel
theorem dL_units_86 : decode cL_units 86 = .ok (.goto 113, 3) := by decide +kernel
theorem dL_units_89 : decode cL_units 89 = .ok (.lload 8, 2) := by decide +kernel
theorem dL_units_91 : decode cL_units 91 = .ok (.ldc2_w 25, 3) := by decide +kernel
theorem dL_units_94 : decode cL_units 94 = .ok (.lcmp, 1) := by decide +kernel
theorem dL_units_95 : decode cL_units 95 = .ok (.ifCond .gt 24, 3) := by decide +kernel
theorem dL_units_98 : decode cL_units 98 = .ok (.iload 7, 2) := by decide +kernel
theorem dL_units_100 : decode cL_units 100 = .ok (.bipush 7, 2) := by decide +kernel
theorem dL_units_102 : decode cL_units 102 = .ok (.if_icmp .ge 17, 3) := by decide +kernel
theorem dL_units_105 : decode cL_units 105 = .ok (.iinc 7 1, 3) := by decide +kernel
theorem dL_units_108 : decode cL_units 108 = .ok (.aload 6, 2) := by decide +kernel
theorem dL_units_110 : decode cL_units 110 = .ok (.iload 7, 2) := by decide +kernel
theorem dL_units_112 : decode cL_units 112 = .ok (.ldc2_w 21, 3) := by decide +kernel
theorem dL_units_115 : decode cL_units 115 = .ok (.lastore, 1) := by decide +kernel
theorem dL_units_116 : decode cL_units 116 = .ok (.goto 83, 3) := by decide +kernel
theorem dL_units_119 : decode cL_units 119 = .ok (.iload 7, 2) := by decide +kernel
theorem dL_units_121 : decode cL_units 121 = .ok (.bipush 7, 2) := by decide +kernel
theorem dL_units_123 : decode cL_units 123 = .ok (.if_icmp .ne 76, 3) := by decide +kernel
theorem dL_units_126 : decode cL_units 126 = .ok (.lload 8, 2) := by decide +kernel
theorem dL_units_128 : decode cL_units 128 = .ok (.ldc2_w 25, 3) := by decide +kernel
theorem dL_units_131 : decode cL_units 131 = .ok (.lcmp, 1) := by decide +kernel
theorem dL_units_132 : decode cL_units 132 = .ok (.ifCond .ne 67, 3) := by decide +kernel
theorem dL_units_135 : decode cL_units 135 = .ok (.aload 6, 2) := by decide +kernel
theorem dL_units_137 : decode cL_units 137 = .ok (.iload_n 0, 1) := by decide +kernel
theorem dL_units_138 : decode cL_units 138 = .ok (.invokestatic 27, 3) := by decide +kernel
theorem dL_units_141 : decode cL_units 141 = .ok (.ifCond .eq 58, 3) := by decide +kernel
theorem dL_units_144 : decode cL_units 144 = .ok (.aload 6, 2) := by decide +kernel
theorem dL_units_146 : decode cL_units 146 = .ok (.aload_n 1, 1) := by decide +kernel
theorem dL_units_147 : decode cL_units 147 = .ok (.invokestatic 31, 3) := by decide +kernel
theorem dL_units_150 : decode cL_units 150 = .ok (.invokestatic 35, 3) := by decide +kernel
theorem dL_units_153 : decode cL_units 153 = .ok (.ifCond .eq 8, 3) := by decide +kernel
theorem dL_units_156 : decode cL_units 156 = .ok (.iload 4, 2) := by decide +kernel
theorem dL_units_158 : decode cL_units 158 = .ok (.goto 5, 3) := by decide +kernel
theorem dL_units_161 : decode cL_units 161 = .ok (.iload 5, 2) := by decide +kernel
theorem dL_units_163 : decode cL_units 163 = .ok (.istore 5, 2) := by decide +kernel
theorem dL_units_165 : decode cL_units 165 = .ok (.iconst 0, 1) := by decide +kernel
theorem dL_units_166 : decode cL_units 166 = .ok (.istore 10, 2) := by decide +kernel
theorem dL_units_168 : decode cL_units 168 = .ok (.iload 10, 2) := by decide +kernel
theorem dL_units_170 : decode cL_units 170 = .ok (.bipush 8, 2) := by decide +kernel
theorem dL_units_172 : decode cL_units 172 = .ok (.if_icmp .ge 24, 3) := by decide +kernel
theorem dL_units_175 : decode cL_units 175 = .ok (.iload 4, 2) := by decide +kernel
theorem dL_units_177 : decode cL_units 177 = .ok (.iload_n 3, 1) := by decide +kernel
theorem dL_units_178 : decode cL_units 178 = .ok (.if_icmp .ne 18, 3) := by decide +kernel
theorem dL_units_181 : decode cL_units 181 = .ok (.aload_n 2, 1) := by decide +kernel
theorem dL_units_182 : decode cL_units 182 = .ok (.iload 10, 2) := by decide +kernel
theorem dL_units_184 : decode cL_units 184 = .ok (.aload 6, 2) := by decide +kernel
theorem dL_units_186 : decode cL_units 186 = .ok (.iload 10, 2) := by decide +kernel
theorem dL_units_188 : decode cL_units 188 = .ok (.laload, 1) := by decide +kernel
theorem dL_units_189 : decode cL_units 189 = .ok (.lastore, 1) := by decide +kernel
theorem dL_units_190 : decode cL_units 190 = .ok (.iinc 10 1, 3) := by decide +kernel
theorem dL_units_193 : decode cL_units 193 = .ok (.goto (-25), 3) := by decide +kernel
theorem dL_units_196 : decode cL_units 196 = .ok (.iinc 4 1, 3) := by decide +kernel
theorem dL_units_199 : decode cL_units 199 = .ok (.goto (-177), 3) := by decide +kernel
theorem dL_units_202 : decode cL_units 202 = .ok (.iload_n 3, 1) := by decide +kernel
theorem dL_units_203 : decode cL_units 203 = .ok (.ifCond .ge 8, 3) := by decide +kernel
theorem dL_units_206 : decode cL_units 206 = .ok (.iload 5, 2) := by decide +kernel
theorem dL_units_208 : decode cL_units 208 = .ok (.goto 5, 3) := by decide +kernel
theorem dL_units_211 : decode cL_units 211 = .ok (.iload 4, 2) := by decide +kernel
theorem dL_units_213 : decode cL_units 213 = .ok (.ireturn, 1) := by decide +kernel
theorem dL_many_0 : decode cL_many 0 = .ok (.iload_n 0, 1) := by decide +kernel
theorem dL_many_1 : decode cL_many 1 = .ok (.ifCond .ne 8, 3) := by decide +kernel
theorem dL_many_4 : decode cL_many 4 = .ok (.bipush 16, 2) := by decide +kernel
theorem dL_many_6 : decode cL_many 6 = .ok (.goto 6, 3) := by decide +kernel
theorem dL_many_9 : decode cL_many 9 = .ok (.sipush 240, 3) := by decide +kernel
theorem dL_many_12 : decode cL_many 12 = .ok (.ireturn, 1) := by decide +kernel
theorem dL_rest_0 : decode cL_rest 0 = .ok (.aload_n 0, 1) := by decide +kernel
theorem dL_rest_1 : decode cL_rest 1 = .ok (.aload_n 3, 1) := by decide +kernel
theorem dL_rest_2 : decode cL_rest 2 = .ok (.aload_n 2, 1) := by decide +kernel
theorem dL_rest_3 : decode cL_rest 3 = .ok (.invokestatic 39, 3) := by decide +kernel
theorem dL_rest_6 : decode cL_rest 6 = .ok (.astore 4, 2) := by decide +kernel
theorem dL_rest_8 : decode cL_rest 8 = .ok (.iconst 0, 1) := by decide +kernel
theorem dL_rest_9 : decode cL_rest 9 = .ok (.istore 5, 2) := by decide +kernel
theorem dL_rest_11 : decode cL_rest 11 = .ok (.iload 5, 2) := by decide +kernel
theorem dL_rest_13 : decode cL_rest 13 = .ok (.bipush 8, 2) := by decide +kernel
theorem dL_rest_15 : decode cL_rest 15 = .ok (.if_icmp .ge 28, 3) := by decide +kernel
theorem dL_rest_18 : decode cL_rest 18 = .ok (.aload 4, 2) := by decide +kernel
theorem dL_rest_20 : decode cL_rest 20 = .ok (.iload 5, 2) := by decide +kernel
theorem dL_rest_22 : decode cL_rest 22 = .ok (.aload_n 1, 1) := by decide +kernel
theorem dL_rest_23 : decode cL_rest 23 = .ok (.iload 5, 2) := by decide +kernel
theorem dL_rest_25 : decode cL_rest 25 = .ok (.laload, 1) := by decide +kernel
theorem dL_rest_26 : decode cL_rest 26 = .ok (.aload 4, 2) := by decide +kernel
theorem dL_rest_28 : decode cL_rest 28 = .ok (.iload 5, 2) := by decide +kernel
theorem dL_rest_30 : decode cL_rest 30 = .ok (.laload, 1) := by decide +kernel
theorem dL_rest_31 : decode cL_rest 31 = .ok (.ldc2_w 23, 3) := by decide +kernel
theorem dL_rest_34 : decode cL_rest 34 = .ok (.ldiv, 1) := by decide +kernel
theorem dL_rest_35 : decode cL_rest 35 = .ok (.lsub, 1) := by decide +kernel
theorem dL_rest_36 : decode cL_rest 36 = .ok (.lastore, 1) := by decide +kernel
theorem dL_rest_37 : decode cL_rest 37 = .ok (.iinc 5 1, 3) := by decide +kernel
theorem dL_rest_40 : decode cL_rest 40 = .ok (.goto (-29), 3) := by decide +kernel
theorem dL_rest_43 : decode cL_rest 43 = .ok (.aload 4, 2) := by decide +kernel
theorem dL_rest_45 : decode cL_rest 45 = .ok (.areturn, 1) := by decide +kernel
theorem dL_sets_0 : decode cL_sets 0 = .ok (.aload_n 0, 1) := by decide +kernel
theorem dL_sets_1 : decode cL_sets 1 = .ok (.iload_n 1, 1) := by decide +kernel
theorem dL_sets_2 : decode cL_sets 2 = .ok (.iload_n 2, 1) := by decide +kernel
theorem dL_sets_3 : decode cL_sets 3 = .ok (.iload_n 3, 1) := by decide +kernel
theorem dL_sets_4 : decode cL_sets 4 = .ok (.invokevirtual 47, 3) := by decide +kernel
theorem dL_sets_7 : decode cL_sets 7 = .ok (.ireturn, 1) := by decide +kernel
theorem dL_sets_8 : decode cL_sets 8 = .ok (.astore 4, 2) := by decide +kernel
theorem dL_sets_10 : decode cL_sets 10 = .ok (.ldc 55, 2) := by decide +kernel
theorem dL_sets_12 : decode cL_sets 12 = .ok (.ireturn, 1) := by decide +kernel
theorem dL_sets_13 : decode cL_sets 13 = .ok (.astore 4, 2) := by decide +kernel
theorem dL_sets_15 : decode cL_sets 15 = .ok (.ldc 58, 2) := by decide +kernel
theorem dL_sets_17 : decode cL_sets 17 = .ok (.ireturn, 1) := by decide +kernel
theorem dL_fours_0 : decode cL_fours 0 = .ok (.aload_n 0, 1) := by decide +kernel
theorem dL_fours_1 : decode cL_fours 1 = .ok (.iload_n 1, 1) := by decide +kernel
theorem dL_fours_2 : decode cL_fours 2 = .ok (.iload_n 2, 1) := by decide +kernel
theorem dL_fours_3 : decode cL_fours 3 = .ok (.iload_n 3, 1) := by decide +kernel
theorem dL_fours_4 : decode cL_fours 4 = .ok (.iload 4, 2) := by decide +kernel
theorem dL_fours_6 : decode cL_fours 6 = .ok (.iload 5, 2) := by decide +kernel
theorem dL_fours_8 : decode cL_fours 8 = .ok (.iload 6, 2) := by decide +kernel
theorem dL_fours_10 : decode cL_fours 10 = .ok (.invokevirtual 59, 3) := by decide +kernel
theorem dL_fours_13 : decode cL_fours 13 = .ok (.lreturn, 1) := by decide +kernel
theorem dL_fours_14 : decode cL_fours 14 = .ok (.astore 7, 2) := by decide +kernel
theorem dL_fours_16 : decode cL_fours 16 = .ok (.ldc2_w 63, 3) := by decide +kernel
theorem dL_fours_19 : decode cL_fours 19 = .ok (.lreturn, 1) := by decide +kernel
theorem dL_fours_20 : decode cL_fours 20 = .ok (.astore 7, 2) := by decide +kernel
theorem dL_fours_22 : decode cL_fours 22 = .ok (.ldc2_w 65, 3) := by decide +kernel
theorem dL_fours_25 : decode cL_fours 25 = .ok (.lreturn, 1) := by decide +kernel
theorem dL_ordered_0 : decode cL_ordered 0 = .ok (.aload_n 0, 1) := by decide +kernel
theorem dL_ordered_1 : decode cL_ordered 1 = .ok (.iload_n 1, 1) := by decide +kernel
theorem dL_ordered_2 : decode cL_ordered 2 = .ok (.invokevirtual 67, 3) := by decide +kernel
theorem dL_ordered_5 : decode cL_ordered 5 = .ok (.ireturn, 1) := by decide +kernel
theorem dL_ordered_6 : decode cL_ordered 6 = .ok (.astore_n 2, 1) := by decide +kernel
theorem dL_ordered_7 : decode cL_ordered 7 = .ok (.ldc 58, 2) := by decide +kernel
theorem dL_ordered_9 : decode cL_ordered 9 = .ok (.ireturn, 1) := by decide +kernel
theorem dL_loads_0 : decode cL_loads 0 = .ok (.aload_n 0, 1) := by decide +kernel
theorem dL_loads_1 : decode cL_loads 1 = .ok (.iload_n 1, 1) := by decide +kernel
theorem dL_loads_2 : decode cL_loads 2 = .ok (.iload_n 2, 1) := by decide +kernel
theorem dL_loads_3 : decode cL_loads 3 = .ok (.invokevirtual 71, 3) := by decide +kernel
theorem dL_loads_6 : decode cL_loads 6 = .ok (.ireturn, 1) := by decide +kernel
theorem dL_loads_7 : decode cL_loads 7 = .ok (.astore_n 3, 1) := by decide +kernel
theorem dL_loads_8 : decode cL_loads 8 = .ok (.ldc 55, 2) := by decide +kernel
theorem dL_loads_10 : decode cL_loads 10 = .ok (.ireturn, 1) := by decide +kernel
theorem dL_adds_0 : decode cL_adds 0 = .ok (.aload_n 0, 1) := by decide +kernel
theorem dL_adds_1 : decode cL_adds 1 = .ok (.iload_n 1, 1) := by decide +kernel
theorem dL_adds_2 : decode cL_adds 2 = .ok (.iload_n 2, 1) := by decide +kernel
theorem dL_adds_3 : decode cL_adds 3 = .ok (.iload_n 3, 1) := by decide +kernel
theorem dL_adds_4 : decode cL_adds 4 = .ok (.iload 4, 2) := by decide +kernel
theorem dL_adds_6 : decode cL_adds 6 = .ok (.invokevirtual 75, 3) := by decide +kernel
theorem dL_adds_9 : decode cL_adds 9 = .ok (.lreturn, 1) := by decide +kernel
theorem dL_adds_10 : decode cL_adds 10 = .ok (.astore 5, 2) := by decide +kernel
theorem dL_adds_12 : decode cL_adds 12 = .ok (.ldc2_w 63, 3) := by decide +kernel
theorem dL_adds_15 : decode cL_adds 15 = .ok (.lreturn, 1) := by decide +kernel
theorem dL_adds_16 : decode cL_adds 16 = .ok (.astore 5, 2) := by decide +kernel
theorem dL_adds_18 : decode cL_adds 18 = .ok (.ldc2_w 81, 3) := by decide +kernel
theorem dL_adds_21 : decode cL_adds 21 = .ok (.lreturn, 1) := by decide +kernel
theorem dL_multiplies_0 : decode cL_multiplies 0 = .ok (.aload_n 0, 1) := by decide +kernel
theorem dL_multiplies_1 : decode cL_multiplies 1 = .ok (.iload_n 1, 1) := by decide +kernel
theorem dL_multiplies_2 : decode cL_multiplies 2 = .ok (.iload_n 2, 1) := by decide +kernel
theorem dL_multiplies_3 : decode cL_multiplies 3 = .ok (.iload_n 3, 1) := by decide +kernel
theorem dL_multiplies_4 : decode cL_multiplies 4 = .ok (.invokevirtual 83, 3) := by decide +kernel
theorem dL_multiplies_7 : decode cL_multiplies 7 = .ok (.lreturn, 1) := by decide +kernel
theorem dL_multiplies_8 : decode cL_multiplies 8 = .ok (.astore 4, 2) := by decide +kernel
theorem dL_multiplies_10 : decode cL_multiplies 10 = .ok (.ldc2_w 63, 3) := by decide +kernel
theorem dL_multiplies_13 : decode cL_multiplies 13 = .ok (.lreturn, 1) := by decide +kernel
theorem dL_multiplies_14 : decode cL_multiplies 14 = .ok (.astore 4, 2) := by decide +kernel
theorem dL_multiplies_16 : decode cL_multiplies 16 = .ok (.ldc2_w 81, 3) := by decide +kernel
theorem dL_multiplies_19 : decode cL_multiplies 19 = .ok (.lreturn, 1) := by decide +kernel
theorem dL_conjugates_0 : decode cL_conjugates 0 = .ok (.aload_n 0, 1) := by decide +kernel
theorem dL_conjugates_1 : decode cL_conjugates 1 = .ok (.iload_n 1, 1) := by decide +kernel
theorem dL_conjugates_2 : decode cL_conjugates 2 = .ok (.invokevirtual 87, 3) := by decide +kernel
theorem dL_conjugates_5 : decode cL_conjugates 5 = .ok (.ireturn, 1) := by decide +kernel
theorem dL_conjugates_6 : decode cL_conjugates 6 = .ok (.astore_n 2, 1) := by decide +kernel
theorem dL_conjugates_7 : decode cL_conjugates 7 = .ok (.ldc 55, 2) := by decide +kernel
theorem dL_conjugates_9 : decode cL_conjugates 9 = .ok (.ireturn, 1) := by decide +kernel
theorem dL_commutes_0 : decode cL_commutes 0 = .ok (.aload_n 0, 1) := by decide +kernel
theorem dL_commutes_1 : decode cL_commutes 1 = .ok (.iload_n 1, 1) := by decide +kernel
theorem dL_commutes_2 : decode cL_commutes 2 = .ok (.iload_n 2, 1) := by decide +kernel
theorem dL_commutes_3 : decode cL_commutes 3 = .ok (.iload_n 3, 1) := by decide +kernel
theorem dL_commutes_4 : decode cL_commutes 4 = .ok (.invokevirtual 90, 3) := by decide +kernel
theorem dL_commutes_7 : decode cL_commutes 7 = .ok (.lreturn, 1) := by decide +kernel
theorem dL_commutes_8 : decode cL_commutes 8 = .ok (.astore 4, 2) := by decide +kernel
theorem dL_commutes_10 : decode cL_commutes 10 = .ok (.ldc2_w 63, 3) := by decide +kernel
theorem dL_commutes_13 : decode cL_commutes 13 = .ok (.lreturn, 1) := by decide +kernel
theorem dL_commutes_14 : decode cL_commutes 14 = .ok (.astore 4, 2) := by decide +kernel
theorem dL_commutes_16 : decode cL_commutes 16 = .ok (.ldc2_w 81, 3) := by decide +kernel
theorem dL_commutes_19 : decode cL_commutes 19 = .ok (.lreturn, 1) := by decide +kernel
theorem dL_associates_0 : decode cL_associates 0 = .ok (.aload_n 0, 1) := by decide +kernel
theorem dL_associates_1 : decode cL_associates 1 = .ok (.iload_n 1, 1) := by decide +kernel
theorem dL_associates_2 : decode cL_associates 2 = .ok (.iload_n 2, 1) := by decide +kernel
theorem dL_associates_3 : decode cL_associates 3 = .ok (.iload_n 3, 1) := by decide +kernel
theorem dL_associates_4 : decode cL_associates 4 = .ok (.iload 4, 2) := by decide +kernel
theorem dL_associates_6 : decode cL_associates 6 = .ok (.invokevirtual 93, 3) := by decide +kernel
theorem dL_associates_9 : decode cL_associates 9 = .ok (.lreturn, 1) := by decide +kernel
theorem dL_associates_10 : decode cL_associates 10 = .ok (.astore 5, 2) := by decide +kernel
theorem dL_associates_12 : decode cL_associates 12 = .ok (.ldc2_w 63, 3) := by decide +kernel
theorem dL_associates_15 : decode cL_associates 15 = .ok (.lreturn, 1) := by decide +kernel
theorem dL_associates_16 : decode cL_associates 16 = .ok (.astore 5, 2) := by decide +kernel
theorem dL_associates_18 : decode cL_associates 18 = .ok (.ldc2_w 81, 3) := by decide +kernel
theorem dL_associates_21 : decode cL_associates 21 = .ok (.lreturn, 1) := by decide +kernel
theorem dL_divides_0 : decode cL_divides 0 = .ok (.aload_n 0, 1) := by decide +kernel
theorem dL_divides_1 : decode cL_divides 1 = .ok (.iload_n 1, 1) := by decide +kernel
theorem dL_divides_2 : decode cL_divides 2 = .ok (.iload_n 2, 1) := by decide +kernel
theorem dL_divides_3 : decode cL_divides 3 = .ok (.iload_n 3, 1) := by decide +kernel
theorem dL_divides_4 : decode cL_divides 4 = .ok (.iload 4, 2) := by decide +kernel
theorem dL_divides_6 : decode cL_divides 6 = .ok (.invokevirtual 97, 3) := by decide +kernel
theorem dL_divides_9 : decode cL_divides 9 = .ok (.lreturn, 1) := by decide +kernel
theorem dL_divides_10 : decode cL_divides 10 = .ok (.astore 5, 2) := by decide +kernel
theorem dL_divides_12 : decode cL_divides 12 = .ok (.ldc2_w 63, 3) := by decide +kernel
theorem dL_divides_15 : decode cL_divides 15 = .ok (.lreturn, 1) := by decide +kernel
theorem dL_divides_16 : decode cL_divides 16 = .ok (.astore 5, 2) := by decide +kernel
theorem dL_divides_18 : decode cL_divides 18 = .ok (.ldc2_w 65, 3) := by decide +kernel
theorem dL_divides_21 : decode cL_divides 21 = .ok (.lreturn, 1) := by decide +kernel
theorem dL_divides_22 : decode cL_divides 22 = .ok (.astore 5, 2) := by decide +kernel
theorem dL_divides_24 : decode cL_divides 24 = .ok (.ldc2_w 102, 3) := by decide +kernel
theorem dL_divides_27 : decode cL_divides 27 = .ok (.lreturn, 1) := by decide +kernel
theorem dL_divides_28 : decode cL_divides 28 = .ok (.astore 5, 2) := by decide +kernel
theorem dL_divides_30 : decode cL_divides 30 = .ok (.ldc2_w 81, 3) := by decide +kernel
theorem dL_divides_33 : decode cL_divides 33 = .ok (.lreturn, 1) := by decide +kernel
theorem dL_coordinateOf_0 : decode cL_coordinateOf 0 = .ok (.aload_n 0, 1) := by decide +kernel
theorem dL_coordinateOf_1 : decode cL_coordinateOf 1 = .ok (.iload_n 1, 1) := by decide +kernel
theorem dL_coordinateOf_2 : decode cL_coordinateOf 2 = .ok (.iload_n 2, 1) := by decide +kernel
theorem dL_coordinateOf_3 : decode cL_coordinateOf 3 = .ok (.invokevirtual 168, 3) := by decide +kernel
theorem dL_coordinateOf_6 : decode cL_coordinateOf 6 = .ok (.ireturn, 1) := by decide +kernel
theorem dL_coordinateOf_7 : decode cL_coordinateOf 7 = .ok (.astore_n 3, 1) := by decide +kernel
theorem dL_coordinateOf_8 : decode cL_coordinateOf 8 = .ok (.ldc 55, 2) := by decide +kernel
theorem dL_coordinateOf_10 : decode cL_coordinateOf 10 = .ok (.ireturn, 1) := by decide +kernel
theorem dL_normOf_0 : decode cL_normOf 0 = .ok (.aload_n 0, 1) := by decide +kernel
theorem dL_normOf_1 : decode cL_normOf 1 = .ok (.iload_n 1, 1) := by decide +kernel
theorem dL_normOf_2 : decode cL_normOf 2 = .ok (.invokevirtual 171, 3) := by decide +kernel
theorem dL_normOf_5 : decode cL_normOf 5 = .ok (.lreturn, 1) := by decide +kernel
theorem dL_normOf_6 : decode cL_normOf 6 = .ok (.astore_n 2, 1) := by decide +kernel
theorem dL_normOf_7 : decode cL_normOf 7 = .ok (.ldc2_w 63, 3) := by decide +kernel
theorem dL_normOf_10 : decode cL_normOf 10 = .ok (.lreturn, 1) := by decide +kernel
theorem dL_dotOf_0 : decode cL_dotOf 0 = .ok (.aload_n 0, 1) := by decide +kernel
theorem dL_dotOf_1 : decode cL_dotOf 1 = .ok (.iload_n 1, 1) := by decide +kernel
theorem dL_dotOf_2 : decode cL_dotOf 2 = .ok (.iload_n 2, 1) := by decide +kernel
theorem dL_dotOf_3 : decode cL_dotOf 3 = .ok (.invokevirtual 175, 3) := by decide +kernel
theorem dL_dotOf_6 : decode cL_dotOf 6 = .ok (.lreturn, 1) := by decide +kernel
theorem dL_dotOf_7 : decode cL_dotOf 7 = .ok (.astore_n 3, 1) := by decide +kernel
theorem dL_dotOf_8 : decode cL_dotOf 8 = .ok (.ldc2_w 63, 3) := by decide +kernel
theorem dL_dotOf_11 : decode cL_dotOf 11 = .ok (.lreturn, 1) := by decide +kernel
theorem dL_ordersOf_0 : decode cL_ordersOf 0 = .ok (.aload_n 0, 1) := by decide +kernel
theorem dL_ordersOf_1 : decode cL_ordersOf 1 = .ok (.iload_n 1, 1) := by decide +kernel
theorem dL_ordersOf_2 : decode cL_ordersOf 2 = .ok (.invokevirtual 179, 3) := by decide +kernel
theorem dL_ordersOf_5 : decode cL_ordersOf 5 = .ok (.ireturn, 1) := by decide +kernel
theorem dL_ordersOf_6 : decode cL_ordersOf 6 = .ok (.astore_n 2, 1) := by decide +kernel
theorem dL_ordersOf_7 : decode cL_ordersOf 7 = .ok (.ldc 55, 2) := by decide +kernel
theorem dL_ordersOf_9 : decode cL_ordersOf 9 = .ok (.ireturn, 1) := by decide +kernel
theorem dL_leftOf_0 : decode cL_leftOf 0 = .ok (.aload_n 0, 1) := by decide +kernel
theorem dL_leftOf_1 : decode cL_leftOf 1 = .ok (.iload_n 1, 1) := by decide +kernel
theorem dL_leftOf_2 : decode cL_leftOf 2 = .ok (.iload_n 2, 1) := by decide +kernel
theorem dL_leftOf_3 : decode cL_leftOf 3 = .ok (.iload_n 3, 1) := by decide +kernel
theorem dL_leftOf_4 : decode cL_leftOf 4 = .ok (.invokevirtual 182, 3) := by decide +kernel
theorem dL_leftOf_7 : decode cL_leftOf 7 = .ok (.ireturn, 1) := by decide +kernel
theorem dL_leftOf_8 : decode cL_leftOf 8 = .ok (.astore 4, 2) := by decide +kernel
theorem dL_leftOf_10 : decode cL_leftOf 10 = .ok (.ldc 55, 2) := by decide +kernel
theorem dL_leftOf_12 : decode cL_leftOf 12 = .ok (.ireturn, 1) := by decide +kernel
theorem dL_unitOf_0 : decode cL_unitOf 0 = .ok (.aload_n 0, 1) := by decide +kernel
theorem dL_unitOf_1 : decode cL_unitOf 1 = .ok (.iload_n 1, 1) := by decide +kernel
theorem dL_unitOf_2 : decode cL_unitOf 2 = .ok (.invokevirtual 185, 3) := by decide +kernel
theorem dL_unitOf_5 : decode cL_unitOf 5 = .ok (.ireturn, 1) := by decide +kernel
theorem dL_unitOf_6 : decode cL_unitOf 6 = .ok (.astore_n 2, 1) := by decide +kernel
theorem dL_unitOf_7 : decode cL_unitOf 7 = .ok (.ldc 55, 2) := by decide +kernel
theorem dL_unitOf_9 : decode cL_unitOf 9 = .ok (.ireturn, 1) := by decide +kernel
theorem dL_valueOf_0 : decode cL_valueOf 0 = .ok (.aload_n 0, 1) := by decide +kernel
theorem dL_valueOf_1 : decode cL_valueOf 1 = .ok (.iload_n 1, 1) := by decide +kernel
theorem dL_valueOf_2 : decode cL_valueOf 2 = .ok (.invokevirtual 188, 3) := by decide +kernel
theorem dL_valueOf_5 : decode cL_valueOf 5 = .ok (.ireturn, 1) := by decide +kernel
theorem dL_valueOf_6 : decode cL_valueOf 6 = .ok (.astore_n 2, 1) := by decide +kernel
theorem dL_valueOf_7 : decode cL_valueOf 7 = .ok (.ldc 58, 2) := by decide +kernel
theorem dL_valueOf_9 : decode cL_valueOf 9 = .ok (.ireturn, 1) := by decide +kernel
