theorem dJ6_bitCount_0f7a4_0 : decode cJ6_bitCount_0f7a4 0 = .ok (.iload_n 0, 1) := by decide +kernel
theorem dJ6_bitCount_0f7a4_1 : decode cJ6_bitCount_0f7a4 1 = .ok (.iload_n 0, 1) := by decide +kernel
theorem dJ6_bitCount_0f7a4_2 : decode cJ6_bitCount_0f7a4 2 = .ok (.iconst 1, 1) := by decide +kernel
theorem dJ6_bitCount_0f7a4_3 : decode cJ6_bitCount_0f7a4 3 = .ok (.iushr, 1) := by decide +kernel
theorem dJ6_bitCount_0f7a4_4 : decode cJ6_bitCount_0f7a4 4 = .ok (.ldc_w 265, 3) := by decide +kernel
theorem dJ6_bitCount_0f7a4_7 : decode cJ6_bitCount_0f7a4 7 = .ok (.iand, 1) := by decide +kernel
theorem dJ6_bitCount_0f7a4_8 : decode cJ6_bitCount_0f7a4 8 = .ok (.isub, 1) := by decide +kernel
theorem dJ6_bitCount_0f7a4_9 : decode cJ6_bitCount_0f7a4 9 = .ok (.istore_n 0, 1) := by decide +kernel
theorem dJ6_bitCount_0f7a4_10 : decode cJ6_bitCount_0f7a4 10 = .ok (.iload_n 0, 1) := by decide +kernel
theorem dJ6_bitCount_0f7a4_11 : decode cJ6_bitCount_0f7a4 11 = .ok (.ldc_w 266, 3) := by decide +kernel
theorem dJ6_bitCount_0f7a4_14 : decode cJ6_bitCount_0f7a4 14 = .ok (.iand, 1) := by decide +kernel
theorem dJ6_bitCount_0f7a4_15 : decode cJ6_bitCount_0f7a4 15 = .ok (.iload_n 0, 1) := by decide +kernel
theorem dJ6_bitCount_0f7a4_16 : decode cJ6_bitCount_0f7a4 16 = .ok (.iconst 2, 1) := by decide +kernel
theorem dJ6_bitCount_0f7a4_17 : decode cJ6_bitCount_0f7a4 17 = .ok (.iushr, 1) := by decide +kernel
theorem dJ6_bitCount_0f7a4_18 : decode cJ6_bitCount_0f7a4 18 = .ok (.ldc_w 266, 3) := by decide +kernel
theorem dJ6_bitCount_0f7a4_21 : decode cJ6_bitCount_0f7a4 21 = .ok (.iand, 1) := by decide +kernel
theorem dJ6_bitCount_0f7a4_22 : decode cJ6_bitCount_0f7a4 22 = .ok (.iadd, 1) := by decide +kernel
theorem dJ6_bitCount_0f7a4_23 : decode cJ6_bitCount_0f7a4 23 = .ok (.istore_n 0, 1) := by decide +kernel
theorem dJ6_bitCount_0f7a4_24 : decode cJ6_bitCount_0f7a4 24 = .ok (.iload_n 0, 1) := by decide +kernel
theorem dJ6_bitCount_0f7a4_25 : decode cJ6_bitCount_0f7a4 25 = .ok (.iload_n 0, 1) := by decide +kernel
theorem dJ6_bitCount_0f7a4_26 : decode cJ6_bitCount_0f7a4 26 = .ok (.iconst 4, 1) := by decide +kernel
theorem dJ6_bitCount_0f7a4_27 : decode cJ6_bitCount_0f7a4 27 = .ok (.iushr, 1) := by decide +kernel
theorem dJ6_bitCount_0f7a4_28 : decode cJ6_bitCount_0f7a4 28 = .ok (.iadd, 1) := by decide +kernel
theorem dJ6_bitCount_0f7a4_29 : decode cJ6_bitCount_0f7a4 29 = .ok (.ldc_w 267, 3) := by decide +kernel
theorem dJ6_bitCount_0f7a4_32 : decode cJ6_bitCount_0f7a4 32 = .ok (.iand, 1) := by decide +kernel
theorem dJ6_bitCount_0f7a4_33 : decode cJ6_bitCount_0f7a4 33 = .ok (.istore_n 0, 1) := by decide +kernel
theorem dJ6_bitCount_0f7a4_34 : decode cJ6_bitCount_0f7a4 34 = .ok (.iload_n 0, 1) := by decide +kernel
theorem dJ6_bitCount_0f7a4_35 : decode cJ6_bitCount_0f7a4 35 = .ok (.iload_n 0, 1) := by decide +kernel
theorem dJ6_bitCount_0f7a4_36 : decode cJ6_bitCount_0f7a4 36 = .ok (.bipush 8, 2) := by decide +kernel
theorem dJ6_bitCount_0f7a4_38 : decode cJ6_bitCount_0f7a4 38 = .ok (.iushr, 1) := by decide +kernel
theorem dJ6_bitCount_0f7a4_39 : decode cJ6_bitCount_0f7a4 39 = .ok (.iadd, 1) := by decide +kernel
theorem dJ6_bitCount_0f7a4_40 : decode cJ6_bitCount_0f7a4 40 = .ok (.istore_n 0, 1) := by decide +kernel
theorem dJ6_bitCount_0f7a4_41 : decode cJ6_bitCount_0f7a4 41 = .ok (.iload_n 0, 1) := by decide +kernel
theorem dJ6_bitCount_0f7a4_42 : decode cJ6_bitCount_0f7a4 42 = .ok (.iload_n 0, 1) := by decide +kernel
theorem dJ6_bitCount_0f7a4_43 : decode cJ6_bitCount_0f7a4 43 = .ok (.bipush 16, 2) := by decide +kernel
theorem dJ6_bitCount_0f7a4_45 : decode cJ6_bitCount_0f7a4 45 = .ok (.iushr, 1) := by decide +kernel
theorem dJ6_bitCount_0f7a4_46 : decode cJ6_bitCount_0f7a4 46 = .ok (.iadd, 1) := by decide +kernel
theorem dJ6_bitCount_0f7a4_47 : decode cJ6_bitCount_0f7a4 47 = .ok (.istore_n 0, 1) := by decide +kernel
theorem dJ6_bitCount_0f7a4_48 : decode cJ6_bitCount_0f7a4 48 = .ok (.iload_n 0, 1) := by decide +kernel
theorem dJ6_bitCount_0f7a4_49 : decode cJ6_bitCount_0f7a4 49 = .ok (.bipush 63, 2) := by decide +kernel
theorem dJ6_bitCount_0f7a4_51 : decode cJ6_bitCount_0f7a4 51 = .ok (.iand, 1) := by decide +kernel
theorem dJ6_bitCount_0f7a4_52 : decode cJ6_bitCount_0f7a4 52 = .ok (.ireturn, 1) := by decide +kernel
theorem dJ9_floorDiv_f86c9_0 : decode cJ9_floorDiv_f86c9 0 = .ok (.lload_n 0, 1) := by decide +kernel
theorem dJ9_floorDiv_f86c9_1 : decode cJ9_floorDiv_f86c9 1 = .ok (.lload_n 2, 1) := by decide +kernel
theorem dJ9_floorDiv_f86c9_2 : decode cJ9_floorDiv_f86c9 2 = .ok (.ldiv, 1) := by decide +kernel
theorem dJ9_floorDiv_f86c9_3 : decode cJ9_floorDiv_f86c9 3 = .ok (.lstore 4, 2) := by decide +kernel
theorem dJ9_floorDiv_f86c9_5 : decode cJ9_floorDiv_f86c9 5 = .ok (.lload_n 0, 1) := by decide +kernel
theorem dJ9_floorDiv_f86c9_6 : decode cJ9_floorDiv_f86c9 6 = .ok (.lload_n 2, 1) := by decide +kernel
theorem dJ9_floorDiv_f86c9_7 : decode cJ9_floorDiv_f86c9 7 = .ok (.lxor, 1) := by decide +kernel
theorem dJ9_floorDiv_f86c9_8 : decode cJ9_floorDiv_f86c9 8 = .ok (.lconst 0, 1) := by decide +kernel
theorem dJ9_floorDiv_f86c9_9 : decode cJ9_floorDiv_f86c9 9 = .ok (.lcmp, 1) := by decide +kernel
theorem dJ9_floorDiv_f86c9_10 : decode cJ9_floorDiv_f86c9 10 = .ok (.ifCond .ge 17, 3) := by decide +kernel
theorem dJ9_floorDiv_f86c9_13 : decode cJ9_floorDiv_f86c9 13 = .ok (.lload 4, 2) := by decide +kernel
theorem dJ9_floorDiv_f86c9_15 : decode cJ9_floorDiv_f86c9 15 = .ok (.lload_n 2, 1) := by decide +kernel
theorem dJ9_floorDiv_f86c9_16 : decode cJ9_floorDiv_f86c9 16 = .ok (.lmul, 1) := by decide +kernel
theorem dJ9_floorDiv_f86c9_17 : decode cJ9_floorDiv_f86c9 17 = .ok (.lload_n 0, 1) := by decide +kernel
theorem dJ9_floorDiv_f86c9_18 : decode cJ9_floorDiv_f86c9 18 = .ok (.lcmp, 1) := by decide +kernel
theorem dJ9_floorDiv_f86c9_19 : decode cJ9_floorDiv_f86c9 19 = .ok (.ifCond .eq 8, 3) := by decide +kernel
theorem dJ9_floorDiv_f86c9_22 : decode cJ9_floorDiv_f86c9 22 = .ok (.lload 4, 2) := by decide +kernel
theorem dJ9_floorDiv_f86c9_24 : decode cJ9_floorDiv_f86c9 24 = .ok (.lconst 1, 1) := by decide +kernel
theorem dJ9_floorDiv_f86c9_25 : decode cJ9_floorDiv_f86c9 25 = .ok (.lsub, 1) := by decide +kernel
theorem dJ9_floorDiv_f86c9_26 : decode cJ9_floorDiv_f86c9 26 = .ok (.lreturn, 1) := by decide +kernel
theorem dJ9_floorDiv_f86c9_27 : decode cJ9_floorDiv_f86c9 27 = .ok (.lload 4, 2) := by decide +kernel
theorem dJ9_floorDiv_f86c9_29 : decode cJ9_floorDiv_f86c9 29 = .ok (.lreturn, 1) := by decide +kernel
theorem dJx00060_init_a7421_0 : decode cJx00060_init_a7421 0 = .ok (.aload_n 0, 1) := by decide +kernel
theorem dJx00060_init_a7421_1 : decode cJx00060_init_a7421 1 = .ok (.aload_n 1, 1) := by decide +kernel
theorem dJx00060_init_a7421_2 : decode cJx00060_init_a7421 2 = .ok (.invokespecial 7, 3) := by decide +kernel
theorem dJx00060_init_a7421_5 : decode cJx00060_init_a7421 5 = .ok (.return_, 1) := by decide +kernel
theorem dX0_init_0 : decode cX0_init 0 = .ok (.aload_n 0, 1) := by decide +kernel
theorem dX0_init_1 : decode cX0_init 1 = .ok (.invokespecial 3, 3) := by decide +kernel
theorem dX0_init_4 : decode cX0_init 4 = .ok (.aload_n 0, 1) := by decide +kernel
theorem dX0_init_5 : decode cX0_init 5 = .ok (.bipush 7, 2) := by decide +kernel
theorem dX0_init_7 : decode cX0_init 7 = .ok (.bipush 8, 2) := by decide +kernel
theorem dX0_init_9 : decode cX0_init 9 = .ok (.multianewarray 13 2, 4) := by decide +kernel
theorem dX0_init_13 : decode cX0_init 13 = .ok (.putfield 15, 3) := by decide +kernel
theorem dX0_init_16 : decode cX0_init 16 = .ok (.aload_n 0, 1) := by decide +kernel
theorem dX0_init_17 : decode cX0_init 17 = .ok (.bipush 7, 2) := by decide +kernel
theorem dX0_init_19 : decode cX0_init 19 = .ok (.bipush 8, 2) := by decide +kernel
theorem dX0_init_21 : decode cX0_init 21 = .ok (.multianewarray 13 2, 4) := by decide +kernel
theorem dX0_init_25 : decode cX0_init 25 = .ok (.putfield 20, 3) := by decide +kernel
theorem dX0_init_28 : decode cX0_init 28 = .ok (.aload_n 0, 1) := by decide +kernel
theorem dX0_init_29 : decode cX0_init 29 = .ok (.bipush 7, 2) := by decide +kernel
theorem dX0_init_31 : decode cX0_init 31 = .ok (.bipush 8, 2) := by decide +kernel
theorem dX0_init_33 : decode cX0_init 33 = .ok (.multianewarray 13 2, 4) := by decide +kernel
theorem dX0_init_37 : decode cX0_init 37 = .ok (.putfield 23, 3) := by decide +kernel
theorem dX0_init_40 : decode cX0_init 40 = .ok (.aload_n 0, 1) := by decide +kernel
theorem dX0_init_41 : decode cX0_init 41 = .ok (.bipush 8, 2) := by decide +kernel
theorem dX0_init_43 : decode cX0_init 43 = .ok (.newarray .long, 2) := by decide +kernel
theorem dX0_init_45 : decode cX0_init 45 = .ok (.putfield 26, 3) := by decide +kernel
theorem dX0_init_48 : decode cX0_init 48 = .ok (.aload_n 0, 1) := by decide +kernel
theorem dX0_init_49 : decode cX0_init 49 = .ok (.iconst 0, 1) := by decide +kernel
theorem dX0_init_50 : decode cX0_init 50 = .ok (.putfield 30, 3) := by decide +kernel
theorem dX0_init_53 : decode cX0_init 53 = .ok (.aload_n 0, 1) := by decide +kernel
theorem dX0_init_54 : decode cX0_init 54 = .ok (.iconst 0, 1) := by decide +kernel
theorem dX0_init_55 : decode cX0_init 55 = .ok (.putfield 34, 3) := by decide +kernel
theorem dX0_init_58 : decode cX0_init 58 = .ok (.aload_n 0, 1) := by decide +kernel
theorem dX0_init_59 : decode cX0_init 59 = .ok (.aload_n 1, 1) := by decide +kernel
theorem dX0_init_60 : decode cX0_init 60 = .ok (.putfield 37, 3) := by decide +kernel
theorem dX0_init_63 : decode cX0_init 63 = .ok (.return_, 1) := by decide +kernel
theorem dX1_init_0 : decode cX1_init 0 = .ok (.aload_n 0, 1) := by decide +kernel
theorem dX1_init_1 : decode cX1_init 1 = .ok (.invokespecial 3, 3) := by decide +kernel
theorem dX1_init_4 : decode cX1_init 4 = .ok (.aload_n 0, 1) := by decide +kernel
theorem dX1_init_5 : decode cX1_init 5 = .ok (.bipush 8, 2) := by decide +kernel
theorem dX1_init_7 : decode cX1_init 7 = .ok (.newarray .long, 2) := by decide +kernel
theorem dX1_init_9 : decode cX1_init 9 = .ok (.putfield 11, 3) := by decide +kernel
theorem dX1_init_12 : decode cX1_init 12 = .ok (.aload_n 0, 1) := by decide +kernel
theorem dX1_init_13 : decode cX1_init 13 = .ok (.bipush 8, 2) := by decide +kernel
theorem dX1_init_15 : decode cX1_init 15 = .ok (.newarray .long, 2) := by decide +kernel
theorem dX1_init_17 : decode cX1_init 17 = .ok (.putfield 17, 3) := by decide +kernel
theorem dX1_init_20 : decode cX1_init 20 = .ok (.aload_n 0, 1) := by decide +kernel
theorem dX1_init_21 : decode cX1_init 21 = .ok (.bipush 8, 2) := by decide +kernel
theorem dX1_init_23 : decode cX1_init 23 = .ok (.newarray .long, 2) := by decide +kernel
theorem dX1_init_25 : decode cX1_init 25 = .ok (.putfield 20, 3) := by decide +kernel
theorem dX1_init_28 : decode cX1_init 28 = .ok (.aload_n 0, 1) := by decide +kernel
theorem dX1_init_29 : decode cX1_init 29 = .ok (.bipush 8, 2) := by decide +kernel
theorem dX1_init_31 : decode cX1_init 31 = .ok (.newarray .long, 2) := by decide +kernel
theorem dX1_init_33 : decode cX1_init 33 = .ok (.putfield 23, 3) := by decide +kernel
theorem dX1_init_36 : decode cX1_init 36 = .ok (.aload_n 0, 1) := by decide +kernel
theorem dX1_init_37 : decode cX1_init 37 = .ok (.bipush 8, 2) := by decide +kernel
theorem dX1_init_39 : decode cX1_init 39 = .ok (.newarray .long, 2) := by decide +kernel
theorem dX1_init_41 : decode cX1_init 41 = .ok (.putfield 26, 3) := by decide +kernel
theorem dX1_init_44 : decode cX1_init 44 = .ok (.aload_n 0, 1) := by decide +kernel
theorem dX1_init_45 : decode cX1_init 45 = .ok (.bipush 8, 2) := by decide +kernel
theorem dX1_init_47 : decode cX1_init 47 = .ok (.newarray .long, 2) := by decide +kernel
theorem dX1_init_49 : decode cX1_init 49 = .ok (.putfield 29, 3) := by decide +kernel
theorem dX1_init_52 : decode cX1_init 52 = .ok (.aload_n 0, 1) := by decide +kernel
theorem dX1_init_53 : decode cX1_init 53 = .ok (.bipush 8, 2) := by decide +kernel
theorem dX1_init_55 : decode cX1_init 55 = .ok (.newarray .long, 2) := by decide +kernel
theorem dX1_init_57 : decode cX1_init 57 = .ok (.putfield 32, 3) := by decide +kernel
theorem dX1_init_60 : decode cX1_init 60 = .ok (.aload_n 0, 1) := by decide +kernel
theorem dX1_init_61 : decode cX1_init 61 = .ok (.iconst 2, 1) := by decide +kernel
theorem dX1_init_62 : decode cX1_init 62 = .ok (.bipush 8, 2) := by decide +kernel
theorem dX1_init_64 : decode cX1_init 64 = .ok (.multianewarray 35 2, 4) := by decide +kernel
theorem dX1_init_68 : decode cX1_init 68 = .ok (.putfield 37, 3) := by decide +kernel
theorem dX1_init_71 : decode cX1_init 71 = .ok (.aload_n 0, 1) := by decide +kernel
theorem dX1_init_72 : decode cX1_init 72 = .ok (.iconst 2, 1) := by decide +kernel
theorem dX1_init_73 : decode cX1_init 73 = .ok (.bipush 8, 2) := by decide +kernel
theorem dX1_init_75 : decode cX1_init 75 = .ok (.multianewarray 35 2, 4) := by decide +kernel
theorem dX1_init_79 : decode cX1_init 79 = .ok (.putfield 40, 3) := by decide +kernel
theorem dX1_init_82 : decode cX1_init 82 = .ok (.return_, 1) := by decide +kernel
theorem dX1_work_0 : decode cX1_work 0 = .ok (.aload_n 2, 1) := by decide +kernel
theorem dX1_work_1 : decode cX1_work 1 = .ok (.aload_n 0, 1) := by decide +kernel
theorem dX1_work_2 : decode cX1_work 2 = .ok (.getfield 29, 3) := by decide +kernel
theorem dX1_work_5 : decode cX1_work 5 = .ok (.invokestatic 43, 3) := by decide +kernel
theorem dX1_work_8 : decode cX1_work 8 = .ok (.aload_n 0, 1) := by decide +kernel
theorem dX1_work_9 : decode cX1_work 9 = .ok (.getfield 29, 3) := by decide +kernel
theorem dX1_work_12 : decode cX1_work 12 = .ok (.invokestatic 47, 3) := by decide +kernel
theorem dX1_work_15 : decode cX1_work 15 = .ok (.aload_n 1, 1) := by decide +kernel
theorem dX1_work_16 : decode cX1_work 16 = .ok (.aload_n 0, 1) := by decide +kernel
theorem dX1_work_17 : decode cX1_work 17 = .ok (.getfield 29, 3) := by decide +kernel
theorem dX1_work_20 : decode cX1_work 20 = .ok (.aload_n 0, 1) := by decide +kernel
theorem dX1_work_21 : decode cX1_work 21 = .ok (.getfield 26, 3) := by decide +kernel
theorem dX1_work_24 : decode cX1_work 24 = .ok (.invokestatic 51, 3) := by decide +kernel
theorem dX1_work_27 : decode cX1_work 27 = .ok (.aload_n 0, 1) := by decide +kernel
theorem dX1_work_28 : decode cX1_work 28 = .ok (.aload_n 2, 1) := by decide +kernel
theorem dX1_work_29 : decode cX1_work 29 = .ok (.invokestatic 54, 3) := by decide +kernel
theorem dX1_work_32 : decode cX1_work 32 = .ok (.invokevirtual 58, 3) := by decide +kernel
theorem dX1_work_35 : decode cX1_work 35 = .ok (.aload_n 0, 1) := by decide +kernel
theorem dX1_work_36 : decode cX1_work 36 = .ok (.iload_n 3, 1) := by decide +kernel
theorem dX1_work_37 : decode cX1_work 37 = .ok (.invokevirtual 62, 3) := by decide +kernel
theorem dX1_work_40 : decode cX1_work 40 = .ok (.aload_n 0, 1) := by decide +kernel
theorem dX1_work_41 : decode cX1_work 41 = .ok (.getfield 11, 3) := by decide +kernel
theorem dX1_work_44 : decode cX1_work 44 = .ok (.aload_n 2, 1) := by decide +kernel
theorem dX1_work_45 : decode cX1_work 45 = .ok (.aload_n 0, 1) := by decide +kernel
theorem dX1_work_46 : decode cX1_work 46 = .ok (.getfield 26, 3) := by decide +kernel
theorem dX1_work_49 : decode cX1_work 49 = .ok (.invokestatic 51, 3) := by decide +kernel
theorem dX1_work_52 : decode cX1_work 52 = .ok (.iconst 0, 1) := by decide +kernel
theorem dX1_work_53 : decode cX1_work 53 = .ok (.istore 4, 2) := by decide +kernel
theorem dX1_work_55 : decode cX1_work 55 = .ok (.iload 4, 2) := by decide +kernel
theorem dX1_work_57 : decode cX1_work 57 = .ok (.bipush 8, 2) := by decide +kernel
theorem dX1_work_59 : decode cX1_work 59 = .ok (.if_icmp .ge 30, 3) := by decide +kernel
theorem dX1_work_62 : decode cX1_work 62 = .ok (.aload_n 0, 1) := by decide +kernel
theorem dX1_work_63 : decode cX1_work 63 = .ok (.getfield 17, 3) := by decide +kernel
theorem dX1_work_66 : decode cX1_work 66 = .ok (.iload 4, 2) := by decide +kernel
theorem dX1_work_68 : decode cX1_work 68 = .ok (.aload_n 1, 1) := by decide +kernel
theorem dX1_work_69 : decode cX1_work 69 = .ok (.iload 4, 2) := by decide +kernel
theorem dX1_work_71 : decode cX1_work 71 = .ok (.laload, 1) := by decide +kernel
theorem dX1_work_72 : decode cX1_work 72 = .ok (.aload_n 0, 1) := by decide +kernel
theorem dX1_work_73 : decode cX1_work 73 = .ok (.getfield 26, 3) := by decide +kernel
theorem dX1_work_76 : decode cX1_work 76 = .ok (.iload 4, 2) := by decide +kernel
theorem dX1_work_78 : decode cX1_work 78 = .ok (.laload, 1) := by decide +kernel
theorem dX1_work_79 : decode cX1_work 79 = .ok (.iconst 1, 1) := by decide +kernel
theorem dX1_work_80 : decode cX1_work 80 = .ok (.lshr, 1) := by decide +kernel
theorem dX1_work_81 : decode cX1_work 81 = .ok (.lsub, 1) := by decide +kernel
theorem dX1_work_82 : decode cX1_work 82 = .ok (.lastore, 1) := by decide +kernel
theorem dX1_work_83 : decode cX1_work 83 = .ok (.iinc 4 1, 3) := by decide +kernel
theorem dX1_work_86 : decode cX1_work 86 = .ok (.goto (-31), 3) := by decide +kernel
theorem dX1_work_89 : decode cX1_work 89 = .ok (.return_, 1) := by decide +kernel
theorem dX1_findNearest_0 : decode cX1_findNearest 0 = .ok (.lload_n 1, 1) := by decide +kernel
theorem dX1_findNearest_1 : decode cX1_findNearest 1 = .ok (.lconst 0, 1) := by decide +kernel
theorem dX1_findNearest_2 : decode cX1_findNearest 2 = .ok (.lcmp, 1) := by decide +kernel
theorem dX1_findNearest_3 : decode cX1_findNearest 3 = .ok (.ifCond .gt 4, 3) := by decide +kernel
theorem dX1_findNearest_6 : decode cX1_findNearest 6 = .ok (.return_, 1) := by decide +kernel
theorem dX1_findNearest_7 : decode cX1_findNearest 7 = .ok (.iconst 0, 1) := by decide +kernel
theorem dX1_findNearest_8 : decode cX1_findNearest 8 = .ok (.istore_n 3, 1) := by decide +kernel
theorem dX1_findNearest_9 : decode cX1_findNearest 9 = .ok (.iload_n 3, 1) := by decide +kernel
theorem dX1_findNearest_10 : decode cX1_findNearest 10 = .ok (.iconst 2, 1) := by decide +kernel
theorem dX1_findNearest_11 : decode cX1_findNearest 11 = .ok (.if_icmp .ge 103, 3) := by decide +kernel
theorem dX1_findNearest_14 : decode cX1_findNearest 14 = .ok (.iconst 0, 1) := by decide +kernel
theorem dX1_findNearest_15 : decode cX1_findNearest 15 = .ok (.istore 4, 2) := by decide +kernel
theorem dX1_findNearest_17 : decode cX1_findNearest 17 = .ok (.iload 4, 2) := by decide +kernel
theorem dX1_findNearest_19 : decode cX1_findNearest 19 = .ok (.bipush 8, 2) := by decide +kernel
theorem dX1_findNearest_21 : decode cX1_findNearest 21 = .ok (.if_icmp .ge 87, 3) := by decide +kernel
theorem dX1_findNearest_24 : decode cX1_findNearest 24 = .ok (.ldc2_w 66, 3) := by decide +kernel
theorem dX1_findNearest_27 : decode cX1_findNearest 27 = .ok (.aload_n 0, 1) := by decide +kernel
theorem dX1_findNearest_28 : decode cX1_findNearest 28 = .ok (.getfield 26, 3) := by decide +kernel
theorem dX1_findNearest_31 : decode cX1_findNearest 31 = .ok (.iload 4, 2) := by decide +kernel
theorem dX1_findNearest_33 : decode cX1_findNearest 33 = .ok (.laload, 1) := by decide +kernel
theorem dX1_findNearest_34 : decode cX1_findNearest 34 = .ok (.lmul, 1) := by decide +kernel
theorem dX1_findNearest_35 : decode cX1_findNearest 35 = .ok (.lstore 5, 2) := by decide +kernel
theorem dX1_findNearest_37 : decode cX1_findNearest 37 = .ok (.lload_n 1, 1) := by decide +kernel
theorem dX1_findNearest_38 : decode cX1_findNearest 38 = .ok (.iload_n 3, 1) := by decide +kernel
theorem dX1_findNearest_39 : decode cX1_findNearest 39 = .ok (.i2l, 1) := by decide +kernel
theorem dX1_findNearest_40 : decode cX1_findNearest 40 = .ok (.lload_n 1, 1) := by decide +kernel
theorem dX1_findNearest_41 : decode cX1_findNearest 41 = .ok (.lmul, 1) := by decide +kernel
theorem dX1_findNearest_42 : decode cX1_findNearest 42 = .ok (.ladd, 1) := by decide +kernel
theorem dX1_findNearest_43 : decode cX1_findNearest 43 = .ok (.lload 5, 2) := by decide +kernel
theorem dX1_findNearest_45 : decode cX1_findNearest 45 = .ok (.lsub, 1) := by decide +kernel
theorem dX1_findNearest_46 : decode cX1_findNearest 46 = .ok (.ldc2_w 66, 3) := by decide +kernel
theorem dX1_findNearest_49 : decode cX1_findNearest 49 = .ok (.lload_n 1, 1) := by decide +kernel
theorem dX1_findNearest_50 : decode cX1_findNearest 50 = .ok (.lmul, 1) := by decide +kernel
theorem dX1_findNearest_51 : decode cX1_findNearest 51 = .ok (.invokestatic 68, 3) := by decide +kernel
theorem dX1_findNearest_54 : decode cX1_findNearest 54 = .ok (.lneg, 1) := by decide +kernel
theorem dX1_findNearest_55 : decode cX1_findNearest 55 = .ok (.lstore 7, 2) := by decide +kernel
theorem dX1_findNearest_57 : decode cX1_findNearest 57 = .ok (.ldc2_w 66, 3) := by decide +kernel
theorem dX1_findNearest_60 : decode cX1_findNearest 60 = .ok (.lload 7, 2) := by decide +kernel
theorem dX1_findNearest_62 : decode cX1_findNearest 62 = .ok (.lmul, 1) := by decide +kernel
theorem dX1_findNearest_63 : decode cX1_findNearest 63 = .ok (.iload_n 3, 1) := by decide +kernel
theorem dX1_findNearest_64 : decode cX1_findNearest 64 = .ok (.i2l, 1) := by decide +kernel
theorem dX1_findNearest_65 : decode cX1_findNearest 65 = .ok (.ladd, 1) := by decide +kernel
theorem dX1_findNearest_66 : decode cX1_findNearest 66 = .ok (.lstore 9, 2) := by decide +kernel
theorem dX1_findNearest_68 : decode cX1_findNearest 68 = .ok (.lload_n 1, 1) := by decide +kernel
theorem dX1_findNearest_69 : decode cX1_findNearest 69 = .ok (.lload 9, 2) := by decide +kernel
theorem dX1_findNearest_71 : decode cX1_findNearest 71 = .ok (.lmul, 1) := by decide +kernel
theorem dX1_findNearest_72 : decode cX1_findNearest 72 = .ok (.lload 5, 2) := by decide +kernel
theorem dX1_findNearest_74 : decode cX1_findNearest 74 = .ok (.lsub, 1) := by decide +kernel
theorem dX1_findNearest_75 : decode cX1_findNearest 75 = .ok (.lstore 11, 2) := by decide +kernel
theorem dX1_findNearest_77 : decode cX1_findNearest 77 = .ok (.aload_n 0, 1) := by decide +kernel
theorem dX1_findNearest_78 : decode cX1_findNearest 78 = .ok (.getfield 37, 3) := by decide +kernel
theorem dX1_findNearest_81 : decode cX1_findNearest 81 = .ok (.iload_n 3, 1) := by decide +kernel
theorem dX1_findNearest_82 : decode cX1_findNearest 82 = .ok (.aaload, 1) := by decide +kernel
theorem dX1_findNearest_83 : decode cX1_findNearest 83 = .ok (.iload 4, 2) := by decide +kernel
theorem dX1_findNearest_85 : decode cX1_findNearest 85 = .ok (.lload 9, 2) := by decide +kernel
theorem dX1_findNearest_87 : decode cX1_findNearest 87 = .ok (.lastore, 1) := by decide +kernel
theorem dX1_findNearest_88 : decode cX1_findNearest 88 = .ok (.aload_n 0, 1) := by decide +kernel
theorem dX1_findNearest_89 : decode cX1_findNearest 89 = .ok (.getfield 40, 3) := by decide +kernel
theorem dX1_findNearest_92 : decode cX1_findNearest 92 = .ok (.iload_n 3, 1) := by decide +kernel
theorem dX1_findNearest_93 : decode cX1_findNearest 93 = .ok (.aaload, 1) := by decide +kernel
theorem dX1_findNearest_94 : decode cX1_findNearest 94 = .ok (.iload 4, 2) := by decide +kernel
theorem dX1_findNearest_96 : decode cX1_findNearest 96 = .ok (.lload 11, 2) := by decide +kernel
theorem dX1_findNearest_98 : decode cX1_findNearest 98 = .ok (.lload 11, 2) := by decide +kernel
theorem dX1_findNearest_100 : decode cX1_findNearest 100 = .ok (.lmul, 1) := by decide +kernel
theorem dX1_findNearest_101 : decode cX1_findNearest 101 = .ok (.lastore, 1) := by decide +kernel
theorem dX1_findNearest_102 : decode cX1_findNearest 102 = .ok (.iinc 4 1, 3) := by decide +kernel
theorem dX1_findNearest_105 : decode cX1_findNearest 105 = .ok (.goto (-88), 3) := by decide +kernel
theorem dX1_findNearest_108 : decode cX1_findNearest 108 = .ok (.iinc 3 1, 3) := by decide +kernel
theorem dX1_findNearest_111 : decode cX1_findNearest 111 = .ok (.goto (-102), 3) := by decide +kernel
theorem dX1_findNearest_114 : decode cX1_findNearest 114 = .ok (.return_, 1) := by decide +kernel
theorem dX1_chooseQuotient_0 : decode cX1_chooseQuotient 0 = .ok (.iload_n 1, 1) := by decide +kernel
theorem dX1_chooseQuotient_1 : decode cX1_chooseQuotient 1 = .ok (.invokestatic 74, 3) := by decide +kernel
theorem dX1_chooseQuotient_4 : decode cX1_chooseQuotient 4 = .ok (.istore_n 2, 1) := by decide +kernel
theorem dX1_chooseQuotient_5 : decode cX1_chooseQuotient 5 = .ok (.lconst 0, 1) := by decide +kernel
theorem dX1_chooseQuotient_6 : decode cX1_chooseQuotient 6 = .ok (.lstore_n 3, 1) := by decide +kernel
theorem dX1_chooseQuotient_7 : decode cX1_chooseQuotient 7 = .ok (.iconst 0, 1) := by decide +kernel
theorem dX1_chooseQuotient_8 : decode cX1_chooseQuotient 8 = .ok (.istore 5, 2) := by decide +kernel
theorem dX1_chooseQuotient_10 : decode cX1_chooseQuotient 10 = .ok (.iload 5, 2) := by decide +kernel
theorem dX1_chooseQuotient_12 : decode cX1_chooseQuotient 12 = .ok (.iload_n 2, 1) := by decide +kernel
theorem dX1_chooseQuotient_13 : decode cX1_chooseQuotient 13 = .ok (.if_icmp .ge 124, 3) := by decide +kernel
theorem dX1_chooseQuotient_16 : decode cX1_chooseQuotient 16 = .ok (.iload_n 1, 1) := by decide +kernel
theorem dX1_chooseQuotient_17 : decode cX1_chooseQuotient 17 = .ok (.iload 5, 2) := by decide +kernel
theorem dX1_chooseQuotient_19 : decode cX1_chooseQuotient 19 = .ok (.invokestatic 80, 3) := by decide +kernel
theorem dX1_chooseQuotient_22 : decode cX1_chooseQuotient 22 = .ok (.istore 6, 2) := by decide +kernel
theorem dX1_chooseQuotient_24 : decode cX1_chooseQuotient 24 = .ok (.lconst 0, 1) := by decide +kernel
theorem dX1_chooseQuotient_25 : decode cX1_chooseQuotient 25 = .ok (.lstore 7, 2) := by decide +kernel
theorem dX1_chooseQuotient_27 : decode cX1_chooseQuotient 27 = .ok (.iconst 0, 1) := by decide +kernel
theorem dX1_chooseQuotient_28 : decode cX1_chooseQuotient 28 = .ok (.istore 9, 2) := by decide +kernel
theorem dX1_chooseQuotient_30 : decode cX1_chooseQuotient 30 = .ok (.iload 9, 2) := by decide +kernel
theorem dX1_chooseQuotient_32 : decode cX1_chooseQuotient 32 = .ok (.bipush 8, 2) := by decide +kernel
theorem dX1_chooseQuotient_34 : decode cX1_chooseQuotient 34 = .ok (.if_icmp .ge 50, 3) := by decide +kernel
theorem dX1_chooseQuotient_37 : decode cX1_chooseQuotient 37 = .ok (.iload 6, 2) := by decide +kernel
theorem dX1_chooseQuotient_39 : decode cX1_chooseQuotient 39 = .ok (.iload 9, 2) := by decide +kernel
theorem dX1_chooseQuotient_41 : decode cX1_chooseQuotient 41 = .ok (.ishr, 1) := by decide +kernel
theorem dX1_chooseQuotient_42 : decode cX1_chooseQuotient 42 = .ok (.iconst 1, 1) := by decide +kernel
theorem dX1_chooseQuotient_43 : decode cX1_chooseQuotient 43 = .ok (.iand, 1) := by decide +kernel
theorem dX1_chooseQuotient_44 : decode cX1_chooseQuotient 44 = .ok (.istore 10, 2) := by decide +kernel
theorem dX1_chooseQuotient_46 : decode cX1_chooseQuotient 46 = .ok (.aload_n 0, 1) := by decide +kernel
theorem dX1_chooseQuotient_47 : decode cX1_chooseQuotient 47 = .ok (.getfield 32, 3) := by decide +kernel
theorem dX1_chooseQuotient_50 : decode cX1_chooseQuotient 50 = .ok (.iload 9, 2) := by decide +kernel
theorem dX1_chooseQuotient_52 : decode cX1_chooseQuotient 52 = .ok (.aload_n 0, 1) := by decide +kernel
theorem dX1_chooseQuotient_53 : decode cX1_chooseQuotient 53 = .ok (.getfield 37, 3) := by decide +kernel
theorem dX1_chooseQuotient_56 : decode cX1_chooseQuotient 56 = .ok (.iload 10, 2) := by decide +kernel
theorem dX1_chooseQuotient_58 : decode cX1_chooseQuotient 58 = .ok (.aaload, 1) := by decide +kernel
theorem dX1_chooseQuotient_59 : decode cX1_chooseQuotient 59 = .ok (.iload 9, 2) := by decide +kernel
theorem dX1_chooseQuotient_61 : decode cX1_chooseQuotient 61 = .ok (.laload, 1) := by decide +kernel
theorem dX1_chooseQuotient_62 : decode cX1_chooseQuotient 62 = .ok (.lastore, 1) := by decide +kernel
theorem dX1_chooseQuotient_63 : decode cX1_chooseQuotient 63 = .ok (.lload 7, 2) := by decide +kernel
theorem dX1_chooseQuotient_65 : decode cX1_chooseQuotient 65 = .ok (.aload_n 0, 1) := by decide +kernel
theorem dX1_chooseQuotient_66 : decode cX1_chooseQuotient 66 = .ok (.getfield 40, 3) := by decide +kernel
theorem dX1_chooseQuotient_69 : decode cX1_chooseQuotient 69 = .ok (.iload 10, 2) := by decide +kernel
theorem dX1_chooseQuotient_71 : decode cX1_chooseQuotient 71 = .ok (.aaload, 1) := by decide +kernel
theorem dX1_chooseQuotient_72 : decode cX1_chooseQuotient 72 = .ok (.iload 9, 2) := by decide +kernel
theorem dX1_chooseQuotient_74 : decode cX1_chooseQuotient 74 = .ok (.laload, 1) := by decide +kernel
theorem dX1_chooseQuotient_75 : decode cX1_chooseQuotient 75 = .ok (.ladd, 1) := by decide +kernel
theorem dX1_chooseQuotient_76 : decode cX1_chooseQuotient 76 = .ok (.lstore 7, 2) := by decide +kernel
theorem dX1_chooseQuotient_78 : decode cX1_chooseQuotient 78 = .ok (.iinc 9 1, 3) := by decide +kernel
theorem dX1_chooseQuotient_81 : decode cX1_chooseQuotient 81 = .ok (.goto (-51), 3) := by decide +kernel
theorem dX1_chooseQuotient_84 : decode cX1_chooseQuotient 84 = .ok (.iload 5, 2) := by decide +kernel
theorem dX1_chooseQuotient_86 : decode cX1_chooseQuotient 86 = .ok (.ifCond .eq 31, 3) := by decide +kernel
theorem dX1_chooseQuotient_89 : decode cX1_chooseQuotient 89 = .ok (.lload 7, 2) := by decide +kernel
theorem dX1_chooseQuotient_91 : decode cX1_chooseQuotient 91 = .ok (.lload_n 3, 1) := by decide +kernel
theorem dX1_chooseQuotient_92 : decode cX1_chooseQuotient 92 = .ok (.lcmp, 1) := by decide +kernel
theorem dX1_chooseQuotient_93 : decode cX1_chooseQuotient 93 = .ok (.ifCond .lt 24, 3) := by decide +kernel
theorem dX1_chooseQuotient_96 : decode cX1_chooseQuotient 96 = .ok (.lload 7, 2) := by decide +kernel
theorem dX1_chooseQuotient_98 : decode cX1_chooseQuotient 98 = .ok (.lload_n 3, 1) := by decide +kernel
theorem dX1_chooseQuotient_99 : decode cX1_chooseQuotient 99 = .ok (.lcmp, 1) := by decide +kernel
theorem dX1_chooseQuotient_100 : decode cX1_chooseQuotient 100 = .ok (.ifCond .ne 31, 3) := by decide +kernel
theorem dX1_chooseQuotient_103 : decode cX1_chooseQuotient 103 = .ok (.aload_n 0, 1) := by decide +kernel
theorem dX1_chooseQuotient_104 : decode cX1_chooseQuotient 104 = .ok (.getfield 32, 3) := by decide +kernel
theorem dX1_chooseQuotient_107 : decode cX1_chooseQuotient 107 = .ok (.aload_n 0, 1) := by decide +kernel
theorem dX1_chooseQuotient_108 : decode cX1_chooseQuotient 108 = .ok (.getfield 11, 3) := by decide +kernel
theorem dX1_chooseQuotient_111 : decode cX1_chooseQuotient 111 = .ok (.invokestatic 84, 3) := by decide +kernel
theorem dX1_chooseQuotient_114 : decode cX1_chooseQuotient 114 = .ok (.ifCond .eq 17, 3) := by decide +kernel
theorem dX1_chooseQuotient_117 : decode cX1_chooseQuotient 117 = .ok (.lload 7, 2) := by decide +kernel
theorem dX1_chooseQuotient_119 : decode cX1_chooseQuotient 119 = .ok (.lstore_n 3, 1) := by decide +kernel
theorem dX1_chooseQuotient_120 : decode cX1_chooseQuotient 120 = .ok (.aload_n 0, 1) := by decide +kernel
theorem dX1_chooseQuotient_121 : decode cX1_chooseQuotient 121 = .ok (.getfield 32, 3) := by decide +kernel
theorem dX1_chooseQuotient_124 : decode cX1_chooseQuotient 124 = .ok (.aload_n 0, 1) := by decide +kernel
theorem dX1_chooseQuotient_125 : decode cX1_chooseQuotient 125 = .ok (.getfield 11, 3) := by decide +kernel
theorem dX1_chooseQuotient_128 : decode cX1_chooseQuotient 128 = .ok (.invokestatic 43, 3) := by decide +kernel
theorem dX1_chooseQuotient_131 : decode cX1_chooseQuotient 131 = .ok (.iinc 5 1, 3) := by decide +kernel
theorem dX1_chooseQuotient_134 : decode cX1_chooseQuotient 134 = .ok (.goto (-124), 3) := by decide +kernel
theorem dX1_chooseQuotient_137 : decode cX1_chooseQuotient 137 = .ok (.return_, 1) := by decide +kernel
theorem dX1_comesFirst_0 : decode cX1_comesFirst 0 = .ok (.iconst 0, 1) := by decide +kernel
theorem dX1_comesFirst_1 : decode cX1_comesFirst 1 = .ok (.istore_n 2, 1) := by decide +kernel
theorem dX1_comesFirst_2 : decode cX1_comesFirst 2 = .ok (.iload_n 2, 1) := by decide +kernel
theorem dX1_comesFirst_3 : decode cX1_comesFirst 3 = .ok (.bipush 8, 2) := by decide +kernel
theorem dX1_comesFirst_5 : decode cX1_comesFirst 5 = .ok (.if_icmp .ge 35, 3) := by decide +kernel
theorem dX1_comesFirst_8 : decode cX1_comesFirst 8 = .ok (.aload_n 0, 1) := by decide +kernel
theorem dX1_comesFirst_9 : decode cX1_comesFirst 9 = .ok (.iload_n 2, 1) := by decide +kernel
theorem dX1_comesFirst_10 : decode cX1_comesFirst 10 = .ok (.laload, 1) := by decide +kernel
theorem dX1_comesFirst_11 : decode cX1_comesFirst 11 = .ok (.aload_n 1, 1) := by decide +kernel
theorem dX1_comesFirst_12 : decode cX1_comesFirst 12 = .ok (.iload_n 2, 1) := by decide +kernel
theorem dX1_comesFirst_13 : decode cX1_comesFirst 13 = .ok (.laload, 1) := by decide +kernel
theorem dX1_comesFirst_14 : decode cX1_comesFirst 14 = .ok (.lcmp, 1) := by decide +kernel
theorem dX1_comesFirst_15 : decode cX1_comesFirst 15 = .ok (.ifCond .eq 19, 3) := by decide +kernel
theorem dX1_comesFirst_18 : decode cX1_comesFirst 18 = .ok (.aload_n 0, 1) := by decide +kernel
theorem dX1_comesFirst_19 : decode cX1_comesFirst 19 = .ok (.iload_n 2, 1) := by decide +kernel
theorem dX1_comesFirst_20 : decode cX1_comesFirst 20 = .ok (.laload, 1) := by decide +kernel
theorem dX1_comesFirst_21 : decode cX1_comesFirst 21 = .ok (.aload_n 1, 1) := by decide +kernel
theorem dX1_comesFirst_22 : decode cX1_comesFirst 22 = .ok (.iload_n 2, 1) := by decide +kernel
theorem dX1_comesFirst_23 : decode cX1_comesFirst 23 = .ok (.laload, 1) := by decide +kernel
theorem dX1_comesFirst_24 : decode cX1_comesFirst 24 = .ok (.lcmp, 1) := by decide +kernel
theorem dX1_comesFirst_25 : decode cX1_comesFirst 25 = .ok (.ifCond .ge 7, 3) := by decide +kernel
theorem dX1_comesFirst_28 : decode cX1_comesFirst 28 = .ok (.iconst 1, 1) := by decide +kernel
theorem dX1_comesFirst_29 : decode cX1_comesFirst 29 = .ok (.goto 4, 3) := by decide +kernel
theorem dX1_comesFirst_32 : decode cX1_comesFirst 32 = .ok (.iconst 0, 1) := by decide +kernel
theorem dX1_comesFirst_33 : decode cX1_comesFirst 33 = .ok (.ireturn, 1) := by decide +kernel
theorem dX1_comesFirst_34 : decode cX1_comesFirst 34 = .ok (.iinc 2 1, 3) := by decide +kernel
theorem dX1_comesFirst_37 : decode cX1_comesFirst 37 = .ok (.goto (-35), 3) := by decide +kernel
theorem dX1_comesFirst_40 : decode cX1_comesFirst 40 = .ok (.iconst 0, 1) := by decide +kernel
theorem dX1_comesFirst_41 : decode cX1_comesFirst 41 = .ok (.ireturn, 1) := by decide +kernel
theorem dX2_sets_0 : decode cX2_sets 0 = .ok (.iload_n 0, 1) := by decide +kernel
theorem dX2_sets_1 : decode cX2_sets 1 = .ok (.ifCond .ne 7, 3) := by decide +kernel
theorem dX2_sets_4 : decode cX2_sets 4 = .ok (.iconst 1, 1) := by decide +kernel
theorem dX2_sets_5 : decode cX2_sets 5 = .ok (.goto 9, 3) := by decide +kernel
theorem dX2_sets_8 : decode cX2_sets 8 = .ok (.iconst 2, 1) := by decide +kernel
theorem dX2_sets_9 : decode cX2_sets 9 = .ok (.getstatic 7, 3) := by decide +kernel
theorem dX2_sets_12 : decode cX2_sets 12 = .ok (.arraylength, 1) := by decide +kernel
theorem dX2_sets_13 : decode cX2_sets 13 = .ok (.imul, 1) := by decide +kernel
theorem dX2_sets_14 : decode cX2_sets 14 = .ok (.ireturn, 1) := by decide +kernel
theorem dX2_oddSet_0 : decode cX2_oddSet 0 = .ok (.getstatic 7, 3) := by decide +kernel
theorem dX2_oddSet_3 : decode cX2_oddSet 3 = .ok (.iload_n 1, 1) := by decide +kernel
theorem dX2_oddSet_4 : decode cX2_oddSet 4 = .ok (.bipush 7, 2) := by decide +kernel
theorem dX2_oddSet_6 : decode cX2_oddSet 6 = .ok (.iand, 1) := by decide +kernel
theorem dX2_oddSet_7 : decode cX2_oddSet 7 = .ok (.iaload, 1) := by decide +kernel
theorem dX2_oddSet_8 : decode cX2_oddSet 8 = .ok (.istore_n 2, 1) := by decide +kernel
theorem dX2_oddSet_9 : decode cX2_oddSet 9 = .ok (.iload_n 1, 1) := by decide +kernel
theorem dX2_oddSet_10 : decode cX2_oddSet 10 = .ok (.getstatic 7, 3) := by decide +kernel
theorem dX2_oddSet_13 : decode cX2_oddSet 13 = .ok (.arraylength, 1) := by decide +kernel
theorem dX2_oddSet_14 : decode cX2_oddSet 14 = .ok (.if_icmp .ge 7, 3) := by decide +kernel
theorem dX2_oddSet_17 : decode cX2_oddSet 17 = .ok (.iload_n 2, 1) := by decide +kernel
theorem dX2_oddSet_18 : decode cX2_oddSet 18 = .ok (.goto 8, 3) := by decide +kernel
theorem dX2_oddSet_21 : decode cX2_oddSet 21 = .ok (.sipush 255, 3) := by decide +kernel
theorem dX2_oddSet_24 : decode cX2_oddSet 24 = .ok (.iload_n 2, 1) := by decide +kernel
theorem dX2_oddSet_25 : decode cX2_oddSet 25 = .ok (.ixor, 1) := by decide +kernel
theorem dX2_oddSet_26 : decode cX2_oddSet 26 = .ok (.iload_n 0, 1) := by decide +kernel
theorem dX2_oddSet_27 : decode cX2_oddSet 27 = .ok (.invokestatic 13, 3) := by decide +kernel
theorem dX2_oddSet_30 : decode cX2_oddSet 30 = .ok (.ireturn, 1) := by decide +kernel
theorem dX2_exchanged_0 : decode cX2_exchanged 0 = .ok (.iload_n 0, 1) := by decide +kernel
theorem dX2_exchanged_1 : decode cX2_exchanged 1 = .ok (.iload_n 0, 1) := by decide +kernel
theorem dX2_exchanged_2 : decode cX2_exchanged 2 = .ok (.iload_n 1, 1) := by decide +kernel
theorem dX2_exchanged_3 : decode cX2_exchanged 3 = .ok (.ishr, 1) := by decide +kernel
theorem dX2_exchanged_4 : decode cX2_exchanged 4 = .ok (.ixor, 1) := by decide +kernel
theorem dX2_exchanged_5 : decode cX2_exchanged 5 = .ok (.iconst 1, 1) := by decide +kernel
theorem dX2_exchanged_6 : decode cX2_exchanged 6 = .ok (.iand, 1) := by decide +kernel
theorem dX2_exchanged_7 : decode cX2_exchanged 7 = .ok (.istore_n 2, 1) := by decide +kernel
theorem dX2_exchanged_8 : decode cX2_exchanged 8 = .ok (.iload_n 0, 1) := by decide +kernel
theorem dX2_exchanged_9 : decode cX2_exchanged 9 = .ok (.iload_n 2, 1) := by decide +kernel
theorem dX2_exchanged_10 : decode cX2_exchanged 10 = .ok (.iload_n 2, 1) := by decide +kernel
theorem dX2_exchanged_11 : decode cX2_exchanged 11 = .ok (.iload_n 1, 1) := by decide +kernel
theorem dX2_exchanged_12 : decode cX2_exchanged 12 = .ok (.ishl, 1) := by decide +kernel
theorem dX2_exchanged_13 : decode cX2_exchanged 13 = .ok (.ior, 1) := by decide +kernel
theorem dX2_exchanged_14 : decode cX2_exchanged 14 = .ok (.ixor, 1) := by decide +kernel
theorem dX2_exchanged_15 : decode cX2_exchanged 15 = .ok (.ireturn, 1) := by decide +kernel
theorem dX2_allows_0 : decode cX2_allows 0 = .ok (.iload_n 0, 1) := by decide +kernel
theorem dX2_allows_1 : decode cX2_allows 1 = .ok (.invokestatic 17, 3) := by decide +kernel
theorem dX2_allows_4 : decode cX2_allows 4 = .ok (.istore_n 2, 1) := by decide +kernel
theorem dX2_allows_5 : decode cX2_allows 5 = .ok (.iconst 0, 1) := by decide +kernel
theorem dX2_allows_6 : decode cX2_allows 6 = .ok (.istore_n 3, 1) := by decide +kernel
theorem dX2_allows_7 : decode cX2_allows 7 = .ok (.iload_n 3, 1) := by decide +kernel
theorem dX2_allows_8 : decode cX2_allows 8 = .ok (.iload_n 2, 1) := by decide +kernel
theorem dX2_allows_9 : decode cX2_allows 9 = .ok (.if_icmp .ge 20, 3) := by decide +kernel
theorem dX2_allows_12 : decode cX2_allows 12 = .ok (.iload_n 0, 1) := by decide +kernel
theorem dX2_allows_13 : decode cX2_allows 13 = .ok (.iload_n 3, 1) := by decide +kernel
theorem dX2_allows_14 : decode cX2_allows 14 = .ok (.invokestatic 21, 3) := by decide +kernel
theorem dX2_allows_17 : decode cX2_allows 17 = .ok (.iload_n 1, 1) := by decide +kernel
theorem dX2_allows_18 : decode cX2_allows 18 = .ok (.if_icmp .ne 5, 3) := by decide +kernel
theorem dX2_allows_21 : decode cX2_allows 21 = .ok (.iconst 1, 1) := by decide +kernel
theorem dX2_allows_22 : decode cX2_allows 22 = .ok (.ireturn, 1) := by decide +kernel
theorem dX2_allows_23 : decode cX2_allows 23 = .ok (.iinc 3 1, 3) := by decide +kernel
theorem dX2_allows_26 : decode cX2_allows 26 = .ok (.goto (-19), 3) := by decide +kernel
theorem dX2_allows_29 : decode cX2_allows 29 = .ok (.iconst 0, 1) := by decide +kernel
theorem dX2_allows_30 : decode cX2_allows 30 = .ok (.ireturn, 1) := by decide +kernel
theorem dX3_product_0 : decode cX3_product 0 = .ok (.aload_n 2, 1) := by decide +kernel
theorem dX3_product_1 : decode cX3_product 1 = .ok (.iconst 0, 1) := by decide +kernel
theorem dX3_product_2 : decode cX3_product 2 = .ok (.aload_n 0, 1) := by decide +kernel
theorem dX3_product_3 : decode cX3_product 3 = .ok (.iconst 0, 1) := by decide +kernel
theorem dX3_product_4 : decode cX3_product 4 = .ok (.laload, 1) := by decide +kernel
theorem dX3_product_5 : decode cX3_product 5 = .ok (.aload_n 1, 1) := by decide +kernel
theorem dX3_product_6 : decode cX3_product 6 = .ok (.iconst 0, 1) := by decide +kernel
theorem dX3_product_7 : decode cX3_product 7 = .ok (.laload, 1) := by decide +kernel
theorem dX3_product_8 : decode cX3_product 8 = .ok (.lmul, 1) := by decide +kernel
theorem dX3_product_9 : decode cX3_product 9 = .ok (.lastore, 1) := by decide +kernel
theorem dX3_product_10 : decode cX3_product 10 = .ok (.iconst 1, 1) := by decide +kernel
theorem dX3_product_11 : decode cX3_product 11 = .ok (.istore_n 3, 1) := by decide +kernel
theorem dX3_product_12 : decode cX3_product 12 = .ok (.iload_n 3, 1) := by decide +kernel
theorem dX3_product_13 : decode cX3_product 13 = .ok (.bipush 8, 2) := by decide +kernel
theorem dX3_product_15 : decode cX3_product 15 = .ok (.if_icmp .ge 40, 3) := by decide +kernel
theorem dX3_product_18 : decode cX3_product 18 = .ok (.aload_n 2, 1) := by decide +kernel
theorem dX3_product_19 : decode cX3_product 19 = .ok (.iconst 0, 1) := by decide +kernel
theorem dX3_product_20 : decode cX3_product 20 = .ok (.dup2, 1) := by decide +kernel
theorem dX3_product_21 : decode cX3_product 21 = .ok (.laload, 1) := by decide +kernel
theorem dX3_product_22 : decode cX3_product 22 = .ok (.aload_n 0, 1) := by decide +kernel
theorem dX3_product_23 : decode cX3_product 23 = .ok (.iload_n 3, 1) := by decide +kernel
theorem dX3_product_24 : decode cX3_product 24 = .ok (.laload, 1) := by decide +kernel
theorem dX3_product_25 : decode cX3_product 25 = .ok (.aload_n 1, 1) := by decide +kernel
theorem dX3_product_26 : decode cX3_product 26 = .ok (.iload_n 3, 1) := by decide +kernel
theorem dX3_product_27 : decode cX3_product 27 = .ok (.laload, 1) := by decide +kernel
theorem dX3_product_28 : decode cX3_product 28 = .ok (.lmul, 1) := by decide +kernel
theorem dX3_product_29 : decode cX3_product 29 = .ok (.lsub, 1) := by decide +kernel
theorem dX3_product_30 : decode cX3_product 30 = .ok (.lastore, 1) := by decide +kernel
theorem dX3_product_31 : decode cX3_product 31 = .ok (.aload_n 2, 1) := by decide +kernel
theorem dX3_product_32 : decode cX3_product 32 = .ok (.iload_n 3, 1) := by decide +kernel
theorem dX3_product_33 : decode cX3_product 33 = .ok (.aload_n 0, 1) := by decide +kernel
theorem dX3_product_34 : decode cX3_product 34 = .ok (.iconst 0, 1) := by decide +kernel
theorem dX3_product_35 : decode cX3_product 35 = .ok (.laload, 1) := by decide +kernel
theorem dX3_product_36 : decode cX3_product 36 = .ok (.aload_n 1, 1) := by decide +kernel
theorem dX3_product_37 : decode cX3_product 37 = .ok (.iload_n 3, 1) := by decide +kernel
theorem dX3_product_38 : decode cX3_product 38 = .ok (.laload, 1) := by decide +kernel
theorem dX3_product_39 : decode cX3_product 39 = .ok (.lmul, 1) := by decide +kernel
theorem dX3_product_40 : decode cX3_product 40 = .ok (.aload_n 0, 1) := by decide +kernel
theorem dX3_product_41 : decode cX3_product 41 = .ok (.iload_n 3, 1) := by decide +kernel
theorem dX3_product_42 : decode cX3_product 42 = .ok (.laload, 1) := by decide +kernel
theorem dX3_product_43 : decode cX3_product 43 = .ok (.aload_n 1, 1) := by decide +kernel
theorem dX3_product_44 : decode cX3_product 44 = .ok (.iconst 0, 1) := by decide +kernel
theorem dX3_product_45 : decode cX3_product 45 = .ok (.laload, 1) := by decide +kernel
theorem dX3_product_46 : decode cX3_product 46 = .ok (.lmul, 1) := by decide +kernel
theorem dX3_product_47 : decode cX3_product 47 = .ok (.ladd, 1) := by decide +kernel
theorem dX3_product_48 : decode cX3_product 48 = .ok (.lastore, 1) := by decide +kernel
theorem dX3_product_49 : decode cX3_product 49 = .ok (.iinc 3 1, 3) := by decide +kernel
theorem dX3_product_52 : decode cX3_product 52 = .ok (.goto (-40), 3) := by decide +kernel
theorem dX3_product_55 : decode cX3_product 55 = .ok (.iconst 0, 1) := by decide +kernel
theorem dX3_product_56 : decode cX3_product 56 = .ok (.istore_n 3, 1) := by decide +kernel
theorem dX3_product_57 : decode cX3_product 57 = .ok (.iload_n 3, 1) := by decide +kernel
theorem dX3_product_58 : decode cX3_product 58 = .ok (.iconst 2, 1) := by decide +kernel
theorem dX3_product_59 : decode cX3_product 59 = .ok (.iadd, 1) := by decide +kernel
theorem dX3_product_60 : decode cX3_product 60 = .ok (.getstatic 9, 3) := by decide +kernel
theorem dX3_product_63 : decode cX3_product 63 = .ok (.arraylength, 1) := by decide +kernel
theorem dX3_product_64 : decode cX3_product 64 = .ok (.if_icmp .ge 112, 3) := by decide +kernel
theorem dX3_product_67 : decode cX3_product 67 = .ok (.getstatic 9, 3) := by decide +kernel
theorem dX3_product_70 : decode cX3_product 70 = .ok (.iload_n 3, 1) := by decide +kernel
theorem dX3_product_71 : decode cX3_product 71 = .ok (.iaload, 1) := by decide +kernel
theorem dX3_product_72 : decode cX3_product 72 = .ok (.istore 4, 2) := by decide +kernel
theorem dX3_product_74 : decode cX3_product 74 = .ok (.getstatic 9, 3) := by decide +kernel
theorem dX3_product_77 : decode cX3_product 77 = .ok (.iload_n 3, 1) := by decide +kernel
theorem dX3_product_78 : decode cX3_product 78 = .ok (.iconst 1, 1) := by decide +kernel
theorem dX3_product_79 : decode cX3_product 79 = .ok (.iadd, 1) := by decide +kernel
theorem dX3_product_80 : decode cX3_product 80 = .ok (.iaload, 1) := by decide +kernel
theorem dX3_product_81 : decode cX3_product 81 = .ok (.istore 5, 2) := by decide +kernel
theorem dX3_product_83 : decode cX3_product 83 = .ok (.getstatic 9, 3) := by decide +kernel
theorem dX3_product_86 : decode cX3_product 86 = .ok (.iload_n 3, 1) := by decide +kernel
theorem dX3_product_87 : decode cX3_product 87 = .ok (.iconst 2, 1) := by decide +kernel
theorem dX3_product_88 : decode cX3_product 88 = .ok (.iadd, 1) := by decide +kernel
theorem dX3_product_89 : decode cX3_product 89 = .ok (.iaload, 1) := by decide +kernel
theorem dX3_product_90 : decode cX3_product 90 = .ok (.istore 6, 2) := by decide +kernel
theorem dX3_product_92 : decode cX3_product 92 = .ok (.aload_n 2, 1) := by decide +kernel
theorem dX3_product_93 : decode cX3_product 93 = .ok (.iload 6, 2) := by decide +kernel
theorem dX3_product_95 : decode cX3_product 95 = .ok (.dup2, 1) := by decide +kernel
theorem dX3_product_96 : decode cX3_product 96 = .ok (.laload, 1) := by decide +kernel
theorem dX3_product_97 : decode cX3_product 97 = .ok (.aload_n 0, 1) := by decide +kernel
theorem dX3_product_98 : decode cX3_product 98 = .ok (.iload 4, 2) := by decide +kernel
theorem dX3_product_100 : decode cX3_product 100 = .ok (.laload, 1) := by decide +kernel
theorem dX3_product_101 : decode cX3_product 101 = .ok (.aload_n 1, 1) := by decide +kernel
theorem dX3_product_102 : decode cX3_product 102 = .ok (.iload 5, 2) := by decide +kernel
theorem dX3_product_104 : decode cX3_product 104 = .ok (.laload, 1) := by decide +kernel
theorem dX3_product_105 : decode cX3_product 105 = .ok (.lmul, 1) := by decide +kernel
theorem dX3_product_106 : decode cX3_product 106 = .ok (.aload_n 0, 1) := by decide +kernel
theorem dX3_product_107 : decode cX3_product 107 = .ok (.iload 5, 2) := by decide +kernel
theorem dX3_product_109 : decode cX3_product 109 = .ok (.laload, 1) := by decide +kernel
theorem dX3_product_110 : decode cX3_product 110 = .ok (.aload_n 1, 1) := by decide +kernel
theorem dX3_product_111 : decode cX3_product 111 = .ok (.iload 4, 2) := by decide +kernel
theorem dX3_product_113 : decode cX3_product 113 = .ok (.laload, 1) := by decide +kernel
theorem dX3_product_114 : decode cX3_product 114 = .ok (.lmul, 1) := by decide +kernel
theorem dX3_product_115 : decode cX3_product 115 = .ok (.lsub, 1) := by decide +kernel
theorem dX3_product_116 : decode cX3_product 116 = .ok (.ladd, 1) := by decide +kernel
theorem dX3_product_117 : decode cX3_product 117 = .ok (.lastore, 1) := by decide +kernel
theorem dX3_product_118 : decode cX3_product 118 = .ok (.aload_n 2, 1) := by decide +kernel
theorem dX3_product_119 : decode cX3_product 119 = .ok (.iload 4, 2) := by decide +kernel
theorem dX3_product_121 : decode cX3_product 121 = .ok (.dup2, 1) := by decide +kernel
theorem dX3_product_122 : decode cX3_product 122 = .ok (.laload, 1) := by decide +kernel
theorem dX3_product_123 : decode cX3_product 123 = .ok (.aload_n 0, 1) := by decide +kernel
theorem dX3_product_124 : decode cX3_product 124 = .ok (.iload 5, 2) := by decide +kernel
theorem dX3_product_126 : decode cX3_product 126 = .ok (.laload, 1) := by decide +kernel
theorem dX3_product_127 : decode cX3_product 127 = .ok (.aload_n 1, 1) := by decide +kernel
theorem dX3_product_128 : decode cX3_product 128 = .ok (.iload 6, 2) := by decide +kernel
theorem dX3_product_130 : decode cX3_product 130 = .ok (.laload, 1) := by decide +kernel
theorem dX3_product_131 : decode cX3_product 131 = .ok (.lmul, 1) := by decide +kernel
theorem dX3_product_132 : decode cX3_product 132 = .ok (.aload_n 0, 1) := by decide +kernel
theorem dX3_product_133 : decode cX3_product 133 = .ok (.iload 6, 2) := by decide +kernel
theorem dX3_product_135 : decode cX3_product 135 = .ok (.laload, 1) := by decide +kernel
theorem dX3_product_136 : decode cX3_product 136 = .ok (.aload_n 1, 1) := by decide +kernel
theorem dX3_product_137 : decode cX3_product 137 = .ok (.iload 5, 2) := by decide +kernel
theorem dX3_product_139 : decode cX3_product 139 = .ok (.laload, 1) := by decide +kernel
theorem dX3_product_140 : decode cX3_product 140 = .ok (.lmul, 1) := by decide +kernel
theorem dX3_product_141 : decode cX3_product 141 = .ok (.lsub, 1) := by decide +kernel
theorem dX3_product_142 : decode cX3_product 142 = .ok (.ladd, 1) := by decide +kernel
theorem dX3_product_143 : decode cX3_product 143 = .ok (.lastore, 1) := by decide +kernel
theorem dX3_product_144 : decode cX3_product 144 = .ok (.aload_n 2, 1) := by decide +kernel
theorem dX3_product_145 : decode cX3_product 145 = .ok (.iload 5, 2) := by decide +kernel
theorem dX3_product_147 : decode cX3_product 147 = .ok (.dup2, 1) := by decide +kernel
theorem dX3_product_148 : decode cX3_product 148 = .ok (.laload, 1) := by decide +kernel
theorem dX3_product_149 : decode cX3_product 149 = .ok (.aload_n 0, 1) := by decide +kernel
theorem dX3_product_150 : decode cX3_product 150 = .ok (.iload 6, 2) := by decide +kernel
theorem dX3_product_152 : decode cX3_product 152 = .ok (.laload, 1) := by decide +kernel
theorem dX3_product_153 : decode cX3_product 153 = .ok (.aload_n 1, 1) := by decide +kernel
theorem dX3_product_154 : decode cX3_product 154 = .ok (.iload 4, 2) := by decide +kernel
theorem dX3_product_156 : decode cX3_product 156 = .ok (.laload, 1) := by decide +kernel
theorem dX3_product_157 : decode cX3_product 157 = .ok (.lmul, 1) := by decide +kernel
theorem dX3_product_158 : decode cX3_product 158 = .ok (.aload_n 0, 1) := by decide +kernel
theorem dX3_product_159 : decode cX3_product 159 = .ok (.iload 4, 2) := by decide +kernel
theorem dX3_product_161 : decode cX3_product 161 = .ok (.laload, 1) := by decide +kernel
theorem dX3_product_162 : decode cX3_product 162 = .ok (.aload_n 1, 1) := by decide +kernel
theorem dX3_product_163 : decode cX3_product 163 = .ok (.iload 6, 2) := by decide +kernel
theorem dX3_product_165 : decode cX3_product 165 = .ok (.laload, 1) := by decide +kernel
theorem dX3_product_166 : decode cX3_product 166 = .ok (.lmul, 1) := by decide +kernel
theorem dX3_product_167 : decode cX3_product 167 = .ok (.lsub, 1) := by decide +kernel
theorem dX3_product_168 : decode cX3_product 168 = .ok (.ladd, 1) := by decide +kernel
theorem dX3_product_169 : decode cX3_product 169 = .ok (.lastore, 1) := by decide +kernel
theorem dX3_product_170 : decode cX3_product 170 = .ok (.iinc 3 3, 3) := by decide +kernel
theorem dX3_product_173 : decode cX3_product 173 = .ok (.goto (-116), 3) := by decide +kernel
theorem dX3_product_176 : decode cX3_product 176 = .ok (.return_, 1) := by decide +kernel
theorem dX3_total_0 : decode cX3_total 0 = .ok (.iconst 0, 1) := by decide +kernel
theorem dX3_total_1 : decode cX3_total 1 = .ok (.istore 4, 2) := by decide +kernel
theorem dX3_total_3 : decode cX3_total 3 = .ok (.iload 4, 2) := by decide +kernel
theorem dX3_total_5 : decode cX3_total 5 = .ok (.bipush 8, 2) := by decide +kernel
theorem dX3_total_7 : decode cX3_total 7 = .ok (.if_icmp .ge 38, 3) := by decide +kernel
theorem dX3_total_10 : decode cX3_total 10 = .ok (.aload_n 3, 1) := by decide +kernel
theorem dX3_total_11 : decode cX3_total 11 = .ok (.iload 4, 2) := by decide +kernel
theorem dX3_total_13 : decode cX3_total 13 = .ok (.iload_n 2, 1) := by decide +kernel
theorem dX3_total_14 : decode cX3_total 14 = .ok (.ifCond .eq 15, 3) := by decide +kernel
theorem dX3_total_17 : decode cX3_total 17 = .ok (.aload_n 0, 1) := by decide +kernel
theorem dX3_total_18 : decode cX3_total 18 = .ok (.iload 4, 2) := by decide +kernel
theorem dX3_total_20 : decode cX3_total 20 = .ok (.laload, 1) := by decide +kernel
theorem dX3_total_21 : decode cX3_total 21 = .ok (.aload_n 1, 1) := by decide +kernel
theorem dX3_total_22 : decode cX3_total 22 = .ok (.iload 4, 2) := by decide +kernel
theorem dX3_total_24 : decode cX3_total 24 = .ok (.laload, 1) := by decide +kernel
theorem dX3_total_25 : decode cX3_total 25 = .ok (.lsub, 1) := by decide +kernel
theorem dX3_total_26 : decode cX3_total 26 = .ok (.goto 12, 3) := by decide +kernel
theorem dX3_total_29 : decode cX3_total 29 = .ok (.aload_n 0, 1) := by decide +kernel
theorem dX3_total_30 : decode cX3_total 30 = .ok (.iload 4, 2) := by decide +kernel
theorem dX3_total_32 : decode cX3_total 32 = .ok (.laload, 1) := by decide +kernel
theorem dX3_total_33 : decode cX3_total 33 = .ok (.aload_n 1, 1) := by decide +kernel
theorem dX3_total_34 : decode cX3_total 34 = .ok (.iload 4, 2) := by decide +kernel
theorem dX3_total_36 : decode cX3_total 36 = .ok (.laload, 1) := by decide +kernel
theorem dX3_total_37 : decode cX3_total 37 = .ok (.ladd, 1) := by decide +kernel
theorem dX3_total_38 : decode cX3_total 38 = .ok (.lastore, 1) := by decide +kernel
theorem dX3_total_39 : decode cX3_total 39 = .ok (.iinc 4 1, 3) := by decide +kernel
theorem dX3_total_42 : decode cX3_total 42 = .ok (.goto (-39), 3) := by decide +kernel
theorem dX3_total_45 : decode cX3_total 45 = .ok (.return_, 1) := by decide +kernel
theorem dX3_mirror_0 : decode cX3_mirror 0 = .ok (.iconst 1, 1) := by decide +kernel
theorem dX3_mirror_1 : decode cX3_mirror 1 = .ok (.istore_n 1, 1) := by decide +kernel
theorem dX3_mirror_2 : decode cX3_mirror 2 = .ok (.iload_n 1, 1) := by decide +kernel
theorem dX3_mirror_3 : decode cX3_mirror 3 = .ok (.bipush 8, 2) := by decide +kernel
theorem dX3_mirror_5 : decode cX3_mirror 5 = .ok (.if_icmp .ge 16, 3) := by decide +kernel
theorem dX3_mirror_8 : decode cX3_mirror 8 = .ok (.aload_n 0, 1) := by decide +kernel
theorem dX3_mirror_9 : decode cX3_mirror 9 = .ok (.iload_n 1, 1) := by decide +kernel
theorem dX3_mirror_10 : decode cX3_mirror 10 = .ok (.aload_n 0, 1) := by decide +kernel
theorem dX3_mirror_11 : decode cX3_mirror 11 = .ok (.iload_n 1, 1) := by decide +kernel
theorem dX3_mirror_12 : decode cX3_mirror 12 = .ok (.laload, 1) := by decide +kernel
theorem dX3_mirror_13 : decode cX3_mirror 13 = .ok (.lneg, 1) := by decide +kernel
theorem dX3_mirror_14 : decode cX3_mirror 14 = .ok (.lastore, 1) := by decide +kernel
theorem dX3_mirror_15 : decode cX3_mirror 15 = .ok (.iinc 1 1, 3) := by decide +kernel
theorem dX3_mirror_18 : decode cX3_mirror 18 = .ok (.goto (-16), 3) := by decide +kernel
theorem dX3_mirror_21 : decode cX3_mirror 21 = .ok (.return_, 1) := by decide +kernel
theorem dX3_copy_0 : decode cX3_copy 0 = .ok (.iconst 0, 1) := by decide +kernel
theorem dX3_copy_1 : decode cX3_copy 1 = .ok (.istore_n 2, 1) := by decide +kernel
theorem dX3_copy_2 : decode cX3_copy 2 = .ok (.iload_n 2, 1) := by decide +kernel
theorem dX3_copy_3 : decode cX3_copy 3 = .ok (.bipush 8, 2) := by decide +kernel
theorem dX3_copy_5 : decode cX3_copy 5 = .ok (.if_icmp .ge 15, 3) := by decide +kernel
theorem dX3_copy_8 : decode cX3_copy 8 = .ok (.aload_n 1, 1) := by decide +kernel
theorem dX3_copy_9 : decode cX3_copy 9 = .ok (.iload_n 2, 1) := by decide +kernel
theorem dX3_copy_10 : decode cX3_copy 10 = .ok (.aload_n 0, 1) := by decide +kernel
theorem dX3_copy_11 : decode cX3_copy 11 = .ok (.iload_n 2, 1) := by decide +kernel
theorem dX3_copy_12 : decode cX3_copy 12 = .ok (.laload, 1) := by decide +kernel
theorem dX3_copy_13 : decode cX3_copy 13 = .ok (.lastore, 1) := by decide +kernel
theorem dX3_copy_14 : decode cX3_copy 14 = .ok (.iinc 2 1, 3) := by decide +kernel
theorem dX3_copy_17 : decode cX3_copy 17 = .ok (.goto (-15), 3) := by decide +kernel
theorem dX3_copy_20 : decode cX3_copy 20 = .ok (.return_, 1) := by decide +kernel
theorem dX3_clear_0 : decode cX3_clear 0 = .ok (.iconst 0, 1) := by decide +kernel
theorem dX3_clear_1 : decode cX3_clear 1 = .ok (.istore_n 1, 1) := by decide +kernel
theorem dX3_clear_2 : decode cX3_clear 2 = .ok (.iload_n 1, 1) := by decide +kernel
theorem dX3_clear_3 : decode cX3_clear 3 = .ok (.bipush 8, 2) := by decide +kernel
theorem dX3_clear_5 : decode cX3_clear 5 = .ok (.if_icmp .ge 13, 3) := by decide +kernel
theorem dX3_clear_8 : decode cX3_clear 8 = .ok (.aload_n 0, 1) := by decide +kernel
theorem dX3_clear_9 : decode cX3_clear 9 = .ok (.iload_n 1, 1) := by decide +kernel
theorem dX3_clear_10 : decode cX3_clear 10 = .ok (.lconst 0, 1) := by decide +kernel
theorem dX3_clear_11 : decode cX3_clear 11 = .ok (.lastore, 1) := by decide +kernel
theorem dX3_clear_12 : decode cX3_clear 12 = .ok (.iinc 1 1, 3) := by decide +kernel
theorem dX3_clear_15 : decode cX3_clear 15 = .ok (.goto (-13), 3) := by decide +kernel
theorem dX3_clear_18 : decode cX3_clear 18 = .ok (.return_, 1) := by decide +kernel
theorem dX3_fit_0 : decode cX3_fit 0 = .ok (.lconst 1, 1) := by decide +kernel
theorem dX3_fit_1 : decode cX3_fit 1 = .ok (.iload_n 1, 1) := by decide +kernel
theorem dX3_fit_2 : decode cX3_fit 2 = .ok (.lshl, 1) := by decide +kernel
theorem dX3_fit_3 : decode cX3_fit 3 = .ok (.lstore_n 2, 1) := by decide +kernel
theorem dX3_fit_4 : decode cX3_fit 4 = .ok (.iconst 0, 1) := by decide +kernel
theorem dX3_fit_5 : decode cX3_fit 5 = .ok (.istore 4, 2) := by decide +kernel
theorem dX3_fit_7 : decode cX3_fit 7 = .ok (.iload 4, 2) := by decide +kernel
theorem dX3_fit_9 : decode cX3_fit 9 = .ok (.bipush 8, 2) := by decide +kernel
theorem dX3_fit_11 : decode cX3_fit 11 = .ok (.if_icmp .ge 56, 3) := by decide +kernel
theorem dX3_fit_14 : decode cX3_fit 14 = .ok (.aload_n 0, 1) := by decide +kernel
theorem dX3_fit_15 : decode cX3_fit 15 = .ok (.iload 4, 2) := by decide +kernel
theorem dX3_fit_17 : decode cX3_fit 17 = .ok (.laload, 1) := by decide +kernel
theorem dX3_fit_18 : decode cX3_fit 18 = .ok (.lload_n 2, 1) := by decide +kernel
theorem dX3_fit_19 : decode cX3_fit 19 = .ok (.lconst 1, 1) := by decide +kernel
theorem dX3_fit_20 : decode cX3_fit 20 = .ok (.lsub, 1) := by decide +kernel
theorem dX3_fit_21 : decode cX3_fit 21 = .ok (.land, 1) := by decide +kernel
theorem dX3_fit_22 : decode cX3_fit 22 = .ok (.lconst 0, 1) := by decide +kernel
theorem dX3_fit_23 : decode cX3_fit 23 = .ok (.lcmp, 1) := by decide +kernel
theorem dX3_fit_24 : decode cX3_fit 24 = .ok (.ifCond .eq 5, 3) := by decide +kernel
theorem dX3_fit_27 : decode cX3_fit 27 = .ok (.iconst 0, 1) := by decide +kernel
theorem dX3_fit_28 : decode cX3_fit 28 = .ok (.ireturn, 1) := by decide +kernel
theorem dX3_fit_29 : decode cX3_fit 29 = .ok (.aload_n 0, 1) := by decide +kernel
theorem dX3_fit_30 : decode cX3_fit 30 = .ok (.iload 4, 2) := by decide +kernel
theorem dX3_fit_32 : decode cX3_fit 32 = .ok (.dup2, 1) := by decide +kernel
theorem dX3_fit_33 : decode cX3_fit 33 = .ok (.laload, 1) := by decide +kernel
theorem dX3_fit_34 : decode cX3_fit 34 = .ok (.iload_n 1, 1) := by decide +kernel
theorem dX3_fit_35 : decode cX3_fit 35 = .ok (.lshr, 1) := by decide +kernel
theorem dX3_fit_36 : decode cX3_fit 36 = .ok (.lastore, 1) := by decide +kernel
theorem dX3_fit_37 : decode cX3_fit 37 = .ok (.aload_n 0, 1) := by decide +kernel
theorem dX3_fit_38 : decode cX3_fit 38 = .ok (.iload 4, 2) := by decide +kernel
theorem dX3_fit_40 : decode cX3_fit 40 = .ok (.laload, 1) := by decide +kernel
theorem dX3_fit_41 : decode cX3_fit 41 = .ok (.ldc2_w 13, 3) := by decide +kernel
theorem dX3_fit_44 : decode cX3_fit 44 = .ok (.lcmp, 1) := by decide +kernel
theorem dX3_fit_45 : decode cX3_fit 45 = .ok (.ifCond .lt 14, 3) := by decide +kernel
theorem dX3_fit_48 : decode cX3_fit 48 = .ok (.aload_n 0, 1) := by decide +kernel
theorem dX3_fit_49 : decode cX3_fit 49 = .ok (.iload 4, 2) := by decide +kernel
theorem dX3_fit_51 : decode cX3_fit 51 = .ok (.laload, 1) := by decide +kernel
theorem dX3_fit_52 : decode cX3_fit 52 = .ok (.ldc2_w 15, 3) := by decide +kernel
theorem dX3_fit_55 : decode cX3_fit 55 = .ok (.lcmp, 1) := by decide +kernel
theorem dX3_fit_56 : decode cX3_fit 56 = .ok (.ifCond .le 5, 3) := by decide +kernel
theorem dX3_fit_59 : decode cX3_fit 59 = .ok (.iconst 0, 1) := by decide +kernel
theorem dX3_fit_60 : decode cX3_fit 60 = .ok (.ireturn, 1) := by decide +kernel
theorem dX3_fit_61 : decode cX3_fit 61 = .ok (.iinc 4 1, 3) := by decide +kernel
theorem dX3_fit_64 : decode cX3_fit 64 = .ok (.goto (-57), 3) := by decide +kernel
theorem dX3_fit_67 : decode cX3_fit 67 = .ok (.iconst 1, 1) := by decide +kernel
theorem dX3_fit_68 : decode cX3_fit 68 = .ok (.ireturn, 1) := by decide +kernel
theorem dX3_inner_0 : decode cX3_inner 0 = .ok (.lconst 0, 1) := by decide +kernel
theorem dX3_inner_1 : decode cX3_inner 1 = .ok (.lstore_n 2, 1) := by decide +kernel
theorem dX3_inner_2 : decode cX3_inner 2 = .ok (.iconst 0, 1) := by decide +kernel
theorem dX3_inner_3 : decode cX3_inner 3 = .ok (.istore 4, 2) := by decide +kernel
theorem dX3_inner_5 : decode cX3_inner 5 = .ok (.iload 4, 2) := by decide +kernel
theorem dX3_inner_7 : decode cX3_inner 7 = .ok (.bipush 8, 2) := by decide +kernel
theorem dX3_inner_9 : decode cX3_inner 9 = .ok (.if_icmp .ge 21, 3) := by decide +kernel
theorem dX3_inner_12 : decode cX3_inner 12 = .ok (.lload_n 2, 1) := by decide +kernel
theorem dX3_inner_13 : decode cX3_inner 13 = .ok (.aload_n 0, 1) := by decide +kernel
theorem dX3_inner_14 : decode cX3_inner 14 = .ok (.iload 4, 2) := by decide +kernel
theorem dX3_inner_16 : decode cX3_inner 16 = .ok (.laload, 1) := by decide +kernel
theorem dX3_inner_17 : decode cX3_inner 17 = .ok (.aload_n 1, 1) := by decide +kernel
theorem dX3_inner_18 : decode cX3_inner 18 = .ok (.iload 4, 2) := by decide +kernel
theorem dX3_inner_20 : decode cX3_inner 20 = .ok (.laload, 1) := by decide +kernel
theorem dX3_inner_21 : decode cX3_inner 21 = .ok (.lmul, 1) := by decide +kernel
theorem dX3_inner_22 : decode cX3_inner 22 = .ok (.ladd, 1) := by decide +kernel
theorem dX3_inner_23 : decode cX3_inner 23 = .ok (.lstore_n 2, 1) := by decide +kernel
theorem dX3_inner_24 : decode cX3_inner 24 = .ok (.iinc 4 1, 3) := by decide +kernel
theorem dX3_inner_27 : decode cX3_inner 27 = .ok (.goto (-22), 3) := by decide +kernel
theorem dX3_inner_30 : decode cX3_inner 30 = .ok (.lload_n 2, 1) := by decide +kernel
theorem dX3_inner_31 : decode cX3_inner 31 = .ok (.lreturn, 1) := by decide +kernel
theorem dX3_quarters_0 : decode cX3_quarters 0 = .ok (.aload_n 0, 1) := by decide +kernel
theorem dX3_quarters_1 : decode cX3_quarters 1 = .ok (.aload_n 0, 1) := by decide +kernel
theorem dX3_quarters_2 : decode cX3_quarters 2 = .ok (.invokestatic 17, 3) := by decide +kernel
theorem dX3_quarters_5 : decode cX3_quarters 5 = .ok (.lreturn, 1) := by decide +kernel
theorem dX3_isZero_0 : decode cX3_isZero 0 = .ok (.iconst 0, 1) := by decide +kernel
theorem dX3_isZero_1 : decode cX3_isZero 1 = .ok (.istore_n 1, 1) := by decide +kernel
theorem dX3_isZero_2 : decode cX3_isZero 2 = .ok (.iload_n 1, 1) := by decide +kernel
theorem dX3_isZero_3 : decode cX3_isZero 3 = .ok (.bipush 8, 2) := by decide +kernel
theorem dX3_isZero_5 : decode cX3_isZero 5 = .ok (.if_icmp .ge 19, 3) := by decide +kernel
theorem dX3_isZero_8 : decode cX3_isZero 8 = .ok (.aload_n 0, 1) := by decide +kernel
theorem dX3_isZero_9 : decode cX3_isZero 9 = .ok (.iload_n 1, 1) := by decide +kernel
theorem dX3_isZero_10 : decode cX3_isZero 10 = .ok (.laload, 1) := by decide +kernel
theorem dX3_isZero_11 : decode cX3_isZero 11 = .ok (.lconst 0, 1) := by decide +kernel
theorem dX3_isZero_12 : decode cX3_isZero 12 = .ok (.lcmp, 1) := by decide +kernel
theorem dX3_isZero_13 : decode cX3_isZero 13 = .ok (.ifCond .eq 5, 3) := by decide +kernel
theorem dX3_isZero_16 : decode cX3_isZero 16 = .ok (.iconst 0, 1) := by decide +kernel
theorem dX3_isZero_17 : decode cX3_isZero 17 = .ok (.ireturn, 1) := by decide +kernel
theorem dX3_isZero_18 : decode cX3_isZero 18 = .ok (.iinc 1 1, 3) := by decide +kernel
theorem dX3_isZero_21 : decode cX3_isZero 21 = .ok (.goto (-19), 3) := by decide +kernel
theorem dX3_isZero_24 : decode cX3_isZero 24 = .ok (.iconst 1, 1) := by decide +kernel
theorem dX3_isZero_25 : decode cX3_isZero 25 = .ok (.ireturn, 1) := by decide +kernel
theorem dX3_oddSet_0 : decode cX3_oddSet 0 = .ok (.iconst 0, 1) := by decide +kernel
theorem dX3_oddSet_1 : decode cX3_oddSet 1 = .ok (.istore_n 1, 1) := by decide +kernel
theorem dX3_oddSet_2 : decode cX3_oddSet 2 = .ok (.iconst 0, 1) := by decide +kernel
theorem dX3_oddSet_3 : decode cX3_oddSet 3 = .ok (.istore_n 2, 1) := by decide +kernel
theorem dX3_oddSet_4 : decode cX3_oddSet 4 = .ok (.iload_n 2, 1) := by decide +kernel
theorem dX3_oddSet_5 : decode cX3_oddSet 5 = .ok (.bipush 8, 2) := by decide +kernel
theorem dX3_oddSet_7 : decode cX3_oddSet 7 = .ok (.if_icmp .ge 25, 3) := by decide +kernel
theorem dX3_oddSet_10 : decode cX3_oddSet 10 = .ok (.aload_n 0, 1) := by decide +kernel
theorem dX3_oddSet_11 : decode cX3_oddSet 11 = .ok (.iload_n 2, 1) := by decide +kernel
theorem dX3_oddSet_12 : decode cX3_oddSet 12 = .ok (.laload, 1) := by decide +kernel
theorem dX3_oddSet_13 : decode cX3_oddSet 13 = .ok (.lconst 1, 1) := by decide +kernel
theorem dX3_oddSet_14 : decode cX3_oddSet 14 = .ok (.land, 1) := by decide +kernel
theorem dX3_oddSet_15 : decode cX3_oddSet 15 = .ok (.lconst 0, 1) := by decide +kernel
theorem dX3_oddSet_16 : decode cX3_oddSet 16 = .ok (.lcmp, 1) := by decide +kernel
theorem dX3_oddSet_17 : decode cX3_oddSet 17 = .ok (.ifCond .eq 9, 3) := by decide +kernel
theorem dX3_oddSet_20 : decode cX3_oddSet 20 = .ok (.iload_n 1, 1) := by decide +kernel
theorem dX3_oddSet_21 : decode cX3_oddSet 21 = .ok (.iconst 1, 1) := by decide +kernel
theorem dX3_oddSet_22 : decode cX3_oddSet 22 = .ok (.iload_n 2, 1) := by decide +kernel
theorem dX3_oddSet_23 : decode cX3_oddSet 23 = .ok (.ishl, 1) := by decide +kernel
theorem dX3_oddSet_24 : decode cX3_oddSet 24 = .ok (.ior, 1) := by decide +kernel
theorem dX3_oddSet_25 : decode cX3_oddSet 25 = .ok (.istore_n 1, 1) := by decide +kernel
theorem dX3_oddSet_26 : decode cX3_oddSet 26 = .ok (.iinc 2 1, 3) := by decide +kernel
theorem dX3_oddSet_29 : decode cX3_oddSet 29 = .ok (.goto (-25), 3) := by decide +kernel
theorem dX3_oddSet_32 : decode cX3_oddSet 32 = .ok (.iload_n 1, 1) := by decide +kernel
theorem dX3_oddSet_33 : decode cX3_oddSet 33 = .ok (.ireturn, 1) := by decide +kernel
theorem dX4_init_0 : decode cX4_init 0 = .ok (.aload_n 0, 1) := by decide +kernel
theorem dX4_init_1 : decode cX4_init 1 = .ok (.invokespecial 3, 3) := by decide +kernel
theorem dX4_init_4 : decode cX4_init 4 = .ok (.aload_n 0, 1) := by decide +kernel
theorem dX4_init_5 : decode cX4_init 5 = .ok (.bipush 8, 2) := by decide +kernel
theorem dX4_init_7 : decode cX4_init 7 = .ok (.bipush 8, 2) := by decide +kernel
theorem dX4_init_9 : decode cX4_init 9 = .ok (.multianewarray 11 2, 4) := by decide +kernel
theorem dX4_init_13 : decode cX4_init 13 = .ok (.putfield 13, 3) := by decide +kernel
theorem dX4_init_16 : decode cX4_init 16 = .ok (.aload_n 0, 1) := by decide +kernel
theorem dX4_init_17 : decode cX4_init 17 = .ok (.iconst 1, 1) := by decide +kernel
theorem dX4_init_18 : decode cX4_init 18 = .ok (.putfield 18, 3) := by decide +kernel
theorem dX4_init_21 : decode cX4_init 21 = .ok (.aload_n 0, 1) := by decide +kernel
theorem dX4_init_22 : decode cX4_init 22 = .ok (.iconst 0, 1) := by decide +kernel
theorem dX4_init_23 : decode cX4_init 23 = .ok (.putfield 22, 3) := by decide +kernel
theorem dX4_init_26 : decode cX4_init 26 = .ok (.aload_n 0, 1) := by decide +kernel
theorem dX4_init_27 : decode cX4_init 27 = .ok (.iconst 0, 1) := by decide +kernel
theorem dX4_init_28 : decode cX4_init 28 = .ok (.putfield 25, 3) := by decide +kernel
theorem dX4_init_31 : decode cX4_init 31 = .ok (.iconst 0, 1) := by decide +kernel
theorem dX4_init_32 : decode cX4_init 32 = .ok (.istore_n 1, 1) := by decide +kernel
theorem dX4_init_33 : decode cX4_init 33 = .ok (.iload_n 1, 1) := by decide +kernel
theorem dX4_init_34 : decode cX4_init 34 = .ok (.bipush 8, 2) := by decide +kernel
theorem dX4_init_36 : decode cX4_init 36 = .ok (.if_icmp .ge 20, 3) := by decide +kernel
theorem dX4_init_39 : decode cX4_init 39 = .ok (.aload_n 0, 1) := by decide +kernel
theorem dX4_init_40 : decode cX4_init 40 = .ok (.getfield 13, 3) := by decide +kernel
theorem dX4_init_43 : decode cX4_init 43 = .ok (.iload_n 1, 1) := by decide +kernel
theorem dX4_init_44 : decode cX4_init 44 = .ok (.aaload, 1) := by decide +kernel
theorem dX4_init_45 : decode cX4_init 45 = .ok (.iload_n 1, 1) := by decide +kernel
theorem dX4_init_46 : decode cX4_init 46 = .ok (.ldc2_w 28, 3) := by decide +kernel
theorem dX4_init_49 : decode cX4_init 49 = .ok (.lastore, 1) := by decide +kernel
theorem dX4_init_50 : decode cX4_init 50 = .ok (.iinc 1 1, 3) := by decide +kernel
theorem dX4_init_53 : decode cX4_init 53 = .ok (.goto (-20), 3) := by decide +kernel
theorem dX4_init_56 : decode cX4_init 56 = .ok (.return_, 1) := by decide +kernel
theorem dX4_takeFrom_0 : decode cX4_takeFrom 0 = .ok (.iconst 0, 1) := by decide +kernel
theorem dX4_takeFrom_1 : decode cX4_takeFrom 1 = .ok (.istore_n 2, 1) := by decide +kernel
theorem dX4_takeFrom_2 : decode cX4_takeFrom 2 = .ok (.iload_n 2, 1) := by decide +kernel
theorem dX4_takeFrom_3 : decode cX4_takeFrom 3 = .ok (.bipush 8, 2) := by decide +kernel
theorem dX4_takeFrom_5 : decode cX4_takeFrom 5 = .ok (.if_icmp .ge 24, 3) := by decide +kernel
theorem dX4_takeFrom_8 : decode cX4_takeFrom 8 = .ok (.aload_n 1, 1) := by decide +kernel
theorem dX4_takeFrom_9 : decode cX4_takeFrom 9 = .ok (.getfield 13, 3) := by decide +kernel
theorem dX4_takeFrom_12 : decode cX4_takeFrom 12 = .ok (.iload_n 2, 1) := by decide +kernel
theorem dX4_takeFrom_13 : decode cX4_takeFrom 13 = .ok (.aaload, 1) := by decide +kernel
theorem dX4_takeFrom_14 : decode cX4_takeFrom 14 = .ok (.aload_n 0, 1) := by decide +kernel
theorem dX4_takeFrom_15 : decode cX4_takeFrom 15 = .ok (.getfield 13, 3) := by decide +kernel
theorem dX4_takeFrom_18 : decode cX4_takeFrom 18 = .ok (.iload_n 2, 1) := by decide +kernel
theorem dX4_takeFrom_19 : decode cX4_takeFrom 19 = .ok (.aaload, 1) := by decide +kernel
theorem dX4_takeFrom_20 : decode cX4_takeFrom 20 = .ok (.invokestatic 30, 3) := by decide +kernel
theorem dX4_takeFrom_23 : decode cX4_takeFrom 23 = .ok (.iinc 2 1, 3) := by decide +kernel
theorem dX4_takeFrom_26 : decode cX4_takeFrom 26 = .ok (.goto (-24), 3) := by decide +kernel
theorem dX4_takeFrom_29 : decode cX4_takeFrom 29 = .ok (.aload_n 0, 1) := by decide +kernel
theorem dX4_takeFrom_30 : decode cX4_takeFrom 30 = .ok (.aload_n 1, 1) := by decide +kernel
theorem dX4_takeFrom_31 : decode cX4_takeFrom 31 = .ok (.getfield 18, 3) := by decide +kernel
theorem dX4_takeFrom_34 : decode cX4_takeFrom 34 = .ok (.putfield 18, 3) := by decide +kernel
theorem dX4_takeFrom_37 : decode cX4_takeFrom 37 = .ok (.aload_n 0, 1) := by decide +kernel
theorem dX4_takeFrom_38 : decode cX4_takeFrom 38 = .ok (.aload_n 1, 1) := by decide +kernel
theorem dX4_takeFrom_39 : decode cX4_takeFrom 39 = .ok (.getfield 22, 3) := by decide +kernel
theorem dX4_takeFrom_42 : decode cX4_takeFrom 42 = .ok (.putfield 22, 3) := by decide +kernel
theorem dX4_takeFrom_45 : decode cX4_takeFrom 45 = .ok (.aload_n 0, 1) := by decide +kernel
theorem dX4_takeFrom_46 : decode cX4_takeFrom 46 = .ok (.aload_n 1, 1) := by decide +kernel
theorem dX4_takeFrom_47 : decode cX4_takeFrom 47 = .ok (.getfield 25, 3) := by decide +kernel
theorem dX4_takeFrom_50 : decode cX4_takeFrom 50 = .ok (.putfield 25, 3) := by decide +kernel
theorem dX4_takeFrom_53 : decode cX4_takeFrom 53 = .ok (.return_, 1) := by decide +kernel
theorem dX5_init_0 : decode cX5_init 0 = .ok (.aload_n 0, 1) := by decide +kernel
theorem dX5_init_1 : decode cX5_init 1 = .ok (.invokespecial 3, 3) := by decide +kernel
theorem dX5_init_4 : decode cX5_init 4 = .ok (.aload_n 0, 1) := by decide +kernel
theorem dX5_init_5 : decode cX5_init 5 = .ok (.bipush 100, 2) := by decide +kernel
theorem dX5_init_7 : decode cX5_init 7 = .ok (.newarray .byte, 2) := by decide +kernel
theorem dX5_init_9 : decode cX5_init 9 = .ok (.putfield 11, 3) := by decide +kernel
theorem dX5_init_12 : decode cX5_init 12 = .ok (.aload_n 0, 1) := by decide +kernel
theorem dX5_init_13 : decode cX5_init 13 = .ok (.iconst 0, 1) := by decide +kernel
theorem dX5_init_14 : decode cX5_init 14 = .ok (.putfield 15, 3) := by decide +kernel
theorem dX5_init_17 : decode cX5_init 17 = .ok (.aload_n 0, 1) := by decide +kernel
theorem dX5_init_18 : decode cX5_init 18 = .ok (.iconst 0, 1) := by decide +kernel
theorem dX5_init_19 : decode cX5_init 19 = .ok (.putfield 19, 3) := by decide +kernel
theorem dX5_init_22 : decode cX5_init 22 = .ok (.return_, 1) := by decide +kernel
theorem dX6_init_0 : decode cX6_init 0 = .ok (.aload_n 0, 1) := by decide +kernel
theorem dX6_init_1 : decode cX6_init 1 = .ok (.invokespecial 3, 3) := by decide +kernel
theorem dX6_init_4 : decode cX6_init 4 = .ok (.aload_n 0, 1) := by decide +kernel
theorem dX6_init_5 : decode cX6_init 5 = .ok (.iload_n 1, 1) := by decide +kernel
theorem dX6_init_6 : decode cX6_init 6 = .ok (.invokestatic 9, 3) := by decide +kernel
theorem dX6_init_9 : decode cX6_init 9 = .ok (.newarray .int, 2) := by decide +kernel
theorem dX6_init_11 : decode cX6_init 11 = .ok (.putfield 15, 3) := by decide +kernel
theorem dX6_init_14 : decode cX6_init 14 = .ok (.aload_n 0, 1) := by decide +kernel
theorem dX6_init_15 : decode cX6_init 15 = .ok (.iconst 0, 1) := by decide +kernel
theorem dX6_init_16 : decode cX6_init 16 = .ok (.putfield 19, 3) := by decide +kernel
theorem dX6_init_19 : decode cX6_init 19 = .ok (.bipush 8, 2) := by decide +kernel
theorem dX6_init_21 : decode cX6_init 21 = .ok (.newarray .long, 2) := by decide +kernel
theorem dX6_init_23 : decode cX6_init 23 = .ok (.astore_n 2, 1) := by decide +kernel
theorem dX6_init_24 : decode cX6_init 24 = .ok (.iconst 0, 1) := by decide +kernel
theorem dX6_init_25 : decode cX6_init 25 = .ok (.istore_n 3, 1) := by decide +kernel
theorem dX6_init_26 : decode cX6_init 26 = .ok (.iload_n 3, 1) := by decide +kernel
theorem dX6_init_27 : decode cX6_init 27 = .ok (.bipush 8, 2) := by decide +kernel
theorem dX6_init_29 : decode cX6_init 29 = .ok (.if_icmp .ge 41, 3) := by decide +kernel
theorem dX6_init_32 : decode cX6_init 32 = .ok (.aload_n 2, 1) := by decide +kernel
theorem dX6_init_33 : decode cX6_init 33 = .ok (.iload_n 3, 1) := by decide +kernel
theorem dX6_init_34 : decode cX6_init 34 = .ok (.ldc2_w 25, 3) := by decide +kernel
theorem dX6_init_37 : decode cX6_init 37 = .ok (.lastore, 1) := by decide +kernel
theorem dX6_init_38 : decode cX6_init 38 = .ok (.aload_n 0, 1) := by decide +kernel
theorem dX6_init_39 : decode cX6_init 39 = .ok (.aload_n 2, 1) := by decide +kernel
theorem dX6_init_40 : decode cX6_init 40 = .ok (.invokestatic 27, 3) := by decide +kernel
theorem dX6_init_43 : decode cX6_init 43 = .ok (.invokevirtual 31, 3) := by decide +kernel
theorem dX6_init_46 : decode cX6_init 46 = .ok (.aload_n 2, 1) := by decide +kernel
theorem dX6_init_47 : decode cX6_init 47 = .ok (.iload_n 3, 1) := by decide +kernel
theorem dX6_init_48 : decode cX6_init 48 = .ok (.ldc2_w 35, 3) := by decide +kernel
theorem dX6_init_51 : decode cX6_init 51 = .ok (.lastore, 1) := by decide +kernel
theorem dX6_init_52 : decode cX6_init 52 = .ok (.aload_n 0, 1) := by decide +kernel
theorem dX6_init_53 : decode cX6_init 53 = .ok (.aload_n 2, 1) := by decide +kernel
theorem dX6_init_54 : decode cX6_init 54 = .ok (.invokestatic 27, 3) := by decide +kernel
theorem dX6_init_57 : decode cX6_init 57 = .ok (.invokevirtual 31, 3) := by decide +kernel
theorem dX6_init_60 : decode cX6_init 60 = .ok (.aload_n 2, 1) := by decide +kernel
theorem dX6_init_61 : decode cX6_init 61 = .ok (.iload_n 3, 1) := by decide +kernel
theorem dX6_init_62 : decode cX6_init 62 = .ok (.lconst 0, 1) := by decide +kernel
theorem dX6_init_63 : decode cX6_init 63 = .ok (.lastore, 1) := by decide +kernel
theorem dX6_init_64 : decode cX6_init 64 = .ok (.iinc 3 1, 3) := by decide +kernel
theorem dX6_init_67 : decode cX6_init 67 = .ok (.goto (-41), 3) := by decide +kernel
theorem dX6_init_70 : decode cX6_init 70 = .ok (.iload_n 1, 1) := by decide +kernel
theorem dX6_init_71 : decode cX6_init 71 = .ok (.invokestatic 37, 3) := by decide +kernel
theorem dX6_init_74 : decode cX6_init 74 = .ok (.istore_n 3, 1) := by decide +kernel
theorem dX6_init_75 : decode cX6_init 75 = .ok (.iconst 0, 1) := by decide +kernel
theorem dX6_init_76 : decode cX6_init 76 = .ok (.istore 4, 2) := by decide +kernel
theorem dX6_init_78 : decode cX6_init 78 = .ok (.iload 4, 2) := by decide +kernel
theorem dX6_init_80 : decode cX6_init 80 = .ok (.iload_n 3, 1) := by decide +kernel
theorem dX6_init_81 : decode cX6_init 81 = .ok (.if_icmp .ge 58, 3) := by decide +kernel
theorem dX6_init_84 : decode cX6_init 84 = .ok (.iload_n 1, 1) := by decide +kernel
theorem dX6_init_85 : decode cX6_init 85 = .ok (.iload 4, 2) := by decide +kernel
theorem dX6_init_87 : decode cX6_init 87 = .ok (.invokestatic 42, 3) := by decide +kernel
theorem dX6_init_90 : decode cX6_init 90 = .ok (.istore 5, 2) := by decide +kernel
theorem dX6_init_92 : decode cX6_init 92 = .ok (.iconst 0, 1) := by decide +kernel
theorem dX6_init_93 : decode cX6_init 93 = .ok (.istore 6, 2) := by decide +kernel
theorem dX6_init_95 : decode cX6_init 95 = .ok (.iload 6, 2) := by decide +kernel
theorem dX6_init_97 : decode cX6_init 97 = .ok (.bipush 16, 2) := by decide +kernel
theorem dX6_init_99 : decode cX6_init 99 = .ok (.if_icmp .ge 34, 3) := by decide +kernel
theorem dX6_init_102 : decode cX6_init 102 = .ok (.iload 5, 2) := by decide +kernel
theorem dX6_init_104 : decode cX6_init 104 = .ok (.invokestatic 46, 3) := by decide +kernel
theorem dX6_init_107 : decode cX6_init 107 = .ok (.iconst 4, 1) := by decide +kernel
theorem dX6_init_108 : decode cX6_init 108 = .ok (.if_icmp .ne 25, 3) := by decide +kernel
theorem dX6_init_111 : decode cX6_init 111 = .ok (.iload 5, 2) := by decide +kernel
theorem dX6_init_113 : decode cX6_init 113 = .ok (.iload 6, 2) := by decide +kernel
theorem dX6_init_115 : decode cX6_init 115 = .ok (.aload_n 2, 1) := by decide +kernel
theorem dX6_init_116 : decode cX6_init 116 = .ok (.invokestatic 51, 3) := by decide +kernel
theorem dX6_init_119 : decode cX6_init 119 = .ok (.aload_n 0, 1) := by decide +kernel
theorem dX6_init_120 : decode cX6_init 120 = .ok (.aload_n 2, 1) := by decide +kernel
theorem dX6_init_121 : decode cX6_init 121 = .ok (.invokestatic 27, 3) := by decide +kernel
theorem dX6_init_124 : decode cX6_init 124 = .ok (.invokevirtual 31, 3) := by decide +kernel
theorem dX6_init_127 : decode cX6_init 127 = .ok (.iinc 6 1, 3) := by decide +kernel
theorem dX6_init_130 : decode cX6_init 130 = .ok (.goto (-35), 3) := by decide +kernel
theorem dX6_init_133 : decode cX6_init 133 = .ok (.iinc 4 1, 3) := by decide +kernel
theorem dX6_init_136 : decode cX6_init 136 = .ok (.goto (-58), 3) := by decide +kernel
theorem dX6_init_139 : decode cX6_init 139 = .ok (.return_, 1) := by decide +kernel
theorem dX6_count_0 : decode cX6_count 0 = .ok (.iload_n 0, 1) := by decide +kernel
theorem dX6_count_1 : decode cX6_count 1 = .ok (.ifCond .ne 8, 3) := by decide +kernel
theorem dX6_count_4 : decode cX6_count 4 = .ok (.bipush 16, 2) := by decide +kernel
theorem dX6_count_6 : decode cX6_count 6 = .ok (.goto 6, 3) := by decide +kernel
theorem dX6_count_9 : decode cX6_count 9 = .ok (.sipush 240, 3) := by decide +kernel
theorem dX6_count_12 : decode cX6_count 12 = .ok (.ireturn, 1) := by decide +kernel
theorem dX6_read_0 : decode cX6_read 0 = .ok (.iload_n 1, 1) := by decide +kernel
theorem dX6_read_1 : decode cX6_read 1 = .ok (.ifCond .lt 12, 3) := by decide +kernel
theorem dX6_read_4 : decode cX6_read 4 = .ok (.iload_n 1, 1) := by decide +kernel
theorem dX6_read_5 : decode cX6_read 5 = .ok (.aload_n 0, 1) := by decide +kernel
theorem dX6_read_6 : decode cX6_read 6 = .ok (.getfield 15, 3) := by decide +kernel
theorem dX6_read_9 : decode cX6_read 9 = .ok (.arraylength, 1) := by decide +kernel
theorem dX6_read_10 : decode cX6_read 10 = .ok (.if_icmp .lt 4, 3) := by decide +kernel
theorem dX6_read_13 : decode cX6_read 13 = .ok (.return_, 1) := by decide +kernel
theorem dX6_read_14 : decode cX6_read 14 = .ok (.iconst 0, 1) := by decide +kernel
theorem dX6_read_15 : decode cX6_read 15 = .ok (.istore_n 3, 1) := by decide +kernel
theorem dX6_read_16 : decode cX6_read 16 = .ok (.iload_n 3, 1) := by decide +kernel
theorem dX6_read_17 : decode cX6_read 17 = .ok (.bipush 8, 2) := by decide +kernel
theorem dX6_read_19 : decode cX6_read 19 = .ok (.if_icmp .ge 31, 3) := by decide +kernel
theorem dX6_read_22 : decode cX6_read 22 = .ok (.aload_n 2, 1) := by decide +kernel
theorem dX6_read_23 : decode cX6_read 23 = .ok (.iload_n 3, 1) := by decide +kernel
theorem dX6_read_24 : decode cX6_read 24 = .ok (.aload_n 0, 1) := by decide +kernel
theorem dX6_read_25 : decode cX6_read 25 = .ok (.getfield 15, 3) := by decide +kernel
theorem dX6_read_28 : decode cX6_read 28 = .ok (.iload_n 1, 1) := by decide +kernel
theorem dX6_read_29 : decode cX6_read 29 = .ok (.iaload, 1) := by decide +kernel
theorem dX6_read_30 : decode cX6_read 30 = .ok (.iconst 3, 1) := by decide +kernel
theorem dX6_read_31 : decode cX6_read 31 = .ok (.bipush 7, 2) := by decide +kernel
theorem dX6_read_33 : decode cX6_read 33 = .ok (.iload_n 3, 1) := by decide +kernel
theorem dX6_read_34 : decode cX6_read 34 = .ok (.isub, 1) := by decide +kernel
theorem dX6_read_35 : decode cX6_read 35 = .ok (.imul, 1) := by decide +kernel
theorem dX6_read_36 : decode cX6_read 36 = .ok (.ishr, 1) := by decide +kernel
theorem dX6_read_37 : decode cX6_read 37 = .ok (.bipush 7, 2) := by decide +kernel
theorem dX6_read_39 : decode cX6_read 39 = .ok (.iand, 1) := by decide +kernel
theorem dX6_read_40 : decode cX6_read 40 = .ok (.iconst 2, 1) := by decide +kernel
theorem dX6_read_41 : decode cX6_read 41 = .ok (.isub, 1) := by decide +kernel
theorem dX6_read_42 : decode cX6_read 42 = .ok (.i2l, 1) := by decide +kernel
theorem dX6_read_43 : decode cX6_read 43 = .ok (.lastore, 1) := by decide +kernel
theorem dX6_read_44 : decode cX6_read 44 = .ok (.iinc 3 1, 3) := by decide +kernel
theorem dX6_read_47 : decode cX6_read 47 = .ok (.goto (-31), 3) := by decide +kernel
theorem dX6_read_50 : decode cX6_read 50 = .ok (.return_, 1) := by decide +kernel
theorem dX6_numberOf_0 : decode cX6_numberOf 0 = .ok (.aload_n 1, 1) := by decide +kernel
theorem dX6_numberOf_1 : decode cX6_numberOf 1 = .ok (.invokestatic 55, 3) := by decide +kernel
theorem dX6_numberOf_4 : decode cX6_numberOf 4 = .ok (.ldc2_w 59, 3) := by decide +kernel
theorem dX6_numberOf_7 : decode cX6_numberOf 7 = .ok (.lcmp, 1) := by decide +kernel
theorem dX6_numberOf_8 : decode cX6_numberOf 8 = .ok (.ifCond .eq 5, 3) := by decide +kernel
theorem dX6_numberOf_11 : decode cX6_numberOf 11 = .ok (.iconst (-1), 1) := by decide +kernel
theorem dX6_numberOf_12 : decode cX6_numberOf 12 = .ok (.ireturn, 1) := by decide +kernel
theorem dX6_numberOf_13 : decode cX6_numberOf 13 = .ok (.aload_n 1, 1) := by decide +kernel
theorem dX6_numberOf_14 : decode cX6_numberOf 14 = .ok (.invokestatic 27, 3) := by decide +kernel
theorem dX6_numberOf_17 : decode cX6_numberOf 17 = .ok (.istore_n 2, 1) := by decide +kernel
theorem dX6_numberOf_18 : decode cX6_numberOf 18 = .ok (.iconst 0, 1) := by decide +kernel
theorem dX6_numberOf_19 : decode cX6_numberOf 19 = .ok (.istore_n 3, 1) := by decide +kernel
theorem dX6_numberOf_20 : decode cX6_numberOf 20 = .ok (.iload_n 3, 1) := by decide +kernel
theorem dX6_numberOf_21 : decode cX6_numberOf 21 = .ok (.aload_n 0, 1) := by decide +kernel
theorem dX6_numberOf_22 : decode cX6_numberOf 22 = .ok (.getfield 15, 3) := by decide +kernel
theorem dX6_numberOf_25 : decode cX6_numberOf 25 = .ok (.arraylength, 1) := by decide +kernel
theorem dX6_numberOf_26 : decode cX6_numberOf 26 = .ok (.if_icmp .ge 21, 3) := by decide +kernel
theorem dX6_numberOf_29 : decode cX6_numberOf 29 = .ok (.aload_n 0, 1) := by decide +kernel
theorem dX6_numberOf_30 : decode cX6_numberOf 30 = .ok (.getfield 15, 3) := by decide +kernel
theorem dX6_numberOf_33 : decode cX6_numberOf 33 = .ok (.iload_n 3, 1) := by decide +kernel
theorem dX6_numberOf_34 : decode cX6_numberOf 34 = .ok (.iaload, 1) := by decide +kernel
theorem dX6_numberOf_35 : decode cX6_numberOf 35 = .ok (.iload_n 2, 1) := by decide +kernel
theorem dX6_numberOf_36 : decode cX6_numberOf 36 = .ok (.if_icmp .ne 5, 3) := by decide +kernel
theorem dX6_numberOf_39 : decode cX6_numberOf 39 = .ok (.iload_n 3, 1) := by decide +kernel
theorem dX6_numberOf_40 : decode cX6_numberOf 40 = .ok (.ireturn, 1) := by decide +kernel
theorem dX6_numberOf_41 : decode cX6_numberOf 41 = .ok (.iinc 3 1, 3) := by decide +kernel
theorem dX6_numberOf_44 : decode cX6_numberOf 44 = .ok (.goto (-24), 3) := by decide +kernel
theorem dX6_numberOf_47 : decode cX6_numberOf 47 = .ok (.iconst (-1), 1) := by decide +kernel
theorem dX6_numberOf_48 : decode cX6_numberOf 48 = .ok (.ireturn, 1) := by decide +kernel
theorem dX6_code_0 : decode cX6_code 0 = .ok (.iconst 0, 1) := by decide +kernel
theorem dX6_code_1 : decode cX6_code 1 = .ok (.istore_n 1, 1) := by decide +kernel
theorem dX6_code_2 : decode cX6_code 2 = .ok (.iconst 0, 1) := by decide +kernel
theorem dX6_code_3 : decode cX6_code 3 = .ok (.istore_n 2, 1) := by decide +kernel
theorem dX6_code_4 : decode cX6_code 4 = .ok (.iload_n 2, 1) := by decide +kernel
theorem dX6_code_5 : decode cX6_code 5 = .ok (.bipush 8, 2) := by decide +kernel
theorem dX6_code_7 : decode cX6_code 7 = .ok (.if_icmp .ge 20, 3) := by decide +kernel
theorem dX6_code_10 : decode cX6_code 10 = .ok (.iload_n 1, 1) := by decide +kernel
theorem dX6_code_11 : decode cX6_code 11 = .ok (.iconst 3, 1) := by decide +kernel
theorem dX6_code_12 : decode cX6_code 12 = .ok (.ishl, 1) := by decide +kernel
theorem dX6_code_13 : decode cX6_code 13 = .ok (.aload_n 0, 1) := by decide +kernel
theorem dX6_code_14 : decode cX6_code 14 = .ok (.iload_n 2, 1) := by decide +kernel
theorem dX6_code_15 : decode cX6_code 15 = .ok (.laload, 1) := by decide +kernel
theorem dX6_code_16 : decode cX6_code 16 = .ok (.l2i, 1) := by decide +kernel
theorem dX6_code_17 : decode cX6_code 17 = .ok (.iconst 2, 1) := by decide +kernel
theorem dX6_code_18 : decode cX6_code 18 = .ok (.iadd, 1) := by decide +kernel
theorem dX6_code_19 : decode cX6_code 19 = .ok (.ior, 1) := by decide +kernel
theorem dX6_code_20 : decode cX6_code 20 = .ok (.istore_n 1, 1) := by decide +kernel
theorem dX6_code_21 : decode cX6_code 21 = .ok (.iinc 2 1, 3) := by decide +kernel
theorem dX6_code_24 : decode cX6_code 24 = .ok (.goto (-20), 3) := by decide +kernel
theorem dX6_code_27 : decode cX6_code 27 = .ok (.iload_n 1, 1) := by decide +kernel
theorem dX6_code_28 : decode cX6_code 28 = .ok (.ireturn, 1) := by decide +kernel
theorem dX6_spread_0 : decode cX6_spread 0 = .ok (.iload_n 1, 1) := by decide +kernel
theorem dX6_spread_1 : decode cX6_spread 1 = .ok (.istore_n 3, 1) := by decide +kernel
theorem dX6_spread_2 : decode cX6_spread 2 = .ok (.iconst 0, 1) := by decide +kernel
theorem dX6_spread_3 : decode cX6_spread 3 = .ok (.istore 4, 2) := by decide +kernel
theorem dX6_spread_5 : decode cX6_spread 5 = .ok (.iload 4, 2) := by decide +kernel
theorem dX6_spread_7 : decode cX6_spread 7 = .ok (.bipush 8, 2) := by decide +kernel
theorem dX6_spread_9 : decode cX6_spread 9 = .ok (.if_icmp .ge 44, 3) := by decide +kernel
theorem dX6_spread_12 : decode cX6_spread 12 = .ok (.aload_n 2, 1) := by decide +kernel
theorem dX6_spread_13 : decode cX6_spread 13 = .ok (.iload 4, 2) := by decide +kernel
theorem dX6_spread_15 : decode cX6_spread 15 = .ok (.lconst 0, 1) := by decide +kernel
theorem dX6_spread_16 : decode cX6_spread 16 = .ok (.lastore, 1) := by decide +kernel
theorem dX6_spread_17 : decode cX6_spread 17 = .ok (.iload_n 0, 1) := by decide +kernel
theorem dX6_spread_18 : decode cX6_spread 18 = .ok (.iload 4, 2) := by decide +kernel
theorem dX6_spread_20 : decode cX6_spread 20 = .ok (.ishr, 1) := by decide +kernel
theorem dX6_spread_21 : decode cX6_spread 21 = .ok (.iconst 1, 1) := by decide +kernel
theorem dX6_spread_22 : decode cX6_spread 22 = .ok (.iand, 1) := by decide +kernel
theorem dX6_spread_23 : decode cX6_spread 23 = .ok (.ifCond .eq 24, 3) := by decide +kernel
theorem dX6_spread_26 : decode cX6_spread 26 = .ok (.aload_n 2, 1) := by decide +kernel
theorem dX6_spread_27 : decode cX6_spread 27 = .ok (.iload 4, 2) := by decide +kernel
theorem dX6_spread_29 : decode cX6_spread 29 = .ok (.iload_n 3, 1) := by decide +kernel
theorem dX6_spread_30 : decode cX6_spread 30 = .ok (.iconst 1, 1) := by decide +kernel
theorem dX6_spread_31 : decode cX6_spread 31 = .ok (.iand, 1) := by decide +kernel
theorem dX6_spread_32 : decode cX6_spread 32 = .ok (.ifCond .ne 7, 3) := by decide +kernel
theorem dX6_spread_35 : decode cX6_spread 35 = .ok (.lconst 1, 1) := by decide +kernel
theorem dX6_spread_36 : decode cX6_spread 36 = .ok (.goto 6, 3) := by decide +kernel
theorem dX6_spread_39 : decode cX6_spread 39 = .ok (.ldc2_w 61, 3) := by decide +kernel
theorem dX6_spread_42 : decode cX6_spread 42 = .ok (.lastore, 1) := by decide +kernel
theorem dX6_spread_43 : decode cX6_spread 43 = .ok (.iload_n 3, 1) := by decide +kernel
theorem dX6_spread_44 : decode cX6_spread 44 = .ok (.iconst 1, 1) := by decide +kernel
theorem dX6_spread_45 : decode cX6_spread 45 = .ok (.ishr, 1) := by decide +kernel
theorem dX6_spread_46 : decode cX6_spread 46 = .ok (.istore_n 3, 1) := by decide +kernel
theorem dX6_spread_47 : decode cX6_spread 47 = .ok (.iinc 4 1, 3) := by decide +kernel
theorem dX6_spread_50 : decode cX6_spread 50 = .ok (.goto (-45), 3) := by decide +kernel
theorem dX6_spread_53 : decode cX6_spread 53 = .ok (.return_, 1) := by decide +kernel
theorem dX6_insert_0 : decode cX6_insert 0 = .ok (.aload_n 0, 1) := by decide +kernel
theorem dX6_insert_1 : decode cX6_insert 1 = .ok (.getfield 19, 3) := by decide +kernel
theorem dX6_insert_4 : decode cX6_insert 4 = .ok (.ifCond .lt 15, 3) := by decide +kernel
theorem dX6_insert_7 : decode cX6_insert 7 = .ok (.aload_n 0, 1) := by decide +kernel
theorem dX6_insert_8 : decode cX6_insert 8 = .ok (.getfield 19, 3) := by decide +kernel
theorem dX6_insert_11 : decode cX6_insert 11 = .ok (.aload_n 0, 1) := by decide +kernel
theorem dX6_insert_12 : decode cX6_insert 12 = .ok (.getfield 15, 3) := by decide +kernel
theorem dX6_insert_15 : decode cX6_insert 15 = .ok (.arraylength, 1) := by decide +kernel
theorem dX6_insert_16 : decode cX6_insert 16 = .ok (.if_icmp .lt 4, 3) := by decide +kernel
theorem dX6_insert_19 : decode cX6_insert 19 = .ok (.return_, 1) := by decide +kernel
theorem dX6_insert_20 : decode cX6_insert 20 = .ok (.aload_n 0, 1) := by decide +kernel
theorem dX6_insert_21 : decode cX6_insert 21 = .ok (.getfield 19, 3) := by decide +kernel
theorem dX6_insert_24 : decode cX6_insert 24 = .ok (.istore_n 2, 1) := by decide +kernel
theorem dX6_insert_25 : decode cX6_insert 25 = .ok (.iload_n 2, 1) := by decide +kernel
theorem dX6_insert_26 : decode cX6_insert 26 = .ok (.ifCond .le 35, 3) := by decide +kernel
theorem dX6_insert_29 : decode cX6_insert 29 = .ok (.aload_n 0, 1) := by decide +kernel
theorem dX6_insert_30 : decode cX6_insert 30 = .ok (.getfield 15, 3) := by decide +kernel
theorem dX6_insert_33 : decode cX6_insert 33 = .ok (.iload_n 2, 1) := by decide +kernel
theorem dX6_insert_34 : decode cX6_insert 34 = .ok (.iconst 1, 1) := by decide +kernel
theorem dX6_insert_35 : decode cX6_insert 35 = .ok (.isub, 1) := by decide +kernel
theorem dX6_insert_36 : decode cX6_insert 36 = .ok (.iaload, 1) := by decide +kernel
theorem dX6_insert_37 : decode cX6_insert 37 = .ok (.iload_n 1, 1) := by decide +kernel
theorem dX6_insert_38 : decode cX6_insert 38 = .ok (.if_icmp .le 23, 3) := by decide +kernel
theorem dX6_insert_41 : decode cX6_insert 41 = .ok (.aload_n 0, 1) := by decide +kernel
theorem dX6_insert_42 : decode cX6_insert 42 = .ok (.getfield 15, 3) := by decide +kernel
theorem dX6_insert_45 : decode cX6_insert 45 = .ok (.iload_n 2, 1) := by decide +kernel
theorem dX6_insert_46 : decode cX6_insert 46 = .ok (.aload_n 0, 1) := by decide +kernel
theorem dX6_insert_47 : decode cX6_insert 47 = .ok (.getfield 15, 3) := by decide +kernel
theorem dX6_insert_50 : decode cX6_insert 50 = .ok (.iload_n 2, 1) := by decide +kernel
theorem dX6_insert_51 : decode cX6_insert 51 = .ok (.iconst 1, 1) := by decide +kernel
theorem dX6_insert_52 : decode cX6_insert 52 = .ok (.isub, 1) := by decide +kernel
theorem dX6_insert_53 : decode cX6_insert 53 = .ok (.iaload, 1) := by decide +kernel
theorem dX6_insert_54 : decode cX6_insert 54 = .ok (.iastore, 1) := by decide +kernel
theorem dX6_insert_55 : decode cX6_insert 55 = .ok (.iinc 2 (-1), 3) := by decide +kernel
theorem dX6_insert_58 : decode cX6_insert 58 = .ok (.goto (-33), 3) := by decide +kernel
theorem dX6_insert_61 : decode cX6_insert 61 = .ok (.aload_n 0, 1) := by decide +kernel
theorem dX6_insert_62 : decode cX6_insert 62 = .ok (.getfield 15, 3) := by decide +kernel
theorem dX6_insert_65 : decode cX6_insert 65 = .ok (.iload_n 2, 1) := by decide +kernel
theorem dX6_insert_66 : decode cX6_insert 66 = .ok (.iload_n 1, 1) := by decide +kernel
theorem dX6_insert_67 : decode cX6_insert 67 = .ok (.iastore, 1) := by decide +kernel
theorem dX6_insert_68 : decode cX6_insert 68 = .ok (.aload_n 0, 1) := by decide +kernel
theorem dX6_insert_69 : decode cX6_insert 69 = .ok (.dup, 1) := by decide +kernel
theorem dX6_insert_70 : decode cX6_insert 70 = .ok (.getfield 19, 3) := by decide +kernel
theorem dX6_insert_73 : decode cX6_insert 73 = .ok (.iconst 1, 1) := by decide +kernel
theorem dX6_insert_74 : decode cX6_insert 74 = .ok (.iadd, 1) := by decide +kernel
theorem dX6_insert_75 : decode cX6_insert 75 = .ok (.putfield 19, 3) := by decide +kernel
theorem dX6_insert_78 : decode cX6_insert 78 = .ok (.return_, 1) := by decide +kernel
