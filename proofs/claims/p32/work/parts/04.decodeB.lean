theorem dX7_init_0 : decode cX7_init 0 = .ok (.aload_n 0, 1) := by decide +kernel
theorem dX7_init_1 : decode cX7_init 1 = .ok (.invokespecial 1, 3) := by decide +kernel
theorem dX7_init_4 : decode cX7_init 4 = .ok (.aload_n 0, 1) := by decide +kernel
theorem dX7_init_5 : decode cX7_init 5 = .ok (.new 7, 3) := by decide +kernel
theorem dX7_init_8 : decode cX7_init 8 = .ok (.dup, 1) := by decide +kernel
theorem dX7_init_9 : decode cX7_init 9 = .ok (.invokespecial 9, 3) := by decide +kernel
theorem dX7_init_12 : decode cX7_init 12 = .ok (.putfield 10, 3) := by decide +kernel
theorem dX7_init_15 : decode cX7_init 15 = .ok (.aload_n 0, 1) := by decide +kernel
theorem dX7_init_16 : decode cX7_init 16 = .ok (.iconst 4, 1) := by decide +kernel
theorem dX7_init_17 : decode cX7_init 17 = .ok (.anewarray 7, 3) := by decide +kernel
theorem dX7_init_20 : decode cX7_init 20 = .ok (.putfield 16, 3) := by decide +kernel
theorem dX7_init_23 : decode cX7_init 23 = .ok (.iconst 0, 1) := by decide +kernel
theorem dX7_init_24 : decode cX7_init 24 = .ok (.istore_n 1, 1) := by decide +kernel
theorem dX7_init_25 : decode cX7_init 25 = .ok (.iload_n 1, 1) := by decide +kernel
theorem dX7_init_26 : decode cX7_init 26 = .ok (.iconst 4, 1) := by decide +kernel
theorem dX7_init_27 : decode cX7_init 27 = .ok (.if_icmp .ge 22, 3) := by decide +kernel
theorem dX7_init_30 : decode cX7_init 30 = .ok (.aload_n 0, 1) := by decide +kernel
theorem dX7_init_31 : decode cX7_init 31 = .ok (.getfield 16, 3) := by decide +kernel
theorem dX7_init_34 : decode cX7_init 34 = .ok (.iload_n 1, 1) := by decide +kernel
theorem dX7_init_35 : decode cX7_init 35 = .ok (.new 7, 3) := by decide +kernel
theorem dX7_init_38 : decode cX7_init 38 = .ok (.dup, 1) := by decide +kernel
theorem dX7_init_39 : decode cX7_init 39 = .ok (.invokespecial 9, 3) := by decide +kernel
theorem dX7_init_42 : decode cX7_init 42 = .ok (.aastore, 1) := by decide +kernel
theorem dX7_init_43 : decode cX7_init 43 = .ok (.iinc 1 1, 3) := by decide +kernel
theorem dX7_init_46 : decode cX7_init 46 = .ok (.goto (-21), 3) := by decide +kernel
theorem dX7_init_49 : decode cX7_init 49 = .ok (.aload_n 0, 1) := by decide +kernel
theorem dX7_init_50 : decode cX7_init 50 = .ok (.iconst 0, 1) := by decide +kernel
theorem dX7_init_51 : decode cX7_init 51 = .ok (.putfield 20, 3) := by decide +kernel
theorem dX7_init_54 : decode cX7_init 54 = .ok (.aload_n 0, 1) := by decide +kernel
theorem dX7_init_55 : decode cX7_init 55 = .ok (.bipush 8, 2) := by decide +kernel
theorem dX7_init_57 : decode cX7_init 57 = .ok (.anewarray 24, 3) := by decide +kernel
theorem dX7_init_60 : decode cX7_init 60 = .ok (.putfield 26, 3) := by decide +kernel
theorem dX7_init_63 : decode cX7_init 63 = .ok (.aload_n 0, 1) := by decide +kernel
theorem dX7_init_64 : decode cX7_init 64 = .ok (.new 30, 3) := by decide +kernel
theorem dX7_init_67 : decode cX7_init 67 = .ok (.dup, 1) := by decide +kernel
theorem dX7_init_68 : decode cX7_init 68 = .ok (.invokespecial 32, 3) := by decide +kernel
theorem dX7_init_71 : decode cX7_init 71 = .ok (.putfield 33, 3) := by decide +kernel
theorem dX7_init_74 : decode cX7_init 74 = .ok (.aload_n 0, 1) := by decide +kernel
theorem dX7_init_75 : decode cX7_init 75 = .ok (.new 37, 3) := by decide +kernel
theorem dX7_init_78 : decode cX7_init 78 = .ok (.dup, 1) := by decide +kernel
theorem dX7_init_79 : decode cX7_init 79 = .ok (.invokespecial 39, 3) := by decide +kernel
theorem dX7_init_82 : decode cX7_init 82 = .ok (.putfield 40, 3) := by decide +kernel
theorem dX7_init_85 : decode cX7_init 85 = .ok (.aload_n 0, 1) := by decide +kernel
theorem dX7_init_86 : decode cX7_init 86 = .ok (.new 44, 3) := by decide +kernel
theorem dX7_init_89 : decode cX7_init 89 = .ok (.dup, 1) := by decide +kernel
theorem dX7_init_90 : decode cX7_init 90 = .ok (.aload_n 0, 1) := by decide +kernel
theorem dX7_init_91 : decode cX7_init 91 = .ok (.getfield 40, 3) := by decide +kernel
theorem dX7_init_94 : decode cX7_init 94 = .ok (.invokespecial 46, 3) := by decide +kernel
theorem dX7_init_97 : decode cX7_init 97 = .ok (.putfield 49, 3) := by decide +kernel
theorem dX7_init_100 : decode cX7_init 100 = .ok (.aload_n 0, 1) := by decide +kernel
theorem dX7_init_101 : decode cX7_init 101 = .ok (.bipush 8, 2) := by decide +kernel
theorem dX7_init_103 : decode cX7_init 103 = .ok (.newarray .long, 2) := by decide +kernel
theorem dX7_init_105 : decode cX7_init 105 = .ok (.putfield 55, 3) := by decide +kernel
theorem dX7_init_108 : decode cX7_init 108 = .ok (.aload_n 0, 1) := by decide +kernel
theorem dX7_init_109 : decode cX7_init 109 = .ok (.bipush 8, 2) := by decide +kernel
theorem dX7_init_111 : decode cX7_init 111 = .ok (.newarray .long, 2) := by decide +kernel
theorem dX7_init_113 : decode cX7_init 113 = .ok (.putfield 59, 3) := by decide +kernel
theorem dX7_init_116 : decode cX7_init 116 = .ok (.aload_n 0, 1) := by decide +kernel
theorem dX7_init_117 : decode cX7_init 117 = .ok (.bipush 8, 2) := by decide +kernel
theorem dX7_init_119 : decode cX7_init 119 = .ok (.newarray .long, 2) := by decide +kernel
theorem dX7_init_121 : decode cX7_init 121 = .ok (.putfield 62, 3) := by decide +kernel
theorem dX7_init_124 : decode cX7_init 124 = .ok (.return_, 1) := by decide +kernel
theorem dX7_set_0 : decode cX7_set 0 = .ok (.iload_n 1, 1) := by decide +kernel
theorem dX7_set_1 : decode cX7_set 1 = .ok (.invokestatic 65, 3) := by decide +kernel
theorem dX7_set_4 : decode cX7_set 4 = .ok (.iload_n 2, 1) := by decide +kernel
theorem dX7_set_5 : decode cX7_set 5 = .ok (.invokestatic 69, 3) := by decide +kernel
theorem dX7_set_8 : decode cX7_set 8 = .ok (.iload_n 3, 1) := by decide +kernel
theorem dX7_set_9 : decode cX7_set 9 = .ok (.invokestatic 72, 3) := by decide +kernel
theorem dX7_set_12 : decode cX7_set 12 = .ok (.aload_n 0, 1) := by decide +kernel
theorem dX7_set_13 : decode cX7_set 13 = .ok (.invokevirtual 75, 3) := by decide +kernel
theorem dX7_set_16 : decode cX7_set 16 = .ok (.aload_n 0, 1) := by decide +kernel
theorem dX7_set_17 : decode cX7_set 17 = .ok (.getfield 10, 3) := by decide +kernel
theorem dX7_set_20 : decode cX7_set 20 = .ok (.getfield 78, 3) := by decide +kernel
theorem dX7_set_23 : decode cX7_set 23 = .ok (.iload_n 1, 1) := by decide +kernel
theorem dX7_set_24 : decode cX7_set 24 = .ok (.aaload, 1) := by decide +kernel
theorem dX7_set_25 : decode cX7_set 25 = .ok (.astore 4, 2) := by decide +kernel
theorem dX7_set_27 : decode cX7_set 27 = .ok (.aload 4, 2) := by decide +kernel
theorem dX7_set_29 : decode cX7_set 29 = .ok (.iload_n 2, 1) := by decide +kernel
theorem dX7_set_30 : decode cX7_set 30 = .ok (.laload, 1) := by decide +kernel
theorem dX7_set_31 : decode cX7_set 31 = .ok (.l2i, 1) := by decide +kernel
theorem dX7_set_32 : decode cX7_set 32 = .ok (.istore 5, 2) := by decide +kernel
theorem dX7_set_34 : decode cX7_set 34 = .ok (.aload 4, 2) := by decide +kernel
theorem dX7_set_36 : decode cX7_set 36 = .ok (.iload_n 2, 1) := by decide +kernel
theorem dX7_set_37 : decode cX7_set 37 = .ok (.iload_n 3, 1) := by decide +kernel
theorem dX7_set_38 : decode cX7_set 38 = .ok (.i2l, 1) := by decide +kernel
theorem dX7_set_39 : decode cX7_set 39 = .ok (.lastore, 1) := by decide +kernel
theorem dX7_set_40 : decode cX7_set 40 = .ok (.iload 5, 2) := by decide +kernel
theorem dX7_set_42 : decode cX7_set 42 = .ok (.ireturn, 1) := by decide +kernel
theorem dX7_setFour_0 : decode cX7_setFour 0 = .ok (.iload_n 1, 1) := by decide +kernel
theorem dX7_setFour_1 : decode cX7_setFour 1 = .ok (.invokestatic 65, 3) := by decide +kernel
theorem dX7_setFour_4 : decode cX7_setFour 4 = .ok (.iload_n 3, 1) := by decide +kernel
theorem dX7_setFour_5 : decode cX7_setFour 5 = .ok (.invokestatic 72, 3) := by decide +kernel
theorem dX7_setFour_8 : decode cX7_setFour 8 = .ok (.iload 4, 2) := by decide +kernel
theorem dX7_setFour_10 : decode cX7_setFour 10 = .ok (.invokestatic 72, 3) := by decide +kernel
theorem dX7_setFour_13 : decode cX7_setFour 13 = .ok (.iload 5, 2) := by decide +kernel
theorem dX7_setFour_15 : decode cX7_setFour 15 = .ok (.invokestatic 72, 3) := by decide +kernel
theorem dX7_setFour_18 : decode cX7_setFour 18 = .ok (.iload 6, 2) := by decide +kernel
theorem dX7_setFour_20 : decode cX7_setFour 20 = .ok (.invokestatic 72, 3) := by decide +kernel
theorem dX7_setFour_23 : decode cX7_setFour 23 = .ok (.aload_n 0, 1) := by decide +kernel
theorem dX7_setFour_24 : decode cX7_setFour 24 = .ok (.invokevirtual 75, 3) := by decide +kernel
theorem dX7_setFour_27 : decode cX7_setFour 27 = .ok (.aload_n 0, 1) := by decide +kernel
theorem dX7_setFour_28 : decode cX7_setFour 28 = .ok (.getfield 10, 3) := by decide +kernel
theorem dX7_setFour_31 : decode cX7_setFour 31 = .ok (.getfield 78, 3) := by decide +kernel
theorem dX7_setFour_34 : decode cX7_setFour 34 = .ok (.iload_n 1, 1) := by decide +kernel
theorem dX7_setFour_35 : decode cX7_setFour 35 = .ok (.aaload, 1) := by decide +kernel
theorem dX7_setFour_36 : decode cX7_setFour 36 = .ok (.astore 7, 2) := by decide +kernel
theorem dX7_setFour_38 : decode cX7_setFour 38 = .ok (.iload_n 2, 1) := by decide +kernel
theorem dX7_setFour_39 : decode cX7_setFour 39 = .ok (.ifCond .eq 7, 3) := by decide +kernel
theorem dX7_setFour_42 : decode cX7_setFour 42 = .ok (.iconst 4, 1) := by decide +kernel
theorem dX7_setFour_43 : decode cX7_setFour 43 = .ok (.goto 4, 3) := by decide +kernel
theorem dX7_setFour_46 : decode cX7_setFour 46 = .ok (.iconst 0, 1) := by decide +kernel
theorem dX7_setFour_47 : decode cX7_setFour 47 = .ok (.istore 8, 2) := by decide +kernel
theorem dX7_setFour_49 : decode cX7_setFour 49 = .ok (.aload 7, 2) := by decide +kernel
theorem dX7_setFour_51 : decode cX7_setFour 51 = .ok (.iload 8, 2) := by decide +kernel
theorem dX7_setFour_53 : decode cX7_setFour 53 = .ok (.iload_n 3, 1) := by decide +kernel
theorem dX7_setFour_54 : decode cX7_setFour 54 = .ok (.i2l, 1) := by decide +kernel
theorem dX7_setFour_55 : decode cX7_setFour 55 = .ok (.lastore, 1) := by decide +kernel
theorem dX7_setFour_56 : decode cX7_setFour 56 = .ok (.aload 7, 2) := by decide +kernel
theorem dX7_setFour_58 : decode cX7_setFour 58 = .ok (.iload 8, 2) := by decide +kernel
theorem dX7_setFour_60 : decode cX7_setFour 60 = .ok (.iconst 1, 1) := by decide +kernel
theorem dX7_setFour_61 : decode cX7_setFour 61 = .ok (.iadd, 1) := by decide +kernel
theorem dX7_setFour_62 : decode cX7_setFour 62 = .ok (.iload 4, 2) := by decide +kernel
theorem dX7_setFour_64 : decode cX7_setFour 64 = .ok (.i2l, 1) := by decide +kernel
theorem dX7_setFour_65 : decode cX7_setFour 65 = .ok (.lastore, 1) := by decide +kernel
theorem dX7_setFour_66 : decode cX7_setFour 66 = .ok (.aload 7, 2) := by decide +kernel
theorem dX7_setFour_68 : decode cX7_setFour 68 = .ok (.iload 8, 2) := by decide +kernel
theorem dX7_setFour_70 : decode cX7_setFour 70 = .ok (.iconst 2, 1) := by decide +kernel
theorem dX7_setFour_71 : decode cX7_setFour 71 = .ok (.iadd, 1) := by decide +kernel
theorem dX7_setFour_72 : decode cX7_setFour 72 = .ok (.iload 5, 2) := by decide +kernel
theorem dX7_setFour_74 : decode cX7_setFour 74 = .ok (.i2l, 1) := by decide +kernel
theorem dX7_setFour_75 : decode cX7_setFour 75 = .ok (.lastore, 1) := by decide +kernel
theorem dX7_setFour_76 : decode cX7_setFour 76 = .ok (.aload 7, 2) := by decide +kernel
theorem dX7_setFour_78 : decode cX7_setFour 78 = .ok (.iload 8, 2) := by decide +kernel
theorem dX7_setFour_80 : decode cX7_setFour 80 = .ok (.iconst 3, 1) := by decide +kernel
theorem dX7_setFour_81 : decode cX7_setFour 81 = .ok (.iadd, 1) := by decide +kernel
theorem dX7_setFour_82 : decode cX7_setFour 82 = .ok (.iload 6, 2) := by decide +kernel
theorem dX7_setFour_84 : decode cX7_setFour 84 = .ok (.i2l, 1) := by decide +kernel
theorem dX7_setFour_85 : decode cX7_setFour 85 = .ok (.lastore, 1) := by decide +kernel
theorem dX7_setFour_86 : decode cX7_setFour 86 = .ok (.aload 7, 2) := by decide +kernel
theorem dX7_setFour_88 : decode cX7_setFour 88 = .ok (.invokestatic 82, 3) := by decide +kernel
theorem dX7_setFour_91 : decode cX7_setFour 91 = .ok (.lreturn, 1) := by decide +kernel
theorem dX7_setOrder_0 : decode cX7_setOrder 0 = .ok (.iload_n 1, 1) := by decide +kernel
theorem dX7_setOrder_1 : decode cX7_setOrder 1 = .ok (.ifCond .lt 9, 3) := by decide +kernel
theorem dX7_setOrder_4 : decode cX7_setOrder 4 = .ok (.iload_n 1, 1) := by decide +kernel
theorem dX7_setOrder_5 : decode cX7_setOrder 5 = .ok (.bipush 8, 2) := by decide +kernel
theorem dX7_setOrder_7 : decode cX7_setOrder 7 = .ok (.if_icmp .lt 13, 3) := by decide +kernel
theorem dX7_setOrder_10 : decode cX7_setOrder 10 = .ok (.new 86, 3) := by decide +kernel
theorem dX7_setOrder_13 : decode cX7_setOrder 13 = .ok (.dup, 1) := by decide +kernel
theorem dX7_setOrder_14 : decode cX7_setOrder 14 = .ok (.ldc 88, 2) := by decide +kernel
theorem dX7_setOrder_16 : decode cX7_setOrder 16 = .ok (.invokespecial 90, 3) := by decide +kernel
theorem dX7_setOrder_19 : decode cX7_setOrder 19 = .ok (.athrow, 1) := by decide +kernel
theorem dX7_setOrder_20 : decode cX7_setOrder 20 = .ok (.aload_n 0, 1) := by decide +kernel
theorem dX7_setOrder_21 : decode cX7_setOrder 21 = .ok (.invokevirtual 75, 3) := by decide +kernel
theorem dX7_setOrder_24 : decode cX7_setOrder 24 = .ok (.aload_n 0, 1) := by decide +kernel
theorem dX7_setOrder_25 : decode cX7_setOrder 25 = .ok (.getfield 10, 3) := by decide +kernel
theorem dX7_setOrder_28 : decode cX7_setOrder 28 = .ok (.getfield 93, 3) := by decide +kernel
theorem dX7_setOrder_31 : decode cX7_setOrder 31 = .ok (.istore_n 2, 1) := by decide +kernel
theorem dX7_setOrder_32 : decode cX7_setOrder 32 = .ok (.aload_n 0, 1) := by decide +kernel
theorem dX7_setOrder_33 : decode cX7_setOrder 33 = .ok (.getfield 10, 3) := by decide +kernel
theorem dX7_setOrder_36 : decode cX7_setOrder 36 = .ok (.iload_n 1, 1) := by decide +kernel
theorem dX7_setOrder_37 : decode cX7_setOrder 37 = .ok (.putfield 93, 3) := by decide +kernel
theorem dX7_setOrder_40 : decode cX7_setOrder 40 = .ok (.iload_n 2, 1) := by decide +kernel
theorem dX7_setOrder_41 : decode cX7_setOrder 41 = .ok (.ireturn, 1) := by decide +kernel
theorem dX7_load_0 : decode cX7_load 0 = .ok (.iload_n 1, 1) := by decide +kernel
theorem dX7_load_1 : decode cX7_load 1 = .ok (.ifCond .lt 17, 3) := by decide +kernel
theorem dX7_load_4 : decode cX7_load 4 = .ok (.iload_n 1, 1) := by decide +kernel
theorem dX7_load_5 : decode cX7_load 5 = .ok (.aload_n 0, 1) := by decide +kernel
theorem dX7_load_6 : decode cX7_load 6 = .ok (.getfield 10, 3) := by decide +kernel
theorem dX7_load_9 : decode cX7_load 9 = .ok (.getfield 93, 3) := by decide +kernel
theorem dX7_load_12 : decode cX7_load 12 = .ok (.invokestatic 96, 3) := by decide +kernel
theorem dX7_load_15 : decode cX7_load 15 = .ok (.if_icmp .lt 13, 3) := by decide +kernel
theorem dX7_load_18 : decode cX7_load 18 = .ok (.new 100, 3) := by decide +kernel
theorem dX7_load_21 : decode cX7_load 21 = .ok (.dup, 1) := by decide +kernel
theorem dX7_load_22 : decode cX7_load 22 = .ok (.ldc 102, 2) := by decide +kernel
theorem dX7_load_24 : decode cX7_load 24 = .ok (.invokespecial 104, 3) := by decide +kernel
theorem dX7_load_27 : decode cX7_load 27 = .ok (.athrow, 1) := by decide +kernel
theorem dX7_load_28 : decode cX7_load 28 = .ok (.iload_n 2, 1) := by decide +kernel
theorem dX7_load_29 : decode cX7_load 29 = .ok (.invokestatic 65, 3) := by decide +kernel
theorem dX7_load_32 : decode cX7_load 32 = .ok (.aload_n 0, 1) := by decide +kernel
theorem dX7_load_33 : decode cX7_load 33 = .ok (.invokevirtual 75, 3) := by decide +kernel
theorem dX7_load_36 : decode cX7_load 36 = .ok (.aload_n 0, 1) := by decide +kernel
theorem dX7_load_37 : decode cX7_load 37 = .ok (.invokevirtual 105, 3) := by decide +kernel
theorem dX7_load_40 : decode cX7_load 40 = .ok (.iload_n 1, 1) := by decide +kernel
theorem dX7_load_41 : decode cX7_load 41 = .ok (.aload_n 0, 1) := by decide +kernel
theorem dX7_load_42 : decode cX7_load 42 = .ok (.getfield 10, 3) := by decide +kernel
theorem dX7_load_45 : decode cX7_load 45 = .ok (.getfield 78, 3) := by decide +kernel
theorem dX7_load_48 : decode cX7_load 48 = .ok (.iload_n 2, 1) := by decide +kernel
theorem dX7_load_49 : decode cX7_load 49 = .ok (.aaload, 1) := by decide +kernel
theorem dX7_load_50 : decode cX7_load 50 = .ok (.invokevirtual 109, 3) := by decide +kernel
theorem dX7_load_53 : decode cX7_load 53 = .ok (.aload_n 0, 1) := by decide +kernel
theorem dX7_load_54 : decode cX7_load 54 = .ok (.getfield 10, 3) := by decide +kernel
theorem dX7_load_57 : decode cX7_load 57 = .ok (.getfield 78, 3) := by decide +kernel
theorem dX7_load_60 : decode cX7_load 60 = .ok (.iload_n 2, 1) := by decide +kernel
theorem dX7_load_61 : decode cX7_load 61 = .ok (.aaload, 1) := by decide +kernel
theorem dX7_load_62 : decode cX7_load 62 = .ok (.iconst 0, 1) := by decide +kernel
theorem dX7_load_63 : decode cX7_load 63 = .ok (.laload, 1) := by decide +kernel
theorem dX7_load_64 : decode cX7_load 64 = .ok (.l2i, 1) := by decide +kernel
theorem dX7_load_65 : decode cX7_load 65 = .ok (.ireturn, 1) := by decide +kernel
theorem dX7_add_0 : decode cX7_add 0 = .ok (.iload_n 1, 1) := by decide +kernel
theorem dX7_add_1 : decode cX7_add 1 = .ok (.invokestatic 65, 3) := by decide +kernel
theorem dX7_add_4 : decode cX7_add 4 = .ok (.iload_n 2, 1) := by decide +kernel
theorem dX7_add_5 : decode cX7_add 5 = .ok (.invokestatic 65, 3) := by decide +kernel
theorem dX7_add_8 : decode cX7_add 8 = .ok (.iload_n 3, 1) := by decide +kernel
theorem dX7_add_9 : decode cX7_add 9 = .ok (.invokestatic 65, 3) := by decide +kernel
theorem dX7_add_12 : decode cX7_add 12 = .ok (.aload_n 0, 1) := by decide +kernel
theorem dX7_add_13 : decode cX7_add 13 = .ok (.getfield 10, 3) := by decide +kernel
theorem dX7_add_16 : decode cX7_add 16 = .ok (.getfield 78, 3) := by decide +kernel
theorem dX7_add_19 : decode cX7_add 19 = .ok (.iload_n 1, 1) := by decide +kernel
theorem dX7_add_20 : decode cX7_add 20 = .ok (.aaload, 1) := by decide +kernel
theorem dX7_add_21 : decode cX7_add 21 = .ok (.aload_n 0, 1) := by decide +kernel
theorem dX7_add_22 : decode cX7_add 22 = .ok (.getfield 10, 3) := by decide +kernel
theorem dX7_add_25 : decode cX7_add 25 = .ok (.getfield 78, 3) := by decide +kernel
theorem dX7_add_28 : decode cX7_add 28 = .ok (.iload_n 2, 1) := by decide +kernel
theorem dX7_add_29 : decode cX7_add 29 = .ok (.aaload, 1) := by decide +kernel
theorem dX7_add_30 : decode cX7_add 30 = .ok (.iload 4, 2) := by decide +kernel
theorem dX7_add_32 : decode cX7_add 32 = .ok (.aload_n 0, 1) := by decide +kernel
theorem dX7_add_33 : decode cX7_add 33 = .ok (.getfield 55, 3) := by decide +kernel
theorem dX7_add_36 : decode cX7_add 36 = .ok (.invokestatic 113, 3) := by decide +kernel
theorem dX7_add_39 : decode cX7_add 39 = .ok (.aload_n 0, 1) := by decide +kernel
theorem dX7_add_40 : decode cX7_add 40 = .ok (.getfield 55, 3) := by decide +kernel
theorem dX7_add_43 : decode cX7_add 43 = .ok (.iconst 0, 1) := by decide +kernel
theorem dX7_add_44 : decode cX7_add 44 = .ok (.invokestatic 117, 3) := by decide +kernel
theorem dX7_add_47 : decode cX7_add 47 = .ok (.invokestatic 121, 3) := by decide +kernel
theorem dX7_add_50 : decode cX7_add 50 = .ok (.aload_n 0, 1) := by decide +kernel
theorem dX7_add_51 : decode cX7_add 51 = .ok (.invokevirtual 75, 3) := by decide +kernel
theorem dX7_add_54 : decode cX7_add 54 = .ok (.aload_n 0, 1) := by decide +kernel
theorem dX7_add_55 : decode cX7_add 55 = .ok (.iload_n 3, 1) := by decide +kernel
theorem dX7_add_56 : decode cX7_add 56 = .ok (.invokevirtual 125, 3) := by decide +kernel
theorem dX7_add_59 : decode cX7_add 59 = .ok (.lreturn, 1) := by decide +kernel
theorem dX7_multiply_0 : decode cX7_multiply 0 = .ok (.iload_n 1, 1) := by decide +kernel
theorem dX7_multiply_1 : decode cX7_multiply 1 = .ok (.invokestatic 65, 3) := by decide +kernel
theorem dX7_multiply_4 : decode cX7_multiply 4 = .ok (.iload_n 2, 1) := by decide +kernel
theorem dX7_multiply_5 : decode cX7_multiply 5 = .ok (.invokestatic 65, 3) := by decide +kernel
theorem dX7_multiply_8 : decode cX7_multiply 8 = .ok (.iload_n 3, 1) := by decide +kernel
theorem dX7_multiply_9 : decode cX7_multiply 9 = .ok (.invokestatic 65, 3) := by decide +kernel
theorem dX7_multiply_12 : decode cX7_multiply 12 = .ok (.aload_n 0, 1) := by decide +kernel
theorem dX7_multiply_13 : decode cX7_multiply 13 = .ok (.getfield 10, 3) := by decide +kernel
theorem dX7_multiply_16 : decode cX7_multiply 16 = .ok (.getfield 78, 3) := by decide +kernel
theorem dX7_multiply_19 : decode cX7_multiply 19 = .ok (.iload_n 1, 1) := by decide +kernel
theorem dX7_multiply_20 : decode cX7_multiply 20 = .ok (.aaload, 1) := by decide +kernel
theorem dX7_multiply_21 : decode cX7_multiply 21 = .ok (.aload_n 0, 1) := by decide +kernel
theorem dX7_multiply_22 : decode cX7_multiply 22 = .ok (.getfield 10, 3) := by decide +kernel
theorem dX7_multiply_25 : decode cX7_multiply 25 = .ok (.getfield 78, 3) := by decide +kernel
theorem dX7_multiply_28 : decode cX7_multiply 28 = .ok (.iload_n 2, 1) := by decide +kernel
theorem dX7_multiply_29 : decode cX7_multiply 29 = .ok (.aaload, 1) := by decide +kernel
theorem dX7_multiply_30 : decode cX7_multiply 30 = .ok (.aload_n 0, 1) := by decide +kernel
theorem dX7_multiply_31 : decode cX7_multiply 31 = .ok (.getfield 55, 3) := by decide +kernel
theorem dX7_multiply_34 : decode cX7_multiply 34 = .ok (.invokestatic 129, 3) := by decide +kernel
theorem dX7_multiply_37 : decode cX7_multiply 37 = .ok (.aload_n 0, 1) := by decide +kernel
theorem dX7_multiply_38 : decode cX7_multiply 38 = .ok (.getfield 55, 3) := by decide +kernel
theorem dX7_multiply_41 : decode cX7_multiply 41 = .ok (.iconst 1, 1) := by decide +kernel
theorem dX7_multiply_42 : decode cX7_multiply 42 = .ok (.invokestatic 117, 3) := by decide +kernel
theorem dX7_multiply_45 : decode cX7_multiply 45 = .ok (.invokestatic 121, 3) := by decide +kernel
theorem dX7_multiply_48 : decode cX7_multiply 48 = .ok (.aload_n 0, 1) := by decide +kernel
theorem dX7_multiply_49 : decode cX7_multiply 49 = .ok (.invokevirtual 75, 3) := by decide +kernel
theorem dX7_multiply_52 : decode cX7_multiply 52 = .ok (.aload_n 0, 1) := by decide +kernel
theorem dX7_multiply_53 : decode cX7_multiply 53 = .ok (.getfield 10, 3) := by decide +kernel
theorem dX7_multiply_56 : decode cX7_multiply 56 = .ok (.dup, 1) := by decide +kernel
theorem dX7_multiply_57 : decode cX7_multiply 57 = .ok (.getfield 133, 3) := by decide +kernel
theorem dX7_multiply_60 : decode cX7_multiply 60 = .ok (.iconst 1, 1) := by decide +kernel
theorem dX7_multiply_61 : decode cX7_multiply 61 = .ok (.iadd, 1) := by decide +kernel
theorem dX7_multiply_62 : decode cX7_multiply 62 = .ok (.putfield 133, 3) := by decide +kernel
theorem dX7_multiply_65 : decode cX7_multiply 65 = .ok (.aload_n 0, 1) := by decide +kernel
theorem dX7_multiply_66 : decode cX7_multiply 66 = .ok (.iload_n 3, 1) := by decide +kernel
theorem dX7_multiply_67 : decode cX7_multiply 67 = .ok (.invokevirtual 125, 3) := by decide +kernel
theorem dX7_multiply_70 : decode cX7_multiply 70 = .ok (.lreturn, 1) := by decide +kernel
theorem dX7_conjugate_0 : decode cX7_conjugate 0 = .ok (.iload_n 1, 1) := by decide +kernel
theorem dX7_conjugate_1 : decode cX7_conjugate 1 = .ok (.invokestatic 65, 3) := by decide +kernel
theorem dX7_conjugate_4 : decode cX7_conjugate 4 = .ok (.aload_n 0, 1) := by decide +kernel
theorem dX7_conjugate_5 : decode cX7_conjugate 5 = .ok (.invokevirtual 75, 3) := by decide +kernel
theorem dX7_conjugate_8 : decode cX7_conjugate 8 = .ok (.aload_n 0, 1) := by decide +kernel
theorem dX7_conjugate_9 : decode cX7_conjugate 9 = .ok (.getfield 10, 3) := by decide +kernel
theorem dX7_conjugate_12 : decode cX7_conjugate 12 = .ok (.getfield 78, 3) := by decide +kernel
theorem dX7_conjugate_15 : decode cX7_conjugate 15 = .ok (.iload_n 1, 1) := by decide +kernel
theorem dX7_conjugate_16 : decode cX7_conjugate 16 = .ok (.aaload, 1) := by decide +kernel
theorem dX7_conjugate_17 : decode cX7_conjugate 17 = .ok (.invokestatic 136, 3) := by decide +kernel
theorem dX7_conjugate_20 : decode cX7_conjugate 20 = .ok (.aload_n 0, 1) := by decide +kernel
theorem dX7_conjugate_21 : decode cX7_conjugate 21 = .ok (.getfield 10, 3) := by decide +kernel
theorem dX7_conjugate_24 : decode cX7_conjugate 24 = .ok (.getfield 78, 3) := by decide +kernel
theorem dX7_conjugate_27 : decode cX7_conjugate 27 = .ok (.iload_n 1, 1) := by decide +kernel
theorem dX7_conjugate_28 : decode cX7_conjugate 28 = .ok (.aaload, 1) := by decide +kernel
theorem dX7_conjugate_29 : decode cX7_conjugate 29 = .ok (.iconst 0, 1) := by decide +kernel
theorem dX7_conjugate_30 : decode cX7_conjugate 30 = .ok (.laload, 1) := by decide +kernel
theorem dX7_conjugate_31 : decode cX7_conjugate 31 = .ok (.l2i, 1) := by decide +kernel
theorem dX7_conjugate_32 : decode cX7_conjugate 32 = .ok (.ireturn, 1) := by decide +kernel
theorem dX7_commutator_0 : decode cX7_commutator 0 = .ok (.iload_n 1, 1) := by decide +kernel
theorem dX7_commutator_1 : decode cX7_commutator 1 = .ok (.invokestatic 65, 3) := by decide +kernel
theorem dX7_commutator_4 : decode cX7_commutator 4 = .ok (.iload_n 2, 1) := by decide +kernel
theorem dX7_commutator_5 : decode cX7_commutator 5 = .ok (.invokestatic 65, 3) := by decide +kernel
theorem dX7_commutator_8 : decode cX7_commutator 8 = .ok (.iload_n 3, 1) := by decide +kernel
theorem dX7_commutator_9 : decode cX7_commutator 9 = .ok (.invokestatic 65, 3) := by decide +kernel
theorem dX7_commutator_12 : decode cX7_commutator 12 = .ok (.aload_n 0, 1) := by decide +kernel
theorem dX7_commutator_13 : decode cX7_commutator 13 = .ok (.getfield 10, 3) := by decide +kernel
theorem dX7_commutator_16 : decode cX7_commutator 16 = .ok (.getfield 78, 3) := by decide +kernel
theorem dX7_commutator_19 : decode cX7_commutator 19 = .ok (.iload_n 1, 1) := by decide +kernel
theorem dX7_commutator_20 : decode cX7_commutator 20 = .ok (.aaload, 1) := by decide +kernel
theorem dX7_commutator_21 : decode cX7_commutator 21 = .ok (.aload_n 0, 1) := by decide +kernel
theorem dX7_commutator_22 : decode cX7_commutator 22 = .ok (.getfield 10, 3) := by decide +kernel
theorem dX7_commutator_25 : decode cX7_commutator 25 = .ok (.getfield 78, 3) := by decide +kernel
theorem dX7_commutator_28 : decode cX7_commutator 28 = .ok (.iload_n 2, 1) := by decide +kernel
theorem dX7_commutator_29 : decode cX7_commutator 29 = .ok (.aaload, 1) := by decide +kernel
theorem dX7_commutator_30 : decode cX7_commutator 30 = .ok (.aload_n 0, 1) := by decide +kernel
theorem dX7_commutator_31 : decode cX7_commutator 31 = .ok (.getfield 55, 3) := by decide +kernel
theorem dX7_commutator_34 : decode cX7_commutator 34 = .ok (.invokestatic 129, 3) := by decide +kernel
theorem dX7_commutator_37 : decode cX7_commutator 37 = .ok (.aload_n 0, 1) := by decide +kernel
theorem dX7_commutator_38 : decode cX7_commutator 38 = .ok (.getfield 10, 3) := by decide +kernel
theorem dX7_commutator_41 : decode cX7_commutator 41 = .ok (.getfield 78, 3) := by decide +kernel
theorem dX7_commutator_44 : decode cX7_commutator 44 = .ok (.iload_n 2, 1) := by decide +kernel
theorem dX7_commutator_45 : decode cX7_commutator 45 = .ok (.aaload, 1) := by decide +kernel
theorem dX7_commutator_46 : decode cX7_commutator 46 = .ok (.aload_n 0, 1) := by decide +kernel
theorem dX7_commutator_47 : decode cX7_commutator 47 = .ok (.getfield 10, 3) := by decide +kernel
theorem dX7_commutator_50 : decode cX7_commutator 50 = .ok (.getfield 78, 3) := by decide +kernel
theorem dX7_commutator_53 : decode cX7_commutator 53 = .ok (.iload_n 1, 1) := by decide +kernel
theorem dX7_commutator_54 : decode cX7_commutator 54 = .ok (.aaload, 1) := by decide +kernel
theorem dX7_commutator_55 : decode cX7_commutator 55 = .ok (.aload_n 0, 1) := by decide +kernel
theorem dX7_commutator_56 : decode cX7_commutator 56 = .ok (.getfield 59, 3) := by decide +kernel
theorem dX7_commutator_59 : decode cX7_commutator 59 = .ok (.invokestatic 129, 3) := by decide +kernel
theorem dX7_commutator_62 : decode cX7_commutator 62 = .ok (.aload_n 0, 1) := by decide +kernel
theorem dX7_commutator_63 : decode cX7_commutator 63 = .ok (.getfield 55, 3) := by decide +kernel
theorem dX7_commutator_66 : decode cX7_commutator 66 = .ok (.aload_n 0, 1) := by decide +kernel
theorem dX7_commutator_67 : decode cX7_commutator 67 = .ok (.getfield 59, 3) := by decide +kernel
theorem dX7_commutator_70 : decode cX7_commutator 70 = .ok (.iconst 1, 1) := by decide +kernel
theorem dX7_commutator_71 : decode cX7_commutator 71 = .ok (.aload_n 0, 1) := by decide +kernel
theorem dX7_commutator_72 : decode cX7_commutator 72 = .ok (.getfield 55, 3) := by decide +kernel
theorem dX7_commutator_75 : decode cX7_commutator 75 = .ok (.invokestatic 113, 3) := by decide +kernel
theorem dX7_commutator_78 : decode cX7_commutator 78 = .ok (.aload_n 0, 1) := by decide +kernel
theorem dX7_commutator_79 : decode cX7_commutator 79 = .ok (.getfield 55, 3) := by decide +kernel
theorem dX7_commutator_82 : decode cX7_commutator 82 = .ok (.iconst 1, 1) := by decide +kernel
theorem dX7_commutator_83 : decode cX7_commutator 83 = .ok (.invokestatic 117, 3) := by decide +kernel
theorem dX7_commutator_86 : decode cX7_commutator 86 = .ok (.invokestatic 121, 3) := by decide +kernel
theorem dX7_commutator_89 : decode cX7_commutator 89 = .ok (.aload_n 0, 1) := by decide +kernel
theorem dX7_commutator_90 : decode cX7_commutator 90 = .ok (.invokevirtual 75, 3) := by decide +kernel
theorem dX7_commutator_93 : decode cX7_commutator 93 = .ok (.aload_n 0, 1) := by decide +kernel
theorem dX7_commutator_94 : decode cX7_commutator 94 = .ok (.iload_n 3, 1) := by decide +kernel
theorem dX7_commutator_95 : decode cX7_commutator 95 = .ok (.invokevirtual 125, 3) := by decide +kernel
theorem dX7_commutator_98 : decode cX7_commutator 98 = .ok (.lreturn, 1) := by decide +kernel
theorem dX7_associator_0 : decode cX7_associator 0 = .ok (.iload_n 1, 1) := by decide +kernel
theorem dX7_associator_1 : decode cX7_associator 1 = .ok (.invokestatic 65, 3) := by decide +kernel
theorem dX7_associator_4 : decode cX7_associator 4 = .ok (.iload_n 2, 1) := by decide +kernel
theorem dX7_associator_5 : decode cX7_associator 5 = .ok (.invokestatic 65, 3) := by decide +kernel
theorem dX7_associator_8 : decode cX7_associator 8 = .ok (.iload_n 3, 1) := by decide +kernel
theorem dX7_associator_9 : decode cX7_associator 9 = .ok (.invokestatic 65, 3) := by decide +kernel
theorem dX7_associator_12 : decode cX7_associator 12 = .ok (.iload 4, 2) := by decide +kernel
theorem dX7_associator_14 : decode cX7_associator 14 = .ok (.invokestatic 65, 3) := by decide +kernel
theorem dX7_associator_17 : decode cX7_associator 17 = .ok (.aload_n 0, 1) := by decide +kernel
theorem dX7_associator_18 : decode cX7_associator 18 = .ok (.iload_n 1, 1) := by decide +kernel
theorem dX7_associator_19 : decode cX7_associator 19 = .ok (.iload_n 2, 1) := by decide +kernel
theorem dX7_associator_20 : decode cX7_associator 20 = .ok (.iload_n 3, 1) := by decide +kernel
theorem dX7_associator_21 : decode cX7_associator 21 = .ok (.invokevirtual 140, 3) := by decide +kernel
theorem dX7_associator_24 : decode cX7_associator 24 = .ok (.aload_n 0, 1) := by decide +kernel
theorem dX7_associator_25 : decode cX7_associator 25 = .ok (.getfield 55, 3) := by decide +kernel
theorem dX7_associator_28 : decode cX7_associator 28 = .ok (.iconst 2, 1) := by decide +kernel
theorem dX7_associator_29 : decode cX7_associator 29 = .ok (.invokestatic 117, 3) := by decide +kernel
theorem dX7_associator_32 : decode cX7_associator 32 = .ok (.invokestatic 121, 3) := by decide +kernel
theorem dX7_associator_35 : decode cX7_associator 35 = .ok (.aload_n 0, 1) := by decide +kernel
theorem dX7_associator_36 : decode cX7_associator 36 = .ok (.invokevirtual 75, 3) := by decide +kernel
theorem dX7_associator_39 : decode cX7_associator 39 = .ok (.aload_n 0, 1) := by decide +kernel
theorem dX7_associator_40 : decode cX7_associator 40 = .ok (.iload 4, 2) := by decide +kernel
theorem dX7_associator_42 : decode cX7_associator 42 = .ok (.invokevirtual 125, 3) := by decide +kernel
theorem dX7_associator_45 : decode cX7_associator 45 = .ok (.lreturn, 1) := by decide +kernel
theorem dX7_divide_0 : decode cX7_divide 0 = .ok (.iload_n 1, 1) := by decide +kernel
theorem dX7_divide_1 : decode cX7_divide 1 = .ok (.invokestatic 65, 3) := by decide +kernel
theorem dX7_divide_4 : decode cX7_divide 4 = .ok (.iload_n 2, 1) := by decide +kernel
theorem dX7_divide_5 : decode cX7_divide 5 = .ok (.invokestatic 65, 3) := by decide +kernel
theorem dX7_divide_8 : decode cX7_divide 8 = .ok (.iload_n 3, 1) := by decide +kernel
theorem dX7_divide_9 : decode cX7_divide 9 = .ok (.invokestatic 65, 3) := by decide +kernel
theorem dX7_divide_12 : decode cX7_divide 12 = .ok (.iload 4, 2) := by decide +kernel
theorem dX7_divide_14 : decode cX7_divide 14 = .ok (.invokestatic 65, 3) := by decide +kernel
theorem dX7_divide_17 : decode cX7_divide 17 = .ok (.iload_n 3, 1) := by decide +kernel
theorem dX7_divide_18 : decode cX7_divide 18 = .ok (.iload 4, 2) := by decide +kernel
theorem dX7_divide_20 : decode cX7_divide 20 = .ok (.if_icmp .ne 13, 3) := by decide +kernel
theorem dX7_divide_23 : decode cX7_divide 23 = .ok (.new 86, 3) := by decide +kernel
theorem dX7_divide_26 : decode cX7_divide 26 = .ok (.dup, 1) := by decide +kernel
theorem dX7_divide_27 : decode cX7_divide 27 = .ok (.ldc 144, 2) := by decide +kernel
theorem dX7_divide_29 : decode cX7_divide 29 = .ok (.invokespecial 90, 3) := by decide +kernel
theorem dX7_divide_32 : decode cX7_divide 32 = .ok (.athrow, 1) := by decide +kernel
theorem dX7_divide_33 : decode cX7_divide 33 = .ok (.aload_n 0, 1) := by decide +kernel
theorem dX7_divide_34 : decode cX7_divide 34 = .ok (.iload_n 1, 1) := by decide +kernel
theorem dX7_divide_35 : decode cX7_divide 35 = .ok (.iload_n 2, 1) := by decide +kernel
theorem dX7_divide_36 : decode cX7_divide 36 = .ok (.invokevirtual 146, 3) := by decide +kernel
theorem dX7_divide_39 : decode cX7_divide 39 = .ok (.aload_n 0, 1) := by decide +kernel
theorem dX7_divide_40 : decode cX7_divide 40 = .ok (.getfield 33, 3) := by decide +kernel
theorem dX7_divide_43 : decode cX7_divide 43 = .ok (.aload_n 0, 1) := by decide +kernel
theorem dX7_divide_44 : decode cX7_divide 44 = .ok (.getfield 10, 3) := by decide +kernel
theorem dX7_divide_47 : decode cX7_divide 47 = .ok (.getfield 78, 3) := by decide +kernel
theorem dX7_divide_50 : decode cX7_divide 50 = .ok (.iload_n 1, 1) := by decide +kernel
theorem dX7_divide_51 : decode cX7_divide 51 = .ok (.aaload, 1) := by decide +kernel
theorem dX7_divide_52 : decode cX7_divide 52 = .ok (.aload_n 0, 1) := by decide +kernel
theorem dX7_divide_53 : decode cX7_divide 53 = .ok (.getfield 10, 3) := by decide +kernel
theorem dX7_divide_56 : decode cX7_divide 56 = .ok (.getfield 78, 3) := by decide +kernel
theorem dX7_divide_59 : decode cX7_divide 59 = .ok (.iload_n 2, 1) := by decide +kernel
theorem dX7_divide_60 : decode cX7_divide 60 = .ok (.aaload, 1) := by decide +kernel
theorem dX7_divide_61 : decode cX7_divide 61 = .ok (.aload_n 0, 1) := by decide +kernel
theorem dX7_divide_62 : decode cX7_divide 62 = .ok (.getfield 10, 3) := by decide +kernel
theorem dX7_divide_65 : decode cX7_divide 65 = .ok (.getfield 93, 3) := by decide +kernel
theorem dX7_divide_68 : decode cX7_divide 68 = .ok (.invokevirtual 150, 3) := by decide +kernel
theorem dX7_divide_71 : decode cX7_divide 71 = .ok (.aload_n 0, 1) := by decide +kernel
theorem dX7_divide_72 : decode cX7_divide 72 = .ok (.getfield 33, 3) := by decide +kernel
theorem dX7_divide_75 : decode cX7_divide 75 = .ok (.getfield 154, 3) := by decide +kernel
theorem dX7_divide_78 : decode cX7_divide 78 = .ok (.iconst 0, 1) := by decide +kernel
theorem dX7_divide_79 : decode cX7_divide 79 = .ok (.invokestatic 117, 3) := by decide +kernel
theorem dX7_divide_82 : decode cX7_divide 82 = .ok (.invokestatic 121, 3) := by decide +kernel
theorem dX7_divide_85 : decode cX7_divide 85 = .ok (.aload_n 0, 1) := by decide +kernel
theorem dX7_divide_86 : decode cX7_divide 86 = .ok (.getfield 33, 3) := by decide +kernel
theorem dX7_divide_89 : decode cX7_divide 89 = .ok (.getfield 157, 3) := by decide +kernel
theorem dX7_divide_92 : decode cX7_divide 92 = .ok (.iconst 0, 1) := by decide +kernel
theorem dX7_divide_93 : decode cX7_divide 93 = .ok (.invokestatic 117, 3) := by decide +kernel
theorem dX7_divide_96 : decode cX7_divide 96 = .ok (.invokestatic 121, 3) := by decide +kernel
theorem dX7_divide_99 : decode cX7_divide 99 = .ok (.aload_n 0, 1) := by decide +kernel
theorem dX7_divide_100 : decode cX7_divide 100 = .ok (.invokevirtual 75, 3) := by decide +kernel
theorem dX7_divide_103 : decode cX7_divide 103 = .ok (.aload_n 0, 1) := by decide +kernel
theorem dX7_divide_104 : decode cX7_divide 104 = .ok (.getfield 10, 3) := by decide +kernel
theorem dX7_divide_107 : decode cX7_divide 107 = .ok (.dup, 1) := by decide +kernel
theorem dX7_divide_108 : decode cX7_divide 108 = .ok (.getfield 160, 3) := by decide +kernel
theorem dX7_divide_111 : decode cX7_divide 111 = .ok (.iconst 1, 1) := by decide +kernel
theorem dX7_divide_112 : decode cX7_divide 112 = .ok (.iadd, 1) := by decide +kernel
theorem dX7_divide_113 : decode cX7_divide 113 = .ok (.putfield 160, 3) := by decide +kernel
theorem dX7_divide_116 : decode cX7_divide 116 = .ok (.aload_n 0, 1) := by decide +kernel
theorem dX7_divide_117 : decode cX7_divide 117 = .ok (.getfield 33, 3) := by decide +kernel
theorem dX7_divide_120 : decode cX7_divide 120 = .ok (.getfield 154, 3) := by decide +kernel
theorem dX7_divide_123 : decode cX7_divide 123 = .ok (.aload_n 0, 1) := by decide +kernel
theorem dX7_divide_124 : decode cX7_divide 124 = .ok (.getfield 10, 3) := by decide +kernel
theorem dX7_divide_127 : decode cX7_divide 127 = .ok (.getfield 78, 3) := by decide +kernel
theorem dX7_divide_130 : decode cX7_divide 130 = .ok (.iload_n 3, 1) := by decide +kernel
theorem dX7_divide_131 : decode cX7_divide 131 = .ok (.aaload, 1) := by decide +kernel
theorem dX7_divide_132 : decode cX7_divide 132 = .ok (.invokestatic 163, 3) := by decide +kernel
theorem dX7_divide_135 : decode cX7_divide 135 = .ok (.aload_n 0, 1) := by decide +kernel
theorem dX7_divide_136 : decode cX7_divide 136 = .ok (.getfield 33, 3) := by decide +kernel
theorem dX7_divide_139 : decode cX7_divide 139 = .ok (.getfield 157, 3) := by decide +kernel
theorem dX7_divide_142 : decode cX7_divide 142 = .ok (.aload_n 0, 1) := by decide +kernel
theorem dX7_divide_143 : decode cX7_divide 143 = .ok (.getfield 10, 3) := by decide +kernel
theorem dX7_divide_146 : decode cX7_divide 146 = .ok (.getfield 78, 3) := by decide +kernel
theorem dX7_divide_149 : decode cX7_divide 149 = .ok (.iload 4, 2) := by decide +kernel
theorem dX7_divide_151 : decode cX7_divide 151 = .ok (.aaload, 1) := by decide +kernel
theorem dX7_divide_152 : decode cX7_divide 152 = .ok (.invokestatic 163, 3) := by decide +kernel
theorem dX7_divide_155 : decode cX7_divide 155 = .ok (.aload_n 0, 1) := by decide +kernel
theorem dX7_divide_156 : decode cX7_divide 156 = .ok (.getfield 33, 3) := by decide +kernel
theorem dX7_divide_159 : decode cX7_divide 159 = .ok (.getfield 157, 3) := by decide +kernel
theorem dX7_divide_162 : decode cX7_divide 162 = .ok (.invokestatic 82, 3) := by decide +kernel
theorem dX7_divide_165 : decode cX7_divide 165 = .ok (.lreturn, 1) := by decide +kernel
theorem dX7_coordinate_0 : decode cX7_coordinate 0 = .ok (.iload_n 1, 1) := by decide +kernel
theorem dX7_coordinate_1 : decode cX7_coordinate 1 = .ok (.invokestatic 65, 3) := by decide +kernel
theorem dX7_coordinate_4 : decode cX7_coordinate 4 = .ok (.iload_n 2, 1) := by decide +kernel
theorem dX7_coordinate_5 : decode cX7_coordinate 5 = .ok (.invokestatic 69, 3) := by decide +kernel
theorem dX7_coordinate_8 : decode cX7_coordinate 8 = .ok (.aload_n 0, 1) := by decide +kernel
theorem dX7_coordinate_9 : decode cX7_coordinate 9 = .ok (.getfield 10, 3) := by decide +kernel
theorem dX7_coordinate_12 : decode cX7_coordinate 12 = .ok (.getfield 78, 3) := by decide +kernel
theorem dX7_coordinate_15 : decode cX7_coordinate 15 = .ok (.iload_n 1, 1) := by decide +kernel
theorem dX7_coordinate_16 : decode cX7_coordinate 16 = .ok (.aaload, 1) := by decide +kernel
theorem dX7_coordinate_17 : decode cX7_coordinate 17 = .ok (.iload_n 2, 1) := by decide +kernel
theorem dX7_coordinate_18 : decode cX7_coordinate 18 = .ok (.laload, 1) := by decide +kernel
theorem dX7_coordinate_19 : decode cX7_coordinate 19 = .ok (.l2i, 1) := by decide +kernel
theorem dX7_coordinate_20 : decode cX7_coordinate 20 = .ok (.ireturn, 1) := by decide +kernel
theorem dX7_norm_0 : decode cX7_norm 0 = .ok (.iload_n 1, 1) := by decide +kernel
theorem dX7_norm_1 : decode cX7_norm 1 = .ok (.invokestatic 65, 3) := by decide +kernel
theorem dX7_norm_4 : decode cX7_norm 4 = .ok (.aload_n 0, 1) := by decide +kernel
theorem dX7_norm_5 : decode cX7_norm 5 = .ok (.getfield 10, 3) := by decide +kernel
theorem dX7_norm_8 : decode cX7_norm 8 = .ok (.getfield 78, 3) := by decide +kernel
theorem dX7_norm_11 : decode cX7_norm 11 = .ok (.iload_n 1, 1) := by decide +kernel
theorem dX7_norm_12 : decode cX7_norm 12 = .ok (.aaload, 1) := by decide +kernel
theorem dX7_norm_13 : decode cX7_norm 13 = .ok (.invokestatic 82, 3) := by decide +kernel
theorem dX7_norm_16 : decode cX7_norm 16 = .ok (.lreturn, 1) := by decide +kernel
theorem dX7_dot_0 : decode cX7_dot 0 = .ok (.iload_n 1, 1) := by decide +kernel
theorem dX7_dot_1 : decode cX7_dot 1 = .ok (.invokestatic 65, 3) := by decide +kernel
theorem dX7_dot_4 : decode cX7_dot 4 = .ok (.iload_n 2, 1) := by decide +kernel
theorem dX7_dot_5 : decode cX7_dot 5 = .ok (.invokestatic 65, 3) := by decide +kernel
theorem dX7_dot_8 : decode cX7_dot 8 = .ok (.aload_n 0, 1) := by decide +kernel
theorem dX7_dot_9 : decode cX7_dot 9 = .ok (.getfield 10, 3) := by decide +kernel
theorem dX7_dot_12 : decode cX7_dot 12 = .ok (.getfield 78, 3) := by decide +kernel
theorem dX7_dot_15 : decode cX7_dot 15 = .ok (.iload_n 1, 1) := by decide +kernel
theorem dX7_dot_16 : decode cX7_dot 16 = .ok (.aaload, 1) := by decide +kernel
theorem dX7_dot_17 : decode cX7_dot 17 = .ok (.aload_n 0, 1) := by decide +kernel
theorem dX7_dot_18 : decode cX7_dot 18 = .ok (.getfield 10, 3) := by decide +kernel
theorem dX7_dot_21 : decode cX7_dot 21 = .ok (.getfield 78, 3) := by decide +kernel
theorem dX7_dot_24 : decode cX7_dot 24 = .ok (.iload_n 2, 1) := by decide +kernel
theorem dX7_dot_25 : decode cX7_dot 25 = .ok (.aaload, 1) := by decide +kernel
theorem dX7_dot_26 : decode cX7_dot 26 = .ok (.invokestatic 167, 3) := by decide +kernel
theorem dX7_dot_29 : decode cX7_dot 29 = .ok (.lreturn, 1) := by decide +kernel
theorem dX7_ordersOf_0 : decode cX7_ordersOf 0 = .ok (.iload_n 1, 1) := by decide +kernel
theorem dX7_ordersOf_1 : decode cX7_ordersOf 1 = .ok (.invokestatic 65, 3) := by decide +kernel
theorem dX7_ordersOf_4 : decode cX7_ordersOf 4 = .ok (.aload_n 0, 1) := by decide +kernel
theorem dX7_ordersOf_5 : decode cX7_ordersOf 5 = .ok (.getfield 10, 3) := by decide +kernel
theorem dX7_ordersOf_8 : decode cX7_ordersOf 8 = .ok (.getfield 78, 3) := by decide +kernel
theorem dX7_ordersOf_11 : decode cX7_ordersOf 11 = .ok (.iload_n 1, 1) := by decide +kernel
theorem dX7_ordersOf_12 : decode cX7_ordersOf 12 = .ok (.aaload, 1) := by decide +kernel
theorem dX7_ordersOf_13 : decode cX7_ordersOf 13 = .ok (.invokestatic 170, 3) := by decide +kernel
theorem dX7_ordersOf_16 : decode cX7_ordersOf 16 = .ok (.istore_n 2, 1) := by decide +kernel
theorem dX7_ordersOf_17 : decode cX7_ordersOf 17 = .ok (.iconst 0, 1) := by decide +kernel
theorem dX7_ordersOf_18 : decode cX7_ordersOf 18 = .ok (.istore_n 3, 1) := by decide +kernel
theorem dX7_ordersOf_19 : decode cX7_ordersOf 19 = .ok (.iconst 0, 1) := by decide +kernel
theorem dX7_ordersOf_20 : decode cX7_ordersOf 20 = .ok (.istore 4, 2) := by decide +kernel
theorem dX7_ordersOf_22 : decode cX7_ordersOf 22 = .ok (.iload 4, 2) := by decide +kernel
theorem dX7_ordersOf_24 : decode cX7_ordersOf 24 = .ok (.bipush 8, 2) := by decide +kernel
theorem dX7_ordersOf_26 : decode cX7_ordersOf 26 = .ok (.if_icmp .ge 25, 3) := by decide +kernel
theorem dX7_ordersOf_29 : decode cX7_ordersOf 29 = .ok (.iload 4, 2) := by decide +kernel
theorem dX7_ordersOf_31 : decode cX7_ordersOf 31 = .ok (.iload_n 2, 1) := by decide +kernel
theorem dX7_ordersOf_32 : decode cX7_ordersOf 32 = .ok (.invokestatic 174, 3) := by decide +kernel
theorem dX7_ordersOf_35 : decode cX7_ordersOf 35 = .ok (.ifCond .eq 10, 3) := by decide +kernel
theorem dX7_ordersOf_38 : decode cX7_ordersOf 38 = .ok (.iload_n 3, 1) := by decide +kernel
theorem dX7_ordersOf_39 : decode cX7_ordersOf 39 = .ok (.iconst 1, 1) := by decide +kernel
theorem dX7_ordersOf_40 : decode cX7_ordersOf 40 = .ok (.iload 4, 2) := by decide +kernel
theorem dX7_ordersOf_42 : decode cX7_ordersOf 42 = .ok (.ishl, 1) := by decide +kernel
theorem dX7_ordersOf_43 : decode cX7_ordersOf 43 = .ok (.ior, 1) := by decide +kernel
theorem dX7_ordersOf_44 : decode cX7_ordersOf 44 = .ok (.istore_n 3, 1) := by decide +kernel
theorem dX7_ordersOf_45 : decode cX7_ordersOf 45 = .ok (.iinc 4 1, 3) := by decide +kernel
theorem dX7_ordersOf_48 : decode cX7_ordersOf 48 = .ok (.goto (-26), 3) := by decide +kernel
theorem dX7_ordersOf_51 : decode cX7_ordersOf 51 = .ok (.iload_n 3, 1) := by decide +kernel
theorem dX7_ordersOf_52 : decode cX7_ordersOf 52 = .ok (.ireturn, 1) := by decide +kernel
theorem dX7_left_0 : decode cX7_left 0 = .ok (.iload_n 1, 1) := by decide +kernel
theorem dX7_left_1 : decode cX7_left 1 = .ok (.invokestatic 65, 3) := by decide +kernel
theorem dX7_left_4 : decode cX7_left 4 = .ok (.iload_n 2, 1) := by decide +kernel
theorem dX7_left_5 : decode cX7_left 5 = .ok (.invokestatic 69, 3) := by decide +kernel
theorem dX7_left_8 : decode cX7_left 8 = .ok (.iload_n 3, 1) := by decide +kernel
theorem dX7_left_9 : decode cX7_left 9 = .ok (.invokestatic 69, 3) := by decide +kernel
theorem dX7_left_12 : decode cX7_left 12 = .ok (.aload_n 0, 1) := by decide +kernel
theorem dX7_left_13 : decode cX7_left 13 = .ok (.getfield 59, 3) := by decide +kernel
theorem dX7_left_16 : decode cX7_left 16 = .ok (.invokestatic 180, 3) := by decide +kernel
theorem dX7_left_19 : decode cX7_left 19 = .ok (.aload_n 0, 1) := by decide +kernel
theorem dX7_left_20 : decode cX7_left 20 = .ok (.getfield 59, 3) := by decide +kernel
theorem dX7_left_23 : decode cX7_left 23 = .ok (.iload_n 3, 1) := by decide +kernel
theorem dX7_left_24 : decode cX7_left 24 = .ok (.lconst 1, 1) := by decide +kernel
theorem dX7_left_25 : decode cX7_left 25 = .ok (.lastore, 1) := by decide +kernel
theorem dX7_left_26 : decode cX7_left 26 = .ok (.aload_n 0, 1) := by decide +kernel
theorem dX7_left_27 : decode cX7_left 27 = .ok (.getfield 10, 3) := by decide +kernel
theorem dX7_left_30 : decode cX7_left 30 = .ok (.getfield 78, 3) := by decide +kernel
theorem dX7_left_33 : decode cX7_left 33 = .ok (.iload_n 1, 1) := by decide +kernel
theorem dX7_left_34 : decode cX7_left 34 = .ok (.aaload, 1) := by decide +kernel
theorem dX7_left_35 : decode cX7_left 35 = .ok (.aload_n 0, 1) := by decide +kernel
theorem dX7_left_36 : decode cX7_left 36 = .ok (.getfield 59, 3) := by decide +kernel
theorem dX7_left_39 : decode cX7_left 39 = .ok (.aload_n 0, 1) := by decide +kernel
theorem dX7_left_40 : decode cX7_left 40 = .ok (.getfield 55, 3) := by decide +kernel
theorem dX7_left_43 : decode cX7_left 43 = .ok (.invokestatic 129, 3) := by decide +kernel
theorem dX7_left_46 : decode cX7_left 46 = .ok (.aload_n 0, 1) := by decide +kernel
theorem dX7_left_47 : decode cX7_left 47 = .ok (.getfield 55, 3) := by decide +kernel
theorem dX7_left_50 : decode cX7_left 50 = .ok (.iload_n 2, 1) := by decide +kernel
theorem dX7_left_51 : decode cX7_left 51 = .ok (.laload, 1) := by decide +kernel
theorem dX7_left_52 : decode cX7_left 52 = .ok (.l2i, 1) := by decide +kernel
theorem dX7_left_53 : decode cX7_left 53 = .ok (.ireturn, 1) := by decide +kernel
theorem dX7_unitOf_0 : decode cX7_unitOf 0 = .ok (.iload_n 1, 1) := by decide +kernel
theorem dX7_unitOf_1 : decode cX7_unitOf 1 = .ok (.invokestatic 65, 3) := by decide +kernel
theorem dX7_unitOf_4 : decode cX7_unitOf 4 = .ok (.aload_n 0, 1) := by decide +kernel
theorem dX7_unitOf_5 : decode cX7_unitOf 5 = .ok (.invokevirtual 105, 3) := by decide +kernel
theorem dX7_unitOf_8 : decode cX7_unitOf 8 = .ok (.aload_n 0, 1) := by decide +kernel
theorem dX7_unitOf_9 : decode cX7_unitOf 9 = .ok (.getfield 10, 3) := by decide +kernel
theorem dX7_unitOf_12 : decode cX7_unitOf 12 = .ok (.getfield 78, 3) := by decide +kernel
theorem dX7_unitOf_15 : decode cX7_unitOf 15 = .ok (.iload_n 1, 1) := by decide +kernel
theorem dX7_unitOf_16 : decode cX7_unitOf 16 = .ok (.aaload, 1) := by decide +kernel
theorem dX7_unitOf_17 : decode cX7_unitOf 17 = .ok (.invokevirtual 183, 3) := by decide +kernel
theorem dX7_unitOf_20 : decode cX7_unitOf 20 = .ok (.ireturn, 1) := by decide +kernel
theorem dX7_value_0 : decode cX7_value 0 = .ok (.iload_n 1, 1) := by decide +kernel
theorem dX7_value_1 : decode cX7_value 1 = .ok (.tableswitch 84 0 5 #[39, 47, 58, 66, 74, 79], 39) := by decide +kernel
theorem dX7_value_40 : decode cX7_value 40 = .ok (.aload_n 0, 1) := by decide +kernel
theorem dX7_value_41 : decode cX7_value 41 = .ok (.getfield 10, 3) := by decide +kernel
theorem dX7_value_44 : decode cX7_value 44 = .ok (.getfield 93, 3) := by decide +kernel
theorem dX7_value_47 : decode cX7_value 47 = .ok (.ireturn, 1) := by decide +kernel
theorem dX7_value_48 : decode cX7_value 48 = .ok (.aload_n 0, 1) := by decide +kernel
theorem dX7_value_49 : decode cX7_value 49 = .ok (.getfield 10, 3) := by decide +kernel
theorem dX7_value_52 : decode cX7_value 52 = .ok (.getfield 93, 3) := by decide +kernel
theorem dX7_value_55 : decode cX7_value 55 = .ok (.invokestatic 96, 3) := by decide +kernel
theorem dX7_value_58 : decode cX7_value 58 = .ok (.ireturn, 1) := by decide +kernel
theorem dX7_value_59 : decode cX7_value 59 = .ok (.aload_n 0, 1) := by decide +kernel
theorem dX7_value_60 : decode cX7_value 60 = .ok (.getfield 10, 3) := by decide +kernel
theorem dX7_value_63 : decode cX7_value 63 = .ok (.getfield 133, 3) := by decide +kernel
theorem dX7_value_66 : decode cX7_value 66 = .ok (.ireturn, 1) := by decide +kernel
theorem dX7_value_67 : decode cX7_value 67 = .ok (.aload_n 0, 1) := by decide +kernel
theorem dX7_value_68 : decode cX7_value 68 = .ok (.getfield 10, 3) := by decide +kernel
theorem dX7_value_71 : decode cX7_value 71 = .ok (.getfield 160, 3) := by decide +kernel
theorem dX7_value_74 : decode cX7_value 74 = .ok (.ireturn, 1) := by decide +kernel
theorem dX7_value_75 : decode cX7_value 75 = .ok (.aload_n 0, 1) := by decide +kernel
theorem dX7_value_76 : decode cX7_value 76 = .ok (.invokevirtual 186, 3) := by decide +kernel
theorem dX7_value_79 : decode cX7_value 79 = .ok (.ireturn, 1) := by decide +kernel
theorem dX7_value_80 : decode cX7_value 80 = .ok (.aload_n 0, 1) := by decide +kernel
theorem dX7_value_81 : decode cX7_value 81 = .ok (.invokevirtual 190, 3) := by decide +kernel
theorem dX7_value_84 : decode cX7_value 84 = .ok (.ireturn, 1) := by decide +kernel
theorem dX7_value_85 : decode cX7_value 85 = .ok (.new 86, 3) := by decide +kernel
theorem dX7_value_88 : decode cX7_value 88 = .ok (.dup, 1) := by decide +kernel
theorem dX7_value_89 : decode cX7_value 89 = .ok (.ldc 193, 2) := by decide +kernel
theorem dX7_value_91 : decode cX7_value 91 = .ok (.invokespecial 90, 3) := by decide +kernel
theorem dX7_value_94 : decode cX7_value 94 = .ok (.athrow, 1) := by decide +kernel
theorem dX7_needRegister_0 : decode cX7_needRegister 0 = .ok (.iload_n 0, 1) := by decide +kernel
theorem dX7_needRegister_1 : decode cX7_needRegister 1 = .ok (.ifCond .lt 9, 3) := by decide +kernel
theorem dX7_needRegister_4 : decode cX7_needRegister 4 = .ok (.iload_n 0, 1) := by decide +kernel
theorem dX7_needRegister_5 : decode cX7_needRegister 5 = .ok (.bipush 8, 2) := by decide +kernel
theorem dX7_needRegister_7 : decode cX7_needRegister 7 = .ok (.if_icmp .lt 14, 3) := by decide +kernel
theorem dX7_needRegister_10 : decode cX7_needRegister 10 = .ok (.new 100, 3) := by decide +kernel
theorem dX7_needRegister_13 : decode cX7_needRegister 13 = .ok (.dup, 1) := by decide +kernel
theorem dX7_needRegister_14 : decode cX7_needRegister 14 = .ok (.ldc_w 270, 3) := by decide +kernel
theorem dX7_needRegister_17 : decode cX7_needRegister 17 = .ok (.invokespecial 104, 3) := by decide +kernel
theorem dX7_needRegister_20 : decode cX7_needRegister 20 = .ok (.athrow, 1) := by decide +kernel
theorem dX7_needRegister_21 : decode cX7_needRegister 21 = .ok (.return_, 1) := by decide +kernel
theorem dX7_needIndex_0 : decode cX7_needIndex 0 = .ok (.iload_n 0, 1) := by decide +kernel
theorem dX7_needIndex_1 : decode cX7_needIndex 1 = .ok (.ifCond .lt 9, 3) := by decide +kernel
theorem dX7_needIndex_4 : decode cX7_needIndex 4 = .ok (.iload_n 0, 1) := by decide +kernel
theorem dX7_needIndex_5 : decode cX7_needIndex 5 = .ok (.bipush 8, 2) := by decide +kernel
theorem dX7_needIndex_7 : decode cX7_needIndex 7 = .ok (.if_icmp .lt 14, 3) := by decide +kernel
theorem dX7_needIndex_10 : decode cX7_needIndex 10 = .ok (.new 100, 3) := by decide +kernel
theorem dX7_needIndex_13 : decode cX7_needIndex 13 = .ok (.dup, 1) := by decide +kernel
theorem dX7_needIndex_14 : decode cX7_needIndex 14 = .ok (.ldc_w 272, 3) := by decide +kernel
theorem dX7_needIndex_17 : decode cX7_needIndex 17 = .ok (.invokespecial 104, 3) := by decide +kernel
theorem dX7_needIndex_20 : decode cX7_needIndex 20 = .ok (.athrow, 1) := by decide +kernel
theorem dX7_needIndex_21 : decode cX7_needIndex 21 = .ok (.return_, 1) := by decide +kernel
theorem dX7_needHalves_0 : decode cX7_needHalves 0 = .ok (.iload_n 0, 1) := by decide +kernel
theorem dX7_needHalves_1 : decode cX7_needHalves 1 = .ok (.sipush (-2000), 3) := by decide +kernel
theorem dX7_needHalves_4 : decode cX7_needHalves 4 = .ok (.if_icmp .lt 10, 3) := by decide +kernel
theorem dX7_needHalves_7 : decode cX7_needHalves 7 = .ok (.iload_n 0, 1) := by decide +kernel
theorem dX7_needHalves_8 : decode cX7_needHalves 8 = .ok (.sipush 2000, 3) := by decide +kernel
theorem dX7_needHalves_11 : decode cX7_needHalves 11 = .ok (.if_icmp .le 14, 3) := by decide +kernel
theorem dX7_needHalves_14 : decode cX7_needHalves 14 = .ok (.new 86, 3) := by decide +kernel
theorem dX7_needHalves_17 : decode cX7_needHalves 17 = .ok (.dup, 1) := by decide +kernel
theorem dX7_needHalves_18 : decode cX7_needHalves 18 = .ok (.ldc_w 274, 3) := by decide +kernel
theorem dX7_needHalves_21 : decode cX7_needHalves 21 = .ok (.invokespecial 90, 3) := by decide +kernel
theorem dX7_needHalves_24 : decode cX7_needHalves 24 = .ok (.athrow, 1) := by decide +kernel
theorem dX7_needHalves_25 : decode cX7_needHalves 25 = .ok (.return_, 1) := by decide +kernel
theorem dX7_needFit_0 : decode cX7_needFit 0 = .ok (.iload_n 0, 1) := by decide +kernel
theorem dX7_needFit_1 : decode cX7_needFit 1 = .ok (.ifCond .ne 14, 3) := by decide +kernel
theorem dX7_needFit_4 : decode cX7_needFit 4 = .ok (.new 276, 3) := by decide +kernel
theorem dX7_needFit_7 : decode cX7_needFit 7 = .ok (.dup, 1) := by decide +kernel
theorem dX7_needFit_8 : decode cX7_needFit 8 = .ok (.ldc_w 278, 3) := by decide +kernel
theorem dX7_needFit_11 : decode cX7_needFit 11 = .ok (.invokespecial 280, 3) := by decide +kernel
theorem dX7_needFit_14 : decode cX7_needFit 14 = .ok (.athrow, 1) := by decide +kernel
theorem dX7_needFit_15 : decode cX7_needFit 15 = .ok (.return_, 1) := by decide +kernel
theorem dX7_needDivisible_0 : decode cX7_needDivisible 0 = .ok (.aload_n 0, 1) := by decide +kernel
theorem dX7_needDivisible_1 : decode cX7_needDivisible 1 = .ok (.iload_n 1, 1) := by decide +kernel
theorem dX7_needDivisible_2 : decode cX7_needDivisible 2 = .ok (.invokevirtual 281, 3) := by decide +kernel
theorem dX7_needDivisible_5 : decode cX7_needDivisible 5 = .ok (.ifCond .eq 26, 3) := by decide +kernel
theorem dX7_needDivisible_8 : decode cX7_needDivisible 8 = .ok (.aload_n 0, 1) := by decide +kernel
theorem dX7_needDivisible_9 : decode cX7_needDivisible 9 = .ok (.iload_n 2, 1) := by decide +kernel
theorem dX7_needDivisible_10 : decode cX7_needDivisible 10 = .ok (.invokevirtual 281, 3) := by decide +kernel
theorem dX7_needDivisible_13 : decode cX7_needDivisible 13 = .ok (.ifCond .eq 18, 3) := by decide +kernel
theorem dX7_needDivisible_16 : decode cX7_needDivisible 16 = .ok (.aload_n 0, 1) := by decide +kernel
theorem dX7_needDivisible_17 : decode cX7_needDivisible 17 = .ok (.getfield 10, 3) := by decide +kernel
theorem dX7_needDivisible_20 : decode cX7_needDivisible 20 = .ok (.getfield 78, 3) := by decide +kernel
theorem dX7_needDivisible_23 : decode cX7_needDivisible 23 = .ok (.iload_n 2, 1) := by decide +kernel
theorem dX7_needDivisible_24 : decode cX7_needDivisible 24 = .ok (.aaload, 1) := by decide +kernel
theorem dX7_needDivisible_25 : decode cX7_needDivisible 25 = .ok (.invokestatic 285, 3) := by decide +kernel
theorem dX7_needDivisible_28 : decode cX7_needDivisible 28 = .ok (.ifCond .eq 14, 3) := by decide +kernel
theorem dX7_needDivisible_31 : decode cX7_needDivisible 31 = .ok (.new 230, 3) := by decide +kernel
theorem dX7_needDivisible_34 : decode cX7_needDivisible 34 = .ok (.dup, 1) := by decide +kernel
theorem dX7_needDivisible_35 : decode cX7_needDivisible 35 = .ok (.ldc_w 288, 3) := by decide +kernel
theorem dX7_needDivisible_38 : decode cX7_needDivisible 38 = .ok (.invokespecial 234, 3) := by decide +kernel
theorem dX7_needDivisible_41 : decode cX7_needDivisible 41 = .ok (.athrow, 1) := by decide +kernel
theorem dX7_needDivisible_42 : decode cX7_needDivisible 42 = .ok (.return_, 1) := by decide +kernel
theorem dX7_presentUnits_0 : decode cX7_presentUnits 0 = .ok (.aload_n 0, 1) := by decide +kernel
theorem dX7_presentUnits_1 : decode cX7_presentUnits 1 = .ok (.getfield 26, 3) := by decide +kernel
theorem dX7_presentUnits_4 : decode cX7_presentUnits 4 = .ok (.aload_n 0, 1) := by decide +kernel
theorem dX7_presentUnits_5 : decode cX7_presentUnits 5 = .ok (.getfield 10, 3) := by decide +kernel
theorem dX7_presentUnits_8 : decode cX7_presentUnits 8 = .ok (.getfield 93, 3) := by decide +kernel
theorem dX7_presentUnits_11 : decode cX7_presentUnits 11 = .ok (.aaload, 1) := by decide +kernel
theorem dX7_presentUnits_12 : decode cX7_presentUnits 12 = .ok (.ifnonnull 29, 3) := by decide +kernel
theorem dX7_presentUnits_15 : decode cX7_presentUnits 15 = .ok (.aload_n 0, 1) := by decide +kernel
theorem dX7_presentUnits_16 : decode cX7_presentUnits 16 = .ok (.getfield 26, 3) := by decide +kernel
theorem dX7_presentUnits_19 : decode cX7_presentUnits 19 = .ok (.aload_n 0, 1) := by decide +kernel
theorem dX7_presentUnits_20 : decode cX7_presentUnits 20 = .ok (.getfield 10, 3) := by decide +kernel
theorem dX7_presentUnits_23 : decode cX7_presentUnits 23 = .ok (.getfield 93, 3) := by decide +kernel
theorem dX7_presentUnits_26 : decode cX7_presentUnits 26 = .ok (.new 24, 3) := by decide +kernel
theorem dX7_presentUnits_29 : decode cX7_presentUnits 29 = .ok (.dup, 1) := by decide +kernel
theorem dX7_presentUnits_30 : decode cX7_presentUnits 30 = .ok (.aload_n 0, 1) := by decide +kernel
theorem dX7_presentUnits_31 : decode cX7_presentUnits 31 = .ok (.getfield 10, 3) := by decide +kernel
theorem dX7_presentUnits_34 : decode cX7_presentUnits 34 = .ok (.getfield 93, 3) := by decide +kernel
theorem dX7_presentUnits_37 : decode cX7_presentUnits 37 = .ok (.invokespecial 290, 3) := by decide +kernel
theorem dX7_presentUnits_40 : decode cX7_presentUnits 40 = .ok (.aastore, 1) := by decide +kernel
theorem dX7_presentUnits_41 : decode cX7_presentUnits 41 = .ok (.aload_n 0, 1) := by decide +kernel
theorem dX7_presentUnits_42 : decode cX7_presentUnits 42 = .ok (.getfield 26, 3) := by decide +kernel
theorem dX7_presentUnits_45 : decode cX7_presentUnits 45 = .ok (.aload_n 0, 1) := by decide +kernel
theorem dX7_presentUnits_46 : decode cX7_presentUnits 46 = .ok (.getfield 10, 3) := by decide +kernel
theorem dX7_presentUnits_49 : decode cX7_presentUnits 49 = .ok (.getfield 93, 3) := by decide +kernel
theorem dX7_presentUnits_52 : decode cX7_presentUnits 52 = .ok (.aaload, 1) := by decide +kernel
theorem dX7_presentUnits_53 : decode cX7_presentUnits 53 = .ok (.areturn, 1) := by decide +kernel
theorem dX7_isInOrder_0 : decode cX7_isInOrder 0 = .ok (.aload_n 0, 1) := by decide +kernel
theorem dX7_isInOrder_1 : decode cX7_isInOrder 1 = .ok (.getfield 10, 3) := by decide +kernel
theorem dX7_isInOrder_4 : decode cX7_isInOrder 4 = .ok (.getfield 93, 3) := by decide +kernel
theorem dX7_isInOrder_7 : decode cX7_isInOrder 7 = .ok (.aload_n 0, 1) := by decide +kernel
theorem dX7_isInOrder_8 : decode cX7_isInOrder 8 = .ok (.getfield 10, 3) := by decide +kernel
theorem dX7_isInOrder_11 : decode cX7_isInOrder 11 = .ok (.getfield 78, 3) := by decide +kernel
theorem dX7_isInOrder_14 : decode cX7_isInOrder 14 = .ok (.iload_n 1, 1) := by decide +kernel
theorem dX7_isInOrder_15 : decode cX7_isInOrder 15 = .ok (.aaload, 1) := by decide +kernel
theorem dX7_isInOrder_16 : decode cX7_isInOrder 16 = .ok (.invokestatic 170, 3) := by decide +kernel
theorem dX7_isInOrder_19 : decode cX7_isInOrder 19 = .ok (.invokestatic 174, 3) := by decide +kernel
theorem dX7_isInOrder_22 : decode cX7_isInOrder 22 = .ok (.ireturn, 1) := by decide +kernel
theorem dX7_registersInOrder_0 : decode cX7_registersInOrder 0 = .ok (.iconst 0, 1) := by decide +kernel
theorem dX7_registersInOrder_1 : decode cX7_registersInOrder 1 = .ok (.istore_n 1, 1) := by decide +kernel
theorem dX7_registersInOrder_2 : decode cX7_registersInOrder 2 = .ok (.iconst 0, 1) := by decide +kernel
theorem dX7_registersInOrder_3 : decode cX7_registersInOrder 3 = .ok (.istore_n 2, 1) := by decide +kernel
theorem dX7_registersInOrder_4 : decode cX7_registersInOrder 4 = .ok (.iload_n 2, 1) := by decide +kernel
theorem dX7_registersInOrder_5 : decode cX7_registersInOrder 5 = .ok (.bipush 8, 2) := by decide +kernel
theorem dX7_registersInOrder_7 : decode cX7_registersInOrder 7 = .ok (.if_icmp .ge 20, 3) := by decide +kernel
theorem dX7_registersInOrder_10 : decode cX7_registersInOrder 10 = .ok (.aload_n 0, 1) := by decide +kernel
theorem dX7_registersInOrder_11 : decode cX7_registersInOrder 11 = .ok (.iload_n 2, 1) := by decide +kernel
theorem dX7_registersInOrder_12 : decode cX7_registersInOrder 12 = .ok (.invokevirtual 281, 3) := by decide +kernel
theorem dX7_registersInOrder_15 : decode cX7_registersInOrder 15 = .ok (.ifCond .eq 6, 3) := by decide +kernel
theorem dX7_registersInOrder_18 : decode cX7_registersInOrder 18 = .ok (.iinc 1 1, 3) := by decide +kernel
theorem dX7_registersInOrder_21 : decode cX7_registersInOrder 21 = .ok (.iinc 2 1, 3) := by decide +kernel
theorem dX7_registersInOrder_24 : decode cX7_registersInOrder 24 = .ok (.goto (-20), 3) := by decide +kernel
theorem dX7_registersInOrder_27 : decode cX7_registersInOrder 27 = .ok (.iload_n 1, 1) := by decide +kernel
theorem dX7_registersInOrder_28 : decode cX7_registersInOrder 28 = .ok (.ireturn, 1) := by decide +kernel
theorem dX7_zeroRegisters_0 : decode cX7_zeroRegisters 0 = .ok (.iconst 0, 1) := by decide +kernel
theorem dX7_zeroRegisters_1 : decode cX7_zeroRegisters 1 = .ok (.istore_n 1, 1) := by decide +kernel
theorem dX7_zeroRegisters_2 : decode cX7_zeroRegisters 2 = .ok (.iconst 0, 1) := by decide +kernel
theorem dX7_zeroRegisters_3 : decode cX7_zeroRegisters 3 = .ok (.istore_n 2, 1) := by decide +kernel
theorem dX7_zeroRegisters_4 : decode cX7_zeroRegisters 4 = .ok (.iload_n 2, 1) := by decide +kernel
theorem dX7_zeroRegisters_5 : decode cX7_zeroRegisters 5 = .ok (.bipush 8, 2) := by decide +kernel
theorem dX7_zeroRegisters_7 : decode cX7_zeroRegisters 7 = .ok (.if_icmp .ge 27, 3) := by decide +kernel
theorem dX7_zeroRegisters_10 : decode cX7_zeroRegisters 10 = .ok (.aload_n 0, 1) := by decide +kernel
theorem dX7_zeroRegisters_11 : decode cX7_zeroRegisters 11 = .ok (.getfield 10, 3) := by decide +kernel
theorem dX7_zeroRegisters_14 : decode cX7_zeroRegisters 14 = .ok (.getfield 78, 3) := by decide +kernel
theorem dX7_zeroRegisters_17 : decode cX7_zeroRegisters 17 = .ok (.iload_n 2, 1) := by decide +kernel
theorem dX7_zeroRegisters_18 : decode cX7_zeroRegisters 18 = .ok (.aaload, 1) := by decide +kernel
theorem dX7_zeroRegisters_19 : decode cX7_zeroRegisters 19 = .ok (.invokestatic 285, 3) := by decide +kernel
theorem dX7_zeroRegisters_22 : decode cX7_zeroRegisters 22 = .ok (.ifCond .eq 6, 3) := by decide +kernel
theorem dX7_zeroRegisters_25 : decode cX7_zeroRegisters 25 = .ok (.iinc 1 1, 3) := by decide +kernel
theorem dX7_zeroRegisters_28 : decode cX7_zeroRegisters 28 = .ok (.iinc 2 1, 3) := by decide +kernel
theorem dX7_zeroRegisters_31 : decode cX7_zeroRegisters 31 = .ok (.goto (-27), 3) := by decide +kernel
theorem dX7_zeroRegisters_34 : decode cX7_zeroRegisters 34 = .ok (.iload_n 1, 1) := by decide +kernel
theorem dX7_zeroRegisters_35 : decode cX7_zeroRegisters 35 = .ok (.ireturn, 1) := by decide +kernel
theorem dX7_workAssociator_0 : decode cX7_workAssociator 0 = .ok (.aload_n 0, 1) := by decide +kernel
theorem dX7_workAssociator_1 : decode cX7_workAssociator 1 = .ok (.getfield 10, 3) := by decide +kernel
theorem dX7_workAssociator_4 : decode cX7_workAssociator 4 = .ok (.getfield 78, 3) := by decide +kernel
theorem dX7_workAssociator_7 : decode cX7_workAssociator 7 = .ok (.iload_n 1, 1) := by decide +kernel
theorem dX7_workAssociator_8 : decode cX7_workAssociator 8 = .ok (.aaload, 1) := by decide +kernel
theorem dX7_workAssociator_9 : decode cX7_workAssociator 9 = .ok (.aload_n 0, 1) := by decide +kernel
theorem dX7_workAssociator_10 : decode cX7_workAssociator 10 = .ok (.getfield 10, 3) := by decide +kernel
theorem dX7_workAssociator_13 : decode cX7_workAssociator 13 = .ok (.getfield 78, 3) := by decide +kernel
theorem dX7_workAssociator_16 : decode cX7_workAssociator 16 = .ok (.iload_n 2, 1) := by decide +kernel
theorem dX7_workAssociator_17 : decode cX7_workAssociator 17 = .ok (.aaload, 1) := by decide +kernel
theorem dX7_workAssociator_18 : decode cX7_workAssociator 18 = .ok (.aload_n 0, 1) := by decide +kernel
theorem dX7_workAssociator_19 : decode cX7_workAssociator 19 = .ok (.getfield 62, 3) := by decide +kernel
theorem dX7_workAssociator_22 : decode cX7_workAssociator 22 = .ok (.invokestatic 129, 3) := by decide +kernel
theorem dX7_workAssociator_25 : decode cX7_workAssociator 25 = .ok (.aload_n 0, 1) := by decide +kernel
theorem dX7_workAssociator_26 : decode cX7_workAssociator 26 = .ok (.getfield 62, 3) := by decide +kernel
theorem dX7_workAssociator_29 : decode cX7_workAssociator 29 = .ok (.aload_n 0, 1) := by decide +kernel
theorem dX7_workAssociator_30 : decode cX7_workAssociator 30 = .ok (.getfield 10, 3) := by decide +kernel
theorem dX7_workAssociator_33 : decode cX7_workAssociator 33 = .ok (.getfield 78, 3) := by decide +kernel
theorem dX7_workAssociator_36 : decode cX7_workAssociator 36 = .ok (.iload_n 3, 1) := by decide +kernel
theorem dX7_workAssociator_37 : decode cX7_workAssociator 37 = .ok (.aaload, 1) := by decide +kernel
theorem dX7_workAssociator_38 : decode cX7_workAssociator 38 = .ok (.aload_n 0, 1) := by decide +kernel
theorem dX7_workAssociator_39 : decode cX7_workAssociator 39 = .ok (.getfield 55, 3) := by decide +kernel
theorem dX7_workAssociator_42 : decode cX7_workAssociator 42 = .ok (.invokestatic 129, 3) := by decide +kernel
theorem dX7_workAssociator_45 : decode cX7_workAssociator 45 = .ok (.aload_n 0, 1) := by decide +kernel
theorem dX7_workAssociator_46 : decode cX7_workAssociator 46 = .ok (.getfield 10, 3) := by decide +kernel
theorem dX7_workAssociator_49 : decode cX7_workAssociator 49 = .ok (.getfield 78, 3) := by decide +kernel
theorem dX7_workAssociator_52 : decode cX7_workAssociator 52 = .ok (.iload_n 2, 1) := by decide +kernel
theorem dX7_workAssociator_53 : decode cX7_workAssociator 53 = .ok (.aaload, 1) := by decide +kernel
theorem dX7_workAssociator_54 : decode cX7_workAssociator 54 = .ok (.aload_n 0, 1) := by decide +kernel
theorem dX7_workAssociator_55 : decode cX7_workAssociator 55 = .ok (.getfield 10, 3) := by decide +kernel
theorem dX7_workAssociator_58 : decode cX7_workAssociator 58 = .ok (.getfield 78, 3) := by decide +kernel
theorem dX7_workAssociator_61 : decode cX7_workAssociator 61 = .ok (.iload_n 3, 1) := by decide +kernel
theorem dX7_workAssociator_62 : decode cX7_workAssociator 62 = .ok (.aaload, 1) := by decide +kernel
theorem dX7_workAssociator_63 : decode cX7_workAssociator 63 = .ok (.aload_n 0, 1) := by decide +kernel
theorem dX7_workAssociator_64 : decode cX7_workAssociator 64 = .ok (.getfield 62, 3) := by decide +kernel
theorem dX7_workAssociator_67 : decode cX7_workAssociator 67 = .ok (.invokestatic 129, 3) := by decide +kernel
theorem dX7_workAssociator_70 : decode cX7_workAssociator 70 = .ok (.aload_n 0, 1) := by decide +kernel
theorem dX7_workAssociator_71 : decode cX7_workAssociator 71 = .ok (.getfield 10, 3) := by decide +kernel
theorem dX7_workAssociator_74 : decode cX7_workAssociator 74 = .ok (.getfield 78, 3) := by decide +kernel
theorem dX7_workAssociator_77 : decode cX7_workAssociator 77 = .ok (.iload_n 1, 1) := by decide +kernel
theorem dX7_workAssociator_78 : decode cX7_workAssociator 78 = .ok (.aaload, 1) := by decide +kernel
theorem dX7_workAssociator_79 : decode cX7_workAssociator 79 = .ok (.aload_n 0, 1) := by decide +kernel
theorem dX7_workAssociator_80 : decode cX7_workAssociator 80 = .ok (.getfield 62, 3) := by decide +kernel
theorem dX7_workAssociator_83 : decode cX7_workAssociator 83 = .ok (.aload_n 0, 1) := by decide +kernel
theorem dX7_workAssociator_84 : decode cX7_workAssociator 84 = .ok (.getfield 59, 3) := by decide +kernel
theorem dX7_workAssociator_87 : decode cX7_workAssociator 87 = .ok (.invokestatic 129, 3) := by decide +kernel
theorem dX7_workAssociator_90 : decode cX7_workAssociator 90 = .ok (.aload_n 0, 1) := by decide +kernel
theorem dX7_workAssociator_91 : decode cX7_workAssociator 91 = .ok (.getfield 55, 3) := by decide +kernel
theorem dX7_workAssociator_94 : decode cX7_workAssociator 94 = .ok (.aload_n 0, 1) := by decide +kernel
theorem dX7_workAssociator_95 : decode cX7_workAssociator 95 = .ok (.getfield 59, 3) := by decide +kernel
theorem dX7_workAssociator_98 : decode cX7_workAssociator 98 = .ok (.iconst 1, 1) := by decide +kernel
theorem dX7_workAssociator_99 : decode cX7_workAssociator 99 = .ok (.aload_n 0, 1) := by decide +kernel
theorem dX7_workAssociator_100 : decode cX7_workAssociator 100 = .ok (.getfield 55, 3) := by decide +kernel
theorem dX7_workAssociator_103 : decode cX7_workAssociator 103 = .ok (.invokestatic 113, 3) := by decide +kernel
theorem dX7_workAssociator_106 : decode cX7_workAssociator 106 = .ok (.return_, 1) := by decide +kernel
theorem dX7_put_0 : decode cX7_put 0 = .ok (.aload_n 0, 1) := by decide +kernel
theorem dX7_put_1 : decode cX7_put 1 = .ok (.getfield 55, 3) := by decide +kernel
theorem dX7_put_4 : decode cX7_put 4 = .ok (.aload_n 0, 1) := by decide +kernel
theorem dX7_put_5 : decode cX7_put 5 = .ok (.getfield 10, 3) := by decide +kernel
theorem dX7_put_8 : decode cX7_put 8 = .ok (.getfield 78, 3) := by decide +kernel
theorem dX7_put_11 : decode cX7_put 11 = .ok (.iload_n 1, 1) := by decide +kernel
theorem dX7_put_12 : decode cX7_put 12 = .ok (.aaload, 1) := by decide +kernel
theorem dX7_put_13 : decode cX7_put 13 = .ok (.invokestatic 163, 3) := by decide +kernel
theorem dX7_put_16 : decode cX7_put 16 = .ok (.aload_n 0, 1) := by decide +kernel
theorem dX7_put_17 : decode cX7_put 17 = .ok (.getfield 55, 3) := by decide +kernel
theorem dX7_put_20 : decode cX7_put 20 = .ok (.invokestatic 82, 3) := by decide +kernel
theorem dX7_put_23 : decode cX7_put 23 = .ok (.lreturn, 1) := by decide +kernel
theorem dX7_saveState_0 : decode cX7_saveState 0 = .ok (.aload_n 0, 1) := by decide +kernel
theorem dX7_saveState_1 : decode cX7_saveState 1 = .ok (.getfield 20, 3) := by decide +kernel
theorem dX7_saveState_4 : decode cX7_saveState 4 = .ok (.iconst 4, 1) := by decide +kernel
theorem dX7_saveState_5 : decode cX7_saveState 5 = .ok (.if_icmp .ne 54, 3) := by decide +kernel
theorem dX7_saveState_8 : decode cX7_saveState 8 = .ok (.aload_n 0, 1) := by decide +kernel
theorem dX7_saveState_9 : decode cX7_saveState 9 = .ok (.getfield 16, 3) := by decide +kernel
theorem dX7_saveState_12 : decode cX7_saveState 12 = .ok (.iconst 0, 1) := by decide +kernel
theorem dX7_saveState_13 : decode cX7_saveState 13 = .ok (.aaload, 1) := by decide +kernel
theorem dX7_saveState_14 : decode cX7_saveState 14 = .ok (.astore_n 1, 1) := by decide +kernel
theorem dX7_saveState_15 : decode cX7_saveState 15 = .ok (.iconst 1, 1) := by decide +kernel
theorem dX7_saveState_16 : decode cX7_saveState 16 = .ok (.istore_n 2, 1) := by decide +kernel
theorem dX7_saveState_17 : decode cX7_saveState 17 = .ok (.iload_n 2, 1) := by decide +kernel
theorem dX7_saveState_18 : decode cX7_saveState 18 = .ok (.iconst 4, 1) := by decide +kernel
theorem dX7_saveState_19 : decode cX7_saveState 19 = .ok (.if_icmp .ge 23, 3) := by decide +kernel
theorem dX7_saveState_22 : decode cX7_saveState 22 = .ok (.aload_n 0, 1) := by decide +kernel
theorem dX7_saveState_23 : decode cX7_saveState 23 = .ok (.getfield 16, 3) := by decide +kernel
theorem dX7_saveState_26 : decode cX7_saveState 26 = .ok (.iload_n 2, 1) := by decide +kernel
theorem dX7_saveState_27 : decode cX7_saveState 27 = .ok (.iconst 1, 1) := by decide +kernel
theorem dX7_saveState_28 : decode cX7_saveState 28 = .ok (.isub, 1) := by decide +kernel
theorem dX7_saveState_29 : decode cX7_saveState 29 = .ok (.aload_n 0, 1) := by decide +kernel
theorem dX7_saveState_30 : decode cX7_saveState 30 = .ok (.getfield 16, 3) := by decide +kernel
theorem dX7_saveState_33 : decode cX7_saveState 33 = .ok (.iload_n 2, 1) := by decide +kernel
theorem dX7_saveState_34 : decode cX7_saveState 34 = .ok (.aaload, 1) := by decide +kernel
theorem dX7_saveState_35 : decode cX7_saveState 35 = .ok (.aastore, 1) := by decide +kernel
theorem dX7_saveState_36 : decode cX7_saveState 36 = .ok (.iinc 2 1, 3) := by decide +kernel
theorem dX7_saveState_39 : decode cX7_saveState 39 = .ok (.goto (-22), 3) := by decide +kernel
theorem dX7_saveState_42 : decode cX7_saveState 42 = .ok (.aload_n 0, 1) := by decide +kernel
theorem dX7_saveState_43 : decode cX7_saveState 43 = .ok (.getfield 16, 3) := by decide +kernel
theorem dX7_saveState_46 : decode cX7_saveState 46 = .ok (.iconst 3, 1) := by decide +kernel
theorem dX7_saveState_47 : decode cX7_saveState 47 = .ok (.aload_n 1, 1) := by decide +kernel
theorem dX7_saveState_48 : decode cX7_saveState 48 = .ok (.aastore, 1) := by decide +kernel
theorem dX7_saveState_49 : decode cX7_saveState 49 = .ok (.aload_n 0, 1) := by decide +kernel
theorem dX7_saveState_50 : decode cX7_saveState 50 = .ok (.dup, 1) := by decide +kernel
theorem dX7_saveState_51 : decode cX7_saveState 51 = .ok (.getfield 20, 3) := by decide +kernel
theorem dX7_saveState_54 : decode cX7_saveState 54 = .ok (.iconst 1, 1) := by decide +kernel
theorem dX7_saveState_55 : decode cX7_saveState 55 = .ok (.isub, 1) := by decide +kernel
theorem dX7_saveState_56 : decode cX7_saveState 56 = .ok (.putfield 20, 3) := by decide +kernel
theorem dX7_saveState_59 : decode cX7_saveState 59 = .ok (.aload_n 0, 1) := by decide +kernel
theorem dX7_saveState_60 : decode cX7_saveState 60 = .ok (.getfield 16, 3) := by decide +kernel
theorem dX7_saveState_63 : decode cX7_saveState 63 = .ok (.aload_n 0, 1) := by decide +kernel
theorem dX7_saveState_64 : decode cX7_saveState 64 = .ok (.getfield 20, 3) := by decide +kernel
theorem dX7_saveState_67 : decode cX7_saveState 67 = .ok (.aaload, 1) := by decide +kernel
theorem dX7_saveState_68 : decode cX7_saveState 68 = .ok (.aload_n 0, 1) := by decide +kernel
theorem dX7_saveState_69 : decode cX7_saveState 69 = .ok (.getfield 10, 3) := by decide +kernel
theorem dX7_saveState_72 : decode cX7_saveState 72 = .ok (.invokevirtual 249, 3) := by decide +kernel
theorem dX7_saveState_75 : decode cX7_saveState 75 = .ok (.aload_n 0, 1) := by decide +kernel
theorem dX7_saveState_76 : decode cX7_saveState 76 = .ok (.dup, 1) := by decide +kernel
theorem dX7_saveState_77 : decode cX7_saveState 77 = .ok (.getfield 20, 3) := by decide +kernel
theorem dX7_saveState_80 : decode cX7_saveState 80 = .ok (.iconst 1, 1) := by decide +kernel
theorem dX7_saveState_81 : decode cX7_saveState 81 = .ok (.iadd, 1) := by decide +kernel
theorem dX7_saveState_82 : decode cX7_saveState 82 = .ok (.putfield 20, 3) := by decide +kernel
theorem dX7_saveState_85 : decode cX7_saveState 85 = .ok (.return_, 1) := by decide +kernel
