theorem dL_set_0 : decode cL_set 0 = .ok (.aload 4, 2) := by decide +kernel
theorem dL_set_2 : decode cL_set 2 = .ok (.iconst 0, 1) := by decide +kernel
theorem dL_set_3 : decode cL_set 3 = .ok (.aload_n 0, 1) := by decide +kernel
theorem dL_set_4 : decode cL_set 4 = .ok (.iload_n 1, 1) := by decide +kernel
theorem dL_set_5 : decode cL_set 5 = .ok (.iload_n 2, 1) := by decide +kernel
theorem dL_set_6 : decode cL_set 6 = .ok (.iload_n 3, 1) := by decide +kernel
theorem dL_set_7 : decode cL_set 7 = .ok (.invokevirtual 7, 3) := by decide +kernel
theorem dL_set_10 : decode cL_set 10 = .ok (.i2l, 1) := by decide +kernel
theorem dL_set_11 : decode cL_set 11 = .ok (.lastore, 1) := by decide +kernel
theorem dL_set_12 : decode cL_set 12 = .ok (.goto 11, 3) := by decide +kernel
theorem dL_set_15 : decode cL_set 15 = .ok (.astore 5, 2) := by decide +kernel
theorem dL_set_17 : decode cL_set 17 = .ok (.iconst 1, 1) := by decide +kernel
theorem dL_set_18 : decode cL_set 18 = .ok (.ireturn, 1) := by decide +kernel
theorem dL_set_19 : decode cL_set 19 = .ok (.astore 5, 2) := by decide +kernel
theorem dL_set_21 : decode cL_set 21 = .ok (.iconst 2, 1) := by decide +kernel
theorem dL_set_22 : decode cL_set 22 = .ok (.ireturn, 1) := by decide +kernel
theorem dL_set_23 : decode cL_set 23 = .ok (.iconst 0, 1) := by decide +kernel
theorem dL_set_24 : decode cL_set 24 = .ok (.ireturn, 1) := by decide +kernel
theorem dL_setFour_0 : decode cL_setFour 0 = .ok (.aload 7, 2) := by decide +kernel
theorem dL_setFour_2 : decode cL_setFour 2 = .ok (.iconst 0, 1) := by decide +kernel
theorem dL_setFour_3 : decode cL_setFour 3 = .ok (.aload_n 0, 1) := by decide +kernel
theorem dL_setFour_4 : decode cL_setFour 4 = .ok (.iload_n 1, 1) := by decide +kernel
theorem dL_setFour_5 : decode cL_setFour 5 = .ok (.iload_n 2, 1) := by decide +kernel
theorem dL_setFour_6 : decode cL_setFour 6 = .ok (.iload_n 3, 1) := by decide +kernel
theorem dL_setFour_7 : decode cL_setFour 7 = .ok (.iload 4, 2) := by decide +kernel
theorem dL_setFour_9 : decode cL_setFour 9 = .ok (.iload 5, 2) := by decide +kernel
theorem dL_setFour_11 : decode cL_setFour 11 = .ok (.iload 6, 2) := by decide +kernel
theorem dL_setFour_13 : decode cL_setFour 13 = .ok (.invokevirtual 17, 3) := by decide +kernel
theorem dL_setFour_16 : decode cL_setFour 16 = .ok (.lastore, 1) := by decide +kernel
theorem dL_setFour_17 : decode cL_setFour 17 = .ok (.goto 11, 3) := by decide +kernel
theorem dL_setFour_20 : decode cL_setFour 20 = .ok (.astore 8, 2) := by decide +kernel
theorem dL_setFour_22 : decode cL_setFour 22 = .ok (.iconst 1, 1) := by decide +kernel
theorem dL_setFour_23 : decode cL_setFour 23 = .ok (.ireturn, 1) := by decide +kernel
theorem dL_setFour_24 : decode cL_setFour 24 = .ok (.astore 8, 2) := by decide +kernel
theorem dL_setFour_26 : decode cL_setFour 26 = .ok (.iconst 2, 1) := by decide +kernel
theorem dL_setFour_27 : decode cL_setFour 27 = .ok (.ireturn, 1) := by decide +kernel
theorem dL_setFour_28 : decode cL_setFour 28 = .ok (.iconst 0, 1) := by decide +kernel
theorem dL_setFour_29 : decode cL_setFour 29 = .ok (.ireturn, 1) := by decide +kernel
theorem dL_setOrder_0 : decode cL_setOrder 0 = .ok (.aload_n 2, 1) := by decide +kernel
theorem dL_setOrder_1 : decode cL_setOrder 1 = .ok (.iconst 0, 1) := by decide +kernel
theorem dL_setOrder_2 : decode cL_setOrder 2 = .ok (.aload_n 0, 1) := by decide +kernel
theorem dL_setOrder_3 : decode cL_setOrder 3 = .ok (.iload_n 1, 1) := by decide +kernel
theorem dL_setOrder_4 : decode cL_setOrder 4 = .ok (.invokevirtual 21, 3) := by decide +kernel
theorem dL_setOrder_7 : decode cL_setOrder 7 = .ok (.i2l, 1) := by decide +kernel
theorem dL_setOrder_8 : decode cL_setOrder 8 = .ok (.lastore, 1) := by decide +kernel
theorem dL_setOrder_9 : decode cL_setOrder 9 = .ok (.goto 6, 3) := by decide +kernel
theorem dL_setOrder_12 : decode cL_setOrder 12 = .ok (.astore_n 3, 1) := by decide +kernel
theorem dL_setOrder_13 : decode cL_setOrder 13 = .ok (.iconst 1, 1) := by decide +kernel
theorem dL_setOrder_14 : decode cL_setOrder 14 = .ok (.ireturn, 1) := by decide +kernel
theorem dL_setOrder_15 : decode cL_setOrder 15 = .ok (.iconst 0, 1) := by decide +kernel
theorem dL_setOrder_16 : decode cL_setOrder 16 = .ok (.ireturn, 1) := by decide +kernel
theorem dL_load_0 : decode cL_load 0 = .ok (.aload_n 3, 1) := by decide +kernel
theorem dL_load_1 : decode cL_load 1 = .ok (.iconst 0, 1) := by decide +kernel
theorem dL_load_2 : decode cL_load 2 = .ok (.aload_n 0, 1) := by decide +kernel
theorem dL_load_3 : decode cL_load 3 = .ok (.iload_n 1, 1) := by decide +kernel
theorem dL_load_4 : decode cL_load 4 = .ok (.iload_n 2, 1) := by decide +kernel
theorem dL_load_5 : decode cL_load 5 = .ok (.invokevirtual 25, 3) := by decide +kernel
theorem dL_load_8 : decode cL_load 8 = .ok (.i2l, 1) := by decide +kernel
theorem dL_load_9 : decode cL_load 9 = .ok (.lastore, 1) := by decide +kernel
theorem dL_load_10 : decode cL_load 10 = .ok (.goto 7, 3) := by decide +kernel
theorem dL_load_13 : decode cL_load 13 = .ok (.astore 4, 2) := by decide +kernel
theorem dL_load_15 : decode cL_load 15 = .ok (.iconst 1, 1) := by decide +kernel
theorem dL_load_16 : decode cL_load 16 = .ok (.ireturn, 1) := by decide +kernel
theorem dL_load_17 : decode cL_load 17 = .ok (.iconst 0, 1) := by decide +kernel
theorem dL_load_18 : decode cL_load 18 = .ok (.ireturn, 1) := by decide +kernel
theorem dL_add_0 : decode cL_add 0 = .ok (.aload 5, 2) := by decide +kernel
theorem dL_add_2 : decode cL_add 2 = .ok (.iconst 0, 1) := by decide +kernel
theorem dL_add_3 : decode cL_add 3 = .ok (.aload_n 0, 1) := by decide +kernel
theorem dL_add_4 : decode cL_add 4 = .ok (.iload_n 1, 1) := by decide +kernel
theorem dL_add_5 : decode cL_add 5 = .ok (.iload_n 2, 1) := by decide +kernel
theorem dL_add_6 : decode cL_add 6 = .ok (.iload_n 3, 1) := by decide +kernel
theorem dL_add_7 : decode cL_add 7 = .ok (.iload 4, 2) := by decide +kernel
theorem dL_add_9 : decode cL_add 9 = .ok (.invokevirtual 29, 3) := by decide +kernel
theorem dL_add_12 : decode cL_add 12 = .ok (.lastore, 1) := by decide +kernel
theorem dL_add_13 : decode cL_add 13 = .ok (.goto 11, 3) := by decide +kernel
theorem dL_add_16 : decode cL_add 16 = .ok (.astore 6, 2) := by decide +kernel
theorem dL_add_18 : decode cL_add 18 = .ok (.iconst 1, 1) := by decide +kernel
theorem dL_add_19 : decode cL_add 19 = .ok (.ireturn, 1) := by decide +kernel
theorem dL_add_20 : decode cL_add 20 = .ok (.astore 6, 2) := by decide +kernel
theorem dL_add_22 : decode cL_add 22 = .ok (.iconst 2, 1) := by decide +kernel
theorem dL_add_23 : decode cL_add 23 = .ok (.ireturn, 1) := by decide +kernel
theorem dL_add_24 : decode cL_add 24 = .ok (.iconst 0, 1) := by decide +kernel
theorem dL_add_25 : decode cL_add 25 = .ok (.ireturn, 1) := by decide +kernel
theorem dL_multiply_0 : decode cL_multiply 0 = .ok (.aload 4, 2) := by decide +kernel
theorem dL_multiply_2 : decode cL_multiply 2 = .ok (.iconst 0, 1) := by decide +kernel
theorem dL_multiply_3 : decode cL_multiply 3 = .ok (.aload_n 0, 1) := by decide +kernel
theorem dL_multiply_4 : decode cL_multiply 4 = .ok (.iload_n 1, 1) := by decide +kernel
theorem dL_multiply_5 : decode cL_multiply 5 = .ok (.iload_n 2, 1) := by decide +kernel
theorem dL_multiply_6 : decode cL_multiply 6 = .ok (.iload_n 3, 1) := by decide +kernel
theorem dL_multiply_7 : decode cL_multiply 7 = .ok (.invokevirtual 35, 3) := by decide +kernel
theorem dL_multiply_10 : decode cL_multiply 10 = .ok (.lastore, 1) := by decide +kernel
theorem dL_multiply_11 : decode cL_multiply 11 = .ok (.goto 11, 3) := by decide +kernel
theorem dL_multiply_14 : decode cL_multiply 14 = .ok (.astore 5, 2) := by decide +kernel
theorem dL_multiply_16 : decode cL_multiply 16 = .ok (.iconst 1, 1) := by decide +kernel
theorem dL_multiply_17 : decode cL_multiply 17 = .ok (.ireturn, 1) := by decide +kernel
theorem dL_multiply_18 : decode cL_multiply 18 = .ok (.astore 5, 2) := by decide +kernel
theorem dL_multiply_20 : decode cL_multiply 20 = .ok (.iconst 2, 1) := by decide +kernel
theorem dL_multiply_21 : decode cL_multiply 21 = .ok (.ireturn, 1) := by decide +kernel
theorem dL_multiply_22 : decode cL_multiply 22 = .ok (.iconst 0, 1) := by decide +kernel
theorem dL_multiply_23 : decode cL_multiply 23 = .ok (.ireturn, 1) := by decide +kernel
theorem dL_conjugate_0 : decode cL_conjugate 0 = .ok (.aload_n 2, 1) := by decide +kernel
theorem dL_conjugate_1 : decode cL_conjugate 1 = .ok (.iconst 0, 1) := by decide +kernel
theorem dL_conjugate_2 : decode cL_conjugate 2 = .ok (.aload_n 0, 1) := by decide +kernel
theorem dL_conjugate_3 : decode cL_conjugate 3 = .ok (.iload_n 1, 1) := by decide +kernel
theorem dL_conjugate_4 : decode cL_conjugate 4 = .ok (.invokevirtual 39, 3) := by decide +kernel
theorem dL_conjugate_7 : decode cL_conjugate 7 = .ok (.i2l, 1) := by decide +kernel
theorem dL_conjugate_8 : decode cL_conjugate 8 = .ok (.lastore, 1) := by decide +kernel
theorem dL_conjugate_9 : decode cL_conjugate 9 = .ok (.goto 6, 3) := by decide +kernel
theorem dL_conjugate_12 : decode cL_conjugate 12 = .ok (.astore_n 3, 1) := by decide +kernel
theorem dL_conjugate_13 : decode cL_conjugate 13 = .ok (.iconst 1, 1) := by decide +kernel
theorem dL_conjugate_14 : decode cL_conjugate 14 = .ok (.ireturn, 1) := by decide +kernel
theorem dL_conjugate_15 : decode cL_conjugate 15 = .ok (.iconst 0, 1) := by decide +kernel
theorem dL_conjugate_16 : decode cL_conjugate 16 = .ok (.ireturn, 1) := by decide +kernel
theorem dL_commutator_0 : decode cL_commutator 0 = .ok (.aload 4, 2) := by decide +kernel
theorem dL_commutator_2 : decode cL_commutator 2 = .ok (.iconst 0, 1) := by decide +kernel
theorem dL_commutator_3 : decode cL_commutator 3 = .ok (.aload_n 0, 1) := by decide +kernel
theorem dL_commutator_4 : decode cL_commutator 4 = .ok (.iload_n 1, 1) := by decide +kernel
theorem dL_commutator_5 : decode cL_commutator 5 = .ok (.iload_n 2, 1) := by decide +kernel
theorem dL_commutator_6 : decode cL_commutator 6 = .ok (.iload_n 3, 1) := by decide +kernel
theorem dL_commutator_7 : decode cL_commutator 7 = .ok (.invokevirtual 42, 3) := by decide +kernel
theorem dL_commutator_10 : decode cL_commutator 10 = .ok (.lastore, 1) := by decide +kernel
theorem dL_commutator_11 : decode cL_commutator 11 = .ok (.goto 11, 3) := by decide +kernel
theorem dL_commutator_14 : decode cL_commutator 14 = .ok (.astore 5, 2) := by decide +kernel
theorem dL_commutator_16 : decode cL_commutator 16 = .ok (.iconst 1, 1) := by decide +kernel
theorem dL_commutator_17 : decode cL_commutator 17 = .ok (.ireturn, 1) := by decide +kernel
theorem dL_commutator_18 : decode cL_commutator 18 = .ok (.astore 5, 2) := by decide +kernel
theorem dL_commutator_20 : decode cL_commutator 20 = .ok (.iconst 2, 1) := by decide +kernel
theorem dL_commutator_21 : decode cL_commutator 21 = .ok (.ireturn, 1) := by decide +kernel
theorem dL_commutator_22 : decode cL_commutator 22 = .ok (.iconst 0, 1) := by decide +kernel
theorem dL_commutator_23 : decode cL_commutator 23 = .ok (.ireturn, 1) := by decide +kernel
theorem dL_associator_0 : decode cL_associator 0 = .ok (.aload 5, 2) := by decide +kernel
theorem dL_associator_2 : decode cL_associator 2 = .ok (.iconst 0, 1) := by decide +kernel
theorem dL_associator_3 : decode cL_associator 3 = .ok (.aload_n 0, 1) := by decide +kernel
theorem dL_associator_4 : decode cL_associator 4 = .ok (.iload_n 1, 1) := by decide +kernel
theorem dL_associator_5 : decode cL_associator 5 = .ok (.iload_n 2, 1) := by decide +kernel
theorem dL_associator_6 : decode cL_associator 6 = .ok (.iload_n 3, 1) := by decide +kernel
theorem dL_associator_7 : decode cL_associator 7 = .ok (.iload 4, 2) := by decide +kernel
theorem dL_associator_9 : decode cL_associator 9 = .ok (.invokevirtual 45, 3) := by decide +kernel
theorem dL_associator_12 : decode cL_associator 12 = .ok (.lastore, 1) := by decide +kernel
theorem dL_associator_13 : decode cL_associator 13 = .ok (.goto 11, 3) := by decide +kernel
theorem dL_associator_16 : decode cL_associator 16 = .ok (.astore 6, 2) := by decide +kernel
theorem dL_associator_18 : decode cL_associator 18 = .ok (.iconst 1, 1) := by decide +kernel
theorem dL_associator_19 : decode cL_associator 19 = .ok (.ireturn, 1) := by decide +kernel
theorem dL_associator_20 : decode cL_associator 20 = .ok (.astore 6, 2) := by decide +kernel
theorem dL_associator_22 : decode cL_associator 22 = .ok (.iconst 2, 1) := by decide +kernel
theorem dL_associator_23 : decode cL_associator 23 = .ok (.ireturn, 1) := by decide +kernel
theorem dL_associator_24 : decode cL_associator 24 = .ok (.iconst 0, 1) := by decide +kernel
theorem dL_associator_25 : decode cL_associator 25 = .ok (.ireturn, 1) := by decide +kernel
theorem dL_divide_0 : decode cL_divide 0 = .ok (.aload 5, 2) := by decide +kernel
theorem dL_divide_2 : decode cL_divide 2 = .ok (.iconst 0, 1) := by decide +kernel
theorem dL_divide_3 : decode cL_divide 3 = .ok (.aload_n 0, 1) := by decide +kernel
theorem dL_divide_4 : decode cL_divide 4 = .ok (.iload_n 1, 1) := by decide +kernel
theorem dL_divide_5 : decode cL_divide 5 = .ok (.iload_n 2, 1) := by decide +kernel
theorem dL_divide_6 : decode cL_divide 6 = .ok (.iload_n 3, 1) := by decide +kernel
theorem dL_divide_7 : decode cL_divide 7 = .ok (.iload 4, 2) := by decide +kernel
theorem dL_divide_9 : decode cL_divide 9 = .ok (.invokevirtual 49, 3) := by decide +kernel
theorem dL_divide_12 : decode cL_divide 12 = .ok (.lastore, 1) := by decide +kernel
theorem dL_divide_13 : decode cL_divide 13 = .ok (.goto 19, 3) := by decide +kernel
theorem dL_divide_16 : decode cL_divide 16 = .ok (.astore 6, 2) := by decide +kernel
theorem dL_divide_18 : decode cL_divide 18 = .ok (.iconst 1, 1) := by decide +kernel
theorem dL_divide_19 : decode cL_divide 19 = .ok (.ireturn, 1) := by decide +kernel
theorem dL_divide_20 : decode cL_divide 20 = .ok (.astore 6, 2) := by decide +kernel
theorem dL_divide_22 : decode cL_divide 22 = .ok (.iconst 2, 1) := by decide +kernel
theorem dL_divide_23 : decode cL_divide 23 = .ok (.ireturn, 1) := by decide +kernel
theorem dL_divide_24 : decode cL_divide 24 = .ok (.astore 6, 2) := by decide +kernel
theorem dL_divide_26 : decode cL_divide 26 = .ok (.iconst 3, 1) := by decide +kernel
theorem dL_divide_27 : decode cL_divide 27 = .ok (.ireturn, 1) := by decide +kernel
theorem dL_divide_28 : decode cL_divide 28 = .ok (.astore 6, 2) := by decide +kernel
theorem dL_divide_30 : decode cL_divide 30 = .ok (.iconst 4, 1) := by decide +kernel
theorem dL_divide_31 : decode cL_divide 31 = .ok (.ireturn, 1) := by decide +kernel
theorem dL_divide_32 : decode cL_divide 32 = .ok (.iconst 0, 1) := by decide +kernel
theorem dL_divide_33 : decode cL_divide 33 = .ok (.ireturn, 1) := by decide +kernel
theorem dL_coordinate_0 : decode cL_coordinate 0 = .ok (.aload_n 3, 1) := by decide +kernel
theorem dL_coordinate_1 : decode cL_coordinate 1 = .ok (.iconst 0, 1) := by decide +kernel
theorem dL_coordinate_2 : decode cL_coordinate 2 = .ok (.aload_n 0, 1) := by decide +kernel
theorem dL_coordinate_3 : decode cL_coordinate 3 = .ok (.iload_n 1, 1) := by decide +kernel
theorem dL_coordinate_4 : decode cL_coordinate 4 = .ok (.iload_n 2, 1) := by decide +kernel
theorem dL_coordinate_5 : decode cL_coordinate 5 = .ok (.invokevirtual 54, 3) := by decide +kernel
theorem dL_coordinate_8 : decode cL_coordinate 8 = .ok (.i2l, 1) := by decide +kernel
theorem dL_coordinate_9 : decode cL_coordinate 9 = .ok (.lastore, 1) := by decide +kernel
theorem dL_coordinate_10 : decode cL_coordinate 10 = .ok (.goto 7, 3) := by decide +kernel
theorem dL_coordinate_13 : decode cL_coordinate 13 = .ok (.astore 4, 2) := by decide +kernel
theorem dL_coordinate_15 : decode cL_coordinate 15 = .ok (.iconst 1, 1) := by decide +kernel
theorem dL_coordinate_16 : decode cL_coordinate 16 = .ok (.ireturn, 1) := by decide +kernel
theorem dL_coordinate_17 : decode cL_coordinate 17 = .ok (.iconst 0, 1) := by decide +kernel
theorem dL_coordinate_18 : decode cL_coordinate 18 = .ok (.ireturn, 1) := by decide +kernel
theorem dL_norm_0 : decode cL_norm 0 = .ok (.aload_n 2, 1) := by decide +kernel
theorem dL_norm_1 : decode cL_norm 1 = .ok (.iconst 0, 1) := by decide +kernel
theorem dL_norm_2 : decode cL_norm 2 = .ok (.aload_n 0, 1) := by decide +kernel
theorem dL_norm_3 : decode cL_norm 3 = .ok (.iload_n 1, 1) := by decide +kernel
theorem dL_norm_4 : decode cL_norm 4 = .ok (.invokevirtual 57, 3) := by decide +kernel
theorem dL_norm_7 : decode cL_norm 7 = .ok (.lastore, 1) := by decide +kernel
theorem dL_norm_8 : decode cL_norm 8 = .ok (.goto 6, 3) := by decide +kernel
theorem dL_norm_11 : decode cL_norm 11 = .ok (.astore_n 3, 1) := by decide +kernel
theorem dL_norm_12 : decode cL_norm 12 = .ok (.iconst 1, 1) := by decide +kernel
theorem dL_norm_13 : decode cL_norm 13 = .ok (.ireturn, 1) := by decide +kernel
theorem dL_norm_14 : decode cL_norm 14 = .ok (.iconst 0, 1) := by decide +kernel
theorem dL_norm_15 : decode cL_norm 15 = .ok (.ireturn, 1) := by decide +kernel
theorem dL_dot_0 : decode cL_dot 0 = .ok (.aload_n 3, 1) := by decide +kernel
theorem dL_dot_1 : decode cL_dot 1 = .ok (.iconst 0, 1) := by decide +kernel
theorem dL_dot_2 : decode cL_dot 2 = .ok (.aload_n 0, 1) := by decide +kernel
theorem dL_dot_3 : decode cL_dot 3 = .ok (.iload_n 1, 1) := by decide +kernel
theorem dL_dot_4 : decode cL_dot 4 = .ok (.iload_n 2, 1) := by decide +kernel
theorem dL_dot_5 : decode cL_dot 5 = .ok (.invokevirtual 61, 3) := by decide +kernel
theorem dL_dot_8 : decode cL_dot 8 = .ok (.lastore, 1) := by decide +kernel
theorem dL_dot_9 : decode cL_dot 9 = .ok (.goto 7, 3) := by decide +kernel
theorem dL_dot_12 : decode cL_dot 12 = .ok (.astore 4, 2) := by decide +kernel
theorem dL_dot_14 : decode cL_dot 14 = .ok (.iconst 1, 1) := by decide +kernel
theorem dL_dot_15 : decode cL_dot 15 = .ok (.ireturn, 1) := by decide +kernel
theorem dL_dot_16 : decode cL_dot 16 = .ok (.iconst 0, 1) := by decide +kernel
theorem dL_dot_17 : decode cL_dot 17 = .ok (.ireturn, 1) := by decide +kernel
theorem dL_ordersOf_0 : decode cL_ordersOf 0 = .ok (.aload_n 2, 1) := by decide +kernel
theorem dL_ordersOf_1 : decode cL_ordersOf 1 = .ok (.iconst 0, 1) := by decide +kernel
theorem dL_ordersOf_2 : decode cL_ordersOf 2 = .ok (.aload_n 0, 1) := by decide +kernel
theorem dL_ordersOf_3 : decode cL_ordersOf 3 = .ok (.iload_n 1, 1) := by decide +kernel
theorem dL_ordersOf_4 : decode cL_ordersOf 4 = .ok (.invokevirtual 65, 3) := by decide +kernel
theorem dL_ordersOf_7 : decode cL_ordersOf 7 = .ok (.i2l, 1) := by decide +kernel
theorem dL_ordersOf_8 : decode cL_ordersOf 8 = .ok (.lastore, 1) := by decide +kernel
theorem dL_ordersOf_9 : decode cL_ordersOf 9 = .ok (.goto 6, 3) := by decide +kernel
theorem dL_ordersOf_12 : decode cL_ordersOf 12 = .ok (.astore_n 3, 1) := by decide +kernel
theorem dL_ordersOf_13 : decode cL_ordersOf 13 = .ok (.iconst 1, 1) := by decide +kernel
theorem dL_ordersOf_14 : decode cL_ordersOf 14 = .ok (.ireturn, 1) := by decide +kernel
theorem dL_ordersOf_15 : decode cL_ordersOf 15 = .ok (.iconst 0, 1) := by decide +kernel
theorem dL_ordersOf_16 : decode cL_ordersOf 16 = .ok (.ireturn, 1) := by decide +kernel
theorem dL_left_0 : decode cL_left 0 = .ok (.aload 4, 2) := by decide +kernel
theorem dL_left_2 : decode cL_left 2 = .ok (.iconst 0, 1) := by decide +kernel
theorem dL_left_3 : decode cL_left 3 = .ok (.aload_n 0, 1) := by decide +kernel
theorem dL_left_4 : decode cL_left 4 = .ok (.iload_n 1, 1) := by decide +kernel
theorem dL_left_5 : decode cL_left 5 = .ok (.iload_n 2, 1) := by decide +kernel
theorem dL_left_6 : decode cL_left 6 = .ok (.iload_n 3, 1) := by decide +kernel
theorem dL_left_7 : decode cL_left 7 = .ok (.invokevirtual 68, 3) := by decide +kernel
theorem dL_left_10 : decode cL_left 10 = .ok (.i2l, 1) := by decide +kernel
theorem dL_left_11 : decode cL_left 11 = .ok (.lastore, 1) := by decide +kernel
theorem dL_left_12 : decode cL_left 12 = .ok (.goto 7, 3) := by decide +kernel
theorem dL_left_15 : decode cL_left 15 = .ok (.astore 5, 2) := by decide +kernel
theorem dL_left_17 : decode cL_left 17 = .ok (.iconst 1, 1) := by decide +kernel
theorem dL_left_18 : decode cL_left 18 = .ok (.ireturn, 1) := by decide +kernel
theorem dL_left_19 : decode cL_left 19 = .ok (.iconst 0, 1) := by decide +kernel
theorem dL_left_20 : decode cL_left 20 = .ok (.ireturn, 1) := by decide +kernel
theorem dL_unitOf_0 : decode cL_unitOf 0 = .ok (.aload_n 2, 1) := by decide +kernel
theorem dL_unitOf_1 : decode cL_unitOf 1 = .ok (.iconst 0, 1) := by decide +kernel
theorem dL_unitOf_2 : decode cL_unitOf 2 = .ok (.aload_n 0, 1) := by decide +kernel
theorem dL_unitOf_3 : decode cL_unitOf 3 = .ok (.iload_n 1, 1) := by decide +kernel
theorem dL_unitOf_4 : decode cL_unitOf 4 = .ok (.invokevirtual 71, 3) := by decide +kernel
theorem dL_unitOf_7 : decode cL_unitOf 7 = .ok (.i2l, 1) := by decide +kernel
theorem dL_unitOf_8 : decode cL_unitOf 8 = .ok (.lastore, 1) := by decide +kernel
theorem dL_unitOf_9 : decode cL_unitOf 9 = .ok (.goto 6, 3) := by decide +kernel
theorem dL_unitOf_12 : decode cL_unitOf 12 = .ok (.astore_n 3, 1) := by decide +kernel
theorem dL_unitOf_13 : decode cL_unitOf 13 = .ok (.iconst 1, 1) := by decide +kernel
theorem dL_unitOf_14 : decode cL_unitOf 14 = .ok (.ireturn, 1) := by decide +kernel
theorem dL_unitOf_15 : decode cL_unitOf 15 = .ok (.iconst 0, 1) := by decide +kernel
theorem dL_unitOf_16 : decode cL_unitOf 16 = .ok (.ireturn, 1) := by decide +kernel
theorem dL_value_0 : decode cL_value 0 = .ok (.aload_n 2, 1) := by decide +kernel
theorem dL_value_1 : decode cL_value 1 = .ok (.iconst 0, 1) := by decide +kernel
theorem dL_value_2 : decode cL_value 2 = .ok (.aload_n 0, 1) := by decide +kernel
theorem dL_value_3 : decode cL_value 3 = .ok (.iload_n 1, 1) := by decide +kernel
theorem dL_value_4 : decode cL_value 4 = .ok (.invokevirtual 74, 3) := by decide +kernel
theorem dL_value_7 : decode cL_value 7 = .ok (.i2l, 1) := by decide +kernel
theorem dL_value_8 : decode cL_value 8 = .ok (.lastore, 1) := by decide +kernel
theorem dL_value_9 : decode cL_value 9 = .ok (.goto 6, 3) := by decide +kernel
theorem dL_value_12 : decode cL_value 12 = .ok (.astore_n 3, 1) := by decide +kernel
theorem dL_value_13 : decode cL_value 13 = .ok (.iconst 1, 1) := by decide +kernel
theorem dL_value_14 : decode cL_value 14 = .ok (.ireturn, 1) := by decide +kernel
theorem dL_value_15 : decode cL_value 15 = .ok (.iconst 0, 1) := by decide +kernel
theorem dL_value_16 : decode cL_value 16 = .ok (.ireturn, 1) := by decide +kernel
theorem dL_dimension_0 : decode cL_dimension 0 = .ok (.aload_n 2, 1) := by decide +kernel
theorem dL_dimension_1 : decode cL_dimension 1 = .ok (.iconst 0, 1) := by decide +kernel
theorem dL_dimension_2 : decode cL_dimension 2 = .ok (.aload_n 0, 1) := by decide +kernel
theorem dL_dimension_3 : decode cL_dimension 3 = .ok (.iload_n 1, 1) := by decide +kernel
theorem dL_dimension_4 : decode cL_dimension 4 = .ok (.invokevirtual 77, 3) := by decide +kernel
theorem dL_dimension_7 : decode cL_dimension 7 = .ok (.i2l, 1) := by decide +kernel
theorem dL_dimension_8 : decode cL_dimension 8 = .ok (.lastore, 1) := by decide +kernel
theorem dL_dimension_9 : decode cL_dimension 9 = .ok (.goto 6, 3) := by decide +kernel
theorem dL_dimension_12 : decode cL_dimension 12 = .ok (.astore_n 3, 1) := by decide +kernel
theorem dL_dimension_13 : decode cL_dimension 13 = .ok (.iconst 1, 1) := by decide +kernel
theorem dL_dimension_14 : decode cL_dimension 14 = .ok (.ireturn, 1) := by decide +kernel
theorem dL_dimension_15 : decode cL_dimension 15 = .ok (.iconst 0, 1) := by decide +kernel
theorem dL_dimension_16 : decode cL_dimension 16 = .ok (.ireturn, 1) := by decide +kernel
theorem dL_commute_0 : decode cL_commute 0 = .ok (.aload_n 3, 1) := by decide +kernel
theorem dL_commute_1 : decode cL_commute 1 = .ok (.iconst 0, 1) := by decide +kernel
theorem dL_commute_2 : decode cL_commute 2 = .ok (.aload_n 0, 1) := by decide +kernel
theorem dL_commute_3 : decode cL_commute 3 = .ok (.iload_n 1, 1) := by decide +kernel
theorem dL_commute_4 : decode cL_commute 4 = .ok (.iload_n 2, 1) := by decide +kernel
theorem dL_commute_5 : decode cL_commute 5 = .ok (.invokevirtual 80, 3) := by decide +kernel
theorem dL_commute_8 : decode cL_commute 8 = .ok (.ifCond .eq 7, 3) := by decide +kernel
theorem dL_commute_11 : decode cL_commute 11 = .ok (.lconst 1, 1) := by decide +kernel
theorem dL_commute_12 : decode cL_commute 12 = .ok (.goto 4, 3) := by decide +kernel
theorem dL_commute_15 : decode cL_commute 15 = .ok (.lconst 0, 1) := by decide +kernel
theorem dL_commute_16 : decode cL_commute 16 = .ok (.lastore, 1) := by decide +kernel
theorem dL_commute_17 : decode cL_commute 17 = .ok (.goto 7, 3) := by decide +kernel
theorem dL_commute_20 : decode cL_commute 20 = .ok (.astore 4, 2) := by decide +kernel
theorem dL_commute_22 : decode cL_commute 22 = .ok (.iconst 1, 1) := by decide +kernel
theorem dL_commute_23 : decode cL_commute 23 = .ok (.ireturn, 1) := by decide +kernel
theorem dL_commute_24 : decode cL_commute 24 = .ok (.iconst 0, 1) := by decide +kernel
theorem dL_commute_25 : decode cL_commute 25 = .ok (.ireturn, 1) := by decide +kernel
theorem dL_associate_0 : decode cL_associate 0 = .ok (.aload 4, 2) := by decide +kernel
theorem dL_associate_2 : decode cL_associate 2 = .ok (.iconst 0, 1) := by decide +kernel
theorem dL_associate_3 : decode cL_associate 3 = .ok (.aload_n 0, 1) := by decide +kernel
theorem dL_associate_4 : decode cL_associate 4 = .ok (.iload_n 1, 1) := by decide +kernel
theorem dL_associate_5 : decode cL_associate 5 = .ok (.iload_n 2, 1) := by decide +kernel
theorem dL_associate_6 : decode cL_associate 6 = .ok (.iload_n 3, 1) := by decide +kernel
theorem dL_associate_7 : decode cL_associate 7 = .ok (.invokevirtual 84, 3) := by decide +kernel
theorem dL_associate_10 : decode cL_associate 10 = .ok (.ifCond .eq 7, 3) := by decide +kernel
theorem dL_associate_13 : decode cL_associate 13 = .ok (.lconst 1, 1) := by decide +kernel
theorem dL_associate_14 : decode cL_associate 14 = .ok (.goto 4, 3) := by decide +kernel
theorem dL_associate_17 : decode cL_associate 17 = .ok (.lconst 0, 1) := by decide +kernel
theorem dL_associate_18 : decode cL_associate 18 = .ok (.lastore, 1) := by decide +kernel
theorem dL_associate_19 : decode cL_associate 19 = .ok (.goto 7, 3) := by decide +kernel
theorem dL_associate_22 : decode cL_associate 22 = .ok (.astore 5, 2) := by decide +kernel
theorem dL_associate_24 : decode cL_associate 24 = .ok (.iconst 1, 1) := by decide +kernel
theorem dL_associate_25 : decode cL_associate 25 = .ok (.ireturn, 1) := by decide +kernel
theorem dL_associate_26 : decode cL_associate 26 = .ok (.iconst 0, 1) := by decide +kernel
theorem dL_associate_27 : decode cL_associate 27 = .ok (.ireturn, 1) := by decide +kernel
theorem dL_elements_0 : decode cL_elements 0 = .ok (.aload_n 2, 1) := by decide +kernel
theorem dL_elements_1 : decode cL_elements 1 = .ok (.iconst 0, 1) := by decide +kernel
theorem dL_elements_2 : decode cL_elements 2 = .ok (.aload_n 0, 1) := by decide +kernel
theorem dL_elements_3 : decode cL_elements 3 = .ok (.iload_n 1, 1) := by decide +kernel
theorem dL_elements_4 : decode cL_elements 4 = .ok (.invokevirtual 88, 3) := by decide +kernel
theorem dL_elements_7 : decode cL_elements 7 = .ok (.lastore, 1) := by decide +kernel
theorem dL_elements_8 : decode cL_elements 8 = .ok (.goto 6, 3) := by decide +kernel
theorem dL_elements_11 : decode cL_elements 11 = .ok (.astore_n 3, 1) := by decide +kernel
theorem dL_elements_12 : decode cL_elements 12 = .ok (.iconst 1, 1) := by decide +kernel
theorem dL_elements_13 : decode cL_elements 13 = .ok (.ireturn, 1) := by decide +kernel
theorem dL_elements_14 : decode cL_elements 14 = .ok (.iconst 0, 1) := by decide +kernel
theorem dL_elements_15 : decode cL_elements 15 = .ok (.ireturn, 1) := by decide +kernel
theorem dL_steps_0 : decode cL_steps 0 = .ok (.aload_n 3, 1) := by decide +kernel
theorem dL_steps_1 : decode cL_steps 1 = .ok (.iconst 0, 1) := by decide +kernel
theorem dL_steps_2 : decode cL_steps 2 = .ok (.aload_n 0, 1) := by decide +kernel
theorem dL_steps_3 : decode cL_steps 3 = .ok (.iload_n 1, 1) := by decide +kernel
theorem dL_steps_4 : decode cL_steps 4 = .ok (.iload_n 2, 1) := by decide +kernel
theorem dL_steps_5 : decode cL_steps 5 = .ok (.invokevirtual 91, 3) := by decide +kernel
theorem dL_steps_8 : decode cL_steps 8 = .ok (.i2l, 1) := by decide +kernel
theorem dL_steps_9 : decode cL_steps 9 = .ok (.lastore, 1) := by decide +kernel
theorem dL_steps_10 : decode cL_steps 10 = .ok (.goto 11, 3) := by decide +kernel
theorem dL_steps_13 : decode cL_steps 13 = .ok (.astore 4, 2) := by decide +kernel
theorem dL_steps_15 : decode cL_steps 15 = .ok (.iconst 1, 1) := by decide +kernel
theorem dL_steps_16 : decode cL_steps 16 = .ok (.ireturn, 1) := by decide +kernel
theorem dL_steps_17 : decode cL_steps 17 = .ok (.astore 4, 2) := by decide +kernel
theorem dL_steps_19 : decode cL_steps 19 = .ok (.iconst 2, 1) := by decide +kernel
theorem dL_steps_20 : decode cL_steps 20 = .ok (.ireturn, 1) := by decide +kernel
theorem dL_steps_21 : decode cL_steps 21 = .ok (.iconst 0, 1) := by decide +kernel
theorem dL_steps_22 : decode cL_steps 22 = .ok (.ireturn, 1) := by decide +kernel
theorem dL_lastNorm_0 : decode cL_lastNorm 0 = .ok (.aload_n 3, 1) := by decide +kernel
theorem dL_lastNorm_1 : decode cL_lastNorm 1 = .ok (.iconst 0, 1) := by decide +kernel
theorem dL_lastNorm_2 : decode cL_lastNorm 2 = .ok (.aload_n 0, 1) := by decide +kernel
theorem dL_lastNorm_3 : decode cL_lastNorm 3 = .ok (.iload_n 1, 1) := by decide +kernel
theorem dL_lastNorm_4 : decode cL_lastNorm 4 = .ok (.iload_n 2, 1) := by decide +kernel
theorem dL_lastNorm_5 : decode cL_lastNorm 5 = .ok (.invokevirtual 94, 3) := by decide +kernel
theorem dL_lastNorm_8 : decode cL_lastNorm 8 = .ok (.lastore, 1) := by decide +kernel
theorem dL_lastNorm_9 : decode cL_lastNorm 9 = .ok (.goto 11, 3) := by decide +kernel
theorem dL_lastNorm_12 : decode cL_lastNorm 12 = .ok (.astore 4, 2) := by decide +kernel
theorem dL_lastNorm_14 : decode cL_lastNorm 14 = .ok (.iconst 1, 1) := by decide +kernel
theorem dL_lastNorm_15 : decode cL_lastNorm 15 = .ok (.ireturn, 1) := by decide +kernel
theorem dL_lastNorm_16 : decode cL_lastNorm 16 = .ok (.astore 4, 2) := by decide +kernel
theorem dL_lastNorm_18 : decode cL_lastNorm 18 = .ok (.iconst 2, 1) := by decide +kernel
theorem dL_lastNorm_19 : decode cL_lastNorm 19 = .ok (.ireturn, 1) := by decide +kernel
theorem dL_lastNorm_20 : decode cL_lastNorm 20 = .ok (.iconst 0, 1) := by decide +kernel
theorem dL_lastNorm_21 : decode cL_lastNorm 21 = .ok (.ireturn, 1) := by decide +kernel
theorem dL_commuting_0 : decode cL_commuting 0 = .ok (.aload_n 2, 1) := by decide +kernel
theorem dL_commuting_1 : decode cL_commuting 1 = .ok (.iconst 0, 1) := by decide +kernel
theorem dL_commuting_2 : decode cL_commuting 2 = .ok (.aload_n 0, 1) := by decide +kernel
theorem dL_commuting_3 : decode cL_commuting 3 = .ok (.iload_n 1, 1) := by decide +kernel
theorem dL_commuting_4 : decode cL_commuting 4 = .ok (.invokevirtual 97, 3) := by decide +kernel
theorem dL_commuting_7 : decode cL_commuting 7 = .ok (.i2l, 1) := by decide +kernel
theorem dL_commuting_8 : decode cL_commuting 8 = .ok (.lastore, 1) := by decide +kernel
theorem dL_commuting_9 : decode cL_commuting 9 = .ok (.goto 6, 3) := by decide +kernel
theorem dL_commuting_12 : decode cL_commuting 12 = .ok (.astore_n 3, 1) := by decide +kernel
theorem dL_commuting_13 : decode cL_commuting 13 = .ok (.iconst 1, 1) := by decide +kernel
theorem dL_commuting_14 : decode cL_commuting 14 = .ok (.ireturn, 1) := by decide +kernel
theorem dL_commuting_15 : decode cL_commuting 15 = .ok (.iconst 0, 1) := by decide +kernel
theorem dL_commuting_16 : decode cL_commuting 16 = .ok (.ireturn, 1) := by decide +kernel
theorem dL_append_0 : decode cL_append 0 = .ok (.aload_n 2, 1) := by decide +kernel
theorem dL_append_1 : decode cL_append 1 = .ok (.iconst 0, 1) := by decide +kernel
theorem dL_append_2 : decode cL_append 2 = .ok (.aload_n 0, 1) := by decide +kernel
theorem dL_append_3 : decode cL_append 3 = .ok (.iload_n 1, 1) := by decide +kernel
theorem dL_append_4 : decode cL_append 4 = .ok (.invokevirtual 100, 3) := by decide +kernel
theorem dL_append_7 : decode cL_append 7 = .ok (.i2l, 1) := by decide +kernel
theorem dL_append_8 : decode cL_append 8 = .ok (.lastore, 1) := by decide +kernel
theorem dL_append_9 : decode cL_append 9 = .ok (.goto 9, 3) := by decide +kernel
theorem dL_append_12 : decode cL_append 12 = .ok (.astore_n 3, 1) := by decide +kernel
theorem dL_append_13 : decode cL_append 13 = .ok (.iconst 1, 1) := by decide +kernel
theorem dL_append_14 : decode cL_append 14 = .ok (.ireturn, 1) := by decide +kernel
theorem dL_append_15 : decode cL_append 15 = .ok (.astore_n 3, 1) := by decide +kernel
theorem dL_append_16 : decode cL_append 16 = .ok (.iconst 2, 1) := by decide +kernel
theorem dL_append_17 : decode cL_append 17 = .ok (.ireturn, 1) := by decide +kernel
theorem dL_append_18 : decode cL_append 18 = .ok (.iconst 0, 1) := by decide +kernel
theorem dL_append_19 : decode cL_append 19 = .ok (.ireturn, 1) := by decide +kernel
theorem dL_undo_0 : decode cL_undo 0 = .ok (.aload_n 1, 1) := by decide +kernel
theorem dL_undo_1 : decode cL_undo 1 = .ok (.iconst 0, 1) := by decide +kernel
theorem dL_undo_2 : decode cL_undo 2 = .ok (.aload_n 0, 1) := by decide +kernel
theorem dL_undo_3 : decode cL_undo 3 = .ok (.invokevirtual 103, 3) := by decide +kernel
theorem dL_undo_6 : decode cL_undo 6 = .ok (.i2l, 1) := by decide +kernel
theorem dL_undo_7 : decode cL_undo 7 = .ok (.lastore, 1) := by decide +kernel
theorem dL_undo_8 : decode cL_undo 8 = .ok (.goto 6, 3) := by decide +kernel
theorem dL_undo_11 : decode cL_undo 11 = .ok (.astore_n 2, 1) := by decide +kernel
theorem dL_undo_12 : decode cL_undo 12 = .ok (.iconst 1, 1) := by decide +kernel
theorem dL_undo_13 : decode cL_undo 13 = .ok (.ireturn, 1) := by decide +kernel
theorem dL_undo_14 : decode cL_undo 14 = .ok (.iconst 0, 1) := by decide +kernel
theorem dL_undo_15 : decode cL_undo 15 = .ok (.ireturn, 1) := by decide +kernel
