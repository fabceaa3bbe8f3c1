theorem d_J_copyOf_b_0 : decode b_J_copyOf_b 0 = .ok (.iload_n 1, 1) := by decide +kernel
theorem d_J_copyOf_b_1 : decode b_J_copyOf_b 1 = .ok (.aload_n 0, 1) := by decide +kernel
theorem d_J_copyOf_b_2 : decode b_J_copyOf_b 2 = .ok (.arraylength, 1) := by decide +kernel
theorem d_J_copyOf_b_3 : decode b_J_copyOf_b 3 = .ok (.if_icmp .ne 11, 3) := by decide +kernel
theorem d_J_copyOf_b_6 : decode b_J_copyOf_b 6 = .ok (.aload_n 0, 1) := by decide +kernel
theorem d_J_copyOf_b_7 : decode b_J_copyOf_b 7 = .ok (.invokevirtual 310, 3) := by decide +kernel
theorem d_J_copyOf_b_10 : decode b_J_copyOf_b 10 = .ok (.checkcast 311, 3) := by decide +kernel
theorem d_J_copyOf_b_13 : decode b_J_copyOf_b 13 = .ok (.areturn, 1) := by decide +kernel
theorem d_J_copyOf_b_14 : decode b_J_copyOf_b 14 = .ok (.iload_n 1, 1) := by decide +kernel
theorem d_J_copyOf_b_15 : decode b_J_copyOf_b 15 = .ok (.newarray .byte, 2) := by decide +kernel
theorem d_J_copyOf_b_17 : decode b_J_copyOf_b 17 = .ok (.astore_n 2, 1) := by decide +kernel
theorem d_J_copyOf_b_18 : decode b_J_copyOf_b 18 = .ok (.aload_n 0, 1) := by decide +kernel
theorem d_J_copyOf_b_19 : decode b_J_copyOf_b 19 = .ok (.iconst 0, 1) := by decide +kernel
theorem d_J_copyOf_b_20 : decode b_J_copyOf_b 20 = .ok (.aload_n 2, 1) := by decide +kernel
theorem d_J_copyOf_b_21 : decode b_J_copyOf_b 21 = .ok (.iconst 0, 1) := by decide +kernel
theorem d_J_copyOf_b_22 : decode b_J_copyOf_b 22 = .ok (.aload_n 0, 1) := by decide +kernel
theorem d_J_copyOf_b_23 : decode b_J_copyOf_b 23 = .ok (.arraylength, 1) := by decide +kernel
theorem d_J_copyOf_b_24 : decode b_J_copyOf_b 24 = .ok (.iload_n 1, 1) := by decide +kernel
theorem d_J_copyOf_b_25 : decode b_J_copyOf_b 25 = .ok (.invokestatic 304, 3) := by decide +kernel
theorem d_J_copyOf_b_28 : decode b_J_copyOf_b 28 = .ok (.invokestatic 150, 3) := by decide +kernel
theorem d_J_copyOf_b_31 : decode b_J_copyOf_b 31 = .ok (.aload_n 2, 1) := by decide +kernel
theorem d_J_copyOf_b_32 : decode b_J_copyOf_b 32 = .ok (.areturn, 1) := by decide +kernel
theorem d_J_copyOf_i_0 : decode b_J_copyOf_i 0 = .ok (.iload_n 1, 1) := by decide +kernel
theorem d_J_copyOf_i_1 : decode b_J_copyOf_i 1 = .ok (.aload_n 0, 1) := by decide +kernel
theorem d_J_copyOf_i_2 : decode b_J_copyOf_i 2 = .ok (.arraylength, 1) := by decide +kernel
theorem d_J_copyOf_i_3 : decode b_J_copyOf_i 3 = .ok (.if_icmp .ne 11, 3) := by decide +kernel
theorem d_J_copyOf_i_6 : decode b_J_copyOf_i 6 = .ok (.aload_n 0, 1) := by decide +kernel
theorem d_J_copyOf_i_7 : decode b_J_copyOf_i 7 = .ok (.invokevirtual 316, 3) := by decide +kernel
theorem d_J_copyOf_i_10 : decode b_J_copyOf_i 10 = .ok (.checkcast 317, 3) := by decide +kernel
theorem d_J_copyOf_i_13 : decode b_J_copyOf_i 13 = .ok (.areturn, 1) := by decide +kernel
theorem d_J_copyOf_i_14 : decode b_J_copyOf_i 14 = .ok (.iload_n 1, 1) := by decide +kernel
theorem d_J_copyOf_i_15 : decode b_J_copyOf_i 15 = .ok (.newarray .int, 2) := by decide +kernel
theorem d_J_copyOf_i_17 : decode b_J_copyOf_i 17 = .ok (.astore_n 2, 1) := by decide +kernel
theorem d_J_copyOf_i_18 : decode b_J_copyOf_i 18 = .ok (.aload_n 0, 1) := by decide +kernel
theorem d_J_copyOf_i_19 : decode b_J_copyOf_i 19 = .ok (.iconst 0, 1) := by decide +kernel
theorem d_J_copyOf_i_20 : decode b_J_copyOf_i 20 = .ok (.aload_n 2, 1) := by decide +kernel
theorem d_J_copyOf_i_21 : decode b_J_copyOf_i 21 = .ok (.iconst 0, 1) := by decide +kernel
theorem d_J_copyOf_i_22 : decode b_J_copyOf_i 22 = .ok (.aload_n 0, 1) := by decide +kernel
theorem d_J_copyOf_i_23 : decode b_J_copyOf_i 23 = .ok (.arraylength, 1) := by decide +kernel
theorem d_J_copyOf_i_24 : decode b_J_copyOf_i 24 = .ok (.iload_n 1, 1) := by decide +kernel
theorem d_J_copyOf_i_25 : decode b_J_copyOf_i 25 = .ok (.invokestatic 304, 3) := by decide +kernel
theorem d_J_copyOf_i_28 : decode b_J_copyOf_i 28 = .ok (.invokestatic 150, 3) := by decide +kernel
theorem d_J_copyOf_i_31 : decode b_J_copyOf_i 31 = .ok (.aload_n 2, 1) := by decide +kernel
theorem d_J_copyOf_i_32 : decode b_J_copyOf_i 32 = .ok (.areturn, 1) := by decide +kernel
theorem d_J_copyOf_l_0 : decode b_J_copyOf_l 0 = .ok (.iload_n 1, 1) := by decide +kernel
theorem d_J_copyOf_l_1 : decode b_J_copyOf_l 1 = .ok (.aload_n 0, 1) := by decide +kernel
theorem d_J_copyOf_l_2 : decode b_J_copyOf_l 2 = .ok (.arraylength, 1) := by decide +kernel
theorem d_J_copyOf_l_3 : decode b_J_copyOf_l 3 = .ok (.if_icmp .ne 11, 3) := by decide +kernel
theorem d_J_copyOf_l_6 : decode b_J_copyOf_l 6 = .ok (.aload_n 0, 1) := by decide +kernel
theorem d_J_copyOf_l_7 : decode b_J_copyOf_l 7 = .ok (.invokevirtual 319, 3) := by decide +kernel
theorem d_J_copyOf_l_10 : decode b_J_copyOf_l 10 = .ok (.checkcast 320, 3) := by decide +kernel
theorem d_J_copyOf_l_13 : decode b_J_copyOf_l 13 = .ok (.areturn, 1) := by decide +kernel
theorem d_J_copyOf_l_14 : decode b_J_copyOf_l 14 = .ok (.iload_n 1, 1) := by decide +kernel
theorem d_J_copyOf_l_15 : decode b_J_copyOf_l 15 = .ok (.newarray .long, 2) := by decide +kernel
theorem d_J_copyOf_l_17 : decode b_J_copyOf_l 17 = .ok (.astore_n 2, 1) := by decide +kernel
theorem d_J_copyOf_l_18 : decode b_J_copyOf_l 18 = .ok (.aload_n 0, 1) := by decide +kernel
theorem d_J_copyOf_l_19 : decode b_J_copyOf_l 19 = .ok (.iconst 0, 1) := by decide +kernel
theorem d_J_copyOf_l_20 : decode b_J_copyOf_l 20 = .ok (.aload_n 2, 1) := by decide +kernel
theorem d_J_copyOf_l_21 : decode b_J_copyOf_l 21 = .ok (.iconst 0, 1) := by decide +kernel
theorem d_J_copyOf_l_22 : decode b_J_copyOf_l 22 = .ok (.aload_n 0, 1) := by decide +kernel
theorem d_J_copyOf_l_23 : decode b_J_copyOf_l 23 = .ok (.arraylength, 1) := by decide +kernel
theorem d_J_copyOf_l_24 : decode b_J_copyOf_l 24 = .ok (.iload_n 1, 1) := by decide +kernel
theorem d_J_copyOf_l_25 : decode b_J_copyOf_l 25 = .ok (.invokestatic 304, 3) := by decide +kernel
theorem d_J_copyOf_l_28 : decode b_J_copyOf_l 28 = .ok (.invokestatic 150, 3) := by decide +kernel
theorem d_J_copyOf_l_31 : decode b_J_copyOf_l 31 = .ok (.aload_n 2, 1) := by decide +kernel
theorem d_J_copyOf_l_32 : decode b_J_copyOf_l 32 = .ok (.areturn, 1) := by decide +kernel
theorem d_J_fill_0 : decode b_J_fill 0 = .ok (.iconst 0, 1) := by decide +kernel
theorem d_J_fill_1 : decode b_J_fill 1 = .ok (.istore_n 2, 1) := by decide +kernel
theorem d_J_fill_2 : decode b_J_fill 2 = .ok (.aload_n 0, 1) := by decide +kernel
theorem d_J_fill_3 : decode b_J_fill 3 = .ok (.arraylength, 1) := by decide +kernel
theorem d_J_fill_4 : decode b_J_fill 4 = .ok (.istore_n 3, 1) := by decide +kernel
theorem d_J_fill_5 : decode b_J_fill 5 = .ok (.iload_n 2, 1) := by decide +kernel
theorem d_J_fill_6 : decode b_J_fill 6 = .ok (.iload_n 3, 1) := by decide +kernel
theorem d_J_fill_7 : decode b_J_fill 7 = .ok (.if_icmp .ge 13, 3) := by decide +kernel
theorem d_J_fill_10 : decode b_J_fill 10 = .ok (.aload_n 0, 1) := by decide +kernel
theorem d_J_fill_11 : decode b_J_fill 11 = .ok (.iload_n 2, 1) := by decide +kernel
theorem d_J_fill_12 : decode b_J_fill 12 = .ok (.iload_n 1, 1) := by decide +kernel
theorem d_J_fill_13 : decode b_J_fill 13 = .ok (.iastore, 1) := by decide +kernel
theorem d_J_fill_14 : decode b_J_fill 14 = .ok (.iinc 2 1, 3) := by decide +kernel
theorem d_J_fill_17 : decode b_J_fill 17 = .ok (.goto (-12), 3) := by decide +kernel
theorem d_J_fill_20 : decode b_J_fill 20 = .ok (.return_, 1) := by decide +kernel
theorem d_S_add_0 : decode b_S_add 0 = .ok (.aload_n 0, 1) := by decide +kernel
theorem d_S_add_1 : decode b_S_add 1 = .ok (.getfield 9, 3) := by decide +kernel
theorem d_S_add_4 : decode b_S_add 4 = .ok (.iconst 1, 1) := by decide +kernel
theorem d_S_add_5 : decode b_S_add 5 = .ok (.iadd, 1) := by decide +kernel
theorem d_S_add_6 : decode b_S_add 6 = .ok (.aload_n 0, 1) := by decide +kernel
theorem d_S_add_7 : decode b_S_add 7 = .ok (.getfield 15, 3) := by decide +kernel
theorem d_S_add_10 : decode b_S_add 10 = .ok (.arraylength, 1) := by decide +kernel
theorem d_S_add_11 : decode b_S_add 11 = .ok (.if_icmp .lt 7, 3) := by decide +kernel
theorem d_S_add_14 : decode b_S_add 14 = .ok (.aload_n 0, 1) := by decide +kernel
theorem d_S_add_15 : decode b_S_add 15 = .ok (.invokevirtual 45, 3) := by decide +kernel
theorem d_S_add_18 : decode b_S_add 18 = .ok (.aload_n 0, 1) := by decide +kernel
theorem d_S_add_19 : decode b_S_add 19 = .ok (.dup, 1) := by decide +kernel
theorem d_S_add_20 : decode b_S_add 20 = .ok (.getfield 9, 3) := by decide +kernel
theorem d_S_add_23 : decode b_S_add 23 = .ok (.iconst 1, 1) := by decide +kernel
theorem d_S_add_24 : decode b_S_add 24 = .ok (.iadd, 1) := by decide +kernel
theorem d_S_add_25 : decode b_S_add 25 = .ok (.putfield 9, 3) := by decide +kernel
theorem d_S_add_28 : decode b_S_add 28 = .ok (.aload_n 0, 1) := by decide +kernel
theorem d_S_add_29 : decode b_S_add 29 = .ok (.getfield 15, 3) := by decide +kernel
theorem d_S_add_32 : decode b_S_add 32 = .ok (.aload_n 0, 1) := by decide +kernel
theorem d_S_add_33 : decode b_S_add 33 = .ok (.getfield 9, 3) := by decide +kernel
theorem d_S_add_36 : decode b_S_add 36 = .ok (.iload_n 1, 1) := by decide +kernel
theorem d_S_add_37 : decode b_S_add 37 = .ok (.iload_n 2, 1) := by decide +kernel
theorem d_S_add_38 : decode b_S_add 38 = .ok (.invokestatic 37, 3) := by decide +kernel
theorem d_S_add_41 : decode b_S_add 41 = .ok (.iastore, 1) := by decide +kernel
theorem d_S_add_42 : decode b_S_add 42 = .ok (.aload_n 0, 1) := by decide +kernel
theorem d_S_add_43 : decode b_S_add 43 = .ok (.getfield 19, 3) := by decide +kernel
theorem d_S_add_46 : decode b_S_add 46 = .ok (.aload_n 0, 1) := by decide +kernel
theorem d_S_add_47 : decode b_S_add 47 = .ok (.getfield 9, 3) := by decide +kernel
theorem d_S_add_50 : decode b_S_add 50 = .ok (.lload_n 3, 1) := by decide +kernel
theorem d_S_add_51 : decode b_S_add 51 = .ok (.lastore, 1) := by decide +kernel
theorem d_S_add_52 : decode b_S_add 52 = .ok (.aload_n 0, 1) := by decide +kernel
theorem d_S_add_53 : decode b_S_add 53 = .ok (.getfield 23, 3) := by decide +kernel
theorem d_S_add_56 : decode b_S_add 56 = .ok (.aload_n 0, 1) := by decide +kernel
theorem d_S_add_57 : decode b_S_add 57 = .ok (.getfield 9, 3) := by decide +kernel
theorem d_S_add_60 : decode b_S_add 60 = .ok (.iconst 0, 1) := by decide +kernel
theorem d_S_add_61 : decode b_S_add 61 = .ok (.bastore, 1) := by decide +kernel
theorem d_S_add_62 : decode b_S_add 62 = .ok (.aload_n 0, 1) := by decide +kernel
theorem d_S_add_63 : decode b_S_add 63 = .ok (.getfield 27, 3) := by decide +kernel
theorem d_S_add_66 : decode b_S_add 66 = .ok (.aload_n 0, 1) := by decide +kernel
theorem d_S_add_67 : decode b_S_add 67 = .ok (.getfield 9, 3) := by decide +kernel
theorem d_S_add_70 : decode b_S_add 70 = .ok (.lconst 0, 1) := by decide +kernel
theorem d_S_add_71 : decode b_S_add 71 = .ok (.lastore, 1) := by decide +kernel
theorem d_S_add_72 : decode b_S_add 72 = .ok (.aload_n 0, 1) := by decide +kernel
theorem d_S_add_73 : decode b_S_add 73 = .ok (.getfield 30, 3) := by decide +kernel
theorem d_S_add_76 : decode b_S_add 76 = .ok (.aload_n 0, 1) := by decide +kernel
theorem d_S_add_77 : decode b_S_add 77 = .ok (.getfield 9, 3) := by decide +kernel
theorem d_S_add_80 : decode b_S_add 80 = .ok (.iconst 0, 1) := by decide +kernel
theorem d_S_add_81 : decode b_S_add 81 = .ok (.iastore, 1) := by decide +kernel
theorem d_S_add_82 : decode b_S_add 82 = .ok (.aload_n 0, 1) := by decide +kernel
theorem d_S_add_83 : decode b_S_add 83 = .ok (.getfield 33, 3) := by decide +kernel
theorem d_S_add_86 : decode b_S_add 86 = .ok (.aload_n 0, 1) := by decide +kernel
theorem d_S_add_87 : decode b_S_add 87 = .ok (.aload_n 0, 1) := by decide +kernel
theorem d_S_add_88 : decode b_S_add 88 = .ok (.getfield 15, 3) := by decide +kernel
theorem d_S_add_91 : decode b_S_add 91 = .ok (.aload_n 0, 1) := by decide +kernel
theorem d_S_add_92 : decode b_S_add 92 = .ok (.getfield 9, 3) := by decide +kernel
theorem d_S_add_95 : decode b_S_add 95 = .ok (.iaload, 1) := by decide +kernel
theorem d_S_add_96 : decode b_S_add 96 = .ok (.lload_n 3, 1) := by decide +kernel
theorem d_S_add_97 : decode b_S_add 97 = .ok (.invokevirtual 41, 3) := by decide +kernel
theorem d_S_add_100 : decode b_S_add 100 = .ok (.aload_n 0, 1) := by decide +kernel
theorem d_S_add_101 : decode b_S_add 101 = .ok (.getfield 9, 3) := by decide +kernel
theorem d_S_add_104 : decode b_S_add 104 = .ok (.iastore, 1) := by decide +kernel
theorem d_S_add_105 : decode b_S_add 105 = .ok (.aload_n 0, 1) := by decide +kernel
theorem d_S_add_106 : decode b_S_add 106 = .ok (.getfield 9, 3) := by decide +kernel
theorem d_S_add_109 : decode b_S_add 109 = .ok (.ireturn, 1) := by decide +kernel
theorem d_S_copyValue_0 : decode b_S_copyValue 0 = .ok (.aload_n 0, 1) := by decide +kernel
theorem d_S_copyValue_1 : decode b_S_copyValue 1 = .ok (.getfield 23, 3) := by decide +kernel
theorem d_S_copyValue_4 : decode b_S_copyValue 4 = .ok (.iload_n 1, 1) := by decide +kernel
theorem d_S_copyValue_5 : decode b_S_copyValue 5 = .ok (.aload_n 0, 1) := by decide +kernel
theorem d_S_copyValue_6 : decode b_S_copyValue 6 = .ok (.getfield 23, 3) := by decide +kernel
theorem d_S_copyValue_9 : decode b_S_copyValue 9 = .ok (.iload_n 2, 1) := by decide +kernel
theorem d_S_copyValue_10 : decode b_S_copyValue 10 = .ok (.baload, 1) := by decide +kernel
theorem d_S_copyValue_11 : decode b_S_copyValue 11 = .ok (.bastore, 1) := by decide +kernel
theorem d_S_copyValue_12 : decode b_S_copyValue 12 = .ok (.aload_n 0, 1) := by decide +kernel
theorem d_S_copyValue_13 : decode b_S_copyValue 13 = .ok (.getfield 27, 3) := by decide +kernel
theorem d_S_copyValue_16 : decode b_S_copyValue 16 = .ok (.iload_n 1, 1) := by decide +kernel
theorem d_S_copyValue_17 : decode b_S_copyValue 17 = .ok (.aload_n 0, 1) := by decide +kernel
theorem d_S_copyValue_18 : decode b_S_copyValue 18 = .ok (.getfield 27, 3) := by decide +kernel
theorem d_S_copyValue_21 : decode b_S_copyValue 21 = .ok (.iload_n 2, 1) := by decide +kernel
theorem d_S_copyValue_22 : decode b_S_copyValue 22 = .ok (.laload, 1) := by decide +kernel
theorem d_S_copyValue_23 : decode b_S_copyValue 23 = .ok (.lastore, 1) := by decide +kernel
theorem d_S_copyValue_24 : decode b_S_copyValue 24 = .ok (.return_, 1) := by decide +kernel
theorem d_S_find_0 : decode b_S_find 0 = .ok (.aload_n 0, 1) := by decide +kernel
theorem d_S_find_1 : decode b_S_find 1 = .ok (.getfield 33, 3) := by decide +kernel
theorem d_S_find_4 : decode b_S_find 4 = .ok (.aload_n 0, 1) := by decide +kernel
theorem d_S_find_5 : decode b_S_find 5 = .ok (.iload_n 1, 1) := by decide +kernel
theorem d_S_find_6 : decode b_S_find 6 = .ok (.iload_n 2, 1) := by decide +kernel
theorem d_S_find_7 : decode b_S_find 7 = .ok (.invokestatic 37, 3) := by decide +kernel
theorem d_S_find_10 : decode b_S_find 10 = .ok (.lload_n 3, 1) := by decide +kernel
theorem d_S_find_11 : decode b_S_find 11 = .ok (.invokevirtual 41, 3) := by decide +kernel
theorem d_S_find_14 : decode b_S_find 14 = .ok (.iaload, 1) := by decide +kernel
theorem d_S_find_15 : decode b_S_find 15 = .ok (.ireturn, 1) := by decide +kernel
theorem d_S_forget_0 : decode b_S_forget 0 = .ok (.aload_n 0, 1) := by decide +kernel
theorem d_S_forget_1 : decode b_S_forget 1 = .ok (.iconst 0, 1) := by decide +kernel
theorem d_S_forget_2 : decode b_S_forget 2 = .ok (.putfield 9, 3) := by decide +kernel
theorem d_S_forget_5 : decode b_S_forget 5 = .ok (.aload_n 0, 1) := by decide +kernel
theorem d_S_forget_6 : decode b_S_forget 6 = .ok (.getfield 33, 3) := by decide +kernel
theorem d_S_forget_9 : decode b_S_forget 9 = .ok (.iconst 0, 1) := by decide +kernel
theorem d_S_forget_10 : decode b_S_forget 10 = .ok (.invokestatic 52, 3) := by decide +kernel
theorem d_S_forget_13 : decode b_S_forget 13 = .ok (.return_, 1) := by decide +kernel
theorem d_S_grow_0 : decode b_S_grow 0 = .ok (.aload_n 0, 1) := by decide +kernel
theorem d_S_grow_1 : decode b_S_grow 1 = .ok (.getfield 15, 3) := by decide +kernel
theorem d_S_grow_4 : decode b_S_grow 4 = .ok (.arraylength, 1) := by decide +kernel
theorem d_S_grow_5 : decode b_S_grow 5 = .ok (.iconst 4, 1) := by decide +kernel
theorem d_S_grow_6 : decode b_S_grow 6 = .ok (.imul, 1) := by decide +kernel
theorem d_S_grow_7 : decode b_S_grow 7 = .ok (.ldc 67, 2) := by decide +kernel
theorem d_S_grow_9 : decode b_S_grow 9 = .ok (.invokestatic 68, 3) := by decide +kernel
theorem d_S_grow_12 : decode b_S_grow 12 = .ok (.istore_n 1, 1) := by decide +kernel
theorem d_S_grow_13 : decode b_S_grow 13 = .ok (.aload_n 0, 1) := by decide +kernel
theorem d_S_grow_14 : decode b_S_grow 14 = .ok (.aload_n 0, 1) := by decide +kernel
theorem d_S_grow_15 : decode b_S_grow 15 = .ok (.getfield 15, 3) := by decide +kernel
theorem d_S_grow_18 : decode b_S_grow 18 = .ok (.iload_n 1, 1) := by decide +kernel
theorem d_S_grow_19 : decode b_S_grow 19 = .ok (.invokestatic 73, 3) := by decide +kernel
theorem d_S_grow_22 : decode b_S_grow 22 = .ok (.putfield 15, 3) := by decide +kernel
theorem d_S_grow_25 : decode b_S_grow 25 = .ok (.aload_n 0, 1) := by decide +kernel
theorem d_S_grow_26 : decode b_S_grow 26 = .ok (.aload_n 0, 1) := by decide +kernel
theorem d_S_grow_27 : decode b_S_grow 27 = .ok (.getfield 19, 3) := by decide +kernel
theorem d_S_grow_30 : decode b_S_grow 30 = .ok (.iload_n 1, 1) := by decide +kernel
theorem d_S_grow_31 : decode b_S_grow 31 = .ok (.invokestatic 77, 3) := by decide +kernel
theorem d_S_grow_34 : decode b_S_grow 34 = .ok (.putfield 19, 3) := by decide +kernel
theorem d_S_grow_37 : decode b_S_grow 37 = .ok (.aload_n 0, 1) := by decide +kernel
theorem d_S_grow_38 : decode b_S_grow 38 = .ok (.aload_n 0, 1) := by decide +kernel
theorem d_S_grow_39 : decode b_S_grow 39 = .ok (.getfield 23, 3) := by decide +kernel
theorem d_S_grow_42 : decode b_S_grow 42 = .ok (.iload_n 1, 1) := by decide +kernel
theorem d_S_grow_43 : decode b_S_grow 43 = .ok (.invokestatic 80, 3) := by decide +kernel
theorem d_S_grow_46 : decode b_S_grow 46 = .ok (.putfield 23, 3) := by decide +kernel
theorem d_S_grow_49 : decode b_S_grow 49 = .ok (.aload_n 0, 1) := by decide +kernel
theorem d_S_grow_50 : decode b_S_grow 50 = .ok (.aload_n 0, 1) := by decide +kernel
theorem d_S_grow_51 : decode b_S_grow 51 = .ok (.getfield 27, 3) := by decide +kernel
theorem d_S_grow_54 : decode b_S_grow 54 = .ok (.iload_n 1, 1) := by decide +kernel
theorem d_S_grow_55 : decode b_S_grow 55 = .ok (.invokestatic 77, 3) := by decide +kernel
theorem d_S_grow_58 : decode b_S_grow 58 = .ok (.putfield 27, 3) := by decide +kernel
theorem d_S_grow_61 : decode b_S_grow 61 = .ok (.aload_n 0, 1) := by decide +kernel
theorem d_S_grow_62 : decode b_S_grow 62 = .ok (.aload_n 0, 1) := by decide +kernel
theorem d_S_grow_63 : decode b_S_grow 63 = .ok (.getfield 30, 3) := by decide +kernel
theorem d_S_grow_66 : decode b_S_grow 66 = .ok (.iload_n 1, 1) := by decide +kernel
theorem d_S_grow_67 : decode b_S_grow 67 = .ok (.invokestatic 73, 3) := by decide +kernel
theorem d_S_grow_70 : decode b_S_grow 70 = .ok (.putfield 30, 3) := by decide +kernel
theorem d_S_grow_73 : decode b_S_grow 73 = .ok (.aload_n 0, 1) := by decide +kernel
theorem d_S_grow_74 : decode b_S_grow 74 = .ok (.aload_n 0, 1) := by decide +kernel
theorem d_S_grow_75 : decode b_S_grow 75 = .ok (.getfield 33, 3) := by decide +kernel
theorem d_S_grow_78 : decode b_S_grow 78 = .ok (.arraylength, 1) := by decide +kernel
theorem d_S_grow_79 : decode b_S_grow 79 = .ok (.iconst 4, 1) := by decide +kernel
theorem d_S_grow_80 : decode b_S_grow 80 = .ok (.imul, 1) := by decide +kernel
theorem d_S_grow_81 : decode b_S_grow 81 = .ok (.newarray .int, 2) := by decide +kernel
theorem d_S_grow_83 : decode b_S_grow 83 = .ok (.putfield 33, 3) := by decide +kernel
theorem d_S_grow_86 : decode b_S_grow 86 = .ok (.iconst 1, 1) := by decide +kernel
theorem d_S_grow_87 : decode b_S_grow 87 = .ok (.istore_n 2, 1) := by decide +kernel
theorem d_S_grow_88 : decode b_S_grow 88 = .ok (.iload_n 2, 1) := by decide +kernel
theorem d_S_grow_89 : decode b_S_grow 89 = .ok (.aload_n 0, 1) := by decide +kernel
theorem d_S_grow_90 : decode b_S_grow 90 = .ok (.getfield 9, 3) := by decide +kernel
theorem d_S_grow_93 : decode b_S_grow 93 = .ok (.if_icmp .gt 31, 3) := by decide +kernel
theorem d_S_grow_96 : decode b_S_grow 96 = .ok (.aload_n 0, 1) := by decide +kernel
theorem d_S_grow_97 : decode b_S_grow 97 = .ok (.getfield 33, 3) := by decide +kernel
theorem d_S_grow_100 : decode b_S_grow 100 = .ok (.aload_n 0, 1) := by decide +kernel
theorem d_S_grow_101 : decode b_S_grow 101 = .ok (.aload_n 0, 1) := by decide +kernel
theorem d_S_grow_102 : decode b_S_grow 102 = .ok (.getfield 15, 3) := by decide +kernel
theorem d_S_grow_105 : decode b_S_grow 105 = .ok (.iload_n 2, 1) := by decide +kernel
theorem d_S_grow_106 : decode b_S_grow 106 = .ok (.iaload, 1) := by decide +kernel
theorem d_S_grow_107 : decode b_S_grow 107 = .ok (.aload_n 0, 1) := by decide +kernel
theorem d_S_grow_108 : decode b_S_grow 108 = .ok (.getfield 19, 3) := by decide +kernel
theorem d_S_grow_111 : decode b_S_grow 111 = .ok (.iload_n 2, 1) := by decide +kernel
theorem d_S_grow_112 : decode b_S_grow 112 = .ok (.laload, 1) := by decide +kernel
theorem d_S_grow_113 : decode b_S_grow 113 = .ok (.invokevirtual 41, 3) := by decide +kernel
theorem d_S_grow_116 : decode b_S_grow 116 = .ok (.iload_n 2, 1) := by decide +kernel
theorem d_S_grow_117 : decode b_S_grow 117 = .ok (.iastore, 1) := by decide +kernel
theorem d_S_grow_118 : decode b_S_grow 118 = .ok (.iinc 2 1, 3) := by decide +kernel
theorem d_S_grow_121 : decode b_S_grow 121 = .ok (.goto (-33), 3) := by decide +kernel
theorem d_S_grow_124 : decode b_S_grow 124 = .ok (.return_, 1) := by decide +kernel
theorem d_S_init_0 : decode b_S_init 0 = .ok (.aload_n 0, 1) := by decide +kernel
theorem d_S_init_1 : decode b_S_init 1 = .ok (.invokespecial 3, 3) := by decide +kernel
theorem d_S_init_4 : decode b_S_init 4 = .ok (.aload_n 0, 1) := by decide +kernel
theorem d_S_init_5 : decode b_S_init 5 = .ok (.iconst 0, 1) := by decide +kernel
theorem d_S_init_6 : decode b_S_init 6 = .ok (.putfield 9, 3) := by decide +kernel
theorem d_S_init_9 : decode b_S_init 9 = .ok (.aload_n 0, 1) := by decide +kernel
theorem d_S_init_10 : decode b_S_init 10 = .ok (.bipush 64, 2) := by decide +kernel
theorem d_S_init_12 : decode b_S_init 12 = .ok (.newarray .int, 2) := by decide +kernel
theorem d_S_init_14 : decode b_S_init 14 = .ok (.putfield 15, 3) := by decide +kernel
theorem d_S_init_17 : decode b_S_init 17 = .ok (.aload_n 0, 1) := by decide +kernel
theorem d_S_init_18 : decode b_S_init 18 = .ok (.bipush 64, 2) := by decide +kernel
theorem d_S_init_20 : decode b_S_init 20 = .ok (.newarray .long, 2) := by decide +kernel
theorem d_S_init_22 : decode b_S_init 22 = .ok (.putfield 19, 3) := by decide +kernel
theorem d_S_init_25 : decode b_S_init 25 = .ok (.aload_n 0, 1) := by decide +kernel
theorem d_S_init_26 : decode b_S_init 26 = .ok (.bipush 64, 2) := by decide +kernel
theorem d_S_init_28 : decode b_S_init 28 = .ok (.newarray .byte, 2) := by decide +kernel
theorem d_S_init_30 : decode b_S_init 30 = .ok (.putfield 23, 3) := by decide +kernel
theorem d_S_init_33 : decode b_S_init 33 = .ok (.aload_n 0, 1) := by decide +kernel
theorem d_S_init_34 : decode b_S_init 34 = .ok (.bipush 64, 2) := by decide +kernel
theorem d_S_init_36 : decode b_S_init 36 = .ok (.newarray .long, 2) := by decide +kernel
theorem d_S_init_38 : decode b_S_init 38 = .ok (.putfield 27, 3) := by decide +kernel
theorem d_S_init_41 : decode b_S_init 41 = .ok (.aload_n 0, 1) := by decide +kernel
theorem d_S_init_42 : decode b_S_init 42 = .ok (.bipush 64, 2) := by decide +kernel
theorem d_S_init_44 : decode b_S_init 44 = .ok (.newarray .int, 2) := by decide +kernel
theorem d_S_init_46 : decode b_S_init 46 = .ok (.putfield 30, 3) := by decide +kernel
theorem d_S_init_49 : decode b_S_init 49 = .ok (.aload_n 0, 1) := by decide +kernel
theorem d_S_init_50 : decode b_S_init 50 = .ok (.sipush 128, 3) := by decide +kernel
theorem d_S_init_53 : decode b_S_init 53 = .ok (.newarray .int, 2) := by decide +kernel
theorem d_S_init_55 : decode b_S_init 55 = .ok (.putfield 33, 3) := by decide +kernel
theorem d_S_init_58 : decode b_S_init 58 = .ok (.return_, 1) := by decide +kernel
theorem d_S_keyKind_0 : decode b_S_keyKind 0 = .ok (.aload_n 0, 1) := by decide +kernel
theorem d_S_keyKind_1 : decode b_S_keyKind 1 = .ok (.getfield 15, 3) := by decide +kernel
theorem d_S_keyKind_4 : decode b_S_keyKind 4 = .ok (.iload_n 1, 1) := by decide +kernel
theorem d_S_keyKind_5 : decode b_S_keyKind 5 = .ok (.iaload, 1) := by decide +kernel
theorem d_S_keyKind_6 : decode b_S_keyKind 6 = .ok (.bipush 7, 2) := by decide +kernel
theorem d_S_keyKind_8 : decode b_S_keyKind 8 = .ok (.iand, 1) := by decide +kernel
theorem d_S_keyKind_9 : decode b_S_keyKind 9 = .ok (.ireturn, 1) := by decide +kernel
theorem d_S_owner_0 : decode b_S_owner 0 = .ok (.iload_n 0, 1) := by decide +kernel
theorem d_S_owner_1 : decode b_S_owner 1 = .ok (.iconst 3, 1) := by decide +kernel
theorem d_S_owner_2 : decode b_S_owner 2 = .ok (.ishl, 1) := by decide +kernel
theorem d_S_owner_3 : decode b_S_owner 3 = .ok (.iload_n 1, 1) := by decide +kernel
theorem d_S_owner_4 : decode b_S_owner 4 = .ok (.ior, 1) := by decide +kernel
theorem d_S_owner_5 : decode b_S_owner 5 = .ok (.ireturn, 1) := by decide +kernel
theorem d_S_room_0 : decode b_S_room 0 = .ok (.ldc 36, 2) := by decide +kernel
theorem d_S_room_2 : decode b_S_room 2 = .ok (.aload_n 0, 1) := by decide +kernel
theorem d_S_room_3 : decode b_S_room 3 = .ok (.getfield 9, 3) := by decide +kernel
theorem d_S_room_6 : decode b_S_room 6 = .ok (.isub, 1) := by decide +kernel
theorem d_S_room_7 : decode b_S_room 7 = .ok (.ireturn, 1) := by decide +kernel
theorem d_S_sameValues_0 : decode b_S_sameValues 0 = .ok (.aload_n 0, 1) := by decide +kernel
theorem d_S_sameValues_1 : decode b_S_sameValues 1 = .ok (.getfield 23, 3) := by decide +kernel
theorem d_S_sameValues_4 : decode b_S_sameValues 4 = .ok (.iload_n 1, 1) := by decide +kernel
theorem d_S_sameValues_5 : decode b_S_sameValues 5 = .ok (.baload, 1) := by decide +kernel
theorem d_S_sameValues_6 : decode b_S_sameValues 6 = .ok (.aload_n 0, 1) := by decide +kernel
theorem d_S_sameValues_7 : decode b_S_sameValues 7 = .ok (.getfield 23, 3) := by decide +kernel
theorem d_S_sameValues_10 : decode b_S_sameValues 10 = .ok (.iload_n 2, 1) := by decide +kernel
theorem d_S_sameValues_11 : decode b_S_sameValues 11 = .ok (.baload, 1) := by decide +kernel
theorem d_S_sameValues_12 : decode b_S_sameValues 12 = .ok (.if_icmp .ne 23, 3) := by decide +kernel
theorem d_S_sameValues_15 : decode b_S_sameValues 15 = .ok (.aload_n 0, 1) := by decide +kernel
theorem d_S_sameValues_16 : decode b_S_sameValues 16 = .ok (.getfield 27, 3) := by decide +kernel
theorem d_S_sameValues_19 : decode b_S_sameValues 19 = .ok (.iload_n 1, 1) := by decide +kernel
theorem d_S_sameValues_20 : decode b_S_sameValues 20 = .ok (.laload, 1) := by decide +kernel
theorem d_S_sameValues_21 : decode b_S_sameValues 21 = .ok (.aload_n 0, 1) := by decide +kernel
theorem d_S_sameValues_22 : decode b_S_sameValues 22 = .ok (.getfield 27, 3) := by decide +kernel
theorem d_S_sameValues_25 : decode b_S_sameValues 25 = .ok (.iload_n 2, 1) := by decide +kernel
theorem d_S_sameValues_26 : decode b_S_sameValues 26 = .ok (.laload, 1) := by decide +kernel
theorem d_S_sameValues_27 : decode b_S_sameValues 27 = .ok (.lcmp, 1) := by decide +kernel
theorem d_S_sameValues_28 : decode b_S_sameValues 28 = .ok (.ifCond .ne 7, 3) := by decide +kernel
theorem d_S_sameValues_31 : decode b_S_sameValues 31 = .ok (.iconst 1, 1) := by decide +kernel
theorem d_S_sameValues_32 : decode b_S_sameValues 32 = .ok (.goto 4, 3) := by decide +kernel
theorem d_S_sameValues_35 : decode b_S_sameValues 35 = .ok (.iconst 0, 1) := by decide +kernel
theorem d_S_sameValues_36 : decode b_S_sameValues 36 = .ok (.ireturn, 1) := by decide +kernel
theorem d_S_scatter_0 : decode b_S_scatter 0 = .ok (.lload_n 1, 1) := by decide +kernel
theorem d_S_scatter_1 : decode b_S_scatter 1 = .ok (.ldc2_w 61, 3) := by decide +kernel
theorem d_S_scatter_4 : decode b_S_scatter 4 = .ok (.lmul, 1) := by decide +kernel
theorem d_S_scatter_5 : decode b_S_scatter 5 = .ok (.iload_n 0, 1) := by decide +kernel
theorem d_S_scatter_6 : decode b_S_scatter 6 = .ok (.i2l, 1) := by decide +kernel
theorem d_S_scatter_7 : decode b_S_scatter 7 = .ok (.ldc2_w 63, 3) := by decide +kernel
theorem d_S_scatter_10 : decode b_S_scatter 10 = .ok (.lmul, 1) := by decide +kernel
theorem d_S_scatter_11 : decode b_S_scatter 11 = .ok (.ladd, 1) := by decide +kernel
theorem d_S_scatter_12 : decode b_S_scatter 12 = .ok (.lstore_n 3, 1) := by decide +kernel
theorem d_S_scatter_13 : decode b_S_scatter 13 = .ok (.lload_n 3, 1) := by decide +kernel
theorem d_S_scatter_14 : decode b_S_scatter 14 = .ok (.lload_n 3, 1) := by decide +kernel
theorem d_S_scatter_15 : decode b_S_scatter 15 = .ok (.bipush 32, 2) := by decide +kernel
theorem d_S_scatter_17 : decode b_S_scatter 17 = .ok (.lushr, 1) := by decide +kernel
theorem d_S_scatter_18 : decode b_S_scatter 18 = .ok (.lxor, 1) := by decide +kernel
theorem d_S_scatter_19 : decode b_S_scatter 19 = .ok (.ldc2_w 65, 3) := by decide +kernel
theorem d_S_scatter_22 : decode b_S_scatter 22 = .ok (.lmul, 1) := by decide +kernel
theorem d_S_scatter_23 : decode b_S_scatter 23 = .ok (.lstore_n 3, 1) := by decide +kernel
theorem d_S_scatter_24 : decode b_S_scatter 24 = .ok (.lload_n 3, 1) := by decide +kernel
theorem d_S_scatter_25 : decode b_S_scatter 25 = .ok (.lload_n 3, 1) := by decide +kernel
theorem d_S_scatter_26 : decode b_S_scatter 26 = .ok (.bipush 32, 2) := by decide +kernel
theorem d_S_scatter_28 : decode b_S_scatter 28 = .ok (.lushr, 1) := by decide +kernel
theorem d_S_scatter_29 : decode b_S_scatter 29 = .ok (.lxor, 1) := by decide +kernel
theorem d_S_scatter_30 : decode b_S_scatter 30 = .ok (.l2i, 1) := by decide +kernel
theorem d_S_scatter_31 : decode b_S_scatter 31 = .ok (.ireturn, 1) := by decide +kernel
theorem d_S_setValue_0 : decode b_S_setValue 0 = .ok (.aload_n 0, 1) := by decide +kernel
theorem d_S_setValue_1 : decode b_S_setValue 1 = .ok (.getfield 23, 3) := by decide +kernel
theorem d_S_setValue_4 : decode b_S_setValue 4 = .ok (.iload_n 1, 1) := by decide +kernel
theorem d_S_setValue_5 : decode b_S_setValue 5 = .ok (.iload_n 2, 1) := by decide +kernel
theorem d_S_setValue_6 : decode b_S_setValue 6 = .ok (.i2b, 1) := by decide +kernel
theorem d_S_setValue_7 : decode b_S_setValue 7 = .ok (.bastore, 1) := by decide +kernel
theorem d_S_setValue_8 : decode b_S_setValue 8 = .ok (.aload_n 0, 1) := by decide +kernel
theorem d_S_setValue_9 : decode b_S_setValue 9 = .ok (.getfield 27, 3) := by decide +kernel
theorem d_S_setValue_12 : decode b_S_setValue 12 = .ok (.iload_n 1, 1) := by decide +kernel
theorem d_S_setValue_13 : decode b_S_setValue 13 = .ok (.iload_n 2, 1) := by decide +kernel
theorem d_S_setValue_14 : decode b_S_setValue 14 = .ok (.ifCond .ne 7, 3) := by decide +kernel
theorem d_S_setValue_17 : decode b_S_setValue 17 = .ok (.lconst 0, 1) := by decide +kernel
theorem d_S_setValue_18 : decode b_S_setValue 18 = .ok (.goto 4, 3) := by decide +kernel
theorem d_S_setValue_21 : decode b_S_setValue 21 = .ok (.lload_n 3, 1) := by decide +kernel
theorem d_S_setValue_22 : decode b_S_setValue 22 = .ok (.lastore, 1) := by decide +kernel
theorem d_S_setValue_23 : decode b_S_setValue 23 = .ok (.return_, 1) := by decide +kernel
theorem d_S_slotOf_0 : decode b_S_slotOf 0 = .ok (.aload_n 0, 1) := by decide +kernel
theorem d_S_slotOf_1 : decode b_S_slotOf 1 = .ok (.getfield 33, 3) := by decide +kernel
theorem d_S_slotOf_4 : decode b_S_slotOf 4 = .ok (.arraylength, 1) := by decide +kernel
theorem d_S_slotOf_5 : decode b_S_slotOf 5 = .ok (.iconst 1, 1) := by decide +kernel
theorem d_S_slotOf_6 : decode b_S_slotOf 6 = .ok (.isub, 1) := by decide +kernel
theorem d_S_slotOf_7 : decode b_S_slotOf 7 = .ok (.istore 4, 2) := by decide +kernel
theorem d_S_slotOf_9 : decode b_S_slotOf 9 = .ok (.iload_n 1, 1) := by decide +kernel
theorem d_S_slotOf_10 : decode b_S_slotOf 10 = .ok (.lload_n 2, 1) := by decide +kernel
theorem d_S_slotOf_11 : decode b_S_slotOf 11 = .ok (.invokestatic 58, 3) := by decide +kernel
theorem d_S_slotOf_14 : decode b_S_slotOf 14 = .ok (.iload 4, 2) := by decide +kernel
theorem d_S_slotOf_16 : decode b_S_slotOf 16 = .ok (.iand, 1) := by decide +kernel
theorem d_S_slotOf_17 : decode b_S_slotOf 17 = .ok (.istore 5, 2) := by decide +kernel
theorem d_S_slotOf_19 : decode b_S_slotOf 19 = .ok (.iconst 0, 1) := by decide +kernel
theorem d_S_slotOf_20 : decode b_S_slotOf 20 = .ok (.istore 6, 2) := by decide +kernel
theorem d_S_slotOf_22 : decode b_S_slotOf 22 = .ok (.iload 6, 2) := by decide +kernel
theorem d_S_slotOf_24 : decode b_S_slotOf 24 = .ok (.iload 4, 2) := by decide +kernel
theorem d_S_slotOf_26 : decode b_S_slotOf 26 = .ok (.if_icmp .gt 58, 3) := by decide +kernel
theorem d_S_slotOf_29 : decode b_S_slotOf 29 = .ok (.aload_n 0, 1) := by decide +kernel
theorem d_S_slotOf_30 : decode b_S_slotOf 30 = .ok (.getfield 33, 3) := by decide +kernel
theorem d_S_slotOf_33 : decode b_S_slotOf 33 = .ok (.iload 5, 2) := by decide +kernel
theorem d_S_slotOf_35 : decode b_S_slotOf 35 = .ok (.iaload, 1) := by decide +kernel
theorem d_S_slotOf_36 : decode b_S_slotOf 36 = .ok (.istore 7, 2) := by decide +kernel
theorem d_S_slotOf_38 : decode b_S_slotOf 38 = .ok (.iload 7, 2) := by decide +kernel
theorem d_S_slotOf_40 : decode b_S_slotOf 40 = .ok (.ifCond .eq 26, 3) := by decide +kernel
theorem d_S_slotOf_43 : decode b_S_slotOf 43 = .ok (.aload_n 0, 1) := by decide +kernel
theorem d_S_slotOf_44 : decode b_S_slotOf 44 = .ok (.getfield 19, 3) := by decide +kernel
theorem d_S_slotOf_47 : decode b_S_slotOf 47 = .ok (.iload 7, 2) := by decide +kernel
theorem d_S_slotOf_49 : decode b_S_slotOf 49 = .ok (.laload, 1) := by decide +kernel
theorem d_S_slotOf_50 : decode b_S_slotOf 50 = .ok (.lload_n 2, 1) := by decide +kernel
theorem d_S_slotOf_51 : decode b_S_slotOf 51 = .ok (.lcmp, 1) := by decide +kernel
theorem d_S_slotOf_52 : decode b_S_slotOf 52 = .ok (.ifCond .ne 17, 3) := by decide +kernel
theorem d_S_slotOf_55 : decode b_S_slotOf 55 = .ok (.aload_n 0, 1) := by decide +kernel
theorem d_S_slotOf_56 : decode b_S_slotOf 56 = .ok (.getfield 15, 3) := by decide +kernel
theorem d_S_slotOf_59 : decode b_S_slotOf 59 = .ok (.iload 7, 2) := by decide +kernel
theorem d_S_slotOf_61 : decode b_S_slotOf 61 = .ok (.iaload, 1) := by decide +kernel
theorem d_S_slotOf_62 : decode b_S_slotOf 62 = .ok (.iload_n 1, 1) := by decide +kernel
theorem d_S_slotOf_63 : decode b_S_slotOf 63 = .ok (.if_icmp .ne 6, 3) := by decide +kernel
theorem d_S_slotOf_66 : decode b_S_slotOf 66 = .ok (.iload 5, 2) := by decide +kernel
theorem d_S_slotOf_68 : decode b_S_slotOf 68 = .ok (.ireturn, 1) := by decide +kernel
theorem d_S_slotOf_69 : decode b_S_slotOf 69 = .ok (.iload 5, 2) := by decide +kernel
theorem d_S_slotOf_71 : decode b_S_slotOf 71 = .ok (.iconst 1, 1) := by decide +kernel
theorem d_S_slotOf_72 : decode b_S_slotOf 72 = .ok (.iadd, 1) := by decide +kernel
theorem d_S_slotOf_73 : decode b_S_slotOf 73 = .ok (.iload 4, 2) := by decide +kernel
theorem d_S_slotOf_75 : decode b_S_slotOf 75 = .ok (.iand, 1) := by decide +kernel
theorem d_S_slotOf_76 : decode b_S_slotOf 76 = .ok (.istore 5, 2) := by decide +kernel
theorem d_S_slotOf_78 : decode b_S_slotOf 78 = .ok (.iinc 6 1, 3) := by decide +kernel
theorem d_S_slotOf_81 : decode b_S_slotOf 81 = .ok (.goto (-59), 3) := by decide +kernel
theorem d_S_slotOf_84 : decode b_S_slotOf 84 = .ok (.iload 5, 2) := by decide +kernel
theorem d_S_slotOf_86 : decode b_S_slotOf 86 = .ok (.ireturn, 1) := by decide +kernel
theorem d_S_swapValues_0 : decode b_S_swapValues 0 = .ok (.aload_n 0, 1) := by decide +kernel
theorem d_S_swapValues_1 : decode b_S_swapValues 1 = .ok (.getfield 23, 3) := by decide +kernel
theorem d_S_swapValues_4 : decode b_S_swapValues 4 = .ok (.iload_n 1, 1) := by decide +kernel
theorem d_S_swapValues_5 : decode b_S_swapValues 5 = .ok (.baload, 1) := by decide +kernel
theorem d_S_swapValues_6 : decode b_S_swapValues 6 = .ok (.istore_n 3, 1) := by decide +kernel
theorem d_S_swapValues_7 : decode b_S_swapValues 7 = .ok (.aload_n 0, 1) := by decide +kernel
theorem d_S_swapValues_8 : decode b_S_swapValues 8 = .ok (.getfield 27, 3) := by decide +kernel
theorem d_S_swapValues_11 : decode b_S_swapValues 11 = .ok (.iload_n 1, 1) := by decide +kernel
theorem d_S_swapValues_12 : decode b_S_swapValues 12 = .ok (.laload, 1) := by decide +kernel
theorem d_S_swapValues_13 : decode b_S_swapValues 13 = .ok (.lstore 4, 2) := by decide +kernel
theorem d_S_swapValues_15 : decode b_S_swapValues 15 = .ok (.aload_n 0, 1) := by decide +kernel
theorem d_S_swapValues_16 : decode b_S_swapValues 16 = .ok (.iload_n 1, 1) := by decide +kernel
theorem d_S_swapValues_17 : decode b_S_swapValues 17 = .ok (.iload_n 2, 1) := by decide +kernel
theorem d_S_swapValues_18 : decode b_S_swapValues 18 = .ok (.invokevirtual 48, 3) := by decide +kernel
theorem d_S_swapValues_21 : decode b_S_swapValues 21 = .ok (.aload_n 0, 1) := by decide +kernel
theorem d_S_swapValues_22 : decode b_S_swapValues 22 = .ok (.getfield 23, 3) := by decide +kernel
theorem d_S_swapValues_25 : decode b_S_swapValues 25 = .ok (.iload_n 2, 1) := by decide +kernel
theorem d_S_swapValues_26 : decode b_S_swapValues 26 = .ok (.iload_n 3, 1) := by decide +kernel
theorem d_S_swapValues_27 : decode b_S_swapValues 27 = .ok (.bastore, 1) := by decide +kernel
theorem d_S_swapValues_28 : decode b_S_swapValues 28 = .ok (.aload_n 0, 1) := by decide +kernel
theorem d_S_swapValues_29 : decode b_S_swapValues 29 = .ok (.getfield 27, 3) := by decide +kernel
theorem d_S_swapValues_32 : decode b_S_swapValues 32 = .ok (.iload_n 2, 1) := by decide +kernel
theorem d_S_swapValues_33 : decode b_S_swapValues 33 = .ok (.lload 4, 2) := by decide +kernel
theorem d_S_swapValues_35 : decode b_S_swapValues 35 = .ok (.lastore, 1) := by decide +kernel
theorem d_S_swapValues_36 : decode b_S_swapValues 36 = .ok (.return_, 1) := by decide +kernel
