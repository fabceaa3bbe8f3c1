theorem d_M_find_0 : decode b_M_find 0 = .ok (.aload_n 0, 1) := by decide +kernel
theorem d_M_find_1 : decode b_M_find 1 = .ok (.getfield 33, 3) := by decide +kernel
theorem d_M_find_4 : decode b_M_find 4 = .ok (.iload_n 1, 1) := by decide +kernel
theorem d_M_find_5 : decode b_M_find 5 = .ok (.iload_n 2, 1) := by decide +kernel
theorem d_M_find_6 : decode b_M_find 6 = .ok (.lload_n 3, 1) := by decide +kernel
theorem d_M_find_7 : decode b_M_find 7 = .ok (.invokestatic 69, 3) := by decide +kernel
theorem d_M_find_10 : decode b_M_find 10 = .ok (.iaload, 1) := by decide +kernel
theorem d_M_find_11 : decode b_M_find 11 = .ok (.istore 5, 2) := by decide +kernel
theorem d_M_find_13 : decode b_M_find 13 = .ok (.iload 5, 2) := by decide +kernel
theorem d_M_find_15 : decode b_M_find 15 = .ok (.ifCond .le 49, 3) := by decide +kernel
theorem d_M_find_18 : decode b_M_find 18 = .ok (.aload_n 0, 1) := by decide +kernel
theorem d_M_find_19 : decode b_M_find 19 = .ok (.getfield 23, 3) := by decide +kernel
theorem d_M_find_22 : decode b_M_find 22 = .ok (.iload 5, 2) := by decide +kernel
theorem d_M_find_24 : decode b_M_find 24 = .ok (.iaload, 1) := by decide +kernel
theorem d_M_find_25 : decode b_M_find 25 = .ok (.iload_n 1, 1) := by decide +kernel
theorem d_M_find_26 : decode b_M_find 26 = .ok (.if_icmp .ne 26, 3) := by decide +kernel
theorem d_M_find_29 : decode b_M_find 29 = .ok (.aload_n 0, 1) := by decide +kernel
theorem d_M_find_30 : decode b_M_find 30 = .ok (.getfield 7, 3) := by decide +kernel
theorem d_M_find_33 : decode b_M_find 33 = .ok (.iload 5, 2) := by decide +kernel
theorem d_M_find_35 : decode b_M_find 35 = .ok (.baload, 1) := by decide +kernel
theorem d_M_find_36 : decode b_M_find 36 = .ok (.iload_n 2, 1) := by decide +kernel
theorem d_M_find_37 : decode b_M_find 37 = .ok (.if_icmp .ne 15, 3) := by decide +kernel
theorem d_M_find_40 : decode b_M_find 40 = .ok (.aload_n 0, 1) := by decide +kernel
theorem d_M_find_41 : decode b_M_find 41 = .ok (.getfield 13, 3) := by decide +kernel
theorem d_M_find_44 : decode b_M_find 44 = .ok (.iload 5, 2) := by decide +kernel
theorem d_M_find_46 : decode b_M_find 46 = .ok (.laload, 1) := by decide +kernel
theorem d_M_find_47 : decode b_M_find 47 = .ok (.lload_n 3, 1) := by decide +kernel
theorem d_M_find_48 : decode b_M_find 48 = .ok (.lcmp, 1) := by decide +kernel
theorem d_M_find_49 : decode b_M_find 49 = .ok (.ifCond .eq 15, 3) := by decide +kernel
theorem d_M_find_52 : decode b_M_find 52 = .ok (.aload_n 0, 1) := by decide +kernel
theorem d_M_find_53 : decode b_M_find 53 = .ok (.getfield 30, 3) := by decide +kernel
theorem d_M_find_56 : decode b_M_find 56 = .ok (.iload 5, 2) := by decide +kernel
theorem d_M_find_58 : decode b_M_find 58 = .ok (.iaload, 1) := by decide +kernel
theorem d_M_find_59 : decode b_M_find 59 = .ok (.istore 5, 2) := by decide +kernel
theorem d_M_find_61 : decode b_M_find 61 = .ok (.goto (-48), 3) := by decide +kernel
theorem d_M_find_64 : decode b_M_find 64 = .ok (.iload 5, 2) := by decide +kernel
theorem d_M_find_66 : decode b_M_find 66 = .ok (.ireturn, 1) := by decide +kernel
theorem d_M_findWhole_0 : decode b_M_findWhole 0 = .ok (.aload_n 0, 1) := by decide +kernel
theorem d_M_findWhole_1 : decode b_M_findWhole 1 = .ok (.iload_n 1, 1) := by decide +kernel
theorem d_M_findWhole_2 : decode b_M_findWhole 2 = .ok (.iconst 3, 1) := by decide +kernel
theorem d_M_findWhole_3 : decode b_M_findWhole 3 = .ok (.lload_n 2, 1) := by decide +kernel
theorem d_M_findWhole_4 : decode b_M_findWhole 4 = .ok (.invokevirtual 73, 3) := by decide +kernel
theorem d_M_findWhole_7 : decode b_M_findWhole 7 = .ok (.ireturn, 1) := by decide +kernel
theorem d_M_give_0 : decode b_M_give 0 = .ok (.aload_n 0, 1) := by decide +kernel
theorem d_M_give_1 : decode b_M_give 1 = .ok (.iload_n 1, 1) := by decide +kernel
theorem d_M_give_2 : decode b_M_give 2 = .ok (.iload_n 2, 1) := by decide +kernel
theorem d_M_give_3 : decode b_M_give 3 = .ok (.lload_n 3, 1) := by decide +kernel
theorem d_M_give_4 : decode b_M_give 4 = .ok (.invokevirtual 73, 3) := by decide +kernel
theorem d_M_give_7 : decode b_M_give 7 = .ok (.istore 8, 2) := by decide +kernel
theorem d_M_give_9 : decode b_M_give 9 = .ok (.iload 8, 2) := by decide +kernel
theorem d_M_give_11 : decode b_M_give 11 = .ok (.ifCond .ne 10, 3) := by decide +kernel
theorem d_M_give_14 : decode b_M_give 14 = .ok (.iload 5, 2) := by decide +kernel
theorem d_M_give_16 : decode b_M_give 16 = .ok (.ifCond .ne 5, 3) := by decide +kernel
theorem d_M_give_19 : decode b_M_give 19 = .ok (.iconst 0, 1) := by decide +kernel
theorem d_M_give_20 : decode b_M_give 20 = .ok (.ireturn, 1) := by decide +kernel
theorem d_M_give_21 : decode b_M_give 21 = .ok (.iload 8, 2) := by decide +kernel
theorem d_M_give_23 : decode b_M_give 23 = .ok (.ifCond .ne 7, 3) := by decide +kernel
theorem d_M_give_26 : decode b_M_give 26 = .ok (.iconst 1, 1) := by decide +kernel
theorem d_M_give_27 : decode b_M_give 27 = .ok (.goto 4, 3) := by decide +kernel
theorem d_M_give_30 : decode b_M_give 30 = .ok (.iconst 0, 1) := by decide +kernel
theorem d_M_give_31 : decode b_M_give 31 = .ok (.istore 9, 2) := by decide +kernel
theorem d_M_give_33 : decode b_M_give 33 = .ok (.aload_n 0, 1) := by decide +kernel
theorem d_M_give_34 : decode b_M_give 34 = .ok (.iload 8, 2) := by decide +kernel
theorem d_M_give_36 : decode b_M_give 36 = .ok (.ifCond .ne 13, 3) := by decide +kernel
theorem d_M_give_39 : decode b_M_give 39 = .ok (.aload_n 0, 1) := by decide +kernel
theorem d_M_give_40 : decode b_M_give 40 = .ok (.iload_n 1, 1) := by decide +kernel
theorem d_M_give_41 : decode b_M_give 41 = .ok (.iload_n 2, 1) := by decide +kernel
theorem d_M_give_42 : decode b_M_give 42 = .ok (.lload_n 3, 1) := by decide +kernel
theorem d_M_give_43 : decode b_M_give 43 = .ok (.invokevirtual 87, 3) := by decide +kernel
theorem d_M_give_46 : decode b_M_give 46 = .ok (.goto 5, 3) := by decide +kernel
theorem d_M_give_49 : decode b_M_give 49 = .ok (.iload 8, 2) := by decide +kernel
theorem d_M_give_51 : decode b_M_give 51 = .ok (.iload 5, 2) := by decide +kernel
theorem d_M_give_53 : decode b_M_give 53 = .ok (.lload 6, 2) := by decide +kernel
theorem d_M_give_55 : decode b_M_give 55 = .ok (.invokevirtual 90, 3) := by decide +kernel
theorem d_M_give_58 : decode b_M_give 58 = .ok (.iload 9, 2) := by decide +kernel
theorem d_M_give_60 : decode b_M_give 60 = .ok (.ireturn, 1) := by decide +kernel
theorem d_M_init_0 : decode b_M_init 0 = .ok (.aload_n 0, 1) := by decide +kernel
theorem d_M_init_1 : decode b_M_init 1 = .ok (.invokespecial 1, 3) := by decide +kernel
theorem d_M_init_4 : decode b_M_init 4 = .ok (.aload_n 0, 1) := by decide +kernel
theorem d_M_init_5 : decode b_M_init 5 = .ok (.bipush 64, 2) := by decide +kernel
theorem d_M_init_7 : decode b_M_init 7 = .ok (.newarray .byte, 2) := by decide +kernel
theorem d_M_init_9 : decode b_M_init 9 = .ok (.putfield 7, 3) := by decide +kernel
theorem d_M_init_12 : decode b_M_init 12 = .ok (.aload_n 0, 1) := by decide +kernel
theorem d_M_init_13 : decode b_M_init 13 = .ok (.bipush 64, 2) := by decide +kernel
theorem d_M_init_15 : decode b_M_init 15 = .ok (.newarray .long, 2) := by decide +kernel
theorem d_M_init_17 : decode b_M_init 17 = .ok (.putfield 13, 3) := by decide +kernel
theorem d_M_init_20 : decode b_M_init 20 = .ok (.aload_n 0, 1) := by decide +kernel
theorem d_M_init_21 : decode b_M_init 21 = .ok (.bipush 64, 2) := by decide +kernel
theorem d_M_init_23 : decode b_M_init 23 = .ok (.newarray .byte, 2) := by decide +kernel
theorem d_M_init_25 : decode b_M_init 25 = .ok (.putfield 17, 3) := by decide +kernel
theorem d_M_init_28 : decode b_M_init 28 = .ok (.aload_n 0, 1) := by decide +kernel
theorem d_M_init_29 : decode b_M_init 29 = .ok (.bipush 64, 2) := by decide +kernel
theorem d_M_init_31 : decode b_M_init 31 = .ok (.newarray .long, 2) := by decide +kernel
theorem d_M_init_33 : decode b_M_init 33 = .ok (.putfield 20, 3) := by decide +kernel
theorem d_M_init_36 : decode b_M_init 36 = .ok (.aload_n 0, 1) := by decide +kernel
theorem d_M_init_37 : decode b_M_init 37 = .ok (.bipush 64, 2) := by decide +kernel
theorem d_M_init_39 : decode b_M_init 39 = .ok (.newarray .int, 2) := by decide +kernel
theorem d_M_init_41 : decode b_M_init 41 = .ok (.putfield 23, 3) := by decide +kernel
theorem d_M_init_44 : decode b_M_init 44 = .ok (.aload_n 0, 1) := by decide +kernel
theorem d_M_init_45 : decode b_M_init 45 = .ok (.bipush 64, 2) := by decide +kernel
theorem d_M_init_47 : decode b_M_init 47 = .ok (.newarray .int, 2) := by decide +kernel
theorem d_M_init_49 : decode b_M_init 49 = .ok (.putfield 27, 3) := by decide +kernel
theorem d_M_init_52 : decode b_M_init 52 = .ok (.aload_n 0, 1) := by decide +kernel
theorem d_M_init_53 : decode b_M_init 53 = .ok (.bipush 64, 2) := by decide +kernel
theorem d_M_init_55 : decode b_M_init 55 = .ok (.newarray .int, 2) := by decide +kernel
theorem d_M_init_57 : decode b_M_init 57 = .ok (.putfield 30, 3) := by decide +kernel
theorem d_M_init_60 : decode b_M_init 60 = .ok (.aload_n 0, 1) := by decide +kernel
theorem d_M_init_61 : decode b_M_init 61 = .ok (.sipush 8191, 3) := by decide +kernel
theorem d_M_init_64 : decode b_M_init 64 = .ok (.newarray .int, 2) := by decide +kernel
theorem d_M_init_66 : decode b_M_init 66 = .ok (.putfield 33, 3) := by decide +kernel
theorem d_M_init_69 : decode b_M_init 69 = .ok (.aload_n 0, 1) := by decide +kernel
theorem d_M_init_70 : decode b_M_init 70 = .ok (.bipush 32, 2) := by decide +kernel
theorem d_M_init_72 : decode b_M_init 72 = .ok (.newarray .int, 2) := by decide +kernel
theorem d_M_init_74 : decode b_M_init 74 = .ok (.putfield 36, 3) := by decide +kernel
theorem d_M_init_77 : decode b_M_init 77 = .ok (.aload_n 0, 1) := by decide +kernel
theorem d_M_init_78 : decode b_M_init 78 = .ok (.bipush 32, 2) := by decide +kernel
theorem d_M_init_80 : decode b_M_init 80 = .ok (.newarray .int, 2) := by decide +kernel
theorem d_M_init_82 : decode b_M_init 82 = .ok (.putfield 39, 3) := by decide +kernel
theorem d_M_init_85 : decode b_M_init 85 = .ok (.aload_n 0, 1) := by decide +kernel
theorem d_M_init_86 : decode b_M_init 86 = .ok (.bipush 32, 2) := by decide +kernel
theorem d_M_init_88 : decode b_M_init 88 = .ok (.newarray .int, 2) := by decide +kernel
theorem d_M_init_90 : decode b_M_init 90 = .ok (.putfield 42, 3) := by decide +kernel
theorem d_M_init_93 : decode b_M_init 93 = .ok (.return_, 1) := by decide +kernel
theorem d_M_insert_0 : decode b_M_insert 0 = .ok (.aload_n 0, 1) := by decide +kernel
theorem d_M_insert_1 : decode b_M_insert 1 = .ok (.iload_n 1, 1) := by decide +kernel
theorem d_M_insert_2 : decode b_M_insert 2 = .ok (.invokevirtual 94, 3) := by decide +kernel
theorem d_M_insert_5 : decode b_M_insert 5 = .ok (.ifCond .eq 13, 3) := by decide +kernel
theorem d_M_insert_8 : decode b_M_insert 8 = .ok (.iload_n 3, 1) := by decide +kernel
theorem d_M_insert_9 : decode b_M_insert 9 = .ok (.ifCond .lt 9, 3) := by decide +kernel
theorem d_M_insert_12 : decode b_M_insert 12 = .ok (.iload_n 3, 1) := by decide +kernel
theorem d_M_insert_13 : decode b_M_insert 13 = .ok (.bipush 7, 2) := by decide +kernel
theorem d_M_insert_15 : decode b_M_insert 15 = .ok (.if_icmp .le 5, 3) := by decide +kernel
theorem d_M_insert_18 : decode b_M_insert 18 = .ok (.iconst (-1), 1) := by decide +kernel
theorem d_M_insert_19 : decode b_M_insert 19 = .ok (.ireturn, 1) := by decide +kernel
theorem d_M_insert_20 : decode b_M_insert 20 = .ok (.aload_n 0, 1) := by decide +kernel
theorem d_M_insert_21 : decode b_M_insert 21 = .ok (.iload_n 1, 1) := by decide +kernel
theorem d_M_insert_22 : decode b_M_insert 22 = .ok (.invokevirtual 110, 3) := by decide +kernel
theorem d_M_insert_25 : decode b_M_insert 25 = .ok (.istore 6, 2) := by decide +kernel
theorem d_M_insert_27 : decode b_M_insert 27 = .ok (.iload_n 2, 1) := by decide +kernel
theorem d_M_insert_28 : decode b_M_insert 28 = .ok (.iconst 1, 1) := by decide +kernel
theorem d_M_insert_29 : decode b_M_insert 29 = .ok (.if_icmp .lt 11, 3) := by decide +kernel
theorem d_M_insert_32 : decode b_M_insert 32 = .ok (.iload_n 2, 1) := by decide +kernel
theorem d_M_insert_33 : decode b_M_insert 33 = .ok (.iload 6, 2) := by decide +kernel
theorem d_M_insert_35 : decode b_M_insert 35 = .ok (.iconst 1, 1) := by decide +kernel
theorem d_M_insert_36 : decode b_M_insert 36 = .ok (.iadd, 1) := by decide +kernel
theorem d_M_insert_37 : decode b_M_insert 37 = .ok (.if_icmp .le 5, 3) := by decide +kernel
theorem d_M_insert_40 : decode b_M_insert 40 = .ok (.iconst (-1), 1) := by decide +kernel
theorem d_M_insert_41 : decode b_M_insert 41 = .ok (.ireturn, 1) := by decide +kernel
theorem d_M_insert_42 : decode b_M_insert 42 = .ok (.iload_n 2, 1) := by decide +kernel
theorem d_M_insert_43 : decode b_M_insert 43 = .ok (.iload 6, 2) := by decide +kernel
theorem d_M_insert_45 : decode b_M_insert 45 = .ok (.if_icmp .le 7, 3) := by decide +kernel
theorem d_M_insert_48 : decode b_M_insert 48 = .ok (.iload_n 3, 1) := by decide +kernel
theorem d_M_insert_49 : decode b_M_insert 49 = .ok (.ifCond .eq 20, 3) := by decide +kernel
theorem d_M_insert_52 : decode b_M_insert 52 = .ok (.aload_n 0, 1) := by decide +kernel
theorem d_M_insert_53 : decode b_M_insert 53 = .ok (.iload_n 1, 1) := by decide +kernel
theorem d_M_insert_54 : decode b_M_insert 54 = .ok (.iload 6, 2) := by decide +kernel
theorem d_M_insert_56 : decode b_M_insert 56 = .ok (.i2l, 1) := by decide +kernel
theorem d_M_insert_57 : decode b_M_insert 57 = .ok (.lconst 1, 1) := by decide +kernel
theorem d_M_insert_58 : decode b_M_insert 58 = .ok (.ladd, 1) := by decide +kernel
theorem d_M_insert_59 : decode b_M_insert 59 = .ok (.invokevirtual 106, 3) := by decide +kernel
theorem d_M_insert_62 : decode b_M_insert 62 = .ok (.ifCond .ne 7, 3) := by decide +kernel
theorem d_M_insert_65 : decode b_M_insert 65 = .ok (.iconst 1, 1) := by decide +kernel
theorem d_M_insert_66 : decode b_M_insert 66 = .ok (.goto 4, 3) := by decide +kernel
theorem d_M_insert_69 : decode b_M_insert 69 = .ok (.iconst 0, 1) := by decide +kernel
theorem d_M_insert_70 : decode b_M_insert 70 = .ok (.istore 7, 2) := by decide +kernel
theorem d_M_insert_72 : decode b_M_insert 72 = .ok (.iload 7, 2) := by decide +kernel
theorem d_M_insert_74 : decode b_M_insert 74 = .ok (.ifCond .eq 15, 3) := by decide +kernel
theorem d_M_insert_77 : decode b_M_insert 77 = .ok (.aload_n 0, 1) := by decide +kernel
theorem d_M_insert_78 : decode b_M_insert 78 = .ok (.getfield 76, 3) := by decide +kernel
theorem d_M_insert_81 : decode b_M_insert 81 = .ok (.ldc 98, 2) := by decide +kernel
theorem d_M_insert_83 : decode b_M_insert 83 = .ok (.if_icmp .ne 6, 3) := by decide +kernel
theorem d_M_insert_86 : decode b_M_insert 86 = .ok (.bipush (-3), 2) := by decide +kernel
theorem d_M_insert_88 : decode b_M_insert 88 = .ok (.ireturn, 1) := by decide +kernel
theorem d_M_insert_89 : decode b_M_insert 89 = .ok (.iload 6, 2) := by decide +kernel
theorem d_M_insert_91 : decode b_M_insert 91 = .ok (.istore 8, 2) := by decide +kernel
theorem d_M_insert_93 : decode b_M_insert 93 = .ok (.iload 8, 2) := by decide +kernel
theorem d_M_insert_95 : decode b_M_insert 95 = .ok (.iload_n 2, 1) := by decide +kernel
theorem d_M_insert_96 : decode b_M_insert 96 = .ok (.if_icmp .lt 22, 3) := by decide +kernel
theorem d_M_insert_99 : decode b_M_insert 99 = .ok (.aload_n 0, 1) := by decide +kernel
theorem d_M_insert_100 : decode b_M_insert 100 = .ok (.iload_n 1, 1) := by decide +kernel
theorem d_M_insert_101 : decode b_M_insert 101 = .ok (.iload 8, 2) := by decide +kernel
theorem d_M_insert_103 : decode b_M_insert 103 = .ok (.i2l, 1) := by decide +kernel
theorem d_M_insert_104 : decode b_M_insert 104 = .ok (.iload 8, 2) := by decide +kernel
theorem d_M_insert_106 : decode b_M_insert 106 = .ok (.i2l, 1) := by decide +kernel
theorem d_M_insert_107 : decode b_M_insert 107 = .ok (.lconst 1, 1) := by decide +kernel
theorem d_M_insert_108 : decode b_M_insert 108 = .ok (.ladd, 1) := by decide +kernel
theorem d_M_insert_109 : decode b_M_insert 109 = .ok (.invokevirtual 129, 3) := by decide +kernel
theorem d_M_insert_112 : decode b_M_insert 112 = .ok (.iinc 8 (-1), 3) := by decide +kernel
theorem d_M_insert_115 : decode b_M_insert 115 = .ok (.goto (-22), 3) := by decide +kernel
theorem d_M_insert_118 : decode b_M_insert 118 = .ok (.aload_n 0, 1) := by decide +kernel
theorem d_M_insert_119 : decode b_M_insert 119 = .ok (.iload_n 1, 1) := by decide +kernel
theorem d_M_insert_120 : decode b_M_insert 120 = .ok (.iconst 3, 1) := by decide +kernel
theorem d_M_insert_121 : decode b_M_insert 121 = .ok (.iload_n 2, 1) := by decide +kernel
theorem d_M_insert_122 : decode b_M_insert 122 = .ok (.i2l, 1) := by decide +kernel
theorem d_M_insert_123 : decode b_M_insert 123 = .ok (.iload_n 3, 1) := by decide +kernel
theorem d_M_insert_124 : decode b_M_insert 124 = .ok (.lload 4, 2) := by decide +kernel
theorem d_M_insert_126 : decode b_M_insert 126 = .ok (.invokevirtual 99, 3) := by decide +kernel
theorem d_M_insert_129 : decode b_M_insert 129 = .ok (.pop, 1) := by decide +kernel
theorem d_M_insert_130 : decode b_M_insert 130 = .ok (.aload_n 0, 1) := by decide +kernel
theorem d_M_insert_131 : decode b_M_insert 131 = .ok (.iload_n 1, 1) := by decide +kernel
theorem d_M_insert_132 : decode b_M_insert 132 = .ok (.invokevirtual 110, 3) := by decide +kernel
theorem d_M_insert_135 : decode b_M_insert 135 = .ok (.ireturn, 1) := by decide +kernel
theorem d_M_isIn_0 : decode b_M_isIn 0 = .ok (.iconst 1, 1) := by decide +kernel
theorem d_M_isIn_1 : decode b_M_isIn 1 = .ok (.istore_n 3, 1) := by decide +kernel
theorem d_M_isIn_2 : decode b_M_isIn 2 = .ok (.aload_n 0, 1) := by decide +kernel
theorem d_M_isIn_3 : decode b_M_isIn 3 = .ok (.getfield 36, 3) := by decide +kernel
theorem d_M_isIn_6 : decode b_M_isIn 6 = .ok (.iload_n 1, 1) := by decide +kernel
theorem d_M_isIn_7 : decode b_M_isIn 7 = .ok (.iaload, 1) := by decide +kernel
theorem d_M_isIn_8 : decode b_M_isIn 8 = .ok (.istore 4, 2) := by decide +kernel
theorem d_M_isIn_10 : decode b_M_isIn 10 = .ok (.iload 4, 2) := by decide +kernel
theorem d_M_isIn_12 : decode b_M_isIn 12 = .ok (.ifCond .le 99, 3) := by decide +kernel
theorem d_M_isIn_15 : decode b_M_isIn 15 = .ok (.iload_n 3, 1) := by decide +kernel
theorem d_M_isIn_16 : decode b_M_isIn 16 = .ok (.ifCond .eq 95, 3) := by decide +kernel
theorem d_M_isIn_19 : decode b_M_isIn 19 = .ok (.aload_n 0, 1) := by decide +kernel
theorem d_M_isIn_20 : decode b_M_isIn 20 = .ok (.getfield 17, 3) := by decide +kernel
theorem d_M_isIn_23 : decode b_M_isIn 23 = .ok (.iload 4, 2) := by decide +kernel
theorem d_M_isIn_25 : decode b_M_isIn 25 = .ok (.baload, 1) := by decide +kernel
theorem d_M_isIn_26 : decode b_M_isIn 26 = .ok (.ifCond .ne 6, 3) := by decide +kernel
theorem d_M_isIn_29 : decode b_M_isIn 29 = .ok (.goto 70, 3) := by decide +kernel
theorem d_M_isIn_32 : decode b_M_isIn 32 = .ok (.aload_n 0, 1) := by decide +kernel
theorem d_M_isIn_33 : decode b_M_isIn 33 = .ok (.iload_n 2, 1) := by decide +kernel
theorem d_M_isIn_34 : decode b_M_isIn 34 = .ok (.aload_n 0, 1) := by decide +kernel
theorem d_M_isIn_35 : decode b_M_isIn 35 = .ok (.getfield 7, 3) := by decide +kernel
theorem d_M_isIn_38 : decode b_M_isIn 38 = .ok (.iload 4, 2) := by decide +kernel
theorem d_M_isIn_40 : decode b_M_isIn 40 = .ok (.baload, 1) := by decide +kernel
theorem d_M_isIn_41 : decode b_M_isIn 41 = .ok (.aload_n 0, 1) := by decide +kernel
theorem d_M_isIn_42 : decode b_M_isIn 42 = .ok (.getfield 13, 3) := by decide +kernel
theorem d_M_isIn_45 : decode b_M_isIn 45 = .ok (.iload 4, 2) := by decide +kernel
theorem d_M_isIn_47 : decode b_M_isIn 47 = .ok (.laload, 1) := by decide +kernel
theorem d_M_isIn_48 : decode b_M_isIn 48 = .ok (.invokevirtual 73, 3) := by decide +kernel
theorem d_M_isIn_51 : decode b_M_isIn 51 = .ok (.istore 5, 2) := by decide +kernel
theorem d_M_isIn_53 : decode b_M_isIn 53 = .ok (.iload 5, 2) := by decide +kernel
theorem d_M_isIn_55 : decode b_M_isIn 55 = .ok (.ifCond .le 42, 3) := by decide +kernel
theorem d_M_isIn_58 : decode b_M_isIn 58 = .ok (.aload_n 0, 1) := by decide +kernel
theorem d_M_isIn_59 : decode b_M_isIn 59 = .ok (.getfield 17, 3) := by decide +kernel
theorem d_M_isIn_62 : decode b_M_isIn 62 = .ok (.iload 5, 2) := by decide +kernel
theorem d_M_isIn_64 : decode b_M_isIn 64 = .ok (.baload, 1) := by decide +kernel
theorem d_M_isIn_65 : decode b_M_isIn 65 = .ok (.aload_n 0, 1) := by decide +kernel
theorem d_M_isIn_66 : decode b_M_isIn 66 = .ok (.getfield 17, 3) := by decide +kernel
theorem d_M_isIn_69 : decode b_M_isIn 69 = .ok (.iload 4, 2) := by decide +kernel
theorem d_M_isIn_71 : decode b_M_isIn 71 = .ok (.baload, 1) := by decide +kernel
theorem d_M_isIn_72 : decode b_M_isIn 72 = .ok (.if_icmp .ne 25, 3) := by decide +kernel
theorem d_M_isIn_75 : decode b_M_isIn 75 = .ok (.aload_n 0, 1) := by decide +kernel
theorem d_M_isIn_76 : decode b_M_isIn 76 = .ok (.getfield 20, 3) := by decide +kernel
theorem d_M_isIn_79 : decode b_M_isIn 79 = .ok (.iload 5, 2) := by decide +kernel
theorem d_M_isIn_81 : decode b_M_isIn 81 = .ok (.laload, 1) := by decide +kernel
theorem d_M_isIn_82 : decode b_M_isIn 82 = .ok (.aload_n 0, 1) := by decide +kernel
theorem d_M_isIn_83 : decode b_M_isIn 83 = .ok (.getfield 20, 3) := by decide +kernel
theorem d_M_isIn_86 : decode b_M_isIn 86 = .ok (.iload 4, 2) := by decide +kernel
theorem d_M_isIn_88 : decode b_M_isIn 88 = .ok (.laload, 1) := by decide +kernel
theorem d_M_isIn_89 : decode b_M_isIn 89 = .ok (.lcmp, 1) := by decide +kernel
theorem d_M_isIn_90 : decode b_M_isIn 90 = .ok (.ifCond .ne 7, 3) := by decide +kernel
theorem d_M_isIn_93 : decode b_M_isIn 93 = .ok (.iconst 1, 1) := by decide +kernel
theorem d_M_isIn_94 : decode b_M_isIn 94 = .ok (.goto 4, 3) := by decide +kernel
theorem d_M_isIn_97 : decode b_M_isIn 97 = .ok (.iconst 0, 1) := by decide +kernel
theorem d_M_isIn_98 : decode b_M_isIn 98 = .ok (.istore_n 3, 1) := by decide +kernel
theorem d_M_isIn_99 : decode b_M_isIn 99 = .ok (.aload_n 0, 1) := by decide +kernel
theorem d_M_isIn_100 : decode b_M_isIn 100 = .ok (.getfield 27, 3) := by decide +kernel
theorem d_M_isIn_103 : decode b_M_isIn 103 = .ok (.iload 4, 2) := by decide +kernel
theorem d_M_isIn_105 : decode b_M_isIn 105 = .ok (.iaload, 1) := by decide +kernel
theorem d_M_isIn_106 : decode b_M_isIn 106 = .ok (.istore 4, 2) := by decide +kernel
theorem d_M_isIn_108 : decode b_M_isIn 108 = .ok (.goto (-98), 3) := by decide +kernel
theorem d_M_isIn_111 : decode b_M_isIn 111 = .ok (.iload_n 3, 1) := by decide +kernel
theorem d_M_isIn_112 : decode b_M_isIn 112 = .ok (.ireturn, 1) := by decide +kernel
theorem d_M_isRow_0 : decode b_M_isRow 0 = .ok (.aload_n 0, 1) := by decide +kernel
theorem d_M_isRow_1 : decode b_M_isRow 1 = .ok (.iload_n 1, 1) := by decide +kernel
theorem d_M_isRow_2 : decode b_M_isRow 2 = .ok (.invokevirtual 94, 3) := by decide +kernel
theorem d_M_isRow_5 : decode b_M_isRow 5 = .ok (.ifCond .eq 50, 3) := by decide +kernel
theorem d_M_isRow_8 : decode b_M_isRow 8 = .ok (.iload 4, 2) := by decide +kernel
theorem d_M_isRow_10 : decode b_M_isRow 10 = .ok (.ifCond .lt 45, 3) := by decide +kernel
theorem d_M_isRow_13 : decode b_M_isRow 13 = .ok (.iload 4, 2) := by decide +kernel
theorem d_M_isRow_15 : decode b_M_isRow 15 = .ok (.sipush 20000, 3) := by decide +kernel
theorem d_M_isRow_18 : decode b_M_isRow 18 = .ok (.if_icmp .gt 37, 3) := by decide +kernel
theorem d_M_isRow_21 : decode b_M_isRow 21 = .ok (.iload 5, 2) := by decide +kernel
theorem d_M_isRow_23 : decode b_M_isRow 23 = .ok (.iconst 1, 1) := by decide +kernel
theorem d_M_isRow_24 : decode b_M_isRow 24 = .ok (.if_icmp .lt 31, 3) := by decide +kernel
theorem d_M_isRow_27 : decode b_M_isRow 27 = .ok (.iload 5, 2) := by decide +kernel
theorem d_M_isRow_29 : decode b_M_isRow 29 = .ok (.sipush 1000, 3) := by decide +kernel
theorem d_M_isRow_32 : decode b_M_isRow 32 = .ok (.if_icmp .gt 23, 3) := by decide +kernel
theorem d_M_isRow_35 : decode b_M_isRow 35 = .ok (.lload_n 2, 1) := by decide +kernel
theorem d_M_isRow_36 : decode b_M_isRow 36 = .ok (.ldc2_w 121, 3) := by decide +kernel
theorem d_M_isRow_39 : decode b_M_isRow 39 = .ok (.lcmp, 1) := by decide +kernel
theorem d_M_isRow_40 : decode b_M_isRow 40 = .ok (.ifCond .lt 15, 3) := by decide +kernel
theorem d_M_isRow_43 : decode b_M_isRow 43 = .ok (.lload_n 2, 1) := by decide +kernel
theorem d_M_isRow_44 : decode b_M_isRow 44 = .ok (.ldc2_w 123, 3) := by decide +kernel
theorem d_M_isRow_47 : decode b_M_isRow 47 = .ok (.lcmp, 1) := by decide +kernel
theorem d_M_isRow_48 : decode b_M_isRow 48 = .ok (.ifCond .gt 7, 3) := by decide +kernel
theorem d_M_isRow_51 : decode b_M_isRow 51 = .ok (.iconst 1, 1) := by decide +kernel
theorem d_M_isRow_52 : decode b_M_isRow 52 = .ok (.goto 4, 3) := by decide +kernel
theorem d_M_isRow_55 : decode b_M_isRow 55 = .ok (.iconst 0, 1) := by decide +kernel
theorem d_M_isRow_56 : decode b_M_isRow 56 = .ok (.ireturn, 1) := by decide +kernel
theorem d_M_isTable_0 : decode b_M_isTable 0 = .ok (.iload_n 1, 1) := by decide +kernel
theorem d_M_isTable_1 : decode b_M_isTable 1 = .ok (.iconst 1, 1) := by decide +kernel
theorem d_M_isTable_2 : decode b_M_isTable 2 = .ok (.if_icmp .lt 15, 3) := by decide +kernel
theorem d_M_isTable_5 : decode b_M_isTable 5 = .ok (.iload_n 1, 1) := by decide +kernel
theorem d_M_isTable_6 : decode b_M_isTable 6 = .ok (.aload_n 0, 1) := by decide +kernel
theorem d_M_isTable_7 : decode b_M_isTable 7 = .ok (.getfield 51, 3) := by decide +kernel
theorem d_M_isTable_10 : decode b_M_isTable 10 = .ok (.if_icmp .gt 7, 3) := by decide +kernel
theorem d_M_isTable_13 : decode b_M_isTable 13 = .ok (.iconst 1, 1) := by decide +kernel
theorem d_M_isTable_14 : decode b_M_isTable 14 = .ok (.goto 4, 3) := by decide +kernel
theorem d_M_isTable_17 : decode b_M_isTable 17 = .ok (.iconst 0, 1) := by decide +kernel
theorem d_M_isTable_18 : decode b_M_isTable 18 = .ok (.ireturn, 1) := by decide +kernel
theorem d_M_keys_0 : decode b_M_keys 0 = .ok (.aload_n 0, 1) := by decide +kernel
theorem d_M_keys_1 : decode b_M_keys 1 = .ok (.iload_n 1, 1) := by decide +kernel
theorem d_M_keys_2 : decode b_M_keys 2 = .ok (.invokevirtual 94, 3) := by decide +kernel
theorem d_M_keys_5 : decode b_M_keys 5 = .ok (.ifCond .eq 12, 3) := by decide +kernel
theorem d_M_keys_8 : decode b_M_keys 8 = .ok (.aload_n 0, 1) := by decide +kernel
theorem d_M_keys_9 : decode b_M_keys 9 = .ok (.getfield 42, 3) := by decide +kernel
theorem d_M_keys_12 : decode b_M_keys 12 = .ok (.iload_n 1, 1) := by decide +kernel
theorem d_M_keys_13 : decode b_M_keys 13 = .ok (.iaload, 1) := by decide +kernel
theorem d_M_keys_14 : decode b_M_keys 14 = .ok (.goto 4, 3) := by decide +kernel
theorem d_M_keys_17 : decode b_M_keys 17 = .ok (.iconst (-1), 1) := by decide +kernel
theorem d_M_keys_18 : decode b_M_keys 18 = .ok (.ireturn, 1) := by decide +kernel
theorem d_M_kindAt_0 : decode b_M_kindAt 0 = .ok (.aload_n 0, 1) := by decide +kernel
theorem d_M_kindAt_1 : decode b_M_kindAt 1 = .ok (.iload_n 1, 1) := by decide +kernel
theorem d_M_kindAt_2 : decode b_M_kindAt 2 = .ok (.invokevirtual 94, 3) := by decide +kernel
theorem d_M_kindAt_5 : decode b_M_kindAt 5 = .ok (.ifCond .eq 14, 3) := by decide +kernel
theorem d_M_kindAt_8 : decode b_M_kindAt 8 = .ok (.iload_n 2, 1) := by decide +kernel
theorem d_M_kindAt_9 : decode b_M_kindAt 9 = .ok (.iconst 1, 1) := by decide +kernel
theorem d_M_kindAt_10 : decode b_M_kindAt 10 = .ok (.if_icmp .lt 9, 3) := by decide +kernel
theorem d_M_kindAt_13 : decode b_M_kindAt 13 = .ok (.iload_n 2, 1) := by decide +kernel
theorem d_M_kindAt_14 : decode b_M_kindAt 14 = .ok (.bipush 7, 2) := by decide +kernel
theorem d_M_kindAt_16 : decode b_M_kindAt 16 = .ok (.if_icmp .le 5, 3) := by decide +kernel
theorem d_M_kindAt_19 : decode b_M_kindAt 19 = .ok (.iconst (-1), 1) := by decide +kernel
theorem d_M_kindAt_20 : decode b_M_kindAt 20 = .ok (.ireturn, 1) := by decide +kernel
theorem d_M_kindAt_21 : decode b_M_kindAt 21 = .ok (.aload_n 0, 1) := by decide +kernel
theorem d_M_kindAt_22 : decode b_M_kindAt 22 = .ok (.iload_n 1, 1) := by decide +kernel
theorem d_M_kindAt_23 : decode b_M_kindAt 23 = .ok (.iload_n 2, 1) := by decide +kernel
theorem d_M_kindAt_24 : decode b_M_kindAt 24 = .ok (.lload_n 3, 1) := by decide +kernel
theorem d_M_kindAt_25 : decode b_M_kindAt 25 = .ok (.invokevirtual 73, 3) := by decide +kernel
theorem d_M_kindAt_28 : decode b_M_kindAt 28 = .ok (.istore 5, 2) := by decide +kernel
theorem d_M_kindAt_30 : decode b_M_kindAt 30 = .ok (.iload 5, 2) := by decide +kernel
theorem d_M_kindAt_32 : decode b_M_kindAt 32 = .ok (.ifCond .ne 7, 3) := by decide +kernel
theorem d_M_kindAt_35 : decode b_M_kindAt 35 = .ok (.iconst 0, 1) := by decide +kernel
theorem d_M_kindAt_36 : decode b_M_kindAt 36 = .ok (.goto 10, 3) := by decide +kernel
theorem d_M_kindAt_39 : decode b_M_kindAt 39 = .ok (.aload_n 0, 1) := by decide +kernel
theorem d_M_kindAt_40 : decode b_M_kindAt 40 = .ok (.getfield 17, 3) := by decide +kernel
theorem d_M_kindAt_43 : decode b_M_kindAt 43 = .ok (.iload 5, 2) := by decide +kernel
theorem d_M_kindAt_45 : decode b_M_kindAt 45 = .ok (.baload, 1) := by decide +kernel
theorem d_M_kindAt_46 : decode b_M_kindAt 46 = .ok (.ireturn, 1) := by decide +kernel
theorem d_M_make_0 : decode b_M_make 0 = .ok (.aload_n 0, 1) := by decide +kernel
theorem d_M_make_1 : decode b_M_make 1 = .ok (.getfield 51, 3) := by decide +kernel
theorem d_M_make_4 : decode b_M_make 4 = .ok (.sipush 30000, 3) := by decide +kernel
theorem d_M_make_7 : decode b_M_make 7 = .ok (.if_icmp .ne 6, 3) := by decide +kernel
theorem d_M_make_10 : decode b_M_make 10 = .ok (.bipush (-3), 2) := by decide +kernel
theorem d_M_make_12 : decode b_M_make 12 = .ok (.ireturn, 1) := by decide +kernel
theorem d_M_make_13 : decode b_M_make 13 = .ok (.aload_n 0, 1) := by decide +kernel
theorem d_M_make_14 : decode b_M_make 14 = .ok (.dup, 1) := by decide +kernel
theorem d_M_make_15 : decode b_M_make 15 = .ok (.getfield 51, 3) := by decide +kernel
theorem d_M_make_18 : decode b_M_make 18 = .ok (.iconst 1, 1) := by decide +kernel
theorem d_M_make_19 : decode b_M_make 19 = .ok (.iadd, 1) := by decide +kernel
theorem d_M_make_20 : decode b_M_make 20 = .ok (.putfield 51, 3) := by decide +kernel
theorem d_M_make_23 : decode b_M_make 23 = .ok (.aload_n 0, 1) := by decide +kernel
theorem d_M_make_24 : decode b_M_make 24 = .ok (.getfield 51, 3) := by decide +kernel
theorem d_M_make_27 : decode b_M_make 27 = .ok (.aload_n 0, 1) := by decide +kernel
theorem d_M_make_28 : decode b_M_make 28 = .ok (.getfield 36, 3) := by decide +kernel
theorem d_M_make_31 : decode b_M_make 31 = .ok (.arraylength, 1) := by decide +kernel
theorem d_M_make_32 : decode b_M_make 32 = .ok (.if_icmp .ne 36, 3) := by decide +kernel
theorem d_M_make_35 : decode b_M_make 35 = .ok (.aload_n 0, 1) := by decide +kernel
theorem d_M_make_36 : decode b_M_make 36 = .ok (.aload_n 0, 1) := by decide +kernel
theorem d_M_make_37 : decode b_M_make 37 = .ok (.getfield 36, 3) := by decide +kernel
theorem d_M_make_40 : decode b_M_make 40 = .ok (.invokestatic 55, 3) := by decide +kernel
theorem d_M_make_43 : decode b_M_make 43 = .ok (.putfield 36, 3) := by decide +kernel
theorem d_M_make_46 : decode b_M_make 46 = .ok (.aload_n 0, 1) := by decide +kernel
theorem d_M_make_47 : decode b_M_make 47 = .ok (.aload_n 0, 1) := by decide +kernel
theorem d_M_make_48 : decode b_M_make 48 = .ok (.getfield 39, 3) := by decide +kernel
theorem d_M_make_51 : decode b_M_make 51 = .ok (.invokestatic 55, 3) := by decide +kernel
theorem d_M_make_54 : decode b_M_make 54 = .ok (.putfield 39, 3) := by decide +kernel
theorem d_M_make_57 : decode b_M_make 57 = .ok (.aload_n 0, 1) := by decide +kernel
theorem d_M_make_58 : decode b_M_make 58 = .ok (.aload_n 0, 1) := by decide +kernel
theorem d_M_make_59 : decode b_M_make 59 = .ok (.getfield 42, 3) := by decide +kernel
theorem d_M_make_62 : decode b_M_make 62 = .ok (.invokestatic 55, 3) := by decide +kernel
theorem d_M_make_65 : decode b_M_make 65 = .ok (.putfield 42, 3) := by decide +kernel
theorem d_M_make_68 : decode b_M_make 68 = .ok (.aload_n 0, 1) := by decide +kernel
theorem d_M_make_69 : decode b_M_make 69 = .ok (.getfield 51, 3) := by decide +kernel
theorem d_M_make_72 : decode b_M_make 72 = .ok (.ireturn, 1) := by decide +kernel
theorem d_M_move_0 : decode b_M_move 0 = .ok (.aload_n 0, 1) := by decide +kernel
theorem d_M_move_1 : decode b_M_move 1 = .ok (.iload_n 1, 1) := by decide +kernel
theorem d_M_move_2 : decode b_M_move 2 = .ok (.lload_n 2, 1) := by decide +kernel
theorem d_M_move_3 : decode b_M_move 3 = .ok (.invokevirtual 106, 3) := by decide +kernel
theorem d_M_move_6 : decode b_M_move 6 = .ok (.istore 6, 2) := by decide +kernel
theorem d_M_move_8 : decode b_M_move 8 = .ok (.aload_n 0, 1) := by decide +kernel
theorem d_M_move_9 : decode b_M_move 9 = .ok (.iload_n 1, 1) := by decide +kernel
theorem d_M_move_10 : decode b_M_move 10 = .ok (.iconst 3, 1) := by decide +kernel
theorem d_M_move_11 : decode b_M_move 11 = .ok (.lload 4, 2) := by decide +kernel
theorem d_M_move_13 : decode b_M_move 13 = .ok (.iload 6, 2) := by decide +kernel
theorem d_M_move_15 : decode b_M_move 15 = .ok (.ifCond .ne 7, 3) := by decide +kernel
theorem d_M_move_18 : decode b_M_move 18 = .ok (.iconst 0, 1) := by decide +kernel
theorem d_M_move_19 : decode b_M_move 19 = .ok (.goto 10, 3) := by decide +kernel
theorem d_M_move_22 : decode b_M_move 22 = .ok (.aload_n 0, 1) := by decide +kernel
theorem d_M_move_23 : decode b_M_move 23 = .ok (.getfield 17, 3) := by decide +kernel
theorem d_M_move_26 : decode b_M_move 26 = .ok (.iload 6, 2) := by decide +kernel
theorem d_M_move_28 : decode b_M_move 28 = .ok (.baload, 1) := by decide +kernel
theorem d_M_move_29 : decode b_M_move 29 = .ok (.iload 6, 2) := by decide +kernel
theorem d_M_move_31 : decode b_M_move 31 = .ok (.ifCond .ne 7, 3) := by decide +kernel
theorem d_M_move_34 : decode b_M_move 34 = .ok (.lconst 0, 1) := by decide +kernel
theorem d_M_move_35 : decode b_M_move 35 = .ok (.goto 10, 3) := by decide +kernel
theorem d_M_move_38 : decode b_M_move 38 = .ok (.aload_n 0, 1) := by decide +kernel
theorem d_M_move_39 : decode b_M_move 39 = .ok (.getfield 20, 3) := by decide +kernel
theorem d_M_move_42 : decode b_M_move 42 = .ok (.iload 6, 2) := by decide +kernel
theorem d_M_move_44 : decode b_M_move 44 = .ok (.laload, 1) := by decide +kernel
theorem d_M_move_45 : decode b_M_move 45 = .ok (.invokevirtual 99, 3) := by decide +kernel
theorem d_M_move_48 : decode b_M_move 48 = .ok (.pop, 1) := by decide +kernel
theorem d_M_move_49 : decode b_M_move 49 = .ok (.return_, 1) := by decide +kernel
