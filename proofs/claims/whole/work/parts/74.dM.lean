theorem d_M_next_0 : decode b_M_next 0 = .ok (.aload_n 0, 1) := by decide +kernel
theorem d_M_next_1 : decode b_M_next 1 = .ok (.iload_n 1, 1) := by decide +kernel
theorem d_M_next_2 : decode b_M_next 2 = .ok (.invokevirtual 94, 3) := by decide +kernel
theorem d_M_next_5 : decode b_M_next 5 = .ok (.ifCond .eq 13, 3) := by decide +kernel
theorem d_M_next_8 : decode b_M_next 8 = .ok (.iload_n 2, 1) := by decide +kernel
theorem d_M_next_9 : decode b_M_next 9 = .ok (.ifCond .lt 9, 3) := by decide +kernel
theorem d_M_next_12 : decode b_M_next 12 = .ok (.iload_n 2, 1) := by decide +kernel
theorem d_M_next_13 : decode b_M_next 13 = .ok (.bipush 7, 2) := by decide +kernel
theorem d_M_next_15 : decode b_M_next 15 = .ok (.if_icmp .le 5, 3) := by decide +kernel
theorem d_M_next_18 : decode b_M_next 18 = .ok (.iconst (-1), 1) := by decide +kernel
theorem d_M_next_19 : decode b_M_next 19 = .ok (.ireturn, 1) := by decide +kernel
theorem d_M_next_20 : decode b_M_next 20 = .ok (.iload_n 2, 1) := by decide +kernel
theorem d_M_next_21 : decode b_M_next 21 = .ok (.ifCond .ne 7, 3) := by decide +kernel
theorem d_M_next_24 : decode b_M_next 24 = .ok (.iconst 0, 1) := by decide +kernel
theorem d_M_next_25 : decode b_M_next 25 = .ok (.goto 10, 3) := by decide +kernel
theorem d_M_next_28 : decode b_M_next 28 = .ok (.aload_n 0, 1) := by decide +kernel
theorem d_M_next_29 : decode b_M_next 29 = .ok (.iload_n 1, 1) := by decide +kernel
theorem d_M_next_30 : decode b_M_next 30 = .ok (.iload_n 2, 1) := by decide +kernel
theorem d_M_next_31 : decode b_M_next 31 = .ok (.lload_n 3, 1) := by decide +kernel
theorem d_M_next_32 : decode b_M_next 32 = .ok (.invokevirtual 73, 3) := by decide +kernel
theorem d_M_next_35 : decode b_M_next 35 = .ok (.istore 5, 2) := by decide +kernel
theorem d_M_next_37 : decode b_M_next 37 = .ok (.iload_n 2, 1) := by decide +kernel
theorem d_M_next_38 : decode b_M_next 38 = .ok (.ifCond .le 11, 3) := by decide +kernel
theorem d_M_next_41 : decode b_M_next 41 = .ok (.iload 5, 2) := by decide +kernel
theorem d_M_next_43 : decode b_M_next 43 = .ok (.ifCond .ne 6, 3) := by decide +kernel
theorem d_M_next_46 : decode b_M_next 46 = .ok (.bipush (-2), 2) := by decide +kernel
theorem d_M_next_48 : decode b_M_next 48 = .ok (.ireturn, 1) := by decide +kernel
theorem d_M_next_49 : decode b_M_next 49 = .ok (.iload_n 2, 1) := by decide +kernel
theorem d_M_next_50 : decode b_M_next 50 = .ok (.ifCond .ne 12, 3) := by decide +kernel
theorem d_M_next_53 : decode b_M_next 53 = .ok (.aload_n 0, 1) := by decide +kernel
theorem d_M_next_54 : decode b_M_next 54 = .ok (.getfield 36, 3) := by decide +kernel
theorem d_M_next_57 : decode b_M_next 57 = .ok (.iload_n 1, 1) := by decide +kernel
theorem d_M_next_58 : decode b_M_next 58 = .ok (.iaload, 1) := by decide +kernel
theorem d_M_next_59 : decode b_M_next 59 = .ok (.goto 10, 3) := by decide +kernel
theorem d_M_next_62 : decode b_M_next 62 = .ok (.aload_n 0, 1) := by decide +kernel
theorem d_M_next_63 : decode b_M_next 63 = .ok (.getfield 27, 3) := by decide +kernel
theorem d_M_next_66 : decode b_M_next 66 = .ok (.iload 5, 2) := by decide +kernel
theorem d_M_next_68 : decode b_M_next 68 = .ok (.iaload, 1) := by decide +kernel
theorem d_M_next_69 : decode b_M_next 69 = .ok (.istore 5, 2) := by decide +kernel
theorem d_M_next_71 : decode b_M_next 71 = .ok (.iload 5, 2) := by decide +kernel
theorem d_M_next_73 : decode b_M_next 73 = .ok (.ifCond .le 25, 3) := by decide +kernel
theorem d_M_next_76 : decode b_M_next 76 = .ok (.aload_n 0, 1) := by decide +kernel
theorem d_M_next_77 : decode b_M_next 77 = .ok (.getfield 17, 3) := by decide +kernel
theorem d_M_next_80 : decode b_M_next 80 = .ok (.iload 5, 2) := by decide +kernel
theorem d_M_next_82 : decode b_M_next 82 = .ok (.baload, 1) := by decide +kernel
theorem d_M_next_83 : decode b_M_next 83 = .ok (.ifCond .ne 15, 3) := by decide +kernel
theorem d_M_next_86 : decode b_M_next 86 = .ok (.aload_n 0, 1) := by decide +kernel
theorem d_M_next_87 : decode b_M_next 87 = .ok (.getfield 27, 3) := by decide +kernel
theorem d_M_next_90 : decode b_M_next 90 = .ok (.iload 5, 2) := by decide +kernel
theorem d_M_next_92 : decode b_M_next 92 = .ok (.iaload, 1) := by decide +kernel
theorem d_M_next_93 : decode b_M_next 93 = .ok (.istore 5, 2) := by decide +kernel
theorem d_M_next_95 : decode b_M_next 95 = .ok (.goto (-24), 3) := by decide +kernel
theorem d_M_next_98 : decode b_M_next 98 = .ok (.aload_n 0, 1) := by decide +kernel
theorem d_M_next_99 : decode b_M_next 99 = .ok (.iload 5, 2) := by decide +kernel
theorem d_M_next_101 : decode b_M_next 101 = .ok (.ifCond .le 13, 3) := by decide +kernel
theorem d_M_next_104 : decode b_M_next 104 = .ok (.aload_n 0, 1) := by decide +kernel
theorem d_M_next_105 : decode b_M_next 105 = .ok (.getfield 7, 3) := by decide +kernel
theorem d_M_next_108 : decode b_M_next 108 = .ok (.iload 5, 2) := by decide +kernel
theorem d_M_next_110 : decode b_M_next 110 = .ok (.baload, 1) := by decide +kernel
theorem d_M_next_111 : decode b_M_next 111 = .ok (.goto 4, 3) := by decide +kernel
theorem d_M_next_114 : decode b_M_next 114 = .ok (.iconst 0, 1) := by decide +kernel
theorem d_M_next_115 : decode b_M_next 115 = .ok (.putfield 114, 3) := by decide +kernel
theorem d_M_next_118 : decode b_M_next 118 = .ok (.aload_n 0, 1) := by decide +kernel
theorem d_M_next_119 : decode b_M_next 119 = .ok (.iload 5, 2) := by decide +kernel
theorem d_M_next_121 : decode b_M_next 121 = .ok (.ifCond .le 13, 3) := by decide +kernel
theorem d_M_next_124 : decode b_M_next 124 = .ok (.aload_n 0, 1) := by decide +kernel
theorem d_M_next_125 : decode b_M_next 125 = .ok (.getfield 13, 3) := by decide +kernel
theorem d_M_next_128 : decode b_M_next 128 = .ok (.iload 5, 2) := by decide +kernel
theorem d_M_next_130 : decode b_M_next 130 = .ok (.laload, 1) := by decide +kernel
theorem d_M_next_131 : decode b_M_next 131 = .ok (.goto 4, 3) := by decide +kernel
theorem d_M_next_134 : decode b_M_next 134 = .ok (.lconst 0, 1) := by decide +kernel
theorem d_M_next_135 : decode b_M_next 135 = .ok (.putfield 117, 3) := by decide +kernel
theorem d_M_next_138 : decode b_M_next 138 = .ok (.iload 5, 2) := by decide +kernel
theorem d_M_next_140 : decode b_M_next 140 = .ok (.ifCond .le 7, 3) := by decide +kernel
theorem d_M_next_143 : decode b_M_next 143 = .ok (.iconst 1, 1) := by decide +kernel
theorem d_M_next_144 : decode b_M_next 144 = .ok (.goto 4, 3) := by decide +kernel
theorem d_M_next_147 : decode b_M_next 147 = .ok (.iconst 0, 1) := by decide +kernel
theorem d_M_next_148 : decode b_M_next 148 = .ok (.ireturn, 1) := by decide +kernel
theorem d_M_numberAt_0 : decode b_M_numberAt 0 = .ok (.aload_n 0, 1) := by decide +kernel
theorem d_M_numberAt_1 : decode b_M_numberAt 1 = .ok (.iload_n 1, 1) := by decide +kernel
theorem d_M_numberAt_2 : decode b_M_numberAt 2 = .ok (.iload_n 2, 1) := by decide +kernel
theorem d_M_numberAt_3 : decode b_M_numberAt 3 = .ok (.lload_n 3, 1) := by decide +kernel
theorem d_M_numberAt_4 : decode b_M_numberAt 4 = .ok (.invokevirtual 103, 3) := by decide +kernel
theorem d_M_numberAt_7 : decode b_M_numberAt 7 = .ok (.ifCond .le 18, 3) := by decide +kernel
theorem d_M_numberAt_10 : decode b_M_numberAt 10 = .ok (.aload_n 0, 1) := by decide +kernel
theorem d_M_numberAt_11 : decode b_M_numberAt 11 = .ok (.getfield 20, 3) := by decide +kernel
theorem d_M_numberAt_14 : decode b_M_numberAt 14 = .ok (.aload_n 0, 1) := by decide +kernel
theorem d_M_numberAt_15 : decode b_M_numberAt 15 = .ok (.iload_n 1, 1) := by decide +kernel
theorem d_M_numberAt_16 : decode b_M_numberAt 16 = .ok (.iload_n 2, 1) := by decide +kernel
theorem d_M_numberAt_17 : decode b_M_numberAt 17 = .ok (.lload_n 3, 1) := by decide +kernel
theorem d_M_numberAt_18 : decode b_M_numberAt 18 = .ok (.invokevirtual 73, 3) := by decide +kernel
theorem d_M_numberAt_21 : decode b_M_numberAt 21 = .ok (.laload, 1) := by decide +kernel
theorem d_M_numberAt_22 : decode b_M_numberAt 22 = .ok (.goto 4, 3) := by decide +kernel
theorem d_M_numberAt_25 : decode b_M_numberAt 25 = .ok (.lconst 0, 1) := by decide +kernel
theorem d_M_numberAt_26 : decode b_M_numberAt 26 = .ok (.lreturn, 1) := by decide +kernel
theorem d_M_put_0 : decode b_M_put 0 = .ok (.aload_n 0, 1) := by decide +kernel
theorem d_M_put_1 : decode b_M_put 1 = .ok (.iload_n 1, 1) := by decide +kernel
theorem d_M_put_2 : decode b_M_put 2 = .ok (.invokevirtual 94, 3) := by decide +kernel
theorem d_M_put_5 : decode b_M_put 5 = .ok (.ifCond .eq 26, 3) := by decide +kernel
theorem d_M_put_8 : decode b_M_put 8 = .ok (.iload_n 2, 1) := by decide +kernel
theorem d_M_put_9 : decode b_M_put 9 = .ok (.iconst 1, 1) := by decide +kernel
theorem d_M_put_10 : decode b_M_put 10 = .ok (.if_icmp .lt 21, 3) := by decide +kernel
theorem d_M_put_13 : decode b_M_put 13 = .ok (.iload_n 2, 1) := by decide +kernel
theorem d_M_put_14 : decode b_M_put 14 = .ok (.bipush 7, 2) := by decide +kernel
theorem d_M_put_16 : decode b_M_put 16 = .ok (.if_icmp .gt 15, 3) := by decide +kernel
theorem d_M_put_19 : decode b_M_put 19 = .ok (.iload 5, 2) := by decide +kernel
theorem d_M_put_21 : decode b_M_put 21 = .ok (.ifCond .lt 10, 3) := by decide +kernel
theorem d_M_put_24 : decode b_M_put 24 = .ok (.iload 5, 2) := by decide +kernel
theorem d_M_put_26 : decode b_M_put 26 = .ok (.bipush 7, 2) := by decide +kernel
theorem d_M_put_28 : decode b_M_put 28 = .ok (.if_icmp .le 5, 3) := by decide +kernel
theorem d_M_put_31 : decode b_M_put 31 = .ok (.iconst (-1), 1) := by decide +kernel
theorem d_M_put_32 : decode b_M_put 32 = .ok (.ireturn, 1) := by decide +kernel
theorem d_M_put_33 : decode b_M_put 33 = .ok (.iload 5, 2) := by decide +kernel
theorem d_M_put_35 : decode b_M_put 35 = .ok (.ifCond .eq 25, 3) := by decide +kernel
theorem d_M_put_38 : decode b_M_put 38 = .ok (.aload_n 0, 1) := by decide +kernel
theorem d_M_put_39 : decode b_M_put 39 = .ok (.getfield 76, 3) := by decide +kernel
theorem d_M_put_42 : decode b_M_put 42 = .ok (.ldc 98, 2) := by decide +kernel
theorem d_M_put_44 : decode b_M_put 44 = .ok (.if_icmp .ne 16, 3) := by decide +kernel
theorem d_M_put_47 : decode b_M_put 47 = .ok (.aload_n 0, 1) := by decide +kernel
theorem d_M_put_48 : decode b_M_put 48 = .ok (.iload_n 1, 1) := by decide +kernel
theorem d_M_put_49 : decode b_M_put 49 = .ok (.iload_n 2, 1) := by decide +kernel
theorem d_M_put_50 : decode b_M_put 50 = .ok (.lload_n 3, 1) := by decide +kernel
theorem d_M_put_51 : decode b_M_put 51 = .ok (.invokevirtual 73, 3) := by decide +kernel
theorem d_M_put_54 : decode b_M_put 54 = .ok (.ifCond .ne 6, 3) := by decide +kernel
theorem d_M_put_57 : decode b_M_put 57 = .ok (.bipush (-3), 2) := by decide +kernel
theorem d_M_put_59 : decode b_M_put 59 = .ok (.ireturn, 1) := by decide +kernel
theorem d_M_put_60 : decode b_M_put 60 = .ok (.aload_n 0, 1) := by decide +kernel
theorem d_M_put_61 : decode b_M_put 61 = .ok (.iload_n 1, 1) := by decide +kernel
theorem d_M_put_62 : decode b_M_put 62 = .ok (.iload_n 2, 1) := by decide +kernel
theorem d_M_put_63 : decode b_M_put 63 = .ok (.lload_n 3, 1) := by decide +kernel
theorem d_M_put_64 : decode b_M_put 64 = .ok (.iload 5, 2) := by decide +kernel
theorem d_M_put_66 : decode b_M_put 66 = .ok (.lload 6, 2) := by decide +kernel
theorem d_M_put_68 : decode b_M_put 68 = .ok (.invokevirtual 99, 3) := by decide +kernel
theorem d_M_put_71 : decode b_M_put 71 = .ok (.ireturn, 1) := by decide +kernel
theorem d_M_remove_0 : decode b_M_remove 0 = .ok (.aload_n 0, 1) := by decide +kernel
theorem d_M_remove_1 : decode b_M_remove 1 = .ok (.iload_n 1, 1) := by decide +kernel
theorem d_M_remove_2 : decode b_M_remove 2 = .ok (.invokevirtual 94, 3) := by decide +kernel
theorem d_M_remove_5 : decode b_M_remove 5 = .ok (.ifCond .ne 5, 3) := by decide +kernel
theorem d_M_remove_8 : decode b_M_remove 8 = .ok (.iconst (-1), 1) := by decide +kernel
theorem d_M_remove_9 : decode b_M_remove 9 = .ok (.ireturn, 1) := by decide +kernel
theorem d_M_remove_10 : decode b_M_remove 10 = .ok (.aload_n 0, 1) := by decide +kernel
theorem d_M_remove_11 : decode b_M_remove 11 = .ok (.iload_n 1, 1) := by decide +kernel
theorem d_M_remove_12 : decode b_M_remove 12 = .ok (.invokevirtual 110, 3) := by decide +kernel
theorem d_M_remove_15 : decode b_M_remove 15 = .ok (.istore_n 3, 1) := by decide +kernel
theorem d_M_remove_16 : decode b_M_remove 16 = .ok (.iload_n 2, 1) := by decide +kernel
theorem d_M_remove_17 : decode b_M_remove 17 = .ok (.iconst 1, 1) := by decide +kernel
theorem d_M_remove_18 : decode b_M_remove 18 = .ok (.if_icmp .lt 10, 3) := by decide +kernel
theorem d_M_remove_21 : decode b_M_remove 21 = .ok (.iload_n 2, 1) := by decide +kernel
theorem d_M_remove_22 : decode b_M_remove 22 = .ok (.iload_n 3, 1) := by decide +kernel
theorem d_M_remove_23 : decode b_M_remove 23 = .ok (.iconst 1, 1) := by decide +kernel
theorem d_M_remove_24 : decode b_M_remove 24 = .ok (.iadd, 1) := by decide +kernel
theorem d_M_remove_25 : decode b_M_remove 25 = .ok (.if_icmp .le 5, 3) := by decide +kernel
theorem d_M_remove_28 : decode b_M_remove 28 = .ok (.iconst (-1), 1) := by decide +kernel
theorem d_M_remove_29 : decode b_M_remove 29 = .ok (.ireturn, 1) := by decide +kernel
theorem d_M_remove_30 : decode b_M_remove 30 = .ok (.iload_n 2, 1) := by decide +kernel
theorem d_M_remove_31 : decode b_M_remove 31 = .ok (.istore 4, 2) := by decide +kernel
theorem d_M_remove_33 : decode b_M_remove 33 = .ok (.iload 4, 2) := by decide +kernel
theorem d_M_remove_35 : decode b_M_remove 35 = .ok (.iload_n 3, 1) := by decide +kernel
theorem d_M_remove_36 : decode b_M_remove 36 = .ok (.if_icmp .ge 22, 3) := by decide +kernel
theorem d_M_remove_39 : decode b_M_remove 39 = .ok (.aload_n 0, 1) := by decide +kernel
theorem d_M_remove_40 : decode b_M_remove 40 = .ok (.iload_n 1, 1) := by decide +kernel
theorem d_M_remove_41 : decode b_M_remove 41 = .ok (.iload 4, 2) := by decide +kernel
theorem d_M_remove_43 : decode b_M_remove 43 = .ok (.i2l, 1) := by decide +kernel
theorem d_M_remove_44 : decode b_M_remove 44 = .ok (.lconst 1, 1) := by decide +kernel
theorem d_M_remove_45 : decode b_M_remove 45 = .ok (.ladd, 1) := by decide +kernel
theorem d_M_remove_46 : decode b_M_remove 46 = .ok (.iload 4, 2) := by decide +kernel
theorem d_M_remove_48 : decode b_M_remove 48 = .ok (.i2l, 1) := by decide +kernel
theorem d_M_remove_49 : decode b_M_remove 49 = .ok (.invokevirtual 129, 3) := by decide +kernel
theorem d_M_remove_52 : decode b_M_remove 52 = .ok (.iinc 4 1, 3) := by decide +kernel
theorem d_M_remove_55 : decode b_M_remove 55 = .ok (.goto (-22), 3) := by decide +kernel
theorem d_M_remove_58 : decode b_M_remove 58 = .ok (.iload_n 2, 1) := by decide +kernel
theorem d_M_remove_59 : decode b_M_remove 59 = .ok (.iload_n 3, 1) := by decide +kernel
theorem d_M_remove_60 : decode b_M_remove 60 = .ok (.if_icmp .gt 16, 3) := by decide +kernel
theorem d_M_remove_63 : decode b_M_remove 63 = .ok (.aload_n 0, 1) := by decide +kernel
theorem d_M_remove_64 : decode b_M_remove 64 = .ok (.aload_n 0, 1) := by decide +kernel
theorem d_M_remove_65 : decode b_M_remove 65 = .ok (.iload_n 1, 1) := by decide +kernel
theorem d_M_remove_66 : decode b_M_remove 66 = .ok (.iload_n 3, 1) := by decide +kernel
theorem d_M_remove_67 : decode b_M_remove 67 = .ok (.i2l, 1) := by decide +kernel
theorem d_M_remove_68 : decode b_M_remove 68 = .ok (.invokevirtual 106, 3) := by decide +kernel
theorem d_M_remove_71 : decode b_M_remove 71 = .ok (.iconst 0, 1) := by decide +kernel
theorem d_M_remove_72 : decode b_M_remove 72 = .ok (.lconst 0, 1) := by decide +kernel
theorem d_M_remove_73 : decode b_M_remove 73 = .ok (.invokevirtual 90, 3) := by decide +kernel
theorem d_M_remove_76 : decode b_M_remove 76 = .ok (.aload_n 0, 1) := by decide +kernel
theorem d_M_remove_77 : decode b_M_remove 77 = .ok (.iload_n 1, 1) := by decide +kernel
theorem d_M_remove_78 : decode b_M_remove 78 = .ok (.invokevirtual 110, 3) := by decide +kernel
theorem d_M_remove_81 : decode b_M_remove 81 = .ok (.ireturn, 1) := by decide +kernel
theorem d_M_reverse_0 : decode b_M_reverse 0 = .ok (.aload_n 0, 1) := by decide +kernel
theorem d_M_reverse_1 : decode b_M_reverse 1 = .ok (.iload_n 1, 1) := by decide +kernel
theorem d_M_reverse_2 : decode b_M_reverse 2 = .ok (.invokevirtual 94, 3) := by decide +kernel
theorem d_M_reverse_5 : decode b_M_reverse 5 = .ok (.ifCond .ne 5, 3) := by decide +kernel
theorem d_M_reverse_8 : decode b_M_reverse 8 = .ok (.iconst (-1), 1) := by decide +kernel
theorem d_M_reverse_9 : decode b_M_reverse 9 = .ok (.ireturn, 1) := by decide +kernel
theorem d_M_reverse_10 : decode b_M_reverse 10 = .ok (.aload_n 0, 1) := by decide +kernel
theorem d_M_reverse_11 : decode b_M_reverse 11 = .ok (.iload_n 1, 1) := by decide +kernel
theorem d_M_reverse_12 : decode b_M_reverse 12 = .ok (.invokevirtual 110, 3) := by decide +kernel
theorem d_M_reverse_15 : decode b_M_reverse 15 = .ok (.istore_n 2, 1) := by decide +kernel
theorem d_M_reverse_16 : decode b_M_reverse 16 = .ok (.iconst 1, 1) := by decide +kernel
theorem d_M_reverse_17 : decode b_M_reverse 17 = .ok (.istore_n 3, 1) := by decide +kernel
theorem d_M_reverse_18 : decode b_M_reverse 18 = .ok (.iload_n 3, 1) := by decide +kernel
theorem d_M_reverse_19 : decode b_M_reverse 19 = .ok (.iload_n 2, 1) := by decide +kernel
theorem d_M_reverse_20 : decode b_M_reverse 20 = .ok (.iconst 2, 1) := by decide +kernel
theorem d_M_reverse_21 : decode b_M_reverse 21 = .ok (.idiv, 1) := by decide +kernel
theorem d_M_reverse_22 : decode b_M_reverse 22 = .ok (.if_icmp .gt 80, 3) := by decide +kernel
theorem d_M_reverse_25 : decode b_M_reverse 25 = .ok (.aload_n 0, 1) := by decide +kernel
theorem d_M_reverse_26 : decode b_M_reverse 26 = .ok (.iload_n 1, 1) := by decide +kernel
theorem d_M_reverse_27 : decode b_M_reverse 27 = .ok (.iload_n 3, 1) := by decide +kernel
theorem d_M_reverse_28 : decode b_M_reverse 28 = .ok (.i2l, 1) := by decide +kernel
theorem d_M_reverse_29 : decode b_M_reverse 29 = .ok (.invokevirtual 106, 3) := by decide +kernel
theorem d_M_reverse_32 : decode b_M_reverse 32 = .ok (.istore 4, 2) := by decide +kernel
theorem d_M_reverse_34 : decode b_M_reverse 34 = .ok (.aload_n 0, 1) := by decide +kernel
theorem d_M_reverse_35 : decode b_M_reverse 35 = .ok (.iload_n 1, 1) := by decide +kernel
theorem d_M_reverse_36 : decode b_M_reverse 36 = .ok (.iload_n 2, 1) := by decide +kernel
theorem d_M_reverse_37 : decode b_M_reverse 37 = .ok (.i2l, 1) := by decide +kernel
theorem d_M_reverse_38 : decode b_M_reverse 38 = .ok (.lconst 1, 1) := by decide +kernel
theorem d_M_reverse_39 : decode b_M_reverse 39 = .ok (.ladd, 1) := by decide +kernel
theorem d_M_reverse_40 : decode b_M_reverse 40 = .ok (.iload_n 3, 1) := by decide +kernel
theorem d_M_reverse_41 : decode b_M_reverse 41 = .ok (.i2l, 1) := by decide +kernel
theorem d_M_reverse_42 : decode b_M_reverse 42 = .ok (.lsub, 1) := by decide +kernel
theorem d_M_reverse_43 : decode b_M_reverse 43 = .ok (.invokevirtual 106, 3) := by decide +kernel
theorem d_M_reverse_46 : decode b_M_reverse 46 = .ok (.istore 5, 2) := by decide +kernel
theorem d_M_reverse_48 : decode b_M_reverse 48 = .ok (.aload_n 0, 1) := by decide +kernel
theorem d_M_reverse_49 : decode b_M_reverse 49 = .ok (.getfield 17, 3) := by decide +kernel
theorem d_M_reverse_52 : decode b_M_reverse 52 = .ok (.iload 4, 2) := by decide +kernel
theorem d_M_reverse_54 : decode b_M_reverse 54 = .ok (.baload, 1) := by decide +kernel
theorem d_M_reverse_55 : decode b_M_reverse 55 = .ok (.istore 6, 2) := by decide +kernel
theorem d_M_reverse_57 : decode b_M_reverse 57 = .ok (.aload_n 0, 1) := by decide +kernel
theorem d_M_reverse_58 : decode b_M_reverse 58 = .ok (.getfield 20, 3) := by decide +kernel
theorem d_M_reverse_61 : decode b_M_reverse 61 = .ok (.iload 4, 2) := by decide +kernel
theorem d_M_reverse_63 : decode b_M_reverse 63 = .ok (.laload, 1) := by decide +kernel
theorem d_M_reverse_64 : decode b_M_reverse 64 = .ok (.lstore 7, 2) := by decide +kernel
theorem d_M_reverse_66 : decode b_M_reverse 66 = .ok (.aload_n 0, 1) := by decide +kernel
theorem d_M_reverse_67 : decode b_M_reverse 67 = .ok (.iload 4, 2) := by decide +kernel
theorem d_M_reverse_69 : decode b_M_reverse 69 = .ok (.aload_n 0, 1) := by decide +kernel
theorem d_M_reverse_70 : decode b_M_reverse 70 = .ok (.getfield 17, 3) := by decide +kernel
theorem d_M_reverse_73 : decode b_M_reverse 73 = .ok (.iload 5, 2) := by decide +kernel
theorem d_M_reverse_75 : decode b_M_reverse 75 = .ok (.baload, 1) := by decide +kernel
theorem d_M_reverse_76 : decode b_M_reverse 76 = .ok (.aload_n 0, 1) := by decide +kernel
theorem d_M_reverse_77 : decode b_M_reverse 77 = .ok (.getfield 20, 3) := by decide +kernel
theorem d_M_reverse_80 : decode b_M_reverse 80 = .ok (.iload 5, 2) := by decide +kernel
theorem d_M_reverse_82 : decode b_M_reverse 82 = .ok (.laload, 1) := by decide +kernel
theorem d_M_reverse_83 : decode b_M_reverse 83 = .ok (.invokevirtual 90, 3) := by decide +kernel
theorem d_M_reverse_86 : decode b_M_reverse 86 = .ok (.aload_n 0, 1) := by decide +kernel
theorem d_M_reverse_87 : decode b_M_reverse 87 = .ok (.iload 5, 2) := by decide +kernel
theorem d_M_reverse_89 : decode b_M_reverse 89 = .ok (.iload 6, 2) := by decide +kernel
theorem d_M_reverse_91 : decode b_M_reverse 91 = .ok (.lload 7, 2) := by decide +kernel
theorem d_M_reverse_93 : decode b_M_reverse 93 = .ok (.invokevirtual 90, 3) := by decide +kernel
theorem d_M_reverse_96 : decode b_M_reverse 96 = .ok (.iinc 3 1, 3) := by decide +kernel
theorem d_M_reverse_99 : decode b_M_reverse 99 = .ok (.goto (-81), 3) := by decide +kernel
theorem d_M_reverse_102 : decode b_M_reverse 102 = .ok (.iload_n 2, 1) := by decide +kernel
theorem d_M_reverse_103 : decode b_M_reverse 103 = .ok (.ireturn, 1) := by decide +kernel
theorem d_M_same_0 : decode b_M_same 0 = .ok (.aload_n 0, 1) := by decide +kernel
theorem d_M_same_1 : decode b_M_same 1 = .ok (.iload_n 1, 1) := by decide +kernel
theorem d_M_same_2 : decode b_M_same 2 = .ok (.invokevirtual 94, 3) := by decide +kernel
theorem d_M_same_5 : decode b_M_same 5 = .ok (.ifCond .eq 11, 3) := by decide +kernel
theorem d_M_same_8 : decode b_M_same 8 = .ok (.aload_n 0, 1) := by decide +kernel
theorem d_M_same_9 : decode b_M_same 9 = .ok (.iload_n 2, 1) := by decide +kernel
theorem d_M_same_10 : decode b_M_same 10 = .ok (.invokevirtual 94, 3) := by decide +kernel
theorem d_M_same_13 : decode b_M_same 13 = .ok (.ifCond .ne 5, 3) := by decide +kernel
theorem d_M_same_16 : decode b_M_same 16 = .ok (.iconst (-1), 1) := by decide +kernel
theorem d_M_same_17 : decode b_M_same 17 = .ok (.ireturn, 1) := by decide +kernel
theorem d_M_same_18 : decode b_M_same 18 = .ok (.aload_n 0, 1) := by decide +kernel
theorem d_M_same_19 : decode b_M_same 19 = .ok (.iload_n 1, 1) := by decide +kernel
theorem d_M_same_20 : decode b_M_same 20 = .ok (.iload_n 2, 1) := by decide +kernel
theorem d_M_same_21 : decode b_M_same 21 = .ok (.invokevirtual 133, 3) := by decide +kernel
theorem d_M_same_24 : decode b_M_same 24 = .ok (.ifCond .eq 16, 3) := by decide +kernel
theorem d_M_same_27 : decode b_M_same 27 = .ok (.aload_n 0, 1) := by decide +kernel
theorem d_M_same_28 : decode b_M_same 28 = .ok (.iload_n 2, 1) := by decide +kernel
theorem d_M_same_29 : decode b_M_same 29 = .ok (.iload_n 1, 1) := by decide +kernel
theorem d_M_same_30 : decode b_M_same 30 = .ok (.invokevirtual 133, 3) := by decide +kernel
theorem d_M_same_33 : decode b_M_same 33 = .ok (.ifCond .eq 7, 3) := by decide +kernel
theorem d_M_same_36 : decode b_M_same 36 = .ok (.iconst 1, 1) := by decide +kernel
theorem d_M_same_37 : decode b_M_same 37 = .ok (.goto 4, 3) := by decide +kernel
theorem d_M_same_40 : decode b_M_same 40 = .ok (.iconst 0, 1) := by decide +kernel
theorem d_M_same_41 : decode b_M_same 41 = .ok (.ireturn, 1) := by decide +kernel
theorem d_M_set_0 : decode b_M_set 0 = .ok (.aload_n 0, 1) := by decide +kernel
theorem d_M_set_1 : decode b_M_set 1 = .ok (.getfield 17, 3) := by decide +kernel
theorem d_M_set_4 : decode b_M_set 4 = .ok (.iload_n 1, 1) := by decide +kernel
theorem d_M_set_5 : decode b_M_set 5 = .ok (.iload_n 2, 1) := by decide +kernel
theorem d_M_set_6 : decode b_M_set 6 = .ok (.i2b, 1) := by decide +kernel
theorem d_M_set_7 : decode b_M_set 7 = .ok (.bastore, 1) := by decide +kernel
theorem d_M_set_8 : decode b_M_set 8 = .ok (.aload_n 0, 1) := by decide +kernel
theorem d_M_set_9 : decode b_M_set 9 = .ok (.getfield 20, 3) := by decide +kernel
theorem d_M_set_12 : decode b_M_set 12 = .ok (.iload_n 1, 1) := by decide +kernel
theorem d_M_set_13 : decode b_M_set 13 = .ok (.iload_n 2, 1) := by decide +kernel
theorem d_M_set_14 : decode b_M_set 14 = .ok (.ifCond .ne 7, 3) := by decide +kernel
theorem d_M_set_17 : decode b_M_set 17 = .ok (.lconst 0, 1) := by decide +kernel
theorem d_M_set_18 : decode b_M_set 18 = .ok (.goto 4, 3) := by decide +kernel
theorem d_M_set_21 : decode b_M_set 21 = .ok (.lload_n 3, 1) := by decide +kernel
theorem d_M_set_22 : decode b_M_set 22 = .ok (.lastore, 1) := by decide +kernel
theorem d_M_set_23 : decode b_M_set 23 = .ok (.return_, 1) := by decide +kernel
theorem d_M_twice_0 : decode b_M_twice 0 = .ok (.iconst 2, 1) := by decide +kernel
theorem d_M_twice_1 : decode b_M_twice 1 = .ok (.aload_n 0, 1) := by decide +kernel
theorem d_M_twice_2 : decode b_M_twice 2 = .ok (.arraylength, 1) := by decide +kernel
theorem d_M_twice_3 : decode b_M_twice 3 = .ok (.imul, 1) := by decide +kernel
theorem d_M_twice_4 : decode b_M_twice 4 = .ok (.newarray .int, 2) := by decide +kernel
theorem d_M_twice_6 : decode b_M_twice 6 = .ok (.astore_n 1, 1) := by decide +kernel
theorem d_M_twice_7 : decode b_M_twice 7 = .ok (.aload_n 0, 1) := by decide +kernel
theorem d_M_twice_8 : decode b_M_twice 8 = .ok (.iconst 0, 1) := by decide +kernel
theorem d_M_twice_9 : decode b_M_twice 9 = .ok (.aload_n 1, 1) := by decide +kernel
theorem d_M_twice_10 : decode b_M_twice 10 = .ok (.iconst 0, 1) := by decide +kernel
theorem d_M_twice_11 : decode b_M_twice 11 = .ok (.aload_n 0, 1) := by decide +kernel
theorem d_M_twice_12 : decode b_M_twice 12 = .ok (.arraylength, 1) := by decide +kernel
theorem d_M_twice_13 : decode b_M_twice 13 = .ok (.invokestatic 45, 3) := by decide +kernel
theorem d_M_twice_16 : decode b_M_twice 16 = .ok (.aload_n 1, 1) := by decide +kernel
theorem d_M_twice_17 : decode b_M_twice 17 = .ok (.areturn, 1) := by decide +kernel
theorem d_M_twiceByte_0 : decode b_M_twiceByte 0 = .ok (.iconst 2, 1) := by decide +kernel
theorem d_M_twiceByte_1 : decode b_M_twiceByte 1 = .ok (.aload_n 0, 1) := by decide +kernel
theorem d_M_twiceByte_2 : decode b_M_twiceByte 2 = .ok (.arraylength, 1) := by decide +kernel
theorem d_M_twiceByte_3 : decode b_M_twiceByte 3 = .ok (.imul, 1) := by decide +kernel
theorem d_M_twiceByte_4 : decode b_M_twiceByte 4 = .ok (.newarray .byte, 2) := by decide +kernel
theorem d_M_twiceByte_6 : decode b_M_twiceByte 6 = .ok (.astore_n 1, 1) := by decide +kernel
theorem d_M_twiceByte_7 : decode b_M_twiceByte 7 = .ok (.aload_n 0, 1) := by decide +kernel
theorem d_M_twiceByte_8 : decode b_M_twiceByte 8 = .ok (.iconst 0, 1) := by decide +kernel
theorem d_M_twiceByte_9 : decode b_M_twiceByte 9 = .ok (.aload_n 1, 1) := by decide +kernel
theorem d_M_twiceByte_10 : decode b_M_twiceByte 10 = .ok (.iconst 0, 1) := by decide +kernel
theorem d_M_twiceByte_11 : decode b_M_twiceByte 11 = .ok (.aload_n 0, 1) := by decide +kernel
theorem d_M_twiceByte_12 : decode b_M_twiceByte 12 = .ok (.arraylength, 1) := by decide +kernel
theorem d_M_twiceByte_13 : decode b_M_twiceByte 13 = .ok (.invokestatic 45, 3) := by decide +kernel
theorem d_M_twiceByte_16 : decode b_M_twiceByte 16 = .ok (.aload_n 1, 1) := by decide +kernel
theorem d_M_twiceByte_17 : decode b_M_twiceByte 17 = .ok (.areturn, 1) := by decide +kernel
theorem d_M_twiceLong_0 : decode b_M_twiceLong 0 = .ok (.iconst 2, 1) := by decide +kernel
theorem d_M_twiceLong_1 : decode b_M_twiceLong 1 = .ok (.aload_n 0, 1) := by decide +kernel
theorem d_M_twiceLong_2 : decode b_M_twiceLong 2 = .ok (.arraylength, 1) := by decide +kernel
theorem d_M_twiceLong_3 : decode b_M_twiceLong 3 = .ok (.imul, 1) := by decide +kernel
theorem d_M_twiceLong_4 : decode b_M_twiceLong 4 = .ok (.newarray .long, 2) := by decide +kernel
theorem d_M_twiceLong_6 : decode b_M_twiceLong 6 = .ok (.astore_n 1, 1) := by decide +kernel
theorem d_M_twiceLong_7 : decode b_M_twiceLong 7 = .ok (.aload_n 0, 1) := by decide +kernel
theorem d_M_twiceLong_8 : decode b_M_twiceLong 8 = .ok (.iconst 0, 1) := by decide +kernel
theorem d_M_twiceLong_9 : decode b_M_twiceLong 9 = .ok (.aload_n 1, 1) := by decide +kernel
theorem d_M_twiceLong_10 : decode b_M_twiceLong 10 = .ok (.iconst 0, 1) := by decide +kernel
theorem d_M_twiceLong_11 : decode b_M_twiceLong 11 = .ok (.aload_n 0, 1) := by decide +kernel
theorem d_M_twiceLong_12 : decode b_M_twiceLong 12 = .ok (.arraylength, 1) := by decide +kernel
theorem d_M_twiceLong_13 : decode b_M_twiceLong 13 = .ok (.invokestatic 45, 3) := by decide +kernel
theorem d_M_twiceLong_16 : decode b_M_twiceLong 16 = .ok (.aload_n 1, 1) := by decide +kernel
theorem d_M_twiceLong_17 : decode b_M_twiceLong 17 = .ok (.areturn, 1) := by decide +kernel
