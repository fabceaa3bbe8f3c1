theorem d_F_all_0 : decode b_F_all 0 = .ok (.aload_n 0, 1) := by decide +kernel
theorem d_F_all_1 : decode b_F_all 1 = .ok (.getfield 19, 3) := by decide +kernel
theorem d_F_all_4 : decode b_F_all 4 = .ok (.getfield 130, 3) := by decide +kernel
theorem d_F_all_7 : decode b_F_all 7 = .ok (.ireturn, 1) := by decide +kernel
theorem d_F_append_0 : decode b_F_append 0 = .ok (.aload_n 0, 1) := by decide +kernel
theorem d_F_append_1 : decode b_F_append 1 = .ok (.getfield 10, 3) := by decide +kernel
theorem d_F_append_4 : decode b_F_append 4 = .ok (.getfield 149, 3) := by decide +kernel
theorem d_F_append_7 : decode b_F_append 7 = .ok (.iload_n 1, 1) := by decide +kernel
theorem d_F_append_8 : decode b_F_append 8 = .ok (.iaload, 1) := by decide +kernel
theorem d_F_append_9 : decode b_F_append 9 = .ok (.istore_n 3, 1) := by decide +kernel
theorem d_F_append_10 : decode b_F_append 10 = .ok (.iload_n 3, 1) := by decide +kernel
theorem d_F_append_11 : decode b_F_append 11 = .ok (.ifCond .ne 16, 3) := by decide +kernel
theorem d_F_append_14 : decode b_F_append 14 = .ok (.aload_n 0, 1) := by decide +kernel
theorem d_F_append_15 : decode b_F_append 15 = .ok (.getfield 10, 3) := by decide +kernel
theorem d_F_append_18 : decode b_F_append 18 = .ok (.getfield 77, 3) := by decide +kernel
theorem d_F_append_21 : decode b_F_append 21 = .ok (.iload_n 1, 1) := by decide +kernel
theorem d_F_append_22 : decode b_F_append 22 = .ok (.iload_n 2, 1) := by decide +kernel
theorem d_F_append_23 : decode b_F_append 23 = .ok (.iastore, 1) := by decide +kernel
theorem d_F_append_24 : decode b_F_append 24 = .ok (.goto 13, 3) := by decide +kernel
theorem d_F_append_27 : decode b_F_append 27 = .ok (.aload_n 0, 1) := by decide +kernel
theorem d_F_append_28 : decode b_F_append 28 = .ok (.getfield 19, 3) := by decide +kernel
theorem d_F_append_31 : decode b_F_append 31 = .ok (.getfield 80, 3) := by decide +kernel
theorem d_F_append_34 : decode b_F_append 34 = .ok (.iload_n 3, 1) := by decide +kernel
theorem d_F_append_35 : decode b_F_append 35 = .ok (.iload_n 2, 1) := by decide +kernel
theorem d_F_append_36 : decode b_F_append 36 = .ok (.iastore, 1) := by decide +kernel
theorem d_F_append_37 : decode b_F_append 37 = .ok (.aload_n 0, 1) := by decide +kernel
theorem d_F_append_38 : decode b_F_append 38 = .ok (.getfield 10, 3) := by decide +kernel
theorem d_F_append_41 : decode b_F_append 41 = .ok (.getfield 149, 3) := by decide +kernel
theorem d_F_append_44 : decode b_F_append 44 = .ok (.iload_n 1, 1) := by decide +kernel
theorem d_F_append_45 : decode b_F_append 45 = .ok (.iload_n 2, 1) := by decide +kernel
theorem d_F_append_46 : decode b_F_append 46 = .ok (.iastore, 1) := by decide +kernel
theorem d_F_append_47 : decode b_F_append 47 = .ok (.aload_n 0, 1) := by decide +kernel
theorem d_F_append_48 : decode b_F_append 48 = .ok (.getfield 10, 3) := by decide +kernel
theorem d_F_append_51 : decode b_F_append 51 = .ok (.getfield 71, 3) := by decide +kernel
theorem d_F_append_54 : decode b_F_append 54 = .ok (.iload_n 1, 1) := by decide +kernel
theorem d_F_append_55 : decode b_F_append 55 = .ok (.dup2, 1) := by decide +kernel
theorem d_F_append_56 : decode b_F_append 56 = .ok (.iaload, 1) := by decide +kernel
theorem d_F_append_57 : decode b_F_append 57 = .ok (.iconst 1, 1) := by decide +kernel
theorem d_F_append_58 : decode b_F_append 58 = .ok (.iadd, 1) := by decide +kernel
theorem d_F_append_59 : decode b_F_append 59 = .ok (.iastore, 1) := by decide +kernel
theorem d_F_append_60 : decode b_F_append 60 = .ok (.return_, 1) := by decide +kernel
theorem d_F_border_0 : decode b_F_border 0 = .ok (.aload_n 0, 1) := by decide +kernel
theorem d_F_border_1 : decode b_F_border 1 = .ok (.getfield 10, 3) := by decide +kernel
theorem d_F_border_4 : decode b_F_border 4 = .ok (.iload_n 1, 1) := by decide +kernel
theorem d_F_border_5 : decode b_F_border 5 = .ok (.invokevirtual 38, 3) := by decide +kernel
theorem d_F_border_8 : decode b_F_border 8 = .ok (.ifCond .eq 15, 3) := by decide +kernel
theorem d_F_border_11 : decode b_F_border 11 = .ok (.aload_n 0, 1) := by decide +kernel
theorem d_F_border_12 : decode b_F_border 12 = .ok (.getfield 10, 3) := by decide +kernel
theorem d_F_border_15 : decode b_F_border 15 = .ok (.getfield 67, 3) := by decide +kernel
theorem d_F_border_18 : decode b_F_border 18 = .ok (.iload_n 1, 1) := by decide +kernel
theorem d_F_border_19 : decode b_F_border 19 = .ok (.iaload, 1) := by decide +kernel
theorem d_F_border_20 : decode b_F_border 20 = .ok (.goto 4, 3) := by decide +kernel
theorem d_F_border_23 : decode b_F_border 23 = .ok (.iconst (-1), 1) := by decide +kernel
theorem d_F_border_24 : decode b_F_border 24 = .ok (.ireturn, 1) := by decide +kernel
theorem d_F_change_0 : decode b_F_change 0 = .ok (.aload_n 0, 1) := by decide +kernel
theorem d_F_change_1 : decode b_F_change 1 = .ok (.getfield 19, 3) := by decide +kernel
theorem d_F_change_4 : decode b_F_change 4 = .ok (.getfield 59, 3) := by decide +kernel
theorem d_F_change_7 : decode b_F_change 7 = .ok (.iload_n 2, 1) := by decide +kernel
theorem d_F_change_8 : decode b_F_change 8 = .ok (.baload, 1) := by decide +kernel
theorem d_F_change_9 : decode b_F_change 9 = .ok (.ifCond .eq 7, 3) := by decide +kernel
theorem d_F_change_12 : decode b_F_change 12 = .ok (.iconst 1, 1) := by decide +kernel
theorem d_F_change_13 : decode b_F_change 13 = .ok (.goto 4, 3) := by decide +kernel
theorem d_F_change_16 : decode b_F_change 16 = .ok (.iconst 0, 1) := by decide +kernel
theorem d_F_change_17 : decode b_F_change 17 = .ok (.istore 6, 2) := by decide +kernel
theorem d_F_change_19 : decode b_F_change 19 = .ok (.iload_n 3, 1) := by decide +kernel
theorem d_F_change_20 : decode b_F_change 20 = .ok (.ifCond .eq 7, 3) := by decide +kernel
theorem d_F_change_23 : decode b_F_change 23 = .ok (.iconst 1, 1) := by decide +kernel
theorem d_F_change_24 : decode b_F_change 24 = .ok (.goto 4, 3) := by decide +kernel
theorem d_F_change_27 : decode b_F_change 27 = .ok (.iconst 0, 1) := by decide +kernel
theorem d_F_change_28 : decode b_F_change 28 = .ok (.istore 7, 2) := by decide +kernel
theorem d_F_change_30 : decode b_F_change 30 = .ok (.aload_n 0, 1) := by decide +kernel
theorem d_F_change_31 : decode b_F_change 31 = .ok (.getfield 19, 3) := by decide +kernel
theorem d_F_change_34 : decode b_F_change 34 = .ok (.iload_n 2, 1) := by decide +kernel
theorem d_F_change_35 : decode b_F_change 35 = .ok (.iload_n 3, 1) := by decide +kernel
theorem d_F_change_36 : decode b_F_change 36 = .ok (.lload 4, 2) := by decide +kernel
theorem d_F_change_38 : decode b_F_change 38 = .ok (.invokevirtual 152, 3) := by decide +kernel
theorem d_F_change_41 : decode b_F_change 41 = .ok (.iload 6, 2) := by decide +kernel
theorem d_F_change_43 : decode b_F_change 43 = .ok (.iload 7, 2) := by decide +kernel
theorem d_F_change_45 : decode b_F_change 45 = .ok (.if_icmp .ne 4, 3) := by decide +kernel
theorem d_F_change_48 : decode b_F_change 48 = .ok (.return_, 1) := by decide +kernel
theorem d_F_change_49 : decode b_F_change 49 = .ok (.aload_n 0, 1) := by decide +kernel
theorem d_F_change_50 : decode b_F_change 50 = .ok (.getfield 10, 3) := by decide +kernel
theorem d_F_change_53 : decode b_F_change 53 = .ok (.getfield 74, 3) := by decide +kernel
theorem d_F_change_56 : decode b_F_change 56 = .ok (.iload_n 1, 1) := by decide +kernel
theorem d_F_change_57 : decode b_F_change 57 = .ok (.dup2, 1) := by decide +kernel
theorem d_F_change_58 : decode b_F_change 58 = .ok (.iaload, 1) := by decide +kernel
theorem d_F_change_59 : decode b_F_change 59 = .ok (.iload 7, 2) := by decide +kernel
theorem d_F_change_61 : decode b_F_change 61 = .ok (.ifCond .eq 7, 3) := by decide +kernel
theorem d_F_change_64 : decode b_F_change 64 = .ok (.iconst 1, 1) := by decide +kernel
theorem d_F_change_65 : decode b_F_change 65 = .ok (.goto 4, 3) := by decide +kernel
theorem d_F_change_68 : decode b_F_change 68 = .ok (.iconst (-1), 1) := by decide +kernel
theorem d_F_change_69 : decode b_F_change 69 = .ok (.iadd, 1) := by decide +kernel
theorem d_F_change_70 : decode b_F_change 70 = .ok (.iastore, 1) := by decide +kernel
theorem d_F_change_71 : decode b_F_change 71 = .ok (.aload_n 0, 1) := by decide +kernel
theorem d_F_change_72 : decode b_F_change 72 = .ok (.getfield 19, 3) := by decide +kernel
theorem d_F_change_75 : decode b_F_change 75 = .ok (.iload_n 2, 1) := by decide +kernel
theorem d_F_change_76 : decode b_F_change 76 = .ok (.invokevirtual 124, 3) := by decide +kernel
theorem d_F_change_79 : decode b_F_change 79 = .ok (.iconst 3, 1) := by decide +kernel
theorem d_F_change_80 : decode b_F_change 80 = .ok (.if_icmp .eq 4, 3) := by decide +kernel
theorem d_F_change_83 : decode b_F_change 83 = .ok (.return_, 1) := by decide +kernel
theorem d_F_change_84 : decode b_F_change 84 = .ok (.iload 7, 2) := by decide +kernel
theorem d_F_change_86 : decode b_F_change 86 = .ok (.ifCond .eq 20, 3) := by decide +kernel
theorem d_F_change_89 : decode b_F_change 89 = .ok (.aload_n 0, 1) := by decide +kernel
theorem d_F_change_90 : decode b_F_change 90 = .ok (.iload_n 1, 1) := by decide +kernel
theorem d_F_change_91 : decode b_F_change 91 = .ok (.aload_n 0, 1) := by decide +kernel
theorem d_F_change_92 : decode b_F_change 92 = .ok (.getfield 19, 3) := by decide +kernel
theorem d_F_change_95 : decode b_F_change 95 = .ok (.getfield 127, 3) := by decide +kernel
theorem d_F_change_98 : decode b_F_change 98 = .ok (.iload_n 2, 1) := by decide +kernel
theorem d_F_change_99 : decode b_F_change 99 = .ok (.laload, 1) := by decide +kernel
theorem d_F_change_100 : decode b_F_change 100 = .ok (.invokevirtual 156, 3) := by decide +kernel
theorem d_F_change_103 : decode b_F_change 103 = .ok (.goto 17, 3) := by decide +kernel
theorem d_F_change_106 : decode b_F_change 106 = .ok (.aload_n 0, 1) := by decide +kernel
theorem d_F_change_107 : decode b_F_change 107 = .ok (.iload_n 1, 1) := by decide +kernel
theorem d_F_change_108 : decode b_F_change 108 = .ok (.aload_n 0, 1) := by decide +kernel
theorem d_F_change_109 : decode b_F_change 109 = .ok (.getfield 19, 3) := by decide +kernel
theorem d_F_change_112 : decode b_F_change 112 = .ok (.getfield 127, 3) := by decide +kernel
theorem d_F_change_115 : decode b_F_change 115 = .ok (.iload_n 2, 1) := by decide +kernel
theorem d_F_change_116 : decode b_F_change 116 = .ok (.laload, 1) := by decide +kernel
theorem d_F_change_117 : decode b_F_change 117 = .ok (.invokevirtual 160, 3) := by decide +kernel
theorem d_F_change_120 : decode b_F_change 120 = .ok (.return_, 1) := by decide +kernel
theorem d_F_clear_0 : decode b_F_clear 0 = .ok (.aload_n 0, 1) := by decide +kernel
theorem d_F_clear_1 : decode b_F_clear 1 = .ok (.iload_n 1, 1) := by decide +kernel
theorem d_F_clear_2 : decode b_F_clear 2 = .ok (.lload_n 2, 1) := by decide +kernel
theorem d_F_clear_3 : decode b_F_clear 3 = .ok (.iload 4, 2) := by decide +kernel
theorem d_F_clear_5 : decode b_F_clear 5 = .ok (.iload 5, 2) := by decide +kernel
theorem d_F_clear_7 : decode b_F_clear 7 = .ok (.invokevirtual 91, 3) := by decide +kernel
theorem d_F_clear_10 : decode b_F_clear 10 = .ok (.ifCond .ne 5, 3) := by decide +kernel
theorem d_F_clear_13 : decode b_F_clear 13 = .ok (.iconst (-1), 1) := by decide +kernel
theorem d_F_clear_14 : decode b_F_clear 14 = .ok (.ireturn, 1) := by decide +kernel
theorem d_F_clear_15 : decode b_F_clear 15 = .ok (.aload_n 0, 1) := by decide +kernel
theorem d_F_clear_16 : decode b_F_clear 16 = .ok (.getfield 10, 3) := by decide +kernel
theorem d_F_clear_19 : decode b_F_clear 19 = .ok (.getfield 74, 3) := by decide +kernel
theorem d_F_clear_22 : decode b_F_clear 22 = .ok (.iload_n 1, 1) := by decide +kernel
theorem d_F_clear_23 : decode b_F_clear 23 = .ok (.iaload, 1) := by decide +kernel
theorem d_F_clear_24 : decode b_F_clear 24 = .ok (.istore 6, 2) := by decide +kernel
theorem d_F_clear_26 : decode b_F_clear 26 = .ok (.lload_n 2, 1) := by decide +kernel
theorem d_F_clear_27 : decode b_F_clear 27 = .ok (.lstore 7, 2) := by decide +kernel
theorem d_F_clear_29 : decode b_F_clear 29 = .ok (.iconst 0, 1) := by decide +kernel
theorem d_F_clear_30 : decode b_F_clear 30 = .ok (.istore 9, 2) := by decide +kernel
theorem d_F_clear_32 : decode b_F_clear 32 = .ok (.iload 9, 2) := by decide +kernel
theorem d_F_clear_34 : decode b_F_clear 34 = .ok (.iload 4, 2) := by decide +kernel
theorem d_F_clear_36 : decode b_F_clear 36 = .ok (.if_icmp .ge 28, 3) := by decide +kernel
theorem d_F_clear_39 : decode b_F_clear 39 = .ok (.aload_n 0, 1) := by decide +kernel
theorem d_F_clear_40 : decode b_F_clear 40 = .ok (.iload_n 1, 1) := by decide +kernel
theorem d_F_clear_41 : decode b_F_clear 41 = .ok (.iconst 3, 1) := by decide +kernel
theorem d_F_clear_42 : decode b_F_clear 42 = .ok (.lload 7, 2) := by decide +kernel
theorem d_F_clear_44 : decode b_F_clear 44 = .ok (.iconst 0, 1) := by decide +kernel
theorem d_F_clear_45 : decode b_F_clear 45 = .ok (.lconst 0, 1) := by decide +kernel
theorem d_F_clear_46 : decode b_F_clear 46 = .ok (.invokevirtual 55, 3) := by decide +kernel
theorem d_F_clear_49 : decode b_F_clear 49 = .ok (.pop, 1) := by decide +kernel
theorem d_F_clear_50 : decode b_F_clear 50 = .ok (.lload 7, 2) := by decide +kernel
theorem d_F_clear_52 : decode b_F_clear 52 = .ok (.iload 5, 2) := by decide +kernel
theorem d_F_clear_54 : decode b_F_clear 54 = .ok (.i2l, 1) := by decide +kernel
theorem d_F_clear_55 : decode b_F_clear 55 = .ok (.ladd, 1) := by decide +kernel
theorem d_F_clear_56 : decode b_F_clear 56 = .ok (.lstore 7, 2) := by decide +kernel
theorem d_F_clear_58 : decode b_F_clear 58 = .ok (.iinc 9 1, 3) := by decide +kernel
theorem d_F_clear_61 : decode b_F_clear 61 = .ok (.goto (-29), 3) := by decide +kernel
theorem d_F_clear_64 : decode b_F_clear 64 = .ok (.iload 6, 2) := by decide +kernel
theorem d_F_clear_66 : decode b_F_clear 66 = .ok (.aload_n 0, 1) := by decide +kernel
theorem d_F_clear_67 : decode b_F_clear 67 = .ok (.getfield 10, 3) := by decide +kernel
theorem d_F_clear_70 : decode b_F_clear 70 = .ok (.getfield 74, 3) := by decide +kernel
theorem d_F_clear_73 : decode b_F_clear 73 = .ok (.iload_n 1, 1) := by decide +kernel
theorem d_F_clear_74 : decode b_F_clear 74 = .ok (.iaload, 1) := by decide +kernel
theorem d_F_clear_75 : decode b_F_clear 75 = .ok (.isub, 1) := by decide +kernel
theorem d_F_clear_76 : decode b_F_clear 76 = .ok (.ireturn, 1) := by decide +kernel
theorem d_F_copy_0 : decode b_F_copy 0 = .ok (.aload_n 0, 1) := by decide +kernel
theorem d_F_copy_1 : decode b_F_copy 1 = .ok (.getfield 10, 3) := by decide +kernel
theorem d_F_copy_4 : decode b_F_copy 4 = .ok (.iload_n 1, 1) := by decide +kernel
theorem d_F_copy_5 : decode b_F_copy 5 = .ok (.invokevirtual 38, 3) := by decide +kernel
theorem d_F_copy_8 : decode b_F_copy 8 = .ok (.ifCond .eq 14, 3) := by decide +kernel
theorem d_F_copy_11 : decode b_F_copy 11 = .ok (.aload_n 0, 1) := by decide +kernel
theorem d_F_copy_12 : decode b_F_copy 12 = .ok (.getfield 10, 3) := by decide +kernel
theorem d_F_copy_15 : decode b_F_copy 15 = .ok (.iload_n 2, 1) := by decide +kernel
theorem d_F_copy_16 : decode b_F_copy 16 = .ok (.invokevirtual 38, 3) := by decide +kernel
theorem d_F_copy_19 : decode b_F_copy 19 = .ok (.ifCond .ne 5, 3) := by decide +kernel
theorem d_F_copy_22 : decode b_F_copy 22 = .ok (.iconst (-1), 1) := by decide +kernel
theorem d_F_copy_23 : decode b_F_copy 23 = .ok (.ireturn, 1) := by decide +kernel
theorem d_F_copy_24 : decode b_F_copy 24 = .ok (.aload_n 0, 1) := by decide +kernel
theorem d_F_copy_25 : decode b_F_copy 25 = .ok (.getfield 10, 3) := by decide +kernel
theorem d_F_copy_28 : decode b_F_copy 28 = .ok (.getfield 74, 3) := by decide +kernel
theorem d_F_copy_31 : decode b_F_copy 31 = .ok (.iload_n 2, 1) := by decide +kernel
theorem d_F_copy_32 : decode b_F_copy 32 = .ok (.iaload, 1) := by decide +kernel
theorem d_F_copy_33 : decode b_F_copy 33 = .ok (.aload_n 0, 1) := by decide +kernel
theorem d_F_copy_34 : decode b_F_copy 34 = .ok (.getfield 19, 3) := by decide +kernel
theorem d_F_copy_37 : decode b_F_copy 37 = .ok (.invokevirtual 48, 3) := by decide +kernel
theorem d_F_copy_40 : decode b_F_copy 40 = .ok (.if_icmp .le 22, 3) := by decide +kernel
theorem d_F_copy_43 : decode b_F_copy 43 = .ok (.aload_n 0, 1) := by decide +kernel
theorem d_F_copy_44 : decode b_F_copy 44 = .ok (.iload_n 1, 1) := by decide +kernel
theorem d_F_copy_45 : decode b_F_copy 45 = .ok (.iload_n 2, 1) := by decide +kernel
theorem d_F_copy_46 : decode b_F_copy 46 = .ok (.invokevirtual 121, 3) := by decide +kernel
theorem d_F_copy_49 : decode b_F_copy 49 = .ok (.aload_n 0, 1) := by decide +kernel
theorem d_F_copy_50 : decode b_F_copy 50 = .ok (.getfield 19, 3) := by decide +kernel
theorem d_F_copy_53 : decode b_F_copy 53 = .ok (.invokevirtual 48, 3) := by decide +kernel
theorem d_F_copy_56 : decode b_F_copy 56 = .ok (.if_icmp .le 6, 3) := by decide +kernel
theorem d_F_copy_59 : decode b_F_copy 59 = .ok (.bipush (-3), 2) := by decide +kernel
theorem d_F_copy_61 : decode b_F_copy 61 = .ok (.ireturn, 1) := by decide +kernel
theorem d_F_copy_62 : decode b_F_copy 62 = .ok (.iconst 0, 1) := by decide +kernel
theorem d_F_copy_63 : decode b_F_copy 63 = .ok (.istore_n 3, 1) := by decide +kernel
theorem d_F_copy_64 : decode b_F_copy 64 = .ok (.aload_n 0, 1) := by decide +kernel
theorem d_F_copy_65 : decode b_F_copy 65 = .ok (.getfield 10, 3) := by decide +kernel
theorem d_F_copy_68 : decode b_F_copy 68 = .ok (.getfield 77, 3) := by decide +kernel
theorem d_F_copy_71 : decode b_F_copy 71 = .ok (.iload_n 2, 1) := by decide +kernel
theorem d_F_copy_72 : decode b_F_copy 72 = .ok (.iaload, 1) := by decide +kernel
theorem d_F_copy_73 : decode b_F_copy 73 = .ok (.istore 4, 2) := by decide +kernel
theorem d_F_copy_75 : decode b_F_copy 75 = .ok (.aload_n 0, 1) := by decide +kernel
theorem d_F_copy_76 : decode b_F_copy 76 = .ok (.getfield 10, 3) := by decide +kernel
theorem d_F_copy_79 : decode b_F_copy 79 = .ok (.getfield 71, 3) := by decide +kernel
theorem d_F_copy_82 : decode b_F_copy 82 = .ok (.iload_n 2, 1) := by decide +kernel
theorem d_F_copy_83 : decode b_F_copy 83 = .ok (.iaload, 1) := by decide +kernel
theorem d_F_copy_84 : decode b_F_copy 84 = .ok (.istore 5, 2) := by decide +kernel
theorem d_F_copy_86 : decode b_F_copy 86 = .ok (.iconst 0, 1) := by decide +kernel
theorem d_F_copy_87 : decode b_F_copy 87 = .ok (.istore 6, 2) := by decide +kernel
theorem d_F_copy_89 : decode b_F_copy 89 = .ok (.iload 6, 2) := by decide +kernel
theorem d_F_copy_91 : decode b_F_copy 91 = .ok (.iload 5, 2) := by decide +kernel
theorem d_F_copy_93 : decode b_F_copy 93 = .ok (.if_icmp .ge 82, 3) := by decide +kernel
theorem d_F_copy_96 : decode b_F_copy 96 = .ok (.iload 4, 2) := by decide +kernel
theorem d_F_copy_98 : decode b_F_copy 98 = .ok (.ifCond .eq 77, 3) := by decide +kernel
theorem d_F_copy_101 : decode b_F_copy 101 = .ok (.aload_n 0, 1) := by decide +kernel
theorem d_F_copy_102 : decode b_F_copy 102 = .ok (.getfield 19, 3) := by decide +kernel
theorem d_F_copy_105 : decode b_F_copy 105 = .ok (.getfield 59, 3) := by decide +kernel
theorem d_F_copy_108 : decode b_F_copy 108 = .ok (.iload 4, 2) := by decide +kernel
theorem d_F_copy_110 : decode b_F_copy 110 = .ok (.baload, 1) := by decide +kernel
theorem d_F_copy_111 : decode b_F_copy 111 = .ok (.istore 7, 2) := by decide +kernel
theorem d_F_copy_113 : decode b_F_copy 113 = .ok (.iload 7, 2) := by decide +kernel
theorem d_F_copy_115 : decode b_F_copy 115 = .ok (.ifCond .eq 42, 3) := by decide +kernel
theorem d_F_copy_118 : decode b_F_copy 118 = .ok (.iload_n 3, 1) := by decide +kernel
theorem d_F_copy_119 : decode b_F_copy 119 = .ok (.aload_n 0, 1) := by decide +kernel
theorem d_F_copy_120 : decode b_F_copy 120 = .ok (.iload_n 1, 1) := by decide +kernel
theorem d_F_copy_121 : decode b_F_copy 121 = .ok (.aload_n 0, 1) := by decide +kernel
theorem d_F_copy_122 : decode b_F_copy 122 = .ok (.getfield 19, 3) := by decide +kernel
theorem d_F_copy_125 : decode b_F_copy 125 = .ok (.iload 4, 2) := by decide +kernel
theorem d_F_copy_127 : decode b_F_copy 127 = .ok (.invokevirtual 124, 3) := by decide +kernel
theorem d_F_copy_130 : decode b_F_copy 130 = .ok (.aload_n 0, 1) := by decide +kernel
theorem d_F_copy_131 : decode b_F_copy 131 = .ok (.getfield 19, 3) := by decide +kernel
theorem d_F_copy_134 : decode b_F_copy 134 = .ok (.getfield 127, 3) := by decide +kernel
theorem d_F_copy_137 : decode b_F_copy 137 = .ok (.iload 4, 2) := by decide +kernel
theorem d_F_copy_139 : decode b_F_copy 139 = .ok (.laload, 1) := by decide +kernel
theorem d_F_copy_140 : decode b_F_copy 140 = .ok (.iload 7, 2) := by decide +kernel
theorem d_F_copy_142 : decode b_F_copy 142 = .ok (.aload_n 0, 1) := by decide +kernel
theorem d_F_copy_143 : decode b_F_copy 143 = .ok (.getfield 19, 3) := by decide +kernel
theorem d_F_copy_146 : decode b_F_copy 146 = .ok (.getfield 63, 3) := by decide +kernel
theorem d_F_copy_149 : decode b_F_copy 149 = .ok (.iload 4, 2) := by decide +kernel
theorem d_F_copy_151 : decode b_F_copy 151 = .ok (.laload, 1) := by decide +kernel
theorem d_F_copy_152 : decode b_F_copy 152 = .ok (.invokevirtual 55, 3) := by decide +kernel
theorem d_F_copy_155 : decode b_F_copy 155 = .ok (.iadd, 1) := by decide +kernel
theorem d_F_copy_156 : decode b_F_copy 156 = .ok (.istore_n 3, 1) := by decide +kernel
theorem d_F_copy_157 : decode b_F_copy 157 = .ok (.aload_n 0, 1) := by decide +kernel
theorem d_F_copy_158 : decode b_F_copy 158 = .ok (.getfield 19, 3) := by decide +kernel
theorem d_F_copy_161 : decode b_F_copy 161 = .ok (.getfield 80, 3) := by decide +kernel
theorem d_F_copy_164 : decode b_F_copy 164 = .ok (.iload 4, 2) := by decide +kernel
theorem d_F_copy_166 : decode b_F_copy 166 = .ok (.iaload, 1) := by decide +kernel
theorem d_F_copy_167 : decode b_F_copy 167 = .ok (.istore 4, 2) := by decide +kernel
theorem d_F_copy_169 : decode b_F_copy 169 = .ok (.iinc 6 1, 3) := by decide +kernel
theorem d_F_copy_172 : decode b_F_copy 172 = .ok (.goto (-83), 3) := by decide +kernel
theorem d_F_copy_175 : decode b_F_copy 175 = .ok (.iload_n 3, 1) := by decide +kernel
theorem d_F_copy_176 : decode b_F_copy 176 = .ok (.ireturn, 1) := by decide +kernel
theorem d_F_cursorKind_0 : decode b_F_cursorKind 0 = .ok (.aload_n 0, 1) := by decide +kernel
theorem d_F_cursorKind_1 : decode b_F_cursorKind 1 = .ok (.getfield 23, 3) := by decide +kernel
theorem d_F_cursorKind_4 : decode b_F_cursorKind 4 = .ok (.ireturn, 1) := by decide +kernel
theorem d_F_cursorNumber_0 : decode b_F_cursorNumber 0 = .ok (.aload_n 0, 1) := by decide +kernel
theorem d_F_cursorNumber_1 : decode b_F_cursorNumber 1 = .ok (.getfield 27, 3) := by decide +kernel
theorem d_F_cursorNumber_4 : decode b_F_cursorNumber 4 = .ok (.lreturn, 1) := by decide +kernel
theorem d_F_empty_0 : decode b_F_empty 0 = .ok (.aload_n 0, 1) := by decide +kernel
theorem d_F_empty_1 : decode b_F_empty 1 = .ok (.getfield 19, 3) := by decide +kernel
theorem d_F_empty_4 : decode b_F_empty 4 = .ok (.getfield 130, 3) := by decide +kernel
theorem d_F_empty_7 : decode b_F_empty 7 = .ok (.istore_n 1, 1) := by decide +kernel
theorem d_F_empty_8 : decode b_F_empty 8 = .ok (.aload_n 0, 1) := by decide +kernel
theorem d_F_empty_9 : decode b_F_empty 9 = .ok (.getfield 10, 3) := by decide +kernel
theorem d_F_empty_12 : decode b_F_empty 12 = .ok (.invokevirtual 131, 3) := by decide +kernel
theorem d_F_empty_15 : decode b_F_empty 15 = .ok (.aload_n 0, 1) := by decide +kernel
theorem d_F_empty_16 : decode b_F_empty 16 = .ok (.getfield 19, 3) := by decide +kernel
theorem d_F_empty_19 : decode b_F_empty 19 = .ok (.invokevirtual 134, 3) := by decide +kernel
theorem d_F_empty_22 : decode b_F_empty 22 = .ok (.aload_n 0, 1) := by decide +kernel
theorem d_F_empty_23 : decode b_F_empty 23 = .ok (.iconst 0, 1) := by decide +kernel
theorem d_F_empty_24 : decode b_F_empty 24 = .ok (.invokevirtual 87, 3) := by decide +kernel
theorem d_F_empty_27 : decode b_F_empty 27 = .ok (.pop, 1) := by decide +kernel
theorem d_F_empty_28 : decode b_F_empty 28 = .ok (.iload_n 1, 1) := by decide +kernel
theorem d_F_empty_29 : decode b_F_empty 29 = .ok (.ireturn, 1) := by decide +kernel
theorem d_F_fields_0 : decode b_F_fields 0 = .ok (.aload_n 0, 1) := by decide +kernel
theorem d_F_fields_1 : decode b_F_fields 1 = .ok (.getfield 10, 3) := by decide +kernel
theorem d_F_fields_4 : decode b_F_fields 4 = .ok (.iload_n 1, 1) := by decide +kernel
theorem d_F_fields_5 : decode b_F_fields 5 = .ok (.invokevirtual 38, 3) := by decide +kernel
theorem d_F_fields_8 : decode b_F_fields 8 = .ok (.ifCond .eq 15, 3) := by decide +kernel
theorem d_F_fields_11 : decode b_F_fields 11 = .ok (.aload_n 0, 1) := by decide +kernel
theorem d_F_fields_12 : decode b_F_fields 12 = .ok (.getfield 10, 3) := by decide +kernel
theorem d_F_fields_15 : decode b_F_fields 15 = .ok (.getfield 74, 3) := by decide +kernel
theorem d_F_fields_18 : decode b_F_fields 18 = .ok (.iload_n 1, 1) := by decide +kernel
theorem d_F_fields_19 : decode b_F_fields 19 = .ok (.iaload, 1) := by decide +kernel
theorem d_F_fields_20 : decode b_F_fields 20 = .ok (.goto 4, 3) := by decide +kernel
theorem d_F_fields_23 : decode b_F_fields 23 = .ok (.iconst (-1), 1) := by decide +kernel
theorem d_F_fields_24 : decode b_F_fields 24 = .ok (.ireturn, 1) := by decide +kernel
theorem d_F_fill_0 : decode b_F_fill 0 = .ok (.aload_n 0, 1) := by decide +kernel
theorem d_F_fill_1 : decode b_F_fill 1 = .ok (.iload_n 1, 1) := by decide +kernel
theorem d_F_fill_2 : decode b_F_fill 2 = .ok (.lload_n 2, 1) := by decide +kernel
theorem d_F_fill_3 : decode b_F_fill 3 = .ok (.iload 4, 2) := by decide +kernel
theorem d_F_fill_5 : decode b_F_fill 5 = .ok (.iload 5, 2) := by decide +kernel
theorem d_F_fill_7 : decode b_F_fill 7 = .ok (.invokevirtual 91, 3) := by decide +kernel
theorem d_F_fill_10 : decode b_F_fill 10 = .ok (.ifCond .ne 5, 3) := by decide +kernel
theorem d_F_fill_13 : decode b_F_fill 13 = .ok (.iconst (-1), 1) := by decide +kernel
theorem d_F_fill_14 : decode b_F_fill 14 = .ok (.ireturn, 1) := by decide +kernel
theorem d_F_fill_15 : decode b_F_fill 15 = .ok (.iload 4, 2) := by decide +kernel
theorem d_F_fill_17 : decode b_F_fill 17 = .ok (.aload_n 0, 1) := by decide +kernel
theorem d_F_fill_18 : decode b_F_fill 18 = .ok (.getfield 19, 3) := by decide +kernel
theorem d_F_fill_21 : decode b_F_fill 21 = .ok (.invokevirtual 48, 3) := by decide +kernel
theorem d_F_fill_24 : decode b_F_fill 24 = .ok (.if_icmp .le 26, 3) := by decide +kernel
theorem d_F_fill_27 : decode b_F_fill 27 = .ok (.aload_n 0, 1) := by decide +kernel
theorem d_F_fill_28 : decode b_F_fill 28 = .ok (.iload_n 1, 1) := by decide +kernel
theorem d_F_fill_29 : decode b_F_fill 29 = .ok (.lload_n 2, 1) := by decide +kernel
theorem d_F_fill_30 : decode b_F_fill 30 = .ok (.iload 4, 2) := by decide +kernel
theorem d_F_fill_32 : decode b_F_fill 32 = .ok (.iload 5, 2) := by decide +kernel
theorem d_F_fill_34 : decode b_F_fill 34 = .ok (.invokevirtual 95, 3) := by decide +kernel
theorem d_F_fill_37 : decode b_F_fill 37 = .ok (.aload_n 0, 1) := by decide +kernel
theorem d_F_fill_38 : decode b_F_fill 38 = .ok (.getfield 19, 3) := by decide +kernel
theorem d_F_fill_41 : decode b_F_fill 41 = .ok (.invokevirtual 48, 3) := by decide +kernel
theorem d_F_fill_44 : decode b_F_fill 44 = .ok (.if_icmp .le 6, 3) := by decide +kernel
theorem d_F_fill_47 : decode b_F_fill 47 = .ok (.bipush (-3), 2) := by decide +kernel
theorem d_F_fill_49 : decode b_F_fill 49 = .ok (.ireturn, 1) := by decide +kernel
theorem d_F_fill_50 : decode b_F_fill 50 = .ok (.iconst 0, 1) := by decide +kernel
theorem d_F_fill_51 : decode b_F_fill 51 = .ok (.istore 6, 2) := by decide +kernel
theorem d_F_fill_53 : decode b_F_fill 53 = .ok (.lload_n 2, 1) := by decide +kernel
theorem d_F_fill_54 : decode b_F_fill 54 = .ok (.lstore 7, 2) := by decide +kernel
theorem d_F_fill_56 : decode b_F_fill 56 = .ok (.iconst 1, 1) := by decide +kernel
theorem d_F_fill_57 : decode b_F_fill 57 = .ok (.istore 9, 2) := by decide +kernel
theorem d_F_fill_59 : decode b_F_fill 59 = .ok (.iload 9, 2) := by decide +kernel
theorem d_F_fill_61 : decode b_F_fill 61 = .ok (.iload 4, 2) := by decide +kernel
theorem d_F_fill_63 : decode b_F_fill 63 = .ok (.if_icmp .gt 34, 3) := by decide +kernel
theorem d_F_fill_66 : decode b_F_fill 66 = .ok (.iload 6, 2) := by decide +kernel
theorem d_F_fill_68 : decode b_F_fill 68 = .ok (.aload_n 0, 1) := by decide +kernel
theorem d_F_fill_69 : decode b_F_fill 69 = .ok (.iload_n 1, 1) := by decide +kernel
theorem d_F_fill_70 : decode b_F_fill 70 = .ok (.iconst 3, 1) := by decide +kernel
theorem d_F_fill_71 : decode b_F_fill 71 = .ok (.lload 7, 2) := by decide +kernel
theorem d_F_fill_73 : decode b_F_fill 73 = .ok (.iconst 3, 1) := by decide +kernel
theorem d_F_fill_74 : decode b_F_fill 74 = .ok (.iload 9, 2) := by decide +kernel
theorem d_F_fill_76 : decode b_F_fill 76 = .ok (.i2l, 1) := by decide +kernel
theorem d_F_fill_77 : decode b_F_fill 77 = .ok (.invokevirtual 55, 3) := by decide +kernel
theorem d_F_fill_80 : decode b_F_fill 80 = .ok (.iadd, 1) := by decide +kernel
theorem d_F_fill_81 : decode b_F_fill 81 = .ok (.istore 6, 2) := by decide +kernel
theorem d_F_fill_83 : decode b_F_fill 83 = .ok (.lload 7, 2) := by decide +kernel
theorem d_F_fill_85 : decode b_F_fill 85 = .ok (.iload 5, 2) := by decide +kernel
theorem d_F_fill_87 : decode b_F_fill 87 = .ok (.i2l, 1) := by decide +kernel
theorem d_F_fill_88 : decode b_F_fill 88 = .ok (.ladd, 1) := by decide +kernel
theorem d_F_fill_89 : decode b_F_fill 89 = .ok (.lstore 7, 2) := by decide +kernel
theorem d_F_fill_91 : decode b_F_fill 91 = .ok (.iinc 9 1, 3) := by decide +kernel
theorem d_F_fill_94 : decode b_F_fill 94 = .ok (.goto (-35), 3) := by decide +kernel
theorem d_F_fill_97 : decode b_F_fill 97 = .ok (.iload 6, 2) := by decide +kernel
theorem d_F_fill_99 : decode b_F_fill 99 = .ok (.ireturn, 1) := by decide +kernel
theorem d_F_firstWithValue_0 : decode b_F_firstWithValue 0 = .ok (.iload_n 2, 1) := by decide +kernel
theorem d_F_firstWithValue_1 : decode b_F_firstWithValue 1 = .ok (.istore_n 3, 1) := by decide +kernel
theorem d_F_firstWithValue_2 : decode b_F_firstWithValue 2 = .ok (.aload_n 0, 1) := by decide +kernel
theorem d_F_firstWithValue_3 : decode b_F_firstWithValue 3 = .ok (.getfield 10, 3) := by decide +kernel
theorem d_F_firstWithValue_6 : decode b_F_firstWithValue 6 = .ok (.getfield 71, 3) := by decide +kernel
theorem d_F_firstWithValue_9 : decode b_F_firstWithValue 9 = .ok (.iload_n 1, 1) := by decide +kernel
theorem d_F_firstWithValue_10 : decode b_F_firstWithValue 10 = .ok (.iaload, 1) := by decide +kernel
theorem d_F_firstWithValue_11 : decode b_F_firstWithValue 11 = .ok (.istore 4, 2) := by decide +kernel
theorem d_F_firstWithValue_13 : decode b_F_firstWithValue 13 = .ok (.iconst 0, 1) := by decide +kernel
theorem d_F_firstWithValue_14 : decode b_F_firstWithValue 14 = .ok (.istore 5, 2) := by decide +kernel
theorem d_F_firstWithValue_16 : decode b_F_firstWithValue 16 = .ok (.iload 5, 2) := by decide +kernel
theorem d_F_firstWithValue_18 : decode b_F_firstWithValue 18 = .ok (.iload 4, 2) := by decide +kernel
theorem d_F_firstWithValue_20 : decode b_F_firstWithValue 20 = .ok (.if_icmp .ge 37, 3) := by decide +kernel
theorem d_F_firstWithValue_23 : decode b_F_firstWithValue 23 = .ok (.iload_n 3, 1) := by decide +kernel
theorem d_F_firstWithValue_24 : decode b_F_firstWithValue 24 = .ok (.ifCond .eq 33, 3) := by decide +kernel
theorem d_F_firstWithValue_27 : decode b_F_firstWithValue 27 = .ok (.aload_n 0, 1) := by decide +kernel
theorem d_F_firstWithValue_28 : decode b_F_firstWithValue 28 = .ok (.getfield 19, 3) := by decide +kernel
theorem d_F_firstWithValue_31 : decode b_F_firstWithValue 31 = .ok (.getfield 59, 3) := by decide +kernel
theorem d_F_firstWithValue_34 : decode b_F_firstWithValue 34 = .ok (.iload_n 3, 1) := by decide +kernel
theorem d_F_firstWithValue_35 : decode b_F_firstWithValue 35 = .ok (.baload, 1) := by decide +kernel
theorem d_F_firstWithValue_36 : decode b_F_firstWithValue 36 = .ok (.ifCond .eq 5, 3) := by decide +kernel
theorem d_F_firstWithValue_39 : decode b_F_firstWithValue 39 = .ok (.iload_n 3, 1) := by decide +kernel
theorem d_F_firstWithValue_40 : decode b_F_firstWithValue 40 = .ok (.ireturn, 1) := by decide +kernel
theorem d_F_firstWithValue_41 : decode b_F_firstWithValue 41 = .ok (.aload_n 0, 1) := by decide +kernel
theorem d_F_firstWithValue_42 : decode b_F_firstWithValue 42 = .ok (.getfield 19, 3) := by decide +kernel
theorem d_F_firstWithValue_45 : decode b_F_firstWithValue 45 = .ok (.getfield 80, 3) := by decide +kernel
theorem d_F_firstWithValue_48 : decode b_F_firstWithValue 48 = .ok (.iload_n 3, 1) := by decide +kernel
theorem d_F_firstWithValue_49 : decode b_F_firstWithValue 49 = .ok (.iaload, 1) := by decide +kernel
theorem d_F_firstWithValue_50 : decode b_F_firstWithValue 50 = .ok (.istore_n 3, 1) := by decide +kernel
theorem d_F_firstWithValue_51 : decode b_F_firstWithValue 51 = .ok (.iinc 5 1, 3) := by decide +kernel
theorem d_F_firstWithValue_54 : decode b_F_firstWithValue 54 = .ok (.goto (-38), 3) := by decide +kernel
theorem d_F_firstWithValue_57 : decode b_F_firstWithValue 57 = .ok (.iconst 0, 1) := by decide +kernel
theorem d_F_firstWithValue_58 : decode b_F_firstWithValue 58 = .ok (.ireturn, 1) := by decide +kernel
theorem d_F_give_0 : decode b_F_give 0 = .ok (.aload_n 0, 1) := by decide +kernel
theorem d_F_give_1 : decode b_F_give 1 = .ok (.getfield 19, 3) := by decide +kernel
theorem d_F_give_4 : decode b_F_give 4 = .ok (.iload_n 1, 1) := by decide +kernel
theorem d_F_give_5 : decode b_F_give 5 = .ok (.iload_n 2, 1) := by decide +kernel
theorem d_F_give_6 : decode b_F_give 6 = .ok (.lload_n 3, 1) := by decide +kernel
theorem d_F_give_7 : decode b_F_give 7 = .ok (.invokevirtual 51, 3) := by decide +kernel
theorem d_F_give_10 : decode b_F_give 10 = .ok (.istore 8, 2) := by decide +kernel
theorem d_F_give_12 : decode b_F_give 12 = .ok (.iconst 0, 1) := by decide +kernel
theorem d_F_give_13 : decode b_F_give 13 = .ok (.istore 9, 2) := by decide +kernel
theorem d_F_give_15 : decode b_F_give 15 = .ok (.iload 8, 2) := by decide +kernel
theorem d_F_give_17 : decode b_F_give 17 = .ok (.ifCond .ne 32, 3) := by decide +kernel
theorem d_F_give_20 : decode b_F_give 20 = .ok (.iload 5, 2) := by decide +kernel
theorem d_F_give_22 : decode b_F_give 22 = .ok (.ifCond .ne 5, 3) := by decide +kernel
theorem d_F_give_25 : decode b_F_give 25 = .ok (.iconst 0, 1) := by decide +kernel
theorem d_F_give_26 : decode b_F_give 26 = .ok (.ireturn, 1) := by decide +kernel
theorem d_F_give_27 : decode b_F_give 27 = .ok (.aload_n 0, 1) := by decide +kernel
theorem d_F_give_28 : decode b_F_give 28 = .ok (.getfield 19, 3) := by decide +kernel
theorem d_F_give_31 : decode b_F_give 31 = .ok (.iload_n 1, 1) := by decide +kernel
theorem d_F_give_32 : decode b_F_give 32 = .ok (.iload_n 2, 1) := by decide +kernel
theorem d_F_give_33 : decode b_F_give 33 = .ok (.lload_n 3, 1) := by decide +kernel
theorem d_F_give_34 : decode b_F_give 34 = .ok (.invokevirtual 139, 3) := by decide +kernel
theorem d_F_give_37 : decode b_F_give 37 = .ok (.istore 8, 2) := by decide +kernel
theorem d_F_give_39 : decode b_F_give 39 = .ok (.aload_n 0, 1) := by decide +kernel
theorem d_F_give_40 : decode b_F_give 40 = .ok (.iload_n 1, 1) := by decide +kernel
theorem d_F_give_41 : decode b_F_give 41 = .ok (.iload 8, 2) := by decide +kernel
theorem d_F_give_43 : decode b_F_give 43 = .ok (.invokevirtual 142, 3) := by decide +kernel
theorem d_F_give_46 : decode b_F_give 46 = .ok (.iconst 1, 1) := by decide +kernel
theorem d_F_give_47 : decode b_F_give 47 = .ok (.istore 9, 2) := by decide +kernel
theorem d_F_give_49 : decode b_F_give 49 = .ok (.aload_n 0, 1) := by decide +kernel
theorem d_F_give_50 : decode b_F_give 50 = .ok (.iload_n 1, 1) := by decide +kernel
theorem d_F_give_51 : decode b_F_give 51 = .ok (.iload 8, 2) := by decide +kernel
theorem d_F_give_53 : decode b_F_give 53 = .ok (.iload 5, 2) := by decide +kernel
theorem d_F_give_55 : decode b_F_give 55 = .ok (.lload 6, 2) := by decide +kernel
theorem d_F_give_57 : decode b_F_give 57 = .ok (.invokevirtual 145, 3) := by decide +kernel
theorem d_F_give_60 : decode b_F_give 60 = .ok (.iload 9, 2) := by decide +kernel
theorem d_F_give_62 : decode b_F_give 62 = .ok (.ireturn, 1) := by decide +kernel
theorem d_F_holdsAll_0 : decode b_F_holdsAll 0 = .ok (.aload_n 0, 1) := by decide +kernel
theorem d_F_holdsAll_1 : decode b_F_holdsAll 1 = .ok (.getfield 10, 3) := by decide +kernel
theorem d_F_holdsAll_4 : decode b_F_holdsAll 4 = .ok (.getfield 77, 3) := by decide +kernel
theorem d_F_holdsAll_7 : decode b_F_holdsAll 7 = .ok (.iload_n 2, 1) := by decide +kernel
theorem d_F_holdsAll_8 : decode b_F_holdsAll 8 = .ok (.iaload, 1) := by decide +kernel
theorem d_F_holdsAll_9 : decode b_F_holdsAll 9 = .ok (.istore_n 3, 1) := by decide +kernel
theorem d_F_holdsAll_10 : decode b_F_holdsAll 10 = .ok (.aload_n 0, 1) := by decide +kernel
theorem d_F_holdsAll_11 : decode b_F_holdsAll 11 = .ok (.getfield 10, 3) := by decide +kernel
theorem d_F_holdsAll_14 : decode b_F_holdsAll 14 = .ok (.getfield 71, 3) := by decide +kernel
theorem d_F_holdsAll_17 : decode b_F_holdsAll 17 = .ok (.iload_n 2, 1) := by decide +kernel
theorem d_F_holdsAll_18 : decode b_F_holdsAll 18 = .ok (.iaload, 1) := by decide +kernel
theorem d_F_holdsAll_19 : decode b_F_holdsAll 19 = .ok (.istore 4, 2) := by decide +kernel
theorem d_F_holdsAll_21 : decode b_F_holdsAll 21 = .ok (.iconst 0, 1) := by decide +kernel
theorem d_F_holdsAll_22 : decode b_F_holdsAll 22 = .ok (.istore 5, 2) := by decide +kernel
theorem d_F_holdsAll_24 : decode b_F_holdsAll 24 = .ok (.iload 5, 2) := by decide +kernel
theorem d_F_holdsAll_26 : decode b_F_holdsAll 26 = .ok (.iload 4, 2) := by decide +kernel
theorem d_F_holdsAll_28 : decode b_F_holdsAll 28 = .ok (.if_icmp .ge 54, 3) := by decide +kernel
theorem d_F_holdsAll_31 : decode b_F_holdsAll 31 = .ok (.iload_n 3, 1) := by decide +kernel
theorem d_F_holdsAll_32 : decode b_F_holdsAll 32 = .ok (.ifCond .eq 50, 3) := by decide +kernel
theorem d_F_holdsAll_35 : decode b_F_holdsAll 35 = .ok (.aload_n 0, 1) := by decide +kernel
theorem d_F_holdsAll_36 : decode b_F_holdsAll 36 = .ok (.getfield 19, 3) := by decide +kernel
theorem d_F_holdsAll_39 : decode b_F_holdsAll 39 = .ok (.getfield 59, 3) := by decide +kernel
theorem d_F_holdsAll_42 : decode b_F_holdsAll 42 = .ok (.iload_n 3, 1) := by decide +kernel
theorem d_F_holdsAll_43 : decode b_F_holdsAll 43 = .ok (.baload, 1) := by decide +kernel
theorem d_F_holdsAll_44 : decode b_F_holdsAll 44 = .ok (.ifCond .eq 22, 3) := by decide +kernel
theorem d_F_holdsAll_47 : decode b_F_holdsAll 47 = .ok (.aload_n 0, 1) := by decide +kernel
theorem d_F_holdsAll_48 : decode b_F_holdsAll 48 = .ok (.getfield 19, 3) := by decide +kernel
theorem d_F_holdsAll_51 : decode b_F_holdsAll 51 = .ok (.iload_n 3, 1) := by decide +kernel
theorem d_F_holdsAll_52 : decode b_F_holdsAll 52 = .ok (.aload_n 0, 1) := by decide +kernel
theorem d_F_holdsAll_53 : decode b_F_holdsAll 53 = .ok (.iload_n 1, 1) := by decide +kernel
theorem d_F_holdsAll_54 : decode b_F_holdsAll 54 = .ok (.iload_n 3, 1) := by decide +kernel
theorem d_F_holdsAll_55 : decode b_F_holdsAll 55 = .ok (.invokevirtual 164, 3) := by decide +kernel
theorem d_F_holdsAll_58 : decode b_F_holdsAll 58 = .ok (.invokevirtual 167, 3) := by decide +kernel
theorem d_F_holdsAll_61 : decode b_F_holdsAll 61 = .ok (.ifCond .ne 5, 3) := by decide +kernel
theorem d_F_holdsAll_64 : decode b_F_holdsAll 64 = .ok (.iconst 0, 1) := by decide +kernel
theorem d_F_holdsAll_65 : decode b_F_holdsAll 65 = .ok (.ireturn, 1) := by decide +kernel
theorem d_F_holdsAll_66 : decode b_F_holdsAll 66 = .ok (.aload_n 0, 1) := by decide +kernel
theorem d_F_holdsAll_67 : decode b_F_holdsAll 67 = .ok (.getfield 19, 3) := by decide +kernel
theorem d_F_holdsAll_70 : decode b_F_holdsAll 70 = .ok (.getfield 80, 3) := by decide +kernel
theorem d_F_holdsAll_73 : decode b_F_holdsAll 73 = .ok (.iload_n 3, 1) := by decide +kernel
theorem d_F_holdsAll_74 : decode b_F_holdsAll 74 = .ok (.iaload, 1) := by decide +kernel
theorem d_F_holdsAll_75 : decode b_F_holdsAll 75 = .ok (.istore_n 3, 1) := by decide +kernel
theorem d_F_holdsAll_76 : decode b_F_holdsAll 76 = .ok (.iinc 5 1, 3) := by decide +kernel
theorem d_F_holdsAll_79 : decode b_F_holdsAll 79 = .ok (.goto (-55), 3) := by decide +kernel
theorem d_F_holdsAll_82 : decode b_F_holdsAll 82 = .ok (.iconst 1, 1) := by decide +kernel
theorem d_F_holdsAll_83 : decode b_F_holdsAll 83 = .ok (.ireturn, 1) := by decide +kernel
theorem d_F_init_0 : decode b_F_init 0 = .ok (.aload_n 0, 1) := by decide +kernel
theorem d_F_init_1 : decode b_F_init 1 = .ok (.invokespecial 1, 3) := by decide +kernel
theorem d_F_init_4 : decode b_F_init 4 = .ok (.aload_n 0, 1) := by decide +kernel
theorem d_F_init_5 : decode b_F_init 5 = .ok (.new 7, 3) := by decide +kernel
theorem d_F_init_8 : decode b_F_init 8 = .ok (.dup, 1) := by decide +kernel
theorem d_F_init_9 : decode b_F_init 9 = .ok (.invokespecial 9, 3) := by decide +kernel
theorem d_F_init_12 : decode b_F_init 12 = .ok (.putfield 10, 3) := by decide +kernel
theorem d_F_init_15 : decode b_F_init 15 = .ok (.aload_n 0, 1) := by decide +kernel
theorem d_F_init_16 : decode b_F_init 16 = .ok (.new 16, 3) := by decide +kernel
theorem d_F_init_19 : decode b_F_init 19 = .ok (.dup, 1) := by decide +kernel
theorem d_F_init_20 : decode b_F_init 20 = .ok (.invokespecial 18, 3) := by decide +kernel
theorem d_F_init_23 : decode b_F_init 23 = .ok (.putfield 19, 3) := by decide +kernel
theorem d_F_init_26 : decode b_F_init 26 = .ok (.aload_n 0, 1) := by decide +kernel
theorem d_F_init_27 : decode b_F_init 27 = .ok (.iconst 0, 1) := by decide +kernel
theorem d_F_init_28 : decode b_F_init 28 = .ok (.putfield 23, 3) := by decide +kernel
theorem d_F_init_31 : decode b_F_init 31 = .ok (.aload_n 0, 1) := by decide +kernel
theorem d_F_init_32 : decode b_F_init 32 = .ok (.lconst 0, 1) := by decide +kernel
theorem d_F_init_33 : decode b_F_init 33 = .ok (.putfield 27, 3) := by decide +kernel
theorem d_F_init_36 : decode b_F_init 36 = .ok (.return_, 1) := by decide +kernel
theorem d_F_insert_0 : decode b_F_insert 0 = .ok (.aload_n 0, 1) := by decide +kernel
theorem d_F_insert_1 : decode b_F_insert 1 = .ok (.iload_n 1, 1) := by decide +kernel
theorem d_F_insert_2 : decode b_F_insert 2 = .ok (.iload_n 2, 1) := by decide +kernel
theorem d_F_insert_3 : decode b_F_insert 3 = .ok (.invokevirtual 99, 3) := by decide +kernel
theorem d_F_insert_6 : decode b_F_insert 6 = .ok (.ifCond .eq 10, 3) := by decide +kernel
theorem d_F_insert_9 : decode b_F_insert 9 = .ok (.iload_n 3, 1) := by decide +kernel
theorem d_F_insert_10 : decode b_F_insert 10 = .ok (.invokestatic 45, 3) := by decide +kernel
theorem d_F_insert_13 : decode b_F_insert 13 = .ok (.ifCond .ne 5, 3) := by decide +kernel
theorem d_F_insert_16 : decode b_F_insert 16 = .ok (.iconst (-1), 1) := by decide +kernel
theorem d_F_insert_17 : decode b_F_insert 17 = .ok (.ireturn, 1) := by decide +kernel
theorem d_F_insert_18 : decode b_F_insert 18 = .ok (.aload_n 0, 1) := by decide +kernel
theorem d_F_insert_19 : decode b_F_insert 19 = .ok (.getfield 10, 3) := by decide +kernel
theorem d_F_insert_22 : decode b_F_insert 22 = .ok (.getfield 67, 3) := by decide +kernel
theorem d_F_insert_25 : decode b_F_insert 25 = .ok (.iload_n 1, 1) := by decide +kernel
theorem d_F_insert_26 : decode b_F_insert 26 = .ok (.iaload, 1) := by decide +kernel
theorem d_F_insert_27 : decode b_F_insert 27 = .ok (.istore 6, 2) := by decide +kernel
theorem d_F_insert_29 : decode b_F_insert 29 = .ok (.iload_n 2, 1) := by decide +kernel
theorem d_F_insert_30 : decode b_F_insert 30 = .ok (.iload 6, 2) := by decide +kernel
theorem d_F_insert_32 : decode b_F_insert 32 = .ok (.if_icmp .le 7, 3) := by decide +kernel
theorem d_F_insert_35 : decode b_F_insert 35 = .ok (.iload_n 3, 1) := by decide +kernel
theorem d_F_insert_36 : decode b_F_insert 36 = .ok (.ifCond .eq 7, 3) := by decide +kernel
theorem d_F_insert_39 : decode b_F_insert 39 = .ok (.iconst 1, 1) := by decide +kernel
theorem d_F_insert_40 : decode b_F_insert 40 = .ok (.goto 4, 3) := by decide +kernel
theorem d_F_insert_43 : decode b_F_insert 43 = .ok (.iconst 0, 1) := by decide +kernel
theorem d_F_insert_44 : decode b_F_insert 44 = .ok (.istore 7, 2) := by decide +kernel
theorem d_F_insert_46 : decode b_F_insert 46 = .ok (.iload 7, 2) := by decide +kernel
theorem d_F_insert_48 : decode b_F_insert 48 = .ok (.ifCond .eq 29, 3) := by decide +kernel
theorem d_F_insert_51 : decode b_F_insert 51 = .ok (.aload_n 0, 1) := by decide +kernel
theorem d_F_insert_52 : decode b_F_insert 52 = .ok (.getfield 19, 3) := by decide +kernel
theorem d_F_insert_55 : decode b_F_insert 55 = .ok (.invokevirtual 48, 3) := by decide +kernel
theorem d_F_insert_58 : decode b_F_insert 58 = .ok (.ifCond .ne 19, 3) := by decide +kernel
theorem d_F_insert_61 : decode b_F_insert 61 = .ok (.aload_n 0, 1) := by decide +kernel
theorem d_F_insert_62 : decode b_F_insert 62 = .ok (.iload_n 1, 1) := by decide +kernel
theorem d_F_insert_63 : decode b_F_insert 63 = .ok (.iload 6, 2) := by decide +kernel
theorem d_F_insert_65 : decode b_F_insert 65 = .ok (.i2l, 1) := by decide +kernel
theorem d_F_insert_66 : decode b_F_insert 66 = .ok (.lconst 1, 1) := by decide +kernel
theorem d_F_insert_67 : decode b_F_insert 67 = .ok (.ladd, 1) := by decide +kernel
theorem d_F_insert_68 : decode b_F_insert 68 = .ok (.invokevirtual 103, 3) := by decide +kernel
theorem d_F_insert_71 : decode b_F_insert 71 = .ok (.ifCond .ne 6, 3) := by decide +kernel
theorem d_F_insert_74 : decode b_F_insert 74 = .ok (.bipush (-3), 2) := by decide +kernel
theorem d_F_insert_76 : decode b_F_insert 76 = .ok (.ireturn, 1) := by decide +kernel
theorem d_F_insert_77 : decode b_F_insert 77 = .ok (.iload_n 2, 1) := by decide +kernel
theorem d_F_insert_78 : decode b_F_insert 78 = .ok (.iload 6, 2) := by decide +kernel
theorem d_F_insert_80 : decode b_F_insert 80 = .ok (.if_icmp .gt 53, 3) := by decide +kernel
theorem d_F_insert_83 : decode b_F_insert 83 = .ok (.aload_n 0, 1) := by decide +kernel
theorem d_F_insert_84 : decode b_F_insert 84 = .ok (.iload_n 1, 1) := by decide +kernel
theorem d_F_insert_85 : decode b_F_insert 85 = .ok (.iload 6, 2) := by decide +kernel
theorem d_F_insert_87 : decode b_F_insert 87 = .ok (.i2l, 1) := by decide +kernel
theorem d_F_insert_88 : decode b_F_insert 88 = .ok (.invokevirtual 103, 3) := by decide +kernel
theorem d_F_insert_91 : decode b_F_insert 91 = .ok (.istore 8, 2) := by decide +kernel
theorem d_F_insert_93 : decode b_F_insert 93 = .ok (.aload_n 0, 1) := by decide +kernel
theorem d_F_insert_94 : decode b_F_insert 94 = .ok (.iload_n 1, 1) := by decide +kernel
theorem d_F_insert_95 : decode b_F_insert 95 = .ok (.iconst 3, 1) := by decide +kernel
theorem d_F_insert_96 : decode b_F_insert 96 = .ok (.iload 6, 2) := by decide +kernel
theorem d_F_insert_98 : decode b_F_insert 98 = .ok (.i2l, 1) := by decide +kernel
theorem d_F_insert_99 : decode b_F_insert 99 = .ok (.lconst 1, 1) := by decide +kernel
theorem d_F_insert_100 : decode b_F_insert 100 = .ok (.ladd, 1) := by decide +kernel
theorem d_F_insert_101 : decode b_F_insert 101 = .ok (.aload_n 0, 1) := by decide +kernel
theorem d_F_insert_102 : decode b_F_insert 102 = .ok (.getfield 19, 3) := by decide +kernel
theorem d_F_insert_105 : decode b_F_insert 105 = .ok (.getfield 59, 3) := by decide +kernel
theorem d_F_insert_108 : decode b_F_insert 108 = .ok (.iload 8, 2) := by decide +kernel
theorem d_F_insert_110 : decode b_F_insert 110 = .ok (.baload, 1) := by decide +kernel
theorem d_F_insert_111 : decode b_F_insert 111 = .ok (.aload_n 0, 1) := by decide +kernel
theorem d_F_insert_112 : decode b_F_insert 112 = .ok (.getfield 19, 3) := by decide +kernel
theorem d_F_insert_115 : decode b_F_insert 115 = .ok (.getfield 63, 3) := by decide +kernel
theorem d_F_insert_118 : decode b_F_insert 118 = .ok (.iload 8, 2) := by decide +kernel
theorem d_F_insert_120 : decode b_F_insert 120 = .ok (.laload, 1) := by decide +kernel
theorem d_F_insert_121 : decode b_F_insert 121 = .ok (.invokevirtual 55, 3) := by decide +kernel
theorem d_F_insert_124 : decode b_F_insert 124 = .ok (.pop, 1) := by decide +kernel
theorem d_F_insert_125 : decode b_F_insert 125 = .ok (.aload_n 0, 1) := by decide +kernel
theorem d_F_insert_126 : decode b_F_insert 126 = .ok (.iload_n 1, 1) := by decide +kernel
theorem d_F_insert_127 : decode b_F_insert 127 = .ok (.iload_n 2, 1) := by decide +kernel
theorem d_F_insert_128 : decode b_F_insert 128 = .ok (.iload 6, 2) := by decide +kernel
theorem d_F_insert_130 : decode b_F_insert 130 = .ok (.invokevirtual 107, 3) := by decide +kernel
theorem d_F_insert_133 : decode b_F_insert 133 = .ok (.aload_n 0, 1) := by decide +kernel
theorem d_F_insert_134 : decode b_F_insert 134 = .ok (.iload_n 1, 1) := by decide +kernel
theorem d_F_insert_135 : decode b_F_insert 135 = .ok (.iconst 3, 1) := by decide +kernel
theorem d_F_insert_136 : decode b_F_insert 136 = .ok (.iload_n 2, 1) := by decide +kernel
theorem d_F_insert_137 : decode b_F_insert 137 = .ok (.i2l, 1) := by decide +kernel
theorem d_F_insert_138 : decode b_F_insert 138 = .ok (.iload_n 3, 1) := by decide +kernel
theorem d_F_insert_139 : decode b_F_insert 139 = .ok (.lload 4, 2) := by decide +kernel
theorem d_F_insert_141 : decode b_F_insert 141 = .ok (.invokevirtual 55, 3) := by decide +kernel
theorem d_F_insert_144 : decode b_F_insert 144 = .ok (.pop, 1) := by decide +kernel
theorem d_F_insert_145 : decode b_F_insert 145 = .ok (.aload_n 0, 1) := by decide +kernel
theorem d_F_insert_146 : decode b_F_insert 146 = .ok (.getfield 10, 3) := by decide +kernel
theorem d_F_insert_149 : decode b_F_insert 149 = .ok (.getfield 67, 3) := by decide +kernel
theorem d_F_insert_152 : decode b_F_insert 152 = .ok (.iload_n 1, 1) := by decide +kernel
theorem d_F_insert_153 : decode b_F_insert 153 = .ok (.iaload, 1) := by decide +kernel
theorem d_F_insert_154 : decode b_F_insert 154 = .ok (.ireturn, 1) := by decide +kernel
theorem d_F_isKeyKind_0 : decode b_F_isKeyKind 0 = .ok (.iload_n 0, 1) := by decide +kernel
theorem d_F_isKeyKind_1 : decode b_F_isKeyKind 1 = .ok (.ifCond .eq 14, 3) := by decide +kernel
theorem d_F_isKeyKind_4 : decode b_F_isKeyKind 4 = .ok (.iload_n 0, 1) := by decide +kernel
theorem d_F_isKeyKind_5 : decode b_F_isKeyKind 5 = .ok (.invokestatic 45, 3) := by decide +kernel
theorem d_F_isKeyKind_8 : decode b_F_isKeyKind 8 = .ok (.ifCond .eq 7, 3) := by decide +kernel
theorem d_F_isKeyKind_11 : decode b_F_isKeyKind 11 = .ok (.iconst 1, 1) := by decide +kernel
theorem d_F_isKeyKind_12 : decode b_F_isKeyKind 12 = .ok (.goto 4, 3) := by decide +kernel
theorem d_F_isKeyKind_15 : decode b_F_isKeyKind 15 = .ok (.iconst 0, 1) := by decide +kernel
theorem d_F_isKeyKind_16 : decode b_F_isKeyKind 16 = .ok (.ireturn, 1) := by decide +kernel
theorem d_F_isKind_0 : decode b_F_isKind 0 = .ok (.iload_n 0, 1) := by decide +kernel
theorem d_F_isKind_1 : decode b_F_isKind 1 = .ok (.ifCond .lt 13, 3) := by decide +kernel
theorem d_F_isKind_4 : decode b_F_isKind 4 = .ok (.iload_n 0, 1) := by decide +kernel
theorem d_F_isKind_5 : decode b_F_isKind 5 = .ok (.bipush 7, 2) := by decide +kernel
theorem d_F_isKind_7 : decode b_F_isKind 7 = .ok (.if_icmp .gt 7, 3) := by decide +kernel
theorem d_F_isKind_10 : decode b_F_isKind 10 = .ok (.iconst 1, 1) := by decide +kernel
theorem d_F_isKind_11 : decode b_F_isKind 11 = .ok (.goto 4, 3) := by decide +kernel
theorem d_F_isKind_14 : decode b_F_isKind 14 = .ok (.iconst 0, 1) := by decide +kernel
theorem d_F_isKind_15 : decode b_F_isKind 15 = .ok (.ireturn, 1) := by decide +kernel
theorem d_F_isPlace_0 : decode b_F_isPlace 0 = .ok (.aload_n 0, 1) := by decide +kernel
theorem d_F_isPlace_1 : decode b_F_isPlace 1 = .ok (.getfield 10, 3) := by decide +kernel
theorem d_F_isPlace_4 : decode b_F_isPlace 4 = .ok (.iload_n 1, 1) := by decide +kernel
theorem d_F_isPlace_5 : decode b_F_isPlace 5 = .ok (.invokevirtual 38, 3) := by decide +kernel
theorem d_F_isPlace_8 : decode b_F_isPlace 8 = .ok (.ifCond .eq 27, 3) := by decide +kernel
theorem d_F_isPlace_11 : decode b_F_isPlace 11 = .ok (.iload_n 2, 1) := by decide +kernel
theorem d_F_isPlace_12 : decode b_F_isPlace 12 = .ok (.iconst 1, 1) := by decide +kernel
theorem d_F_isPlace_13 : decode b_F_isPlace 13 = .ok (.if_icmp .lt 22, 3) := by decide +kernel
theorem d_F_isPlace_16 : decode b_F_isPlace 16 = .ok (.iload_n 2, 1) := by decide +kernel
theorem d_F_isPlace_17 : decode b_F_isPlace 17 = .ok (.aload_n 0, 1) := by decide +kernel
theorem d_F_isPlace_18 : decode b_F_isPlace 18 = .ok (.getfield 10, 3) := by decide +kernel
theorem d_F_isPlace_21 : decode b_F_isPlace 21 = .ok (.getfield 67, 3) := by decide +kernel
theorem d_F_isPlace_24 : decode b_F_isPlace 24 = .ok (.iload_n 1, 1) := by decide +kernel
theorem d_F_isPlace_25 : decode b_F_isPlace 25 = .ok (.iaload, 1) := by decide +kernel
theorem d_F_isPlace_26 : decode b_F_isPlace 26 = .ok (.iconst 1, 1) := by decide +kernel
theorem d_F_isPlace_27 : decode b_F_isPlace 27 = .ok (.iadd, 1) := by decide +kernel
theorem d_F_isPlace_28 : decode b_F_isPlace 28 = .ok (.if_icmp .gt 7, 3) := by decide +kernel
theorem d_F_isPlace_31 : decode b_F_isPlace 31 = .ok (.iconst 1, 1) := by decide +kernel
theorem d_F_isPlace_32 : decode b_F_isPlace 32 = .ok (.goto 4, 3) := by decide +kernel
theorem d_F_isPlace_35 : decode b_F_isPlace 35 = .ok (.iconst 0, 1) := by decide +kernel
theorem d_F_isPlace_36 : decode b_F_isPlace 36 = .ok (.ireturn, 1) := by decide +kernel
theorem d_F_isRun_0 : decode b_F_isRun 0 = .ok (.aload_n 0, 1) := by decide +kernel
theorem d_F_isRun_1 : decode b_F_isRun 1 = .ok (.getfield 10, 3) := by decide +kernel
theorem d_F_isRun_4 : decode b_F_isRun 4 = .ok (.iload_n 1, 1) := by decide +kernel
theorem d_F_isRun_5 : decode b_F_isRun 5 = .ok (.invokevirtual 38, 3) := by decide +kernel
theorem d_F_isRun_8 : decode b_F_isRun 8 = .ok (.ifCond .eq 50, 3) := by decide +kernel
theorem d_F_isRun_11 : decode b_F_isRun 11 = .ok (.iload 4, 2) := by decide +kernel
theorem d_F_isRun_13 : decode b_F_isRun 13 = .ok (.ifCond .lt 45, 3) := by decide +kernel
theorem d_F_isRun_16 : decode b_F_isRun 16 = .ok (.iload 4, 2) := by decide +kernel
theorem d_F_isRun_18 : decode b_F_isRun 18 = .ok (.sipush 20000, 3) := by decide +kernel
theorem d_F_isRun_21 : decode b_F_isRun 21 = .ok (.if_icmp .gt 37, 3) := by decide +kernel
theorem d_F_isRun_24 : decode b_F_isRun 24 = .ok (.iload 5, 2) := by decide +kernel
theorem d_F_isRun_26 : decode b_F_isRun 26 = .ok (.iconst 1, 1) := by decide +kernel
theorem d_F_isRun_27 : decode b_F_isRun 27 = .ok (.if_icmp .lt 31, 3) := by decide +kernel
theorem d_F_isRun_30 : decode b_F_isRun 30 = .ok (.iload 5, 2) := by decide +kernel
theorem d_F_isRun_32 : decode b_F_isRun 32 = .ok (.sipush 1000, 3) := by decide +kernel
theorem d_F_isRun_35 : decode b_F_isRun 35 = .ok (.if_icmp .gt 23, 3) := by decide +kernel
theorem d_F_isRun_38 : decode b_F_isRun 38 = .ok (.lload_n 2, 1) := by decide +kernel
theorem d_F_isRun_39 : decode b_F_isRun 39 = .ok (.ldc2_w 135, 3) := by decide +kernel
theorem d_F_isRun_42 : decode b_F_isRun 42 = .ok (.lcmp, 1) := by decide +kernel
theorem d_F_isRun_43 : decode b_F_isRun 43 = .ok (.ifCond .lt 15, 3) := by decide +kernel
theorem d_F_isRun_46 : decode b_F_isRun 46 = .ok (.lload_n 2, 1) := by decide +kernel
theorem d_F_isRun_47 : decode b_F_isRun 47 = .ok (.ldc2_w 137, 3) := by decide +kernel
theorem d_F_isRun_50 : decode b_F_isRun 50 = .ok (.lcmp, 1) := by decide +kernel
theorem d_F_isRun_51 : decode b_F_isRun 51 = .ok (.ifCond .gt 7, 3) := by decide +kernel
theorem d_F_isRun_54 : decode b_F_isRun 54 = .ok (.iconst 1, 1) := by decide +kernel
theorem d_F_isRun_55 : decode b_F_isRun 55 = .ok (.goto 4, 3) := by decide +kernel
theorem d_F_isRun_58 : decode b_F_isRun 58 = .ok (.iconst 0, 1) := by decide +kernel
theorem d_F_isRun_59 : decode b_F_isRun 59 = .ok (.ireturn, 1) := by decide +kernel
