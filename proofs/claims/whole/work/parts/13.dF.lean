theorem d_F_keys_0 : decode b_F_keys 0 = .ok (.aload_n 0, 1) := by decide +kernel
theorem d_F_keys_1 : decode b_F_keys 1 = .ok (.getfield 10, 3) := by decide +kernel
theorem d_F_keys_4 : decode b_F_keys 4 = .ok (.iload_n 1, 1) := by decide +kernel
theorem d_F_keys_5 : decode b_F_keys 5 = .ok (.invokevirtual 38, 3) := by decide +kernel
theorem d_F_keys_8 : decode b_F_keys 8 = .ok (.ifCond .eq 15, 3) := by decide +kernel
theorem d_F_keys_11 : decode b_F_keys 11 = .ok (.aload_n 0, 1) := by decide +kernel
theorem d_F_keys_12 : decode b_F_keys 12 = .ok (.getfield 10, 3) := by decide +kernel
theorem d_F_keys_15 : decode b_F_keys 15 = .ok (.getfield 71, 3) := by decide +kernel
theorem d_F_keys_18 : decode b_F_keys 18 = .ok (.iload_n 1, 1) := by decide +kernel
theorem d_F_keys_19 : decode b_F_keys 19 = .ok (.iaload, 1) := by decide +kernel
theorem d_F_keys_20 : decode b_F_keys 20 = .ok (.goto 4, 3) := by decide +kernel
theorem d_F_keys_23 : decode b_F_keys 23 = .ok (.iconst (-1), 1) := by decide +kernel
theorem d_F_keys_24 : decode b_F_keys 24 = .ok (.ireturn, 1) := by decide +kernel
theorem d_F_kindAt_0 : decode b_F_kindAt 0 = .ok (.aload_n 0, 1) := by decide +kernel
theorem d_F_kindAt_1 : decode b_F_kindAt 1 = .ok (.getfield 10, 3) := by decide +kernel
theorem d_F_kindAt_4 : decode b_F_kindAt 4 = .ok (.iload_n 1, 1) := by decide +kernel
theorem d_F_kindAt_5 : decode b_F_kindAt 5 = .ok (.invokevirtual 38, 3) := by decide +kernel
theorem d_F_kindAt_8 : decode b_F_kindAt 8 = .ok (.ifCond .eq 10, 3) := by decide +kernel
theorem d_F_kindAt_11 : decode b_F_kindAt 11 = .ok (.iload_n 2, 1) := by decide +kernel
theorem d_F_kindAt_12 : decode b_F_kindAt 12 = .ok (.invokestatic 42, 3) := by decide +kernel
theorem d_F_kindAt_15 : decode b_F_kindAt 15 = .ok (.ifCond .ne 5, 3) := by decide +kernel
theorem d_F_kindAt_18 : decode b_F_kindAt 18 = .ok (.iconst (-1), 1) := by decide +kernel
theorem d_F_kindAt_19 : decode b_F_kindAt 19 = .ok (.ireturn, 1) := by decide +kernel
theorem d_F_kindAt_20 : decode b_F_kindAt 20 = .ok (.aload_n 0, 1) := by decide +kernel
theorem d_F_kindAt_21 : decode b_F_kindAt 21 = .ok (.getfield 19, 3) := by decide +kernel
theorem d_F_kindAt_24 : decode b_F_kindAt 24 = .ok (.getfield 59, 3) := by decide +kernel
theorem d_F_kindAt_27 : decode b_F_kindAt 27 = .ok (.aload_n 0, 1) := by decide +kernel
theorem d_F_kindAt_28 : decode b_F_kindAt 28 = .ok (.getfield 19, 3) := by decide +kernel
theorem d_F_kindAt_31 : decode b_F_kindAt 31 = .ok (.iload_n 1, 1) := by decide +kernel
theorem d_F_kindAt_32 : decode b_F_kindAt 32 = .ok (.iload_n 2, 1) := by decide +kernel
theorem d_F_kindAt_33 : decode b_F_kindAt 33 = .ok (.lload_n 3, 1) := by decide +kernel
theorem d_F_kindAt_34 : decode b_F_kindAt 34 = .ok (.invokevirtual 51, 3) := by decide +kernel
theorem d_F_kindAt_37 : decode b_F_kindAt 37 = .ok (.baload, 1) := by decide +kernel
theorem d_F_kindAt_38 : decode b_F_kindAt 38 = .ok (.ireturn, 1) := by decide +kernel
theorem d_F_lowerBorder_0 : decode b_F_lowerBorder 0 = .ok (.lload_n 2, 1) := by decide +kernel
theorem d_F_lowerBorder_1 : decode b_F_lowerBorder 1 = .ok (.lconst 1, 1) := by decide +kernel
theorem d_F_lowerBorder_2 : decode b_F_lowerBorder 2 = .ok (.lcmp, 1) := by decide +kernel
theorem d_F_lowerBorder_3 : decode b_F_lowerBorder 3 = .ok (.ifCond .lt 31, 3) := by decide +kernel
theorem d_F_lowerBorder_6 : decode b_F_lowerBorder 6 = .ok (.lload_n 2, 1) := by decide +kernel
theorem d_F_lowerBorder_7 : decode b_F_lowerBorder 7 = .ok (.aload_n 0, 1) := by decide +kernel
theorem d_F_lowerBorder_8 : decode b_F_lowerBorder 8 = .ok (.getfield 10, 3) := by decide +kernel
theorem d_F_lowerBorder_11 : decode b_F_lowerBorder 11 = .ok (.getfield 67, 3) := by decide +kernel
theorem d_F_lowerBorder_14 : decode b_F_lowerBorder 14 = .ok (.iload_n 1, 1) := by decide +kernel
theorem d_F_lowerBorder_15 : decode b_F_lowerBorder 15 = .ok (.iaload, 1) := by decide +kernel
theorem d_F_lowerBorder_16 : decode b_F_lowerBorder 16 = .ok (.i2l, 1) := by decide +kernel
theorem d_F_lowerBorder_17 : decode b_F_lowerBorder 17 = .ok (.lcmp, 1) := by decide +kernel
theorem d_F_lowerBorder_18 : decode b_F_lowerBorder 18 = .ok (.ifCond .gt 16, 3) := by decide +kernel
theorem d_F_lowerBorder_21 : decode b_F_lowerBorder 21 = .ok (.aload_n 0, 1) := by decide +kernel
theorem d_F_lowerBorder_22 : decode b_F_lowerBorder 22 = .ok (.getfield 10, 3) := by decide +kernel
theorem d_F_lowerBorder_25 : decode b_F_lowerBorder 25 = .ok (.getfield 67, 3) := by decide +kernel
theorem d_F_lowerBorder_28 : decode b_F_lowerBorder 28 = .ok (.iload_n 1, 1) := by decide +kernel
theorem d_F_lowerBorder_29 : decode b_F_lowerBorder 29 = .ok (.lload_n 2, 1) := by decide +kernel
theorem d_F_lowerBorder_30 : decode b_F_lowerBorder 30 = .ok (.lconst 1, 1) := by decide +kernel
theorem d_F_lowerBorder_31 : decode b_F_lowerBorder 31 = .ok (.lsub, 1) := by decide +kernel
theorem d_F_lowerBorder_32 : decode b_F_lowerBorder 32 = .ok (.l2i, 1) := by decide +kernel
theorem d_F_lowerBorder_33 : decode b_F_lowerBorder 33 = .ok (.iastore, 1) := by decide +kernel
theorem d_F_lowerBorder_34 : decode b_F_lowerBorder 34 = .ok (.return_, 1) := by decide +kernel
theorem d_F_make_0 : decode b_F_make 0 = .ok (.aload_n 0, 1) := by decide +kernel
theorem d_F_make_1 : decode b_F_make 1 = .ok (.getfield 10, 3) := by decide +kernel
theorem d_F_make_4 : decode b_F_make 4 = .ok (.getfield 31, 3) := by decide +kernel
theorem d_F_make_7 : decode b_F_make 7 = .ok (.sipush 30000, 3) := by decide +kernel
theorem d_F_make_10 : decode b_F_make 10 = .ok (.if_icmp .ne 8, 3) := by decide +kernel
theorem d_F_make_13 : decode b_F_make 13 = .ok (.bipush (-3), 2) := by decide +kernel
theorem d_F_make_15 : decode b_F_make 15 = .ok (.goto 10, 3) := by decide +kernel
theorem d_F_make_18 : decode b_F_make 18 = .ok (.aload_n 0, 1) := by decide +kernel
theorem d_F_make_19 : decode b_F_make 19 = .ok (.getfield 10, 3) := by decide +kernel
theorem d_F_make_22 : decode b_F_make 22 = .ok (.invokevirtual 34, 3) := by decide +kernel
theorem d_F_make_25 : decode b_F_make 25 = .ok (.ireturn, 1) := by decide +kernel
theorem d_F_missing_0 : decode b_F_missing 0 = .ok (.iconst 0, 1) := by decide +kernel
theorem d_F_missing_1 : decode b_F_missing 1 = .ok (.istore 6, 2) := by decide +kernel
theorem d_F_missing_3 : decode b_F_missing 3 = .ok (.lload_n 2, 1) := by decide +kernel
theorem d_F_missing_4 : decode b_F_missing 4 = .ok (.lstore 7, 2) := by decide +kernel
theorem d_F_missing_6 : decode b_F_missing 6 = .ok (.iconst 0, 1) := by decide +kernel
theorem d_F_missing_7 : decode b_F_missing 7 = .ok (.istore 9, 2) := by decide +kernel
theorem d_F_missing_9 : decode b_F_missing 9 = .ok (.iload 9, 2) := by decide +kernel
theorem d_F_missing_11 : decode b_F_missing 11 = .ok (.iload 4, 2) := by decide +kernel
theorem d_F_missing_13 : decode b_F_missing 13 = .ok (.if_icmp .ge 30, 3) := by decide +kernel
theorem d_F_missing_16 : decode b_F_missing 16 = .ok (.aload_n 0, 1) := by decide +kernel
theorem d_F_missing_17 : decode b_F_missing 17 = .ok (.iload_n 1, 1) := by decide +kernel
theorem d_F_missing_18 : decode b_F_missing 18 = .ok (.lload 7, 2) := by decide +kernel
theorem d_F_missing_20 : decode b_F_missing 20 = .ok (.invokevirtual 103, 3) := by decide +kernel
theorem d_F_missing_23 : decode b_F_missing 23 = .ok (.ifCond .ne 6, 3) := by decide +kernel
theorem d_F_missing_26 : decode b_F_missing 26 = .ok (.iinc 6 1, 3) := by decide +kernel
theorem d_F_missing_29 : decode b_F_missing 29 = .ok (.lload 7, 2) := by decide +kernel
theorem d_F_missing_31 : decode b_F_missing 31 = .ok (.iload 5, 2) := by decide +kernel
theorem d_F_missing_33 : decode b_F_missing 33 = .ok (.i2l, 1) := by decide +kernel
theorem d_F_missing_34 : decode b_F_missing 34 = .ok (.ladd, 1) := by decide +kernel
theorem d_F_missing_35 : decode b_F_missing 35 = .ok (.lstore 7, 2) := by decide +kernel
theorem d_F_missing_37 : decode b_F_missing 37 = .ok (.iinc 9 1, 3) := by decide +kernel
theorem d_F_missing_40 : decode b_F_missing 40 = .ok (.goto (-31), 3) := by decide +kernel
theorem d_F_missing_43 : decode b_F_missing 43 = .ok (.iload 6, 2) := by decide +kernel
theorem d_F_missing_45 : decode b_F_missing 45 = .ok (.ireturn, 1) := by decide +kernel
theorem d_F_missingOf_0 : decode b_F_missingOf 0 = .ok (.iconst 0, 1) := by decide +kernel
theorem d_F_missingOf_1 : decode b_F_missingOf 1 = .ok (.istore_n 3, 1) := by decide +kernel
theorem d_F_missingOf_2 : decode b_F_missingOf 2 = .ok (.aload_n 0, 1) := by decide +kernel
theorem d_F_missingOf_3 : decode b_F_missingOf 3 = .ok (.getfield 10, 3) := by decide +kernel
theorem d_F_missingOf_6 : decode b_F_missingOf 6 = .ok (.getfield 77, 3) := by decide +kernel
theorem d_F_missingOf_9 : decode b_F_missingOf 9 = .ok (.iload_n 2, 1) := by decide +kernel
theorem d_F_missingOf_10 : decode b_F_missingOf 10 = .ok (.iaload, 1) := by decide +kernel
theorem d_F_missingOf_11 : decode b_F_missingOf 11 = .ok (.istore 4, 2) := by decide +kernel
theorem d_F_missingOf_13 : decode b_F_missingOf 13 = .ok (.aload_n 0, 1) := by decide +kernel
theorem d_F_missingOf_14 : decode b_F_missingOf 14 = .ok (.getfield 10, 3) := by decide +kernel
theorem d_F_missingOf_17 : decode b_F_missingOf 17 = .ok (.getfield 71, 3) := by decide +kernel
theorem d_F_missingOf_20 : decode b_F_missingOf 20 = .ok (.iload_n 2, 1) := by decide +kernel
theorem d_F_missingOf_21 : decode b_F_missingOf 21 = .ok (.iaload, 1) := by decide +kernel
theorem d_F_missingOf_22 : decode b_F_missingOf 22 = .ok (.istore 5, 2) := by decide +kernel
theorem d_F_missingOf_24 : decode b_F_missingOf 24 = .ok (.iconst 0, 1) := by decide +kernel
theorem d_F_missingOf_25 : decode b_F_missingOf 25 = .ok (.istore 6, 2) := by decide +kernel
theorem d_F_missingOf_27 : decode b_F_missingOf 27 = .ok (.iload 6, 2) := by decide +kernel
theorem d_F_missingOf_29 : decode b_F_missingOf 29 = .ok (.iload 5, 2) := by decide +kernel
theorem d_F_missingOf_31 : decode b_F_missingOf 31 = .ok (.if_icmp .ge 52, 3) := by decide +kernel
theorem d_F_missingOf_34 : decode b_F_missingOf 34 = .ok (.iload 4, 2) := by decide +kernel
theorem d_F_missingOf_36 : decode b_F_missingOf 36 = .ok (.ifCond .eq 47, 3) := by decide +kernel
theorem d_F_missingOf_39 : decode b_F_missingOf 39 = .ok (.aload_n 0, 1) := by decide +kernel
theorem d_F_missingOf_40 : decode b_F_missingOf 40 = .ok (.getfield 19, 3) := by decide +kernel
theorem d_F_missingOf_43 : decode b_F_missingOf 43 = .ok (.getfield 59, 3) := by decide +kernel
theorem d_F_missingOf_46 : decode b_F_missingOf 46 = .ok (.iload 4, 2) := by decide +kernel
theorem d_F_missingOf_48 : decode b_F_missingOf 48 = .ok (.baload, 1) := by decide +kernel
theorem d_F_missingOf_49 : decode b_F_missingOf 49 = .ok (.ifCond .eq 16, 3) := by decide +kernel
theorem d_F_missingOf_52 : decode b_F_missingOf 52 = .ok (.aload_n 0, 1) := by decide +kernel
theorem d_F_missingOf_53 : decode b_F_missingOf 53 = .ok (.iload_n 1, 1) := by decide +kernel
theorem d_F_missingOf_54 : decode b_F_missingOf 54 = .ok (.iload 4, 2) := by decide +kernel
theorem d_F_missingOf_56 : decode b_F_missingOf 56 = .ok (.invokevirtual 164, 3) := by decide +kernel
theorem d_F_missingOf_59 : decode b_F_missingOf 59 = .ok (.ifCond .ne 6, 3) := by decide +kernel
theorem d_F_missingOf_62 : decode b_F_missingOf 62 = .ok (.iinc 3 1, 3) := by decide +kernel
theorem d_F_missingOf_65 : decode b_F_missingOf 65 = .ok (.aload_n 0, 1) := by decide +kernel
theorem d_F_missingOf_66 : decode b_F_missingOf 66 = .ok (.getfield 19, 3) := by decide +kernel
theorem d_F_missingOf_69 : decode b_F_missingOf 69 = .ok (.getfield 80, 3) := by decide +kernel
theorem d_F_missingOf_72 : decode b_F_missingOf 72 = .ok (.iload 4, 2) := by decide +kernel
theorem d_F_missingOf_74 : decode b_F_missingOf 74 = .ok (.iaload, 1) := by decide +kernel
theorem d_F_missingOf_75 : decode b_F_missingOf 75 = .ok (.istore 4, 2) := by decide +kernel
theorem d_F_missingOf_77 : decode b_F_missingOf 77 = .ok (.iinc 6 1, 3) := by decide +kernel
theorem d_F_missingOf_80 : decode b_F_missingOf 80 = .ok (.goto (-53), 3) := by decide +kernel
theorem d_F_missingOf_83 : decode b_F_missingOf 83 = .ok (.iload_n 3, 1) := by decide +kernel
theorem d_F_missingOf_84 : decode b_F_missingOf 84 = .ok (.ireturn, 1) := by decide +kernel
theorem d_F_moveDown_0 : decode b_F_moveDown 0 = .ok (.aload_n 0, 1) := by decide +kernel
theorem d_F_moveDown_1 : decode b_F_moveDown 1 = .ok (.iload_n 1, 1) := by decide +kernel
theorem d_F_moveDown_2 : decode b_F_moveDown 2 = .ok (.iload_n 2, 1) := by decide +kernel
theorem d_F_moveDown_3 : decode b_F_moveDown 3 = .ok (.i2l, 1) := by decide +kernel
theorem d_F_moveDown_4 : decode b_F_moveDown 4 = .ok (.invokevirtual 103, 3) := by decide +kernel
theorem d_F_moveDown_7 : decode b_F_moveDown 7 = .ok (.istore 4, 2) := by decide +kernel
theorem d_F_moveDown_9 : decode b_F_moveDown 9 = .ok (.iload_n 2, 1) := by decide +kernel
theorem d_F_moveDown_10 : decode b_F_moveDown 10 = .ok (.iconst 1, 1) := by decide +kernel
theorem d_F_moveDown_11 : decode b_F_moveDown 11 = .ok (.iadd, 1) := by decide +kernel
theorem d_F_moveDown_12 : decode b_F_moveDown 12 = .ok (.istore 5, 2) := by decide +kernel
theorem d_F_moveDown_14 : decode b_F_moveDown 14 = .ok (.iload 5, 2) := by decide +kernel
theorem d_F_moveDown_16 : decode b_F_moveDown 16 = .ok (.iload_n 3, 1) := by decide +kernel
theorem d_F_moveDown_17 : decode b_F_moveDown 17 = .ok (.if_icmp .gt 34, 3) := by decide +kernel
theorem d_F_moveDown_20 : decode b_F_moveDown 20 = .ok (.aload_n 0, 1) := by decide +kernel
theorem d_F_moveDown_21 : decode b_F_moveDown 21 = .ok (.iload_n 1, 1) := by decide +kernel
theorem d_F_moveDown_22 : decode b_F_moveDown 22 = .ok (.iload 5, 2) := by decide +kernel
theorem d_F_moveDown_24 : decode b_F_moveDown 24 = .ok (.i2l, 1) := by decide +kernel
theorem d_F_moveDown_25 : decode b_F_moveDown 25 = .ok (.invokevirtual 103, 3) := by decide +kernel
theorem d_F_moveDown_28 : decode b_F_moveDown 28 = .ok (.istore 6, 2) := by decide +kernel
theorem d_F_moveDown_30 : decode b_F_moveDown 30 = .ok (.aload_n 0, 1) := by decide +kernel
theorem d_F_moveDown_31 : decode b_F_moveDown 31 = .ok (.getfield 19, 3) := by decide +kernel
theorem d_F_moveDown_34 : decode b_F_moveDown 34 = .ok (.iload 4, 2) := by decide +kernel
theorem d_F_moveDown_36 : decode b_F_moveDown 36 = .ok (.iload 6, 2) := by decide +kernel
theorem d_F_moveDown_38 : decode b_F_moveDown 38 = .ok (.invokevirtual 170, 3) := by decide +kernel
theorem d_F_moveDown_41 : decode b_F_moveDown 41 = .ok (.iload 6, 2) := by decide +kernel
theorem d_F_moveDown_43 : decode b_F_moveDown 43 = .ok (.istore 4, 2) := by decide +kernel
theorem d_F_moveDown_45 : decode b_F_moveDown 45 = .ok (.iinc 5 1, 3) := by decide +kernel
theorem d_F_moveDown_48 : decode b_F_moveDown 48 = .ok (.goto (-34), 3) := by decide +kernel
theorem d_F_moveDown_51 : decode b_F_moveDown 51 = .ok (.return_, 1) := by decide +kernel
theorem d_F_moveUp_0 : decode b_F_moveUp 0 = .ok (.aload_n 0, 1) := by decide +kernel
theorem d_F_moveUp_1 : decode b_F_moveUp 1 = .ok (.iload_n 1, 1) := by decide +kernel
theorem d_F_moveUp_2 : decode b_F_moveUp 2 = .ok (.iload_n 3, 1) := by decide +kernel
theorem d_F_moveUp_3 : decode b_F_moveUp 3 = .ok (.i2l, 1) := by decide +kernel
theorem d_F_moveUp_4 : decode b_F_moveUp 4 = .ok (.invokevirtual 103, 3) := by decide +kernel
theorem d_F_moveUp_7 : decode b_F_moveUp 7 = .ok (.istore 4, 2) := by decide +kernel
theorem d_F_moveUp_9 : decode b_F_moveUp 9 = .ok (.iload_n 3, 1) := by decide +kernel
theorem d_F_moveUp_10 : decode b_F_moveUp 10 = .ok (.iconst 1, 1) := by decide +kernel
theorem d_F_moveUp_11 : decode b_F_moveUp 11 = .ok (.isub, 1) := by decide +kernel
theorem d_F_moveUp_12 : decode b_F_moveUp 12 = .ok (.istore 5, 2) := by decide +kernel
theorem d_F_moveUp_14 : decode b_F_moveUp 14 = .ok (.iload 5, 2) := by decide +kernel
theorem d_F_moveUp_16 : decode b_F_moveUp 16 = .ok (.iload_n 2, 1) := by decide +kernel
theorem d_F_moveUp_17 : decode b_F_moveUp 17 = .ok (.if_icmp .lt 34, 3) := by decide +kernel
theorem d_F_moveUp_20 : decode b_F_moveUp 20 = .ok (.aload_n 0, 1) := by decide +kernel
theorem d_F_moveUp_21 : decode b_F_moveUp 21 = .ok (.iload_n 1, 1) := by decide +kernel
theorem d_F_moveUp_22 : decode b_F_moveUp 22 = .ok (.iload 5, 2) := by decide +kernel
theorem d_F_moveUp_24 : decode b_F_moveUp 24 = .ok (.i2l, 1) := by decide +kernel
theorem d_F_moveUp_25 : decode b_F_moveUp 25 = .ok (.invokevirtual 103, 3) := by decide +kernel
theorem d_F_moveUp_28 : decode b_F_moveUp 28 = .ok (.istore 6, 2) := by decide +kernel
theorem d_F_moveUp_30 : decode b_F_moveUp 30 = .ok (.aload_n 0, 1) := by decide +kernel
theorem d_F_moveUp_31 : decode b_F_moveUp 31 = .ok (.getfield 19, 3) := by decide +kernel
theorem d_F_moveUp_34 : decode b_F_moveUp 34 = .ok (.iload 4, 2) := by decide +kernel
theorem d_F_moveUp_36 : decode b_F_moveUp 36 = .ok (.iload 6, 2) := by decide +kernel
theorem d_F_moveUp_38 : decode b_F_moveUp 38 = .ok (.invokevirtual 170, 3) := by decide +kernel
theorem d_F_moveUp_41 : decode b_F_moveUp 41 = .ok (.iload 6, 2) := by decide +kernel
theorem d_F_moveUp_43 : decode b_F_moveUp 43 = .ok (.istore 4, 2) := by decide +kernel
theorem d_F_moveUp_45 : decode b_F_moveUp 45 = .ok (.iinc 5 (-1), 3) := by decide +kernel
theorem d_F_moveUp_48 : decode b_F_moveUp 48 = .ok (.goto (-34), 3) := by decide +kernel
theorem d_F_moveUp_51 : decode b_F_moveUp 51 = .ok (.return_, 1) := by decide +kernel
theorem d_F_next_0 : decode b_F_next 0 = .ok (.aload_n 0, 1) := by decide +kernel
theorem d_F_next_1 : decode b_F_next 1 = .ok (.getfield 10, 3) := by decide +kernel
theorem d_F_next_4 : decode b_F_next 4 = .ok (.iload_n 1, 1) := by decide +kernel
theorem d_F_next_5 : decode b_F_next 5 = .ok (.invokevirtual 38, 3) := by decide +kernel
theorem d_F_next_8 : decode b_F_next 8 = .ok (.ifCond .eq 10, 3) := by decide +kernel
theorem d_F_next_11 : decode b_F_next 11 = .ok (.iload_n 2, 1) := by decide +kernel
theorem d_F_next_12 : decode b_F_next 12 = .ok (.invokestatic 45, 3) := by decide +kernel
theorem d_F_next_15 : decode b_F_next 15 = .ok (.ifCond .ne 5, 3) := by decide +kernel
theorem d_F_next_18 : decode b_F_next 18 = .ok (.iconst (-1), 1) := by decide +kernel
theorem d_F_next_19 : decode b_F_next 19 = .ok (.ireturn, 1) := by decide +kernel
theorem d_F_next_20 : decode b_F_next 20 = .ok (.aload_n 0, 1) := by decide +kernel
theorem d_F_next_21 : decode b_F_next 21 = .ok (.getfield 10, 3) := by decide +kernel
theorem d_F_next_24 : decode b_F_next 24 = .ok (.getfield 77, 3) := by decide +kernel
theorem d_F_next_27 : decode b_F_next 27 = .ok (.iload_n 1, 1) := by decide +kernel
theorem d_F_next_28 : decode b_F_next 28 = .ok (.iaload, 1) := by decide +kernel
theorem d_F_next_29 : decode b_F_next 29 = .ok (.istore 5, 2) := by decide +kernel
theorem d_F_next_31 : decode b_F_next 31 = .ok (.iload_n 2, 1) := by decide +kernel
theorem d_F_next_32 : decode b_F_next 32 = .ok (.ifCond .eq 35, 3) := by decide +kernel
theorem d_F_next_35 : decode b_F_next 35 = .ok (.aload_n 0, 1) := by decide +kernel
theorem d_F_next_36 : decode b_F_next 36 = .ok (.getfield 19, 3) := by decide +kernel
theorem d_F_next_39 : decode b_F_next 39 = .ok (.iload_n 1, 1) := by decide +kernel
theorem d_F_next_40 : decode b_F_next 40 = .ok (.iload_n 2, 1) := by decide +kernel
theorem d_F_next_41 : decode b_F_next 41 = .ok (.lload_n 3, 1) := by decide +kernel
theorem d_F_next_42 : decode b_F_next 42 = .ok (.invokevirtual 51, 3) := by decide +kernel
theorem d_F_next_45 : decode b_F_next 45 = .ok (.istore 6, 2) := by decide +kernel
theorem d_F_next_47 : decode b_F_next 47 = .ok (.iload 6, 2) := by decide +kernel
theorem d_F_next_49 : decode b_F_next 49 = .ok (.ifCond .ne 6, 3) := by decide +kernel
theorem d_F_next_52 : decode b_F_next 52 = .ok (.bipush (-2), 2) := by decide +kernel
theorem d_F_next_54 : decode b_F_next 54 = .ok (.ireturn, 1) := by decide +kernel
theorem d_F_next_55 : decode b_F_next 55 = .ok (.aload_n 0, 1) := by decide +kernel
theorem d_F_next_56 : decode b_F_next 56 = .ok (.getfield 19, 3) := by decide +kernel
theorem d_F_next_59 : decode b_F_next 59 = .ok (.getfield 80, 3) := by decide +kernel
theorem d_F_next_62 : decode b_F_next 62 = .ok (.iload 6, 2) := by decide +kernel
theorem d_F_next_64 : decode b_F_next 64 = .ok (.iaload, 1) := by decide +kernel
theorem d_F_next_65 : decode b_F_next 65 = .ok (.istore 5, 2) := by decide +kernel
theorem d_F_next_67 : decode b_F_next 67 = .ok (.aload_n 0, 1) := by decide +kernel
theorem d_F_next_68 : decode b_F_next 68 = .ok (.aload_n 0, 1) := by decide +kernel
theorem d_F_next_69 : decode b_F_next 69 = .ok (.iload_n 1, 1) := by decide +kernel
theorem d_F_next_70 : decode b_F_next 70 = .ok (.iload 5, 2) := by decide +kernel
theorem d_F_next_72 : decode b_F_next 72 = .ok (.invokevirtual 83, 3) := by decide +kernel
theorem d_F_next_75 : decode b_F_next 75 = .ok (.invokevirtual 87, 3) := by decide +kernel
theorem d_F_next_78 : decode b_F_next 78 = .ok (.ireturn, 1) := by decide +kernel
theorem d_F_numberAt_0 : decode b_F_numberAt 0 = .ok (.aload_n 0, 1) := by decide +kernel
theorem d_F_numberAt_1 : decode b_F_numberAt 1 = .ok (.getfield 10, 3) := by decide +kernel
theorem d_F_numberAt_4 : decode b_F_numberAt 4 = .ok (.iload_n 1, 1) := by decide +kernel
theorem d_F_numberAt_5 : decode b_F_numberAt 5 = .ok (.invokevirtual 38, 3) := by decide +kernel
theorem d_F_numberAt_8 : decode b_F_numberAt 8 = .ok (.ifCond .eq 10, 3) := by decide +kernel
theorem d_F_numberAt_11 : decode b_F_numberAt 11 = .ok (.iload_n 2, 1) := by decide +kernel
theorem d_F_numberAt_12 : decode b_F_numberAt 12 = .ok (.invokestatic 42, 3) := by decide +kernel
theorem d_F_numberAt_15 : decode b_F_numberAt 15 = .ok (.ifCond .ne 5, 3) := by decide +kernel
theorem d_F_numberAt_18 : decode b_F_numberAt 18 = .ok (.lconst 0, 1) := by decide +kernel
theorem d_F_numberAt_19 : decode b_F_numberAt 19 = .ok (.lreturn, 1) := by decide +kernel
theorem d_F_numberAt_20 : decode b_F_numberAt 20 = .ok (.aload_n 0, 1) := by decide +kernel
theorem d_F_numberAt_21 : decode b_F_numberAt 21 = .ok (.getfield 19, 3) := by decide +kernel
theorem d_F_numberAt_24 : decode b_F_numberAt 24 = .ok (.getfield 63, 3) := by decide +kernel
theorem d_F_numberAt_27 : decode b_F_numberAt 27 = .ok (.aload_n 0, 1) := by decide +kernel
theorem d_F_numberAt_28 : decode b_F_numberAt 28 = .ok (.getfield 19, 3) := by decide +kernel
theorem d_F_numberAt_31 : decode b_F_numberAt 31 = .ok (.iload_n 1, 1) := by decide +kernel
theorem d_F_numberAt_32 : decode b_F_numberAt 32 = .ok (.iload_n 2, 1) := by decide +kernel
theorem d_F_numberAt_33 : decode b_F_numberAt 33 = .ok (.lload_n 3, 1) := by decide +kernel
theorem d_F_numberAt_34 : decode b_F_numberAt 34 = .ok (.invokevirtual 51, 3) := by decide +kernel
theorem d_F_numberAt_37 : decode b_F_numberAt 37 = .ok (.laload, 1) := by decide +kernel
theorem d_F_numberAt_38 : decode b_F_numberAt 38 = .ok (.lreturn, 1) := by decide +kernel
theorem d_F_put_0 : decode b_F_put 0 = .ok (.aload_n 0, 1) := by decide +kernel
theorem d_F_put_1 : decode b_F_put 1 = .ok (.getfield 10, 3) := by decide +kernel
theorem d_F_put_4 : decode b_F_put 4 = .ok (.iload_n 1, 1) := by decide +kernel
theorem d_F_put_5 : decode b_F_put 5 = .ok (.invokevirtual 38, 3) := by decide +kernel
theorem d_F_put_8 : decode b_F_put 8 = .ok (.ifCond .eq 18, 3) := by decide +kernel
theorem d_F_put_11 : decode b_F_put 11 = .ok (.iload_n 2, 1) := by decide +kernel
theorem d_F_put_12 : decode b_F_put 12 = .ok (.invokestatic 42, 3) := by decide +kernel
theorem d_F_put_15 : decode b_F_put 15 = .ok (.ifCond .eq 11, 3) := by decide +kernel
theorem d_F_put_18 : decode b_F_put 18 = .ok (.iload 5, 2) := by decide +kernel
theorem d_F_put_20 : decode b_F_put 20 = .ok (.invokestatic 45, 3) := by decide +kernel
theorem d_F_put_23 : decode b_F_put 23 = .ok (.ifCond .ne 5, 3) := by decide +kernel
theorem d_F_put_26 : decode b_F_put 26 = .ok (.iconst (-1), 1) := by decide +kernel
theorem d_F_put_27 : decode b_F_put 27 = .ok (.ireturn, 1) := by decide +kernel
theorem d_F_put_28 : decode b_F_put 28 = .ok (.iload 5, 2) := by decide +kernel
theorem d_F_put_30 : decode b_F_put 30 = .ok (.ifCond .eq 29, 3) := by decide +kernel
theorem d_F_put_33 : decode b_F_put 33 = .ok (.aload_n 0, 1) := by decide +kernel
theorem d_F_put_34 : decode b_F_put 34 = .ok (.getfield 19, 3) := by decide +kernel
theorem d_F_put_37 : decode b_F_put 37 = .ok (.invokevirtual 48, 3) := by decide +kernel
theorem d_F_put_40 : decode b_F_put 40 = .ok (.ifCond .ne 19, 3) := by decide +kernel
theorem d_F_put_43 : decode b_F_put 43 = .ok (.aload_n 0, 1) := by decide +kernel
theorem d_F_put_44 : decode b_F_put 44 = .ok (.getfield 19, 3) := by decide +kernel
theorem d_F_put_47 : decode b_F_put 47 = .ok (.iload_n 1, 1) := by decide +kernel
theorem d_F_put_48 : decode b_F_put 48 = .ok (.iload_n 2, 1) := by decide +kernel
theorem d_F_put_49 : decode b_F_put 49 = .ok (.lload_n 3, 1) := by decide +kernel
theorem d_F_put_50 : decode b_F_put 50 = .ok (.invokevirtual 51, 3) := by decide +kernel
theorem d_F_put_53 : decode b_F_put 53 = .ok (.ifCond .ne 6, 3) := by decide +kernel
theorem d_F_put_56 : decode b_F_put 56 = .ok (.bipush (-3), 2) := by decide +kernel
theorem d_F_put_58 : decode b_F_put 58 = .ok (.ireturn, 1) := by decide +kernel
theorem d_F_put_59 : decode b_F_put 59 = .ok (.aload_n 0, 1) := by decide +kernel
theorem d_F_put_60 : decode b_F_put 60 = .ok (.iload_n 1, 1) := by decide +kernel
theorem d_F_put_61 : decode b_F_put 61 = .ok (.iload_n 2, 1) := by decide +kernel
theorem d_F_put_62 : decode b_F_put 62 = .ok (.lload_n 3, 1) := by decide +kernel
theorem d_F_put_63 : decode b_F_put 63 = .ok (.iload 5, 2) := by decide +kernel
theorem d_F_put_65 : decode b_F_put 65 = .ok (.lload 6, 2) := by decide +kernel
theorem d_F_put_67 : decode b_F_put 67 = .ok (.invokevirtual 55, 3) := by decide +kernel
theorem d_F_put_70 : decode b_F_put 70 = .ok (.ireturn, 1) := by decide +kernel
theorem d_F_raiseBorder_0 : decode b_F_raiseBorder 0 = .ok (.aload_n 0, 1) := by decide +kernel
theorem d_F_raiseBorder_1 : decode b_F_raiseBorder 1 = .ok (.getfield 10, 3) := by decide +kernel
theorem d_F_raiseBorder_4 : decode b_F_raiseBorder 4 = .ok (.getfield 67, 3) := by decide +kernel
theorem d_F_raiseBorder_7 : decode b_F_raiseBorder 7 = .ok (.iload_n 1, 1) := by decide +kernel
theorem d_F_raiseBorder_8 : decode b_F_raiseBorder 8 = .ok (.iaload, 1) := by decide +kernel
theorem d_F_raiseBorder_9 : decode b_F_raiseBorder 9 = .ok (.istore 4, 2) := by decide +kernel
theorem d_F_raiseBorder_11 : decode b_F_raiseBorder 11 = .ok (.lload_n 2, 1) := by decide +kernel
theorem d_F_raiseBorder_12 : decode b_F_raiseBorder 12 = .ok (.iload 4, 2) := by decide +kernel
theorem d_F_raiseBorder_14 : decode b_F_raiseBorder 14 = .ok (.i2l, 1) := by decide +kernel
theorem d_F_raiseBorder_15 : decode b_F_raiseBorder 15 = .ok (.lconst 1, 1) := by decide +kernel
theorem d_F_raiseBorder_16 : decode b_F_raiseBorder 16 = .ok (.ladd, 1) := by decide +kernel
theorem d_F_raiseBorder_17 : decode b_F_raiseBorder 17 = .ok (.lcmp, 1) := by decide +kernel
theorem d_F_raiseBorder_18 : decode b_F_raiseBorder 18 = .ok (.ifCond .eq 4, 3) := by decide +kernel
theorem d_F_raiseBorder_21 : decode b_F_raiseBorder 21 = .ok (.return_, 1) := by decide +kernel
theorem d_F_raiseBorder_22 : decode b_F_raiseBorder 22 = .ok (.iinc 4 1, 3) := by decide +kernel
theorem d_F_raiseBorder_25 : decode b_F_raiseBorder 25 = .ok (.iload 4, 2) := by decide +kernel
theorem d_F_raiseBorder_27 : decode b_F_raiseBorder 27 = .ok (.ldc 163, 2) := by decide +kernel
theorem d_F_raiseBorder_29 : decode b_F_raiseBorder 29 = .ok (.if_icmp .ge 34, 3) := by decide +kernel
theorem d_F_raiseBorder_32 : decode b_F_raiseBorder 32 = .ok (.aload_n 0, 1) := by decide +kernel
theorem d_F_raiseBorder_33 : decode b_F_raiseBorder 33 = .ok (.getfield 19, 3) := by decide +kernel
theorem d_F_raiseBorder_36 : decode b_F_raiseBorder 36 = .ok (.getfield 59, 3) := by decide +kernel
theorem d_F_raiseBorder_39 : decode b_F_raiseBorder 39 = .ok (.aload_n 0, 1) := by decide +kernel
theorem d_F_raiseBorder_40 : decode b_F_raiseBorder 40 = .ok (.getfield 19, 3) := by decide +kernel
theorem d_F_raiseBorder_43 : decode b_F_raiseBorder 43 = .ok (.iload_n 1, 1) := by decide +kernel
theorem d_F_raiseBorder_44 : decode b_F_raiseBorder 44 = .ok (.iconst 3, 1) := by decide +kernel
theorem d_F_raiseBorder_45 : decode b_F_raiseBorder 45 = .ok (.iload 4, 2) := by decide +kernel
theorem d_F_raiseBorder_47 : decode b_F_raiseBorder 47 = .ok (.i2l, 1) := by decide +kernel
theorem d_F_raiseBorder_48 : decode b_F_raiseBorder 48 = .ok (.lconst 1, 1) := by decide +kernel
theorem d_F_raiseBorder_49 : decode b_F_raiseBorder 49 = .ok (.ladd, 1) := by decide +kernel
theorem d_F_raiseBorder_50 : decode b_F_raiseBorder 50 = .ok (.invokevirtual 51, 3) := by decide +kernel
theorem d_F_raiseBorder_53 : decode b_F_raiseBorder 53 = .ok (.baload, 1) := by decide +kernel
theorem d_F_raiseBorder_54 : decode b_F_raiseBorder 54 = .ok (.ifCond .eq 9, 3) := by decide +kernel
theorem d_F_raiseBorder_57 : decode b_F_raiseBorder 57 = .ok (.iinc 4 1, 3) := by decide +kernel
theorem d_F_raiseBorder_60 : decode b_F_raiseBorder 60 = .ok (.goto (-35), 3) := by decide +kernel
theorem d_F_raiseBorder_63 : decode b_F_raiseBorder 63 = .ok (.aload_n 0, 1) := by decide +kernel
theorem d_F_raiseBorder_64 : decode b_F_raiseBorder 64 = .ok (.getfield 10, 3) := by decide +kernel
theorem d_F_raiseBorder_67 : decode b_F_raiseBorder 67 = .ok (.getfield 67, 3) := by decide +kernel
theorem d_F_raiseBorder_70 : decode b_F_raiseBorder 70 = .ok (.iload_n 1, 1) := by decide +kernel
theorem d_F_raiseBorder_71 : decode b_F_raiseBorder 71 = .ok (.iload 4, 2) := by decide +kernel
theorem d_F_raiseBorder_73 : decode b_F_raiseBorder 73 = .ok (.iastore, 1) := by decide +kernel
theorem d_F_raiseBorder_74 : decode b_F_raiseBorder 74 = .ok (.return_, 1) := by decide +kernel
theorem d_F_remove_0 : decode b_F_remove 0 = .ok (.aload_n 0, 1) := by decide +kernel
theorem d_F_remove_1 : decode b_F_remove 1 = .ok (.iload_n 1, 1) := by decide +kernel
theorem d_F_remove_2 : decode b_F_remove 2 = .ok (.iload_n 2, 1) := by decide +kernel
theorem d_F_remove_3 : decode b_F_remove 3 = .ok (.invokevirtual 99, 3) := by decide +kernel
theorem d_F_remove_6 : decode b_F_remove 6 = .ok (.ifCond .ne 5, 3) := by decide +kernel
theorem d_F_remove_9 : decode b_F_remove 9 = .ok (.iconst (-1), 1) := by decide +kernel
theorem d_F_remove_10 : decode b_F_remove 10 = .ok (.ireturn, 1) := by decide +kernel
theorem d_F_remove_11 : decode b_F_remove 11 = .ok (.aload_n 0, 1) := by decide +kernel
theorem d_F_remove_12 : decode b_F_remove 12 = .ok (.getfield 10, 3) := by decide +kernel
theorem d_F_remove_15 : decode b_F_remove 15 = .ok (.getfield 67, 3) := by decide +kernel
theorem d_F_remove_18 : decode b_F_remove 18 = .ok (.iload_n 1, 1) := by decide +kernel
theorem d_F_remove_19 : decode b_F_remove 19 = .ok (.iaload, 1) := by decide +kernel
theorem d_F_remove_20 : decode b_F_remove 20 = .ok (.istore_n 3, 1) := by decide +kernel
theorem d_F_remove_21 : decode b_F_remove 21 = .ok (.iload_n 2, 1) := by decide +kernel
theorem d_F_remove_22 : decode b_F_remove 22 = .ok (.iload_n 3, 1) := by decide +kernel
theorem d_F_remove_23 : decode b_F_remove 23 = .ok (.if_icmp .gt 21, 3) := by decide +kernel
theorem d_F_remove_26 : decode b_F_remove 26 = .ok (.aload_n 0, 1) := by decide +kernel
theorem d_F_remove_27 : decode b_F_remove 27 = .ok (.iload_n 1, 1) := by decide +kernel
theorem d_F_remove_28 : decode b_F_remove 28 = .ok (.iload_n 2, 1) := by decide +kernel
theorem d_F_remove_29 : decode b_F_remove 29 = .ok (.iload_n 3, 1) := by decide +kernel
theorem d_F_remove_30 : decode b_F_remove 30 = .ok (.invokevirtual 111, 3) := by decide +kernel
theorem d_F_remove_33 : decode b_F_remove 33 = .ok (.aload_n 0, 1) := by decide +kernel
theorem d_F_remove_34 : decode b_F_remove 34 = .ok (.iload_n 1, 1) := by decide +kernel
theorem d_F_remove_35 : decode b_F_remove 35 = .ok (.iconst 3, 1) := by decide +kernel
theorem d_F_remove_36 : decode b_F_remove 36 = .ok (.iload_n 3, 1) := by decide +kernel
theorem d_F_remove_37 : decode b_F_remove 37 = .ok (.i2l, 1) := by decide +kernel
theorem d_F_remove_38 : decode b_F_remove 38 = .ok (.iconst 0, 1) := by decide +kernel
theorem d_F_remove_39 : decode b_F_remove 39 = .ok (.lconst 0, 1) := by decide +kernel
theorem d_F_remove_40 : decode b_F_remove 40 = .ok (.invokevirtual 55, 3) := by decide +kernel
theorem d_F_remove_43 : decode b_F_remove 43 = .ok (.pop, 1) := by decide +kernel
theorem d_F_remove_44 : decode b_F_remove 44 = .ok (.aload_n 0, 1) := by decide +kernel
theorem d_F_remove_45 : decode b_F_remove 45 = .ok (.getfield 10, 3) := by decide +kernel
theorem d_F_remove_48 : decode b_F_remove 48 = .ok (.getfield 67, 3) := by decide +kernel
theorem d_F_remove_51 : decode b_F_remove 51 = .ok (.iload_n 1, 1) := by decide +kernel
theorem d_F_remove_52 : decode b_F_remove 52 = .ok (.iaload, 1) := by decide +kernel
theorem d_F_remove_53 : decode b_F_remove 53 = .ok (.ireturn, 1) := by decide +kernel
theorem d_F_reverse_0 : decode b_F_reverse 0 = .ok (.aload_n 0, 1) := by decide +kernel
theorem d_F_reverse_1 : decode b_F_reverse 1 = .ok (.getfield 10, 3) := by decide +kernel
theorem d_F_reverse_4 : decode b_F_reverse 4 = .ok (.iload_n 1, 1) := by decide +kernel
theorem d_F_reverse_5 : decode b_F_reverse 5 = .ok (.invokevirtual 38, 3) := by decide +kernel
theorem d_F_reverse_8 : decode b_F_reverse 8 = .ok (.ifCond .ne 5, 3) := by decide +kernel
theorem d_F_reverse_11 : decode b_F_reverse 11 = .ok (.iconst (-1), 1) := by decide +kernel
theorem d_F_reverse_12 : decode b_F_reverse 12 = .ok (.ireturn, 1) := by decide +kernel
theorem d_F_reverse_13 : decode b_F_reverse 13 = .ok (.aload_n 0, 1) := by decide +kernel
theorem d_F_reverse_14 : decode b_F_reverse 14 = .ok (.getfield 10, 3) := by decide +kernel
theorem d_F_reverse_17 : decode b_F_reverse 17 = .ok (.getfield 67, 3) := by decide +kernel
theorem d_F_reverse_20 : decode b_F_reverse 20 = .ok (.iload_n 1, 1) := by decide +kernel
theorem d_F_reverse_21 : decode b_F_reverse 21 = .ok (.iaload, 1) := by decide +kernel
theorem d_F_reverse_22 : decode b_F_reverse 22 = .ok (.istore_n 2, 1) := by decide +kernel
theorem d_F_reverse_23 : decode b_F_reverse 23 = .ok (.iload_n 2, 1) := by decide +kernel
theorem d_F_reverse_24 : decode b_F_reverse 24 = .ok (.istore_n 3, 1) := by decide +kernel
theorem d_F_reverse_25 : decode b_F_reverse 25 = .ok (.iconst 1, 1) := by decide +kernel
theorem d_F_reverse_26 : decode b_F_reverse 26 = .ok (.istore 4, 2) := by decide +kernel
theorem d_F_reverse_28 : decode b_F_reverse 28 = .ok (.iload 4, 2) := by decide +kernel
theorem d_F_reverse_30 : decode b_F_reverse 30 = .ok (.iload_n 3, 1) := by decide +kernel
theorem d_F_reverse_31 : decode b_F_reverse 31 = .ok (.if_icmp .ge 34, 3) := by decide +kernel
theorem d_F_reverse_34 : decode b_F_reverse 34 = .ok (.aload_n 0, 1) := by decide +kernel
theorem d_F_reverse_35 : decode b_F_reverse 35 = .ok (.getfield 19, 3) := by decide +kernel
theorem d_F_reverse_38 : decode b_F_reverse 38 = .ok (.aload_n 0, 1) := by decide +kernel
theorem d_F_reverse_39 : decode b_F_reverse 39 = .ok (.iload_n 1, 1) := by decide +kernel
theorem d_F_reverse_40 : decode b_F_reverse 40 = .ok (.iload 4, 2) := by decide +kernel
theorem d_F_reverse_42 : decode b_F_reverse 42 = .ok (.i2l, 1) := by decide +kernel
theorem d_F_reverse_43 : decode b_F_reverse 43 = .ok (.invokevirtual 103, 3) := by decide +kernel
theorem d_F_reverse_46 : decode b_F_reverse 46 = .ok (.aload_n 0, 1) := by decide +kernel
theorem d_F_reverse_47 : decode b_F_reverse 47 = .ok (.iload_n 1, 1) := by decide +kernel
theorem d_F_reverse_48 : decode b_F_reverse 48 = .ok (.iload_n 3, 1) := by decide +kernel
theorem d_F_reverse_49 : decode b_F_reverse 49 = .ok (.i2l, 1) := by decide +kernel
theorem d_F_reverse_50 : decode b_F_reverse 50 = .ok (.invokevirtual 103, 3) := by decide +kernel
theorem d_F_reverse_53 : decode b_F_reverse 53 = .ok (.invokevirtual 114, 3) := by decide +kernel
theorem d_F_reverse_56 : decode b_F_reverse 56 = .ok (.iinc 3 (-1), 3) := by decide +kernel
theorem d_F_reverse_59 : decode b_F_reverse 59 = .ok (.iinc 4 1, 3) := by decide +kernel
theorem d_F_reverse_62 : decode b_F_reverse 62 = .ok (.goto (-34), 3) := by decide +kernel
theorem d_F_reverse_65 : decode b_F_reverse 65 = .ok (.iload_n 2, 1) := by decide +kernel
theorem d_F_reverse_66 : decode b_F_reverse 66 = .ok (.ireturn, 1) := by decide +kernel
theorem d_F_same_0 : decode b_F_same 0 = .ok (.aload_n 0, 1) := by decide +kernel
theorem d_F_same_1 : decode b_F_same 1 = .ok (.getfield 10, 3) := by decide +kernel
theorem d_F_same_4 : decode b_F_same 4 = .ok (.iload_n 1, 1) := by decide +kernel
theorem d_F_same_5 : decode b_F_same 5 = .ok (.invokevirtual 38, 3) := by decide +kernel
theorem d_F_same_8 : decode b_F_same 8 = .ok (.ifCond .eq 14, 3) := by decide +kernel
theorem d_F_same_11 : decode b_F_same 11 = .ok (.aload_n 0, 1) := by decide +kernel
theorem d_F_same_12 : decode b_F_same 12 = .ok (.getfield 10, 3) := by decide +kernel
theorem d_F_same_15 : decode b_F_same 15 = .ok (.iload_n 2, 1) := by decide +kernel
theorem d_F_same_16 : decode b_F_same 16 = .ok (.invokevirtual 38, 3) := by decide +kernel
theorem d_F_same_19 : decode b_F_same 19 = .ok (.ifCond .ne 5, 3) := by decide +kernel
theorem d_F_same_22 : decode b_F_same 22 = .ok (.iconst (-1), 1) := by decide +kernel
theorem d_F_same_23 : decode b_F_same 23 = .ok (.ireturn, 1) := by decide +kernel
theorem d_F_same_24 : decode b_F_same 24 = .ok (.aload_n 0, 1) := by decide +kernel
theorem d_F_same_25 : decode b_F_same 25 = .ok (.getfield 10, 3) := by decide +kernel
theorem d_F_same_28 : decode b_F_same 28 = .ok (.getfield 74, 3) := by decide +kernel
theorem d_F_same_31 : decode b_F_same 31 = .ok (.iload_n 1, 1) := by decide +kernel
theorem d_F_same_32 : decode b_F_same 32 = .ok (.iaload, 1) := by decide +kernel
theorem d_F_same_33 : decode b_F_same 33 = .ok (.aload_n 0, 1) := by decide +kernel
theorem d_F_same_34 : decode b_F_same 34 = .ok (.getfield 10, 3) := by decide +kernel
theorem d_F_same_37 : decode b_F_same 37 = .ok (.getfield 74, 3) := by decide +kernel
theorem d_F_same_40 : decode b_F_same 40 = .ok (.iload_n 2, 1) := by decide +kernel
theorem d_F_same_41 : decode b_F_same 41 = .ok (.iaload, 1) := by decide +kernel
theorem d_F_same_42 : decode b_F_same 42 = .ok (.if_icmp .ne 16, 3) := by decide +kernel
theorem d_F_same_45 : decode b_F_same 45 = .ok (.aload_n 0, 1) := by decide +kernel
theorem d_F_same_46 : decode b_F_same 46 = .ok (.iload_n 2, 1) := by decide +kernel
theorem d_F_same_47 : decode b_F_same 47 = .ok (.iload_n 1, 1) := by decide +kernel
theorem d_F_same_48 : decode b_F_same 48 = .ok (.invokevirtual 118, 3) := by decide +kernel
theorem d_F_same_51 : decode b_F_same 51 = .ok (.ifCond .eq 7, 3) := by decide +kernel
theorem d_F_same_54 : decode b_F_same 54 = .ok (.iconst 1, 1) := by decide +kernel
theorem d_F_same_55 : decode b_F_same 55 = .ok (.goto 4, 3) := by decide +kernel
theorem d_F_same_58 : decode b_F_same 58 = .ok (.iconst 0, 1) := by decide +kernel
theorem d_F_same_59 : decode b_F_same 59 = .ok (.istore_n 3, 1) := by decide +kernel
theorem d_F_same_60 : decode b_F_same 60 = .ok (.iload_n 3, 1) := by decide +kernel
theorem d_F_same_61 : decode b_F_same 61 = .ok (.ifCond .eq 7, 3) := by decide +kernel
theorem d_F_same_64 : decode b_F_same 64 = .ok (.iconst 1, 1) := by decide +kernel
theorem d_F_same_65 : decode b_F_same 65 = .ok (.goto 4, 3) := by decide +kernel
theorem d_F_same_68 : decode b_F_same 68 = .ok (.iconst 0, 1) := by decide +kernel
theorem d_F_same_69 : decode b_F_same 69 = .ok (.ireturn, 1) := by decide +kernel
theorem d_F_setCursor_0 : decode b_F_setCursor 0 = .ok (.iload_n 1, 1) := by decide +kernel
theorem d_F_setCursor_1 : decode b_F_setCursor 1 = .ok (.ifCond .ne 15, 3) := by decide +kernel
theorem d_F_setCursor_4 : decode b_F_setCursor 4 = .ok (.aload_n 0, 1) := by decide +kernel
theorem d_F_setCursor_5 : decode b_F_setCursor 5 = .ok (.iconst 0, 1) := by decide +kernel
theorem d_F_setCursor_6 : decode b_F_setCursor 6 = .ok (.putfield 23, 3) := by decide +kernel
theorem d_F_setCursor_9 : decode b_F_setCursor 9 = .ok (.aload_n 0, 1) := by decide +kernel
theorem d_F_setCursor_10 : decode b_F_setCursor 10 = .ok (.lconst 0, 1) := by decide +kernel
theorem d_F_setCursor_11 : decode b_F_setCursor 11 = .ok (.putfield 27, 3) := by decide +kernel
theorem d_F_setCursor_14 : decode b_F_setCursor 14 = .ok (.iconst 0, 1) := by decide +kernel
theorem d_F_setCursor_15 : decode b_F_setCursor 15 = .ok (.ireturn, 1) := by decide +kernel
theorem d_F_setCursor_16 : decode b_F_setCursor 16 = .ok (.aload_n 0, 1) := by decide +kernel
theorem d_F_setCursor_17 : decode b_F_setCursor 17 = .ok (.aload_n 0, 1) := by decide +kernel
theorem d_F_setCursor_18 : decode b_F_setCursor 18 = .ok (.getfield 19, 3) := by decide +kernel
theorem d_F_setCursor_21 : decode b_F_setCursor 21 = .ok (.iload_n 1, 1) := by decide +kernel
theorem d_F_setCursor_22 : decode b_F_setCursor 22 = .ok (.invokevirtual 124, 3) := by decide +kernel
theorem d_F_setCursor_25 : decode b_F_setCursor 25 = .ok (.putfield 23, 3) := by decide +kernel
theorem d_F_setCursor_28 : decode b_F_setCursor 28 = .ok (.aload_n 0, 1) := by decide +kernel
theorem d_F_setCursor_29 : decode b_F_setCursor 29 = .ok (.aload_n 0, 1) := by decide +kernel
theorem d_F_setCursor_30 : decode b_F_setCursor 30 = .ok (.getfield 19, 3) := by decide +kernel
theorem d_F_setCursor_33 : decode b_F_setCursor 33 = .ok (.getfield 127, 3) := by decide +kernel
theorem d_F_setCursor_36 : decode b_F_setCursor 36 = .ok (.iload_n 1, 1) := by decide +kernel
theorem d_F_setCursor_37 : decode b_F_setCursor 37 = .ok (.laload, 1) := by decide +kernel
theorem d_F_setCursor_38 : decode b_F_setCursor 38 = .ok (.putfield 27, 3) := by decide +kernel
theorem d_F_setCursor_41 : decode b_F_setCursor 41 = .ok (.iconst 1, 1) := by decide +kernel
theorem d_F_setCursor_42 : decode b_F_setCursor 42 = .ok (.ireturn, 1) := by decide +kernel
theorem d_F_twin_0 : decode b_F_twin 0 = .ok (.aload_n 0, 1) := by decide +kernel
theorem d_F_twin_1 : decode b_F_twin 1 = .ok (.getfield 19, 3) := by decide +kernel
theorem d_F_twin_4 : decode b_F_twin 4 = .ok (.iload_n 1, 1) := by decide +kernel
theorem d_F_twin_5 : decode b_F_twin 5 = .ok (.aload_n 0, 1) := by decide +kernel
theorem d_F_twin_6 : decode b_F_twin 6 = .ok (.getfield 19, 3) := by decide +kernel
theorem d_F_twin_9 : decode b_F_twin 9 = .ok (.iload_n 2, 1) := by decide +kernel
theorem d_F_twin_10 : decode b_F_twin 10 = .ok (.invokevirtual 124, 3) := by decide +kernel
theorem d_F_twin_13 : decode b_F_twin 13 = .ok (.aload_n 0, 1) := by decide +kernel
theorem d_F_twin_14 : decode b_F_twin 14 = .ok (.getfield 19, 3) := by decide +kernel
theorem d_F_twin_17 : decode b_F_twin 17 = .ok (.getfield 127, 3) := by decide +kernel
theorem d_F_twin_20 : decode b_F_twin 20 = .ok (.iload_n 2, 1) := by decide +kernel
theorem d_F_twin_21 : decode b_F_twin 21 = .ok (.laload, 1) := by decide +kernel
theorem d_F_twin_22 : decode b_F_twin 22 = .ok (.invokevirtual 51, 3) := by decide +kernel
theorem d_F_twin_25 : decode b_F_twin 25 = .ok (.ireturn, 1) := by decide +kernel
theorem d_F_whole_0 : decode b_F_whole 0 = .ok (.aload_n 0, 1) := by decide +kernel
theorem d_F_whole_1 : decode b_F_whole 1 = .ok (.getfield 19, 3) := by decide +kernel
theorem d_F_whole_4 : decode b_F_whole 4 = .ok (.iload_n 1, 1) := by decide +kernel
theorem d_F_whole_5 : decode b_F_whole 5 = .ok (.iconst 3, 1) := by decide +kernel
theorem d_F_whole_6 : decode b_F_whole 6 = .ok (.lload_n 2, 1) := by decide +kernel
theorem d_F_whole_7 : decode b_F_whole 7 = .ok (.invokevirtual 51, 3) := by decide +kernel
theorem d_F_whole_10 : decode b_F_whole 10 = .ok (.ireturn, 1) := by decide +kernel
