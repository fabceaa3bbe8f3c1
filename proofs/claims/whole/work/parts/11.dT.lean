theorem d_T_forget_0 : decode b_T_forget 0 = .ok (.aload_n 0, 1) := by decide +kernel
theorem d_T_forget_1 : decode b_T_forget 1 = .ok (.iconst 0, 1) := by decide +kernel
theorem d_T_forget_2 : decode b_T_forget 2 = .ok (.putfield 9, 3) := by decide +kernel
theorem d_T_forget_5 : decode b_T_forget 5 = .ok (.return_, 1) := by decide +kernel
theorem d_T_grow_0 : decode b_T_grow 0 = .ok (.aload_n 0, 1) := by decide +kernel
theorem d_T_grow_1 : decode b_T_grow 1 = .ok (.getfield 15, 3) := by decide +kernel
theorem d_T_grow_4 : decode b_T_grow 4 = .ok (.arraylength, 1) := by decide +kernel
theorem d_T_grow_5 : decode b_T_grow 5 = .ok (.iconst 2, 1) := by decide +kernel
theorem d_T_grow_6 : decode b_T_grow 6 = .ok (.imul, 1) := by decide +kernel
theorem d_T_grow_7 : decode b_T_grow 7 = .ok (.sipush 30001, 3) := by decide +kernel
theorem d_T_grow_10 : decode b_T_grow 10 = .ok (.invokestatic 34, 3) := by decide +kernel
theorem d_T_grow_13 : decode b_T_grow 13 = .ok (.istore_n 1, 1) := by decide +kernel
theorem d_T_grow_14 : decode b_T_grow 14 = .ok (.aload_n 0, 1) := by decide +kernel
theorem d_T_grow_15 : decode b_T_grow 15 = .ok (.aload_n 0, 1) := by decide +kernel
theorem d_T_grow_16 : decode b_T_grow 16 = .ok (.getfield 15, 3) := by decide +kernel
theorem d_T_grow_19 : decode b_T_grow 19 = .ok (.iload_n 1, 1) := by decide +kernel
theorem d_T_grow_20 : decode b_T_grow 20 = .ok (.invokestatic 40, 3) := by decide +kernel
theorem d_T_grow_23 : decode b_T_grow 23 = .ok (.putfield 15, 3) := by decide +kernel
theorem d_T_grow_26 : decode b_T_grow 26 = .ok (.aload_n 0, 1) := by decide +kernel
theorem d_T_grow_27 : decode b_T_grow 27 = .ok (.aload_n 0, 1) := by decide +kernel
theorem d_T_grow_28 : decode b_T_grow 28 = .ok (.getfield 19, 3) := by decide +kernel
theorem d_T_grow_31 : decode b_T_grow 31 = .ok (.iload_n 1, 1) := by decide +kernel
theorem d_T_grow_32 : decode b_T_grow 32 = .ok (.invokestatic 40, 3) := by decide +kernel
theorem d_T_grow_35 : decode b_T_grow 35 = .ok (.putfield 19, 3) := by decide +kernel
theorem d_T_grow_38 : decode b_T_grow 38 = .ok (.aload_n 0, 1) := by decide +kernel
theorem d_T_grow_39 : decode b_T_grow 39 = .ok (.aload_n 0, 1) := by decide +kernel
theorem d_T_grow_40 : decode b_T_grow 40 = .ok (.getfield 22, 3) := by decide +kernel
theorem d_T_grow_43 : decode b_T_grow 43 = .ok (.iload_n 1, 1) := by decide +kernel
theorem d_T_grow_44 : decode b_T_grow 44 = .ok (.invokestatic 40, 3) := by decide +kernel
theorem d_T_grow_47 : decode b_T_grow 47 = .ok (.putfield 22, 3) := by decide +kernel
theorem d_T_grow_50 : decode b_T_grow 50 = .ok (.aload_n 0, 1) := by decide +kernel
theorem d_T_grow_51 : decode b_T_grow 51 = .ok (.aload_n 0, 1) := by decide +kernel
theorem d_T_grow_52 : decode b_T_grow 52 = .ok (.getfield 25, 3) := by decide +kernel
theorem d_T_grow_55 : decode b_T_grow 55 = .ok (.iload_n 1, 1) := by decide +kernel
theorem d_T_grow_56 : decode b_T_grow 56 = .ok (.invokestatic 40, 3) := by decide +kernel
theorem d_T_grow_59 : decode b_T_grow 59 = .ok (.putfield 25, 3) := by decide +kernel
theorem d_T_grow_62 : decode b_T_grow 62 = .ok (.aload_n 0, 1) := by decide +kernel
theorem d_T_grow_63 : decode b_T_grow 63 = .ok (.aload_n 0, 1) := by decide +kernel
theorem d_T_grow_64 : decode b_T_grow 64 = .ok (.getfield 28, 3) := by decide +kernel
theorem d_T_grow_67 : decode b_T_grow 67 = .ok (.iload_n 1, 1) := by decide +kernel
theorem d_T_grow_68 : decode b_T_grow 68 = .ok (.invokestatic 40, 3) := by decide +kernel
theorem d_T_grow_71 : decode b_T_grow 71 = .ok (.putfield 28, 3) := by decide +kernel
theorem d_T_grow_74 : decode b_T_grow 74 = .ok (.return_, 1) := by decide +kernel
theorem d_T_has_0 : decode b_T_has 0 = .ok (.iload_n 1, 1) := by decide +kernel
theorem d_T_has_1 : decode b_T_has 1 = .ok (.iconst 1, 1) := by decide +kernel
theorem d_T_has_2 : decode b_T_has 2 = .ok (.if_icmp .lt 15, 3) := by decide +kernel
theorem d_T_has_5 : decode b_T_has 5 = .ok (.iload_n 1, 1) := by decide +kernel
theorem d_T_has_6 : decode b_T_has 6 = .ok (.aload_n 0, 1) := by decide +kernel
theorem d_T_has_7 : decode b_T_has 7 = .ok (.getfield 9, 3) := by decide +kernel
theorem d_T_has_10 : decode b_T_has 10 = .ok (.if_icmp .gt 7, 3) := by decide +kernel
theorem d_T_has_13 : decode b_T_has 13 = .ok (.iconst 1, 1) := by decide +kernel
theorem d_T_has_14 : decode b_T_has 14 = .ok (.goto 4, 3) := by decide +kernel
theorem d_T_has_17 : decode b_T_has 17 = .ok (.iconst 0, 1) := by decide +kernel
theorem d_T_has_18 : decode b_T_has 18 = .ok (.ireturn, 1) := by decide +kernel
theorem d_T_init_0 : decode b_T_init 0 = .ok (.aload_n 0, 1) := by decide +kernel
theorem d_T_init_1 : decode b_T_init 1 = .ok (.invokespecial 3, 3) := by decide +kernel
theorem d_T_init_4 : decode b_T_init 4 = .ok (.aload_n 0, 1) := by decide +kernel
theorem d_T_init_5 : decode b_T_init 5 = .ok (.iconst 0, 1) := by decide +kernel
theorem d_T_init_6 : decode b_T_init 6 = .ok (.putfield 9, 3) := by decide +kernel
theorem d_T_init_9 : decode b_T_init 9 = .ok (.aload_n 0, 1) := by decide +kernel
theorem d_T_init_10 : decode b_T_init 10 = .ok (.bipush 16, 2) := by decide +kernel
theorem d_T_init_12 : decode b_T_init 12 = .ok (.newarray .int, 2) := by decide +kernel
theorem d_T_init_14 : decode b_T_init 14 = .ok (.putfield 15, 3) := by decide +kernel
theorem d_T_init_17 : decode b_T_init 17 = .ok (.aload_n 0, 1) := by decide +kernel
theorem d_T_init_18 : decode b_T_init 18 = .ok (.bipush 16, 2) := by decide +kernel
theorem d_T_init_20 : decode b_T_init 20 = .ok (.newarray .int, 2) := by decide +kernel
theorem d_T_init_22 : decode b_T_init 22 = .ok (.putfield 19, 3) := by decide +kernel
theorem d_T_init_25 : decode b_T_init 25 = .ok (.aload_n 0, 1) := by decide +kernel
theorem d_T_init_26 : decode b_T_init 26 = .ok (.bipush 16, 2) := by decide +kernel
theorem d_T_init_28 : decode b_T_init 28 = .ok (.newarray .int, 2) := by decide +kernel
theorem d_T_init_30 : decode b_T_init 30 = .ok (.putfield 22, 3) := by decide +kernel
theorem d_T_init_33 : decode b_T_init 33 = .ok (.aload_n 0, 1) := by decide +kernel
theorem d_T_init_34 : decode b_T_init 34 = .ok (.bipush 16, 2) := by decide +kernel
theorem d_T_init_36 : decode b_T_init 36 = .ok (.newarray .int, 2) := by decide +kernel
theorem d_T_init_38 : decode b_T_init 38 = .ok (.putfield 25, 3) := by decide +kernel
theorem d_T_init_41 : decode b_T_init 41 = .ok (.aload_n 0, 1) := by decide +kernel
theorem d_T_init_42 : decode b_T_init 42 = .ok (.bipush 16, 2) := by decide +kernel
theorem d_T_init_44 : decode b_T_init 44 = .ok (.newarray .int, 2) := by decide +kernel
theorem d_T_init_46 : decode b_T_init 46 = .ok (.putfield 28, 3) := by decide +kernel
theorem d_T_init_49 : decode b_T_init 49 = .ok (.return_, 1) := by decide +kernel
theorem d_T_open_0 : decode b_T_open 0 = .ok (.aload_n 0, 1) := by decide +kernel
theorem d_T_open_1 : decode b_T_open 1 = .ok (.getfield 9, 3) := by decide +kernel
theorem d_T_open_4 : decode b_T_open 4 = .ok (.iconst 1, 1) := by decide +kernel
theorem d_T_open_5 : decode b_T_open 5 = .ok (.iadd, 1) := by decide +kernel
theorem d_T_open_6 : decode b_T_open 6 = .ok (.aload_n 0, 1) := by decide +kernel
theorem d_T_open_7 : decode b_T_open 7 = .ok (.getfield 15, 3) := by decide +kernel
theorem d_T_open_10 : decode b_T_open 10 = .ok (.arraylength, 1) := by decide +kernel
theorem d_T_open_11 : decode b_T_open 11 = .ok (.if_icmp .lt 7, 3) := by decide +kernel
theorem d_T_open_14 : decode b_T_open 14 = .ok (.aload_n 0, 1) := by decide +kernel
theorem d_T_open_15 : decode b_T_open 15 = .ok (.invokevirtual 31, 3) := by decide +kernel
theorem d_T_open_18 : decode b_T_open 18 = .ok (.aload_n 0, 1) := by decide +kernel
theorem d_T_open_19 : decode b_T_open 19 = .ok (.dup, 1) := by decide +kernel
theorem d_T_open_20 : decode b_T_open 20 = .ok (.getfield 9, 3) := by decide +kernel
theorem d_T_open_23 : decode b_T_open 23 = .ok (.iconst 1, 1) := by decide +kernel
theorem d_T_open_24 : decode b_T_open 24 = .ok (.iadd, 1) := by decide +kernel
theorem d_T_open_25 : decode b_T_open 25 = .ok (.putfield 9, 3) := by decide +kernel
theorem d_T_open_28 : decode b_T_open 28 = .ok (.aload_n 0, 1) := by decide +kernel
theorem d_T_open_29 : decode b_T_open 29 = .ok (.getfield 15, 3) := by decide +kernel
theorem d_T_open_32 : decode b_T_open 32 = .ok (.aload_n 0, 1) := by decide +kernel
theorem d_T_open_33 : decode b_T_open 33 = .ok (.getfield 9, 3) := by decide +kernel
theorem d_T_open_36 : decode b_T_open 36 = .ok (.iconst 0, 1) := by decide +kernel
theorem d_T_open_37 : decode b_T_open 37 = .ok (.iastore, 1) := by decide +kernel
theorem d_T_open_38 : decode b_T_open 38 = .ok (.aload_n 0, 1) := by decide +kernel
theorem d_T_open_39 : decode b_T_open 39 = .ok (.getfield 19, 3) := by decide +kernel
theorem d_T_open_42 : decode b_T_open 42 = .ok (.aload_n 0, 1) := by decide +kernel
theorem d_T_open_43 : decode b_T_open 43 = .ok (.getfield 9, 3) := by decide +kernel
theorem d_T_open_46 : decode b_T_open 46 = .ok (.iconst 0, 1) := by decide +kernel
theorem d_T_open_47 : decode b_T_open 47 = .ok (.iastore, 1) := by decide +kernel
theorem d_T_open_48 : decode b_T_open 48 = .ok (.aload_n 0, 1) := by decide +kernel
theorem d_T_open_49 : decode b_T_open 49 = .ok (.getfield 22, 3) := by decide +kernel
theorem d_T_open_52 : decode b_T_open 52 = .ok (.aload_n 0, 1) := by decide +kernel
theorem d_T_open_53 : decode b_T_open 53 = .ok (.getfield 9, 3) := by decide +kernel
theorem d_T_open_56 : decode b_T_open 56 = .ok (.iconst 0, 1) := by decide +kernel
theorem d_T_open_57 : decode b_T_open 57 = .ok (.iastore, 1) := by decide +kernel
theorem d_T_open_58 : decode b_T_open 58 = .ok (.aload_n 0, 1) := by decide +kernel
theorem d_T_open_59 : decode b_T_open 59 = .ok (.getfield 25, 3) := by decide +kernel
theorem d_T_open_62 : decode b_T_open 62 = .ok (.aload_n 0, 1) := by decide +kernel
theorem d_T_open_63 : decode b_T_open 63 = .ok (.getfield 9, 3) := by decide +kernel
theorem d_T_open_66 : decode b_T_open 66 = .ok (.iconst 0, 1) := by decide +kernel
theorem d_T_open_67 : decode b_T_open 67 = .ok (.iastore, 1) := by decide +kernel
theorem d_T_open_68 : decode b_T_open 68 = .ok (.aload_n 0, 1) := by decide +kernel
theorem d_T_open_69 : decode b_T_open 69 = .ok (.getfield 28, 3) := by decide +kernel
theorem d_T_open_72 : decode b_T_open 72 = .ok (.aload_n 0, 1) := by decide +kernel
theorem d_T_open_73 : decode b_T_open 73 = .ok (.getfield 9, 3) := by decide +kernel
theorem d_T_open_76 : decode b_T_open 76 = .ok (.iconst 0, 1) := by decide +kernel
theorem d_T_open_77 : decode b_T_open 77 = .ok (.iastore, 1) := by decide +kernel
theorem d_T_open_78 : decode b_T_open 78 = .ok (.aload_n 0, 1) := by decide +kernel
theorem d_T_open_79 : decode b_T_open 79 = .ok (.getfield 9, 3) := by decide +kernel
theorem d_T_open_82 : decode b_T_open 82 = .ok (.ireturn, 1) := by decide +kernel
