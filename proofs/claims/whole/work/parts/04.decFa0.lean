theorem d_Fa_init_0 : decode b_Fa_init 0 = .ok (.aload_n 0, 1) := by decide +kernel
theorem d_Fa_init_1 : decode b_Fa_init 1 = .ok (.invokespecial 3, 3) := by decide +kernel
theorem d_Fa_init_4 : decode b_Fa_init 4 = .ok (.aload_n 0, 1) := by decide +kernel
theorem d_Fa_init_5 : decode b_Fa_init 5 = .ok (.sipush (3600), 3) := by decide +kernel
theorem d_Fa_init_8 : decode b_Fa_init 8 = .ok (.newarray .int, 2) := by decide +kernel
theorem d_Fa_init_10 : decode b_Fa_init 10 = .ok (.putfield 9, 3) := by decide +kernel
theorem d_Fa_init_13 : decode b_Fa_init 13 = .ok (.aload_n 0, 1) := by decide +kernel
theorem d_Fa_init_14 : decode b_Fa_init 14 = .ok (.sipush (300), 3) := by decide +kernel
theorem d_Fa_init_17 : decode b_Fa_init 17 = .ok (.newarray .int, 2) := by decide +kernel
theorem d_Fa_init_19 : decode b_Fa_init 19 = .ok (.putfield 15, 3) := by decide +kernel
theorem d_Fa_init_22 : decode b_Fa_init 22 = .ok (.aload_n 0, 1) := by decide +kernel
theorem d_Fa_init_23 : decode b_Fa_init 23 = .ok (.bipush (10), 2) := by decide +kernel
theorem d_Fa_init_25 : decode b_Fa_init 25 = .ok (.newarray .int, 2) := by decide +kernel
theorem d_Fa_init_27 : decode b_Fa_init 27 = .ok (.putfield 18, 3) := by decide +kernel
theorem d_Fa_init_30 : decode b_Fa_init 30 = .ok (.return_, 1) := by decide +kernel
theorem d_Fa_begin_0 : decode b_Fa_begin 0 = .ok (.aload_n 0, 1) := by decide +kernel
theorem d_Fa_begin_1 : decode b_Fa_begin 1 = .ok (.iconst 0, 1) := by decide +kernel
theorem d_Fa_begin_2 : decode b_Fa_begin 2 = .ok (.putfield 21, 3) := by decide +kernel
theorem d_Fa_begin_5 : decode b_Fa_begin 5 = .ok (.aload_n 0, 1) := by decide +kernel
theorem d_Fa_begin_6 : decode b_Fa_begin 6 = .ok (.getfield 15, 3) := by decide +kernel
theorem d_Fa_begin_9 : decode b_Fa_begin 9 = .ok (.iconst 0, 1) := by decide +kernel
theorem d_Fa_begin_10 : decode b_Fa_begin 10 = .ok (.iconst 0, 1) := by decide +kernel
theorem d_Fa_begin_11 : decode b_Fa_begin 11 = .ok (.iastore, 1) := by decide +kernel
theorem d_Fa_begin_12 : decode b_Fa_begin 12 = .ok (.iconst 0, 1) := by decide +kernel
theorem d_Fa_begin_13 : decode b_Fa_begin 13 = .ok (.istore_n 2, 1) := by decide +kernel
theorem d_Fa_begin_14 : decode b_Fa_begin 14 = .ok (.iconst 0, 1) := by decide +kernel
theorem d_Fa_begin_15 : decode b_Fa_begin 15 = .ok (.istore_n 3, 1) := by decide +kernel
theorem d_Fa_begin_16 : decode b_Fa_begin 16 = .ok (.iload_n 3, 1) := by decide +kernel
theorem d_Fa_begin_17 : decode b_Fa_begin 17 = .ok (.aload_n 1, 1) := by decide +kernel
theorem d_Fa_begin_18 : decode b_Fa_begin 18 = .ok (.getfield 25, 3) := by decide +kernel
theorem d_Fa_begin_21 : decode b_Fa_begin 21 = .ok (.if_icmp .ge (19), 3) := by decide +kernel
theorem d_Fa_begin_24 : decode b_Fa_begin 24 = .ok (.iload_n 2, 1) := by decide +kernel
theorem d_Fa_begin_25 : decode b_Fa_begin 25 = .ok (.iconst 1, 1) := by decide +kernel
theorem d_Fa_begin_26 : decode b_Fa_begin 26 = .ok (.aload_n 1, 1) := by decide +kernel
theorem d_Fa_begin_27 : decode b_Fa_begin 27 = .ok (.iload_n 3, 1) := by decide +kernel
theorem d_Fa_begin_28 : decode b_Fa_begin 28 = .ok (.invokevirtual 30, 3) := by decide +kernel
theorem d_Fa_begin_31 : decode b_Fa_begin 31 = .ok (.ishl, 1) := by decide +kernel
theorem d_Fa_begin_32 : decode b_Fa_begin 32 = .ok (.ior, 1) := by decide +kernel
theorem d_Fa_begin_33 : decode b_Fa_begin 33 = .ok (.istore_n 2, 1) := by decide +kernel
theorem d_Fa_begin_34 : decode b_Fa_begin 34 = .ok (.iinc 3 (1), 3) := by decide +kernel
theorem d_Fa_begin_37 : decode b_Fa_begin 37 = .ok (.goto (-21), 3) := by decide +kernel
theorem d_Fa_begin_40 : decode b_Fa_begin 40 = .ok (.aload_n 0, 1) := by decide +kernel
theorem d_Fa_begin_41 : decode b_Fa_begin 41 = .ok (.iload_n 2, 1) := by decide +kernel
theorem d_Fa_begin_42 : decode b_Fa_begin 42 = .ok (.invokevirtual 34, 3) := by decide +kernel
theorem d_Fa_begin_45 : decode b_Fa_begin 45 = .ok (.return_, 1) := by decide +kernel
theorem d_Fa_keepOpenOne_0 : decode b_Fa_keepOpenOne 0 = .ok (.aload_n 0, 1) := by decide +kernel
theorem d_Fa_keepOpenOne_1 : decode b_Fa_keepOpenOne 1 = .ok (.dup, 1) := by decide +kernel
theorem d_Fa_keepOpenOne_2 : decode b_Fa_keepOpenOne 2 = .ok (.getfield 21, 3) := by decide +kernel
theorem d_Fa_keepOpenOne_5 : decode b_Fa_keepOpenOne 5 = .ok (.iconst 1, 1) := by decide +kernel
theorem d_Fa_keepOpenOne_6 : decode b_Fa_keepOpenOne 6 = .ok (.iadd, 1) := by decide +kernel
theorem d_Fa_keepOpenOne_7 : decode b_Fa_keepOpenOne 7 = .ok (.putfield 21, 3) := by decide +kernel
theorem d_Fa_keepOpenOne_10 : decode b_Fa_keepOpenOne 10 = .ok (.return_, 1) := by decide +kernel
theorem d_Fa_follow_0 : decode b_Fa_follow 0 = .ok (.aload_n 0, 1) := by decide +kernel
theorem d_Fa_follow_1 : decode b_Fa_follow 1 = .ok (.getfield 15, 3) := by decide +kernel
theorem d_Fa_follow_4 : decode b_Fa_follow 4 = .ok (.aload_n 0, 1) := by decide +kernel
theorem d_Fa_follow_5 : decode b_Fa_follow 5 = .ok (.getfield 21, 3) := by decide +kernel
theorem d_Fa_follow_8 : decode b_Fa_follow 8 = .ok (.iconst 0, 1) := by decide +kernel
theorem d_Fa_follow_9 : decode b_Fa_follow 9 = .ok (.iastore, 1) := by decide +kernel
theorem d_Fa_follow_10 : decode b_Fa_follow 10 = .ok (.iconst 0, 1) := by decide +kernel
theorem d_Fa_follow_11 : decode b_Fa_follow 11 = .ok (.istore 4, 2) := by decide +kernel
theorem d_Fa_follow_13 : decode b_Fa_follow 13 = .ok (.iload 4, 2) := by decide +kernel
theorem d_Fa_follow_15 : decode b_Fa_follow 15 = .ok (.aload_n 0, 1) := by decide +kernel
theorem d_Fa_follow_16 : decode b_Fa_follow 16 = .ok (.getfield 15, 3) := by decide +kernel
theorem d_Fa_follow_19 : decode b_Fa_follow 19 = .ok (.iload_n 2, 1) := by decide +kernel
theorem d_Fa_follow_20 : decode b_Fa_follow 20 = .ok (.iaload, 1) := by decide +kernel
theorem d_Fa_follow_21 : decode b_Fa_follow 21 = .ok (.if_icmp .ge (27), 3) := by decide +kernel
theorem d_Fa_follow_24 : decode b_Fa_follow 24 = .ok (.aload_n 0, 1) := by decide +kernel
theorem d_Fa_follow_25 : decode b_Fa_follow 25 = .ok (.aload_n 1, 1) := by decide +kernel
theorem d_Fa_follow_26 : decode b_Fa_follow 26 = .ok (.aload_n 0, 1) := by decide +kernel
theorem d_Fa_follow_27 : decode b_Fa_follow 27 = .ok (.getfield 9, 3) := by decide +kernel
theorem d_Fa_follow_30 : decode b_Fa_follow 30 = .ok (.iload_n 2, 1) := by decide +kernel
theorem d_Fa_follow_31 : decode b_Fa_follow 31 = .ok (.bipush (12), 2) := by decide +kernel
theorem d_Fa_follow_33 : decode b_Fa_follow 33 = .ok (.imul, 1) := by decide +kernel
theorem d_Fa_follow_34 : decode b_Fa_follow 34 = .ok (.iload 4, 2) := by decide +kernel
theorem d_Fa_follow_36 : decode b_Fa_follow 36 = .ok (.iadd, 1) := by decide +kernel
theorem d_Fa_follow_37 : decode b_Fa_follow 37 = .ok (.iaload, 1) := by decide +kernel
theorem d_Fa_follow_38 : decode b_Fa_follow 38 = .ok (.iload_n 3, 1) := by decide +kernel
theorem d_Fa_follow_39 : decode b_Fa_follow 39 = .ok (.invokevirtual 38, 3) := by decide +kernel
theorem d_Fa_follow_42 : decode b_Fa_follow 42 = .ok (.iinc 4 (1), 3) := by decide +kernel
theorem d_Fa_follow_45 : decode b_Fa_follow 45 = .ok (.goto (-32), 3) := by decide +kernel
theorem d_Fa_follow_48 : decode b_Fa_follow 48 = .ok (.return_, 1) := by decide +kernel
theorem d_Fa_putParted_0 : decode b_Fa_putParted 0 = .ok (.aload_n 0, 1) := by decide +kernel
theorem d_Fa_putParted_1 : decode b_Fa_putParted 1 = .ok (.getfield 18, 3) := by decide +kernel
theorem d_Fa_putParted_4 : decode b_Fa_putParted 4 = .ok (.iconst 0, 1) := by decide +kernel
theorem d_Fa_putParted_5 : decode b_Fa_putParted 5 = .ok (.invokestatic 42, 3) := by decide +kernel
theorem d_Fa_putParted_8 : decode b_Fa_putParted 8 = .ok (.iconst 0, 1) := by decide +kernel
theorem d_Fa_putParted_9 : decode b_Fa_putParted 9 = .ok (.istore 4, 2) := by decide +kernel
theorem d_Fa_putParted_11 : decode b_Fa_putParted 11 = .ok (.iload 4, 2) := by decide +kernel
theorem d_Fa_putParted_13 : decode b_Fa_putParted 13 = .ok (.aload_n 1, 1) := by decide +kernel
theorem d_Fa_putParted_14 : decode b_Fa_putParted 14 = .ok (.getfield 25, 3) := by decide +kernel
theorem d_Fa_putParted_17 : decode b_Fa_putParted 17 = .ok (.if_icmp .ge (46), 3) := by decide +kernel
theorem d_Fa_putParted_20 : decode b_Fa_putParted 20 = .ok (.iload_n 2, 1) := by decide +kernel
theorem d_Fa_putParted_21 : decode b_Fa_putParted 21 = .ok (.iload 4, 2) := by decide +kernel
theorem d_Fa_putParted_23 : decode b_Fa_putParted 23 = .ok (.ishr, 1) := by decide +kernel
theorem d_Fa_putParted_24 : decode b_Fa_putParted 24 = .ok (.iconst 1, 1) := by decide +kernel
theorem d_Fa_putParted_25 : decode b_Fa_putParted 25 = .ok (.iand, 1) := by decide +kernel
theorem d_Fa_putParted_26 : decode b_Fa_putParted 26 = .ok (.ifCond .eq (31), 3) := by decide +kernel
theorem d_Fa_putParted_29 : decode b_Fa_putParted 29 = .ok (.aload_n 0, 1) := by decide +kernel
theorem d_Fa_putParted_30 : decode b_Fa_putParted 30 = .ok (.getfield 18, 3) := by decide +kernel
theorem d_Fa_putParted_33 : decode b_Fa_putParted 33 = .ok (.aload_n 1, 1) := by decide +kernel
theorem d_Fa_putParted_34 : decode b_Fa_putParted 34 = .ok (.iload 4, 2) := by decide +kernel
theorem d_Fa_putParted_36 : decode b_Fa_putParted 36 = .ok (.iload_n 3, 1) := by decide +kernel
theorem d_Fa_putParted_37 : decode b_Fa_putParted 37 = .ok (.invokevirtual 48, 3) := by decide +kernel
theorem d_Fa_putParted_40 : decode b_Fa_putParted 40 = .ok (.dup2, 1) := by decide +kernel
theorem d_Fa_putParted_41 : decode b_Fa_putParted 41 = .ok (.iaload, 1) := by decide +kernel
theorem d_Fa_putParted_42 : decode b_Fa_putParted 42 = .ok (.iconst 1, 1) := by decide +kernel
theorem d_Fa_putParted_43 : decode b_Fa_putParted 43 = .ok (.aload_n 1, 1) := by decide +kernel
theorem d_Fa_putParted_44 : decode b_Fa_putParted 44 = .ok (.aload_n 1, 1) := by decide +kernel
theorem d_Fa_putParted_45 : decode b_Fa_putParted 45 = .ok (.iload 4, 2) := by decide +kernel
theorem d_Fa_putParted_47 : decode b_Fa_putParted 47 = .ok (.iload_n 3, 1) := by decide +kernel
theorem d_Fa_putParted_48 : decode b_Fa_putParted 48 = .ok (.invokevirtual 52, 3) := by decide +kernel
theorem d_Fa_putParted_51 : decode b_Fa_putParted 51 = .ok (.invokevirtual 30, 3) := by decide +kernel
theorem d_Fa_putParted_54 : decode b_Fa_putParted 54 = .ok (.ishl, 1) := by decide +kernel
theorem d_Fa_putParted_55 : decode b_Fa_putParted 55 = .ok (.ior, 1) := by decide +kernel
theorem d_Fa_putParted_56 : decode b_Fa_putParted 56 = .ok (.iastore, 1) := by decide +kernel
theorem d_Fa_putParted_57 : decode b_Fa_putParted 57 = .ok (.iinc 4 (1), 3) := by decide +kernel
theorem d_Fa_putParted_60 : decode b_Fa_putParted 60 = .ok (.goto (-49), 3) := by decide +kernel
theorem d_Fa_putParted_63 : decode b_Fa_putParted 63 = .ok (.iconst 0, 1) := by decide +kernel
theorem d_Fa_putParted_64 : decode b_Fa_putParted 64 = .ok (.istore 4, 2) := by decide +kernel
theorem d_Fa_putParted_66 : decode b_Fa_putParted 66 = .ok (.iload 4, 2) := by decide +kernel
theorem d_Fa_putParted_68 : decode b_Fa_putParted 68 = .ok (.bipush (10), 2) := by decide +kernel
theorem d_Fa_putParted_70 : decode b_Fa_putParted 70 = .ok (.if_icmp .ge (30), 3) := by decide +kernel
theorem d_Fa_putParted_73 : decode b_Fa_putParted 73 = .ok (.aload_n 0, 1) := by decide +kernel
theorem d_Fa_putParted_74 : decode b_Fa_putParted 74 = .ok (.getfield 18, 3) := by decide +kernel
theorem d_Fa_putParted_77 : decode b_Fa_putParted 77 = .ok (.iload 4, 2) := by decide +kernel
theorem d_Fa_putParted_79 : decode b_Fa_putParted 79 = .ok (.iaload, 1) := by decide +kernel
theorem d_Fa_putParted_80 : decode b_Fa_putParted 80 = .ok (.ifCond .eq (14), 3) := by decide +kernel
theorem d_Fa_putParted_83 : decode b_Fa_putParted 83 = .ok (.aload_n 0, 1) := by decide +kernel
theorem d_Fa_putParted_84 : decode b_Fa_putParted 84 = .ok (.aload_n 0, 1) := by decide +kernel
theorem d_Fa_putParted_85 : decode b_Fa_putParted 85 = .ok (.getfield 18, 3) := by decide +kernel
theorem d_Fa_putParted_88 : decode b_Fa_putParted 88 = .ok (.iload 4, 2) := by decide +kernel
theorem d_Fa_putParted_90 : decode b_Fa_putParted 90 = .ok (.iaload, 1) := by decide +kernel
theorem d_Fa_putParted_91 : decode b_Fa_putParted 91 = .ok (.invokevirtual 34, 3) := by decide +kernel
theorem d_Fa_putParted_94 : decode b_Fa_putParted 94 = .ok (.iinc 4 (1), 3) := by decide +kernel
theorem d_Fa_putParted_97 : decode b_Fa_putParted 97 = .ok (.goto (-31), 3) := by decide +kernel
theorem d_Fa_putParted_100 : decode b_Fa_putParted 100 = .ok (.return_, 1) := by decide +kernel
theorem d_Fa_put_0 : decode b_Fa_put 0 = .ok (.aload_n 0, 1) := by decide +kernel
theorem d_Fa_put_1 : decode b_Fa_put 1 = .ok (.iload_n 1, 1) := by decide +kernel
theorem d_Fa_put_2 : decode b_Fa_put 2 = .ok (.invokevirtual 55, 3) := by decide +kernel
theorem d_Fa_put_5 : decode b_Fa_put 5 = .ok (.ifCond .eq (4), 3) := by decide +kernel
theorem d_Fa_put_8 : decode b_Fa_put 8 = .ok (.return_, 1) := by decide +kernel
theorem d_Fa_put_9 : decode b_Fa_put 9 = .ok (.aload_n 0, 1) := by decide +kernel
theorem d_Fa_put_10 : decode b_Fa_put 10 = .ok (.iload_n 1, 1) := by decide +kernel
theorem d_Fa_put_11 : decode b_Fa_put 11 = .ok (.invokevirtual 59, 3) := by decide +kernel
theorem d_Fa_put_14 : decode b_Fa_put 14 = .ok (.aload_n 0, 1) := by decide +kernel
theorem d_Fa_put_15 : decode b_Fa_put 15 = .ok (.getfield 21, 3) := by decide +kernel
theorem d_Fa_put_18 : decode b_Fa_put 18 = .ok (.bipush (12), 2) := by decide +kernel
theorem d_Fa_put_20 : decode b_Fa_put 20 = .ok (.imul, 1) := by decide +kernel
theorem d_Fa_put_21 : decode b_Fa_put 21 = .ok (.istore_n 2, 1) := by decide +kernel
theorem d_Fa_put_22 : decode b_Fa_put 22 = .ok (.aload_n 0, 1) := by decide +kernel
theorem d_Fa_put_23 : decode b_Fa_put 23 = .ok (.getfield 15, 3) := by decide +kernel
theorem d_Fa_put_26 : decode b_Fa_put 26 = .ok (.aload_n 0, 1) := by decide +kernel
theorem d_Fa_put_27 : decode b_Fa_put 27 = .ok (.getfield 21, 3) := by decide +kernel
theorem d_Fa_put_30 : decode b_Fa_put 30 = .ok (.iaload, 1) := by decide +kernel
theorem d_Fa_put_31 : decode b_Fa_put 31 = .ok (.istore_n 3, 1) := by decide +kernel
theorem d_Fa_put_32 : decode b_Fa_put 32 = .ok (.iload_n 3, 1) := by decide +kernel
theorem d_Fa_put_33 : decode b_Fa_put 33 = .ok (.ifCond .le (41), 3) := by decide +kernel
theorem d_Fa_put_36 : decode b_Fa_put 36 = .ok (.aload_n 0, 1) := by decide +kernel
theorem d_Fa_put_37 : decode b_Fa_put 37 = .ok (.getfield 9, 3) := by decide +kernel
theorem d_Fa_put_40 : decode b_Fa_put 40 = .ok (.iload_n 2, 1) := by decide +kernel
theorem d_Fa_put_41 : decode b_Fa_put 41 = .ok (.iload_n 3, 1) := by decide +kernel
theorem d_Fa_put_42 : decode b_Fa_put 42 = .ok (.iadd, 1) := by decide +kernel
theorem d_Fa_put_43 : decode b_Fa_put 43 = .ok (.iconst 1, 1) := by decide +kernel
theorem d_Fa_put_44 : decode b_Fa_put 44 = .ok (.isub, 1) := by decide +kernel
theorem d_Fa_put_45 : decode b_Fa_put 45 = .ok (.iaload, 1) := by decide +kernel
theorem d_Fa_put_46 : decode b_Fa_put 46 = .ok (.iload_n 1, 1) := by decide +kernel
theorem d_Fa_put_47 : decode b_Fa_put 47 = .ok (.if_icmp .le (27), 3) := by decide +kernel
theorem d_Fa_put_50 : decode b_Fa_put 50 = .ok (.aload_n 0, 1) := by decide +kernel
theorem d_Fa_put_51 : decode b_Fa_put 51 = .ok (.getfield 9, 3) := by decide +kernel
theorem d_Fa_put_54 : decode b_Fa_put 54 = .ok (.iload_n 2, 1) := by decide +kernel
theorem d_Fa_put_55 : decode b_Fa_put 55 = .ok (.iload_n 3, 1) := by decide +kernel
theorem d_Fa_put_56 : decode b_Fa_put 56 = .ok (.iadd, 1) := by decide +kernel
theorem d_Fa_put_57 : decode b_Fa_put 57 = .ok (.aload_n 0, 1) := by decide +kernel
theorem d_Fa_put_58 : decode b_Fa_put 58 = .ok (.getfield 9, 3) := by decide +kernel
theorem d_Fa_put_61 : decode b_Fa_put 61 = .ok (.iload_n 2, 1) := by decide +kernel
theorem d_Fa_put_62 : decode b_Fa_put 62 = .ok (.iload_n 3, 1) := by decide +kernel
theorem d_Fa_put_63 : decode b_Fa_put 63 = .ok (.iadd, 1) := by decide +kernel
theorem d_Fa_put_64 : decode b_Fa_put 64 = .ok (.iconst 1, 1) := by decide +kernel
theorem d_Fa_put_65 : decode b_Fa_put 65 = .ok (.isub, 1) := by decide +kernel
theorem d_Fa_put_66 : decode b_Fa_put 66 = .ok (.iaload, 1) := by decide +kernel
theorem d_Fa_put_67 : decode b_Fa_put 67 = .ok (.iastore, 1) := by decide +kernel
theorem d_Fa_put_68 : decode b_Fa_put 68 = .ok (.iinc 3 (-1), 3) := by decide +kernel
theorem d_Fa_put_71 : decode b_Fa_put 71 = .ok (.goto (-39), 3) := by decide +kernel
theorem d_Fa_put_74 : decode b_Fa_put 74 = .ok (.aload_n 0, 1) := by decide +kernel
theorem d_Fa_put_75 : decode b_Fa_put 75 = .ok (.getfield 9, 3) := by decide +kernel
theorem d_Fa_put_78 : decode b_Fa_put 78 = .ok (.iload_n 2, 1) := by decide +kernel
theorem d_Fa_put_79 : decode b_Fa_put 79 = .ok (.iload_n 3, 1) := by decide +kernel
theorem d_Fa_put_80 : decode b_Fa_put 80 = .ok (.iadd, 1) := by decide +kernel
theorem d_Fa_put_81 : decode b_Fa_put 81 = .ok (.iload_n 1, 1) := by decide +kernel
theorem d_Fa_put_82 : decode b_Fa_put 82 = .ok (.iastore, 1) := by decide +kernel
theorem d_Fa_put_83 : decode b_Fa_put 83 = .ok (.aload_n 0, 1) := by decide +kernel
theorem d_Fa_put_84 : decode b_Fa_put 84 = .ok (.getfield 15, 3) := by decide +kernel
theorem d_Fa_put_87 : decode b_Fa_put 87 = .ok (.aload_n 0, 1) := by decide +kernel
theorem d_Fa_put_88 : decode b_Fa_put 88 = .ok (.getfield 21, 3) := by decide +kernel
theorem d_Fa_put_91 : decode b_Fa_put 91 = .ok (.dup2, 1) := by decide +kernel
theorem d_Fa_put_92 : decode b_Fa_put 92 = .ok (.iaload, 1) := by decide +kernel
theorem d_Fa_put_93 : decode b_Fa_put 93 = .ok (.iconst 1, 1) := by decide +kernel
theorem d_Fa_put_94 : decode b_Fa_put 94 = .ok (.iadd, 1) := by decide +kernel
theorem d_Fa_put_95 : decode b_Fa_put 95 = .ok (.iastore, 1) := by decide +kernel
theorem d_Fa_put_96 : decode b_Fa_put 96 = .ok (.return_, 1) := by decide +kernel
