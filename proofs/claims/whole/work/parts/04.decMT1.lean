theorem d_MT_alike_103 : decode b_MT_alike 103 = .ok (.pop, 1) := by decide +kernel
theorem d_MT_alike_104 : decode b_MT_alike 104 = .ok (.iconst 0, 1) := by decide +kernel
theorem d_MT_alike_105 : decode b_MT_alike 105 = .ok (.ireturn, 1) := by decide +kernel
theorem d_MT_least_0 : decode b_MT_least 0 = .ok (.aload_n 0, 1) := by decide +kernel
theorem d_MT_least_1 : decode b_MT_least 1 = .ok (.iload_n 1, 1) := by decide +kernel
theorem d_MT_least_2 : decode b_MT_least 2 = .ok (.invokevirtual 45, 3) := by decide +kernel
theorem d_MT_least_5 : decode b_MT_least 5 = .ok (.astore_n 2, 1) := by decide +kernel
theorem d_MT_least_6 : decode b_MT_least 6 = .ok (.aload_n 2, 1) := by decide +kernel
theorem d_MT_least_7 : decode b_MT_least 7 = .ok (.ifnull (10), 3) := by decide +kernel
theorem d_MT_least_10 : decode b_MT_least 10 = .ok (.aload_n 0, 1) := by decide +kernel
theorem d_MT_least_11 : decode b_MT_least 11 = .ok (.invokevirtual 37, 3) := by decide +kernel
theorem d_MT_least_14 : decode b_MT_least 14 = .ok (.ifCond .eq (5), 3) := by decide +kernel
theorem d_MT_least_17 : decode b_MT_least 17 = .ok (.iconst (-1), 1) := by decide +kernel
theorem d_MT_least_18 : decode b_MT_least 18 = .ok (.ireturn, 1) := by decide +kernel
theorem d_MT_least_19 : decode b_MT_least 19 = .ok (.aload_n 2, 1) := by decide +kernel
theorem d_MT_least_20 : decode b_MT_least 20 = .ok (.invokevirtual 67, 3) := by decide +kernel
theorem d_MT_least_23 : decode b_MT_least 23 = .ok (.aload_n 0, 1) := by decide +kernel
theorem d_MT_least_24 : decode b_MT_least 24 = .ok (.aload_n 2, 1) := by decide +kernel
theorem d_MT_least_25 : decode b_MT_least 25 = .ok (.invokevirtual 97, 3) := by decide +kernel
theorem d_MT_least_28 : decode b_MT_least 28 = .ok (.aload_n 0, 1) := by decide +kernel
theorem d_MT_least_29 : decode b_MT_least 29 = .ok (.aload_n 0, 1) := by decide +kernel
theorem d_MT_least_30 : decode b_MT_least 30 = .ok (.getfield 18, 3) := by decide +kernel
theorem d_MT_least_33 : decode b_MT_least 33 = .ok (.getfield 101, 3) := by decide +kernel
theorem d_MT_least_36 : decode b_MT_least 36 = .ok (.aload_n 2, 1) := by decide +kernel
theorem d_MT_least_37 : decode b_MT_least 37 = .ok (.getfield 85, 3) := by decide +kernel
theorem d_MT_least_40 : decode b_MT_least 40 = .ok (.invokevirtual 41, 3) := by decide +kernel
theorem d_MT_least_43 : decode b_MT_least 43 = .ok (.astore_n 3, 1) := by decide +kernel
theorem d_MT_least_44 : decode b_MT_least 44 = .ok (.iconst 0, 1) := by decide +kernel
theorem d_MT_least_45 : decode b_MT_least 45 = .ok (.istore 4, 2) := by decide +kernel
theorem d_MT_least_47 : decode b_MT_least 47 = .ok (.iload 4, 2) := by decide +kernel
theorem d_MT_least_49 : decode b_MT_least 49 = .ok (.aload_n 3, 1) := by decide +kernel
theorem d_MT_least_50 : decode b_MT_least 50 = .ok (.getfield 102, 3) := by decide +kernel
theorem d_MT_least_53 : decode b_MT_least 53 = .ok (.if_icmp .ge (77), 3) := by decide +kernel
theorem d_MT_least_56 : decode b_MT_least 56 = .ok (.aload_n 0, 1) := by decide +kernel
theorem d_MT_least_57 : decode b_MT_least 57 = .ok (.getfield 18, 3) := by decide +kernel
theorem d_MT_least_60 : decode b_MT_least 60 = .ok (.iload 4, 2) := by decide +kernel
theorem d_MT_least_62 : decode b_MT_least 62 = .ok (.invokevirtual 105, 3) := by decide +kernel
theorem d_MT_least_65 : decode b_MT_least 65 = .ok (.istore 5, 2) := by decide +kernel
theorem d_MT_least_67 : decode b_MT_least 67 = .ok (.iconst 0, 1) := by decide +kernel
theorem d_MT_least_68 : decode b_MT_least 68 = .ok (.istore 6, 2) := by decide +kernel
theorem d_MT_least_70 : decode b_MT_least 70 = .ok (.iload 6, 2) := by decide +kernel
theorem d_MT_least_72 : decode b_MT_least 72 = .ok (.aload_n 3, 1) := by decide +kernel
theorem d_MT_least_73 : decode b_MT_least 73 = .ok (.getfield 85, 3) := by decide +kernel
theorem d_MT_least_76 : decode b_MT_least 76 = .ok (.if_icmp .ge (48), 3) := by decide +kernel
theorem d_MT_least_79 : decode b_MT_least 79 = .ok (.aload_n 0, 1) := by decide +kernel
theorem d_MT_least_80 : decode b_MT_least 80 = .ok (.getfield 18, 3) := by decide +kernel
theorem d_MT_least_83 : decode b_MT_least 83 = .ok (.aload_n 2, 1) := by decide +kernel
theorem d_MT_least_84 : decode b_MT_least 84 = .ok (.aload_n 2, 1) := by decide +kernel
theorem d_MT_least_85 : decode b_MT_least 85 = .ok (.iload 5, 2) := by decide +kernel
theorem d_MT_least_87 : decode b_MT_least 87 = .ok (.iload 6, 2) := by decide +kernel
theorem d_MT_least_89 : decode b_MT_least 89 = .ok (.invokevirtual 60, 3) := by decide +kernel
theorem d_MT_least_92 : decode b_MT_least 92 = .ok (.invokevirtual 74, 3) := by decide +kernel
theorem d_MT_least_95 : decode b_MT_least 95 = .ok (.invokevirtual 108, 3) := by decide +kernel
theorem d_MT_least_98 : decode b_MT_least 98 = .ok (.istore 7, 2) := by decide +kernel
theorem d_MT_least_100 : decode b_MT_least 100 = .ok (.aload_n 3, 1) := by decide +kernel
theorem d_MT_least_101 : decode b_MT_least 101 = .ok (.iload 4, 2) := by decide +kernel
theorem d_MT_least_103 : decode b_MT_least 103 = .ok (.iload 6, 2) := by decide +kernel
theorem d_MT_least_105 : decode b_MT_least 105 = .ok (.iload 7, 2) := by decide +kernel
theorem d_MT_least_107 : decode b_MT_least 107 = .ok (.aload_n 2, 1) := by decide +kernel
theorem d_MT_least_108 : decode b_MT_least 108 = .ok (.iload 5, 2) := by decide +kernel
theorem d_MT_least_110 : decode b_MT_least 110 = .ok (.iload 6, 2) := by decide +kernel
theorem d_MT_least_112 : decode b_MT_least 112 = .ok (.invokevirtual 64, 3) := by decide +kernel
theorem d_MT_least_115 : decode b_MT_least 115 = .ok (.invokevirtual 56, 3) := by decide +kernel
theorem d_MT_least_118 : decode b_MT_least 118 = .ok (.iinc 6 (1), 3) := by decide +kernel
theorem d_MT_least_121 : decode b_MT_least 121 = .ok (.goto (-51), 3) := by decide +kernel
theorem d_MT_least_124 : decode b_MT_least 124 = .ok (.iinc 4 (1), 3) := by decide +kernel
theorem d_MT_least_127 : decode b_MT_least 127 = .ok (.goto (-80), 3) := by decide +kernel
theorem d_MT_least_130 : decode b_MT_least 130 = .ok (.aload_n 0, 1) := by decide +kernel
theorem d_MT_least_131 : decode b_MT_least 131 = .ok (.getfield 29, 3) := by decide +kernel
theorem d_MT_least_134 : decode b_MT_least 134 = .ok (.iconst 1, 1) := by decide +kernel
theorem d_MT_least_135 : decode b_MT_least 135 = .ok (.isub, 1) := by decide +kernel
theorem d_MT_least_136 : decode b_MT_least 136 = .ok (.ireturn, 1) := by decide +kernel
theorem d_MT_part_0 : decode b_MT_part 0 = .ok (.aload_n 0, 1) := by decide +kernel
theorem d_MT_part_1 : decode b_MT_part 1 = .ok (.iload_n 1, 1) := by decide +kernel
theorem d_MT_part_2 : decode b_MT_part 2 = .ok (.invokevirtual 45, 3) := by decide +kernel
theorem d_MT_part_5 : decode b_MT_part 5 = .ok (.astore_n 3, 1) := by decide +kernel
theorem d_MT_part_6 : decode b_MT_part 6 = .ok (.aload_n 3, 1) := by decide +kernel
theorem d_MT_part_7 : decode b_MT_part 7 = .ok (.ifnull (11), 3) := by decide +kernel
theorem d_MT_part_10 : decode b_MT_part 10 = .ok (.aload_n 3, 1) := by decide +kernel
theorem d_MT_part_11 : decode b_MT_part 11 = .ok (.iload_n 2, 1) := by decide +kernel
theorem d_MT_part_12 : decode b_MT_part 12 = .ok (.invokevirtual 49, 3) := by decide +kernel
theorem d_MT_part_15 : decode b_MT_part 15 = .ok (.ifCond .ne (5), 3) := by decide +kernel
theorem d_MT_part_18 : decode b_MT_part 18 = .ok (.iconst (-1), 1) := by decide +kernel
theorem d_MT_part_19 : decode b_MT_part 19 = .ok (.ireturn, 1) := by decide +kernel
theorem d_MT_part_20 : decode b_MT_part 20 = .ok (.aload_n 3, 1) := by decide +kernel
theorem d_MT_part_21 : decode b_MT_part 21 = .ok (.invokevirtual 67, 3) := by decide +kernel
theorem d_MT_part_24 : decode b_MT_part 24 = .ok (.aload_n 0, 1) := by decide +kernel
theorem d_MT_part_25 : decode b_MT_part 25 = .ok (.aload_n 3, 1) := by decide +kernel
theorem d_MT_part_26 : decode b_MT_part 26 = .ok (.invokevirtual 97, 3) := by decide +kernel
theorem d_MT_part_29 : decode b_MT_part 29 = .ok (.aload_n 0, 1) := by decide +kernel
theorem d_MT_part_30 : decode b_MT_part 30 = .ok (.getfield 18, 3) := by decide +kernel
theorem d_MT_part_33 : decode b_MT_part 33 = .ok (.aload_n 3, 1) := by decide +kernel
theorem d_MT_part_34 : decode b_MT_part 34 = .ok (.iload_n 2, 1) := by decide +kernel
theorem d_MT_part_35 : decode b_MT_part 35 = .ok (.invokevirtual 74, 3) := by decide +kernel
theorem d_MT_part_38 : decode b_MT_part 38 = .ok (.invokevirtual 108, 3) := by decide +kernel
theorem d_MT_part_41 : decode b_MT_part 41 = .ok (.ireturn, 1) := by decide +kernel
theorem d_MT_reset_0 : decode b_MT_reset 0 = .ok (.aload_n 0, 1) := by decide +kernel
theorem d_MT_reset_1 : decode b_MT_reset 1 = .ok (.iload_n 1, 1) := by decide +kernel
theorem d_MT_reset_2 : decode b_MT_reset 2 = .ok (.invokevirtual 111, 3) := by decide +kernel
theorem d_MT_reset_5 : decode b_MT_reset 5 = .ok (.astore_n 2, 1) := by decide +kernel
theorem d_MT_reset_6 : decode b_MT_reset 6 = .ok (.aload_n 2, 1) := by decide +kernel
theorem d_MT_reset_7 : decode b_MT_reset 7 = .ok (.ifnonnull (5), 3) := by decide +kernel
theorem d_MT_reset_10 : decode b_MT_reset 10 = .ok (.iconst (-1), 1) := by decide +kernel
theorem d_MT_reset_11 : decode b_MT_reset 11 = .ok (.ireturn, 1) := by decide +kernel
theorem d_MT_reset_12 : decode b_MT_reset 12 = .ok (.aload_n 0, 1) := by decide +kernel
theorem d_MT_reset_13 : decode b_MT_reset 13 = .ok (.aload_n 2, 1) := by decide +kernel
theorem d_MT_reset_14 : decode b_MT_reset 14 = .ok (.invokevirtual 114, 3) := by decide +kernel
theorem d_MT_reset_17 : decode b_MT_reset 17 = .ok (.istore_n 3, 1) := by decide +kernel
theorem d_MT_reset_18 : decode b_MT_reset 18 = .ok (.iload_n 3, 1) := by decide +kernel
theorem d_MT_reset_19 : decode b_MT_reset 19 = .ok (.iconst (-1), 1) := by decide +kernel
theorem d_MT_reset_20 : decode b_MT_reset 20 = .ok (.if_icmp .ne (7), 3) := by decide +kernel
theorem d_MT_reset_23 : decode b_MT_reset 23 = .ok (.iconst (-1), 1) := by decide +kernel
theorem d_MT_reset_24 : decode b_MT_reset 24 = .ok (.goto (8), 3) := by decide +kernel
theorem d_MT_reset_27 : decode b_MT_reset 27 = .ok (.aload_n 0, 1) := by decide +kernel
theorem d_MT_reset_28 : decode b_MT_reset 28 = .ok (.iload_n 3, 1) := by decide +kernel
theorem d_MT_reset_29 : decode b_MT_reset 29 = .ok (.invokevirtual 94, 3) := by decide +kernel
theorem d_MT_reset_32 : decode b_MT_reset 32 = .ok (.ireturn, 1) := by decide +kernel
theorem d_MT_home_0 : decode b_MT_home 0 = .ok (.aload_n 0, 1) := by decide +kernel
theorem d_MT_home_1 : decode b_MT_home 1 = .ok (.iload_n 1, 1) := by decide +kernel
theorem d_MT_home_2 : decode b_MT_home 2 = .ok (.invokevirtual 111, 3) := by decide +kernel
theorem d_MT_home_5 : decode b_MT_home 5 = .ok (.astore_n 2, 1) := by decide +kernel
theorem d_MT_home_6 : decode b_MT_home 6 = .ok (.aload_n 2, 1) := by decide +kernel
theorem d_MT_home_7 : decode b_MT_home 7 = .ok (.ifnonnull (5), 3) := by decide +kernel
theorem d_MT_home_10 : decode b_MT_home 10 = .ok (.iconst (-1), 1) := by decide +kernel
theorem d_MT_home_11 : decode b_MT_home 11 = .ok (.ireturn, 1) := by decide +kernel
theorem d_MT_home_12 : decode b_MT_home 12 = .ok (.aload_n 2, 1) := by decide +kernel
theorem d_MT_home_13 : decode b_MT_home 13 = .ok (.invokevirtual 67, 3) := by decide +kernel
theorem d_MT_home_16 : decode b_MT_home 16 = .ok (.aload_n 0, 1) := by decide +kernel
theorem d_MT_home_17 : decode b_MT_home 17 = .ok (.aload_n 2, 1) := by decide +kernel
theorem d_MT_home_18 : decode b_MT_home 18 = .ok (.invokevirtual 118, 3) := by decide +kernel
theorem d_MT_home_21 : decode b_MT_home 21 = .ok (.istore_n 3, 1) := by decide +kernel
theorem d_MT_home_22 : decode b_MT_home 22 = .ok (.iload_n 3, 1) := by decide +kernel
theorem d_MT_home_23 : decode b_MT_home 23 = .ok (.iconst (-1), 1) := by decide +kernel
theorem d_MT_home_24 : decode b_MT_home 24 = .ok (.if_icmp .ne (13), 3) := by decide +kernel
theorem d_MT_home_27 : decode b_MT_home 27 = .ok (.new 121, 3) := by decide +kernel
theorem d_MT_home_30 : decode b_MT_home 30 = .ok (.dup, 1) := by decide +kernel
theorem d_MT_home_31 : decode b_MT_home 31 = .ok (.ldc 123, 2) := by decide +kernel
theorem d_MT_home_33 : decode b_MT_home 33 = .ok (.invokespecial 125, 3) := by decide +kernel
theorem d_MT_home_36 : decode b_MT_home 36 = .ok (.athrow, 1) := by decide +kernel
theorem d_MT_home_37 : decode b_MT_home 37 = .ok (.aload_n 0, 1) := by decide +kernel
theorem d_MT_home_38 : decode b_MT_home 38 = .ok (.iload_n 3, 1) := by decide +kernel
theorem d_MT_home_39 : decode b_MT_home 39 = .ok (.invokevirtual 94, 3) := by decide +kernel
theorem d_MT_home_42 : decode b_MT_home 42 = .ok (.ireturn, 1) := by decide +kernel
theorem d_MT_chain_0 : decode b_MT_chain 0 = .ok (.aload_n 0, 1) := by decide +kernel
theorem d_MT_chain_1 : decode b_MT_chain 1 = .ok (.iload_n 1, 1) := by decide +kernel
theorem d_MT_chain_2 : decode b_MT_chain 2 = .ok (.invokevirtual 45, 3) := by decide +kernel
theorem d_MT_chain_5 : decode b_MT_chain 5 = .ok (.astore_n 3, 1) := by decide +kernel
theorem d_MT_chain_6 : decode b_MT_chain 6 = .ok (.aload_n 0, 1) := by decide +kernel
theorem d_MT_chain_7 : decode b_MT_chain 7 = .ok (.iload_n 2, 1) := by decide +kernel
theorem d_MT_chain_8 : decode b_MT_chain 8 = .ok (.invokevirtual 45, 3) := by decide +kernel
theorem d_MT_chain_11 : decode b_MT_chain 11 = .ok (.astore 4, 2) := by decide +kernel
theorem d_MT_chain_13 : decode b_MT_chain 13 = .ok (.aload_n 3, 1) := by decide +kernel
theorem d_MT_chain_14 : decode b_MT_chain 14 = .ok (.ifnull (15), 3) := by decide +kernel
theorem d_MT_chain_17 : decode b_MT_chain 17 = .ok (.aload 4, 2) := by decide +kernel
theorem d_MT_chain_19 : decode b_MT_chain 19 = .ok (.ifnull (10), 3) := by decide +kernel
theorem d_MT_chain_22 : decode b_MT_chain 22 = .ok (.aload_n 0, 1) := by decide +kernel
theorem d_MT_chain_23 : decode b_MT_chain 23 = .ok (.invokevirtual 37, 3) := by decide +kernel
theorem d_MT_chain_26 : decode b_MT_chain 26 = .ok (.ifCond .eq (5), 3) := by decide +kernel
theorem d_MT_chain_29 : decode b_MT_chain 29 = .ok (.iconst (-1), 1) := by decide +kernel
theorem d_MT_chain_30 : decode b_MT_chain 30 = .ok (.ireturn, 1) := by decide +kernel
theorem d_MT_chain_31 : decode b_MT_chain 31 = .ok (.aload_n 0, 1) := by decide +kernel
theorem d_MT_chain_32 : decode b_MT_chain 32 = .ok (.aload_n 3, 1) := by decide +kernel
theorem d_MT_chain_33 : decode b_MT_chain 33 = .ok (.aload 4, 2) := by decide +kernel
theorem d_MT_chain_35 : decode b_MT_chain 35 = .ok (.invokevirtual 126, 3) := by decide +kernel
theorem d_MT_chain_38 : decode b_MT_chain 38 = .ok (.ifCond .ne (13), 3) := by decide +kernel
theorem d_MT_chain_41 : decode b_MT_chain 41 = .ok (.new 121, 3) := by decide +kernel
theorem d_MT_chain_44 : decode b_MT_chain 44 = .ok (.dup, 1) := by decide +kernel
theorem d_MT_chain_45 : decode b_MT_chain 45 = .ok (.ldc 130, 2) := by decide +kernel
theorem d_MT_chain_47 : decode b_MT_chain 47 = .ok (.invokespecial 125, 3) := by decide +kernel
theorem d_MT_chain_50 : decode b_MT_chain 50 = .ok (.athrow, 1) := by decide +kernel
theorem d_MT_chain_51 : decode b_MT_chain 51 = .ok (.aload_n 0, 1) := by decide +kernel
theorem d_MT_chain_52 : decode b_MT_chain 52 = .ok (.aload_n 0, 1) := by decide +kernel
theorem d_MT_chain_53 : decode b_MT_chain 53 = .ok (.getfield 18, 3) := by decide +kernel
theorem d_MT_chain_56 : decode b_MT_chain 56 = .ok (.getfield 101, 3) := by decide +kernel
theorem d_MT_chain_59 : decode b_MT_chain 59 = .ok (.aload_n 3, 1) := by decide +kernel
theorem d_MT_chain_60 : decode b_MT_chain 60 = .ok (.getfield 85, 3) := by decide +kernel
theorem d_MT_chain_63 : decode b_MT_chain 63 = .ok (.invokevirtual 41, 3) := by decide +kernel
theorem d_MT_chain_66 : decode b_MT_chain 66 = .ok (.astore 5, 2) := by decide +kernel
theorem d_MT_chain_68 : decode b_MT_chain 68 = .ok (.iconst 0, 1) := by decide +kernel
theorem d_MT_chain_69 : decode b_MT_chain 69 = .ok (.istore 6, 2) := by decide +kernel
theorem d_MT_chain_71 : decode b_MT_chain 71 = .ok (.iload 6, 2) := by decide +kernel
theorem d_MT_chain_73 : decode b_MT_chain 73 = .ok (.aload 5, 2) := by decide +kernel
theorem d_MT_chain_75 : decode b_MT_chain 75 = .ok (.getfield 102, 3) := by decide +kernel
theorem d_MT_chain_78 : decode b_MT_chain 78 = .ok (.if_icmp .ge (94), 3) := by decide +kernel
theorem d_MT_chain_81 : decode b_MT_chain 81 = .ok (.aload_n 0, 1) := by decide +kernel
theorem d_MT_chain_82 : decode b_MT_chain 82 = .ok (.getfield 18, 3) := by decide +kernel
theorem d_MT_chain_85 : decode b_MT_chain 85 = .ok (.iload 6, 2) := by decide +kernel
theorem d_MT_chain_87 : decode b_MT_chain 87 = .ok (.invokevirtual 105, 3) := by decide +kernel
theorem d_MT_chain_90 : decode b_MT_chain 90 = .ok (.istore 7, 2) := by decide +kernel
theorem d_MT_chain_92 : decode b_MT_chain 92 = .ok (.iconst 0, 1) := by decide +kernel
theorem d_MT_chain_93 : decode b_MT_chain 93 = .ok (.istore 8, 2) := by decide +kernel
theorem d_MT_chain_95 : decode b_MT_chain 95 = .ok (.iload 8, 2) := by decide +kernel
theorem d_MT_chain_97 : decode b_MT_chain 97 = .ok (.aload 5, 2) := by decide +kernel
theorem d_MT_chain_99 : decode b_MT_chain 99 = .ok (.getfield 85, 3) := by decide +kernel
theorem d_MT_chain_102 : decode b_MT_chain 102 = .ok (.if_icmp .ge (64), 3) := by decide +kernel
theorem d_MT_chain_105 : decode b_MT_chain 105 = .ok (.aload_n 3, 1) := by decide +kernel
theorem d_MT_chain_106 : decode b_MT_chain 106 = .ok (.iload 7, 2) := by decide +kernel
theorem d_MT_chain_108 : decode b_MT_chain 108 = .ok (.invokestatic 132, 3) := by decide +kernel
theorem d_MT_chain_111 : decode b_MT_chain 111 = .ok (.iload 8, 2) := by decide +kernel
theorem d_MT_chain_113 : decode b_MT_chain 113 = .ok (.invokevirtual 64, 3) := by decide +kernel
