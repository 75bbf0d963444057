theorem d_Mo_lead_64 : decode b_Mo_lead 64 = .ok (.getfield 44, 3) := by decide +kernel
theorem d_Mo_lead_67 : decode b_Mo_lead 67 = .ok (.bipush (12), 2) := by decide +kernel
theorem d_Mo_lead_69 : decode b_Mo_lead 69 = .ok (.iload_n 2, 1) := by decide +kernel
theorem d_Mo_lead_70 : decode b_Mo_lead 70 = .ok (.imul, 1) := by decide +kernel
theorem d_Mo_lead_71 : decode b_Mo_lead 71 = .ok (.iload 5, 2) := by decide +kernel
theorem d_Mo_lead_73 : decode b_Mo_lead 73 = .ok (.iadd, 1) := by decide +kernel
theorem d_Mo_lead_74 : decode b_Mo_lead 74 = .ok (.iaload, 1) := by decide +kernel
theorem d_Mo_lead_75 : decode b_Mo_lead 75 = .ok (.iload 8, 2) := by decide +kernel
theorem d_Mo_lead_77 : decode b_Mo_lead 77 = .ok (.ishr, 1) := by decide +kernel
theorem d_Mo_lead_78 : decode b_Mo_lead 78 = .ok (.iconst 1, 1) := by decide +kernel
theorem d_Mo_lead_79 : decode b_Mo_lead 79 = .ok (.iand, 1) := by decide +kernel
theorem d_Mo_lead_80 : decode b_Mo_lead 80 = .ok (.iconst 1, 1) := by decide +kernel
theorem d_Mo_lead_81 : decode b_Mo_lead 81 = .ok (.if_icmp .ne (33), 3) := by decide +kernel
theorem d_Mo_lead_84 : decode b_Mo_lead 84 = .ok (.aload_n 0, 1) := by decide +kernel
theorem d_Mo_lead_85 : decode b_Mo_lead 85 = .ok (.getfield 19, 3) := by decide +kernel
theorem d_Mo_lead_88 : decode b_Mo_lead 88 = .ok (.iload 9, 2) := by decide +kernel
theorem d_Mo_lead_90 : decode b_Mo_lead 90 = .ok (.iaload, 1) := by decide +kernel
theorem d_Mo_lead_91 : decode b_Mo_lead 91 = .ok (.iload 6, 2) := by decide +kernel
theorem d_Mo_lead_93 : decode b_Mo_lead 93 = .ok (.if_icmp .ne (21), 3) := by decide +kernel
theorem d_Mo_lead_96 : decode b_Mo_lead 96 = .ok (.iload 7, 2) := by decide +kernel
theorem d_Mo_lead_98 : decode b_Mo_lead 98 = .ok (.iconst 1, 1) := by decide +kernel
theorem d_Mo_lead_99 : decode b_Mo_lead 99 = .ok (.aload_n 0, 1) := by decide +kernel
theorem d_Mo_lead_100 : decode b_Mo_lead 100 = .ok (.aload_n 0, 1) := by decide +kernel
theorem d_Mo_lead_101 : decode b_Mo_lead 101 = .ok (.getfield 16, 3) := by decide +kernel
theorem d_Mo_lead_104 : decode b_Mo_lead 104 = .ok (.iload 9, 2) := by decide +kernel
theorem d_Mo_lead_106 : decode b_Mo_lead 106 = .ok (.iaload, 1) := by decide +kernel
theorem d_Mo_lead_107 : decode b_Mo_lead 107 = .ok (.invokevirtual 83, 3) := by decide +kernel
theorem d_Mo_lead_110 : decode b_Mo_lead 110 = .ok (.ishl, 1) := by decide +kernel
theorem d_Mo_lead_111 : decode b_Mo_lead 111 = .ok (.ior, 1) := by decide +kernel
theorem d_Mo_lead_112 : decode b_Mo_lead 112 = .ok (.istore 7, 2) := by decide +kernel
theorem d_Mo_lead_114 : decode b_Mo_lead 114 = .ok (.iinc 8 (1), 3) := by decide +kernel
theorem d_Mo_lead_117 : decode b_Mo_lead 117 = .ok (.goto (-79), 3) := by decide +kernel
theorem d_Mo_lead_120 : decode b_Mo_lead 120 = .ok (.iload 7, 2) := by decide +kernel
theorem d_Mo_lead_122 : decode b_Mo_lead 122 = .ok (.ifCond .eq (11), 3) := by decide +kernel
theorem d_Mo_lead_125 : decode b_Mo_lead 125 = .ok (.aload_n 0, 1) := by decide +kernel
theorem d_Mo_lead_126 : decode b_Mo_lead 126 = .ok (.iload 4, 2) := by decide +kernel
theorem d_Mo_lead_128 : decode b_Mo_lead 128 = .ok (.iload 7, 2) := by decide +kernel
theorem d_Mo_lead_130 : decode b_Mo_lead 130 = .ok (.invokevirtual 117, 3) := by decide +kernel
theorem d_Mo_lead_133 : decode b_Mo_lead 133 = .ok (.iinc 6 (1), 3) := by decide +kernel
theorem d_Mo_lead_136 : decode b_Mo_lead 136 = .ok (.goto (-111), 3) := by decide +kernel
theorem d_Mo_lead_139 : decode b_Mo_lead 139 = .ok (.iinc 5 (1), 3) := by decide +kernel
theorem d_Mo_lead_142 : decode b_Mo_lead 142 = .ok (.goto (-131), 3) := by decide +kernel
theorem d_Mo_lead_145 : decode b_Mo_lead 145 = .ok (.return_, 1) := by decide +kernel
theorem d_Mo_isHome_0 : decode b_Mo_isHome 0 = .ok (.iconst 0, 1) := by decide +kernel
theorem d_Mo_isHome_1 : decode b_Mo_isHome 1 = .ok (.istore_n 2, 1) := by decide +kernel
theorem d_Mo_isHome_2 : decode b_Mo_isHome 2 = .ok (.iload_n 2, 1) := by decide +kernel
theorem d_Mo_isHome_3 : decode b_Mo_isHome 3 = .ok (.aload_n 0, 1) := by decide +kernel
theorem d_Mo_isHome_4 : decode b_Mo_isHome 4 = .ok (.getfield 41, 3) := by decide +kernel
theorem d_Mo_isHome_7 : decode b_Mo_isHome 7 = .ok (.iload_n 1, 1) := by decide +kernel
theorem d_Mo_isHome_8 : decode b_Mo_isHome 8 = .ok (.iaload, 1) := by decide +kernel
theorem d_Mo_isHome_9 : decode b_Mo_isHome 9 = .ok (.if_icmp .ge (29), 3) := by decide +kernel
theorem d_Mo_isHome_12 : decode b_Mo_isHome 12 = .ok (.aload_n 0, 1) := by decide +kernel
theorem d_Mo_isHome_13 : decode b_Mo_isHome 13 = .ok (.getfield 44, 3) := by decide +kernel
theorem d_Mo_isHome_16 : decode b_Mo_isHome 16 = .ok (.bipush (12), 2) := by decide +kernel
theorem d_Mo_isHome_18 : decode b_Mo_isHome 18 = .ok (.iload_n 1, 1) := by decide +kernel
theorem d_Mo_isHome_19 : decode b_Mo_isHome 19 = .ok (.imul, 1) := by decide +kernel
theorem d_Mo_isHome_20 : decode b_Mo_isHome 20 = .ok (.iload_n 2, 1) := by decide +kernel
theorem d_Mo_isHome_21 : decode b_Mo_isHome 21 = .ok (.iadd, 1) := by decide +kernel
theorem d_Mo_isHome_22 : decode b_Mo_isHome 22 = .ok (.iaload, 1) := by decide +kernel
theorem d_Mo_isHome_23 : decode b_Mo_isHome 23 = .ok (.invokestatic 110, 3) := by decide +kernel
theorem d_Mo_isHome_26 : decode b_Mo_isHome 26 = .ok (.iconst 1, 1) := by decide +kernel
theorem d_Mo_isHome_27 : decode b_Mo_isHome 27 = .ok (.if_icmp .le (5), 3) := by decide +kernel
theorem d_Mo_isHome_30 : decode b_Mo_isHome 30 = .ok (.iconst 0, 1) := by decide +kernel
theorem d_Mo_isHome_31 : decode b_Mo_isHome 31 = .ok (.ireturn, 1) := by decide +kernel
theorem d_Mo_isHome_32 : decode b_Mo_isHome 32 = .ok (.iinc 2 (1), 3) := by decide +kernel
theorem d_Mo_isHome_35 : decode b_Mo_isHome 35 = .ok (.goto (-33), 3) := by decide +kernel
theorem d_Mo_isHome_38 : decode b_Mo_isHome 38 = .ok (.iconst 1, 1) := by decide +kernel
theorem d_Mo_isHome_39 : decode b_Mo_isHome 39 = .ok (.ireturn, 1) := by decide +kernel
theorem d_Mo_isTried_0 : decode b_Mo_isTried 0 = .ok (.iconst 0, 1) := by decide +kernel
theorem d_Mo_isTried_1 : decode b_Mo_isTried 1 = .ok (.istore_n 2, 1) := by decide +kernel
theorem d_Mo_isTried_2 : decode b_Mo_isTried 2 = .ok (.iload_n 2, 1) := by decide +kernel
theorem d_Mo_isTried_3 : decode b_Mo_isTried 3 = .ok (.iload_n 1, 1) := by decide +kernel
theorem d_Mo_isTried_4 : decode b_Mo_isTried 4 = .ok (.if_icmp .ge (93), 3) := by decide +kernel
theorem d_Mo_isTried_7 : decode b_Mo_isTried 7 = .ok (.aload_n 0, 1) := by decide +kernel
theorem d_Mo_isTried_8 : decode b_Mo_isTried 8 = .ok (.getfield 41, 3) := by decide +kernel
theorem d_Mo_isTried_11 : decode b_Mo_isTried 11 = .ok (.iload_n 2, 1) := by decide +kernel
theorem d_Mo_isTried_12 : decode b_Mo_isTried 12 = .ok (.iaload, 1) := by decide +kernel
theorem d_Mo_isTried_13 : decode b_Mo_isTried 13 = .ok (.aload_n 0, 1) := by decide +kernel
theorem d_Mo_isTried_14 : decode b_Mo_isTried 14 = .ok (.getfield 41, 3) := by decide +kernel
theorem d_Mo_isTried_17 : decode b_Mo_isTried 17 = .ok (.iload_n 1, 1) := by decide +kernel
theorem d_Mo_isTried_18 : decode b_Mo_isTried 18 = .ok (.iaload, 1) := by decide +kernel
theorem d_Mo_isTried_19 : decode b_Mo_isTried 19 = .ok (.if_icmp .ne (7), 3) := by decide +kernel
theorem d_Mo_isTried_22 : decode b_Mo_isTried 22 = .ok (.iconst 1, 1) := by decide +kernel
theorem d_Mo_isTried_23 : decode b_Mo_isTried 23 = .ok (.goto (4), 3) := by decide +kernel
theorem d_Mo_isTried_26 : decode b_Mo_isTried 26 = .ok (.iconst 0, 1) := by decide +kernel
theorem d_Mo_isTried_27 : decode b_Mo_isTried 27 = .ok (.istore_n 3, 1) := by decide +kernel
theorem d_Mo_isTried_28 : decode b_Mo_isTried 28 = .ok (.iconst 0, 1) := by decide +kernel
theorem d_Mo_isTried_29 : decode b_Mo_isTried 29 = .ok (.istore 4, 2) := by decide +kernel
theorem d_Mo_isTried_31 : decode b_Mo_isTried 31 = .ok (.iload_n 3, 1) := by decide +kernel
theorem d_Mo_isTried_32 : decode b_Mo_isTried 32 = .ok (.ifCond .eq (53), 3) := by decide +kernel
theorem d_Mo_isTried_35 : decode b_Mo_isTried 35 = .ok (.iload 4, 2) := by decide +kernel
theorem d_Mo_isTried_37 : decode b_Mo_isTried 37 = .ok (.aload_n 0, 1) := by decide +kernel
theorem d_Mo_isTried_38 : decode b_Mo_isTried 38 = .ok (.getfield 41, 3) := by decide +kernel
theorem d_Mo_isTried_41 : decode b_Mo_isTried 41 = .ok (.iload_n 1, 1) := by decide +kernel
theorem d_Mo_isTried_42 : decode b_Mo_isTried 42 = .ok (.iaload, 1) := by decide +kernel
theorem d_Mo_isTried_43 : decode b_Mo_isTried 43 = .ok (.if_icmp .ge (42), 3) := by decide +kernel
theorem d_Mo_isTried_46 : decode b_Mo_isTried 46 = .ok (.aload_n 0, 1) := by decide +kernel
theorem d_Mo_isTried_47 : decode b_Mo_isTried 47 = .ok (.getfield 44, 3) := by decide +kernel
theorem d_Mo_isTried_50 : decode b_Mo_isTried 50 = .ok (.bipush (12), 2) := by decide +kernel
theorem d_Mo_isTried_52 : decode b_Mo_isTried 52 = .ok (.iload_n 2, 1) := by decide +kernel
theorem d_Mo_isTried_53 : decode b_Mo_isTried 53 = .ok (.imul, 1) := by decide +kernel
theorem d_Mo_isTried_54 : decode b_Mo_isTried 54 = .ok (.iload 4, 2) := by decide +kernel
theorem d_Mo_isTried_56 : decode b_Mo_isTried 56 = .ok (.iadd, 1) := by decide +kernel
theorem d_Mo_isTried_57 : decode b_Mo_isTried 57 = .ok (.iaload, 1) := by decide +kernel
theorem d_Mo_isTried_58 : decode b_Mo_isTried 58 = .ok (.aload_n 0, 1) := by decide +kernel
theorem d_Mo_isTried_59 : decode b_Mo_isTried 59 = .ok (.getfield 44, 3) := by decide +kernel
theorem d_Mo_isTried_62 : decode b_Mo_isTried 62 = .ok (.bipush (12), 2) := by decide +kernel
theorem d_Mo_isTried_64 : decode b_Mo_isTried 64 = .ok (.iload_n 1, 1) := by decide +kernel
theorem d_Mo_isTried_65 : decode b_Mo_isTried 65 = .ok (.imul, 1) := by decide +kernel
theorem d_Mo_isTried_66 : decode b_Mo_isTried 66 = .ok (.iload 4, 2) := by decide +kernel
theorem d_Mo_isTried_68 : decode b_Mo_isTried 68 = .ok (.iadd, 1) := by decide +kernel
theorem d_Mo_isTried_69 : decode b_Mo_isTried 69 = .ok (.iaload, 1) := by decide +kernel
theorem d_Mo_isTried_70 : decode b_Mo_isTried 70 = .ok (.if_icmp .ne (7), 3) := by decide +kernel
theorem d_Mo_isTried_73 : decode b_Mo_isTried 73 = .ok (.iconst 1, 1) := by decide +kernel
theorem d_Mo_isTried_74 : decode b_Mo_isTried 74 = .ok (.goto (4), 3) := by decide +kernel
theorem d_Mo_isTried_77 : decode b_Mo_isTried 77 = .ok (.iconst 0, 1) := by decide +kernel
theorem d_Mo_isTried_78 : decode b_Mo_isTried 78 = .ok (.istore_n 3, 1) := by decide +kernel
theorem d_Mo_isTried_79 : decode b_Mo_isTried 79 = .ok (.iinc 4 (1), 3) := by decide +kernel
theorem d_Mo_isTried_82 : decode b_Mo_isTried 82 = .ok (.goto (-51), 3) := by decide +kernel
theorem d_Mo_isTried_85 : decode b_Mo_isTried 85 = .ok (.iload_n 3, 1) := by decide +kernel
theorem d_Mo_isTried_86 : decode b_Mo_isTried 86 = .ok (.ifCond .eq (5), 3) := by decide +kernel
theorem d_Mo_isTried_89 : decode b_Mo_isTried 89 = .ok (.iconst 1, 1) := by decide +kernel
theorem d_Mo_isTried_90 : decode b_Mo_isTried 90 = .ok (.ireturn, 1) := by decide +kernel
theorem d_Mo_isTried_91 : decode b_Mo_isTried 91 = .ok (.iinc 2 (1), 3) := by decide +kernel
theorem d_Mo_isTried_94 : decode b_Mo_isTried 94 = .ok (.goto (-92), 3) := by decide +kernel
theorem d_Mo_isTried_97 : decode b_Mo_isTried 97 = .ok (.iconst 0, 1) := by decide +kernel
theorem d_Mo_isTried_98 : decode b_Mo_isTried 98 = .ok (.ireturn, 1) := by decide +kernel
theorem d_Mo_told_0 : decode b_Mo_told 0 = .ok (.aload_n 0, 1) := by decide +kernel
theorem d_Mo_told_1 : decode b_Mo_told 1 = .ok (.iconst 0, 1) := by decide +kernel
theorem d_Mo_told_2 : decode b_Mo_told 2 = .ok (.putfield 94, 3) := by decide +kernel
theorem d_Mo_told_5 : decode b_Mo_told 5 = .ok (.iload_n 1, 1) := by decide +kernel
theorem d_Mo_told_6 : decode b_Mo_told 6 = .ok (.istore_n 2, 1) := by decide +kernel
theorem d_Mo_told_7 : decode b_Mo_told 7 = .ok (.aload_n 0, 1) := by decide +kernel
theorem d_Mo_told_8 : decode b_Mo_told 8 = .ok (.getfield 47, 3) := by decide +kernel
theorem d_Mo_told_11 : decode b_Mo_told 11 = .ok (.iload_n 2, 1) := by decide +kernel
theorem d_Mo_told_12 : decode b_Mo_told 12 = .ok (.iaload, 1) := by decide +kernel
theorem d_Mo_told_13 : decode b_Mo_told 13 = .ok (.iconst (-1), 1) := by decide +kernel
theorem d_Mo_told_14 : decode b_Mo_told 14 = .ok (.if_icmp .eq (23), 3) := by decide +kernel
theorem d_Mo_told_17 : decode b_Mo_told 17 = .ok (.aload_n 0, 1) := by decide +kernel
theorem d_Mo_told_18 : decode b_Mo_told 18 = .ok (.dup, 1) := by decide +kernel
theorem d_Mo_told_19 : decode b_Mo_told 19 = .ok (.getfield 94, 3) := by decide +kernel
theorem d_Mo_told_22 : decode b_Mo_told 22 = .ok (.iconst 1, 1) := by decide +kernel
theorem d_Mo_told_23 : decode b_Mo_told 23 = .ok (.iadd, 1) := by decide +kernel
theorem d_Mo_told_24 : decode b_Mo_told 24 = .ok (.putfield 94, 3) := by decide +kernel
theorem d_Mo_told_27 : decode b_Mo_told 27 = .ok (.aload_n 0, 1) := by decide +kernel
theorem d_Mo_told_28 : decode b_Mo_told 28 = .ok (.getfield 47, 3) := by decide +kernel
theorem d_Mo_told_31 : decode b_Mo_told 31 = .ok (.iload_n 2, 1) := by decide +kernel
theorem d_Mo_told_32 : decode b_Mo_told 32 = .ok (.iaload, 1) := by decide +kernel
theorem d_Mo_told_33 : decode b_Mo_told 33 = .ok (.istore_n 2, 1) := by decide +kernel
theorem d_Mo_told_34 : decode b_Mo_told 34 = .ok (.goto (-27), 3) := by decide +kernel
theorem d_Mo_told_37 : decode b_Mo_told 37 = .ok (.aload_n 0, 1) := by decide +kernel
theorem d_Mo_told_38 : decode b_Mo_told 38 = .ok (.getfield 94, 3) := by decide +kernel
theorem d_Mo_told_41 : decode b_Mo_told 41 = .ok (.istore_n 2, 1) := by decide +kernel
theorem d_Mo_told_42 : decode b_Mo_told 42 = .ok (.iload_n 1, 1) := by decide +kernel
theorem d_Mo_told_43 : decode b_Mo_told 43 = .ok (.istore_n 3, 1) := by decide +kernel
theorem d_Mo_told_44 : decode b_Mo_told 44 = .ok (.aload_n 0, 1) := by decide +kernel
theorem d_Mo_told_45 : decode b_Mo_told 45 = .ok (.getfield 47, 3) := by decide +kernel
theorem d_Mo_told_48 : decode b_Mo_told 48 = .ok (.iload_n 3, 1) := by decide +kernel
theorem d_Mo_told_49 : decode b_Mo_told 49 = .ok (.iaload, 1) := by decide +kernel
theorem d_Mo_told_50 : decode b_Mo_told 50 = .ok (.iconst (-1), 1) := by decide +kernel
theorem d_Mo_told_51 : decode b_Mo_told 51 = .ok (.if_icmp .eq (28), 3) := by decide +kernel
theorem d_Mo_told_54 : decode b_Mo_told 54 = .ok (.iinc 2 (-1), 3) := by decide +kernel
theorem d_Mo_told_57 : decode b_Mo_told 57 = .ok (.aload_n 0, 1) := by decide +kernel
theorem d_Mo_told_58 : decode b_Mo_told 58 = .ok (.getfield 22, 3) := by decide +kernel
theorem d_Mo_told_61 : decode b_Mo_told 61 = .ok (.iload_n 2, 1) := by decide +kernel
theorem d_Mo_told_62 : decode b_Mo_told 62 = .ok (.aload_n 0, 1) := by decide +kernel
theorem d_Mo_told_63 : decode b_Mo_told 63 = .ok (.getfield 50, 3) := by decide +kernel
theorem d_Mo_told_66 : decode b_Mo_told 66 = .ok (.iload_n 3, 1) := by decide +kernel
theorem d_Mo_told_67 : decode b_Mo_told 67 = .ok (.iaload, 1) := by decide +kernel
theorem d_Mo_told_68 : decode b_Mo_told 68 = .ok (.iastore, 1) := by decide +kernel
theorem d_Mo_told_69 : decode b_Mo_told 69 = .ok (.aload_n 0, 1) := by decide +kernel
theorem d_Mo_told_70 : decode b_Mo_told 70 = .ok (.getfield 47, 3) := by decide +kernel
theorem d_Mo_told_73 : decode b_Mo_told 73 = .ok (.iload_n 3, 1) := by decide +kernel
theorem d_Mo_told_74 : decode b_Mo_told 74 = .ok (.iaload, 1) := by decide +kernel
theorem d_Mo_told_75 : decode b_Mo_told 75 = .ok (.istore_n 3, 1) := by decide +kernel
theorem d_Mo_told_76 : decode b_Mo_told 76 = .ok (.goto (-32), 3) := by decide +kernel
theorem d_Mo_told_79 : decode b_Mo_told 79 = .ok (.aload_n 0, 1) := by decide +kernel
theorem d_Mo_told_80 : decode b_Mo_told 80 = .ok (.getfield 94, 3) := by decide +kernel
theorem d_Mo_told_83 : decode b_Mo_told 83 = .ok (.ireturn, 1) := by decide +kernel
theorem d_Mo_home_0 : decode b_Mo_home 0 = .ok (.aload_n 0, 1) := by decide +kernel
theorem d_Mo_home_1 : decode b_Mo_home 1 = .ok (.iconst 0, 1) := by decide +kernel
theorem d_Mo_home_2 : decode b_Mo_home 2 = .ok (.putfield 53, 3) := by decide +kernel
theorem d_Mo_home_5 : decode b_Mo_home 5 = .ok (.aload_n 0, 1) := by decide +kernel
theorem d_Mo_home_6 : decode b_Mo_home 6 = .ok (.iload_n 1, 1) := by decide +kernel
theorem d_Mo_home_7 : decode b_Mo_home 7 = .ok (.invokevirtual 64, 3) := by decide +kernel
theorem d_Mo_home_10 : decode b_Mo_home 10 = .ok (.ifCond .eq (14), 3) := by decide +kernel
theorem d_Mo_home_13 : decode b_Mo_home 13 = .ok (.aload_n 0, 1) := by decide +kernel
theorem d_Mo_home_14 : decode b_Mo_home 14 = .ok (.getfield 7, 3) := by decide +kernel
theorem d_Mo_home_17 : decode b_Mo_home 17 = .ok (.iload_n 1, 1) := by decide +kernel
theorem d_Mo_home_18 : decode b_Mo_home 18 = .ok (.iaload, 1) := by decide +kernel
theorem d_Mo_home_19 : decode b_Mo_home 19 = .ok (.bipush (12), 2) := by decide +kernel
theorem d_Mo_home_21 : decode b_Mo_home 21 = .ok (.if_icmp .le (5), 3) := by decide +kernel
theorem d_Mo_home_24 : decode b_Mo_home 24 = .ok (.iconst (-1), 1) := by decide +kernel
theorem d_Mo_home_25 : decode b_Mo_home 25 = .ok (.ireturn, 1) := by decide +kernel
theorem d_Mo_home_26 : decode b_Mo_home 26 = .ok (.aload_n 0, 1) := by decide +kernel
theorem d_Mo_home_27 : decode b_Mo_home 27 = .ok (.iload_n 1, 1) := by decide +kernel
theorem d_Mo_home_28 : decode b_Mo_home 28 = .ok (.invokevirtual 79, 3) := by decide +kernel
theorem d_Mo_home_31 : decode b_Mo_home 31 = .ok (.aload_n 0, 1) := by decide +kernel
theorem d_Mo_home_32 : decode b_Mo_home 32 = .ok (.getfield 41, 3) := by decide +kernel
theorem d_Mo_home_35 : decode b_Mo_home 35 = .ok (.iconst 0, 1) := by decide +kernel
