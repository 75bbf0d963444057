theorem d_MT_seekHomed_13 : decode b_MT_seekHomed 13 = .ok (.invokevirtual 177, 3) := by decide +kernel
theorem d_MT_seekHomed_16 : decode b_MT_seekHomed 16 = .ok (.aload_n 0, 1) := by decide +kernel
theorem d_MT_seekHomed_17 : decode b_MT_seekHomed 17 = .ok (.getfield 18, 3) := by decide +kernel
theorem d_MT_seekHomed_20 : decode b_MT_seekHomed 20 = .ok (.iconst 0, 1) := by decide +kernel
theorem d_MT_seekHomed_21 : decode b_MT_seekHomed 21 = .ok (.iconst 0, 1) := by decide +kernel
theorem d_MT_seekHomed_22 : decode b_MT_seekHomed 22 = .ok (.invokevirtual 166, 3) := by decide +kernel
theorem d_MT_seekHomed_25 : decode b_MT_seekHomed 25 = .ok (.istore_n 2, 1) := by decide +kernel
theorem d_MT_seekHomed_26 : decode b_MT_seekHomed 26 = .ok (.aload_n 0, 1) := by decide +kernel
theorem d_MT_seekHomed_27 : decode b_MT_seekHomed 27 = .ok (.getfield 25, 3) := by decide +kernel
theorem d_MT_seekHomed_30 : decode b_MT_seekHomed 30 = .ok (.invokevirtual 179, 3) := by decide +kernel
theorem d_MT_seekHomed_33 : decode b_MT_seekHomed 33 = .ok (.ifCond .eq (5), 3) := by decide +kernel
theorem d_MT_seekHomed_36 : decode b_MT_seekHomed 36 = .ok (.iload_n 2, 1) := by decide +kernel
theorem d_MT_seekHomed_37 : decode b_MT_seekHomed 37 = .ok (.ireturn, 1) := by decide +kernel
theorem d_MT_seekHomed_38 : decode b_MT_seekHomed 38 = .ok (.aload_n 0, 1) := by decide +kernel
theorem d_MT_seekHomed_39 : decode b_MT_seekHomed 39 = .ok (.getfield 25, 3) := by decide +kernel
theorem d_MT_seekHomed_42 : decode b_MT_seekHomed 42 = .ok (.invokevirtual 182, 3) := by decide +kernel
theorem d_MT_seekHomed_45 : decode b_MT_seekHomed 45 = .ok (.iconst 0, 1) := by decide +kernel
theorem d_MT_seekHomed_46 : decode b_MT_seekHomed 46 = .ok (.istore_n 3, 1) := by decide +kernel
theorem d_MT_seekHomed_47 : decode b_MT_seekHomed 47 = .ok (.iload_n 3, 1) := by decide +kernel
theorem d_MT_seekHomed_48 : decode b_MT_seekHomed 48 = .ok (.aload_n 0, 1) := by decide +kernel
theorem d_MT_seekHomed_49 : decode b_MT_seekHomed 49 = .ok (.getfield 25, 3) := by decide +kernel
theorem d_MT_seekHomed_52 : decode b_MT_seekHomed 52 = .ok (.getfield 185, 3) := by decide +kernel
theorem d_MT_seekHomed_55 : decode b_MT_seekHomed 55 = .ok (.if_icmp .ge (103), 3) := by decide +kernel
theorem d_MT_seekHomed_58 : decode b_MT_seekHomed 58 = .ok (.iload_n 3, 1) := by decide +kernel
theorem d_MT_seekHomed_59 : decode b_MT_seekHomed 59 = .ok (.sipush (300), 3) := by decide +kernel
theorem d_MT_seekHomed_62 : decode b_MT_seekHomed 62 = .ok (.if_icmp .ge (96), 3) := by decide +kernel
theorem d_MT_seekHomed_65 : decode b_MT_seekHomed 65 = .ok (.iconst 0, 1) := by decide +kernel
theorem d_MT_seekHomed_66 : decode b_MT_seekHomed 66 = .ok (.istore 4, 2) := by decide +kernel
theorem d_MT_seekHomed_68 : decode b_MT_seekHomed 68 = .ok (.iload 4, 2) := by decide +kernel
theorem d_MT_seekHomed_70 : decode b_MT_seekHomed 70 = .ok (.aload_n 1, 1) := by decide +kernel
theorem d_MT_seekHomed_71 : decode b_MT_seekHomed 71 = .ok (.getfield 85, 3) := by decide +kernel
theorem d_MT_seekHomed_74 : decode b_MT_seekHomed 74 = .ok (.if_icmp .ge (78), 3) := by decide +kernel
theorem d_MT_seekHomed_77 : decode b_MT_seekHomed 77 = .ok (.aload_n 0, 1) := by decide +kernel
theorem d_MT_seekHomed_78 : decode b_MT_seekHomed 78 = .ok (.getfield 25, 3) := by decide +kernel
theorem d_MT_seekHomed_81 : decode b_MT_seekHomed 81 = .ok (.getfield 185, 3) := by decide +kernel
theorem d_MT_seekHomed_84 : decode b_MT_seekHomed 84 = .ok (.sipush (300), 3) := by decide +kernel
theorem d_MT_seekHomed_87 : decode b_MT_seekHomed 87 = .ok (.if_icmp .lt (5), 3) := by decide +kernel
theorem d_MT_seekHomed_90 : decode b_MT_seekHomed 90 = .ok (.iconst (-1), 1) := by decide +kernel
theorem d_MT_seekHomed_91 : decode b_MT_seekHomed 91 = .ok (.ireturn, 1) := by decide +kernel
theorem d_MT_seekHomed_92 : decode b_MT_seekHomed 92 = .ok (.aload_n 0, 1) := by decide +kernel
theorem d_MT_seekHomed_93 : decode b_MT_seekHomed 93 = .ok (.getfield 25, 3) := by decide +kernel
theorem d_MT_seekHomed_96 : decode b_MT_seekHomed 96 = .ok (.aload_n 1, 1) := by decide +kernel
theorem d_MT_seekHomed_97 : decode b_MT_seekHomed 97 = .ok (.iload_n 3, 1) := by decide +kernel
theorem d_MT_seekHomed_98 : decode b_MT_seekHomed 98 = .ok (.iload 4, 2) := by decide +kernel
theorem d_MT_seekHomed_100 : decode b_MT_seekHomed 100 = .ok (.invokevirtual 186, 3) := by decide +kernel
theorem d_MT_seekHomed_103 : decode b_MT_seekHomed 103 = .ok (.aload_n 0, 1) := by decide +kernel
theorem d_MT_seekHomed_104 : decode b_MT_seekHomed 104 = .ok (.getfield 25, 3) := by decide +kernel
theorem d_MT_seekHomed_107 : decode b_MT_seekHomed 107 = .ok (.invokevirtual 190, 3) := by decide +kernel
theorem d_MT_seekHomed_110 : decode b_MT_seekHomed 110 = .ok (.ifCond .eq (6), 3) := by decide +kernel
theorem d_MT_seekHomed_113 : decode b_MT_seekHomed 113 = .ok (.goto (33), 3) := by decide +kernel
theorem d_MT_seekHomed_116 : decode b_MT_seekHomed 116 = .ok (.aload_n 0, 1) := by decide +kernel
theorem d_MT_seekHomed_117 : decode b_MT_seekHomed 117 = .ok (.getfield 18, 3) := by decide +kernel
theorem d_MT_seekHomed_120 : decode b_MT_seekHomed 120 = .ok (.iload_n 3, 1) := by decide +kernel
theorem d_MT_seekHomed_121 : decode b_MT_seekHomed 121 = .ok (.iload 4, 2) := by decide +kernel
theorem d_MT_seekHomed_123 : decode b_MT_seekHomed 123 = .ok (.invokevirtual 166, 3) := by decide +kernel
theorem d_MT_seekHomed_126 : decode b_MT_seekHomed 126 = .ok (.istore_n 2, 1) := by decide +kernel
theorem d_MT_seekHomed_127 : decode b_MT_seekHomed 127 = .ok (.aload_n 0, 1) := by decide +kernel
theorem d_MT_seekHomed_128 : decode b_MT_seekHomed 128 = .ok (.getfield 25, 3) := by decide +kernel
theorem d_MT_seekHomed_131 : decode b_MT_seekHomed 131 = .ok (.invokevirtual 179, 3) := by decide +kernel
theorem d_MT_seekHomed_134 : decode b_MT_seekHomed 134 = .ok (.ifCond .eq (5), 3) := by decide +kernel
theorem d_MT_seekHomed_137 : decode b_MT_seekHomed 137 = .ok (.iload_n 2, 1) := by decide +kernel
theorem d_MT_seekHomed_138 : decode b_MT_seekHomed 138 = .ok (.ireturn, 1) := by decide +kernel
theorem d_MT_seekHomed_139 : decode b_MT_seekHomed 139 = .ok (.aload_n 0, 1) := by decide +kernel
theorem d_MT_seekHomed_140 : decode b_MT_seekHomed 140 = .ok (.getfield 25, 3) := by decide +kernel
theorem d_MT_seekHomed_143 : decode b_MT_seekHomed 143 = .ok (.invokevirtual 182, 3) := by decide +kernel
theorem d_MT_seekHomed_146 : decode b_MT_seekHomed 146 = .ok (.iinc 4 (1), 3) := by decide +kernel
theorem d_MT_seekHomed_149 : decode b_MT_seekHomed 149 = .ok (.goto (-81), 3) := by decide +kernel
theorem d_MT_seekHomed_152 : decode b_MT_seekHomed 152 = .ok (.iinc 3 (1), 3) := by decide +kernel
theorem d_MT_seekHomed_155 : decode b_MT_seekHomed 155 = .ok (.goto (-108), 3) := by decide +kernel
theorem d_MT_seekHomed_158 : decode b_MT_seekHomed 158 = .ok (.iconst (-1), 1) := by decide +kernel
theorem d_MT_seekHomed_159 : decode b_MT_seekHomed 159 = .ok (.ireturn, 1) := by decide +kernel
theorem d_MT_numberPairs_0 : decode b_MT_numberPairs 0 = .ok (.aload_n 0, 1) := by decide +kernel
theorem d_MT_numberPairs_1 : decode b_MT_numberPairs 1 = .ok (.getfield 18, 3) := by decide +kernel
theorem d_MT_numberPairs_4 : decode b_MT_numberPairs 4 = .ok (.sipush (1600), 3) := by decide +kernel
theorem d_MT_numberPairs_7 : decode b_MT_numberPairs 7 = .ok (.invokevirtual 156, 3) := by decide +kernel
theorem d_MT_numberPairs_10 : decode b_MT_numberPairs 10 = .ok (.aload_n 0, 1) := by decide +kernel
theorem d_MT_numberPairs_11 : decode b_MT_numberPairs 11 = .ok (.getfield 18, 3) := by decide +kernel
theorem d_MT_numberPairs_14 : decode b_MT_numberPairs 14 = .ok (.iconst 0, 1) := by decide +kernel
theorem d_MT_numberPairs_15 : decode b_MT_numberPairs 15 = .ok (.iconst 0, 1) := by decide +kernel
theorem d_MT_numberPairs_16 : decode b_MT_numberPairs 16 = .ok (.invokestatic 159, 3) := by decide +kernel
theorem d_MT_numberPairs_19 : decode b_MT_numberPairs 19 = .ok (.iconst 0, 1) := by decide +kernel
theorem d_MT_numberPairs_20 : decode b_MT_numberPairs 20 = .ok (.iconst 0, 1) := by decide +kernel
theorem d_MT_numberPairs_21 : decode b_MT_numberPairs 21 = .ok (.invokevirtual 162, 3) := by decide +kernel
theorem d_MT_numberPairs_24 : decode b_MT_numberPairs 24 = .ok (.iconst 0, 1) := by decide +kernel
theorem d_MT_numberPairs_25 : decode b_MT_numberPairs 25 = .ok (.istore_n 3, 1) := by decide +kernel
theorem d_MT_numberPairs_26 : decode b_MT_numberPairs 26 = .ok (.iload_n 3, 1) := by decide +kernel
theorem d_MT_numberPairs_27 : decode b_MT_numberPairs 27 = .ok (.aload_n 0, 1) := by decide +kernel
theorem d_MT_numberPairs_28 : decode b_MT_numberPairs 28 = .ok (.getfield 18, 3) := by decide +kernel
theorem d_MT_numberPairs_31 : decode b_MT_numberPairs 31 = .ok (.getfield 101, 3) := by decide +kernel
theorem d_MT_numberPairs_34 : decode b_MT_numberPairs 34 = .ok (.if_icmp .ge (70), 3) := by decide +kernel
theorem d_MT_numberPairs_37 : decode b_MT_numberPairs 37 = .ok (.iload_n 3, 1) := by decide +kernel
theorem d_MT_numberPairs_38 : decode b_MT_numberPairs 38 = .ok (.bipush (40), 2) := by decide +kernel
theorem d_MT_numberPairs_40 : decode b_MT_numberPairs 40 = .ok (.if_icmp .ge (64), 3) := by decide +kernel
theorem d_MT_numberPairs_43 : decode b_MT_numberPairs 43 = .ok (.iconst 0, 1) := by decide +kernel
theorem d_MT_numberPairs_44 : decode b_MT_numberPairs 44 = .ok (.istore 4, 2) := by decide +kernel
theorem d_MT_numberPairs_46 : decode b_MT_numberPairs 46 = .ok (.iload 4, 2) := by decide +kernel
theorem d_MT_numberPairs_48 : decode b_MT_numberPairs 48 = .ok (.aload_n 1, 1) := by decide +kernel
theorem d_MT_numberPairs_49 : decode b_MT_numberPairs 49 = .ok (.getfield 85, 3) := by decide +kernel
theorem d_MT_numberPairs_52 : decode b_MT_numberPairs 52 = .ok (.if_icmp .ge (46), 3) := by decide +kernel
theorem d_MT_numberPairs_55 : decode b_MT_numberPairs 55 = .ok (.aload_n 1, 1) := by decide +kernel
theorem d_MT_numberPairs_56 : decode b_MT_numberPairs 56 = .ok (.aload_n 2, 1) := by decide +kernel
theorem d_MT_numberPairs_57 : decode b_MT_numberPairs 57 = .ok (.aload_n 0, 1) := by decide +kernel
theorem d_MT_numberPairs_58 : decode b_MT_numberPairs 58 = .ok (.getfield 18, 3) := by decide +kernel
theorem d_MT_numberPairs_61 : decode b_MT_numberPairs 61 = .ok (.iload_n 3, 1) := by decide +kernel
theorem d_MT_numberPairs_62 : decode b_MT_numberPairs 62 = .ok (.invokevirtual 105, 3) := by decide +kernel
theorem d_MT_numberPairs_65 : decode b_MT_numberPairs 65 = .ok (.iload 4, 2) := by decide +kernel
theorem d_MT_numberPairs_67 : decode b_MT_numberPairs 67 = .ok (.invokestatic 135, 3) := by decide +kernel
theorem d_MT_numberPairs_70 : decode b_MT_numberPairs 70 = .ok (.istore 5, 2) := by decide +kernel
theorem d_MT_numberPairs_72 : decode b_MT_numberPairs 72 = .ok (.iload 5, 2) := by decide +kernel
theorem d_MT_numberPairs_74 : decode b_MT_numberPairs 74 = .ok (.iconst (-1), 1) := by decide +kernel
theorem d_MT_numberPairs_75 : decode b_MT_numberPairs 75 = .ok (.if_icmp .ne (5), 3) := by decide +kernel
theorem d_MT_numberPairs_78 : decode b_MT_numberPairs 78 = .ok (.iconst 0, 1) := by decide +kernel
theorem d_MT_numberPairs_79 : decode b_MT_numberPairs 79 = .ok (.ireturn, 1) := by decide +kernel
theorem d_MT_numberPairs_80 : decode b_MT_numberPairs 80 = .ok (.aload_n 0, 1) := by decide +kernel
theorem d_MT_numberPairs_81 : decode b_MT_numberPairs 81 = .ok (.getfield 18, 3) := by decide +kernel
theorem d_MT_numberPairs_84 : decode b_MT_numberPairs 84 = .ok (.iload 5, 2) := by decide +kernel
theorem d_MT_numberPairs_86 : decode b_MT_numberPairs 86 = .ok (.iload_n 3, 1) := by decide +kernel
theorem d_MT_numberPairs_87 : decode b_MT_numberPairs 87 = .ok (.iload 4, 2) := by decide +kernel
theorem d_MT_numberPairs_89 : decode b_MT_numberPairs 89 = .ok (.invokevirtual 162, 3) := by decide +kernel
theorem d_MT_numberPairs_92 : decode b_MT_numberPairs 92 = .ok (.iinc 4 (1), 3) := by decide +kernel
theorem d_MT_numberPairs_95 : decode b_MT_numberPairs 95 = .ok (.goto (-49), 3) := by decide +kernel
theorem d_MT_numberPairs_98 : decode b_MT_numberPairs 98 = .ok (.iinc 3 (1), 3) := by decide +kernel
theorem d_MT_numberPairs_101 : decode b_MT_numberPairs 101 = .ok (.goto (-75), 3) := by decide +kernel
theorem d_MT_numberPairs_104 : decode b_MT_numberPairs 104 = .ok (.aload_n 0, 1) := by decide +kernel
theorem d_MT_numberPairs_105 : decode b_MT_numberPairs 105 = .ok (.getfield 18, 3) := by decide +kernel
theorem d_MT_numberPairs_108 : decode b_MT_numberPairs 108 = .ok (.getfield 101, 3) := by decide +kernel
theorem d_MT_numberPairs_111 : decode b_MT_numberPairs 111 = .ok (.bipush (40), 2) := by decide +kernel
theorem d_MT_numberPairs_113 : decode b_MT_numberPairs 113 = .ok (.if_icmp .gt (7), 3) := by decide +kernel
theorem d_MT_numberPairs_116 : decode b_MT_numberPairs 116 = .ok (.iconst 1, 1) := by decide +kernel
theorem d_MT_numberPairs_117 : decode b_MT_numberPairs 117 = .ok (.goto (4), 3) := by decide +kernel
theorem d_MT_numberPairs_120 : decode b_MT_numberPairs 120 = .ok (.iconst 0, 1) := by decide +kernel
theorem d_MT_numberPairs_121 : decode b_MT_numberPairs 121 = .ok (.ireturn, 1) := by decide +kernel
theorem d_MT_pairBehind_0 : decode b_MT_pairBehind 0 = .ok (.aload_n 0, 1) := by decide +kernel
theorem d_MT_pairBehind_1 : decode b_MT_pairBehind 1 = .ok (.iload_n 2, 1) := by decide +kernel
theorem d_MT_pairBehind_2 : decode b_MT_pairBehind 2 = .ok (.invokestatic 132, 3) := by decide +kernel
theorem d_MT_pairBehind_5 : decode b_MT_pairBehind 5 = .ok (.iload_n 3, 1) := by decide +kernel
theorem d_MT_pairBehind_6 : decode b_MT_pairBehind 6 = .ok (.invokevirtual 64, 3) := by decide +kernel
theorem d_MT_pairBehind_9 : decode b_MT_pairBehind 9 = .ok (.istore 4, 2) := by decide +kernel
theorem d_MT_pairBehind_11 : decode b_MT_pairBehind 11 = .ok (.aload_n 1, 1) := by decide +kernel
theorem d_MT_pairBehind_12 : decode b_MT_pairBehind 12 = .ok (.iload 4, 2) := by decide +kernel
theorem d_MT_pairBehind_14 : decode b_MT_pairBehind 14 = .ok (.invokevirtual 53, 3) := by decide +kernel
theorem d_MT_pairBehind_17 : decode b_MT_pairBehind 17 = .ok (.ifCond .ne (5), 3) := by decide +kernel
theorem d_MT_pairBehind_20 : decode b_MT_pairBehind 20 = .ok (.iconst (-1), 1) := by decide +kernel
theorem d_MT_pairBehind_21 : decode b_MT_pairBehind 21 = .ok (.ireturn, 1) := by decide +kernel
theorem d_MT_pairBehind_22 : decode b_MT_pairBehind 22 = .ok (.aload_n 0, 1) := by decide +kernel
theorem d_MT_pairBehind_23 : decode b_MT_pairBehind 23 = .ok (.iload_n 2, 1) := by decide +kernel
theorem d_MT_pairBehind_24 : decode b_MT_pairBehind 24 = .ok (.invokestatic 132, 3) := by decide +kernel
theorem d_MT_pairBehind_27 : decode b_MT_pairBehind 27 = .ok (.iload_n 3, 1) := by decide +kernel
theorem d_MT_pairBehind_28 : decode b_MT_pairBehind 28 = .ok (.invokevirtual 60, 3) := by decide +kernel
theorem d_MT_pairBehind_31 : decode b_MT_pairBehind 31 = .ok (.aload_n 1, 1) := by decide +kernel
theorem d_MT_pairBehind_32 : decode b_MT_pairBehind 32 = .ok (.iload_n 2, 1) := by decide +kernel
theorem d_MT_pairBehind_33 : decode b_MT_pairBehind 33 = .ok (.invokestatic 139, 3) := by decide +kernel
theorem d_MT_pairBehind_36 : decode b_MT_pairBehind 36 = .ok (.iload 4, 2) := by decide +kernel
theorem d_MT_pairBehind_38 : decode b_MT_pairBehind 38 = .ok (.invokevirtual 60, 3) := by decide +kernel
theorem d_MT_pairBehind_41 : decode b_MT_pairBehind 41 = .ok (.invokestatic 159, 3) := by decide +kernel
theorem d_MT_pairBehind_44 : decode b_MT_pairBehind 44 = .ok (.ireturn, 1) := by decide +kernel
theorem d_MT_pairOf_0 : decode b_MT_pairOf 0 = .ok (.iload_n 0, 1) := by decide +kernel
theorem d_MT_pairOf_1 : decode b_MT_pairOf 1 = .ok (.bipush (40), 2) := by decide +kernel
theorem d_MT_pairOf_3 : decode b_MT_pairOf 3 = .ok (.imul, 1) := by decide +kernel
theorem d_MT_pairOf_4 : decode b_MT_pairOf 4 = .ok (.iload_n 1, 1) := by decide +kernel
theorem d_MT_pairOf_5 : decode b_MT_pairOf 5 = .ok (.iadd, 1) := by decide +kernel
theorem d_MT_pairOf_6 : decode b_MT_pairOf 6 = .ok (.ireturn, 1) := by decide +kernel
theorem d_MT_firstOf_0 : decode b_MT_firstOf 0 = .ok (.iload_n 0, 1) := by decide +kernel
theorem d_MT_firstOf_1 : decode b_MT_firstOf 1 = .ok (.bipush (40), 2) := by decide +kernel
theorem d_MT_firstOf_3 : decode b_MT_firstOf 3 = .ok (.idiv, 1) := by decide +kernel
theorem d_MT_firstOf_4 : decode b_MT_firstOf 4 = .ok (.ireturn, 1) := by decide +kernel
theorem d_MT_secondOf_0 : decode b_MT_secondOf 0 = .ok (.iload_n 0, 1) := by decide +kernel
theorem d_MT_secondOf_1 : decode b_MT_secondOf 1 = .ok (.bipush (40), 2) := by decide +kernel
theorem d_MT_secondOf_3 : decode b_MT_secondOf 3 = .ok (.irem, 1) := by decide +kernel
theorem d_MT_secondOf_4 : decode b_MT_secondOf 4 = .ok (.ireturn, 1) := by decide +kernel
