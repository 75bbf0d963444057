theorem d_Mo_partOf_27 : decode b_Mo_partOf 27 = .ok (.ireturn, 1) := by decide +kernel
theorem d_Mo_partOf_28 : decode b_Mo_partOf 28 = .ok (.iinc 3 (1), 3) := by decide +kernel
theorem d_Mo_partOf_31 : decode b_Mo_partOf 31 = .ok (.goto (-23), 3) := by decide +kernel
theorem d_Mo_partOf_34 : decode b_Mo_partOf 34 = .ok (.iconst (-1), 1) := by decide +kernel
theorem d_Mo_partOf_35 : decode b_Mo_partOf 35 = .ok (.ireturn, 1) := by decide +kernel
theorem d_Mo_least_0 : decode b_Mo_least 0 = .ok (.aload_n 0, 1) := by decide +kernel
theorem d_Mo_least_1 : decode b_Mo_least 1 = .ok (.iconst 0, 1) := by decide +kernel
theorem d_Mo_least_2 : decode b_Mo_least 2 = .ok (.putfield 53, 3) := by decide +kernel
theorem d_Mo_least_5 : decode b_Mo_least 5 = .ok (.aload_n 0, 1) := by decide +kernel
theorem d_Mo_least_6 : decode b_Mo_least 6 = .ok (.iload_n 1, 1) := by decide +kernel
theorem d_Mo_least_7 : decode b_Mo_least 7 = .ok (.invokevirtual 64, 3) := by decide +kernel
theorem d_Mo_least_10 : decode b_Mo_least 10 = .ok (.ifCond .eq (12), 3) := by decide +kernel
theorem d_Mo_least_13 : decode b_Mo_least 13 = .ok (.aload_n 0, 1) := by decide +kernel
theorem d_Mo_least_14 : decode b_Mo_least 14 = .ok (.getfield 57, 3) := by decide +kernel
theorem d_Mo_least_17 : decode b_Mo_least 17 = .ok (.bipush (12), 2) := by decide +kernel
theorem d_Mo_least_19 : decode b_Mo_least 19 = .ok (.if_icmp .ne (5), 3) := by decide +kernel
theorem d_Mo_least_22 : decode b_Mo_least 22 = .ok (.iconst (-1), 1) := by decide +kernel
theorem d_Mo_least_23 : decode b_Mo_least 23 = .ok (.ireturn, 1) := by decide +kernel
theorem d_Mo_least_24 : decode b_Mo_least 24 = .ok (.aload_n 0, 1) := by decide +kernel
theorem d_Mo_least_25 : decode b_Mo_least 25 = .ok (.iload_n 1, 1) := by decide +kernel
theorem d_Mo_least_26 : decode b_Mo_least 26 = .ok (.invokevirtual 104, 3) := by decide +kernel
theorem d_Mo_least_29 : decode b_Mo_least 29 = .ok (.aload_n 0, 1) := by decide +kernel
theorem d_Mo_least_30 : decode b_Mo_least 30 = .ok (.aload_n 0, 1) := by decide +kernel
theorem d_Mo_least_31 : decode b_Mo_least 31 = .ok (.getfield 87, 3) := by decide +kernel
theorem d_Mo_least_34 : decode b_Mo_least 34 = .ok (.aload_n 0, 1) := by decide +kernel
theorem d_Mo_least_35 : decode b_Mo_least 35 = .ok (.getfield 13, 3) := by decide +kernel
theorem d_Mo_least_38 : decode b_Mo_least 38 = .ok (.iload_n 1, 1) := by decide +kernel
theorem d_Mo_least_39 : decode b_Mo_least 39 = .ok (.iaload, 1) := by decide +kernel
theorem d_Mo_least_40 : decode b_Mo_least 40 = .ok (.invokevirtual 68, 3) := by decide +kernel
theorem d_Mo_least_43 : decode b_Mo_least 43 = .ok (.istore_n 2, 1) := by decide +kernel
theorem d_Mo_least_44 : decode b_Mo_least 44 = .ok (.iconst 0, 1) := by decide +kernel
theorem d_Mo_least_45 : decode b_Mo_least 45 = .ok (.istore_n 3, 1) := by decide +kernel
theorem d_Mo_least_46 : decode b_Mo_least 46 = .ok (.iload_n 3, 1) := by decide +kernel
theorem d_Mo_least_47 : decode b_Mo_least 47 = .ok (.aload_n 0, 1) := by decide +kernel
theorem d_Mo_least_48 : decode b_Mo_least 48 = .ok (.getfield 87, 3) := by decide +kernel
theorem d_Mo_least_51 : decode b_Mo_least 51 = .ok (.if_icmp .ge (111), 3) := by decide +kernel
theorem d_Mo_least_54 : decode b_Mo_least 54 = .ok (.iconst 0, 1) := by decide +kernel
theorem d_Mo_least_55 : decode b_Mo_least 55 = .ok (.istore 4, 2) := by decide +kernel
theorem d_Mo_least_57 : decode b_Mo_least 57 = .ok (.iload 4, 2) := by decide +kernel
theorem d_Mo_least_59 : decode b_Mo_least 59 = .ok (.aload_n 0, 1) := by decide +kernel
theorem d_Mo_least_60 : decode b_Mo_least 60 = .ok (.getfield 13, 3) := by decide +kernel
theorem d_Mo_least_63 : decode b_Mo_least 63 = .ok (.iload_n 1, 1) := by decide +kernel
theorem d_Mo_least_64 : decode b_Mo_least 64 = .ok (.iaload, 1) := by decide +kernel
theorem d_Mo_least_65 : decode b_Mo_least 65 = .ok (.if_icmp .ge (91), 3) := by decide +kernel
theorem d_Mo_least_68 : decode b_Mo_least 68 = .ok (.aload_n 0, 1) := by decide +kernel
theorem d_Mo_least_69 : decode b_Mo_least 69 = .ok (.getfield 16, 3) := by decide +kernel
theorem d_Mo_least_72 : decode b_Mo_least 72 = .ok (.sipush (160), 3) := by decide +kernel
theorem d_Mo_least_75 : decode b_Mo_least 75 = .ok (.iload_n 2, 1) := by decide +kernel
theorem d_Mo_least_76 : decode b_Mo_least 76 = .ok (.imul, 1) := by decide +kernel
theorem d_Mo_least_77 : decode b_Mo_least 77 = .ok (.iconst 4, 1) := by decide +kernel
theorem d_Mo_least_78 : decode b_Mo_least 78 = .ok (.iload_n 3, 1) := by decide +kernel
theorem d_Mo_least_79 : decode b_Mo_least 79 = .ok (.imul, 1) := by decide +kernel
theorem d_Mo_least_80 : decode b_Mo_least 80 = .ok (.iadd, 1) := by decide +kernel
theorem d_Mo_least_81 : decode b_Mo_least 81 = .ok (.iload 4, 2) := by decide +kernel
theorem d_Mo_least_83 : decode b_Mo_least 83 = .ok (.iadd, 1) := by decide +kernel
theorem d_Mo_least_84 : decode b_Mo_least 84 = .ok (.aload_n 0, 1) := by decide +kernel
theorem d_Mo_least_85 : decode b_Mo_least 85 = .ok (.aload_n 0, 1) := by decide +kernel
theorem d_Mo_least_86 : decode b_Mo_least 86 = .ok (.getfield 16, 3) := by decide +kernel
theorem d_Mo_least_89 : decode b_Mo_least 89 = .ok (.sipush (160), 3) := by decide +kernel
theorem d_Mo_least_92 : decode b_Mo_least 92 = .ok (.iload_n 1, 1) := by decide +kernel
theorem d_Mo_least_93 : decode b_Mo_least 93 = .ok (.imul, 1) := by decide +kernel
theorem d_Mo_least_94 : decode b_Mo_least 94 = .ok (.iconst 4, 1) := by decide +kernel
theorem d_Mo_least_95 : decode b_Mo_least 95 = .ok (.aload_n 0, 1) := by decide +kernel
theorem d_Mo_least_96 : decode b_Mo_least 96 = .ok (.getfield 29, 3) := by decide +kernel
theorem d_Mo_least_99 : decode b_Mo_least 99 = .ok (.iload_n 3, 1) := by decide +kernel
theorem d_Mo_least_100 : decode b_Mo_least 100 = .ok (.iaload, 1) := by decide +kernel
theorem d_Mo_least_101 : decode b_Mo_least 101 = .ok (.imul, 1) := by decide +kernel
theorem d_Mo_least_102 : decode b_Mo_least 102 = .ok (.iadd, 1) := by decide +kernel
theorem d_Mo_least_103 : decode b_Mo_least 103 = .ok (.iload 4, 2) := by decide +kernel
theorem d_Mo_least_105 : decode b_Mo_least 105 = .ok (.iadd, 1) := by decide +kernel
theorem d_Mo_least_106 : decode b_Mo_least 106 = .ok (.iaload, 1) := by decide +kernel
theorem d_Mo_least_107 : decode b_Mo_least 107 = .ok (.invokevirtual 107, 3) := by decide +kernel
theorem d_Mo_least_110 : decode b_Mo_least 110 = .ok (.iastore, 1) := by decide +kernel
theorem d_Mo_least_111 : decode b_Mo_least 111 = .ok (.aload_n 0, 1) := by decide +kernel
theorem d_Mo_least_112 : decode b_Mo_least 112 = .ok (.getfield 19, 3) := by decide +kernel
theorem d_Mo_least_115 : decode b_Mo_least 115 = .ok (.sipush (160), 3) := by decide +kernel
theorem d_Mo_least_118 : decode b_Mo_least 118 = .ok (.iload_n 2, 1) := by decide +kernel
theorem d_Mo_least_119 : decode b_Mo_least 119 = .ok (.imul, 1) := by decide +kernel
theorem d_Mo_least_120 : decode b_Mo_least 120 = .ok (.iconst 4, 1) := by decide +kernel
theorem d_Mo_least_121 : decode b_Mo_least 121 = .ok (.iload_n 3, 1) := by decide +kernel
theorem d_Mo_least_122 : decode b_Mo_least 122 = .ok (.imul, 1) := by decide +kernel
theorem d_Mo_least_123 : decode b_Mo_least 123 = .ok (.iadd, 1) := by decide +kernel
theorem d_Mo_least_124 : decode b_Mo_least 124 = .ok (.iload 4, 2) := by decide +kernel
theorem d_Mo_least_126 : decode b_Mo_least 126 = .ok (.iadd, 1) := by decide +kernel
theorem d_Mo_least_127 : decode b_Mo_least 127 = .ok (.aload_n 0, 1) := by decide +kernel
theorem d_Mo_least_128 : decode b_Mo_least 128 = .ok (.getfield 19, 3) := by decide +kernel
theorem d_Mo_least_131 : decode b_Mo_least 131 = .ok (.sipush (160), 3) := by decide +kernel
theorem d_Mo_least_134 : decode b_Mo_least 134 = .ok (.iload_n 1, 1) := by decide +kernel
theorem d_Mo_least_135 : decode b_Mo_least 135 = .ok (.imul, 1) := by decide +kernel
theorem d_Mo_least_136 : decode b_Mo_least 136 = .ok (.iconst 4, 1) := by decide +kernel
theorem d_Mo_least_137 : decode b_Mo_least 137 = .ok (.aload_n 0, 1) := by decide +kernel
theorem d_Mo_least_138 : decode b_Mo_least 138 = .ok (.getfield 29, 3) := by decide +kernel
theorem d_Mo_least_141 : decode b_Mo_least 141 = .ok (.iload_n 3, 1) := by decide +kernel
theorem d_Mo_least_142 : decode b_Mo_least 142 = .ok (.iaload, 1) := by decide +kernel
theorem d_Mo_least_143 : decode b_Mo_least 143 = .ok (.imul, 1) := by decide +kernel
theorem d_Mo_least_144 : decode b_Mo_least 144 = .ok (.iadd, 1) := by decide +kernel
theorem d_Mo_least_145 : decode b_Mo_least 145 = .ok (.iload 4, 2) := by decide +kernel
theorem d_Mo_least_147 : decode b_Mo_least 147 = .ok (.iadd, 1) := by decide +kernel
theorem d_Mo_least_148 : decode b_Mo_least 148 = .ok (.iaload, 1) := by decide +kernel
theorem d_Mo_least_149 : decode b_Mo_least 149 = .ok (.iastore, 1) := by decide +kernel
theorem d_Mo_least_150 : decode b_Mo_least 150 = .ok (.iinc 4 (1), 3) := by decide +kernel
theorem d_Mo_least_153 : decode b_Mo_least 153 = .ok (.goto (-96), 3) := by decide +kernel
theorem d_Mo_least_156 : decode b_Mo_least 156 = .ok (.iinc 3 (1), 3) := by decide +kernel
theorem d_Mo_least_159 : decode b_Mo_least 159 = .ok (.goto (-113), 3) := by decide +kernel
theorem d_Mo_least_162 : decode b_Mo_least 162 = .ok (.iload_n 2, 1) := by decide +kernel
theorem d_Mo_least_163 : decode b_Mo_least 163 = .ok (.ireturn, 1) := by decide +kernel
theorem d_Mo_part_0 : decode b_Mo_part 0 = .ok (.aload_n 0, 1) := by decide +kernel
theorem d_Mo_part_1 : decode b_Mo_part 1 = .ok (.iconst 0, 1) := by decide +kernel
theorem d_Mo_part_2 : decode b_Mo_part 2 = .ok (.putfield 53, 3) := by decide +kernel
theorem d_Mo_part_5 : decode b_Mo_part 5 = .ok (.aload_n 0, 1) := by decide +kernel
theorem d_Mo_part_6 : decode b_Mo_part 6 = .ok (.iload_n 1, 1) := by decide +kernel
theorem d_Mo_part_7 : decode b_Mo_part 7 = .ok (.iload_n 2, 1) := by decide +kernel
theorem d_Mo_part_8 : decode b_Mo_part 8 = .ok (.invokevirtual 72, 3) := by decide +kernel
theorem d_Mo_part_11 : decode b_Mo_part 11 = .ok (.ifCond .ne (5), 3) := by decide +kernel
theorem d_Mo_part_14 : decode b_Mo_part 14 = .ok (.iconst (-1), 1) := by decide +kernel
theorem d_Mo_part_15 : decode b_Mo_part 15 = .ok (.ireturn, 1) := by decide +kernel
theorem d_Mo_part_16 : decode b_Mo_part 16 = .ok (.aload_n 0, 1) := by decide +kernel
theorem d_Mo_part_17 : decode b_Mo_part 17 = .ok (.iload_n 1, 1) := by decide +kernel
theorem d_Mo_part_18 : decode b_Mo_part 18 = .ok (.invokevirtual 104, 3) := by decide +kernel
theorem d_Mo_part_21 : decode b_Mo_part 21 = .ok (.aload_n 0, 1) := by decide +kernel
theorem d_Mo_part_22 : decode b_Mo_part 22 = .ok (.iload_n 2, 1) := by decide +kernel
theorem d_Mo_part_23 : decode b_Mo_part 23 = .ok (.invokevirtual 107, 3) := by decide +kernel
theorem d_Mo_part_26 : decode b_Mo_part 26 = .ok (.ireturn, 1) := by decide +kernel
theorem d_Mo_ones_0 : decode b_Mo_ones 0 = .ok (.iconst 0, 1) := by decide +kernel
theorem d_Mo_ones_1 : decode b_Mo_ones 1 = .ok (.istore_n 1, 1) := by decide +kernel
theorem d_Mo_ones_2 : decode b_Mo_ones 2 = .ok (.iconst 0, 1) := by decide +kernel
theorem d_Mo_ones_3 : decode b_Mo_ones 3 = .ok (.istore_n 2, 1) := by decide +kernel
theorem d_Mo_ones_4 : decode b_Mo_ones 4 = .ok (.iload_n 2, 1) := by decide +kernel
theorem d_Mo_ones_5 : decode b_Mo_ones 5 = .ok (.bipush (12), 2) := by decide +kernel
theorem d_Mo_ones_7 : decode b_Mo_ones 7 = .ok (.if_icmp .ge (17), 3) := by decide +kernel
theorem d_Mo_ones_10 : decode b_Mo_ones 10 = .ok (.iload_n 1, 1) := by decide +kernel
theorem d_Mo_ones_11 : decode b_Mo_ones 11 = .ok (.iload_n 0, 1) := by decide +kernel
theorem d_Mo_ones_12 : decode b_Mo_ones 12 = .ok (.iload_n 2, 1) := by decide +kernel
theorem d_Mo_ones_13 : decode b_Mo_ones 13 = .ok (.ishr, 1) := by decide +kernel
theorem d_Mo_ones_14 : decode b_Mo_ones 14 = .ok (.iconst 1, 1) := by decide +kernel
theorem d_Mo_ones_15 : decode b_Mo_ones 15 = .ok (.iand, 1) := by decide +kernel
theorem d_Mo_ones_16 : decode b_Mo_ones 16 = .ok (.iadd, 1) := by decide +kernel
theorem d_Mo_ones_17 : decode b_Mo_ones 17 = .ok (.istore_n 1, 1) := by decide +kernel
theorem d_Mo_ones_18 : decode b_Mo_ones 18 = .ok (.iinc 2 (1), 3) := by decide +kernel
theorem d_Mo_ones_21 : decode b_Mo_ones 21 = .ok (.goto (-17), 3) := by decide +kernel
theorem d_Mo_ones_24 : decode b_Mo_ones 24 = .ok (.iload_n 1, 1) := by decide +kernel
theorem d_Mo_ones_25 : decode b_Mo_ones 25 = .ok (.ireturn, 1) := by decide +kernel
theorem d_Mo_moved_0 : decode b_Mo_moved 0 = .ok (.iconst 0, 1) := by decide +kernel
theorem d_Mo_moved_1 : decode b_Mo_moved 1 = .ok (.istore 4, 2) := by decide +kernel
theorem d_Mo_moved_3 : decode b_Mo_moved 3 = .ok (.iconst 0, 1) := by decide +kernel
theorem d_Mo_moved_4 : decode b_Mo_moved 4 = .ok (.istore 5, 2) := by decide +kernel
theorem d_Mo_moved_6 : decode b_Mo_moved 6 = .ok (.iload 5, 2) := by decide +kernel
theorem d_Mo_moved_8 : decode b_Mo_moved 8 = .ok (.aload_n 0, 1) := by decide +kernel
theorem d_Mo_moved_9 : decode b_Mo_moved 9 = .ok (.getfield 7, 3) := by decide +kernel
theorem d_Mo_moved_12 : decode b_Mo_moved 12 = .ok (.iload_n 1, 1) := by decide +kernel
theorem d_Mo_moved_13 : decode b_Mo_moved 13 = .ok (.iaload, 1) := by decide +kernel
theorem d_Mo_moved_14 : decode b_Mo_moved 14 = .ok (.if_icmp .ge (47), 3) := by decide +kernel
theorem d_Mo_moved_17 : decode b_Mo_moved 17 = .ok (.iload 4, 2) := by decide +kernel
theorem d_Mo_moved_19 : decode b_Mo_moved 19 = .ok (.iload_n 2, 1) := by decide +kernel
theorem d_Mo_moved_20 : decode b_Mo_moved 20 = .ok (.iload 5, 2) := by decide +kernel
theorem d_Mo_moved_22 : decode b_Mo_moved 22 = .ok (.ishr, 1) := by decide +kernel
theorem d_Mo_moved_23 : decode b_Mo_moved 23 = .ok (.iconst 1, 1) := by decide +kernel
theorem d_Mo_moved_24 : decode b_Mo_moved 24 = .ok (.iand, 1) := by decide +kernel
theorem d_Mo_moved_25 : decode b_Mo_moved 25 = .ok (.iconst 1, 1) := by decide +kernel
theorem d_Mo_moved_26 : decode b_Mo_moved 26 = .ok (.if_icmp .ne (25), 3) := by decide +kernel
theorem d_Mo_moved_29 : decode b_Mo_moved 29 = .ok (.iconst 1, 1) := by decide +kernel
theorem d_Mo_moved_30 : decode b_Mo_moved 30 = .ok (.aload_n 0, 1) := by decide +kernel
theorem d_Mo_moved_31 : decode b_Mo_moved 31 = .ok (.getfield 16, 3) := by decide +kernel
theorem d_Mo_moved_34 : decode b_Mo_moved 34 = .ok (.sipush (160), 3) := by decide +kernel
theorem d_Mo_moved_37 : decode b_Mo_moved 37 = .ok (.iload_n 1, 1) := by decide +kernel
theorem d_Mo_moved_38 : decode b_Mo_moved 38 = .ok (.imul, 1) := by decide +kernel
theorem d_Mo_moved_39 : decode b_Mo_moved 39 = .ok (.iconst 4, 1) := by decide +kernel
theorem d_Mo_moved_40 : decode b_Mo_moved 40 = .ok (.iload 5, 2) := by decide +kernel
theorem d_Mo_moved_42 : decode b_Mo_moved 42 = .ok (.imul, 1) := by decide +kernel
theorem d_Mo_moved_43 : decode b_Mo_moved 43 = .ok (.iadd, 1) := by decide +kernel
theorem d_Mo_moved_44 : decode b_Mo_moved 44 = .ok (.iload_n 3, 1) := by decide +kernel
theorem d_Mo_moved_45 : decode b_Mo_moved 45 = .ok (.iadd, 1) := by decide +kernel
theorem d_Mo_moved_46 : decode b_Mo_moved 46 = .ok (.iaload, 1) := by decide +kernel
theorem d_Mo_moved_47 : decode b_Mo_moved 47 = .ok (.ishl, 1) := by decide +kernel
theorem d_Mo_moved_48 : decode b_Mo_moved 48 = .ok (.goto (4), 3) := by decide +kernel
theorem d_Mo_moved_51 : decode b_Mo_moved 51 = .ok (.iconst 0, 1) := by decide +kernel
theorem d_Mo_moved_52 : decode b_Mo_moved 52 = .ok (.ior, 1) := by decide +kernel
theorem d_Mo_moved_53 : decode b_Mo_moved 53 = .ok (.istore 4, 2) := by decide +kernel
theorem d_Mo_moved_55 : decode b_Mo_moved 55 = .ok (.iinc 5 (1), 3) := by decide +kernel
theorem d_Mo_moved_58 : decode b_Mo_moved 58 = .ok (.goto (-52), 3) := by decide +kernel
theorem d_Mo_moved_61 : decode b_Mo_moved 61 = .ok (.iload 4, 2) := by decide +kernel
theorem d_Mo_moved_63 : decode b_Mo_moved 63 = .ok (.ireturn, 1) := by decide +kernel
theorem d_Mo_reset_0 : decode b_Mo_reset 0 = .ok (.aload_n 0, 1) := by decide +kernel
theorem d_Mo_reset_1 : decode b_Mo_reset 1 = .ok (.iconst 0, 1) := by decide +kernel
theorem d_Mo_reset_2 : decode b_Mo_reset 2 = .ok (.putfield 53, 3) := by decide +kernel
theorem d_Mo_reset_5 : decode b_Mo_reset 5 = .ok (.aload_n 0, 1) := by decide +kernel
theorem d_Mo_reset_6 : decode b_Mo_reset 6 = .ok (.iload_n 1, 1) := by decide +kernel
theorem d_Mo_reset_7 : decode b_Mo_reset 7 = .ok (.invokevirtual 64, 3) := by decide +kernel
theorem d_Mo_reset_10 : decode b_Mo_reset 10 = .ok (.ifCond .eq (14), 3) := by decide +kernel
theorem d_Mo_reset_13 : decode b_Mo_reset 13 = .ok (.aload_n 0, 1) := by decide +kernel
theorem d_Mo_reset_14 : decode b_Mo_reset 14 = .ok (.getfield 7, 3) := by decide +kernel
theorem d_Mo_reset_17 : decode b_Mo_reset 17 = .ok (.iload_n 1, 1) := by decide +kernel
theorem d_Mo_reset_18 : decode b_Mo_reset 18 = .ok (.iaload, 1) := by decide +kernel
theorem d_Mo_reset_19 : decode b_Mo_reset 19 = .ok (.bipush (12), 2) := by decide +kernel
theorem d_Mo_reset_21 : decode b_Mo_reset 21 = .ok (.if_icmp .le (5), 3) := by decide +kernel
theorem d_Mo_reset_24 : decode b_Mo_reset 24 = .ok (.iconst (-1), 1) := by decide +kernel
theorem d_Mo_reset_25 : decode b_Mo_reset 25 = .ok (.ireturn, 1) := by decide +kernel
theorem d_Mo_reset_26 : decode b_Mo_reset 26 = .ok (.aload_n 0, 1) := by decide +kernel
theorem d_Mo_reset_27 : decode b_Mo_reset 27 = .ok (.iconst 1, 1) := by decide +kernel
theorem d_Mo_reset_28 : decode b_Mo_reset 28 = .ok (.aload_n 0, 1) := by decide +kernel
