theorem d_Mo_tell_68 : decode b_Mo_tell 68 = .ok (.getfield 32, 3) := by decide +kernel
theorem d_Mo_tell_71 : decode b_Mo_tell 71 = .ok (.iload 4, 2) := by decide +kernel
theorem d_Mo_tell_73 : decode b_Mo_tell 73 = .ok (.iaload, 1) := by decide +kernel
theorem d_Mo_tell_74 : decode b_Mo_tell 74 = .ok (.iconst (-1), 1) := by decide +kernel
theorem d_Mo_tell_75 : decode b_Mo_tell 75 = .ok (.if_icmp .eq (31), 3) := by decide +kernel
theorem d_Mo_tell_78 : decode b_Mo_tell 78 = .ok (.iinc 3 (-1), 3) := by decide +kernel
theorem d_Mo_tell_81 : decode b_Mo_tell 81 = .ok (.aload_n 0, 1) := by decide +kernel
theorem d_Mo_tell_82 : decode b_Mo_tell 82 = .ok (.getfield 22, 3) := by decide +kernel
theorem d_Mo_tell_85 : decode b_Mo_tell 85 = .ok (.iload_n 3, 1) := by decide +kernel
theorem d_Mo_tell_86 : decode b_Mo_tell 86 = .ok (.aload_n 0, 1) := by decide +kernel
theorem d_Mo_tell_87 : decode b_Mo_tell 87 = .ok (.getfield 35, 3) := by decide +kernel
theorem d_Mo_tell_90 : decode b_Mo_tell 90 = .ok (.iload 4, 2) := by decide +kernel
theorem d_Mo_tell_92 : decode b_Mo_tell 92 = .ok (.iaload, 1) := by decide +kernel
theorem d_Mo_tell_93 : decode b_Mo_tell 93 = .ok (.iastore, 1) := by decide +kernel
theorem d_Mo_tell_94 : decode b_Mo_tell 94 = .ok (.aload_n 0, 1) := by decide +kernel
theorem d_Mo_tell_95 : decode b_Mo_tell 95 = .ok (.getfield 32, 3) := by decide +kernel
theorem d_Mo_tell_98 : decode b_Mo_tell 98 = .ok (.iload 4, 2) := by decide +kernel
theorem d_Mo_tell_100 : decode b_Mo_tell 100 = .ok (.iaload, 1) := by decide +kernel
theorem d_Mo_tell_101 : decode b_Mo_tell 101 = .ok (.istore 4, 2) := by decide +kernel
theorem d_Mo_tell_103 : decode b_Mo_tell 103 = .ok (.goto (-36), 3) := by decide +kernel
theorem d_Mo_tell_106 : decode b_Mo_tell 106 = .ok (.return_, 1) := by decide +kernel
theorem d_Mo_alike_0 : decode b_Mo_alike 0 = .ok (.aload_n 0, 1) := by decide +kernel
theorem d_Mo_alike_1 : decode b_Mo_alike 1 = .ok (.iconst 0, 1) := by decide +kernel
theorem d_Mo_alike_2 : decode b_Mo_alike 2 = .ok (.putfield 53, 3) := by decide +kernel
theorem d_Mo_alike_5 : decode b_Mo_alike 5 = .ok (.aload_n 0, 1) := by decide +kernel
theorem d_Mo_alike_6 : decode b_Mo_alike 6 = .ok (.iload_n 1, 1) := by decide +kernel
theorem d_Mo_alike_7 : decode b_Mo_alike 7 = .ok (.iload_n 2, 1) := by decide +kernel
theorem d_Mo_alike_8 : decode b_Mo_alike 8 = .ok (.invokevirtual 72, 3) := by decide +kernel
theorem d_Mo_alike_11 : decode b_Mo_alike 11 = .ok (.ifCond .eq (28), 3) := by decide +kernel
theorem d_Mo_alike_14 : decode b_Mo_alike 14 = .ok (.aload_n 0, 1) := by decide +kernel
theorem d_Mo_alike_15 : decode b_Mo_alike 15 = .ok (.iload_n 3, 1) := by decide +kernel
theorem d_Mo_alike_16 : decode b_Mo_alike 16 = .ok (.iload 4, 2) := by decide +kernel
theorem d_Mo_alike_18 : decode b_Mo_alike 18 = .ok (.invokevirtual 72, 3) := by decide +kernel
theorem d_Mo_alike_21 : decode b_Mo_alike 21 = .ok (.ifCond .eq (18), 3) := by decide +kernel
theorem d_Mo_alike_24 : decode b_Mo_alike 24 = .ok (.aload_n 0, 1) := by decide +kernel
theorem d_Mo_alike_25 : decode b_Mo_alike 25 = .ok (.getfield 13, 3) := by decide +kernel
theorem d_Mo_alike_28 : decode b_Mo_alike 28 = .ok (.iload_n 1, 1) := by decide +kernel
theorem d_Mo_alike_29 : decode b_Mo_alike 29 = .ok (.iaload, 1) := by decide +kernel
theorem d_Mo_alike_30 : decode b_Mo_alike 30 = .ok (.aload_n 0, 1) := by decide +kernel
theorem d_Mo_alike_31 : decode b_Mo_alike 31 = .ok (.getfield 13, 3) := by decide +kernel
theorem d_Mo_alike_34 : decode b_Mo_alike 34 = .ok (.iload_n 3, 1) := by decide +kernel
theorem d_Mo_alike_35 : decode b_Mo_alike 35 = .ok (.iaload, 1) := by decide +kernel
theorem d_Mo_alike_36 : decode b_Mo_alike 36 = .ok (.if_icmp .eq (10), 3) := by decide +kernel
theorem d_Mo_alike_39 : decode b_Mo_alike 39 = .ok (.aload_n 0, 1) := by decide +kernel
theorem d_Mo_alike_40 : decode b_Mo_alike 40 = .ok (.iconst 1, 1) := by decide +kernel
theorem d_Mo_alike_41 : decode b_Mo_alike 41 = .ok (.putfield 53, 3) := by decide +kernel
theorem d_Mo_alike_44 : decode b_Mo_alike 44 = .ok (.iconst 0, 1) := by decide +kernel
theorem d_Mo_alike_45 : decode b_Mo_alike 45 = .ok (.ireturn, 1) := by decide +kernel
theorem d_Mo_alike_46 : decode b_Mo_alike 46 = .ok (.aload_n 0, 1) := by decide +kernel
theorem d_Mo_alike_47 : decode b_Mo_alike 47 = .ok (.bipush (40), 2) := by decide +kernel
theorem d_Mo_alike_49 : decode b_Mo_alike 49 = .ok (.iload_n 2, 1) := by decide +kernel
theorem d_Mo_alike_50 : decode b_Mo_alike 50 = .ok (.imul, 1) := by decide +kernel
theorem d_Mo_alike_51 : decode b_Mo_alike 51 = .ok (.iload 4, 2) := by decide +kernel
theorem d_Mo_alike_53 : decode b_Mo_alike 53 = .ok (.iadd, 1) := by decide +kernel
theorem d_Mo_alike_54 : decode b_Mo_alike 54 = .ok (.invokevirtual 97, 3) := by decide +kernel
theorem d_Mo_alike_57 : decode b_Mo_alike 57 = .ok (.iconst 0, 1) := by decide +kernel
theorem d_Mo_alike_58 : decode b_Mo_alike 58 = .ok (.istore 5, 2) := by decide +kernel
theorem d_Mo_alike_60 : decode b_Mo_alike 60 = .ok (.iload 5, 2) := by decide +kernel
theorem d_Mo_alike_62 : decode b_Mo_alike 62 = .ok (.aload_n 0, 1) := by decide +kernel
theorem d_Mo_alike_63 : decode b_Mo_alike 63 = .ok (.getfield 87, 3) := by decide +kernel
theorem d_Mo_alike_66 : decode b_Mo_alike 66 = .ok (.if_icmp .ge (128), 3) := by decide +kernel
theorem d_Mo_alike_69 : decode b_Mo_alike 69 = .ok (.iconst 0, 1) := by decide +kernel
theorem d_Mo_alike_70 : decode b_Mo_alike 70 = .ok (.istore 6, 2) := by decide +kernel
theorem d_Mo_alike_72 : decode b_Mo_alike 72 = .ok (.iload 6, 2) := by decide +kernel
theorem d_Mo_alike_74 : decode b_Mo_alike 74 = .ok (.aload_n 0, 1) := by decide +kernel
theorem d_Mo_alike_75 : decode b_Mo_alike 75 = .ok (.getfield 13, 3) := by decide +kernel
theorem d_Mo_alike_78 : decode b_Mo_alike 78 = .ok (.iload_n 1, 1) := by decide +kernel
theorem d_Mo_alike_79 : decode b_Mo_alike 79 = .ok (.iaload, 1) := by decide +kernel
theorem d_Mo_alike_80 : decode b_Mo_alike 80 = .ok (.if_icmp .ge (108), 3) := by decide +kernel
theorem d_Mo_alike_83 : decode b_Mo_alike 83 = .ok (.sipush (160), 3) := by decide +kernel
theorem d_Mo_alike_86 : decode b_Mo_alike 86 = .ok (.iload_n 1, 1) := by decide +kernel
theorem d_Mo_alike_87 : decode b_Mo_alike 87 = .ok (.imul, 1) := by decide +kernel
theorem d_Mo_alike_88 : decode b_Mo_alike 88 = .ok (.iconst 4, 1) := by decide +kernel
theorem d_Mo_alike_89 : decode b_Mo_alike 89 = .ok (.aload_n 0, 1) := by decide +kernel
theorem d_Mo_alike_90 : decode b_Mo_alike 90 = .ok (.getfield 29, 3) := by decide +kernel
theorem d_Mo_alike_93 : decode b_Mo_alike 93 = .ok (.iload 5, 2) := by decide +kernel
theorem d_Mo_alike_95 : decode b_Mo_alike 95 = .ok (.iaload, 1) := by decide +kernel
theorem d_Mo_alike_96 : decode b_Mo_alike 96 = .ok (.bipush (40), 2) := by decide +kernel
theorem d_Mo_alike_98 : decode b_Mo_alike 98 = .ok (.idiv, 1) := by decide +kernel
theorem d_Mo_alike_99 : decode b_Mo_alike 99 = .ok (.imul, 1) := by decide +kernel
theorem d_Mo_alike_100 : decode b_Mo_alike 100 = .ok (.iadd, 1) := by decide +kernel
theorem d_Mo_alike_101 : decode b_Mo_alike 101 = .ok (.iload 6, 2) := by decide +kernel
theorem d_Mo_alike_103 : decode b_Mo_alike 103 = .ok (.iadd, 1) := by decide +kernel
theorem d_Mo_alike_104 : decode b_Mo_alike 104 = .ok (.istore 7, 2) := by decide +kernel
theorem d_Mo_alike_106 : decode b_Mo_alike 106 = .ok (.sipush (160), 3) := by decide +kernel
theorem d_Mo_alike_109 : decode b_Mo_alike 109 = .ok (.iload_n 3, 1) := by decide +kernel
theorem d_Mo_alike_110 : decode b_Mo_alike 110 = .ok (.imul, 1) := by decide +kernel
theorem d_Mo_alike_111 : decode b_Mo_alike 111 = .ok (.iconst 4, 1) := by decide +kernel
theorem d_Mo_alike_112 : decode b_Mo_alike 112 = .ok (.aload_n 0, 1) := by decide +kernel
theorem d_Mo_alike_113 : decode b_Mo_alike 113 = .ok (.getfield 29, 3) := by decide +kernel
theorem d_Mo_alike_116 : decode b_Mo_alike 116 = .ok (.iload 5, 2) := by decide +kernel
theorem d_Mo_alike_118 : decode b_Mo_alike 118 = .ok (.iaload, 1) := by decide +kernel
theorem d_Mo_alike_119 : decode b_Mo_alike 119 = .ok (.bipush (40), 2) := by decide +kernel
theorem d_Mo_alike_121 : decode b_Mo_alike 121 = .ok (.irem, 1) := by decide +kernel
theorem d_Mo_alike_122 : decode b_Mo_alike 122 = .ok (.imul, 1) := by decide +kernel
theorem d_Mo_alike_123 : decode b_Mo_alike 123 = .ok (.iadd, 1) := by decide +kernel
theorem d_Mo_alike_124 : decode b_Mo_alike 124 = .ok (.iload 6, 2) := by decide +kernel
theorem d_Mo_alike_126 : decode b_Mo_alike 126 = .ok (.iadd, 1) := by decide +kernel
theorem d_Mo_alike_127 : decode b_Mo_alike 127 = .ok (.istore 8, 2) := by decide +kernel
theorem d_Mo_alike_129 : decode b_Mo_alike 129 = .ok (.aload_n 0, 1) := by decide +kernel
theorem d_Mo_alike_130 : decode b_Mo_alike 130 = .ok (.getfield 19, 3) := by decide +kernel
theorem d_Mo_alike_133 : decode b_Mo_alike 133 = .ok (.iload 7, 2) := by decide +kernel
theorem d_Mo_alike_135 : decode b_Mo_alike 135 = .ok (.iaload, 1) := by decide +kernel
theorem d_Mo_alike_136 : decode b_Mo_alike 136 = .ok (.aload_n 0, 1) := by decide +kernel
theorem d_Mo_alike_137 : decode b_Mo_alike 137 = .ok (.getfield 19, 3) := by decide +kernel
theorem d_Mo_alike_140 : decode b_Mo_alike 140 = .ok (.iload 8, 2) := by decide +kernel
theorem d_Mo_alike_142 : decode b_Mo_alike 142 = .ok (.iaload, 1) := by decide +kernel
theorem d_Mo_alike_143 : decode b_Mo_alike 143 = .ok (.if_icmp .eq (13), 3) := by decide +kernel
theorem d_Mo_alike_146 : decode b_Mo_alike 146 = .ok (.aload_n 0, 1) := by decide +kernel
theorem d_Mo_alike_147 : decode b_Mo_alike 147 = .ok (.iload 5, 2) := by decide +kernel
theorem d_Mo_alike_149 : decode b_Mo_alike 149 = .ok (.iload 6, 2) := by decide +kernel
theorem d_Mo_alike_151 : decode b_Mo_alike 151 = .ok (.invokevirtual 100, 3) := by decide +kernel
theorem d_Mo_alike_154 : decode b_Mo_alike 154 = .ok (.iconst 0, 1) := by decide +kernel
theorem d_Mo_alike_155 : decode b_Mo_alike 155 = .ok (.ireturn, 1) := by decide +kernel
theorem d_Mo_alike_156 : decode b_Mo_alike 156 = .ok (.aload_n 0, 1) := by decide +kernel
theorem d_Mo_alike_157 : decode b_Mo_alike 157 = .ok (.bipush (40), 2) := by decide +kernel
theorem d_Mo_alike_159 : decode b_Mo_alike 159 = .ok (.aload_n 0, 1) := by decide +kernel
theorem d_Mo_alike_160 : decode b_Mo_alike 160 = .ok (.getfield 16, 3) := by decide +kernel
theorem d_Mo_alike_163 : decode b_Mo_alike 163 = .ok (.iload 7, 2) := by decide +kernel
theorem d_Mo_alike_165 : decode b_Mo_alike 165 = .ok (.iaload, 1) := by decide +kernel
theorem d_Mo_alike_166 : decode b_Mo_alike 166 = .ok (.imul, 1) := by decide +kernel
theorem d_Mo_alike_167 : decode b_Mo_alike 167 = .ok (.aload_n 0, 1) := by decide +kernel
theorem d_Mo_alike_168 : decode b_Mo_alike 168 = .ok (.getfield 16, 3) := by decide +kernel
theorem d_Mo_alike_171 : decode b_Mo_alike 171 = .ok (.iload 8, 2) := by decide +kernel
theorem d_Mo_alike_173 : decode b_Mo_alike 173 = .ok (.iaload, 1) := by decide +kernel
theorem d_Mo_alike_174 : decode b_Mo_alike 174 = .ok (.iadd, 1) := by decide +kernel
theorem d_Mo_alike_175 : decode b_Mo_alike 175 = .ok (.iload 5, 2) := by decide +kernel
theorem d_Mo_alike_177 : decode b_Mo_alike 177 = .ok (.iload 6, 2) := by decide +kernel
theorem d_Mo_alike_179 : decode b_Mo_alike 179 = .ok (.invokevirtual 90, 3) := by decide +kernel
theorem d_Mo_alike_182 : decode b_Mo_alike 182 = .ok (.iinc 6 (1), 3) := by decide +kernel
theorem d_Mo_alike_185 : decode b_Mo_alike 185 = .ok (.goto (-113), 3) := by decide +kernel
theorem d_Mo_alike_188 : decode b_Mo_alike 188 = .ok (.iinc 5 (1), 3) := by decide +kernel
theorem d_Mo_alike_191 : decode b_Mo_alike 191 = .ok (.goto (-131), 3) := by decide +kernel
theorem d_Mo_alike_194 : decode b_Mo_alike 194 = .ok (.iconst 1, 1) := by decide +kernel
theorem d_Mo_alike_195 : decode b_Mo_alike 195 = .ok (.ireturn, 1) := by decide +kernel
theorem d_Mo_findParts_0 : decode b_Mo_findParts 0 = .ok (.aload_n 0, 1) := by decide +kernel
theorem d_Mo_findParts_1 : decode b_Mo_findParts 1 = .ok (.iload_n 1, 1) := by decide +kernel
theorem d_Mo_findParts_2 : decode b_Mo_findParts 2 = .ok (.invokevirtual 79, 3) := by decide +kernel
theorem d_Mo_findParts_5 : decode b_Mo_findParts 5 = .ok (.aload_n 0, 1) := by decide +kernel
theorem d_Mo_findParts_6 : decode b_Mo_findParts 6 = .ok (.aload_n 0, 1) := by decide +kernel
theorem d_Mo_findParts_7 : decode b_Mo_findParts 7 = .ok (.iconst 0, 1) := by decide +kernel
theorem d_Mo_findParts_8 : decode b_Mo_findParts 8 = .ok (.invokevirtual 83, 3) := by decide +kernel
theorem d_Mo_findParts_11 : decode b_Mo_findParts 11 = .ok (.invokevirtual 97, 3) := by decide +kernel
theorem d_Mo_findParts_14 : decode b_Mo_findParts 14 = .ok (.iconst 0, 1) := by decide +kernel
theorem d_Mo_findParts_15 : decode b_Mo_findParts 15 = .ok (.istore_n 2, 1) := by decide +kernel
theorem d_Mo_findParts_16 : decode b_Mo_findParts 16 = .ok (.iload_n 2, 1) := by decide +kernel
theorem d_Mo_findParts_17 : decode b_Mo_findParts 17 = .ok (.aload_n 0, 1) := by decide +kernel
theorem d_Mo_findParts_18 : decode b_Mo_findParts 18 = .ok (.getfield 87, 3) := by decide +kernel
theorem d_Mo_findParts_21 : decode b_Mo_findParts 21 = .ok (.if_icmp .ge (58), 3) := by decide +kernel
theorem d_Mo_findParts_24 : decode b_Mo_findParts 24 = .ok (.iconst 0, 1) := by decide +kernel
theorem d_Mo_findParts_25 : decode b_Mo_findParts 25 = .ok (.istore_n 3, 1) := by decide +kernel
theorem d_Mo_findParts_26 : decode b_Mo_findParts 26 = .ok (.iload_n 3, 1) := by decide +kernel
theorem d_Mo_findParts_27 : decode b_Mo_findParts 27 = .ok (.aload_n 0, 1) := by decide +kernel
theorem d_Mo_findParts_28 : decode b_Mo_findParts 28 = .ok (.getfield 13, 3) := by decide +kernel
theorem d_Mo_findParts_31 : decode b_Mo_findParts 31 = .ok (.iload_n 1, 1) := by decide +kernel
theorem d_Mo_findParts_32 : decode b_Mo_findParts 32 = .ok (.iaload, 1) := by decide +kernel
theorem d_Mo_findParts_33 : decode b_Mo_findParts 33 = .ok (.if_icmp .ge (40), 3) := by decide +kernel
theorem d_Mo_findParts_36 : decode b_Mo_findParts 36 = .ok (.aload_n 0, 1) := by decide +kernel
theorem d_Mo_findParts_37 : decode b_Mo_findParts 37 = .ok (.aload_n 0, 1) := by decide +kernel
theorem d_Mo_findParts_38 : decode b_Mo_findParts 38 = .ok (.aload_n 0, 1) := by decide +kernel
theorem d_Mo_findParts_39 : decode b_Mo_findParts 39 = .ok (.getfield 16, 3) := by decide +kernel
theorem d_Mo_findParts_42 : decode b_Mo_findParts 42 = .ok (.sipush (160), 3) := by decide +kernel
theorem d_Mo_findParts_45 : decode b_Mo_findParts 45 = .ok (.iload_n 1, 1) := by decide +kernel
theorem d_Mo_findParts_46 : decode b_Mo_findParts 46 = .ok (.imul, 1) := by decide +kernel
theorem d_Mo_findParts_47 : decode b_Mo_findParts 47 = .ok (.iconst 4, 1) := by decide +kernel
theorem d_Mo_findParts_48 : decode b_Mo_findParts 48 = .ok (.aload_n 0, 1) := by decide +kernel
theorem d_Mo_findParts_49 : decode b_Mo_findParts 49 = .ok (.getfield 29, 3) := by decide +kernel
theorem d_Mo_findParts_52 : decode b_Mo_findParts 52 = .ok (.iload_n 2, 1) := by decide +kernel
theorem d_Mo_findParts_53 : decode b_Mo_findParts 53 = .ok (.iaload, 1) := by decide +kernel
theorem d_Mo_findParts_54 : decode b_Mo_findParts 54 = .ok (.imul, 1) := by decide +kernel
theorem d_Mo_findParts_55 : decode b_Mo_findParts 55 = .ok (.iadd, 1) := by decide +kernel
theorem d_Mo_findParts_56 : decode b_Mo_findParts 56 = .ok (.iload_n 3, 1) := by decide +kernel
theorem d_Mo_findParts_57 : decode b_Mo_findParts 57 = .ok (.iadd, 1) := by decide +kernel
theorem d_Mo_findParts_58 : decode b_Mo_findParts 58 = .ok (.iaload, 1) := by decide +kernel
theorem d_Mo_findParts_59 : decode b_Mo_findParts 59 = .ok (.invokevirtual 83, 3) := by decide +kernel
theorem d_Mo_findParts_62 : decode b_Mo_findParts 62 = .ok (.iload_n 2, 1) := by decide +kernel
theorem d_Mo_findParts_63 : decode b_Mo_findParts 63 = .ok (.iload_n 3, 1) := by decide +kernel
theorem d_Mo_findParts_64 : decode b_Mo_findParts 64 = .ok (.invokevirtual 90, 3) := by decide +kernel
theorem d_Mo_findParts_67 : decode b_Mo_findParts 67 = .ok (.iinc 3 (1), 3) := by decide +kernel
theorem d_Mo_findParts_70 : decode b_Mo_findParts 70 = .ok (.goto (-44), 3) := by decide +kernel
theorem d_Mo_findParts_73 : decode b_Mo_findParts 73 = .ok (.iinc 2 (1), 3) := by decide +kernel
theorem d_Mo_findParts_76 : decode b_Mo_findParts 76 = .ok (.goto (-60), 3) := by decide +kernel
theorem d_Mo_findParts_79 : decode b_Mo_findParts 79 = .ok (.return_, 1) := by decide +kernel
theorem d_Mo_partOf_0 : decode b_Mo_partOf 0 = .ok (.aload_n 0, 1) := by decide +kernel
theorem d_Mo_partOf_1 : decode b_Mo_partOf 1 = .ok (.iload_n 1, 1) := by decide +kernel
theorem d_Mo_partOf_2 : decode b_Mo_partOf 2 = .ok (.invokevirtual 83, 3) := by decide +kernel
theorem d_Mo_partOf_5 : decode b_Mo_partOf 5 = .ok (.istore_n 2, 1) := by decide +kernel
theorem d_Mo_partOf_6 : decode b_Mo_partOf 6 = .ok (.iconst 0, 1) := by decide +kernel
theorem d_Mo_partOf_7 : decode b_Mo_partOf 7 = .ok (.istore_n 3, 1) := by decide +kernel
theorem d_Mo_partOf_8 : decode b_Mo_partOf 8 = .ok (.iload_n 3, 1) := by decide +kernel
theorem d_Mo_partOf_9 : decode b_Mo_partOf 9 = .ok (.aload_n 0, 1) := by decide +kernel
theorem d_Mo_partOf_10 : decode b_Mo_partOf 10 = .ok (.getfield 87, 3) := by decide +kernel
theorem d_Mo_partOf_13 : decode b_Mo_partOf 13 = .ok (.if_icmp .ge (21), 3) := by decide +kernel
theorem d_Mo_partOf_16 : decode b_Mo_partOf 16 = .ok (.aload_n 0, 1) := by decide +kernel
theorem d_Mo_partOf_17 : decode b_Mo_partOf 17 = .ok (.getfield 29, 3) := by decide +kernel
theorem d_Mo_partOf_20 : decode b_Mo_partOf 20 = .ok (.iload_n 3, 1) := by decide +kernel
theorem d_Mo_partOf_21 : decode b_Mo_partOf 21 = .ok (.iaload, 1) := by decide +kernel
theorem d_Mo_partOf_22 : decode b_Mo_partOf 22 = .ok (.iload_n 2, 1) := by decide +kernel
theorem d_Mo_partOf_23 : decode b_Mo_partOf 23 = .ok (.if_icmp .ne (5), 3) := by decide +kernel
theorem d_Mo_partOf_26 : decode b_Mo_partOf 26 = .ok (.iload_n 3, 1) := by decide +kernel
