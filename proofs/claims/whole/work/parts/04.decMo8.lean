theorem d_Mo_placeOf_3 : decode b_Mo_placeOf 3 = .ok (.getfield 29, 3) := by decide +kernel
theorem d_Mo_placeOf_6 : decode b_Mo_placeOf 6 = .ok (.iload_n 2, 1) := by decide +kernel
theorem d_Mo_placeOf_7 : decode b_Mo_placeOf 7 = .ok (.iaload, 1) := by decide +kernel
theorem d_Mo_placeOf_8 : decode b_Mo_placeOf 8 = .ok (.iload_n 1, 1) := by decide +kernel
theorem d_Mo_placeOf_9 : decode b_Mo_placeOf 9 = .ok (.if_icmp .eq (9), 3) := by decide +kernel
theorem d_Mo_placeOf_12 : decode b_Mo_placeOf 12 = .ok (.iinc 2 (1), 3) := by decide +kernel
theorem d_Mo_placeOf_15 : decode b_Mo_placeOf 15 = .ok (.goto (-13), 3) := by decide +kernel
theorem d_Mo_placeOf_18 : decode b_Mo_placeOf 18 = .ok (.iload_n 2, 1) := by decide +kernel
theorem d_Mo_placeOf_19 : decode b_Mo_placeOf 19 = .ok (.ireturn, 1) := by decide +kernel
theorem d_Mo_chain_0 : decode b_Mo_chain 0 = .ok (.aload_n 0, 1) := by decide +kernel
theorem d_Mo_chain_1 : decode b_Mo_chain 1 = .ok (.iconst 0, 1) := by decide +kernel
theorem d_Mo_chain_2 : decode b_Mo_chain 2 = .ok (.putfield 53, 3) := by decide +kernel
theorem d_Mo_chain_5 : decode b_Mo_chain 5 = .ok (.aload_n 0, 1) := by decide +kernel
theorem d_Mo_chain_6 : decode b_Mo_chain 6 = .ok (.iload_n 1, 1) := by decide +kernel
theorem d_Mo_chain_7 : decode b_Mo_chain 7 = .ok (.invokevirtual 64, 3) := by decide +kernel
theorem d_Mo_chain_10 : decode b_Mo_chain 10 = .ok (.ifCond .eq (20), 3) := by decide +kernel
theorem d_Mo_chain_13 : decode b_Mo_chain 13 = .ok (.aload_n 0, 1) := by decide +kernel
theorem d_Mo_chain_14 : decode b_Mo_chain 14 = .ok (.iload_n 2, 1) := by decide +kernel
theorem d_Mo_chain_15 : decode b_Mo_chain 15 = .ok (.invokevirtual 64, 3) := by decide +kernel
theorem d_Mo_chain_18 : decode b_Mo_chain 18 = .ok (.ifCond .eq (12), 3) := by decide +kernel
theorem d_Mo_chain_21 : decode b_Mo_chain 21 = .ok (.aload_n 0, 1) := by decide +kernel
theorem d_Mo_chain_22 : decode b_Mo_chain 22 = .ok (.getfield 57, 3) := by decide +kernel
theorem d_Mo_chain_25 : decode b_Mo_chain 25 = .ok (.bipush (12), 2) := by decide +kernel
theorem d_Mo_chain_27 : decode b_Mo_chain 27 = .ok (.if_icmp .ne (5), 3) := by decide +kernel
theorem d_Mo_chain_30 : decode b_Mo_chain 30 = .ok (.iconst (-1), 1) := by decide +kernel
theorem d_Mo_chain_31 : decode b_Mo_chain 31 = .ok (.ireturn, 1) := by decide +kernel
theorem d_Mo_chain_32 : decode b_Mo_chain 32 = .ok (.aload_n 0, 1) := by decide +kernel
theorem d_Mo_chain_33 : decode b_Mo_chain 33 = .ok (.iload_n 1, 1) := by decide +kernel
theorem d_Mo_chain_34 : decode b_Mo_chain 34 = .ok (.iload_n 2, 1) := by decide +kernel
theorem d_Mo_chain_35 : decode b_Mo_chain 35 = .ok (.invokevirtual 140, 3) := by decide +kernel
theorem d_Mo_chain_38 : decode b_Mo_chain 38 = .ok (.ifCond .ne (8), 3) := by decide +kernel
theorem d_Mo_chain_41 : decode b_Mo_chain 41 = .ok (.aload_n 0, 1) := by decide +kernel
theorem d_Mo_chain_42 : decode b_Mo_chain 42 = .ok (.invokevirtual 136, 3) := by decide +kernel
theorem d_Mo_chain_45 : decode b_Mo_chain 45 = .ok (.ireturn, 1) := by decide +kernel
theorem d_Mo_chain_46 : decode b_Mo_chain 46 = .ok (.aload_n 0, 1) := by decide +kernel
theorem d_Mo_chain_47 : decode b_Mo_chain 47 = .ok (.aload_n 0, 1) := by decide +kernel
theorem d_Mo_chain_48 : decode b_Mo_chain 48 = .ok (.getfield 87, 3) := by decide +kernel
theorem d_Mo_chain_51 : decode b_Mo_chain 51 = .ok (.aload_n 0, 1) := by decide +kernel
theorem d_Mo_chain_52 : decode b_Mo_chain 52 = .ok (.getfield 13, 3) := by decide +kernel
theorem d_Mo_chain_55 : decode b_Mo_chain 55 = .ok (.iload_n 1, 1) := by decide +kernel
theorem d_Mo_chain_56 : decode b_Mo_chain 56 = .ok (.iaload, 1) := by decide +kernel
theorem d_Mo_chain_57 : decode b_Mo_chain 57 = .ok (.invokevirtual 68, 3) := by decide +kernel
theorem d_Mo_chain_60 : decode b_Mo_chain 60 = .ok (.istore_n 3, 1) := by decide +kernel
theorem d_Mo_chain_61 : decode b_Mo_chain 61 = .ok (.iconst 0, 1) := by decide +kernel
theorem d_Mo_chain_62 : decode b_Mo_chain 62 = .ok (.istore 4, 2) := by decide +kernel
theorem d_Mo_chain_64 : decode b_Mo_chain 64 = .ok (.iload 4, 2) := by decide +kernel
theorem d_Mo_chain_66 : decode b_Mo_chain 66 = .ok (.aload_n 0, 1) := by decide +kernel
theorem d_Mo_chain_67 : decode b_Mo_chain 67 = .ok (.getfield 87, 3) := by decide +kernel
theorem d_Mo_chain_70 : decode b_Mo_chain 70 = .ok (.if_icmp .ge (145), 3) := by decide +kernel
theorem d_Mo_chain_73 : decode b_Mo_chain 73 = .ok (.iconst 0, 1) := by decide +kernel
theorem d_Mo_chain_74 : decode b_Mo_chain 74 = .ok (.istore 5, 2) := by decide +kernel
theorem d_Mo_chain_76 : decode b_Mo_chain 76 = .ok (.iload 5, 2) := by decide +kernel
theorem d_Mo_chain_78 : decode b_Mo_chain 78 = .ok (.aload_n 0, 1) := by decide +kernel
theorem d_Mo_chain_79 : decode b_Mo_chain 79 = .ok (.getfield 13, 3) := by decide +kernel
theorem d_Mo_chain_82 : decode b_Mo_chain 82 = .ok (.iload_n 1, 1) := by decide +kernel
theorem d_Mo_chain_83 : decode b_Mo_chain 83 = .ok (.iaload, 1) := by decide +kernel
theorem d_Mo_chain_84 : decode b_Mo_chain 84 = .ok (.if_icmp .ge (125), 3) := by decide +kernel
theorem d_Mo_chain_87 : decode b_Mo_chain 87 = .ok (.sipush (160), 3) := by decide +kernel
theorem d_Mo_chain_90 : decode b_Mo_chain 90 = .ok (.iload_n 1, 1) := by decide +kernel
theorem d_Mo_chain_91 : decode b_Mo_chain 91 = .ok (.imul, 1) := by decide +kernel
theorem d_Mo_chain_92 : decode b_Mo_chain 92 = .ok (.iconst 4, 1) := by decide +kernel
theorem d_Mo_chain_93 : decode b_Mo_chain 93 = .ok (.aload_n 0, 1) := by decide +kernel
theorem d_Mo_chain_94 : decode b_Mo_chain 94 = .ok (.getfield 29, 3) := by decide +kernel
theorem d_Mo_chain_97 : decode b_Mo_chain 97 = .ok (.iload 4, 2) := by decide +kernel
theorem d_Mo_chain_99 : decode b_Mo_chain 99 = .ok (.iaload, 1) := by decide +kernel
theorem d_Mo_chain_100 : decode b_Mo_chain 100 = .ok (.bipush (40), 2) := by decide +kernel
theorem d_Mo_chain_102 : decode b_Mo_chain 102 = .ok (.idiv, 1) := by decide +kernel
theorem d_Mo_chain_103 : decode b_Mo_chain 103 = .ok (.imul, 1) := by decide +kernel
theorem d_Mo_chain_104 : decode b_Mo_chain 104 = .ok (.iadd, 1) := by decide +kernel
theorem d_Mo_chain_105 : decode b_Mo_chain 105 = .ok (.iload 5, 2) := by decide +kernel
theorem d_Mo_chain_107 : decode b_Mo_chain 107 = .ok (.iadd, 1) := by decide +kernel
theorem d_Mo_chain_108 : decode b_Mo_chain 108 = .ok (.istore 6, 2) := by decide +kernel
theorem d_Mo_chain_110 : decode b_Mo_chain 110 = .ok (.sipush (160), 3) := by decide +kernel
theorem d_Mo_chain_113 : decode b_Mo_chain 113 = .ok (.iload_n 2, 1) := by decide +kernel
theorem d_Mo_chain_114 : decode b_Mo_chain 114 = .ok (.imul, 1) := by decide +kernel
theorem d_Mo_chain_115 : decode b_Mo_chain 115 = .ok (.iconst 4, 1) := by decide +kernel
theorem d_Mo_chain_116 : decode b_Mo_chain 116 = .ok (.aload_n 0, 1) := by decide +kernel
theorem d_Mo_chain_117 : decode b_Mo_chain 117 = .ok (.getfield 29, 3) := by decide +kernel
theorem d_Mo_chain_120 : decode b_Mo_chain 120 = .ok (.iload 4, 2) := by decide +kernel
theorem d_Mo_chain_122 : decode b_Mo_chain 122 = .ok (.iaload, 1) := by decide +kernel
theorem d_Mo_chain_123 : decode b_Mo_chain 123 = .ok (.bipush (40), 2) := by decide +kernel
theorem d_Mo_chain_125 : decode b_Mo_chain 125 = .ok (.irem, 1) := by decide +kernel
theorem d_Mo_chain_126 : decode b_Mo_chain 126 = .ok (.imul, 1) := by decide +kernel
theorem d_Mo_chain_127 : decode b_Mo_chain 127 = .ok (.iadd, 1) := by decide +kernel
theorem d_Mo_chain_128 : decode b_Mo_chain 128 = .ok (.aload_n 0, 1) := by decide +kernel
theorem d_Mo_chain_129 : decode b_Mo_chain 129 = .ok (.getfield 19, 3) := by decide +kernel
theorem d_Mo_chain_132 : decode b_Mo_chain 132 = .ok (.iload 6, 2) := by decide +kernel
theorem d_Mo_chain_134 : decode b_Mo_chain 134 = .ok (.iaload, 1) := by decide +kernel
theorem d_Mo_chain_135 : decode b_Mo_chain 135 = .ok (.iadd, 1) := by decide +kernel
theorem d_Mo_chain_136 : decode b_Mo_chain 136 = .ok (.istore 7, 2) := by decide +kernel
theorem d_Mo_chain_138 : decode b_Mo_chain 138 = .ok (.aload_n 0, 1) := by decide +kernel
theorem d_Mo_chain_139 : decode b_Mo_chain 139 = .ok (.getfield 16, 3) := by decide +kernel
theorem d_Mo_chain_142 : decode b_Mo_chain 142 = .ok (.sipush (160), 3) := by decide +kernel
theorem d_Mo_chain_145 : decode b_Mo_chain 145 = .ok (.iload_n 3, 1) := by decide +kernel
theorem d_Mo_chain_146 : decode b_Mo_chain 146 = .ok (.imul, 1) := by decide +kernel
theorem d_Mo_chain_147 : decode b_Mo_chain 147 = .ok (.iconst 4, 1) := by decide +kernel
theorem d_Mo_chain_148 : decode b_Mo_chain 148 = .ok (.iload 4, 2) := by decide +kernel
theorem d_Mo_chain_150 : decode b_Mo_chain 150 = .ok (.imul, 1) := by decide +kernel
theorem d_Mo_chain_151 : decode b_Mo_chain 151 = .ok (.iadd, 1) := by decide +kernel
theorem d_Mo_chain_152 : decode b_Mo_chain 152 = .ok (.iload 5, 2) := by decide +kernel
theorem d_Mo_chain_154 : decode b_Mo_chain 154 = .ok (.iadd, 1) := by decide +kernel
theorem d_Mo_chain_155 : decode b_Mo_chain 155 = .ok (.aload_n 0, 1) := by decide +kernel
theorem d_Mo_chain_156 : decode b_Mo_chain 156 = .ok (.bipush (40), 2) := by decide +kernel
theorem d_Mo_chain_158 : decode b_Mo_chain 158 = .ok (.aload_n 0, 1) := by decide +kernel
theorem d_Mo_chain_159 : decode b_Mo_chain 159 = .ok (.getfield 16, 3) := by decide +kernel
theorem d_Mo_chain_162 : decode b_Mo_chain 162 = .ok (.iload 6, 2) := by decide +kernel
theorem d_Mo_chain_164 : decode b_Mo_chain 164 = .ok (.iaload, 1) := by decide +kernel
theorem d_Mo_chain_165 : decode b_Mo_chain 165 = .ok (.imul, 1) := by decide +kernel
theorem d_Mo_chain_166 : decode b_Mo_chain 166 = .ok (.aload_n 0, 1) := by decide +kernel
theorem d_Mo_chain_167 : decode b_Mo_chain 167 = .ok (.getfield 16, 3) := by decide +kernel
theorem d_Mo_chain_170 : decode b_Mo_chain 170 = .ok (.iload 7, 2) := by decide +kernel
theorem d_Mo_chain_172 : decode b_Mo_chain 172 = .ok (.iaload, 1) := by decide +kernel
theorem d_Mo_chain_173 : decode b_Mo_chain 173 = .ok (.iadd, 1) := by decide +kernel
theorem d_Mo_chain_174 : decode b_Mo_chain 174 = .ok (.invokevirtual 143, 3) := by decide +kernel
theorem d_Mo_chain_177 : decode b_Mo_chain 177 = .ok (.iastore, 1) := by decide +kernel
theorem d_Mo_chain_178 : decode b_Mo_chain 178 = .ok (.aload_n 0, 1) := by decide +kernel
theorem d_Mo_chain_179 : decode b_Mo_chain 179 = .ok (.getfield 19, 3) := by decide +kernel
theorem d_Mo_chain_182 : decode b_Mo_chain 182 = .ok (.sipush (160), 3) := by decide +kernel
theorem d_Mo_chain_185 : decode b_Mo_chain 185 = .ok (.iload_n 3, 1) := by decide +kernel
theorem d_Mo_chain_186 : decode b_Mo_chain 186 = .ok (.imul, 1) := by decide +kernel
theorem d_Mo_chain_187 : decode b_Mo_chain 187 = .ok (.iconst 4, 1) := by decide +kernel
theorem d_Mo_chain_188 : decode b_Mo_chain 188 = .ok (.iload 4, 2) := by decide +kernel
theorem d_Mo_chain_190 : decode b_Mo_chain 190 = .ok (.imul, 1) := by decide +kernel
theorem d_Mo_chain_191 : decode b_Mo_chain 191 = .ok (.iadd, 1) := by decide +kernel
theorem d_Mo_chain_192 : decode b_Mo_chain 192 = .ok (.iload 5, 2) := by decide +kernel
theorem d_Mo_chain_194 : decode b_Mo_chain 194 = .ok (.iadd, 1) := by decide +kernel
theorem d_Mo_chain_195 : decode b_Mo_chain 195 = .ok (.aload_n 0, 1) := by decide +kernel
theorem d_Mo_chain_196 : decode b_Mo_chain 196 = .ok (.getfield 19, 3) := by decide +kernel
theorem d_Mo_chain_199 : decode b_Mo_chain 199 = .ok (.iload 7, 2) := by decide +kernel
theorem d_Mo_chain_201 : decode b_Mo_chain 201 = .ok (.iaload, 1) := by decide +kernel
theorem d_Mo_chain_202 : decode b_Mo_chain 202 = .ok (.iastore, 1) := by decide +kernel
theorem d_Mo_chain_203 : decode b_Mo_chain 203 = .ok (.iinc 5 (1), 3) := by decide +kernel
theorem d_Mo_chain_206 : decode b_Mo_chain 206 = .ok (.goto (-130), 3) := by decide +kernel
theorem d_Mo_chain_209 : decode b_Mo_chain 209 = .ok (.iinc 4 (1), 3) := by decide +kernel
theorem d_Mo_chain_212 : decode b_Mo_chain 212 = .ok (.goto (-148), 3) := by decide +kernel
theorem d_Mo_chain_215 : decode b_Mo_chain 215 = .ok (.iload_n 3, 1) := by decide +kernel
theorem d_Mo_chain_216 : decode b_Mo_chain 216 = .ok (.ireturn, 1) := by decide +kernel
theorem d_Mo_letter_0 : decode b_Mo_letter 0 = .ok (.aload_n 0, 1) := by decide +kernel
theorem d_Mo_letter_1 : decode b_Mo_letter 1 = .ok (.iload_n 1, 1) := by decide +kernel
theorem d_Mo_letter_2 : decode b_Mo_letter 2 = .ok (.iconst 0, 1) := by decide +kernel
theorem d_Mo_letter_3 : decode b_Mo_letter 3 = .ok (.aload_n 0, 1) := by decide +kernel
theorem d_Mo_letter_4 : decode b_Mo_letter 4 = .ok (.getfield 94, 3) := by decide +kernel
theorem d_Mo_letter_7 : decode b_Mo_letter 7 = .ok (.iconst 1, 1) := by decide +kernel
theorem d_Mo_letter_8 : decode b_Mo_letter 8 = .ok (.isub, 1) := by decide +kernel
theorem d_Mo_letter_9 : decode b_Mo_letter 9 = .ok (.invokestatic 60, 3) := by decide +kernel
theorem d_Mo_letter_12 : decode b_Mo_letter 12 = .ok (.ifCond .eq (7), 3) := by decide +kernel
theorem d_Mo_letter_15 : decode b_Mo_letter 15 = .ok (.iconst 0, 1) := by decide +kernel
theorem d_Mo_letter_16 : decode b_Mo_letter 16 = .ok (.goto (4), 3) := by decide +kernel
theorem d_Mo_letter_19 : decode b_Mo_letter 19 = .ok (.iconst 1, 1) := by decide +kernel
theorem d_Mo_letter_20 : decode b_Mo_letter 20 = .ok (.putfield 53, 3) := by decide +kernel
theorem d_Mo_letter_23 : decode b_Mo_letter 23 = .ok (.aload_n 0, 1) := by decide +kernel
theorem d_Mo_letter_24 : decode b_Mo_letter 24 = .ok (.getfield 53, 3) := by decide +kernel
theorem d_Mo_letter_27 : decode b_Mo_letter 27 = .ok (.ifCond .ne (12), 3) := by decide +kernel
theorem d_Mo_letter_30 : decode b_Mo_letter 30 = .ok (.aload_n 0, 1) := by decide +kernel
theorem d_Mo_letter_31 : decode b_Mo_letter 31 = .ok (.getfield 22, 3) := by decide +kernel
theorem d_Mo_letter_34 : decode b_Mo_letter 34 = .ok (.iload_n 1, 1) := by decide +kernel
theorem d_Mo_letter_35 : decode b_Mo_letter 35 = .ok (.iaload, 1) := by decide +kernel
theorem d_Mo_letter_36 : decode b_Mo_letter 36 = .ok (.goto (4), 3) := by decide +kernel
theorem d_Mo_letter_39 : decode b_Mo_letter 39 = .ok (.iconst 0, 1) := by decide +kernel
theorem d_Mo_letter_40 : decode b_Mo_letter 40 = .ok (.ireturn, 1) := by decide +kernel
theorem d_Mo_along_0 : decode b_Mo_along 0 = .ok (.aload_n 0, 1) := by decide +kernel
theorem d_Mo_along_1 : decode b_Mo_along 1 = .ok (.iconst 0, 1) := by decide +kernel
theorem d_Mo_along_2 : decode b_Mo_along 2 = .ok (.putfield 53, 3) := by decide +kernel
theorem d_Mo_along_5 : decode b_Mo_along 5 = .ok (.aload_n 0, 1) := by decide +kernel
theorem d_Mo_along_6 : decode b_Mo_along 6 = .ok (.iload_n 1, 1) := by decide +kernel
theorem d_Mo_along_7 : decode b_Mo_along 7 = .ok (.iload_n 2, 1) := by decide +kernel
theorem d_Mo_along_8 : decode b_Mo_along 8 = .ok (.invokevirtual 72, 3) := by decide +kernel
theorem d_Mo_along_11 : decode b_Mo_along 11 = .ok (.ifCond .ne (5), 3) := by decide +kernel
theorem d_Mo_along_14 : decode b_Mo_along 14 = .ok (.iconst (-1), 1) := by decide +kernel
theorem d_Mo_along_15 : decode b_Mo_along 15 = .ok (.ireturn, 1) := by decide +kernel
theorem d_Mo_along_16 : decode b_Mo_along 16 = .ok (.iload_n 2, 1) := by decide +kernel
theorem d_Mo_along_17 : decode b_Mo_along 17 = .ok (.istore_n 3, 1) := by decide +kernel
theorem d_Mo_along_18 : decode b_Mo_along 18 = .ok (.iconst 0, 1) := by decide +kernel
theorem d_Mo_along_19 : decode b_Mo_along 19 = .ok (.istore 4, 2) := by decide +kernel
theorem d_Mo_along_21 : decode b_Mo_along 21 = .ok (.iload 4, 2) := by decide +kernel
theorem d_Mo_along_23 : decode b_Mo_along 23 = .ok (.aload_n 0, 1) := by decide +kernel
theorem d_Mo_along_24 : decode b_Mo_along 24 = .ok (.getfield 94, 3) := by decide +kernel
theorem d_Mo_along_27 : decode b_Mo_along 27 = .ok (.if_icmp .ge (50), 3) := by decide +kernel
theorem d_Mo_along_30 : decode b_Mo_along 30 = .ok (.aload_n 0, 1) := by decide +kernel
theorem d_Mo_along_31 : decode b_Mo_along 31 = .ok (.getfield 22, 3) := by decide +kernel
theorem d_Mo_along_34 : decode b_Mo_along 34 = .ok (.iload 4, 2) := by decide +kernel
theorem d_Mo_along_36 : decode b_Mo_along 36 = .ok (.iaload, 1) := by decide +kernel
theorem d_Mo_along_37 : decode b_Mo_along 37 = .ok (.aload_n 0, 1) := by decide +kernel
theorem d_Mo_along_38 : decode b_Mo_along 38 = .ok (.getfield 13, 3) := by decide +kernel
theorem d_Mo_along_41 : decode b_Mo_along 41 = .ok (.iload_n 1, 1) := by decide +kernel
theorem d_Mo_along_42 : decode b_Mo_along 42 = .ok (.iaload, 1) := by decide +kernel
theorem d_Mo_along_43 : decode b_Mo_along 43 = .ok (.if_icmp .lt (5), 3) := by decide +kernel
theorem d_Mo_along_46 : decode b_Mo_along 46 = .ok (.iconst (-1), 1) := by decide +kernel
theorem d_Mo_along_47 : decode b_Mo_along 47 = .ok (.ireturn, 1) := by decide +kernel
theorem d_Mo_along_48 : decode b_Mo_along 48 = .ok (.aload_n 0, 1) := by decide +kernel
theorem d_Mo_along_49 : decode b_Mo_along 49 = .ok (.getfield 16, 3) := by decide +kernel
theorem d_Mo_along_52 : decode b_Mo_along 52 = .ok (.sipush (160), 3) := by decide +kernel
theorem d_Mo_along_55 : decode b_Mo_along 55 = .ok (.iload_n 1, 1) := by decide +kernel
theorem d_Mo_along_56 : decode b_Mo_along 56 = .ok (.imul, 1) := by decide +kernel
theorem d_Mo_along_57 : decode b_Mo_along 57 = .ok (.iconst 4, 1) := by decide +kernel
theorem d_Mo_along_58 : decode b_Mo_along 58 = .ok (.iload_n 3, 1) := by decide +kernel
theorem d_Mo_along_59 : decode b_Mo_along 59 = .ok (.imul, 1) := by decide +kernel
theorem d_Mo_along_60 : decode b_Mo_along 60 = .ok (.iadd, 1) := by decide +kernel
theorem d_Mo_along_61 : decode b_Mo_along 61 = .ok (.aload_n 0, 1) := by decide +kernel
theorem d_Mo_along_62 : decode b_Mo_along 62 = .ok (.getfield 22, 3) := by decide +kernel
