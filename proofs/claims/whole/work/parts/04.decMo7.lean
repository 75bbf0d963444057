theorem d_Mo_home_36 : decode b_Mo_home 36 = .ok (.iconst 0, 1) := by decide +kernel
theorem d_Mo_home_37 : decode b_Mo_home 37 = .ok (.iastore, 1) := by decide +kernel
theorem d_Mo_home_38 : decode b_Mo_home 38 = .ok (.iconst 0, 1) := by decide +kernel
theorem d_Mo_home_39 : decode b_Mo_home 39 = .ok (.istore_n 2, 1) := by decide +kernel
theorem d_Mo_home_40 : decode b_Mo_home 40 = .ok (.iconst 0, 1) := by decide +kernel
theorem d_Mo_home_41 : decode b_Mo_home 41 = .ok (.istore_n 3, 1) := by decide +kernel
theorem d_Mo_home_42 : decode b_Mo_home 42 = .ok (.iload_n 3, 1) := by decide +kernel
theorem d_Mo_home_43 : decode b_Mo_home 43 = .ok (.aload_n 0, 1) := by decide +kernel
theorem d_Mo_home_44 : decode b_Mo_home 44 = .ok (.getfield 7, 3) := by decide +kernel
theorem d_Mo_home_47 : decode b_Mo_home 47 = .ok (.iload_n 1, 1) := by decide +kernel
theorem d_Mo_home_48 : decode b_Mo_home 48 = .ok (.iaload, 1) := by decide +kernel
theorem d_Mo_home_49 : decode b_Mo_home 49 = .ok (.if_icmp .ge (19), 3) := by decide +kernel
theorem d_Mo_home_52 : decode b_Mo_home 52 = .ok (.iload_n 2, 1) := by decide +kernel
theorem d_Mo_home_53 : decode b_Mo_home 53 = .ok (.iconst 1, 1) := by decide +kernel
theorem d_Mo_home_54 : decode b_Mo_home 54 = .ok (.aload_n 0, 1) := by decide +kernel
theorem d_Mo_home_55 : decode b_Mo_home 55 = .ok (.iload_n 3, 1) := by decide +kernel
theorem d_Mo_home_56 : decode b_Mo_home 56 = .ok (.invokevirtual 83, 3) := by decide +kernel
theorem d_Mo_home_59 : decode b_Mo_home 59 = .ok (.ishl, 1) := by decide +kernel
theorem d_Mo_home_60 : decode b_Mo_home 60 = .ok (.ior, 1) := by decide +kernel
theorem d_Mo_home_61 : decode b_Mo_home 61 = .ok (.istore_n 2, 1) := by decide +kernel
theorem d_Mo_home_62 : decode b_Mo_home 62 = .ok (.iinc 3 (1), 3) := by decide +kernel
theorem d_Mo_home_65 : decode b_Mo_home 65 = .ok (.goto (-23), 3) := by decide +kernel
theorem d_Mo_home_68 : decode b_Mo_home 68 = .ok (.aload_n 0, 1) := by decide +kernel
theorem d_Mo_home_69 : decode b_Mo_home 69 = .ok (.iconst 0, 1) := by decide +kernel
theorem d_Mo_home_70 : decode b_Mo_home 70 = .ok (.iload_n 2, 1) := by decide +kernel
theorem d_Mo_home_71 : decode b_Mo_home 71 = .ok (.invokevirtual 117, 3) := by decide +kernel
theorem d_Mo_home_74 : decode b_Mo_home 74 = .ok (.aload_n 0, 1) := by decide +kernel
theorem d_Mo_home_75 : decode b_Mo_home 75 = .ok (.getfield 47, 3) := by decide +kernel
theorem d_Mo_home_78 : decode b_Mo_home 78 = .ok (.iconst 0, 1) := by decide +kernel
theorem d_Mo_home_79 : decode b_Mo_home 79 = .ok (.iconst (-1), 1) := by decide +kernel
theorem d_Mo_home_80 : decode b_Mo_home 80 = .ok (.iastore, 1) := by decide +kernel
theorem d_Mo_home_81 : decode b_Mo_home 81 = .ok (.aload_n 0, 1) := by decide +kernel
theorem d_Mo_home_82 : decode b_Mo_home 82 = .ok (.iconst 0, 1) := by decide +kernel
theorem d_Mo_home_83 : decode b_Mo_home 83 = .ok (.invokevirtual 120, 3) := by decide +kernel
theorem d_Mo_home_86 : decode b_Mo_home 86 = .ok (.ifCond .eq (9), 3) := by decide +kernel
theorem d_Mo_home_89 : decode b_Mo_home 89 = .ok (.aload_n 0, 1) := by decide +kernel
theorem d_Mo_home_90 : decode b_Mo_home 90 = .ok (.iconst 0, 1) := by decide +kernel
theorem d_Mo_home_91 : decode b_Mo_home 91 = .ok (.invokevirtual 123, 3) := by decide +kernel
theorem d_Mo_home_94 : decode b_Mo_home 94 = .ok (.ireturn, 1) := by decide +kernel
theorem d_Mo_home_95 : decode b_Mo_home 95 = .ok (.aload_n 0, 1) := by decide +kernel
theorem d_Mo_home_96 : decode b_Mo_home 96 = .ok (.iconst 1, 1) := by decide +kernel
theorem d_Mo_home_97 : decode b_Mo_home 97 = .ok (.putfield 126, 3) := by decide +kernel
theorem d_Mo_home_100 : decode b_Mo_home 100 = .ok (.iconst 0, 1) := by decide +kernel
theorem d_Mo_home_101 : decode b_Mo_home 101 = .ok (.istore_n 3, 1) := by decide +kernel
theorem d_Mo_home_102 : decode b_Mo_home 102 = .ok (.iload_n 3, 1) := by decide +kernel
theorem d_Mo_home_103 : decode b_Mo_home 103 = .ok (.aload_n 0, 1) := by decide +kernel
theorem d_Mo_home_104 : decode b_Mo_home 104 = .ok (.getfield 126, 3) := by decide +kernel
theorem d_Mo_home_107 : decode b_Mo_home 107 = .ok (.if_icmp .ge (121), 3) := by decide +kernel
theorem d_Mo_home_110 : decode b_Mo_home 110 = .ok (.iconst 0, 1) := by decide +kernel
theorem d_Mo_home_111 : decode b_Mo_home 111 = .ok (.istore 4, 2) := by decide +kernel
theorem d_Mo_home_113 : decode b_Mo_home 113 = .ok (.iload 4, 2) := by decide +kernel
theorem d_Mo_home_115 : decode b_Mo_home 115 = .ok (.aload_n 0, 1) := by decide +kernel
theorem d_Mo_home_116 : decode b_Mo_home 116 = .ok (.getfield 13, 3) := by decide +kernel
theorem d_Mo_home_119 : decode b_Mo_home 119 = .ok (.iload_n 1, 1) := by decide +kernel
theorem d_Mo_home_120 : decode b_Mo_home 120 = .ok (.iaload, 1) := by decide +kernel
theorem d_Mo_home_121 : decode b_Mo_home 121 = .ok (.if_icmp .ge (101), 3) := by decide +kernel
theorem d_Mo_home_124 : decode b_Mo_home 124 = .ok (.aload_n 0, 1) := by decide +kernel
theorem d_Mo_home_125 : decode b_Mo_home 125 = .ok (.iload_n 1, 1) := by decide +kernel
theorem d_Mo_home_126 : decode b_Mo_home 126 = .ok (.iload_n 3, 1) := by decide +kernel
theorem d_Mo_home_127 : decode b_Mo_home 127 = .ok (.iload 4, 2) := by decide +kernel
theorem d_Mo_home_129 : decode b_Mo_home 129 = .ok (.aload_n 0, 1) := by decide +kernel
theorem d_Mo_home_130 : decode b_Mo_home 130 = .ok (.getfield 126, 3) := by decide +kernel
theorem d_Mo_home_133 : decode b_Mo_home 133 = .ok (.invokevirtual 129, 3) := by decide +kernel
theorem d_Mo_home_136 : decode b_Mo_home 136 = .ok (.aload_n 0, 1) := by decide +kernel
theorem d_Mo_home_137 : decode b_Mo_home 137 = .ok (.getfield 47, 3) := by decide +kernel
theorem d_Mo_home_140 : decode b_Mo_home 140 = .ok (.aload_n 0, 1) := by decide +kernel
theorem d_Mo_home_141 : decode b_Mo_home 141 = .ok (.getfield 126, 3) := by decide +kernel
theorem d_Mo_home_144 : decode b_Mo_home 144 = .ok (.iload_n 3, 1) := by decide +kernel
theorem d_Mo_home_145 : decode b_Mo_home 145 = .ok (.iastore, 1) := by decide +kernel
theorem d_Mo_home_146 : decode b_Mo_home 146 = .ok (.aload_n 0, 1) := by decide +kernel
theorem d_Mo_home_147 : decode b_Mo_home 147 = .ok (.getfield 50, 3) := by decide +kernel
theorem d_Mo_home_150 : decode b_Mo_home 150 = .ok (.aload_n 0, 1) := by decide +kernel
theorem d_Mo_home_151 : decode b_Mo_home 151 = .ok (.getfield 126, 3) := by decide +kernel
theorem d_Mo_home_154 : decode b_Mo_home 154 = .ok (.iload 4, 2) := by decide +kernel
theorem d_Mo_home_156 : decode b_Mo_home 156 = .ok (.iastore, 1) := by decide +kernel
theorem d_Mo_home_157 : decode b_Mo_home 157 = .ok (.aload_n 0, 1) := by decide +kernel
theorem d_Mo_home_158 : decode b_Mo_home 158 = .ok (.aload_n 0, 1) := by decide +kernel
theorem d_Mo_home_159 : decode b_Mo_home 159 = .ok (.getfield 126, 3) := by decide +kernel
theorem d_Mo_home_162 : decode b_Mo_home 162 = .ok (.invokevirtual 120, 3) := by decide +kernel
theorem d_Mo_home_165 : decode b_Mo_home 165 = .ok (.ifCond .eq (12), 3) := by decide +kernel
theorem d_Mo_home_168 : decode b_Mo_home 168 = .ok (.aload_n 0, 1) := by decide +kernel
theorem d_Mo_home_169 : decode b_Mo_home 169 = .ok (.aload_n 0, 1) := by decide +kernel
theorem d_Mo_home_170 : decode b_Mo_home 170 = .ok (.getfield 126, 3) := by decide +kernel
theorem d_Mo_home_173 : decode b_Mo_home 173 = .ok (.invokevirtual 123, 3) := by decide +kernel
theorem d_Mo_home_176 : decode b_Mo_home 176 = .ok (.ireturn, 1) := by decide +kernel
theorem d_Mo_home_177 : decode b_Mo_home 177 = .ok (.aload_n 0, 1) := by decide +kernel
theorem d_Mo_home_178 : decode b_Mo_home 178 = .ok (.aload_n 0, 1) := by decide +kernel
theorem d_Mo_home_179 : decode b_Mo_home 179 = .ok (.getfield 126, 3) := by decide +kernel
theorem d_Mo_home_182 : decode b_Mo_home 182 = .ok (.invokevirtual 133, 3) := by decide +kernel
theorem d_Mo_home_185 : decode b_Mo_home 185 = .ok (.ifCond .eq (6), 3) := by decide +kernel
theorem d_Mo_home_188 : decode b_Mo_home 188 = .ok (.goto (28), 3) := by decide +kernel
theorem d_Mo_home_191 : decode b_Mo_home 191 = .ok (.aload_n 0, 1) := by decide +kernel
theorem d_Mo_home_192 : decode b_Mo_home 192 = .ok (.dup, 1) := by decide +kernel
theorem d_Mo_home_193 : decode b_Mo_home 193 = .ok (.getfield 126, 3) := by decide +kernel
theorem d_Mo_home_196 : decode b_Mo_home 196 = .ok (.iconst 1, 1) := by decide +kernel
theorem d_Mo_home_197 : decode b_Mo_home 197 = .ok (.iadd, 1) := by decide +kernel
theorem d_Mo_home_198 : decode b_Mo_home 198 = .ok (.putfield 126, 3) := by decide +kernel
theorem d_Mo_home_201 : decode b_Mo_home 201 = .ok (.aload_n 0, 1) := by decide +kernel
theorem d_Mo_home_202 : decode b_Mo_home 202 = .ok (.getfield 126, 3) := by decide +kernel
theorem d_Mo_home_205 : decode b_Mo_home 205 = .ok (.sipush (300), 3) := by decide +kernel
theorem d_Mo_home_208 : decode b_Mo_home 208 = .ok (.if_icmp .ne (8), 3) := by decide +kernel
theorem d_Mo_home_211 : decode b_Mo_home 211 = .ok (.aload_n 0, 1) := by decide +kernel
theorem d_Mo_home_212 : decode b_Mo_home 212 = .ok (.invokevirtual 136, 3) := by decide +kernel
theorem d_Mo_home_215 : decode b_Mo_home 215 = .ok (.ireturn, 1) := by decide +kernel
theorem d_Mo_home_216 : decode b_Mo_home 216 = .ok (.iinc 4 (1), 3) := by decide +kernel
theorem d_Mo_home_219 : decode b_Mo_home 219 = .ok (.goto (-106), 3) := by decide +kernel
theorem d_Mo_home_222 : decode b_Mo_home 222 = .ok (.iinc 3 (1), 3) := by decide +kernel
theorem d_Mo_home_225 : decode b_Mo_home 225 = .ok (.goto (-123), 3) := by decide +kernel
theorem d_Mo_home_228 : decode b_Mo_home 228 = .ok (.aload_n 0, 1) := by decide +kernel
theorem d_Mo_home_229 : decode b_Mo_home 229 = .ok (.invokevirtual 136, 3) := by decide +kernel
theorem d_Mo_home_232 : decode b_Mo_home 232 = .ok (.ireturn, 1) := by decide +kernel
theorem d_Mo_chains_0 : decode b_Mo_chains 0 = .ok (.aload_n 0, 1) := by decide +kernel
theorem d_Mo_chains_1 : decode b_Mo_chains 1 = .ok (.iconst 0, 1) := by decide +kernel
theorem d_Mo_chains_2 : decode b_Mo_chains 2 = .ok (.invokevirtual 97, 3) := by decide +kernel
theorem d_Mo_chains_5 : decode b_Mo_chains 5 = .ok (.iconst 0, 1) := by decide +kernel
theorem d_Mo_chains_6 : decode b_Mo_chains 6 = .ok (.istore_n 3, 1) := by decide +kernel
theorem d_Mo_chains_7 : decode b_Mo_chains 7 = .ok (.iload_n 3, 1) := by decide +kernel
theorem d_Mo_chains_8 : decode b_Mo_chains 8 = .ok (.aload_n 0, 1) := by decide +kernel
theorem d_Mo_chains_9 : decode b_Mo_chains 9 = .ok (.getfield 87, 3) := by decide +kernel
theorem d_Mo_chains_12 : decode b_Mo_chains 12 = .ok (.if_icmp .ge (128), 3) := by decide +kernel
theorem d_Mo_chains_15 : decode b_Mo_chains 15 = .ok (.iconst 0, 1) := by decide +kernel
theorem d_Mo_chains_16 : decode b_Mo_chains 16 = .ok (.istore 4, 2) := by decide +kernel
theorem d_Mo_chains_18 : decode b_Mo_chains 18 = .ok (.iload 4, 2) := by decide +kernel
theorem d_Mo_chains_20 : decode b_Mo_chains 20 = .ok (.aload_n 0, 1) := by decide +kernel
theorem d_Mo_chains_21 : decode b_Mo_chains 21 = .ok (.getfield 13, 3) := by decide +kernel
theorem d_Mo_chains_24 : decode b_Mo_chains 24 = .ok (.iload_n 1, 1) := by decide +kernel
theorem d_Mo_chains_25 : decode b_Mo_chains 25 = .ok (.iaload, 1) := by decide +kernel
theorem d_Mo_chains_26 : decode b_Mo_chains 26 = .ok (.if_icmp .ge (108), 3) := by decide +kernel
theorem d_Mo_chains_29 : decode b_Mo_chains 29 = .ok (.sipush (160), 3) := by decide +kernel
theorem d_Mo_chains_32 : decode b_Mo_chains 32 = .ok (.iload_n 1, 1) := by decide +kernel
theorem d_Mo_chains_33 : decode b_Mo_chains 33 = .ok (.imul, 1) := by decide +kernel
theorem d_Mo_chains_34 : decode b_Mo_chains 34 = .ok (.iconst 4, 1) := by decide +kernel
theorem d_Mo_chains_35 : decode b_Mo_chains 35 = .ok (.aload_n 0, 1) := by decide +kernel
theorem d_Mo_chains_36 : decode b_Mo_chains 36 = .ok (.getfield 29, 3) := by decide +kernel
theorem d_Mo_chains_39 : decode b_Mo_chains 39 = .ok (.iload_n 3, 1) := by decide +kernel
theorem d_Mo_chains_40 : decode b_Mo_chains 40 = .ok (.iaload, 1) := by decide +kernel
theorem d_Mo_chains_41 : decode b_Mo_chains 41 = .ok (.bipush (40), 2) := by decide +kernel
theorem d_Mo_chains_43 : decode b_Mo_chains 43 = .ok (.idiv, 1) := by decide +kernel
theorem d_Mo_chains_44 : decode b_Mo_chains 44 = .ok (.imul, 1) := by decide +kernel
theorem d_Mo_chains_45 : decode b_Mo_chains 45 = .ok (.iadd, 1) := by decide +kernel
theorem d_Mo_chains_46 : decode b_Mo_chains 46 = .ok (.iload 4, 2) := by decide +kernel
theorem d_Mo_chains_48 : decode b_Mo_chains 48 = .ok (.iadd, 1) := by decide +kernel
theorem d_Mo_chains_49 : decode b_Mo_chains 49 = .ok (.istore 5, 2) := by decide +kernel
theorem d_Mo_chains_51 : decode b_Mo_chains 51 = .ok (.aload_n 0, 1) := by decide +kernel
theorem d_Mo_chains_52 : decode b_Mo_chains 52 = .ok (.getfield 19, 3) := by decide +kernel
theorem d_Mo_chains_55 : decode b_Mo_chains 55 = .ok (.iload 5, 2) := by decide +kernel
theorem d_Mo_chains_57 : decode b_Mo_chains 57 = .ok (.iaload, 1) := by decide +kernel
theorem d_Mo_chains_58 : decode b_Mo_chains 58 = .ok (.aload_n 0, 1) := by decide +kernel
theorem d_Mo_chains_59 : decode b_Mo_chains 59 = .ok (.getfield 13, 3) := by decide +kernel
theorem d_Mo_chains_62 : decode b_Mo_chains 62 = .ok (.iload_n 2, 1) := by decide +kernel
theorem d_Mo_chains_63 : decode b_Mo_chains 63 = .ok (.iaload, 1) := by decide +kernel
theorem d_Mo_chains_64 : decode b_Mo_chains 64 = .ok (.if_icmp .lt (5), 3) := by decide +kernel
theorem d_Mo_chains_67 : decode b_Mo_chains 67 = .ok (.iconst 0, 1) := by decide +kernel
theorem d_Mo_chains_68 : decode b_Mo_chains 68 = .ok (.ireturn, 1) := by decide +kernel
theorem d_Mo_chains_69 : decode b_Mo_chains 69 = .ok (.aload_n 0, 1) := by decide +kernel
theorem d_Mo_chains_70 : decode b_Mo_chains 70 = .ok (.bipush (40), 2) := by decide +kernel
theorem d_Mo_chains_72 : decode b_Mo_chains 72 = .ok (.aload_n 0, 1) := by decide +kernel
theorem d_Mo_chains_73 : decode b_Mo_chains 73 = .ok (.getfield 16, 3) := by decide +kernel
theorem d_Mo_chains_76 : decode b_Mo_chains 76 = .ok (.iload 5, 2) := by decide +kernel
theorem d_Mo_chains_78 : decode b_Mo_chains 78 = .ok (.iaload, 1) := by decide +kernel
theorem d_Mo_chains_79 : decode b_Mo_chains 79 = .ok (.imul, 1) := by decide +kernel
theorem d_Mo_chains_80 : decode b_Mo_chains 80 = .ok (.aload_n 0, 1) := by decide +kernel
theorem d_Mo_chains_81 : decode b_Mo_chains 81 = .ok (.getfield 16, 3) := by decide +kernel
theorem d_Mo_chains_84 : decode b_Mo_chains 84 = .ok (.sipush (160), 3) := by decide +kernel
theorem d_Mo_chains_87 : decode b_Mo_chains 87 = .ok (.iload_n 2, 1) := by decide +kernel
theorem d_Mo_chains_88 : decode b_Mo_chains 88 = .ok (.imul, 1) := by decide +kernel
theorem d_Mo_chains_89 : decode b_Mo_chains 89 = .ok (.iconst 4, 1) := by decide +kernel
theorem d_Mo_chains_90 : decode b_Mo_chains 90 = .ok (.aload_n 0, 1) := by decide +kernel
theorem d_Mo_chains_91 : decode b_Mo_chains 91 = .ok (.getfield 29, 3) := by decide +kernel
theorem d_Mo_chains_94 : decode b_Mo_chains 94 = .ok (.iload_n 3, 1) := by decide +kernel
theorem d_Mo_chains_95 : decode b_Mo_chains 95 = .ok (.iaload, 1) := by decide +kernel
theorem d_Mo_chains_96 : decode b_Mo_chains 96 = .ok (.bipush (40), 2) := by decide +kernel
theorem d_Mo_chains_98 : decode b_Mo_chains 98 = .ok (.irem, 1) := by decide +kernel
theorem d_Mo_chains_99 : decode b_Mo_chains 99 = .ok (.imul, 1) := by decide +kernel
theorem d_Mo_chains_100 : decode b_Mo_chains 100 = .ok (.iadd, 1) := by decide +kernel
theorem d_Mo_chains_101 : decode b_Mo_chains 101 = .ok (.aload_n 0, 1) := by decide +kernel
theorem d_Mo_chains_102 : decode b_Mo_chains 102 = .ok (.getfield 19, 3) := by decide +kernel
theorem d_Mo_chains_105 : decode b_Mo_chains 105 = .ok (.iload 5, 2) := by decide +kernel
theorem d_Mo_chains_107 : decode b_Mo_chains 107 = .ok (.iaload, 1) := by decide +kernel
theorem d_Mo_chains_108 : decode b_Mo_chains 108 = .ok (.iadd, 1) := by decide +kernel
theorem d_Mo_chains_109 : decode b_Mo_chains 109 = .ok (.iaload, 1) := by decide +kernel
theorem d_Mo_chains_110 : decode b_Mo_chains 110 = .ok (.iadd, 1) := by decide +kernel
theorem d_Mo_chains_111 : decode b_Mo_chains 111 = .ok (.iload_n 3, 1) := by decide +kernel
theorem d_Mo_chains_112 : decode b_Mo_chains 112 = .ok (.iload 4, 2) := by decide +kernel
theorem d_Mo_chains_114 : decode b_Mo_chains 114 = .ok (.invokevirtual 90, 3) := by decide +kernel
theorem d_Mo_chains_117 : decode b_Mo_chains 117 = .ok (.aload_n 0, 1) := by decide +kernel
theorem d_Mo_chains_118 : decode b_Mo_chains 118 = .ok (.getfield 87, 3) := by decide +kernel
theorem d_Mo_chains_121 : decode b_Mo_chains 121 = .ok (.bipush (40), 2) := by decide +kernel
theorem d_Mo_chains_123 : decode b_Mo_chains 123 = .ok (.if_icmp .le (5), 3) := by decide +kernel
theorem d_Mo_chains_126 : decode b_Mo_chains 126 = .ok (.iconst 0, 1) := by decide +kernel
theorem d_Mo_chains_127 : decode b_Mo_chains 127 = .ok (.ireturn, 1) := by decide +kernel
theorem d_Mo_chains_128 : decode b_Mo_chains 128 = .ok (.iinc 4 (1), 3) := by decide +kernel
theorem d_Mo_chains_131 : decode b_Mo_chains 131 = .ok (.goto (-113), 3) := by decide +kernel
theorem d_Mo_chains_134 : decode b_Mo_chains 134 = .ok (.iinc 3 (1), 3) := by decide +kernel
theorem d_Mo_chains_137 : decode b_Mo_chains 137 = .ok (.goto (-130), 3) := by decide +kernel
theorem d_Mo_chains_140 : decode b_Mo_chains 140 = .ok (.iconst 1, 1) := by decide +kernel
theorem d_Mo_chains_141 : decode b_Mo_chains 141 = .ok (.ireturn, 1) := by decide +kernel
theorem d_Mo_placeOf_0 : decode b_Mo_placeOf 0 = .ok (.iconst 0, 1) := by decide +kernel
theorem d_Mo_placeOf_1 : decode b_Mo_placeOf 1 = .ok (.istore_n 2, 1) := by decide +kernel
theorem d_Mo_placeOf_2 : decode b_Mo_placeOf 2 = .ok (.aload_n 0, 1) := by decide +kernel
