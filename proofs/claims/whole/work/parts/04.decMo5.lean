theorem d_Mo_reset_29 : decode b_Mo_reset 29 = .ok (.getfield 7, 3) := by decide +kernel
theorem d_Mo_reset_32 : decode b_Mo_reset 32 = .ok (.iload_n 1, 1) := by decide +kernel
theorem d_Mo_reset_33 : decode b_Mo_reset 33 = .ok (.iaload, 1) := by decide +kernel
theorem d_Mo_reset_34 : decode b_Mo_reset 34 = .ok (.ishl, 1) := by decide +kernel
theorem d_Mo_reset_35 : decode b_Mo_reset 35 = .ok (.iconst 1, 1) := by decide +kernel
theorem d_Mo_reset_36 : decode b_Mo_reset 36 = .ok (.isub, 1) := by decide +kernel
theorem d_Mo_reset_37 : decode b_Mo_reset 37 = .ok (.invokevirtual 97, 3) := by decide +kernel
theorem d_Mo_reset_40 : decode b_Mo_reset 40 = .ok (.iconst 0, 1) := by decide +kernel
theorem d_Mo_reset_41 : decode b_Mo_reset 41 = .ok (.istore_n 2, 1) := by decide +kernel
theorem d_Mo_reset_42 : decode b_Mo_reset 42 = .ok (.iload_n 2, 1) := by decide +kernel
theorem d_Mo_reset_43 : decode b_Mo_reset 43 = .ok (.aload_n 0, 1) := by decide +kernel
theorem d_Mo_reset_44 : decode b_Mo_reset 44 = .ok (.getfield 87, 3) := by decide +kernel
theorem d_Mo_reset_47 : decode b_Mo_reset 47 = .ok (.if_icmp .ge (69), 3) := by decide +kernel
theorem d_Mo_reset_50 : decode b_Mo_reset 50 = .ok (.aload_n 0, 1) := by decide +kernel
theorem d_Mo_reset_51 : decode b_Mo_reset 51 = .ok (.getfield 29, 3) := by decide +kernel
theorem d_Mo_reset_54 : decode b_Mo_reset 54 = .ok (.iload_n 2, 1) := by decide +kernel
theorem d_Mo_reset_55 : decode b_Mo_reset 55 = .ok (.iaload, 1) := by decide +kernel
theorem d_Mo_reset_56 : decode b_Mo_reset 56 = .ok (.invokestatic 110, 3) := by decide +kernel
theorem d_Mo_reset_59 : decode b_Mo_reset 59 = .ok (.iconst 1, 1) := by decide +kernel
theorem d_Mo_reset_60 : decode b_Mo_reset 60 = .ok (.if_icmp .ne (14), 3) := by decide +kernel
theorem d_Mo_reset_63 : decode b_Mo_reset 63 = .ok (.aload_n 0, 1) := by decide +kernel
theorem d_Mo_reset_64 : decode b_Mo_reset 64 = .ok (.iload_n 2, 1) := by decide +kernel
theorem d_Mo_reset_65 : decode b_Mo_reset 65 = .ok (.iconst (-1), 1) := by decide +kernel
theorem d_Mo_reset_66 : decode b_Mo_reset 66 = .ok (.invokevirtual 100, 3) := by decide +kernel
theorem d_Mo_reset_69 : decode b_Mo_reset 69 = .ok (.aload_n 0, 1) := by decide +kernel
theorem d_Mo_reset_70 : decode b_Mo_reset 70 = .ok (.getfield 94, 3) := by decide +kernel
theorem d_Mo_reset_73 : decode b_Mo_reset 73 = .ok (.ireturn, 1) := by decide +kernel
theorem d_Mo_reset_74 : decode b_Mo_reset 74 = .ok (.iconst 0, 1) := by decide +kernel
theorem d_Mo_reset_75 : decode b_Mo_reset 75 = .ok (.istore_n 3, 1) := by decide +kernel
theorem d_Mo_reset_76 : decode b_Mo_reset 76 = .ok (.iload_n 3, 1) := by decide +kernel
theorem d_Mo_reset_77 : decode b_Mo_reset 77 = .ok (.aload_n 0, 1) := by decide +kernel
theorem d_Mo_reset_78 : decode b_Mo_reset 78 = .ok (.getfield 13, 3) := by decide +kernel
theorem d_Mo_reset_81 : decode b_Mo_reset 81 = .ok (.iload_n 1, 1) := by decide +kernel
theorem d_Mo_reset_82 : decode b_Mo_reset 82 = .ok (.iaload, 1) := by decide +kernel
theorem d_Mo_reset_83 : decode b_Mo_reset 83 = .ok (.if_icmp .ge (27), 3) := by decide +kernel
theorem d_Mo_reset_86 : decode b_Mo_reset 86 = .ok (.aload_n 0, 1) := by decide +kernel
theorem d_Mo_reset_87 : decode b_Mo_reset 87 = .ok (.aload_n 0, 1) := by decide +kernel
theorem d_Mo_reset_88 : decode b_Mo_reset 88 = .ok (.iload_n 1, 1) := by decide +kernel
theorem d_Mo_reset_89 : decode b_Mo_reset 89 = .ok (.aload_n 0, 1) := by decide +kernel
theorem d_Mo_reset_90 : decode b_Mo_reset 90 = .ok (.getfield 29, 3) := by decide +kernel
theorem d_Mo_reset_93 : decode b_Mo_reset 93 = .ok (.iload_n 2, 1) := by decide +kernel
theorem d_Mo_reset_94 : decode b_Mo_reset 94 = .ok (.iaload, 1) := by decide +kernel
theorem d_Mo_reset_95 : decode b_Mo_reset 95 = .ok (.iload_n 3, 1) := by decide +kernel
theorem d_Mo_reset_96 : decode b_Mo_reset 96 = .ok (.invokevirtual 113, 3) := by decide +kernel
theorem d_Mo_reset_99 : decode b_Mo_reset 99 = .ok (.iload_n 2, 1) := by decide +kernel
theorem d_Mo_reset_100 : decode b_Mo_reset 100 = .ok (.iload_n 3, 1) := by decide +kernel
theorem d_Mo_reset_101 : decode b_Mo_reset 101 = .ok (.invokevirtual 90, 3) := by decide +kernel
theorem d_Mo_reset_104 : decode b_Mo_reset 104 = .ok (.iinc 3 (1), 3) := by decide +kernel
theorem d_Mo_reset_107 : decode b_Mo_reset 107 = .ok (.goto (-31), 3) := by decide +kernel
theorem d_Mo_reset_110 : decode b_Mo_reset 110 = .ok (.iinc 2 (1), 3) := by decide +kernel
theorem d_Mo_reset_113 : decode b_Mo_reset 113 = .ok (.goto (-71), 3) := by decide +kernel
theorem d_Mo_reset_116 : decode b_Mo_reset 116 = .ok (.iconst (-1), 1) := by decide +kernel
theorem d_Mo_reset_117 : decode b_Mo_reset 117 = .ok (.ireturn, 1) := by decide +kernel
theorem d_Mo_put_0 : decode b_Mo_put 0 = .ok (.bipush (12), 2) := by decide +kernel
theorem d_Mo_put_2 : decode b_Mo_put 2 = .ok (.iload_n 1, 1) := by decide +kernel
theorem d_Mo_put_3 : decode b_Mo_put 3 = .ok (.imul, 1) := by decide +kernel
theorem d_Mo_put_4 : decode b_Mo_put 4 = .ok (.istore_n 3, 1) := by decide +kernel
theorem d_Mo_put_5 : decode b_Mo_put 5 = .ok (.iconst 0, 1) := by decide +kernel
theorem d_Mo_put_6 : decode b_Mo_put 6 = .ok (.istore 4, 2) := by decide +kernel
theorem d_Mo_put_8 : decode b_Mo_put 8 = .ok (.iload 4, 2) := by decide +kernel
theorem d_Mo_put_10 : decode b_Mo_put 10 = .ok (.aload_n 0, 1) := by decide +kernel
theorem d_Mo_put_11 : decode b_Mo_put 11 = .ok (.getfield 41, 3) := by decide +kernel
theorem d_Mo_put_14 : decode b_Mo_put 14 = .ok (.iload_n 1, 1) := by decide +kernel
theorem d_Mo_put_15 : decode b_Mo_put 15 = .ok (.iaload, 1) := by decide +kernel
theorem d_Mo_put_16 : decode b_Mo_put 16 = .ok (.if_icmp .ge (26), 3) := by decide +kernel
theorem d_Mo_put_19 : decode b_Mo_put 19 = .ok (.iload_n 2, 1) := by decide +kernel
theorem d_Mo_put_20 : decode b_Mo_put 20 = .ok (.aload_n 0, 1) := by decide +kernel
theorem d_Mo_put_21 : decode b_Mo_put 21 = .ok (.getfield 44, 3) := by decide +kernel
theorem d_Mo_put_24 : decode b_Mo_put 24 = .ok (.iload_n 3, 1) := by decide +kernel
theorem d_Mo_put_25 : decode b_Mo_put 25 = .ok (.iload 4, 2) := by decide +kernel
theorem d_Mo_put_27 : decode b_Mo_put 27 = .ok (.iadd, 1) := by decide +kernel
theorem d_Mo_put_28 : decode b_Mo_put 28 = .ok (.iaload, 1) := by decide +kernel
theorem d_Mo_put_29 : decode b_Mo_put 29 = .ok (.iconst (-1), 1) := by decide +kernel
theorem d_Mo_put_30 : decode b_Mo_put 30 = .ok (.ixor, 1) := by decide +kernel
theorem d_Mo_put_31 : decode b_Mo_put 31 = .ok (.iand, 1) := by decide +kernel
theorem d_Mo_put_32 : decode b_Mo_put 32 = .ok (.ifCond .ne (4), 3) := by decide +kernel
theorem d_Mo_put_35 : decode b_Mo_put 35 = .ok (.return_, 1) := by decide +kernel
theorem d_Mo_put_36 : decode b_Mo_put 36 = .ok (.iinc 4 (1), 3) := by decide +kernel
theorem d_Mo_put_39 : decode b_Mo_put 39 = .ok (.goto (-31), 3) := by decide +kernel
theorem d_Mo_put_42 : decode b_Mo_put 42 = .ok (.iconst 0, 1) := by decide +kernel
theorem d_Mo_put_43 : decode b_Mo_put 43 = .ok (.istore 4, 2) := by decide +kernel
theorem d_Mo_put_45 : decode b_Mo_put 45 = .ok (.iconst 0, 1) := by decide +kernel
theorem d_Mo_put_46 : decode b_Mo_put 46 = .ok (.istore 5, 2) := by decide +kernel
theorem d_Mo_put_48 : decode b_Mo_put 48 = .ok (.iload 5, 2) := by decide +kernel
theorem d_Mo_put_50 : decode b_Mo_put 50 = .ok (.aload_n 0, 1) := by decide +kernel
theorem d_Mo_put_51 : decode b_Mo_put 51 = .ok (.getfield 41, 3) := by decide +kernel
theorem d_Mo_put_54 : decode b_Mo_put 54 = .ok (.iload_n 1, 1) := by decide +kernel
theorem d_Mo_put_55 : decode b_Mo_put 55 = .ok (.iaload, 1) := by decide +kernel
theorem d_Mo_put_56 : decode b_Mo_put 56 = .ok (.if_icmp .ge (49), 3) := by decide +kernel
theorem d_Mo_put_59 : decode b_Mo_put 59 = .ok (.aload_n 0, 1) := by decide +kernel
theorem d_Mo_put_60 : decode b_Mo_put 60 = .ok (.getfield 44, 3) := by decide +kernel
theorem d_Mo_put_63 : decode b_Mo_put 63 = .ok (.iload_n 3, 1) := by decide +kernel
theorem d_Mo_put_64 : decode b_Mo_put 64 = .ok (.iload 5, 2) := by decide +kernel
theorem d_Mo_put_66 : decode b_Mo_put 66 = .ok (.iadd, 1) := by decide +kernel
theorem d_Mo_put_67 : decode b_Mo_put 67 = .ok (.iaload, 1) := by decide +kernel
theorem d_Mo_put_68 : decode b_Mo_put 68 = .ok (.iload_n 2, 1) := by decide +kernel
theorem d_Mo_put_69 : decode b_Mo_put 69 = .ok (.iconst (-1), 1) := by decide +kernel
theorem d_Mo_put_70 : decode b_Mo_put 70 = .ok (.ixor, 1) := by decide +kernel
theorem d_Mo_put_71 : decode b_Mo_put 71 = .ok (.iand, 1) := by decide +kernel
theorem d_Mo_put_72 : decode b_Mo_put 72 = .ok (.ifCond .ne (6), 3) := by decide +kernel
theorem d_Mo_put_75 : decode b_Mo_put 75 = .ok (.goto (24), 3) := by decide +kernel
theorem d_Mo_put_78 : decode b_Mo_put 78 = .ok (.aload_n 0, 1) := by decide +kernel
theorem d_Mo_put_79 : decode b_Mo_put 79 = .ok (.getfield 44, 3) := by decide +kernel
theorem d_Mo_put_82 : decode b_Mo_put 82 = .ok (.iload_n 3, 1) := by decide +kernel
theorem d_Mo_put_83 : decode b_Mo_put 83 = .ok (.iload 4, 2) := by decide +kernel
theorem d_Mo_put_85 : decode b_Mo_put 85 = .ok (.iadd, 1) := by decide +kernel
theorem d_Mo_put_86 : decode b_Mo_put 86 = .ok (.aload_n 0, 1) := by decide +kernel
theorem d_Mo_put_87 : decode b_Mo_put 87 = .ok (.getfield 44, 3) := by decide +kernel
theorem d_Mo_put_90 : decode b_Mo_put 90 = .ok (.iload_n 3, 1) := by decide +kernel
theorem d_Mo_put_91 : decode b_Mo_put 91 = .ok (.iload 5, 2) := by decide +kernel
theorem d_Mo_put_93 : decode b_Mo_put 93 = .ok (.iadd, 1) := by decide +kernel
theorem d_Mo_put_94 : decode b_Mo_put 94 = .ok (.iaload, 1) := by decide +kernel
theorem d_Mo_put_95 : decode b_Mo_put 95 = .ok (.iastore, 1) := by decide +kernel
theorem d_Mo_put_96 : decode b_Mo_put 96 = .ok (.iinc 4 (1), 3) := by decide +kernel
theorem d_Mo_put_99 : decode b_Mo_put 99 = .ok (.iinc 5 (1), 3) := by decide +kernel
theorem d_Mo_put_102 : decode b_Mo_put 102 = .ok (.goto (-54), 3) := by decide +kernel
theorem d_Mo_put_105 : decode b_Mo_put 105 = .ok (.iload 4, 2) := by decide +kernel
theorem d_Mo_put_107 : decode b_Mo_put 107 = .ok (.istore 5, 2) := by decide +kernel
theorem d_Mo_put_109 : decode b_Mo_put 109 = .ok (.iload 5, 2) := by decide +kernel
theorem d_Mo_put_111 : decode b_Mo_put 111 = .ok (.ifCond .le (44), 3) := by decide +kernel
theorem d_Mo_put_114 : decode b_Mo_put 114 = .ok (.aload_n 0, 1) := by decide +kernel
theorem d_Mo_put_115 : decode b_Mo_put 115 = .ok (.getfield 44, 3) := by decide +kernel
theorem d_Mo_put_118 : decode b_Mo_put 118 = .ok (.iload_n 3, 1) := by decide +kernel
theorem d_Mo_put_119 : decode b_Mo_put 119 = .ok (.iload 5, 2) := by decide +kernel
theorem d_Mo_put_121 : decode b_Mo_put 121 = .ok (.iadd, 1) := by decide +kernel
theorem d_Mo_put_122 : decode b_Mo_put 122 = .ok (.iconst 1, 1) := by decide +kernel
theorem d_Mo_put_123 : decode b_Mo_put 123 = .ok (.isub, 1) := by decide +kernel
theorem d_Mo_put_124 : decode b_Mo_put 124 = .ok (.iaload, 1) := by decide +kernel
theorem d_Mo_put_125 : decode b_Mo_put 125 = .ok (.iload_n 2, 1) := by decide +kernel
theorem d_Mo_put_126 : decode b_Mo_put 126 = .ok (.if_icmp .le (29), 3) := by decide +kernel
theorem d_Mo_put_129 : decode b_Mo_put 129 = .ok (.aload_n 0, 1) := by decide +kernel
theorem d_Mo_put_130 : decode b_Mo_put 130 = .ok (.getfield 44, 3) := by decide +kernel
theorem d_Mo_put_133 : decode b_Mo_put 133 = .ok (.iload_n 3, 1) := by decide +kernel
theorem d_Mo_put_134 : decode b_Mo_put 134 = .ok (.iload 5, 2) := by decide +kernel
theorem d_Mo_put_136 : decode b_Mo_put 136 = .ok (.iadd, 1) := by decide +kernel
theorem d_Mo_put_137 : decode b_Mo_put 137 = .ok (.aload_n 0, 1) := by decide +kernel
theorem d_Mo_put_138 : decode b_Mo_put 138 = .ok (.getfield 44, 3) := by decide +kernel
theorem d_Mo_put_141 : decode b_Mo_put 141 = .ok (.iload_n 3, 1) := by decide +kernel
theorem d_Mo_put_142 : decode b_Mo_put 142 = .ok (.iload 5, 2) := by decide +kernel
theorem d_Mo_put_144 : decode b_Mo_put 144 = .ok (.iadd, 1) := by decide +kernel
theorem d_Mo_put_145 : decode b_Mo_put 145 = .ok (.iconst 1, 1) := by decide +kernel
theorem d_Mo_put_146 : decode b_Mo_put 146 = .ok (.isub, 1) := by decide +kernel
theorem d_Mo_put_147 : decode b_Mo_put 147 = .ok (.iaload, 1) := by decide +kernel
theorem d_Mo_put_148 : decode b_Mo_put 148 = .ok (.iastore, 1) := by decide +kernel
theorem d_Mo_put_149 : decode b_Mo_put 149 = .ok (.iinc 5 (-1), 3) := by decide +kernel
theorem d_Mo_put_152 : decode b_Mo_put 152 = .ok (.goto (-43), 3) := by decide +kernel
theorem d_Mo_put_155 : decode b_Mo_put 155 = .ok (.aload_n 0, 1) := by decide +kernel
theorem d_Mo_put_156 : decode b_Mo_put 156 = .ok (.getfield 44, 3) := by decide +kernel
theorem d_Mo_put_159 : decode b_Mo_put 159 = .ok (.iload_n 3, 1) := by decide +kernel
theorem d_Mo_put_160 : decode b_Mo_put 160 = .ok (.iload 5, 2) := by decide +kernel
theorem d_Mo_put_162 : decode b_Mo_put 162 = .ok (.iadd, 1) := by decide +kernel
theorem d_Mo_put_163 : decode b_Mo_put 163 = .ok (.iload_n 2, 1) := by decide +kernel
theorem d_Mo_put_164 : decode b_Mo_put 164 = .ok (.iastore, 1) := by decide +kernel
theorem d_Mo_put_165 : decode b_Mo_put 165 = .ok (.aload_n 0, 1) := by decide +kernel
theorem d_Mo_put_166 : decode b_Mo_put 166 = .ok (.getfield 41, 3) := by decide +kernel
theorem d_Mo_put_169 : decode b_Mo_put 169 = .ok (.iload_n 1, 1) := by decide +kernel
theorem d_Mo_put_170 : decode b_Mo_put 170 = .ok (.iload 4, 2) := by decide +kernel
theorem d_Mo_put_172 : decode b_Mo_put 172 = .ok (.iconst 1, 1) := by decide +kernel
theorem d_Mo_put_173 : decode b_Mo_put 173 = .ok (.iadd, 1) := by decide +kernel
theorem d_Mo_put_174 : decode b_Mo_put 174 = .ok (.iastore, 1) := by decide +kernel
theorem d_Mo_put_175 : decode b_Mo_put 175 = .ok (.return_, 1) := by decide +kernel
theorem d_Mo_lead_0 : decode b_Mo_lead 0 = .ok (.aload_n 0, 1) := by decide +kernel
theorem d_Mo_lead_1 : decode b_Mo_lead 1 = .ok (.getfield 41, 3) := by decide +kernel
theorem d_Mo_lead_4 : decode b_Mo_lead 4 = .ok (.iload 4, 2) := by decide +kernel
theorem d_Mo_lead_6 : decode b_Mo_lead 6 = .ok (.iconst 0, 1) := by decide +kernel
theorem d_Mo_lead_7 : decode b_Mo_lead 7 = .ok (.iastore, 1) := by decide +kernel
theorem d_Mo_lead_8 : decode b_Mo_lead 8 = .ok (.iconst 0, 1) := by decide +kernel
theorem d_Mo_lead_9 : decode b_Mo_lead 9 = .ok (.istore 5, 2) := by decide +kernel
theorem d_Mo_lead_11 : decode b_Mo_lead 11 = .ok (.iload 5, 2) := by decide +kernel
theorem d_Mo_lead_13 : decode b_Mo_lead 13 = .ok (.aload_n 0, 1) := by decide +kernel
theorem d_Mo_lead_14 : decode b_Mo_lead 14 = .ok (.getfield 41, 3) := by decide +kernel
theorem d_Mo_lead_17 : decode b_Mo_lead 17 = .ok (.iload_n 2, 1) := by decide +kernel
theorem d_Mo_lead_18 : decode b_Mo_lead 18 = .ok (.iaload, 1) := by decide +kernel
theorem d_Mo_lead_19 : decode b_Mo_lead 19 = .ok (.if_icmp .ge (126), 3) := by decide +kernel
theorem d_Mo_lead_22 : decode b_Mo_lead 22 = .ok (.iconst 0, 1) := by decide +kernel
theorem d_Mo_lead_23 : decode b_Mo_lead 23 = .ok (.istore 6, 2) := by decide +kernel
theorem d_Mo_lead_25 : decode b_Mo_lead 25 = .ok (.iload 6, 2) := by decide +kernel
theorem d_Mo_lead_27 : decode b_Mo_lead 27 = .ok (.bipush (10), 2) := by decide +kernel
theorem d_Mo_lead_29 : decode b_Mo_lead 29 = .ok (.if_icmp .ge (110), 3) := by decide +kernel
theorem d_Mo_lead_32 : decode b_Mo_lead 32 = .ok (.iconst 0, 1) := by decide +kernel
theorem d_Mo_lead_33 : decode b_Mo_lead 33 = .ok (.istore 7, 2) := by decide +kernel
theorem d_Mo_lead_35 : decode b_Mo_lead 35 = .ok (.iconst 0, 1) := by decide +kernel
theorem d_Mo_lead_36 : decode b_Mo_lead 36 = .ok (.istore 8, 2) := by decide +kernel
theorem d_Mo_lead_38 : decode b_Mo_lead 38 = .ok (.iload 8, 2) := by decide +kernel
theorem d_Mo_lead_40 : decode b_Mo_lead 40 = .ok (.aload_n 0, 1) := by decide +kernel
theorem d_Mo_lead_41 : decode b_Mo_lead 41 = .ok (.getfield 7, 3) := by decide +kernel
theorem d_Mo_lead_44 : decode b_Mo_lead 44 = .ok (.iload_n 1, 1) := by decide +kernel
theorem d_Mo_lead_45 : decode b_Mo_lead 45 = .ok (.iaload, 1) := by decide +kernel
theorem d_Mo_lead_46 : decode b_Mo_lead 46 = .ok (.if_icmp .ge (74), 3) := by decide +kernel
theorem d_Mo_lead_49 : decode b_Mo_lead 49 = .ok (.sipush (160), 3) := by decide +kernel
theorem d_Mo_lead_52 : decode b_Mo_lead 52 = .ok (.iload_n 1, 1) := by decide +kernel
theorem d_Mo_lead_53 : decode b_Mo_lead 53 = .ok (.imul, 1) := by decide +kernel
theorem d_Mo_lead_54 : decode b_Mo_lead 54 = .ok (.iconst 4, 1) := by decide +kernel
theorem d_Mo_lead_55 : decode b_Mo_lead 55 = .ok (.iload 8, 2) := by decide +kernel
theorem d_Mo_lead_57 : decode b_Mo_lead 57 = .ok (.imul, 1) := by decide +kernel
theorem d_Mo_lead_58 : decode b_Mo_lead 58 = .ok (.iadd, 1) := by decide +kernel
theorem d_Mo_lead_59 : decode b_Mo_lead 59 = .ok (.iload_n 3, 1) := by decide +kernel
theorem d_Mo_lead_60 : decode b_Mo_lead 60 = .ok (.iadd, 1) := by decide +kernel
theorem d_Mo_lead_61 : decode b_Mo_lead 61 = .ok (.istore 9, 2) := by decide +kernel
theorem d_Mo_lead_63 : decode b_Mo_lead 63 = .ok (.aload_n 0, 1) := by decide +kernel
