theorem d_MT_tell_2 : decode b_MT_tell 2 = .ok (.getfield 18, 3) := by decide +kernel
theorem d_MT_tell_5 : decode b_MT_tell 5 = .ok (.iload_n 1, 1) := by decide +kernel
theorem d_MT_tell_6 : decode b_MT_tell 6 = .ok (.invokevirtual 152, 3) := by decide +kernel
theorem d_MT_tell_9 : decode b_MT_tell 9 = .ok (.putfield 33, 3) := by decide +kernel
theorem d_MT_tell_12 : decode b_MT_tell 12 = .ok (.aload_n 0, 1) := by decide +kernel
theorem d_MT_tell_13 : decode b_MT_tell 13 = .ok (.getfield 33, 3) := by decide +kernel
theorem d_MT_tell_16 : decode b_MT_tell 16 = .ok (.arraylength, 1) := by decide +kernel
theorem d_MT_tell_17 : decode b_MT_tell 17 = .ok (.ireturn, 1) := by decide +kernel
theorem d_MT_seekWitness_0 : decode b_MT_seekWitness 0 = .ok (.aload_n 0, 1) := by decide +kernel
theorem d_MT_seekWitness_1 : decode b_MT_seekWitness 1 = .ok (.getfield 18, 3) := by decide +kernel
theorem d_MT_seekWitness_4 : decode b_MT_seekWitness 4 = .ok (.sipush (1600), 3) := by decide +kernel
theorem d_MT_seekWitness_7 : decode b_MT_seekWitness 7 = .ok (.invokevirtual 156, 3) := by decide +kernel
theorem d_MT_seekWitness_10 : decode b_MT_seekWitness 10 = .ok (.aload_n 0, 1) := by decide +kernel
theorem d_MT_seekWitness_11 : decode b_MT_seekWitness 11 = .ok (.getfield 18, 3) := by decide +kernel
theorem d_MT_seekWitness_14 : decode b_MT_seekWitness 14 = .ok (.iload_n 2, 1) := by decide +kernel
theorem d_MT_seekWitness_15 : decode b_MT_seekWitness 15 = .ok (.iload 4, 2) := by decide +kernel
theorem d_MT_seekWitness_17 : decode b_MT_seekWitness 17 = .ok (.invokestatic 159, 3) := by decide +kernel
theorem d_MT_seekWitness_20 : decode b_MT_seekWitness 20 = .ok (.iconst 0, 1) := by decide +kernel
theorem d_MT_seekWitness_21 : decode b_MT_seekWitness 21 = .ok (.iconst 0, 1) := by decide +kernel
theorem d_MT_seekWitness_22 : decode b_MT_seekWitness 22 = .ok (.invokevirtual 162, 3) := by decide +kernel
theorem d_MT_seekWitness_25 : decode b_MT_seekWitness 25 = .ok (.iconst 0, 1) := by decide +kernel
theorem d_MT_seekWitness_26 : decode b_MT_seekWitness 26 = .ok (.istore 5, 2) := by decide +kernel
theorem d_MT_seekWitness_28 : decode b_MT_seekWitness 28 = .ok (.iload 5, 2) := by decide +kernel
theorem d_MT_seekWitness_30 : decode b_MT_seekWitness 30 = .ok (.aload_n 0, 1) := by decide +kernel
theorem d_MT_seekWitness_31 : decode b_MT_seekWitness 31 = .ok (.getfield 18, 3) := by decide +kernel
theorem d_MT_seekWitness_34 : decode b_MT_seekWitness 34 = .ok (.getfield 101, 3) := by decide +kernel
theorem d_MT_seekWitness_37 : decode b_MT_seekWitness 37 = .ok (.if_icmp .ge (124), 3) := by decide +kernel
theorem d_MT_seekWitness_40 : decode b_MT_seekWitness 40 = .ok (.iload 5, 2) := by decide +kernel
theorem d_MT_seekWitness_42 : decode b_MT_seekWitness 42 = .ok (.sipush (1600), 3) := by decide +kernel
theorem d_MT_seekWitness_45 : decode b_MT_seekWitness 45 = .ok (.if_icmp .ge (116), 3) := by decide +kernel
theorem d_MT_seekWitness_48 : decode b_MT_seekWitness 48 = .ok (.aload_n 0, 1) := by decide +kernel
theorem d_MT_seekWitness_49 : decode b_MT_seekWitness 49 = .ok (.getfield 18, 3) := by decide +kernel
theorem d_MT_seekWitness_52 : decode b_MT_seekWitness 52 = .ok (.iload 5, 2) := by decide +kernel
theorem d_MT_seekWitness_54 : decode b_MT_seekWitness 54 = .ok (.invokevirtual 105, 3) := by decide +kernel
theorem d_MT_seekWitness_57 : decode b_MT_seekWitness 57 = .ok (.invokestatic 132, 3) := by decide +kernel
theorem d_MT_seekWitness_60 : decode b_MT_seekWitness 60 = .ok (.istore 6, 2) := by decide +kernel
theorem d_MT_seekWitness_62 : decode b_MT_seekWitness 62 = .ok (.aload_n 0, 1) := by decide +kernel
theorem d_MT_seekWitness_63 : decode b_MT_seekWitness 63 = .ok (.getfield 18, 3) := by decide +kernel
theorem d_MT_seekWitness_66 : decode b_MT_seekWitness 66 = .ok (.iload 5, 2) := by decide +kernel
theorem d_MT_seekWitness_68 : decode b_MT_seekWitness 68 = .ok (.invokevirtual 105, 3) := by decide +kernel
theorem d_MT_seekWitness_71 : decode b_MT_seekWitness 71 = .ok (.invokestatic 139, 3) := by decide +kernel
theorem d_MT_seekWitness_74 : decode b_MT_seekWitness 74 = .ok (.istore 7, 2) := by decide +kernel
theorem d_MT_seekWitness_76 : decode b_MT_seekWitness 76 = .ok (.iconst 0, 1) := by decide +kernel
theorem d_MT_seekWitness_77 : decode b_MT_seekWitness 77 = .ok (.istore 8, 2) := by decide +kernel
theorem d_MT_seekWitness_79 : decode b_MT_seekWitness 79 = .ok (.iload 8, 2) := by decide +kernel
theorem d_MT_seekWitness_81 : decode b_MT_seekWitness 81 = .ok (.aload_n 1, 1) := by decide +kernel
theorem d_MT_seekWitness_82 : decode b_MT_seekWitness 82 = .ok (.getfield 85, 3) := by decide +kernel
theorem d_MT_seekWitness_85 : decode b_MT_seekWitness 85 = .ok (.if_icmp .ge (70), 3) := by decide +kernel
theorem d_MT_seekWitness_88 : decode b_MT_seekWitness 88 = .ok (.aload_n 1, 1) := by decide +kernel
theorem d_MT_seekWitness_89 : decode b_MT_seekWitness 89 = .ok (.iload 6, 2) := by decide +kernel
theorem d_MT_seekWitness_91 : decode b_MT_seekWitness 91 = .ok (.iload 8, 2) := by decide +kernel
theorem d_MT_seekWitness_93 : decode b_MT_seekWitness 93 = .ok (.invokevirtual 64, 3) := by decide +kernel
theorem d_MT_seekWitness_96 : decode b_MT_seekWitness 96 = .ok (.aload_n 3, 1) := by decide +kernel
theorem d_MT_seekWitness_97 : decode b_MT_seekWitness 97 = .ok (.iload 7, 2) := by decide +kernel
theorem d_MT_seekWitness_99 : decode b_MT_seekWitness 99 = .ok (.iload 8, 2) := by decide +kernel
theorem d_MT_seekWitness_101 : decode b_MT_seekWitness 101 = .ok (.invokevirtual 64, 3) := by decide +kernel
theorem d_MT_seekWitness_104 : decode b_MT_seekWitness 104 = .ok (.if_icmp .eq (15), 3) := by decide +kernel
theorem d_MT_seekWitness_107 : decode b_MT_seekWitness 107 = .ok (.aload_n 0, 1) := by decide +kernel
theorem d_MT_seekWitness_108 : decode b_MT_seekWitness 108 = .ok (.getfield 18, 3) := by decide +kernel
theorem d_MT_seekWitness_111 : decode b_MT_seekWitness 111 = .ok (.iload 5, 2) := by decide +kernel
theorem d_MT_seekWitness_113 : decode b_MT_seekWitness 113 = .ok (.iload 8, 2) := by decide +kernel
theorem d_MT_seekWitness_115 : decode b_MT_seekWitness 115 = .ok (.invokevirtual 166, 3) := by decide +kernel
theorem d_MT_seekWitness_118 : decode b_MT_seekWitness 118 = .ok (.ireturn, 1) := by decide +kernel
theorem d_MT_seekWitness_119 : decode b_MT_seekWitness 119 = .ok (.aload_n 0, 1) := by decide +kernel
theorem d_MT_seekWitness_120 : decode b_MT_seekWitness 120 = .ok (.getfield 18, 3) := by decide +kernel
theorem d_MT_seekWitness_123 : decode b_MT_seekWitness 123 = .ok (.aload_n 1, 1) := by decide +kernel
theorem d_MT_seekWitness_124 : decode b_MT_seekWitness 124 = .ok (.iload 6, 2) := by decide +kernel
theorem d_MT_seekWitness_126 : decode b_MT_seekWitness 126 = .ok (.iload 8, 2) := by decide +kernel
theorem d_MT_seekWitness_128 : decode b_MT_seekWitness 128 = .ok (.invokevirtual 60, 3) := by decide +kernel
theorem d_MT_seekWitness_131 : decode b_MT_seekWitness 131 = .ok (.aload_n 3, 1) := by decide +kernel
theorem d_MT_seekWitness_132 : decode b_MT_seekWitness 132 = .ok (.iload 7, 2) := by decide +kernel
theorem d_MT_seekWitness_134 : decode b_MT_seekWitness 134 = .ok (.iload 8, 2) := by decide +kernel
theorem d_MT_seekWitness_136 : decode b_MT_seekWitness 136 = .ok (.invokevirtual 60, 3) := by decide +kernel
theorem d_MT_seekWitness_139 : decode b_MT_seekWitness 139 = .ok (.invokestatic 159, 3) := by decide +kernel
theorem d_MT_seekWitness_142 : decode b_MT_seekWitness 142 = .ok (.iload 5, 2) := by decide +kernel
theorem d_MT_seekWitness_144 : decode b_MT_seekWitness 144 = .ok (.iload 8, 2) := by decide +kernel
theorem d_MT_seekWitness_146 : decode b_MT_seekWitness 146 = .ok (.invokevirtual 162, 3) := by decide +kernel
theorem d_MT_seekWitness_149 : decode b_MT_seekWitness 149 = .ok (.iinc 8 (1), 3) := by decide +kernel
theorem d_MT_seekWitness_152 : decode b_MT_seekWitness 152 = .ok (.goto (-73), 3) := by decide +kernel
theorem d_MT_seekWitness_155 : decode b_MT_seekWitness 155 = .ok (.iinc 5 (1), 3) := by decide +kernel
theorem d_MT_seekWitness_158 : decode b_MT_seekWitness 158 = .ok (.goto (-130), 3) := by decide +kernel
theorem d_MT_seekWitness_161 : decode b_MT_seekWitness 161 = .ok (.iconst (-1), 1) := by decide +kernel
theorem d_MT_seekWitness_162 : decode b_MT_seekWitness 162 = .ok (.ireturn, 1) := by decide +kernel
theorem d_MT_numberSets_0 : decode b_MT_numberSets 0 = .ok (.aload_n 0, 1) := by decide +kernel
theorem d_MT_numberSets_1 : decode b_MT_numberSets 1 = .ok (.getfield 18, 3) := by decide +kernel
theorem d_MT_numberSets_4 : decode b_MT_numberSets 4 = .ok (.aload_n 1, 1) := by decide +kernel
theorem d_MT_numberSets_5 : decode b_MT_numberSets 5 = .ok (.getfield 102, 3) := by decide +kernel
theorem d_MT_numberSets_8 : decode b_MT_numberSets 8 = .ok (.invokevirtual 156, 3) := by decide +kernel
theorem d_MT_numberSets_11 : decode b_MT_numberSets 11 = .ok (.aload_n 0, 1) := by decide +kernel
theorem d_MT_numberSets_12 : decode b_MT_numberSets 12 = .ok (.getfield 18, 3) := by decide +kernel
theorem d_MT_numberSets_15 : decode b_MT_numberSets 15 = .ok (.aload_n 1, 1) := by decide +kernel
theorem d_MT_numberSets_16 : decode b_MT_numberSets 16 = .ok (.iconst 0, 1) := by decide +kernel
theorem d_MT_numberSets_17 : decode b_MT_numberSets 17 = .ok (.invokevirtual 74, 3) := by decide +kernel
theorem d_MT_numberSets_20 : decode b_MT_numberSets 20 = .ok (.iconst 0, 1) := by decide +kernel
theorem d_MT_numberSets_21 : decode b_MT_numberSets 21 = .ok (.iconst 0, 1) := by decide +kernel
theorem d_MT_numberSets_22 : decode b_MT_numberSets 22 = .ok (.invokevirtual 162, 3) := by decide +kernel
theorem d_MT_numberSets_25 : decode b_MT_numberSets 25 = .ok (.iconst 0, 1) := by decide +kernel
theorem d_MT_numberSets_26 : decode b_MT_numberSets 26 = .ok (.istore_n 2, 1) := by decide +kernel
theorem d_MT_numberSets_27 : decode b_MT_numberSets 27 = .ok (.iload_n 2, 1) := by decide +kernel
theorem d_MT_numberSets_28 : decode b_MT_numberSets 28 = .ok (.aload_n 0, 1) := by decide +kernel
theorem d_MT_numberSets_29 : decode b_MT_numberSets 29 = .ok (.getfield 18, 3) := by decide +kernel
theorem d_MT_numberSets_32 : decode b_MT_numberSets 32 = .ok (.getfield 101, 3) := by decide +kernel
theorem d_MT_numberSets_35 : decode b_MT_numberSets 35 = .ok (.if_icmp .ge (63), 3) := by decide +kernel
theorem d_MT_numberSets_38 : decode b_MT_numberSets 38 = .ok (.iload_n 2, 1) := by decide +kernel
theorem d_MT_numberSets_39 : decode b_MT_numberSets 39 = .ok (.bipush (40), 2) := by decide +kernel
theorem d_MT_numberSets_41 : decode b_MT_numberSets 41 = .ok (.if_icmp .ge (57), 3) := by decide +kernel
theorem d_MT_numberSets_44 : decode b_MT_numberSets 44 = .ok (.aload_n 0, 1) := by decide +kernel
theorem d_MT_numberSets_45 : decode b_MT_numberSets 45 = .ok (.getfield 18, 3) := by decide +kernel
theorem d_MT_numberSets_48 : decode b_MT_numberSets 48 = .ok (.iload_n 2, 1) := by decide +kernel
theorem d_MT_numberSets_49 : decode b_MT_numberSets 49 = .ok (.invokevirtual 105, 3) := by decide +kernel
theorem d_MT_numberSets_52 : decode b_MT_numberSets 52 = .ok (.istore_n 3, 1) := by decide +kernel
theorem d_MT_numberSets_53 : decode b_MT_numberSets 53 = .ok (.iconst 0, 1) := by decide +kernel
theorem d_MT_numberSets_54 : decode b_MT_numberSets 54 = .ok (.istore 4, 2) := by decide +kernel
theorem d_MT_numberSets_56 : decode b_MT_numberSets 56 = .ok (.iload 4, 2) := by decide +kernel
theorem d_MT_numberSets_58 : decode b_MT_numberSets 58 = .ok (.aload_n 1, 1) := by decide +kernel
theorem d_MT_numberSets_59 : decode b_MT_numberSets 59 = .ok (.getfield 85, 3) := by decide +kernel
theorem d_MT_numberSets_62 : decode b_MT_numberSets 62 = .ok (.if_icmp .ge (30), 3) := by decide +kernel
theorem d_MT_numberSets_65 : decode b_MT_numberSets 65 = .ok (.aload_n 0, 1) := by decide +kernel
theorem d_MT_numberSets_66 : decode b_MT_numberSets 66 = .ok (.getfield 18, 3) := by decide +kernel
theorem d_MT_numberSets_69 : decode b_MT_numberSets 69 = .ok (.aload_n 1, 1) := by decide +kernel
theorem d_MT_numberSets_70 : decode b_MT_numberSets 70 = .ok (.aload_n 1, 1) := by decide +kernel
theorem d_MT_numberSets_71 : decode b_MT_numberSets 71 = .ok (.iload_n 3, 1) := by decide +kernel
theorem d_MT_numberSets_72 : decode b_MT_numberSets 72 = .ok (.iload 4, 2) := by decide +kernel
theorem d_MT_numberSets_74 : decode b_MT_numberSets 74 = .ok (.invokevirtual 60, 3) := by decide +kernel
theorem d_MT_numberSets_77 : decode b_MT_numberSets 77 = .ok (.invokevirtual 74, 3) := by decide +kernel
theorem d_MT_numberSets_80 : decode b_MT_numberSets 80 = .ok (.iload_n 2, 1) := by decide +kernel
theorem d_MT_numberSets_81 : decode b_MT_numberSets 81 = .ok (.iload 4, 2) := by decide +kernel
theorem d_MT_numberSets_83 : decode b_MT_numberSets 83 = .ok (.invokevirtual 162, 3) := by decide +kernel
theorem d_MT_numberSets_86 : decode b_MT_numberSets 86 = .ok (.iinc 4 (1), 3) := by decide +kernel
theorem d_MT_numberSets_89 : decode b_MT_numberSets 89 = .ok (.goto (-33), 3) := by decide +kernel
theorem d_MT_numberSets_92 : decode b_MT_numberSets 92 = .ok (.iinc 2 (1), 3) := by decide +kernel
theorem d_MT_numberSets_95 : decode b_MT_numberSets 95 = .ok (.goto (-68), 3) := by decide +kernel
theorem d_MT_numberSets_98 : decode b_MT_numberSets 98 = .ok (.return_, 1) := by decide +kernel
theorem d_MT_seekReset_0 : decode b_MT_seekReset 0 = .ok (.aload_n 0, 1) := by decide +kernel
theorem d_MT_seekReset_1 : decode b_MT_seekReset 1 = .ok (.getfield 18, 3) := by decide +kernel
theorem d_MT_seekReset_4 : decode b_MT_seekReset 4 = .ok (.iconst 1, 1) := by decide +kernel
theorem d_MT_seekReset_5 : decode b_MT_seekReset 5 = .ok (.aload_n 1, 1) := by decide +kernel
theorem d_MT_seekReset_6 : decode b_MT_seekReset 6 = .ok (.getfield 102, 3) := by decide +kernel
theorem d_MT_seekReset_9 : decode b_MT_seekReset 9 = .ok (.ishl, 1) := by decide +kernel
theorem d_MT_seekReset_10 : decode b_MT_seekReset 10 = .ok (.invokevirtual 156, 3) := by decide +kernel
theorem d_MT_seekReset_13 : decode b_MT_seekReset 13 = .ok (.aload_n 0, 1) := by decide +kernel
theorem d_MT_seekReset_14 : decode b_MT_seekReset 14 = .ok (.getfield 18, 3) := by decide +kernel
theorem d_MT_seekReset_17 : decode b_MT_seekReset 17 = .ok (.iconst 1, 1) := by decide +kernel
theorem d_MT_seekReset_18 : decode b_MT_seekReset 18 = .ok (.aload_n 1, 1) := by decide +kernel
theorem d_MT_seekReset_19 : decode b_MT_seekReset 19 = .ok (.getfield 102, 3) := by decide +kernel
theorem d_MT_seekReset_22 : decode b_MT_seekReset 22 = .ok (.ishl, 1) := by decide +kernel
theorem d_MT_seekReset_23 : decode b_MT_seekReset 23 = .ok (.iconst 1, 1) := by decide +kernel
theorem d_MT_seekReset_24 : decode b_MT_seekReset 24 = .ok (.isub, 1) := by decide +kernel
theorem d_MT_seekReset_25 : decode b_MT_seekReset 25 = .ok (.iconst 0, 1) := by decide +kernel
theorem d_MT_seekReset_26 : decode b_MT_seekReset 26 = .ok (.iconst 0, 1) := by decide +kernel
theorem d_MT_seekReset_27 : decode b_MT_seekReset 27 = .ok (.invokevirtual 162, 3) := by decide +kernel
theorem d_MT_seekReset_30 : decode b_MT_seekReset 30 = .ok (.iconst 0, 1) := by decide +kernel
theorem d_MT_seekReset_31 : decode b_MT_seekReset 31 = .ok (.istore_n 2, 1) := by decide +kernel
theorem d_MT_seekReset_32 : decode b_MT_seekReset 32 = .ok (.iload_n 2, 1) := by decide +kernel
theorem d_MT_seekReset_33 : decode b_MT_seekReset 33 = .ok (.aload_n 0, 1) := by decide +kernel
theorem d_MT_seekReset_34 : decode b_MT_seekReset 34 = .ok (.getfield 18, 3) := by decide +kernel
theorem d_MT_seekReset_37 : decode b_MT_seekReset 37 = .ok (.getfield 101, 3) := by decide +kernel
theorem d_MT_seekReset_40 : decode b_MT_seekReset 40 = .ok (.if_icmp .ge (70), 3) := by decide +kernel
theorem d_MT_seekReset_43 : decode b_MT_seekReset 43 = .ok (.iload_n 2, 1) := by decide +kernel
theorem d_MT_seekReset_44 : decode b_MT_seekReset 44 = .ok (.sipush (4096), 3) := by decide +kernel
theorem d_MT_seekReset_47 : decode b_MT_seekReset 47 = .ok (.if_icmp .ge (63), 3) := by decide +kernel
theorem d_MT_seekReset_50 : decode b_MT_seekReset 50 = .ok (.aload_n 0, 1) := by decide +kernel
theorem d_MT_seekReset_51 : decode b_MT_seekReset 51 = .ok (.getfield 18, 3) := by decide +kernel
theorem d_MT_seekReset_54 : decode b_MT_seekReset 54 = .ok (.iload_n 2, 1) := by decide +kernel
theorem d_MT_seekReset_55 : decode b_MT_seekReset 55 = .ok (.invokevirtual 105, 3) := by decide +kernel
theorem d_MT_seekReset_58 : decode b_MT_seekReset 58 = .ok (.istore_n 3, 1) := by decide +kernel
theorem d_MT_seekReset_59 : decode b_MT_seekReset 59 = .ok (.iload_n 3, 1) := by decide +kernel
theorem d_MT_seekReset_60 : decode b_MT_seekReset 60 = .ok (.invokestatic 169, 3) := by decide +kernel
theorem d_MT_seekReset_63 : decode b_MT_seekReset 63 = .ok (.iconst 1, 1) := by decide +kernel
theorem d_MT_seekReset_64 : decode b_MT_seekReset 64 = .ok (.if_icmp .ne (5), 3) := by decide +kernel
theorem d_MT_seekReset_67 : decode b_MT_seekReset 67 = .ok (.iload_n 2, 1) := by decide +kernel
theorem d_MT_seekReset_68 : decode b_MT_seekReset 68 = .ok (.ireturn, 1) := by decide +kernel
theorem d_MT_seekReset_69 : decode b_MT_seekReset 69 = .ok (.iconst 0, 1) := by decide +kernel
theorem d_MT_seekReset_70 : decode b_MT_seekReset 70 = .ok (.istore 4, 2) := by decide +kernel
theorem d_MT_seekReset_72 : decode b_MT_seekReset 72 = .ok (.iload 4, 2) := by decide +kernel
theorem d_MT_seekReset_74 : decode b_MT_seekReset 74 = .ok (.aload_n 1, 1) := by decide +kernel
theorem d_MT_seekReset_75 : decode b_MT_seekReset 75 = .ok (.getfield 85, 3) := by decide +kernel
theorem d_MT_seekReset_78 : decode b_MT_seekReset 78 = .ok (.if_icmp .ge (26), 3) := by decide +kernel
theorem d_MT_seekReset_81 : decode b_MT_seekReset 81 = .ok (.aload_n 0, 1) := by decide +kernel
theorem d_MT_seekReset_82 : decode b_MT_seekReset 82 = .ok (.getfield 18, 3) := by decide +kernel
theorem d_MT_seekReset_85 : decode b_MT_seekReset 85 = .ok (.aload_n 1, 1) := by decide +kernel
theorem d_MT_seekReset_86 : decode b_MT_seekReset 86 = .ok (.iload_n 3, 1) := by decide +kernel
theorem d_MT_seekReset_87 : decode b_MT_seekReset 87 = .ok (.iload 4, 2) := by decide +kernel
theorem d_MT_seekReset_89 : decode b_MT_seekReset 89 = .ok (.invokevirtual 174, 3) := by decide +kernel
theorem d_MT_seekReset_92 : decode b_MT_seekReset 92 = .ok (.iload_n 2, 1) := by decide +kernel
theorem d_MT_seekReset_93 : decode b_MT_seekReset 93 = .ok (.iload 4, 2) := by decide +kernel
theorem d_MT_seekReset_95 : decode b_MT_seekReset 95 = .ok (.invokevirtual 162, 3) := by decide +kernel
theorem d_MT_seekReset_98 : decode b_MT_seekReset 98 = .ok (.iinc 4 (1), 3) := by decide +kernel
theorem d_MT_seekReset_101 : decode b_MT_seekReset 101 = .ok (.goto (-29), 3) := by decide +kernel
theorem d_MT_seekReset_104 : decode b_MT_seekReset 104 = .ok (.iinc 2 (1), 3) := by decide +kernel
theorem d_MT_seekReset_107 : decode b_MT_seekReset 107 = .ok (.goto (-75), 3) := by decide +kernel
theorem d_MT_seekReset_110 : decode b_MT_seekReset 110 = .ok (.iconst (-1), 1) := by decide +kernel
theorem d_MT_seekReset_111 : decode b_MT_seekReset 111 = .ok (.ireturn, 1) := by decide +kernel
theorem d_MT_seekHomed_0 : decode b_MT_seekHomed 0 = .ok (.aload_n 0, 1) := by decide +kernel
theorem d_MT_seekHomed_1 : decode b_MT_seekHomed 1 = .ok (.getfield 18, 3) := by decide +kernel
theorem d_MT_seekHomed_4 : decode b_MT_seekHomed 4 = .ok (.iconst 0, 1) := by decide +kernel
theorem d_MT_seekHomed_5 : decode b_MT_seekHomed 5 = .ok (.invokevirtual 156, 3) := by decide +kernel
theorem d_MT_seekHomed_8 : decode b_MT_seekHomed 8 = .ok (.aload_n 0, 1) := by decide +kernel
theorem d_MT_seekHomed_9 : decode b_MT_seekHomed 9 = .ok (.getfield 25, 3) := by decide +kernel
theorem d_MT_seekHomed_12 : decode b_MT_seekHomed 12 = .ok (.aload_n 1, 1) := by decide +kernel
