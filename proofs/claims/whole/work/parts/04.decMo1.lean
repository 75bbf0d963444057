theorem d_Mo_arrow_14 : decode b_Mo_arrow 14 = .ok (.iload_n 3, 1) := by decide +kernel
theorem d_Mo_arrow_15 : decode b_Mo_arrow 15 = .ok (.iconst 0, 1) := by decide +kernel
theorem d_Mo_arrow_16 : decode b_Mo_arrow 16 = .ok (.aload_n 0, 1) := by decide +kernel
theorem d_Mo_arrow_17 : decode b_Mo_arrow 17 = .ok (.getfield 13, 3) := by decide +kernel
theorem d_Mo_arrow_20 : decode b_Mo_arrow 20 = .ok (.iload_n 1, 1) := by decide +kernel
theorem d_Mo_arrow_21 : decode b_Mo_arrow 21 = .ok (.iaload, 1) := by decide +kernel
theorem d_Mo_arrow_22 : decode b_Mo_arrow 22 = .ok (.iconst 1, 1) := by decide +kernel
theorem d_Mo_arrow_23 : decode b_Mo_arrow 23 = .ok (.isub, 1) := by decide +kernel
theorem d_Mo_arrow_24 : decode b_Mo_arrow 24 = .ok (.invokestatic 60, 3) := by decide +kernel
theorem d_Mo_arrow_27 : decode b_Mo_arrow 27 = .ok (.ifCond .eq (31), 3) := by decide +kernel
theorem d_Mo_arrow_30 : decode b_Mo_arrow 30 = .ok (.iload 4, 2) := by decide +kernel
theorem d_Mo_arrow_32 : decode b_Mo_arrow 32 = .ok (.iconst 0, 1) := by decide +kernel
theorem d_Mo_arrow_33 : decode b_Mo_arrow 33 = .ok (.aload_n 0, 1) := by decide +kernel
theorem d_Mo_arrow_34 : decode b_Mo_arrow 34 = .ok (.getfield 7, 3) := by decide +kernel
theorem d_Mo_arrow_37 : decode b_Mo_arrow 37 = .ok (.iload_n 1, 1) := by decide +kernel
theorem d_Mo_arrow_38 : decode b_Mo_arrow 38 = .ok (.iaload, 1) := by decide +kernel
theorem d_Mo_arrow_39 : decode b_Mo_arrow 39 = .ok (.iconst 1, 1) := by decide +kernel
theorem d_Mo_arrow_40 : decode b_Mo_arrow 40 = .ok (.isub, 1) := by decide +kernel
theorem d_Mo_arrow_41 : decode b_Mo_arrow 41 = .ok (.invokestatic 60, 3) := by decide +kernel
theorem d_Mo_arrow_44 : decode b_Mo_arrow 44 = .ok (.ifCond .eq (14), 3) := by decide +kernel
theorem d_Mo_arrow_47 : decode b_Mo_arrow 47 = .ok (.iload 5, 2) := by decide +kernel
theorem d_Mo_arrow_49 : decode b_Mo_arrow 49 = .ok (.iconst 0, 1) := by decide +kernel
theorem d_Mo_arrow_50 : decode b_Mo_arrow 50 = .ok (.bipush (9), 2) := by decide +kernel
theorem d_Mo_arrow_52 : decode b_Mo_arrow 52 = .ok (.invokestatic 60, 3) := by decide +kernel
theorem d_Mo_arrow_55 : decode b_Mo_arrow 55 = .ok (.ifCond .ne (5), 3) := by decide +kernel
theorem d_Mo_arrow_58 : decode b_Mo_arrow 58 = .ok (.iconst 0, 1) := by decide +kernel
theorem d_Mo_arrow_59 : decode b_Mo_arrow 59 = .ok (.ireturn, 1) := by decide +kernel
theorem d_Mo_arrow_60 : decode b_Mo_arrow 60 = .ok (.aload_n 0, 1) := by decide +kernel
theorem d_Mo_arrow_61 : decode b_Mo_arrow 61 = .ok (.getfield 16, 3) := by decide +kernel
theorem d_Mo_arrow_64 : decode b_Mo_arrow 64 = .ok (.sipush (160), 3) := by decide +kernel
theorem d_Mo_arrow_67 : decode b_Mo_arrow 67 = .ok (.iload_n 1, 1) := by decide +kernel
theorem d_Mo_arrow_68 : decode b_Mo_arrow 68 = .ok (.imul, 1) := by decide +kernel
theorem d_Mo_arrow_69 : decode b_Mo_arrow 69 = .ok (.iconst 4, 1) := by decide +kernel
theorem d_Mo_arrow_70 : decode b_Mo_arrow 70 = .ok (.iload_n 2, 1) := by decide +kernel
theorem d_Mo_arrow_71 : decode b_Mo_arrow 71 = .ok (.imul, 1) := by decide +kernel
theorem d_Mo_arrow_72 : decode b_Mo_arrow 72 = .ok (.iadd, 1) := by decide +kernel
theorem d_Mo_arrow_73 : decode b_Mo_arrow 73 = .ok (.iload_n 3, 1) := by decide +kernel
theorem d_Mo_arrow_74 : decode b_Mo_arrow 74 = .ok (.iadd, 1) := by decide +kernel
theorem d_Mo_arrow_75 : decode b_Mo_arrow 75 = .ok (.iload 4, 2) := by decide +kernel
theorem d_Mo_arrow_77 : decode b_Mo_arrow 77 = .ok (.iastore, 1) := by decide +kernel
theorem d_Mo_arrow_78 : decode b_Mo_arrow 78 = .ok (.aload_n 0, 1) := by decide +kernel
theorem d_Mo_arrow_79 : decode b_Mo_arrow 79 = .ok (.getfield 19, 3) := by decide +kernel
theorem d_Mo_arrow_82 : decode b_Mo_arrow 82 = .ok (.sipush (160), 3) := by decide +kernel
theorem d_Mo_arrow_85 : decode b_Mo_arrow 85 = .ok (.iload_n 1, 1) := by decide +kernel
theorem d_Mo_arrow_86 : decode b_Mo_arrow 86 = .ok (.imul, 1) := by decide +kernel
theorem d_Mo_arrow_87 : decode b_Mo_arrow 87 = .ok (.iconst 4, 1) := by decide +kernel
theorem d_Mo_arrow_88 : decode b_Mo_arrow 88 = .ok (.iload_n 2, 1) := by decide +kernel
theorem d_Mo_arrow_89 : decode b_Mo_arrow 89 = .ok (.imul, 1) := by decide +kernel
theorem d_Mo_arrow_90 : decode b_Mo_arrow 90 = .ok (.iadd, 1) := by decide +kernel
theorem d_Mo_arrow_91 : decode b_Mo_arrow 91 = .ok (.iload_n 3, 1) := by decide +kernel
theorem d_Mo_arrow_92 : decode b_Mo_arrow 92 = .ok (.iadd, 1) := by decide +kernel
theorem d_Mo_arrow_93 : decode b_Mo_arrow 93 = .ok (.iload 5, 2) := by decide +kernel
theorem d_Mo_arrow_95 : decode b_Mo_arrow 95 = .ok (.iastore, 1) := by decide +kernel
theorem d_Mo_arrow_96 : decode b_Mo_arrow 96 = .ok (.iconst 1, 1) := by decide +kernel
theorem d_Mo_arrow_97 : decode b_Mo_arrow 97 = .ok (.ireturn, 1) := by decide +kernel
theorem d_Mo_look_0 : decode b_Mo_look 0 = .ok (.aload_n 0, 1) := by decide +kernel
theorem d_Mo_look_1 : decode b_Mo_look 1 = .ok (.iconst 0, 1) := by decide +kernel
theorem d_Mo_look_2 : decode b_Mo_look 2 = .ok (.putfield 53, 3) := by decide +kernel
theorem d_Mo_look_5 : decode b_Mo_look 5 = .ok (.aload_n 0, 1) := by decide +kernel
theorem d_Mo_look_6 : decode b_Mo_look 6 = .ok (.iload_n 1, 1) := by decide +kernel
theorem d_Mo_look_7 : decode b_Mo_look 7 = .ok (.iload_n 2, 1) := by decide +kernel
theorem d_Mo_look_8 : decode b_Mo_look 8 = .ok (.invokevirtual 72, 3) := by decide +kernel
theorem d_Mo_look_11 : decode b_Mo_look 11 = .ok (.ifCond .eq (19), 3) := by decide +kernel
theorem d_Mo_look_14 : decode b_Mo_look 14 = .ok (.iload_n 3, 1) := by decide +kernel
theorem d_Mo_look_15 : decode b_Mo_look 15 = .ok (.iconst 0, 1) := by decide +kernel
theorem d_Mo_look_16 : decode b_Mo_look 16 = .ok (.aload_n 0, 1) := by decide +kernel
theorem d_Mo_look_17 : decode b_Mo_look 17 = .ok (.getfield 13, 3) := by decide +kernel
theorem d_Mo_look_20 : decode b_Mo_look 20 = .ok (.iload_n 1, 1) := by decide +kernel
theorem d_Mo_look_21 : decode b_Mo_look 21 = .ok (.iaload, 1) := by decide +kernel
theorem d_Mo_look_22 : decode b_Mo_look 22 = .ok (.iconst 1, 1) := by decide +kernel
theorem d_Mo_look_23 : decode b_Mo_look 23 = .ok (.isub, 1) := by decide +kernel
theorem d_Mo_look_24 : decode b_Mo_look 24 = .ok (.invokestatic 60, 3) := by decide +kernel
theorem d_Mo_look_27 : decode b_Mo_look 27 = .ok (.ifCond .ne (5), 3) := by decide +kernel
theorem d_Mo_look_30 : decode b_Mo_look 30 = .ok (.iconst (-1), 1) := by decide +kernel
theorem d_Mo_look_31 : decode b_Mo_look 31 = .ok (.ireturn, 1) := by decide +kernel
theorem d_Mo_look_32 : decode b_Mo_look 32 = .ok (.iload 4, 2) := by decide +kernel
theorem d_Mo_look_34 : decode b_Mo_look 34 = .ok (.ifCond .ne (22), 3) := by decide +kernel
theorem d_Mo_look_37 : decode b_Mo_look 37 = .ok (.aload_n 0, 1) := by decide +kernel
theorem d_Mo_look_38 : decode b_Mo_look 38 = .ok (.getfield 16, 3) := by decide +kernel
theorem d_Mo_look_41 : decode b_Mo_look 41 = .ok (.sipush (160), 3) := by decide +kernel
theorem d_Mo_look_44 : decode b_Mo_look 44 = .ok (.iload_n 1, 1) := by decide +kernel
theorem d_Mo_look_45 : decode b_Mo_look 45 = .ok (.imul, 1) := by decide +kernel
theorem d_Mo_look_46 : decode b_Mo_look 46 = .ok (.iconst 4, 1) := by decide +kernel
theorem d_Mo_look_47 : decode b_Mo_look 47 = .ok (.iload_n 2, 1) := by decide +kernel
theorem d_Mo_look_48 : decode b_Mo_look 48 = .ok (.imul, 1) := by decide +kernel
theorem d_Mo_look_49 : decode b_Mo_look 49 = .ok (.iadd, 1) := by decide +kernel
theorem d_Mo_look_50 : decode b_Mo_look 50 = .ok (.iload_n 3, 1) := by decide +kernel
theorem d_Mo_look_51 : decode b_Mo_look 51 = .ok (.iadd, 1) := by decide +kernel
theorem d_Mo_look_52 : decode b_Mo_look 52 = .ok (.iaload, 1) := by decide +kernel
theorem d_Mo_look_53 : decode b_Mo_look 53 = .ok (.goto (29), 3) := by decide +kernel
theorem d_Mo_look_56 : decode b_Mo_look 56 = .ok (.iload 4, 2) := by decide +kernel
theorem d_Mo_look_58 : decode b_Mo_look 58 = .ok (.iconst 1, 1) := by decide +kernel
theorem d_Mo_look_59 : decode b_Mo_look 59 = .ok (.if_icmp .ne (22), 3) := by decide +kernel
theorem d_Mo_look_62 : decode b_Mo_look 62 = .ok (.aload_n 0, 1) := by decide +kernel
theorem d_Mo_look_63 : decode b_Mo_look 63 = .ok (.getfield 19, 3) := by decide +kernel
theorem d_Mo_look_66 : decode b_Mo_look 66 = .ok (.sipush (160), 3) := by decide +kernel
theorem d_Mo_look_69 : decode b_Mo_look 69 = .ok (.iload_n 1, 1) := by decide +kernel
theorem d_Mo_look_70 : decode b_Mo_look 70 = .ok (.imul, 1) := by decide +kernel
theorem d_Mo_look_71 : decode b_Mo_look 71 = .ok (.iconst 4, 1) := by decide +kernel
theorem d_Mo_look_72 : decode b_Mo_look 72 = .ok (.iload_n 2, 1) := by decide +kernel
theorem d_Mo_look_73 : decode b_Mo_look 73 = .ok (.imul, 1) := by decide +kernel
theorem d_Mo_look_74 : decode b_Mo_look 74 = .ok (.iadd, 1) := by decide +kernel
theorem d_Mo_look_75 : decode b_Mo_look 75 = .ok (.iload_n 3, 1) := by decide +kernel
theorem d_Mo_look_76 : decode b_Mo_look 76 = .ok (.iadd, 1) := by decide +kernel
theorem d_Mo_look_77 : decode b_Mo_look 77 = .ok (.iaload, 1) := by decide +kernel
theorem d_Mo_look_78 : decode b_Mo_look 78 = .ok (.goto (4), 3) := by decide +kernel
theorem d_Mo_look_81 : decode b_Mo_look 81 = .ok (.iconst (-1), 1) := by decide +kernel
theorem d_Mo_look_82 : decode b_Mo_look 82 = .ok (.ireturn, 1) := by decide +kernel
theorem d_Mo_isApart_0 : decode b_Mo_isApart 0 = .ok (.iconst 0, 1) := by decide +kernel
theorem d_Mo_isApart_1 : decode b_Mo_isApart 1 = .ok (.istore 4, 2) := by decide +kernel
theorem d_Mo_isApart_3 : decode b_Mo_isApart 3 = .ok (.iload 4, 2) := by decide +kernel
theorem d_Mo_isApart_5 : decode b_Mo_isApart 5 = .ok (.aload_n 0, 1) := by decide +kernel
theorem d_Mo_isApart_6 : decode b_Mo_isApart 6 = .ok (.getfield 13, 3) := by decide +kernel
theorem d_Mo_isApart_9 : decode b_Mo_isApart 9 = .ok (.iload_n 1, 1) := by decide +kernel
theorem d_Mo_isApart_10 : decode b_Mo_isApart 10 = .ok (.iaload, 1) := by decide +kernel
theorem d_Mo_isApart_11 : decode b_Mo_isApart 11 = .ok (.if_icmp .ge (82), 3) := by decide +kernel
theorem d_Mo_isApart_14 : decode b_Mo_isApart 14 = .ok (.sipush (160), 3) := by decide +kernel
theorem d_Mo_isApart_17 : decode b_Mo_isApart 17 = .ok (.iload_n 1, 1) := by decide +kernel
theorem d_Mo_isApart_18 : decode b_Mo_isApart 18 = .ok (.imul, 1) := by decide +kernel
theorem d_Mo_isApart_19 : decode b_Mo_isApart 19 = .ok (.iconst 4, 1) := by decide +kernel
theorem d_Mo_isApart_20 : decode b_Mo_isApart 20 = .ok (.iload_n 2, 1) := by decide +kernel
theorem d_Mo_isApart_21 : decode b_Mo_isApart 21 = .ok (.imul, 1) := by decide +kernel
theorem d_Mo_isApart_22 : decode b_Mo_isApart 22 = .ok (.iadd, 1) := by decide +kernel
theorem d_Mo_isApart_23 : decode b_Mo_isApart 23 = .ok (.iload 4, 2) := by decide +kernel
theorem d_Mo_isApart_25 : decode b_Mo_isApart 25 = .ok (.iadd, 1) := by decide +kernel
theorem d_Mo_isApart_26 : decode b_Mo_isApart 26 = .ok (.istore 5, 2) := by decide +kernel
theorem d_Mo_isApart_28 : decode b_Mo_isApart 28 = .ok (.sipush (160), 3) := by decide +kernel
theorem d_Mo_isApart_31 : decode b_Mo_isApart 31 = .ok (.iload_n 1, 1) := by decide +kernel
theorem d_Mo_isApart_32 : decode b_Mo_isApart 32 = .ok (.imul, 1) := by decide +kernel
theorem d_Mo_isApart_33 : decode b_Mo_isApart 33 = .ok (.iconst 4, 1) := by decide +kernel
theorem d_Mo_isApart_34 : decode b_Mo_isApart 34 = .ok (.iload_n 3, 1) := by decide +kernel
theorem d_Mo_isApart_35 : decode b_Mo_isApart 35 = .ok (.imul, 1) := by decide +kernel
theorem d_Mo_isApart_36 : decode b_Mo_isApart 36 = .ok (.iadd, 1) := by decide +kernel
theorem d_Mo_isApart_37 : decode b_Mo_isApart 37 = .ok (.iload 4, 2) := by decide +kernel
theorem d_Mo_isApart_39 : decode b_Mo_isApart 39 = .ok (.iadd, 1) := by decide +kernel
theorem d_Mo_isApart_40 : decode b_Mo_isApart 40 = .ok (.istore 6, 2) := by decide +kernel
theorem d_Mo_isApart_42 : decode b_Mo_isApart 42 = .ok (.aload_n 0, 1) := by decide +kernel
theorem d_Mo_isApart_43 : decode b_Mo_isApart 43 = .ok (.getfield 19, 3) := by decide +kernel
theorem d_Mo_isApart_46 : decode b_Mo_isApart 46 = .ok (.iload 5, 2) := by decide +kernel
theorem d_Mo_isApart_48 : decode b_Mo_isApart 48 = .ok (.iaload, 1) := by decide +kernel
theorem d_Mo_isApart_49 : decode b_Mo_isApart 49 = .ok (.aload_n 0, 1) := by decide +kernel
theorem d_Mo_isApart_50 : decode b_Mo_isApart 50 = .ok (.getfield 19, 3) := by decide +kernel
theorem d_Mo_isApart_53 : decode b_Mo_isApart 53 = .ok (.iload 6, 2) := by decide +kernel
theorem d_Mo_isApart_55 : decode b_Mo_isApart 55 = .ok (.iaload, 1) := by decide +kernel
theorem d_Mo_isApart_56 : decode b_Mo_isApart 56 = .ok (.if_icmp .ne (29), 3) := by decide +kernel
theorem d_Mo_isApart_59 : decode b_Mo_isApart 59 = .ok (.aload_n 0, 1) := by decide +kernel
theorem d_Mo_isApart_60 : decode b_Mo_isApart 60 = .ok (.getfield 25, 3) := by decide +kernel
theorem d_Mo_isApart_63 : decode b_Mo_isApart 63 = .ok (.bipush (40), 2) := by decide +kernel
theorem d_Mo_isApart_65 : decode b_Mo_isApart 65 = .ok (.aload_n 0, 1) := by decide +kernel
theorem d_Mo_isApart_66 : decode b_Mo_isApart 66 = .ok (.getfield 16, 3) := by decide +kernel
theorem d_Mo_isApart_69 : decode b_Mo_isApart 69 = .ok (.iload 5, 2) := by decide +kernel
theorem d_Mo_isApart_71 : decode b_Mo_isApart 71 = .ok (.iaload, 1) := by decide +kernel
theorem d_Mo_isApart_72 : decode b_Mo_isApart 72 = .ok (.imul, 1) := by decide +kernel
theorem d_Mo_isApart_73 : decode b_Mo_isApart 73 = .ok (.aload_n 0, 1) := by decide +kernel
theorem d_Mo_isApart_74 : decode b_Mo_isApart 74 = .ok (.getfield 16, 3) := by decide +kernel
theorem d_Mo_isApart_77 : decode b_Mo_isApart 77 = .ok (.iload 6, 2) := by decide +kernel
theorem d_Mo_isApart_79 : decode b_Mo_isApart 79 = .ok (.iaload, 1) := by decide +kernel
theorem d_Mo_isApart_80 : decode b_Mo_isApart 80 = .ok (.iadd, 1) := by decide +kernel
theorem d_Mo_isApart_81 : decode b_Mo_isApart 81 = .ok (.baload, 1) := by decide +kernel
theorem d_Mo_isApart_82 : decode b_Mo_isApart 82 = .ok (.ifCond .eq (5), 3) := by decide +kernel
theorem d_Mo_isApart_85 : decode b_Mo_isApart 85 = .ok (.iconst 1, 1) := by decide +kernel
theorem d_Mo_isApart_86 : decode b_Mo_isApart 86 = .ok (.ireturn, 1) := by decide +kernel
theorem d_Mo_isApart_87 : decode b_Mo_isApart 87 = .ok (.iinc 4 (1), 3) := by decide +kernel
theorem d_Mo_isApart_90 : decode b_Mo_isApart 90 = .ok (.goto (-87), 3) := by decide +kernel
theorem d_Mo_isApart_93 : decode b_Mo_isApart 93 = .ok (.iconst 0, 1) := by decide +kernel
theorem d_Mo_isApart_94 : decode b_Mo_isApart 94 = .ok (.ireturn, 1) := by decide +kernel
theorem d_Mo_mark_0 : decode b_Mo_mark 0 = .ok (.iconst 0, 1) := by decide +kernel
theorem d_Mo_mark_1 : decode b_Mo_mark 1 = .ok (.istore_n 2, 1) := by decide +kernel
theorem d_Mo_mark_2 : decode b_Mo_mark 2 = .ok (.iload_n 2, 1) := by decide +kernel
theorem d_Mo_mark_3 : decode b_Mo_mark 3 = .ok (.sipush (1600), 3) := by decide +kernel
theorem d_Mo_mark_6 : decode b_Mo_mark 6 = .ok (.if_icmp .ge (16), 3) := by decide +kernel
theorem d_Mo_mark_9 : decode b_Mo_mark 9 = .ok (.aload_n 0, 1) := by decide +kernel
theorem d_Mo_mark_10 : decode b_Mo_mark 10 = .ok (.getfield 25, 3) := by decide +kernel
theorem d_Mo_mark_13 : decode b_Mo_mark 13 = .ok (.iload_n 2, 1) := by decide +kernel
theorem d_Mo_mark_14 : decode b_Mo_mark 14 = .ok (.iconst 0, 1) := by decide +kernel
theorem d_Mo_mark_15 : decode b_Mo_mark 15 = .ok (.bastore, 1) := by decide +kernel
theorem d_Mo_mark_16 : decode b_Mo_mark 16 = .ok (.iinc 2 (1), 3) := by decide +kernel
theorem d_Mo_mark_19 : decode b_Mo_mark 19 = .ok (.goto (-17), 3) := by decide +kernel
theorem d_Mo_mark_22 : decode b_Mo_mark 22 = .ok (.iconst 1, 1) := by decide +kernel
theorem d_Mo_mark_23 : decode b_Mo_mark 23 = .ok (.istore_n 2, 1) := by decide +kernel
theorem d_Mo_mark_24 : decode b_Mo_mark 24 = .ok (.iload_n 2, 1) := by decide +kernel
theorem d_Mo_mark_25 : decode b_Mo_mark 25 = .ok (.ifCond .eq (90), 3) := by decide +kernel
theorem d_Mo_mark_28 : decode b_Mo_mark 28 = .ok (.iconst 0, 1) := by decide +kernel
theorem d_Mo_mark_29 : decode b_Mo_mark 29 = .ok (.istore_n 2, 1) := by decide +kernel
theorem d_Mo_mark_30 : decode b_Mo_mark 30 = .ok (.iconst 0, 1) := by decide +kernel
theorem d_Mo_mark_31 : decode b_Mo_mark 31 = .ok (.istore_n 3, 1) := by decide +kernel
theorem d_Mo_mark_32 : decode b_Mo_mark 32 = .ok (.iload_n 3, 1) := by decide +kernel
theorem d_Mo_mark_33 : decode b_Mo_mark 33 = .ok (.aload_n 0, 1) := by decide +kernel
theorem d_Mo_mark_34 : decode b_Mo_mark 34 = .ok (.getfield 7, 3) := by decide +kernel
theorem d_Mo_mark_37 : decode b_Mo_mark 37 = .ok (.iload_n 1, 1) := by decide +kernel
theorem d_Mo_mark_38 : decode b_Mo_mark 38 = .ok (.iaload, 1) := by decide +kernel
theorem d_Mo_mark_39 : decode b_Mo_mark 39 = .ok (.if_icmp .ge (73), 3) := by decide +kernel
theorem d_Mo_mark_42 : decode b_Mo_mark 42 = .ok (.iconst 0, 1) := by decide +kernel
theorem d_Mo_mark_43 : decode b_Mo_mark 43 = .ok (.istore 4, 2) := by decide +kernel
theorem d_Mo_mark_45 : decode b_Mo_mark 45 = .ok (.iload 4, 2) := by decide +kernel
theorem d_Mo_mark_47 : decode b_Mo_mark 47 = .ok (.aload_n 0, 1) := by decide +kernel
theorem d_Mo_mark_48 : decode b_Mo_mark 48 = .ok (.getfield 7, 3) := by decide +kernel
theorem d_Mo_mark_51 : decode b_Mo_mark 51 = .ok (.iload_n 1, 1) := by decide +kernel
theorem d_Mo_mark_52 : decode b_Mo_mark 52 = .ok (.iaload, 1) := by decide +kernel
theorem d_Mo_mark_53 : decode b_Mo_mark 53 = .ok (.if_icmp .ge (53), 3) := by decide +kernel
