theorem d_Mo_mark_56 : decode b_Mo_mark 56 = .ok (.aload_n 0, 1) := by decide +kernel
theorem d_Mo_mark_57 : decode b_Mo_mark 57 = .ok (.getfield 25, 3) := by decide +kernel
theorem d_Mo_mark_60 : decode b_Mo_mark 60 = .ok (.bipush (40), 2) := by decide +kernel
theorem d_Mo_mark_62 : decode b_Mo_mark 62 = .ok (.iload_n 3, 1) := by decide +kernel
theorem d_Mo_mark_63 : decode b_Mo_mark 63 = .ok (.imul, 1) := by decide +kernel
theorem d_Mo_mark_64 : decode b_Mo_mark 64 = .ok (.iload 4, 2) := by decide +kernel
theorem d_Mo_mark_66 : decode b_Mo_mark 66 = .ok (.iadd, 1) := by decide +kernel
theorem d_Mo_mark_67 : decode b_Mo_mark 67 = .ok (.baload, 1) := by decide +kernel
theorem d_Mo_mark_68 : decode b_Mo_mark 68 = .ok (.ifCond .ne (32), 3) := by decide +kernel
theorem d_Mo_mark_71 : decode b_Mo_mark 71 = .ok (.aload_n 0, 1) := by decide +kernel
theorem d_Mo_mark_72 : decode b_Mo_mark 72 = .ok (.iload_n 1, 1) := by decide +kernel
theorem d_Mo_mark_73 : decode b_Mo_mark 73 = .ok (.iload_n 3, 1) := by decide +kernel
theorem d_Mo_mark_74 : decode b_Mo_mark 74 = .ok (.iload 4, 2) := by decide +kernel
theorem d_Mo_mark_76 : decode b_Mo_mark 76 = .ok (.invokevirtual 76, 3) := by decide +kernel
theorem d_Mo_mark_79 : decode b_Mo_mark 79 = .ok (.ifCond .ne (6), 3) := by decide +kernel
theorem d_Mo_mark_82 : decode b_Mo_mark 82 = .ok (.goto (18), 3) := by decide +kernel
theorem d_Mo_mark_85 : decode b_Mo_mark 85 = .ok (.aload_n 0, 1) := by decide +kernel
theorem d_Mo_mark_86 : decode b_Mo_mark 86 = .ok (.getfield 25, 3) := by decide +kernel
theorem d_Mo_mark_89 : decode b_Mo_mark 89 = .ok (.bipush (40), 2) := by decide +kernel
theorem d_Mo_mark_91 : decode b_Mo_mark 91 = .ok (.iload_n 3, 1) := by decide +kernel
theorem d_Mo_mark_92 : decode b_Mo_mark 92 = .ok (.imul, 1) := by decide +kernel
theorem d_Mo_mark_93 : decode b_Mo_mark 93 = .ok (.iload 4, 2) := by decide +kernel
theorem d_Mo_mark_95 : decode b_Mo_mark 95 = .ok (.iadd, 1) := by decide +kernel
theorem d_Mo_mark_96 : decode b_Mo_mark 96 = .ok (.iconst 1, 1) := by decide +kernel
theorem d_Mo_mark_97 : decode b_Mo_mark 97 = .ok (.bastore, 1) := by decide +kernel
theorem d_Mo_mark_98 : decode b_Mo_mark 98 = .ok (.iconst 1, 1) := by decide +kernel
theorem d_Mo_mark_99 : decode b_Mo_mark 99 = .ok (.istore_n 2, 1) := by decide +kernel
theorem d_Mo_mark_100 : decode b_Mo_mark 100 = .ok (.iinc 4 (1), 3) := by decide +kernel
theorem d_Mo_mark_103 : decode b_Mo_mark 103 = .ok (.goto (-58), 3) := by decide +kernel
theorem d_Mo_mark_106 : decode b_Mo_mark 106 = .ok (.iinc 3 (1), 3) := by decide +kernel
theorem d_Mo_mark_109 : decode b_Mo_mark 109 = .ok (.goto (-77), 3) := by decide +kernel
theorem d_Mo_mark_112 : decode b_Mo_mark 112 = .ok (.goto (-88), 3) := by decide +kernel
theorem d_Mo_mark_115 : decode b_Mo_mark 115 = .ok (.return_, 1) := by decide +kernel
theorem d_Mo_firstLike_0 : decode b_Mo_firstLike 0 = .ok (.iconst 0, 1) := by decide +kernel
theorem d_Mo_firstLike_1 : decode b_Mo_firstLike 1 = .ok (.istore_n 2, 1) := by decide +kernel
theorem d_Mo_firstLike_2 : decode b_Mo_firstLike 2 = .ok (.aload_n 0, 1) := by decide +kernel
theorem d_Mo_firstLike_3 : decode b_Mo_firstLike 3 = .ok (.getfield 25, 3) := by decide +kernel
theorem d_Mo_firstLike_6 : decode b_Mo_firstLike 6 = .ok (.bipush (40), 2) := by decide +kernel
theorem d_Mo_firstLike_8 : decode b_Mo_firstLike 8 = .ok (.iload_n 1, 1) := by decide +kernel
theorem d_Mo_firstLike_9 : decode b_Mo_firstLike 9 = .ok (.imul, 1) := by decide +kernel
theorem d_Mo_firstLike_10 : decode b_Mo_firstLike 10 = .ok (.iload_n 2, 1) := by decide +kernel
theorem d_Mo_firstLike_11 : decode b_Mo_firstLike 11 = .ok (.iadd, 1) := by decide +kernel
theorem d_Mo_firstLike_12 : decode b_Mo_firstLike 12 = .ok (.baload, 1) := by decide +kernel
theorem d_Mo_firstLike_13 : decode b_Mo_firstLike 13 = .ok (.ifCond .eq (9), 3) := by decide +kernel
theorem d_Mo_firstLike_16 : decode b_Mo_firstLike 16 = .ok (.iinc 2 (1), 3) := by decide +kernel
theorem d_Mo_firstLike_19 : decode b_Mo_firstLike 19 = .ok (.goto (-17), 3) := by decide +kernel
theorem d_Mo_firstLike_22 : decode b_Mo_firstLike 22 = .ok (.iload_n 2, 1) := by decide +kernel
theorem d_Mo_firstLike_23 : decode b_Mo_firstLike 23 = .ok (.ireturn, 1) := by decide +kernel
theorem d_Mo_classes_0 : decode b_Mo_classes 0 = .ok (.aload_n 0, 1) := by decide +kernel
theorem d_Mo_classes_1 : decode b_Mo_classes 1 = .ok (.iconst 0, 1) := by decide +kernel
theorem d_Mo_classes_2 : decode b_Mo_classes 2 = .ok (.putfield 53, 3) := by decide +kernel
theorem d_Mo_classes_5 : decode b_Mo_classes 5 = .ok (.aload_n 0, 1) := by decide +kernel
theorem d_Mo_classes_6 : decode b_Mo_classes 6 = .ok (.iload_n 1, 1) := by decide +kernel
theorem d_Mo_classes_7 : decode b_Mo_classes 7 = .ok (.invokevirtual 64, 3) := by decide +kernel
theorem d_Mo_classes_10 : decode b_Mo_classes 10 = .ok (.ifCond .ne (5), 3) := by decide +kernel
theorem d_Mo_classes_13 : decode b_Mo_classes 13 = .ok (.iconst (-1), 1) := by decide +kernel
theorem d_Mo_classes_14 : decode b_Mo_classes 14 = .ok (.ireturn, 1) := by decide +kernel
theorem d_Mo_classes_15 : decode b_Mo_classes 15 = .ok (.aload_n 0, 1) := by decide +kernel
theorem d_Mo_classes_16 : decode b_Mo_classes 16 = .ok (.iload_n 1, 1) := by decide +kernel
theorem d_Mo_classes_17 : decode b_Mo_classes 17 = .ok (.invokevirtual 79, 3) := by decide +kernel
theorem d_Mo_classes_20 : decode b_Mo_classes 20 = .ok (.iconst 0, 1) := by decide +kernel
theorem d_Mo_classes_21 : decode b_Mo_classes 21 = .ok (.istore_n 2, 1) := by decide +kernel
theorem d_Mo_classes_22 : decode b_Mo_classes 22 = .ok (.iconst 0, 1) := by decide +kernel
theorem d_Mo_classes_23 : decode b_Mo_classes 23 = .ok (.istore_n 3, 1) := by decide +kernel
theorem d_Mo_classes_24 : decode b_Mo_classes 24 = .ok (.iload_n 3, 1) := by decide +kernel
theorem d_Mo_classes_25 : decode b_Mo_classes 25 = .ok (.aload_n 0, 1) := by decide +kernel
theorem d_Mo_classes_26 : decode b_Mo_classes 26 = .ok (.getfield 7, 3) := by decide +kernel
theorem d_Mo_classes_29 : decode b_Mo_classes 29 = .ok (.iload_n 1, 1) := by decide +kernel
theorem d_Mo_classes_30 : decode b_Mo_classes 30 = .ok (.iaload, 1) := by decide +kernel
theorem d_Mo_classes_31 : decode b_Mo_classes 31 = .ok (.if_icmp .ge (26), 3) := by decide +kernel
theorem d_Mo_classes_34 : decode b_Mo_classes 34 = .ok (.iload_n 2, 1) := by decide +kernel
theorem d_Mo_classes_35 : decode b_Mo_classes 35 = .ok (.aload_n 0, 1) := by decide +kernel
theorem d_Mo_classes_36 : decode b_Mo_classes 36 = .ok (.iload_n 3, 1) := by decide +kernel
theorem d_Mo_classes_37 : decode b_Mo_classes 37 = .ok (.invokevirtual 83, 3) := by decide +kernel
theorem d_Mo_classes_40 : decode b_Mo_classes 40 = .ok (.iload_n 3, 1) := by decide +kernel
theorem d_Mo_classes_41 : decode b_Mo_classes 41 = .ok (.if_icmp .ne (7), 3) := by decide +kernel
theorem d_Mo_classes_44 : decode b_Mo_classes 44 = .ok (.iconst 1, 1) := by decide +kernel
theorem d_Mo_classes_45 : decode b_Mo_classes 45 = .ok (.goto (4), 3) := by decide +kernel
theorem d_Mo_classes_48 : decode b_Mo_classes 48 = .ok (.iconst 0, 1) := by decide +kernel
theorem d_Mo_classes_49 : decode b_Mo_classes 49 = .ok (.iadd, 1) := by decide +kernel
theorem d_Mo_classes_50 : decode b_Mo_classes 50 = .ok (.istore_n 2, 1) := by decide +kernel
theorem d_Mo_classes_51 : decode b_Mo_classes 51 = .ok (.iinc 3 (1), 3) := by decide +kernel
theorem d_Mo_classes_54 : decode b_Mo_classes 54 = .ok (.goto (-30), 3) := by decide +kernel
theorem d_Mo_classes_57 : decode b_Mo_classes 57 = .ok (.iload_n 2, 1) := by decide +kernel
theorem d_Mo_classes_58 : decode b_Mo_classes 58 = .ok (.ireturn, 1) := by decide +kernel
theorem d_Mo_like_0 : decode b_Mo_like 0 = .ok (.aload_n 0, 1) := by decide +kernel
theorem d_Mo_like_1 : decode b_Mo_like 1 = .ok (.iconst 0, 1) := by decide +kernel
theorem d_Mo_like_2 : decode b_Mo_like 2 = .ok (.putfield 53, 3) := by decide +kernel
theorem d_Mo_like_5 : decode b_Mo_like 5 = .ok (.aload_n 0, 1) := by decide +kernel
theorem d_Mo_like_6 : decode b_Mo_like 6 = .ok (.iload_n 1, 1) := by decide +kernel
theorem d_Mo_like_7 : decode b_Mo_like 7 = .ok (.iload_n 2, 1) := by decide +kernel
theorem d_Mo_like_8 : decode b_Mo_like 8 = .ok (.invokevirtual 72, 3) := by decide +kernel
theorem d_Mo_like_11 : decode b_Mo_like 11 = .ok (.ifCond .ne (5), 3) := by decide +kernel
theorem d_Mo_like_14 : decode b_Mo_like 14 = .ok (.iconst (-1), 1) := by decide +kernel
theorem d_Mo_like_15 : decode b_Mo_like 15 = .ok (.ireturn, 1) := by decide +kernel
theorem d_Mo_like_16 : decode b_Mo_like 16 = .ok (.aload_n 0, 1) := by decide +kernel
theorem d_Mo_like_17 : decode b_Mo_like 17 = .ok (.iload_n 1, 1) := by decide +kernel
theorem d_Mo_like_18 : decode b_Mo_like 18 = .ok (.invokevirtual 79, 3) := by decide +kernel
theorem d_Mo_like_21 : decode b_Mo_like 21 = .ok (.aload_n 0, 1) := by decide +kernel
theorem d_Mo_like_22 : decode b_Mo_like 22 = .ok (.iload_n 2, 1) := by decide +kernel
theorem d_Mo_like_23 : decode b_Mo_like 23 = .ok (.invokevirtual 83, 3) := by decide +kernel
theorem d_Mo_like_26 : decode b_Mo_like 26 = .ok (.ireturn, 1) := by decide +kernel
theorem d_Mo_begin_0 : decode b_Mo_begin 0 = .ok (.iconst 0, 1) := by decide +kernel
theorem d_Mo_begin_1 : decode b_Mo_begin 1 = .ok (.istore_n 2, 1) := by decide +kernel
theorem d_Mo_begin_2 : decode b_Mo_begin 2 = .ok (.iload_n 2, 1) := by decide +kernel
theorem d_Mo_begin_3 : decode b_Mo_begin 3 = .ok (.sipush (4096), 3) := by decide +kernel
theorem d_Mo_begin_6 : decode b_Mo_begin 6 = .ok (.if_icmp .ge (16), 3) := by decide +kernel
theorem d_Mo_begin_9 : decode b_Mo_begin 9 = .ok (.aload_n 0, 1) := by decide +kernel
theorem d_Mo_begin_10 : decode b_Mo_begin 10 = .ok (.getfield 38, 3) := by decide +kernel
theorem d_Mo_begin_13 : decode b_Mo_begin 13 = .ok (.iload_n 2, 1) := by decide +kernel
theorem d_Mo_begin_14 : decode b_Mo_begin 14 = .ok (.iconst 0, 1) := by decide +kernel
theorem d_Mo_begin_15 : decode b_Mo_begin 15 = .ok (.bastore, 1) := by decide +kernel
theorem d_Mo_begin_16 : decode b_Mo_begin 16 = .ok (.iinc 2 (1), 3) := by decide +kernel
theorem d_Mo_begin_19 : decode b_Mo_begin 19 = .ok (.goto (-17), 3) := by decide +kernel
theorem d_Mo_begin_22 : decode b_Mo_begin 22 = .ok (.aload_n 0, 1) := by decide +kernel
theorem d_Mo_begin_23 : decode b_Mo_begin 23 = .ok (.iconst 0, 1) := by decide +kernel
theorem d_Mo_begin_24 : decode b_Mo_begin 24 = .ok (.putfield 87, 3) := by decide +kernel
theorem d_Mo_begin_27 : decode b_Mo_begin 27 = .ok (.aload_n 0, 1) := by decide +kernel
theorem d_Mo_begin_28 : decode b_Mo_begin 28 = .ok (.iload_n 1, 1) := by decide +kernel
theorem d_Mo_begin_29 : decode b_Mo_begin 29 = .ok (.iconst (-1), 1) := by decide +kernel
theorem d_Mo_begin_30 : decode b_Mo_begin 30 = .ok (.iconst 0, 1) := by decide +kernel
theorem d_Mo_begin_31 : decode b_Mo_begin 31 = .ok (.invokevirtual 90, 3) := by decide +kernel
theorem d_Mo_begin_34 : decode b_Mo_begin 34 = .ok (.return_, 1) := by decide +kernel
theorem d_Mo_come_0 : decode b_Mo_come 0 = .ok (.aload_n 0, 1) := by decide +kernel
theorem d_Mo_come_1 : decode b_Mo_come 1 = .ok (.getfield 38, 3) := by decide +kernel
theorem d_Mo_come_4 : decode b_Mo_come 4 = .ok (.iload_n 1, 1) := by decide +kernel
theorem d_Mo_come_5 : decode b_Mo_come 5 = .ok (.baload, 1) := by decide +kernel
theorem d_Mo_come_6 : decode b_Mo_come 6 = .ok (.ifCond .eq (4), 3) := by decide +kernel
theorem d_Mo_come_9 : decode b_Mo_come 9 = .ok (.return_, 1) := by decide +kernel
theorem d_Mo_come_10 : decode b_Mo_come 10 = .ok (.aload_n 0, 1) := by decide +kernel
theorem d_Mo_come_11 : decode b_Mo_come 11 = .ok (.getfield 38, 3) := by decide +kernel
theorem d_Mo_come_14 : decode b_Mo_come 14 = .ok (.iload_n 1, 1) := by decide +kernel
theorem d_Mo_come_15 : decode b_Mo_come 15 = .ok (.iconst 1, 1) := by decide +kernel
theorem d_Mo_come_16 : decode b_Mo_come 16 = .ok (.bastore, 1) := by decide +kernel
theorem d_Mo_come_17 : decode b_Mo_come 17 = .ok (.aload_n 0, 1) := by decide +kernel
theorem d_Mo_come_18 : decode b_Mo_come 18 = .ok (.getfield 29, 3) := by decide +kernel
theorem d_Mo_come_21 : decode b_Mo_come 21 = .ok (.aload_n 0, 1) := by decide +kernel
theorem d_Mo_come_22 : decode b_Mo_come 22 = .ok (.getfield 87, 3) := by decide +kernel
theorem d_Mo_come_25 : decode b_Mo_come 25 = .ok (.iload_n 1, 1) := by decide +kernel
theorem d_Mo_come_26 : decode b_Mo_come 26 = .ok (.iastore, 1) := by decide +kernel
theorem d_Mo_come_27 : decode b_Mo_come 27 = .ok (.aload_n 0, 1) := by decide +kernel
theorem d_Mo_come_28 : decode b_Mo_come 28 = .ok (.getfield 32, 3) := by decide +kernel
theorem d_Mo_come_31 : decode b_Mo_come 31 = .ok (.aload_n 0, 1) := by decide +kernel
theorem d_Mo_come_32 : decode b_Mo_come 32 = .ok (.getfield 87, 3) := by decide +kernel
theorem d_Mo_come_35 : decode b_Mo_come 35 = .ok (.iload_n 2, 1) := by decide +kernel
theorem d_Mo_come_36 : decode b_Mo_come 36 = .ok (.iastore, 1) := by decide +kernel
theorem d_Mo_come_37 : decode b_Mo_come 37 = .ok (.aload_n 0, 1) := by decide +kernel
theorem d_Mo_come_38 : decode b_Mo_come 38 = .ok (.getfield 35, 3) := by decide +kernel
theorem d_Mo_come_41 : decode b_Mo_come 41 = .ok (.aload_n 0, 1) := by decide +kernel
theorem d_Mo_come_42 : decode b_Mo_come 42 = .ok (.getfield 87, 3) := by decide +kernel
theorem d_Mo_come_45 : decode b_Mo_come 45 = .ok (.iload_n 3, 1) := by decide +kernel
theorem d_Mo_come_46 : decode b_Mo_come 46 = .ok (.iastore, 1) := by decide +kernel
theorem d_Mo_come_47 : decode b_Mo_come 47 = .ok (.aload_n 0, 1) := by decide +kernel
theorem d_Mo_come_48 : decode b_Mo_come 48 = .ok (.dup, 1) := by decide +kernel
theorem d_Mo_come_49 : decode b_Mo_come 49 = .ok (.getfield 87, 3) := by decide +kernel
theorem d_Mo_come_52 : decode b_Mo_come 52 = .ok (.iconst 1, 1) := by decide +kernel
theorem d_Mo_come_53 : decode b_Mo_come 53 = .ok (.iadd, 1) := by decide +kernel
theorem d_Mo_come_54 : decode b_Mo_come 54 = .ok (.putfield 87, 3) := by decide +kernel
theorem d_Mo_come_57 : decode b_Mo_come 57 = .ok (.return_, 1) := by decide +kernel
theorem d_Mo_tell_0 : decode b_Mo_tell 0 = .ok (.aload_n 0, 1) := by decide +kernel
theorem d_Mo_tell_1 : decode b_Mo_tell 1 = .ok (.iload_n 2, 1) := by decide +kernel
theorem d_Mo_tell_2 : decode b_Mo_tell 2 = .ok (.ifCond .ge (7), 3) := by decide +kernel
theorem d_Mo_tell_5 : decode b_Mo_tell 5 = .ok (.iconst 0, 1) := by decide +kernel
theorem d_Mo_tell_6 : decode b_Mo_tell 6 = .ok (.goto (4), 3) := by decide +kernel
theorem d_Mo_tell_9 : decode b_Mo_tell 9 = .ok (.iconst 1, 1) := by decide +kernel
theorem d_Mo_tell_10 : decode b_Mo_tell 10 = .ok (.putfield 94, 3) := by decide +kernel
theorem d_Mo_tell_13 : decode b_Mo_tell 13 = .ok (.iload_n 1, 1) := by decide +kernel
theorem d_Mo_tell_14 : decode b_Mo_tell 14 = .ok (.istore_n 3, 1) := by decide +kernel
theorem d_Mo_tell_15 : decode b_Mo_tell 15 = .ok (.aload_n 0, 1) := by decide +kernel
theorem d_Mo_tell_16 : decode b_Mo_tell 16 = .ok (.getfield 32, 3) := by decide +kernel
theorem d_Mo_tell_19 : decode b_Mo_tell 19 = .ok (.iload_n 3, 1) := by decide +kernel
theorem d_Mo_tell_20 : decode b_Mo_tell 20 = .ok (.iaload, 1) := by decide +kernel
theorem d_Mo_tell_21 : decode b_Mo_tell 21 = .ok (.iconst (-1), 1) := by decide +kernel
theorem d_Mo_tell_22 : decode b_Mo_tell 22 = .ok (.if_icmp .eq (23), 3) := by decide +kernel
theorem d_Mo_tell_25 : decode b_Mo_tell 25 = .ok (.aload_n 0, 1) := by decide +kernel
theorem d_Mo_tell_26 : decode b_Mo_tell 26 = .ok (.dup, 1) := by decide +kernel
theorem d_Mo_tell_27 : decode b_Mo_tell 27 = .ok (.getfield 94, 3) := by decide +kernel
theorem d_Mo_tell_30 : decode b_Mo_tell 30 = .ok (.iconst 1, 1) := by decide +kernel
theorem d_Mo_tell_31 : decode b_Mo_tell 31 = .ok (.iadd, 1) := by decide +kernel
theorem d_Mo_tell_32 : decode b_Mo_tell 32 = .ok (.putfield 94, 3) := by decide +kernel
theorem d_Mo_tell_35 : decode b_Mo_tell 35 = .ok (.aload_n 0, 1) := by decide +kernel
theorem d_Mo_tell_36 : decode b_Mo_tell 36 = .ok (.getfield 32, 3) := by decide +kernel
theorem d_Mo_tell_39 : decode b_Mo_tell 39 = .ok (.iload_n 3, 1) := by decide +kernel
theorem d_Mo_tell_40 : decode b_Mo_tell 40 = .ok (.iaload, 1) := by decide +kernel
theorem d_Mo_tell_41 : decode b_Mo_tell 41 = .ok (.istore_n 3, 1) := by decide +kernel
theorem d_Mo_tell_42 : decode b_Mo_tell 42 = .ok (.goto (-27), 3) := by decide +kernel
theorem d_Mo_tell_45 : decode b_Mo_tell 45 = .ok (.aload_n 0, 1) := by decide +kernel
theorem d_Mo_tell_46 : decode b_Mo_tell 46 = .ok (.getfield 94, 3) := by decide +kernel
theorem d_Mo_tell_49 : decode b_Mo_tell 49 = .ok (.istore_n 3, 1) := by decide +kernel
theorem d_Mo_tell_50 : decode b_Mo_tell 50 = .ok (.iload_n 2, 1) := by decide +kernel
theorem d_Mo_tell_51 : decode b_Mo_tell 51 = .ok (.ifCond .lt (13), 3) := by decide +kernel
theorem d_Mo_tell_54 : decode b_Mo_tell 54 = .ok (.iinc 3 (-1), 3) := by decide +kernel
theorem d_Mo_tell_57 : decode b_Mo_tell 57 = .ok (.aload_n 0, 1) := by decide +kernel
theorem d_Mo_tell_58 : decode b_Mo_tell 58 = .ok (.getfield 22, 3) := by decide +kernel
theorem d_Mo_tell_61 : decode b_Mo_tell 61 = .ok (.iload_n 3, 1) := by decide +kernel
theorem d_Mo_tell_62 : decode b_Mo_tell 62 = .ok (.iload_n 2, 1) := by decide +kernel
theorem d_Mo_tell_63 : decode b_Mo_tell 63 = .ok (.iastore, 1) := by decide +kernel
theorem d_Mo_tell_64 : decode b_Mo_tell 64 = .ok (.iload_n 1, 1) := by decide +kernel
theorem d_Mo_tell_65 : decode b_Mo_tell 65 = .ok (.istore 4, 2) := by decide +kernel
theorem d_Mo_tell_67 : decode b_Mo_tell 67 = .ok (.aload_n 0, 1) := by decide +kernel
