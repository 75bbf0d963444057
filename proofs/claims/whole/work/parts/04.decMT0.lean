theorem d_MT_init_0 : decode b_MT_init 0 = .ok (.aload_n 0, 1) := by decide +kernel
theorem d_MT_init_1 : decode b_MT_init 1 = .ok (.invokespecial 3, 3) := by decide +kernel
theorem d_MT_init_4 : decode b_MT_init 4 = .ok (.aload_n 0, 1) := by decide +kernel
theorem d_MT_init_5 : decode b_MT_init 5 = .ok (.bipush (12), 2) := by decide +kernel
theorem d_MT_init_7 : decode b_MT_init 7 = .ok (.anewarray 9, 3) := by decide +kernel
theorem d_MT_init_10 : decode b_MT_init 10 = .ok (.putfield 11, 3) := by decide +kernel
theorem d_MT_init_13 : decode b_MT_init 13 = .ok (.aload_n 0, 1) := by decide +kernel
theorem d_MT_init_14 : decode b_MT_init 14 = .ok (.new 15, 3) := by decide +kernel
theorem d_MT_init_17 : decode b_MT_init 17 = .ok (.dup, 1) := by decide +kernel
theorem d_MT_init_18 : decode b_MT_init 18 = .ok (.invokespecial 17, 3) := by decide +kernel
theorem d_MT_init_21 : decode b_MT_init 21 = .ok (.putfield 18, 3) := by decide +kernel
theorem d_MT_init_24 : decode b_MT_init 24 = .ok (.aload_n 0, 1) := by decide +kernel
theorem d_MT_init_25 : decode b_MT_init 25 = .ok (.new 22, 3) := by decide +kernel
theorem d_MT_init_28 : decode b_MT_init 28 = .ok (.dup, 1) := by decide +kernel
theorem d_MT_init_29 : decode b_MT_init 29 = .ok (.invokespecial 24, 3) := by decide +kernel
theorem d_MT_init_32 : decode b_MT_init 32 = .ok (.putfield 25, 3) := by decide +kernel
theorem d_MT_init_35 : decode b_MT_init 35 = .ok (.aload_n 0, 1) := by decide +kernel
theorem d_MT_init_36 : decode b_MT_init 36 = .ok (.iconst 0, 1) := by decide +kernel
theorem d_MT_init_37 : decode b_MT_init 37 = .ok (.putfield 29, 3) := by decide +kernel
theorem d_MT_init_40 : decode b_MT_init 40 = .ok (.aload_n 0, 1) := by decide +kernel
theorem d_MT_init_41 : decode b_MT_init 41 = .ok (.iconst 0, 1) := by decide +kernel
theorem d_MT_init_42 : decode b_MT_init 42 = .ok (.newarray .int, 2) := by decide +kernel
theorem d_MT_init_44 : decode b_MT_init 44 = .ok (.putfield 33, 3) := by decide +kernel
theorem d_MT_init_47 : decode b_MT_init 47 = .ok (.return_, 1) := by decide +kernel
theorem d_MT_machine_0 : decode b_MT_machine 0 = .ok (.iload_n 1, 1) := by decide +kernel
theorem d_MT_machine_1 : decode b_MT_machine 1 = .ok (.iconst 1, 1) := by decide +kernel
theorem d_MT_machine_2 : decode b_MT_machine 2 = .ok (.if_icmp .lt (26), 3) := by decide +kernel
theorem d_MT_machine_5 : decode b_MT_machine 5 = .ok (.iload_n 1, 1) := by decide +kernel
theorem d_MT_machine_6 : decode b_MT_machine 6 = .ok (.bipush (40), 2) := by decide +kernel
theorem d_MT_machine_8 : decode b_MT_machine 8 = .ok (.if_icmp .gt (20), 3) := by decide +kernel
theorem d_MT_machine_11 : decode b_MT_machine 11 = .ok (.iload_n 2, 1) := by decide +kernel
theorem d_MT_machine_12 : decode b_MT_machine 12 = .ok (.iconst 1, 1) := by decide +kernel
theorem d_MT_machine_13 : decode b_MT_machine 13 = .ok (.if_icmp .lt (15), 3) := by decide +kernel
theorem d_MT_machine_16 : decode b_MT_machine 16 = .ok (.iload_n 2, 1) := by decide +kernel
theorem d_MT_machine_17 : decode b_MT_machine 17 = .ok (.iconst 4, 1) := by decide +kernel
theorem d_MT_machine_18 : decode b_MT_machine 18 = .ok (.if_icmp .gt (10), 3) := by decide +kernel
theorem d_MT_machine_21 : decode b_MT_machine 21 = .ok (.aload_n 0, 1) := by decide +kernel
theorem d_MT_machine_22 : decode b_MT_machine 22 = .ok (.invokevirtual 37, 3) := by decide +kernel
theorem d_MT_machine_25 : decode b_MT_machine 25 = .ok (.ifCond .eq (5), 3) := by decide +kernel
theorem d_MT_machine_28 : decode b_MT_machine 28 = .ok (.iconst (-1), 1) := by decide +kernel
theorem d_MT_machine_29 : decode b_MT_machine 29 = .ok (.ireturn, 1) := by decide +kernel
theorem d_MT_machine_30 : decode b_MT_machine 30 = .ok (.aload_n 0, 1) := by decide +kernel
theorem d_MT_machine_31 : decode b_MT_machine 31 = .ok (.iload_n 1, 1) := by decide +kernel
theorem d_MT_machine_32 : decode b_MT_machine 32 = .ok (.iload_n 2, 1) := by decide +kernel
theorem d_MT_machine_33 : decode b_MT_machine 33 = .ok (.invokevirtual 41, 3) := by decide +kernel
theorem d_MT_machine_36 : decode b_MT_machine 36 = .ok (.pop, 1) := by decide +kernel
theorem d_MT_machine_37 : decode b_MT_machine 37 = .ok (.aload_n 0, 1) := by decide +kernel
theorem d_MT_machine_38 : decode b_MT_machine 38 = .ok (.getfield 29, 3) := by decide +kernel
theorem d_MT_machine_41 : decode b_MT_machine 41 = .ok (.iconst 1, 1) := by decide +kernel
theorem d_MT_machine_42 : decode b_MT_machine 42 = .ok (.isub, 1) := by decide +kernel
theorem d_MT_machine_43 : decode b_MT_machine 43 = .ok (.ireturn, 1) := by decide +kernel
theorem d_MT_arrow_0 : decode b_MT_arrow 0 = .ok (.aload_n 0, 1) := by decide +kernel
theorem d_MT_arrow_1 : decode b_MT_arrow 1 = .ok (.iload_n 1, 1) := by decide +kernel
theorem d_MT_arrow_2 : decode b_MT_arrow 2 = .ok (.invokevirtual 45, 3) := by decide +kernel
theorem d_MT_arrow_5 : decode b_MT_arrow 5 = .ok (.astore 6, 2) := by decide +kernel
theorem d_MT_arrow_7 : decode b_MT_arrow 7 = .ok (.aload 6, 2) := by decide +kernel
theorem d_MT_arrow_9 : decode b_MT_arrow 9 = .ok (.ifnull (31), 3) := by decide +kernel
theorem d_MT_arrow_12 : decode b_MT_arrow 12 = .ok (.aload 6, 2) := by decide +kernel
theorem d_MT_arrow_14 : decode b_MT_arrow 14 = .ok (.iload_n 2, 1) := by decide +kernel
theorem d_MT_arrow_15 : decode b_MT_arrow 15 = .ok (.invokevirtual 49, 3) := by decide +kernel
theorem d_MT_arrow_18 : decode b_MT_arrow 18 = .ok (.ifCond .eq (22), 3) := by decide +kernel
theorem d_MT_arrow_21 : decode b_MT_arrow 21 = .ok (.aload 6, 2) := by decide +kernel
theorem d_MT_arrow_23 : decode b_MT_arrow 23 = .ok (.iload_n 3, 1) := by decide +kernel
theorem d_MT_arrow_24 : decode b_MT_arrow 24 = .ok (.invokevirtual 53, 3) := by decide +kernel
theorem d_MT_arrow_27 : decode b_MT_arrow 27 = .ok (.ifCond .eq (13), 3) := by decide +kernel
theorem d_MT_arrow_30 : decode b_MT_arrow 30 = .ok (.aload 6, 2) := by decide +kernel
theorem d_MT_arrow_32 : decode b_MT_arrow 32 = .ok (.iload 4, 2) := by decide +kernel
theorem d_MT_arrow_34 : decode b_MT_arrow 34 = .ok (.invokevirtual 49, 3) := by decide +kernel
theorem d_MT_arrow_37 : decode b_MT_arrow 37 = .ok (.ifCond .ne (5), 3) := by decide +kernel
theorem d_MT_arrow_40 : decode b_MT_arrow 40 = .ok (.iconst 0, 1) := by decide +kernel
theorem d_MT_arrow_41 : decode b_MT_arrow 41 = .ok (.ireturn, 1) := by decide +kernel
theorem d_MT_arrow_42 : decode b_MT_arrow 42 = .ok (.iload 5, 2) := by decide +kernel
theorem d_MT_arrow_44 : decode b_MT_arrow 44 = .ok (.ifCond .lt (10), 3) := by decide +kernel
theorem d_MT_arrow_47 : decode b_MT_arrow 47 = .ok (.iload 5, 2) := by decide +kernel
theorem d_MT_arrow_49 : decode b_MT_arrow 49 = .ok (.bipush (10), 2) := by decide +kernel
theorem d_MT_arrow_51 : decode b_MT_arrow 51 = .ok (.if_icmp .lt (5), 3) := by decide +kernel
theorem d_MT_arrow_54 : decode b_MT_arrow 54 = .ok (.iconst 0, 1) := by decide +kernel
theorem d_MT_arrow_55 : decode b_MT_arrow 55 = .ok (.ireturn, 1) := by decide +kernel
theorem d_MT_arrow_56 : decode b_MT_arrow 56 = .ok (.aload 6, 2) := by decide +kernel
theorem d_MT_arrow_58 : decode b_MT_arrow 58 = .ok (.iload_n 2, 1) := by decide +kernel
theorem d_MT_arrow_59 : decode b_MT_arrow 59 = .ok (.iload_n 3, 1) := by decide +kernel
theorem d_MT_arrow_60 : decode b_MT_arrow 60 = .ok (.iload 4, 2) := by decide +kernel
theorem d_MT_arrow_62 : decode b_MT_arrow 62 = .ok (.iload 5, 2) := by decide +kernel
theorem d_MT_arrow_64 : decode b_MT_arrow 64 = .ok (.invokevirtual 56, 3) := by decide +kernel
theorem d_MT_arrow_67 : decode b_MT_arrow 67 = .ok (.iconst 1, 1) := by decide +kernel
theorem d_MT_arrow_68 : decode b_MT_arrow 68 = .ok (.ireturn, 1) := by decide +kernel
theorem d_MT_look_0 : decode b_MT_look 0 = .ok (.aload_n 0, 1) := by decide +kernel
theorem d_MT_look_1 : decode b_MT_look 1 = .ok (.iload_n 1, 1) := by decide +kernel
theorem d_MT_look_2 : decode b_MT_look 2 = .ok (.invokevirtual 45, 3) := by decide +kernel
theorem d_MT_look_5 : decode b_MT_look 5 = .ok (.astore 5, 2) := by decide +kernel
theorem d_MT_look_7 : decode b_MT_look 7 = .ok (.aload 5, 2) := by decide +kernel
theorem d_MT_look_9 : decode b_MT_look 9 = .ok (.ifnull (21), 3) := by decide +kernel
theorem d_MT_look_12 : decode b_MT_look 12 = .ok (.aload 5, 2) := by decide +kernel
theorem d_MT_look_14 : decode b_MT_look 14 = .ok (.iload_n 2, 1) := by decide +kernel
theorem d_MT_look_15 : decode b_MT_look 15 = .ok (.invokevirtual 49, 3) := by decide +kernel
theorem d_MT_look_18 : decode b_MT_look 18 = .ok (.ifCond .eq (12), 3) := by decide +kernel
theorem d_MT_look_21 : decode b_MT_look 21 = .ok (.aload 5, 2) := by decide +kernel
theorem d_MT_look_23 : decode b_MT_look 23 = .ok (.iload_n 3, 1) := by decide +kernel
theorem d_MT_look_24 : decode b_MT_look 24 = .ok (.invokevirtual 53, 3) := by decide +kernel
theorem d_MT_look_27 : decode b_MT_look 27 = .ok (.ifCond .ne (5), 3) := by decide +kernel
theorem d_MT_look_30 : decode b_MT_look 30 = .ok (.iconst (-1), 1) := by decide +kernel
theorem d_MT_look_31 : decode b_MT_look 31 = .ok (.ireturn, 1) := by decide +kernel
theorem d_MT_look_32 : decode b_MT_look 32 = .ok (.iload 4, 2) := by decide +kernel
theorem d_MT_look_34 : decode b_MT_look 34 = .ok (.ifCond .ne (11), 3) := by decide +kernel
theorem d_MT_look_37 : decode b_MT_look 37 = .ok (.aload 5, 2) := by decide +kernel
theorem d_MT_look_39 : decode b_MT_look 39 = .ok (.iload_n 2, 1) := by decide +kernel
theorem d_MT_look_40 : decode b_MT_look 40 = .ok (.iload_n 3, 1) := by decide +kernel
theorem d_MT_look_41 : decode b_MT_look 41 = .ok (.invokevirtual 60, 3) := by decide +kernel
theorem d_MT_look_44 : decode b_MT_look 44 = .ok (.ireturn, 1) := by decide +kernel
theorem d_MT_look_45 : decode b_MT_look 45 = .ok (.iload 4, 2) := by decide +kernel
theorem d_MT_look_47 : decode b_MT_look 47 = .ok (.iconst 1, 1) := by decide +kernel
theorem d_MT_look_48 : decode b_MT_look 48 = .ok (.if_icmp .ne (13), 3) := by decide +kernel
theorem d_MT_look_51 : decode b_MT_look 51 = .ok (.aload 5, 2) := by decide +kernel
theorem d_MT_look_53 : decode b_MT_look 53 = .ok (.iload_n 2, 1) := by decide +kernel
theorem d_MT_look_54 : decode b_MT_look 54 = .ok (.iload_n 3, 1) := by decide +kernel
theorem d_MT_look_55 : decode b_MT_look 55 = .ok (.invokevirtual 64, 3) := by decide +kernel
theorem d_MT_look_58 : decode b_MT_look 58 = .ok (.goto (4), 3) := by decide +kernel
theorem d_MT_look_61 : decode b_MT_look 61 = .ok (.iconst (-1), 1) := by decide +kernel
theorem d_MT_look_62 : decode b_MT_look 62 = .ok (.ireturn, 1) := by decide +kernel
theorem d_MT_classes_0 : decode b_MT_classes 0 = .ok (.aload_n 0, 1) := by decide +kernel
theorem d_MT_classes_1 : decode b_MT_classes 1 = .ok (.iload_n 1, 1) := by decide +kernel
theorem d_MT_classes_2 : decode b_MT_classes 2 = .ok (.invokevirtual 45, 3) := by decide +kernel
theorem d_MT_classes_5 : decode b_MT_classes 5 = .ok (.astore_n 2, 1) := by decide +kernel
theorem d_MT_classes_6 : decode b_MT_classes 6 = .ok (.aload_n 2, 1) := by decide +kernel
theorem d_MT_classes_7 : decode b_MT_classes 7 = .ok (.ifnonnull (5), 3) := by decide +kernel
theorem d_MT_classes_10 : decode b_MT_classes 10 = .ok (.iconst (-1), 1) := by decide +kernel
theorem d_MT_classes_11 : decode b_MT_classes 11 = .ok (.ireturn, 1) := by decide +kernel
theorem d_MT_classes_12 : decode b_MT_classes 12 = .ok (.aload_n 2, 1) := by decide +kernel
theorem d_MT_classes_13 : decode b_MT_classes 13 = .ok (.invokevirtual 67, 3) := by decide +kernel
theorem d_MT_classes_16 : decode b_MT_classes 16 = .ok (.aload_n 2, 1) := by decide +kernel
theorem d_MT_classes_17 : decode b_MT_classes 17 = .ok (.invokevirtual 70, 3) := by decide +kernel
theorem d_MT_classes_20 : decode b_MT_classes 20 = .ok (.ireturn, 1) := by decide +kernel
theorem d_MT_like_0 : decode b_MT_like 0 = .ok (.aload_n 0, 1) := by decide +kernel
theorem d_MT_like_1 : decode b_MT_like 1 = .ok (.iload_n 1, 1) := by decide +kernel
theorem d_MT_like_2 : decode b_MT_like 2 = .ok (.invokevirtual 45, 3) := by decide +kernel
theorem d_MT_like_5 : decode b_MT_like 5 = .ok (.astore_n 3, 1) := by decide +kernel
theorem d_MT_like_6 : decode b_MT_like 6 = .ok (.aload_n 3, 1) := by decide +kernel
theorem d_MT_like_7 : decode b_MT_like 7 = .ok (.ifnull (11), 3) := by decide +kernel
theorem d_MT_like_10 : decode b_MT_like 10 = .ok (.aload_n 3, 1) := by decide +kernel
theorem d_MT_like_11 : decode b_MT_like 11 = .ok (.iload_n 2, 1) := by decide +kernel
theorem d_MT_like_12 : decode b_MT_like 12 = .ok (.invokevirtual 49, 3) := by decide +kernel
theorem d_MT_like_15 : decode b_MT_like 15 = .ok (.ifCond .ne (5), 3) := by decide +kernel
theorem d_MT_like_18 : decode b_MT_like 18 = .ok (.iconst (-1), 1) := by decide +kernel
theorem d_MT_like_19 : decode b_MT_like 19 = .ok (.ireturn, 1) := by decide +kernel
theorem d_MT_like_20 : decode b_MT_like 20 = .ok (.aload_n 3, 1) := by decide +kernel
theorem d_MT_like_21 : decode b_MT_like 21 = .ok (.invokevirtual 67, 3) := by decide +kernel
theorem d_MT_like_24 : decode b_MT_like 24 = .ok (.aload_n 3, 1) := by decide +kernel
theorem d_MT_like_25 : decode b_MT_like 25 = .ok (.iload_n 2, 1) := by decide +kernel
theorem d_MT_like_26 : decode b_MT_like 26 = .ok (.invokevirtual 74, 3) := by decide +kernel
theorem d_MT_like_29 : decode b_MT_like 29 = .ok (.ireturn, 1) := by decide +kernel
theorem d_MT_alike_0 : decode b_MT_alike 0 = .ok (.aload_n 0, 1) := by decide +kernel
theorem d_MT_alike_1 : decode b_MT_alike 1 = .ok (.iload_n 1, 1) := by decide +kernel
theorem d_MT_alike_2 : decode b_MT_alike 2 = .ok (.invokevirtual 45, 3) := by decide +kernel
theorem d_MT_alike_5 : decode b_MT_alike 5 = .ok (.astore 5, 2) := by decide +kernel
theorem d_MT_alike_7 : decode b_MT_alike 7 = .ok (.aload_n 0, 1) := by decide +kernel
theorem d_MT_alike_8 : decode b_MT_alike 8 = .ok (.iload_n 3, 1) := by decide +kernel
theorem d_MT_alike_9 : decode b_MT_alike 9 = .ok (.invokevirtual 45, 3) := by decide +kernel
theorem d_MT_alike_12 : decode b_MT_alike 12 = .ok (.astore 6, 2) := by decide +kernel
theorem d_MT_alike_14 : decode b_MT_alike 14 = .ok (.aload 5, 2) := by decide +kernel
theorem d_MT_alike_16 : decode b_MT_alike 16 = .ok (.ifnull (27), 3) := by decide +kernel
theorem d_MT_alike_19 : decode b_MT_alike 19 = .ok (.aload 6, 2) := by decide +kernel
theorem d_MT_alike_21 : decode b_MT_alike 21 = .ok (.ifnull (22), 3) := by decide +kernel
theorem d_MT_alike_24 : decode b_MT_alike 24 = .ok (.aload 5, 2) := by decide +kernel
theorem d_MT_alike_26 : decode b_MT_alike 26 = .ok (.iload_n 2, 1) := by decide +kernel
theorem d_MT_alike_27 : decode b_MT_alike 27 = .ok (.invokevirtual 49, 3) := by decide +kernel
theorem d_MT_alike_30 : decode b_MT_alike 30 = .ok (.ifCond .eq (13), 3) := by decide +kernel
theorem d_MT_alike_33 : decode b_MT_alike 33 = .ok (.aload 6, 2) := by decide +kernel
theorem d_MT_alike_35 : decode b_MT_alike 35 = .ok (.iload 4, 2) := by decide +kernel
theorem d_MT_alike_37 : decode b_MT_alike 37 = .ok (.invokevirtual 49, 3) := by decide +kernel
theorem d_MT_alike_40 : decode b_MT_alike 40 = .ok (.ifCond .ne (13), 3) := by decide +kernel
theorem d_MT_alike_43 : decode b_MT_alike 43 = .ok (.new 78, 3) := by decide +kernel
theorem d_MT_alike_46 : decode b_MT_alike 46 = .ok (.dup, 1) := by decide +kernel
theorem d_MT_alike_47 : decode b_MT_alike 47 = .ok (.ldc 80, 2) := by decide +kernel
theorem d_MT_alike_49 : decode b_MT_alike 49 = .ok (.invokespecial 82, 3) := by decide +kernel
theorem d_MT_alike_52 : decode b_MT_alike 52 = .ok (.athrow, 1) := by decide +kernel
theorem d_MT_alike_53 : decode b_MT_alike 53 = .ok (.aload 5, 2) := by decide +kernel
theorem d_MT_alike_55 : decode b_MT_alike 55 = .ok (.getfield 85, 3) := by decide +kernel
theorem d_MT_alike_58 : decode b_MT_alike 58 = .ok (.aload 6, 2) := by decide +kernel
theorem d_MT_alike_60 : decode b_MT_alike 60 = .ok (.getfield 85, 3) := by decide +kernel
theorem d_MT_alike_63 : decode b_MT_alike 63 = .ok (.if_icmp .eq (13), 3) := by decide +kernel
theorem d_MT_alike_66 : decode b_MT_alike 66 = .ok (.new 78, 3) := by decide +kernel
theorem d_MT_alike_69 : decode b_MT_alike 69 = .ok (.dup, 1) := by decide +kernel
theorem d_MT_alike_70 : decode b_MT_alike 70 = .ok (.ldc 88, 2) := by decide +kernel
theorem d_MT_alike_72 : decode b_MT_alike 72 = .ok (.invokespecial 82, 3) := by decide +kernel
theorem d_MT_alike_75 : decode b_MT_alike 75 = .ok (.athrow, 1) := by decide +kernel
theorem d_MT_alike_76 : decode b_MT_alike 76 = .ok (.aload_n 0, 1) := by decide +kernel
theorem d_MT_alike_77 : decode b_MT_alike 77 = .ok (.aload 5, 2) := by decide +kernel
theorem d_MT_alike_79 : decode b_MT_alike 79 = .ok (.iload_n 2, 1) := by decide +kernel
theorem d_MT_alike_80 : decode b_MT_alike 80 = .ok (.aload 6, 2) := by decide +kernel
theorem d_MT_alike_82 : decode b_MT_alike 82 = .ok (.iload 4, 2) := by decide +kernel
theorem d_MT_alike_84 : decode b_MT_alike 84 = .ok (.invokevirtual 90, 3) := by decide +kernel
theorem d_MT_alike_87 : decode b_MT_alike 87 = .ok (.istore 7, 2) := by decide +kernel
theorem d_MT_alike_89 : decode b_MT_alike 89 = .ok (.iload 7, 2) := by decide +kernel
theorem d_MT_alike_91 : decode b_MT_alike 91 = .ok (.iconst (-1), 1) := by decide +kernel
theorem d_MT_alike_92 : decode b_MT_alike 92 = .ok (.if_icmp .ne (5), 3) := by decide +kernel
theorem d_MT_alike_95 : decode b_MT_alike 95 = .ok (.iconst 1, 1) := by decide +kernel
theorem d_MT_alike_96 : decode b_MT_alike 96 = .ok (.ireturn, 1) := by decide +kernel
theorem d_MT_alike_97 : decode b_MT_alike 97 = .ok (.aload_n 0, 1) := by decide +kernel
theorem d_MT_alike_98 : decode b_MT_alike 98 = .ok (.iload 7, 2) := by decide +kernel
theorem d_MT_alike_100 : decode b_MT_alike 100 = .ok (.invokevirtual 94, 3) := by decide +kernel
