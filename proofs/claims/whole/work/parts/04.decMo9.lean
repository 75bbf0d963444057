theorem d_Mo_along_65 : decode b_Mo_along 65 = .ok (.iload 4, 2) := by decide +kernel
theorem d_Mo_along_67 : decode b_Mo_along 67 = .ok (.iaload, 1) := by decide +kernel
theorem d_Mo_along_68 : decode b_Mo_along 68 = .ok (.iadd, 1) := by decide +kernel
theorem d_Mo_along_69 : decode b_Mo_along 69 = .ok (.iaload, 1) := by decide +kernel
theorem d_Mo_along_70 : decode b_Mo_along 70 = .ok (.istore_n 3, 1) := by decide +kernel
theorem d_Mo_along_71 : decode b_Mo_along 71 = .ok (.iinc 4 (1), 3) := by decide +kernel
theorem d_Mo_along_74 : decode b_Mo_along 74 = .ok (.goto (-53), 3) := by decide +kernel
theorem d_Mo_along_77 : decode b_Mo_along 77 = .ok (.iload_n 3, 1) := by decide +kernel
theorem d_Mo_along_78 : decode b_Mo_along 78 = .ok (.ireturn, 1) := by decide +kernel
theorem d_Mo_clear_0 : decode b_Mo_clear 0 = .ok (.aload_n 0, 1) := by decide +kernel
theorem d_Mo_clear_1 : decode b_Mo_clear 1 = .ok (.iconst 0, 1) := by decide +kernel
theorem d_Mo_clear_2 : decode b_Mo_clear 2 = .ok (.putfield 53, 3) := by decide +kernel
theorem d_Mo_clear_5 : decode b_Mo_clear 5 = .ok (.aload_n 0, 1) := by decide +kernel
theorem d_Mo_clear_6 : decode b_Mo_clear 6 = .ok (.iconst 0, 1) := by decide +kernel
theorem d_Mo_clear_7 : decode b_Mo_clear 7 = .ok (.putfield 57, 3) := by decide +kernel
theorem d_Mo_clear_10 : decode b_Mo_clear 10 = .ok (.return_, 1) := by decide +kernel
theorem d_Mo_total_0 : decode b_Mo_total 0 = .ok (.aload_n 0, 1) := by decide +kernel
theorem d_Mo_total_1 : decode b_Mo_total 1 = .ok (.iconst 0, 1) := by decide +kernel
theorem d_Mo_total_2 : decode b_Mo_total 2 = .ok (.putfield 53, 3) := by decide +kernel
theorem d_Mo_total_5 : decode b_Mo_total 5 = .ok (.iload_n 1, 1) := by decide +kernel
theorem d_Mo_total_6 : decode b_Mo_total 6 = .ok (.ifCond .ne (8), 3) := by decide +kernel
theorem d_Mo_total_9 : decode b_Mo_total 9 = .ok (.aload_n 0, 1) := by decide +kernel
theorem d_Mo_total_10 : decode b_Mo_total 10 = .ok (.getfield 57, 3) := by decide +kernel
theorem d_Mo_total_13 : decode b_Mo_total 13 = .ok (.ireturn, 1) := by decide +kernel
theorem d_Mo_total_14 : decode b_Mo_total 14 = .ok (.iload_n 1, 1) := by decide +kernel
theorem d_Mo_total_15 : decode b_Mo_total 15 = .ok (.iconst 1, 1) := by decide +kernel
theorem d_Mo_total_16 : decode b_Mo_total 16 = .ok (.if_icmp .ne (8), 3) := by decide +kernel
theorem d_Mo_total_19 : decode b_Mo_total 19 = .ok (.aload_n 0, 1) := by decide +kernel
theorem d_Mo_total_20 : decode b_Mo_total 20 = .ok (.getfield 94, 3) := by decide +kernel
theorem d_Mo_total_23 : decode b_Mo_total 23 = .ok (.ireturn, 1) := by decide +kernel
theorem d_Mo_total_24 : decode b_Mo_total 24 = .ok (.iload_n 1, 1) := by decide +kernel
theorem d_Mo_total_25 : decode b_Mo_total 25 = .ok (.sipush (200), 3) := by decide +kernel
theorem d_Mo_total_28 : decode b_Mo_total 28 = .ok (.if_icmp .lt (30), 3) := by decide +kernel
theorem d_Mo_total_31 : decode b_Mo_total 31 = .ok (.aload_n 0, 1) := by decide +kernel
theorem d_Mo_total_32 : decode b_Mo_total 32 = .ok (.iload_n 1, 1) := by decide +kernel
theorem d_Mo_total_33 : decode b_Mo_total 33 = .ok (.sipush (200), 3) := by decide +kernel
theorem d_Mo_total_36 : decode b_Mo_total 36 = .ok (.isub, 1) := by decide +kernel
theorem d_Mo_total_37 : decode b_Mo_total 37 = .ok (.invokevirtual 64, 3) := by decide +kernel
theorem d_Mo_total_40 : decode b_Mo_total 40 = .ok (.ifCond .eq (16), 3) := by decide +kernel
theorem d_Mo_total_43 : decode b_Mo_total 43 = .ok (.aload_n 0, 1) := by decide +kernel
theorem d_Mo_total_44 : decode b_Mo_total 44 = .ok (.getfield 13, 3) := by decide +kernel
theorem d_Mo_total_47 : decode b_Mo_total 47 = .ok (.iload_n 1, 1) := by decide +kernel
theorem d_Mo_total_48 : decode b_Mo_total 48 = .ok (.sipush (200), 3) := by decide +kernel
theorem d_Mo_total_51 : decode b_Mo_total 51 = .ok (.isub, 1) := by decide +kernel
theorem d_Mo_total_52 : decode b_Mo_total 52 = .ok (.iaload, 1) := by decide +kernel
theorem d_Mo_total_53 : decode b_Mo_total 53 = .ok (.goto (4), 3) := by decide +kernel
theorem d_Mo_total_56 : decode b_Mo_total 56 = .ok (.iconst (-1), 1) := by decide +kernel
theorem d_Mo_total_57 : decode b_Mo_total 57 = .ok (.ireturn, 1) := by decide +kernel
theorem d_Mo_total_58 : decode b_Mo_total 58 = .ok (.aload_n 0, 1) := by decide +kernel
theorem d_Mo_total_59 : decode b_Mo_total 59 = .ok (.iload_n 1, 1) := by decide +kernel
theorem d_Mo_total_60 : decode b_Mo_total 60 = .ok (.bipush (100), 2) := by decide +kernel
theorem d_Mo_total_62 : decode b_Mo_total 62 = .ok (.isub, 1) := by decide +kernel
theorem d_Mo_total_63 : decode b_Mo_total 63 = .ok (.invokevirtual 64, 3) := by decide +kernel
theorem d_Mo_total_66 : decode b_Mo_total 66 = .ok (.ifCond .eq (15), 3) := by decide +kernel
theorem d_Mo_total_69 : decode b_Mo_total 69 = .ok (.aload_n 0, 1) := by decide +kernel
theorem d_Mo_total_70 : decode b_Mo_total 70 = .ok (.getfield 7, 3) := by decide +kernel
theorem d_Mo_total_73 : decode b_Mo_total 73 = .ok (.iload_n 1, 1) := by decide +kernel
theorem d_Mo_total_74 : decode b_Mo_total 74 = .ok (.bipush (100), 2) := by decide +kernel
theorem d_Mo_total_76 : decode b_Mo_total 76 = .ok (.isub, 1) := by decide +kernel
theorem d_Mo_total_77 : decode b_Mo_total 77 = .ok (.iaload, 1) := by decide +kernel
theorem d_Mo_total_78 : decode b_Mo_total 78 = .ok (.goto (4), 3) := by decide +kernel
theorem d_Mo_total_81 : decode b_Mo_total 81 = .ok (.iconst (-1), 1) := by decide +kernel
theorem d_Mo_total_82 : decode b_Mo_total 82 = .ok (.ireturn, 1) := by decide +kernel
