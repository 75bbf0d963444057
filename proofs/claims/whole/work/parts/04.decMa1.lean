theorem d_Ma_splitSets_17 : decode b_Ma_splitSets 17 = .ok (.aload_n 0, 1) := by decide +kernel
theorem d_Ma_splitSets_18 : decode b_Ma_splitSets 18 = .ok (.iload_n 2, 1) := by decide +kernel
theorem d_Ma_splitSets_19 : decode b_Ma_splitSets 19 = .ok (.invokevirtual 53, 3) := by decide +kernel
theorem d_Ma_splitSets_22 : decode b_Ma_splitSets 22 = .ok (.iastore, 1) := by decide +kernel
theorem d_Ma_splitSets_23 : decode b_Ma_splitSets 23 = .ok (.iload_n 1, 1) := by decide +kernel
theorem d_Ma_splitSets_24 : decode b_Ma_splitSets 24 = .ok (.aload_n 0, 1) := by decide +kernel
theorem d_Ma_splitSets_25 : decode b_Ma_splitSets 25 = .ok (.getfield 21, 3) := by decide +kernel
theorem d_Ma_splitSets_28 : decode b_Ma_splitSets 28 = .ok (.iload_n 2, 1) := by decide +kernel
theorem d_Ma_splitSets_29 : decode b_Ma_splitSets 29 = .ok (.iaload, 1) := by decide +kernel
theorem d_Ma_splitSets_30 : decode b_Ma_splitSets 30 = .ok (.aload_n 0, 1) := by decide +kernel
theorem d_Ma_splitSets_31 : decode b_Ma_splitSets 31 = .ok (.getfield 18, 3) := by decide +kernel
theorem d_Ma_splitSets_34 : decode b_Ma_splitSets 34 = .ok (.iload_n 2, 1) := by decide +kernel
theorem d_Ma_splitSets_35 : decode b_Ma_splitSets 35 = .ok (.iaload, 1) := by decide +kernel
theorem d_Ma_splitSets_36 : decode b_Ma_splitSets 36 = .ok (.if_icmp .eq (7), 3) := by decide +kernel
theorem d_Ma_splitSets_39 : decode b_Ma_splitSets 39 = .ok (.iconst 1, 1) := by decide +kernel
theorem d_Ma_splitSets_40 : decode b_Ma_splitSets 40 = .ok (.goto (4), 3) := by decide +kernel
theorem d_Ma_splitSets_43 : decode b_Ma_splitSets 43 = .ok (.iconst 0, 1) := by decide +kernel
theorem d_Ma_splitSets_44 : decode b_Ma_splitSets 44 = .ok (.ior, 1) := by decide +kernel
theorem d_Ma_splitSets_45 : decode b_Ma_splitSets 45 = .ok (.istore_n 1, 1) := by decide +kernel
theorem d_Ma_splitSets_46 : decode b_Ma_splitSets 46 = .ok (.iinc 2 (1), 3) := by decide +kernel
theorem d_Ma_splitSets_49 : decode b_Ma_splitSets 49 = .ok (.goto (-45), 3) := by decide +kernel
theorem d_Ma_splitSets_52 : decode b_Ma_splitSets 52 = .ok (.aload_n 0, 1) := by decide +kernel
theorem d_Ma_splitSets_53 : decode b_Ma_splitSets 53 = .ok (.getfield 21, 3) := by decide +kernel
theorem d_Ma_splitSets_56 : decode b_Ma_splitSets 56 = .ok (.iconst 0, 1) := by decide +kernel
theorem d_Ma_splitSets_57 : decode b_Ma_splitSets 57 = .ok (.aload_n 0, 1) := by decide +kernel
theorem d_Ma_splitSets_58 : decode b_Ma_splitSets 58 = .ok (.getfield 18, 3) := by decide +kernel
theorem d_Ma_splitSets_61 : decode b_Ma_splitSets 61 = .ok (.iconst 0, 1) := by decide +kernel
theorem d_Ma_splitSets_62 : decode b_Ma_splitSets 62 = .ok (.aload_n 0, 1) := by decide +kernel
theorem d_Ma_splitSets_63 : decode b_Ma_splitSets 63 = .ok (.getfield 24, 3) := by decide +kernel
theorem d_Ma_splitSets_66 : decode b_Ma_splitSets 66 = .ok (.invokestatic 57, 3) := by decide +kernel
theorem d_Ma_splitSets_69 : decode b_Ma_splitSets 69 = .ok (.iload_n 1, 1) := by decide +kernel
theorem d_Ma_splitSets_70 : decode b_Ma_splitSets 70 = .ok (.ireturn, 1) := by decide +kernel
theorem d_Ma_leastThatAgrees_0 : decode b_Ma_leastThatAgrees 0 = .ok (.iconst 0, 1) := by decide +kernel
theorem d_Ma_leastThatAgrees_1 : decode b_Ma_leastThatAgrees 1 = .ok (.istore_n 2, 1) := by decide +kernel
theorem d_Ma_leastThatAgrees_2 : decode b_Ma_leastThatAgrees 2 = .ok (.iload_n 2, 1) := by decide +kernel
theorem d_Ma_leastThatAgrees_3 : decode b_Ma_leastThatAgrees 3 = .ok (.iload_n 1, 1) := by decide +kernel
theorem d_Ma_leastThatAgrees_4 : decode b_Ma_leastThatAgrees 4 = .ok (.if_icmp .ge (30), 3) := by decide +kernel
theorem d_Ma_leastThatAgrees_7 : decode b_Ma_leastThatAgrees 7 = .ok (.aload_n 0, 1) := by decide +kernel
theorem d_Ma_leastThatAgrees_8 : decode b_Ma_leastThatAgrees 8 = .ok (.getfield 21, 3) := by decide +kernel
theorem d_Ma_leastThatAgrees_11 : decode b_Ma_leastThatAgrees 11 = .ok (.iload_n 2, 1) := by decide +kernel
theorem d_Ma_leastThatAgrees_12 : decode b_Ma_leastThatAgrees 12 = .ok (.iaload, 1) := by decide +kernel
theorem d_Ma_leastThatAgrees_13 : decode b_Ma_leastThatAgrees 13 = .ok (.iload_n 2, 1) := by decide +kernel
theorem d_Ma_leastThatAgrees_14 : decode b_Ma_leastThatAgrees 14 = .ok (.if_icmp .ne (14), 3) := by decide +kernel
theorem d_Ma_leastThatAgrees_17 : decode b_Ma_leastThatAgrees 17 = .ok (.aload_n 0, 1) := by decide +kernel
theorem d_Ma_leastThatAgrees_18 : decode b_Ma_leastThatAgrees 18 = .ok (.iload_n 2, 1) := by decide +kernel
theorem d_Ma_leastThatAgrees_19 : decode b_Ma_leastThatAgrees 19 = .ok (.iload_n 1, 1) := by decide +kernel
theorem d_Ma_leastThatAgrees_20 : decode b_Ma_leastThatAgrees 20 = .ok (.invokevirtual 63, 3) := by decide +kernel
theorem d_Ma_leastThatAgrees_23 : decode b_Ma_leastThatAgrees 23 = .ok (.ifCond .eq (5), 3) := by decide +kernel
theorem d_Ma_leastThatAgrees_26 : decode b_Ma_leastThatAgrees 26 = .ok (.iload_n 2, 1) := by decide +kernel
theorem d_Ma_leastThatAgrees_27 : decode b_Ma_leastThatAgrees 27 = .ok (.ireturn, 1) := by decide +kernel
theorem d_Ma_leastThatAgrees_28 : decode b_Ma_leastThatAgrees 28 = .ok (.iinc 2 (1), 3) := by decide +kernel
theorem d_Ma_leastThatAgrees_31 : decode b_Ma_leastThatAgrees 31 = .ok (.goto (-29), 3) := by decide +kernel
theorem d_Ma_leastThatAgrees_34 : decode b_Ma_leastThatAgrees 34 = .ok (.iload_n 1, 1) := by decide +kernel
theorem d_Ma_leastThatAgrees_35 : decode b_Ma_leastThatAgrees 35 = .ok (.ireturn, 1) := by decide +kernel
theorem d_Ma_isAgreed_0 : decode b_Ma_isAgreed 0 = .ok (.aload_n 0, 1) := by decide +kernel
theorem d_Ma_isAgreed_1 : decode b_Ma_isAgreed 1 = .ok (.getfield 18, 3) := by decide +kernel
theorem d_Ma_isAgreed_4 : decode b_Ma_isAgreed 4 = .ok (.iload_n 1, 1) := by decide +kernel
theorem d_Ma_isAgreed_5 : decode b_Ma_isAgreed 5 = .ok (.iaload, 1) := by decide +kernel
theorem d_Ma_isAgreed_6 : decode b_Ma_isAgreed 6 = .ok (.aload_n 0, 1) := by decide +kernel
theorem d_Ma_isAgreed_7 : decode b_Ma_isAgreed 7 = .ok (.getfield 18, 3) := by decide +kernel
theorem d_Ma_isAgreed_10 : decode b_Ma_isAgreed 10 = .ok (.iload_n 2, 1) := by decide +kernel
theorem d_Ma_isAgreed_11 : decode b_Ma_isAgreed 11 = .ok (.iaload, 1) := by decide +kernel
theorem d_Ma_isAgreed_12 : decode b_Ma_isAgreed 12 = .ok (.if_icmp .eq (5), 3) := by decide +kernel
theorem d_Ma_isAgreed_15 : decode b_Ma_isAgreed 15 = .ok (.iconst 0, 1) := by decide +kernel
theorem d_Ma_isAgreed_16 : decode b_Ma_isAgreed 16 = .ok (.ireturn, 1) := by decide +kernel
theorem d_Ma_isAgreed_17 : decode b_Ma_isAgreed 17 = .ok (.iconst 0, 1) := by decide +kernel
theorem d_Ma_isAgreed_18 : decode b_Ma_isAgreed 18 = .ok (.istore_n 3, 1) := by decide +kernel
theorem d_Ma_isAgreed_19 : decode b_Ma_isAgreed 19 = .ok (.iload_n 3, 1) := by decide +kernel
theorem d_Ma_isAgreed_20 : decode b_Ma_isAgreed 20 = .ok (.aload_n 0, 1) := by decide +kernel
theorem d_Ma_isAgreed_21 : decode b_Ma_isAgreed 21 = .ok (.getfield 28, 3) := by decide +kernel
theorem d_Ma_isAgreed_24 : decode b_Ma_isAgreed 24 = .ok (.if_icmp .ge (53), 3) := by decide +kernel
theorem d_Ma_isAgreed_27 : decode b_Ma_isAgreed 27 = .ok (.aload_n 0, 1) := by decide +kernel
theorem d_Ma_isAgreed_28 : decode b_Ma_isAgreed 28 = .ok (.iload_n 1, 1) := by decide +kernel
theorem d_Ma_isAgreed_29 : decode b_Ma_isAgreed 29 = .ok (.iload_n 3, 1) := by decide +kernel
theorem d_Ma_isAgreed_30 : decode b_Ma_isAgreed 30 = .ok (.invokevirtual 67, 3) := by decide +kernel
theorem d_Ma_isAgreed_33 : decode b_Ma_isAgreed 33 = .ok (.aload_n 0, 1) := by decide +kernel
theorem d_Ma_isAgreed_34 : decode b_Ma_isAgreed 34 = .ok (.iload_n 2, 1) := by decide +kernel
theorem d_Ma_isAgreed_35 : decode b_Ma_isAgreed 35 = .ok (.iload_n 3, 1) := by decide +kernel
theorem d_Ma_isAgreed_36 : decode b_Ma_isAgreed 36 = .ok (.invokevirtual 67, 3) := by decide +kernel
theorem d_Ma_isAgreed_39 : decode b_Ma_isAgreed 39 = .ok (.if_icmp .eq (5), 3) := by decide +kernel
theorem d_Ma_isAgreed_42 : decode b_Ma_isAgreed 42 = .ok (.iconst 0, 1) := by decide +kernel
theorem d_Ma_isAgreed_43 : decode b_Ma_isAgreed 43 = .ok (.ireturn, 1) := by decide +kernel
theorem d_Ma_isAgreed_44 : decode b_Ma_isAgreed 44 = .ok (.aload_n 0, 1) := by decide +kernel
theorem d_Ma_isAgreed_45 : decode b_Ma_isAgreed 45 = .ok (.getfield 18, 3) := by decide +kernel
theorem d_Ma_isAgreed_48 : decode b_Ma_isAgreed 48 = .ok (.aload_n 0, 1) := by decide +kernel
theorem d_Ma_isAgreed_49 : decode b_Ma_isAgreed 49 = .ok (.iload_n 1, 1) := by decide +kernel
theorem d_Ma_isAgreed_50 : decode b_Ma_isAgreed 50 = .ok (.iload_n 3, 1) := by decide +kernel
theorem d_Ma_isAgreed_51 : decode b_Ma_isAgreed 51 = .ok (.invokevirtual 39, 3) := by decide +kernel
theorem d_Ma_isAgreed_54 : decode b_Ma_isAgreed 54 = .ok (.iaload, 1) := by decide +kernel
theorem d_Ma_isAgreed_55 : decode b_Ma_isAgreed 55 = .ok (.aload_n 0, 1) := by decide +kernel
theorem d_Ma_isAgreed_56 : decode b_Ma_isAgreed 56 = .ok (.getfield 18, 3) := by decide +kernel
theorem d_Ma_isAgreed_59 : decode b_Ma_isAgreed 59 = .ok (.aload_n 0, 1) := by decide +kernel
theorem d_Ma_isAgreed_60 : decode b_Ma_isAgreed 60 = .ok (.iload_n 2, 1) := by decide +kernel
theorem d_Ma_isAgreed_61 : decode b_Ma_isAgreed 61 = .ok (.iload_n 3, 1) := by decide +kernel
theorem d_Ma_isAgreed_62 : decode b_Ma_isAgreed 62 = .ok (.invokevirtual 39, 3) := by decide +kernel
theorem d_Ma_isAgreed_65 : decode b_Ma_isAgreed 65 = .ok (.iaload, 1) := by decide +kernel
theorem d_Ma_isAgreed_66 : decode b_Ma_isAgreed 66 = .ok (.if_icmp .eq (5), 3) := by decide +kernel
theorem d_Ma_isAgreed_69 : decode b_Ma_isAgreed 69 = .ok (.iconst 0, 1) := by decide +kernel
theorem d_Ma_isAgreed_70 : decode b_Ma_isAgreed 70 = .ok (.ireturn, 1) := by decide +kernel
theorem d_Ma_isAgreed_71 : decode b_Ma_isAgreed 71 = .ok (.iinc 3 (1), 3) := by decide +kernel
theorem d_Ma_isAgreed_74 : decode b_Ma_isAgreed 74 = .ok (.goto (-55), 3) := by decide +kernel
theorem d_Ma_isAgreed_77 : decode b_Ma_isAgreed 77 = .ok (.iconst 1, 1) := by decide +kernel
theorem d_Ma_isAgreed_78 : decode b_Ma_isAgreed 78 = .ok (.ireturn, 1) := by decide +kernel
