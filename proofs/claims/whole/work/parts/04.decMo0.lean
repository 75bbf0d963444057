theorem d_Mo_init_0 : decode b_Mo_init 0 = .ok (.aload_n 0, 1) := by decide +kernel
theorem d_Mo_init_1 : decode b_Mo_init 1 = .ok (.invokespecial 1, 3) := by decide +kernel
theorem d_Mo_init_4 : decode b_Mo_init 4 = .ok (.aload_n 0, 1) := by decide +kernel
theorem d_Mo_init_5 : decode b_Mo_init 5 = .ok (.bipush (12), 2) := by decide +kernel
theorem d_Mo_init_7 : decode b_Mo_init 7 = .ok (.newarray .int, 2) := by decide +kernel
theorem d_Mo_init_9 : decode b_Mo_init 9 = .ok (.putfield 7, 3) := by decide +kernel
theorem d_Mo_init_12 : decode b_Mo_init 12 = .ok (.aload_n 0, 1) := by decide +kernel
theorem d_Mo_init_13 : decode b_Mo_init 13 = .ok (.bipush (12), 2) := by decide +kernel
theorem d_Mo_init_15 : decode b_Mo_init 15 = .ok (.newarray .int, 2) := by decide +kernel
theorem d_Mo_init_17 : decode b_Mo_init 17 = .ok (.putfield 13, 3) := by decide +kernel
theorem d_Mo_init_20 : decode b_Mo_init 20 = .ok (.aload_n 0, 1) := by decide +kernel
theorem d_Mo_init_21 : decode b_Mo_init 21 = .ok (.sipush (1920), 3) := by decide +kernel
theorem d_Mo_init_24 : decode b_Mo_init 24 = .ok (.newarray .int, 2) := by decide +kernel
theorem d_Mo_init_26 : decode b_Mo_init 26 = .ok (.putfield 16, 3) := by decide +kernel
theorem d_Mo_init_29 : decode b_Mo_init 29 = .ok (.aload_n 0, 1) := by decide +kernel
theorem d_Mo_init_30 : decode b_Mo_init 30 = .ok (.sipush (1920), 3) := by decide +kernel
theorem d_Mo_init_33 : decode b_Mo_init 33 = .ok (.newarray .int, 2) := by decide +kernel
theorem d_Mo_init_35 : decode b_Mo_init 35 = .ok (.putfield 19, 3) := by decide +kernel
theorem d_Mo_init_38 : decode b_Mo_init 38 = .ok (.aload_n 0, 1) := by decide +kernel
theorem d_Mo_init_39 : decode b_Mo_init 39 = .ok (.sipush (4200), 3) := by decide +kernel
theorem d_Mo_init_42 : decode b_Mo_init 42 = .ok (.newarray .int, 2) := by decide +kernel
theorem d_Mo_init_44 : decode b_Mo_init 44 = .ok (.putfield 22, 3) := by decide +kernel
theorem d_Mo_init_47 : decode b_Mo_init 47 = .ok (.aload_n 0, 1) := by decide +kernel
theorem d_Mo_init_48 : decode b_Mo_init 48 = .ok (.sipush (1600), 3) := by decide +kernel
theorem d_Mo_init_51 : decode b_Mo_init 51 = .ok (.newarray .boolean, 2) := by decide +kernel
theorem d_Mo_init_53 : decode b_Mo_init 53 = .ok (.putfield 25, 3) := by decide +kernel
theorem d_Mo_init_56 : decode b_Mo_init 56 = .ok (.aload_n 0, 1) := by decide +kernel
theorem d_Mo_init_57 : decode b_Mo_init 57 = .ok (.sipush (4096), 3) := by decide +kernel
theorem d_Mo_init_60 : decode b_Mo_init 60 = .ok (.newarray .int, 2) := by decide +kernel
theorem d_Mo_init_62 : decode b_Mo_init 62 = .ok (.putfield 29, 3) := by decide +kernel
theorem d_Mo_init_65 : decode b_Mo_init 65 = .ok (.aload_n 0, 1) := by decide +kernel
theorem d_Mo_init_66 : decode b_Mo_init 66 = .ok (.sipush (4096), 3) := by decide +kernel
theorem d_Mo_init_69 : decode b_Mo_init 69 = .ok (.newarray .int, 2) := by decide +kernel
theorem d_Mo_init_71 : decode b_Mo_init 71 = .ok (.putfield 32, 3) := by decide +kernel
theorem d_Mo_init_74 : decode b_Mo_init 74 = .ok (.aload_n 0, 1) := by decide +kernel
theorem d_Mo_init_75 : decode b_Mo_init 75 = .ok (.sipush (4096), 3) := by decide +kernel
theorem d_Mo_init_78 : decode b_Mo_init 78 = .ok (.newarray .int, 2) := by decide +kernel
theorem d_Mo_init_80 : decode b_Mo_init 80 = .ok (.putfield 35, 3) := by decide +kernel
theorem d_Mo_init_83 : decode b_Mo_init 83 = .ok (.aload_n 0, 1) := by decide +kernel
theorem d_Mo_init_84 : decode b_Mo_init 84 = .ok (.sipush (4096), 3) := by decide +kernel
theorem d_Mo_init_87 : decode b_Mo_init 87 = .ok (.newarray .boolean, 2) := by decide +kernel
theorem d_Mo_init_89 : decode b_Mo_init 89 = .ok (.putfield 38, 3) := by decide +kernel
theorem d_Mo_init_92 : decode b_Mo_init 92 = .ok (.aload_n 0, 1) := by decide +kernel
theorem d_Mo_init_93 : decode b_Mo_init 93 = .ok (.sipush (301), 3) := by decide +kernel
theorem d_Mo_init_96 : decode b_Mo_init 96 = .ok (.newarray .int, 2) := by decide +kernel
theorem d_Mo_init_98 : decode b_Mo_init 98 = .ok (.putfield 41, 3) := by decide +kernel
theorem d_Mo_init_101 : decode b_Mo_init 101 = .ok (.aload_n 0, 1) := by decide +kernel
theorem d_Mo_init_102 : decode b_Mo_init 102 = .ok (.sipush (3612), 3) := by decide +kernel
theorem d_Mo_init_105 : decode b_Mo_init 105 = .ok (.newarray .int, 2) := by decide +kernel
theorem d_Mo_init_107 : decode b_Mo_init 107 = .ok (.putfield 44, 3) := by decide +kernel
theorem d_Mo_init_110 : decode b_Mo_init 110 = .ok (.aload_n 0, 1) := by decide +kernel
theorem d_Mo_init_111 : decode b_Mo_init 111 = .ok (.sipush (301), 3) := by decide +kernel
theorem d_Mo_init_114 : decode b_Mo_init 114 = .ok (.newarray .int, 2) := by decide +kernel
theorem d_Mo_init_116 : decode b_Mo_init 116 = .ok (.putfield 47, 3) := by decide +kernel
theorem d_Mo_init_119 : decode b_Mo_init 119 = .ok (.aload_n 0, 1) := by decide +kernel
theorem d_Mo_init_120 : decode b_Mo_init 120 = .ok (.sipush (301), 3) := by decide +kernel
theorem d_Mo_init_123 : decode b_Mo_init 123 = .ok (.newarray .int, 2) := by decide +kernel
theorem d_Mo_init_125 : decode b_Mo_init 125 = .ok (.putfield 50, 3) := by decide +kernel
theorem d_Mo_init_128 : decode b_Mo_init 128 = .ok (.return_, 1) := by decide +kernel
theorem d_Mo_thrown_0 : decode b_Mo_thrown 0 = .ok (.aload_n 0, 1) := by decide +kernel
theorem d_Mo_thrown_1 : decode b_Mo_thrown 1 = .ok (.getfield 53, 3) := by decide +kernel
theorem d_Mo_thrown_4 : decode b_Mo_thrown 4 = .ok (.ireturn, 1) := by decide +kernel
theorem d_Mo_raise_0 : decode b_Mo_raise 0 = .ok (.aload_n 0, 1) := by decide +kernel
theorem d_Mo_raise_1 : decode b_Mo_raise 1 = .ok (.iconst 1, 1) := by decide +kernel
theorem d_Mo_raise_2 : decode b_Mo_raise 2 = .ok (.putfield 53, 3) := by decide +kernel
theorem d_Mo_raise_5 : decode b_Mo_raise 5 = .ok (.iconst 0, 1) := by decide +kernel
theorem d_Mo_raise_6 : decode b_Mo_raise 6 = .ok (.ireturn, 1) := by decide +kernel
theorem d_Mo_in_0 : decode b_Mo_in 0 = .ok (.iload_n 0, 1) := by decide +kernel
theorem d_Mo_in_1 : decode b_Mo_in 1 = .ok (.iload_n 1, 1) := by decide +kernel
theorem d_Mo_in_2 : decode b_Mo_in 2 = .ok (.if_icmp .lt (12), 3) := by decide +kernel
theorem d_Mo_in_5 : decode b_Mo_in 5 = .ok (.iload_n 0, 1) := by decide +kernel
theorem d_Mo_in_6 : decode b_Mo_in 6 = .ok (.iload_n 2, 1) := by decide +kernel
theorem d_Mo_in_7 : decode b_Mo_in 7 = .ok (.if_icmp .gt (7), 3) := by decide +kernel
theorem d_Mo_in_10 : decode b_Mo_in 10 = .ok (.iconst 1, 1) := by decide +kernel
theorem d_Mo_in_11 : decode b_Mo_in 11 = .ok (.goto (4), 3) := by decide +kernel
theorem d_Mo_in_14 : decode b_Mo_in 14 = .ok (.iconst 0, 1) := by decide +kernel
theorem d_Mo_in_15 : decode b_Mo_in 15 = .ok (.ireturn, 1) := by decide +kernel
theorem d_Mo_isMachine_0 : decode b_Mo_isMachine 0 = .ok (.iload_n 1, 1) := by decide +kernel
theorem d_Mo_isMachine_1 : decode b_Mo_isMachine 1 = .ok (.iconst 0, 1) := by decide +kernel
theorem d_Mo_isMachine_2 : decode b_Mo_isMachine 2 = .ok (.aload_n 0, 1) := by decide +kernel
theorem d_Mo_isMachine_3 : decode b_Mo_isMachine 3 = .ok (.getfield 57, 3) := by decide +kernel
theorem d_Mo_isMachine_6 : decode b_Mo_isMachine 6 = .ok (.iconst 1, 1) := by decide +kernel
theorem d_Mo_isMachine_7 : decode b_Mo_isMachine 7 = .ok (.isub, 1) := by decide +kernel
theorem d_Mo_isMachine_8 : decode b_Mo_isMachine 8 = .ok (.invokestatic 60, 3) := by decide +kernel
theorem d_Mo_isMachine_11 : decode b_Mo_isMachine 11 = .ok (.ireturn, 1) := by decide +kernel
theorem d_Mo_isState_0 : decode b_Mo_isState 0 = .ok (.aload_n 0, 1) := by decide +kernel
theorem d_Mo_isState_1 : decode b_Mo_isState 1 = .ok (.iload_n 1, 1) := by decide +kernel
theorem d_Mo_isState_2 : decode b_Mo_isState 2 = .ok (.invokevirtual 64, 3) := by decide +kernel
theorem d_Mo_isState_5 : decode b_Mo_isState 5 = .ok (.ifCond .eq (23), 3) := by decide +kernel
theorem d_Mo_isState_8 : decode b_Mo_isState 8 = .ok (.iload_n 2, 1) := by decide +kernel
theorem d_Mo_isState_9 : decode b_Mo_isState 9 = .ok (.iconst 0, 1) := by decide +kernel
theorem d_Mo_isState_10 : decode b_Mo_isState 10 = .ok (.aload_n 0, 1) := by decide +kernel
theorem d_Mo_isState_11 : decode b_Mo_isState 11 = .ok (.getfield 7, 3) := by decide +kernel
theorem d_Mo_isState_14 : decode b_Mo_isState 14 = .ok (.iload_n 1, 1) := by decide +kernel
theorem d_Mo_isState_15 : decode b_Mo_isState 15 = .ok (.iaload, 1) := by decide +kernel
theorem d_Mo_isState_16 : decode b_Mo_isState 16 = .ok (.iconst 1, 1) := by decide +kernel
theorem d_Mo_isState_17 : decode b_Mo_isState 17 = .ok (.isub, 1) := by decide +kernel
theorem d_Mo_isState_18 : decode b_Mo_isState 18 = .ok (.invokestatic 60, 3) := by decide +kernel
theorem d_Mo_isState_21 : decode b_Mo_isState 21 = .ok (.ifCond .eq (7), 3) := by decide +kernel
theorem d_Mo_isState_24 : decode b_Mo_isState 24 = .ok (.iconst 1, 1) := by decide +kernel
theorem d_Mo_isState_25 : decode b_Mo_isState 25 = .ok (.goto (4), 3) := by decide +kernel
theorem d_Mo_isState_28 : decode b_Mo_isState 28 = .ok (.iconst 0, 1) := by decide +kernel
theorem d_Mo_isState_29 : decode b_Mo_isState 29 = .ok (.ireturn, 1) := by decide +kernel
theorem d_Mo_newMachine_0 : decode b_Mo_newMachine 0 = .ok (.aload_n 0, 1) := by decide +kernel
theorem d_Mo_newMachine_1 : decode b_Mo_newMachine 1 = .ok (.getfield 7, 3) := by decide +kernel
theorem d_Mo_newMachine_4 : decode b_Mo_newMachine 4 = .ok (.aload_n 0, 1) := by decide +kernel
theorem d_Mo_newMachine_5 : decode b_Mo_newMachine 5 = .ok (.getfield 57, 3) := by decide +kernel
theorem d_Mo_newMachine_8 : decode b_Mo_newMachine 8 = .ok (.iload_n 1, 1) := by decide +kernel
theorem d_Mo_newMachine_9 : decode b_Mo_newMachine 9 = .ok (.iastore, 1) := by decide +kernel
theorem d_Mo_newMachine_10 : decode b_Mo_newMachine 10 = .ok (.aload_n 0, 1) := by decide +kernel
theorem d_Mo_newMachine_11 : decode b_Mo_newMachine 11 = .ok (.getfield 13, 3) := by decide +kernel
theorem d_Mo_newMachine_14 : decode b_Mo_newMachine 14 = .ok (.aload_n 0, 1) := by decide +kernel
theorem d_Mo_newMachine_15 : decode b_Mo_newMachine 15 = .ok (.getfield 57, 3) := by decide +kernel
theorem d_Mo_newMachine_18 : decode b_Mo_newMachine 18 = .ok (.iload_n 2, 1) := by decide +kernel
theorem d_Mo_newMachine_19 : decode b_Mo_newMachine 19 = .ok (.iastore, 1) := by decide +kernel
theorem d_Mo_newMachine_20 : decode b_Mo_newMachine 20 = .ok (.iconst 0, 1) := by decide +kernel
theorem d_Mo_newMachine_21 : decode b_Mo_newMachine 21 = .ok (.istore_n 3, 1) := by decide +kernel
theorem d_Mo_newMachine_22 : decode b_Mo_newMachine 22 = .ok (.iload_n 3, 1) := by decide +kernel
theorem d_Mo_newMachine_23 : decode b_Mo_newMachine 23 = .ok (.bipush (40), 2) := by decide +kernel
theorem d_Mo_newMachine_25 : decode b_Mo_newMachine 25 = .ok (.if_icmp .ge (66), 3) := by decide +kernel
theorem d_Mo_newMachine_28 : decode b_Mo_newMachine 28 = .ok (.iconst 0, 1) := by decide +kernel
theorem d_Mo_newMachine_29 : decode b_Mo_newMachine 29 = .ok (.istore 4, 2) := by decide +kernel
theorem d_Mo_newMachine_31 : decode b_Mo_newMachine 31 = .ok (.iload 4, 2) := by decide +kernel
theorem d_Mo_newMachine_33 : decode b_Mo_newMachine 33 = .ok (.iconst 4, 1) := by decide +kernel
theorem d_Mo_newMachine_34 : decode b_Mo_newMachine 34 = .ok (.if_icmp .ge (51), 3) := by decide +kernel
theorem d_Mo_newMachine_37 : decode b_Mo_newMachine 37 = .ok (.aload_n 0, 1) := by decide +kernel
theorem d_Mo_newMachine_38 : decode b_Mo_newMachine 38 = .ok (.getfield 16, 3) := by decide +kernel
theorem d_Mo_newMachine_41 : decode b_Mo_newMachine 41 = .ok (.sipush (160), 3) := by decide +kernel
theorem d_Mo_newMachine_44 : decode b_Mo_newMachine 44 = .ok (.aload_n 0, 1) := by decide +kernel
theorem d_Mo_newMachine_45 : decode b_Mo_newMachine 45 = .ok (.getfield 57, 3) := by decide +kernel
theorem d_Mo_newMachine_48 : decode b_Mo_newMachine 48 = .ok (.imul, 1) := by decide +kernel
theorem d_Mo_newMachine_49 : decode b_Mo_newMachine 49 = .ok (.iconst 4, 1) := by decide +kernel
theorem d_Mo_newMachine_50 : decode b_Mo_newMachine 50 = .ok (.iload_n 3, 1) := by decide +kernel
theorem d_Mo_newMachine_51 : decode b_Mo_newMachine 51 = .ok (.imul, 1) := by decide +kernel
theorem d_Mo_newMachine_52 : decode b_Mo_newMachine 52 = .ok (.iadd, 1) := by decide +kernel
theorem d_Mo_newMachine_53 : decode b_Mo_newMachine 53 = .ok (.iload 4, 2) := by decide +kernel
theorem d_Mo_newMachine_55 : decode b_Mo_newMachine 55 = .ok (.iadd, 1) := by decide +kernel
theorem d_Mo_newMachine_56 : decode b_Mo_newMachine 56 = .ok (.iload_n 3, 1) := by decide +kernel
theorem d_Mo_newMachine_57 : decode b_Mo_newMachine 57 = .ok (.iastore, 1) := by decide +kernel
theorem d_Mo_newMachine_58 : decode b_Mo_newMachine 58 = .ok (.aload_n 0, 1) := by decide +kernel
theorem d_Mo_newMachine_59 : decode b_Mo_newMachine 59 = .ok (.getfield 19, 3) := by decide +kernel
theorem d_Mo_newMachine_62 : decode b_Mo_newMachine 62 = .ok (.sipush (160), 3) := by decide +kernel
theorem d_Mo_newMachine_65 : decode b_Mo_newMachine 65 = .ok (.aload_n 0, 1) := by decide +kernel
theorem d_Mo_newMachine_66 : decode b_Mo_newMachine 66 = .ok (.getfield 57, 3) := by decide +kernel
theorem d_Mo_newMachine_69 : decode b_Mo_newMachine 69 = .ok (.imul, 1) := by decide +kernel
theorem d_Mo_newMachine_70 : decode b_Mo_newMachine 70 = .ok (.iconst 4, 1) := by decide +kernel
theorem d_Mo_newMachine_71 : decode b_Mo_newMachine 71 = .ok (.iload_n 3, 1) := by decide +kernel
theorem d_Mo_newMachine_72 : decode b_Mo_newMachine 72 = .ok (.imul, 1) := by decide +kernel
theorem d_Mo_newMachine_73 : decode b_Mo_newMachine 73 = .ok (.iadd, 1) := by decide +kernel
theorem d_Mo_newMachine_74 : decode b_Mo_newMachine 74 = .ok (.iload 4, 2) := by decide +kernel
theorem d_Mo_newMachine_76 : decode b_Mo_newMachine 76 = .ok (.iadd, 1) := by decide +kernel
theorem d_Mo_newMachine_77 : decode b_Mo_newMachine 77 = .ok (.iconst 0, 1) := by decide +kernel
theorem d_Mo_newMachine_78 : decode b_Mo_newMachine 78 = .ok (.iastore, 1) := by decide +kernel
theorem d_Mo_newMachine_79 : decode b_Mo_newMachine 79 = .ok (.iinc 4 (1), 3) := by decide +kernel
theorem d_Mo_newMachine_82 : decode b_Mo_newMachine 82 = .ok (.goto (-51), 3) := by decide +kernel
theorem d_Mo_newMachine_85 : decode b_Mo_newMachine 85 = .ok (.iinc 3 (1), 3) := by decide +kernel
theorem d_Mo_newMachine_88 : decode b_Mo_newMachine 88 = .ok (.goto (-66), 3) := by decide +kernel
theorem d_Mo_newMachine_91 : decode b_Mo_newMachine 91 = .ok (.aload_n 0, 1) := by decide +kernel
theorem d_Mo_newMachine_92 : decode b_Mo_newMachine 92 = .ok (.dup, 1) := by decide +kernel
theorem d_Mo_newMachine_93 : decode b_Mo_newMachine 93 = .ok (.getfield 57, 3) := by decide +kernel
theorem d_Mo_newMachine_96 : decode b_Mo_newMachine 96 = .ok (.iconst 1, 1) := by decide +kernel
theorem d_Mo_newMachine_97 : decode b_Mo_newMachine 97 = .ok (.iadd, 1) := by decide +kernel
theorem d_Mo_newMachine_98 : decode b_Mo_newMachine 98 = .ok (.putfield 57, 3) := by decide +kernel
theorem d_Mo_newMachine_101 : decode b_Mo_newMachine 101 = .ok (.aload_n 0, 1) := by decide +kernel
theorem d_Mo_newMachine_102 : decode b_Mo_newMachine 102 = .ok (.getfield 57, 3) := by decide +kernel
theorem d_Mo_newMachine_105 : decode b_Mo_newMachine 105 = .ok (.iconst 1, 1) := by decide +kernel
theorem d_Mo_newMachine_106 : decode b_Mo_newMachine 106 = .ok (.isub, 1) := by decide +kernel
theorem d_Mo_newMachine_107 : decode b_Mo_newMachine 107 = .ok (.ireturn, 1) := by decide +kernel
theorem d_Mo_machine_0 : decode b_Mo_machine 0 = .ok (.aload_n 0, 1) := by decide +kernel
theorem d_Mo_machine_1 : decode b_Mo_machine 1 = .ok (.iconst 0, 1) := by decide +kernel
theorem d_Mo_machine_2 : decode b_Mo_machine 2 = .ok (.putfield 53, 3) := by decide +kernel
theorem d_Mo_machine_5 : decode b_Mo_machine 5 = .ok (.iload_n 1, 1) := by decide +kernel
theorem d_Mo_machine_6 : decode b_Mo_machine 6 = .ok (.iconst 1, 1) := by decide +kernel
theorem d_Mo_machine_7 : decode b_Mo_machine 7 = .ok (.bipush (40), 2) := by decide +kernel
theorem d_Mo_machine_9 : decode b_Mo_machine 9 = .ok (.invokestatic 60, 3) := by decide +kernel
theorem d_Mo_machine_12 : decode b_Mo_machine 12 = .ok (.ifCond .eq (30), 3) := by decide +kernel
theorem d_Mo_machine_15 : decode b_Mo_machine 15 = .ok (.iload_n 2, 1) := by decide +kernel
theorem d_Mo_machine_16 : decode b_Mo_machine 16 = .ok (.iconst 1, 1) := by decide +kernel
theorem d_Mo_machine_17 : decode b_Mo_machine 17 = .ok (.iconst 4, 1) := by decide +kernel
theorem d_Mo_machine_18 : decode b_Mo_machine 18 = .ok (.invokestatic 60, 3) := by decide +kernel
theorem d_Mo_machine_21 : decode b_Mo_machine 21 = .ok (.ifCond .eq (21), 3) := by decide +kernel
theorem d_Mo_machine_24 : decode b_Mo_machine 24 = .ok (.aload_n 0, 1) := by decide +kernel
theorem d_Mo_machine_25 : decode b_Mo_machine 25 = .ok (.getfield 57, 3) := by decide +kernel
theorem d_Mo_machine_28 : decode b_Mo_machine 28 = .ok (.bipush (12), 2) := by decide +kernel
theorem d_Mo_machine_30 : decode b_Mo_machine 30 = .ok (.if_icmp .ge (12), 3) := by decide +kernel
theorem d_Mo_machine_33 : decode b_Mo_machine 33 = .ok (.aload_n 0, 1) := by decide +kernel
theorem d_Mo_machine_34 : decode b_Mo_machine 34 = .ok (.iload_n 1, 1) := by decide +kernel
theorem d_Mo_machine_35 : decode b_Mo_machine 35 = .ok (.iload_n 2, 1) := by decide +kernel
theorem d_Mo_machine_36 : decode b_Mo_machine 36 = .ok (.invokevirtual 68, 3) := by decide +kernel
theorem d_Mo_machine_39 : decode b_Mo_machine 39 = .ok (.goto (4), 3) := by decide +kernel
theorem d_Mo_machine_42 : decode b_Mo_machine 42 = .ok (.iconst (-1), 1) := by decide +kernel
theorem d_Mo_machine_43 : decode b_Mo_machine 43 = .ok (.ireturn, 1) := by decide +kernel
theorem d_Mo_arrow_0 : decode b_Mo_arrow 0 = .ok (.aload_n 0, 1) := by decide +kernel
theorem d_Mo_arrow_1 : decode b_Mo_arrow 1 = .ok (.iconst 0, 1) := by decide +kernel
theorem d_Mo_arrow_2 : decode b_Mo_arrow 2 = .ok (.putfield 53, 3) := by decide +kernel
theorem d_Mo_arrow_5 : decode b_Mo_arrow 5 = .ok (.aload_n 0, 1) := by decide +kernel
theorem d_Mo_arrow_6 : decode b_Mo_arrow 6 = .ok (.iload_n 1, 1) := by decide +kernel
theorem d_Mo_arrow_7 : decode b_Mo_arrow 7 = .ok (.iload_n 2, 1) := by decide +kernel
theorem d_Mo_arrow_8 : decode b_Mo_arrow 8 = .ok (.invokevirtual 72, 3) := by decide +kernel
theorem d_Mo_arrow_11 : decode b_Mo_arrow 11 = .ok (.ifCond .eq (47), 3) := by decide +kernel
