theorem d_Ma_init_0 : decode b_Ma_init 0 = .ok (.aload_n 0, 1) := by decide +kernel
theorem d_Ma_init_1 : decode b_Ma_init 1 = .ok (.invokespecial 3, 3) := by decide +kernel
theorem d_Ma_init_4 : decode b_Ma_init 4 = .ok (.aload_n 0, 1) := by decide +kernel
theorem d_Ma_init_5 : decode b_Ma_init 5 = .ok (.sipush (160), 3) := by decide +kernel
theorem d_Ma_init_8 : decode b_Ma_init 8 = .ok (.newarray .int, 2) := by decide +kernel
theorem d_Ma_init_10 : decode b_Ma_init 10 = .ok (.putfield 9, 3) := by decide +kernel
theorem d_Ma_init_13 : decode b_Ma_init 13 = .ok (.aload_n 0, 1) := by decide +kernel
theorem d_Ma_init_14 : decode b_Ma_init 14 = .ok (.sipush (160), 3) := by decide +kernel
theorem d_Ma_init_17 : decode b_Ma_init 17 = .ok (.newarray .int, 2) := by decide +kernel
theorem d_Ma_init_19 : decode b_Ma_init 19 = .ok (.putfield 15, 3) := by decide +kernel
theorem d_Ma_init_22 : decode b_Ma_init 22 = .ok (.aload_n 0, 1) := by decide +kernel
theorem d_Ma_init_23 : decode b_Ma_init 23 = .ok (.bipush (40), 2) := by decide +kernel
theorem d_Ma_init_25 : decode b_Ma_init 25 = .ok (.newarray .int, 2) := by decide +kernel
theorem d_Ma_init_27 : decode b_Ma_init 27 = .ok (.putfield 18, 3) := by decide +kernel
theorem d_Ma_init_30 : decode b_Ma_init 30 = .ok (.aload_n 0, 1) := by decide +kernel
theorem d_Ma_init_31 : decode b_Ma_init 31 = .ok (.bipush (40), 2) := by decide +kernel
theorem d_Ma_init_33 : decode b_Ma_init 33 = .ok (.newarray .int, 2) := by decide +kernel
theorem d_Ma_init_35 : decode b_Ma_init 35 = .ok (.putfield 21, 3) := by decide +kernel
theorem d_Ma_init_38 : decode b_Ma_init 38 = .ok (.return_, 1) := by decide +kernel
theorem d_Ma_begin_0 : decode b_Ma_begin 0 = .ok (.aload_n 0, 1) := by decide +kernel
theorem d_Ma_begin_1 : decode b_Ma_begin 1 = .ok (.iload_n 1, 1) := by decide +kernel
theorem d_Ma_begin_2 : decode b_Ma_begin 2 = .ok (.putfield 24, 3) := by decide +kernel
theorem d_Ma_begin_5 : decode b_Ma_begin 5 = .ok (.aload_n 0, 1) := by decide +kernel
theorem d_Ma_begin_6 : decode b_Ma_begin 6 = .ok (.iload_n 2, 1) := by decide +kernel
theorem d_Ma_begin_7 : decode b_Ma_begin 7 = .ok (.putfield 28, 3) := by decide +kernel
theorem d_Ma_begin_10 : decode b_Ma_begin 10 = .ok (.iconst 0, 1) := by decide +kernel
theorem d_Ma_begin_11 : decode b_Ma_begin 11 = .ok (.istore_n 3, 1) := by decide +kernel
theorem d_Ma_begin_12 : decode b_Ma_begin 12 = .ok (.iload_n 3, 1) := by decide +kernel
theorem d_Ma_begin_13 : decode b_Ma_begin 13 = .ok (.aload_n 0, 1) := by decide +kernel
theorem d_Ma_begin_14 : decode b_Ma_begin 14 = .ok (.getfield 24, 3) := by decide +kernel
theorem d_Ma_begin_17 : decode b_Ma_begin 17 = .ok (.if_icmp .ge (36), 3) := by decide +kernel
theorem d_Ma_begin_20 : decode b_Ma_begin 20 = .ok (.iconst 0, 1) := by decide +kernel
theorem d_Ma_begin_21 : decode b_Ma_begin 21 = .ok (.istore 4, 2) := by decide +kernel
theorem d_Ma_begin_23 : decode b_Ma_begin 23 = .ok (.iload 4, 2) := by decide +kernel
theorem d_Ma_begin_25 : decode b_Ma_begin 25 = .ok (.aload_n 0, 1) := by decide +kernel
theorem d_Ma_begin_26 : decode b_Ma_begin 26 = .ok (.getfield 28, 3) := by decide +kernel
theorem d_Ma_begin_29 : decode b_Ma_begin 29 = .ok (.if_icmp .ge (18), 3) := by decide +kernel
theorem d_Ma_begin_32 : decode b_Ma_begin 32 = .ok (.aload_n 0, 1) := by decide +kernel
theorem d_Ma_begin_33 : decode b_Ma_begin 33 = .ok (.iload_n 3, 1) := by decide +kernel
theorem d_Ma_begin_34 : decode b_Ma_begin 34 = .ok (.iload 4, 2) := by decide +kernel
theorem d_Ma_begin_36 : decode b_Ma_begin 36 = .ok (.iload_n 3, 1) := by decide +kernel
theorem d_Ma_begin_37 : decode b_Ma_begin 37 = .ok (.iconst 0, 1) := by decide +kernel
theorem d_Ma_begin_38 : decode b_Ma_begin 38 = .ok (.invokevirtual 31, 3) := by decide +kernel
theorem d_Ma_begin_41 : decode b_Ma_begin 41 = .ok (.iinc 4 (1), 3) := by decide +kernel
theorem d_Ma_begin_44 : decode b_Ma_begin 44 = .ok (.goto (-21), 3) := by decide +kernel
theorem d_Ma_begin_47 : decode b_Ma_begin 47 = .ok (.iinc 3 (1), 3) := by decide +kernel
theorem d_Ma_begin_50 : decode b_Ma_begin 50 = .ok (.goto (-38), 3) := by decide +kernel
theorem d_Ma_begin_53 : decode b_Ma_begin 53 = .ok (.return_, 1) := by decide +kernel
theorem d_Ma_hasState_0 : decode b_Ma_hasState 0 = .ok (.iload_n 1, 1) := by decide +kernel
theorem d_Ma_hasState_1 : decode b_Ma_hasState 1 = .ok (.ifCond .lt (15), 3) := by decide +kernel
theorem d_Ma_hasState_4 : decode b_Ma_hasState 4 = .ok (.iload_n 1, 1) := by decide +kernel
theorem d_Ma_hasState_5 : decode b_Ma_hasState 5 = .ok (.aload_n 0, 1) := by decide +kernel
theorem d_Ma_hasState_6 : decode b_Ma_hasState 6 = .ok (.getfield 24, 3) := by decide +kernel
theorem d_Ma_hasState_9 : decode b_Ma_hasState 9 = .ok (.if_icmp .ge (7), 3) := by decide +kernel
theorem d_Ma_hasState_12 : decode b_Ma_hasState 12 = .ok (.iconst 1, 1) := by decide +kernel
theorem d_Ma_hasState_13 : decode b_Ma_hasState 13 = .ok (.goto (4), 3) := by decide +kernel
theorem d_Ma_hasState_16 : decode b_Ma_hasState 16 = .ok (.iconst 0, 1) := by decide +kernel
theorem d_Ma_hasState_17 : decode b_Ma_hasState 17 = .ok (.ireturn, 1) := by decide +kernel
theorem d_Ma_hasInput_0 : decode b_Ma_hasInput 0 = .ok (.iload_n 1, 1) := by decide +kernel
theorem d_Ma_hasInput_1 : decode b_Ma_hasInput 1 = .ok (.ifCond .lt (15), 3) := by decide +kernel
theorem d_Ma_hasInput_4 : decode b_Ma_hasInput 4 = .ok (.iload_n 1, 1) := by decide +kernel
theorem d_Ma_hasInput_5 : decode b_Ma_hasInput 5 = .ok (.aload_n 0, 1) := by decide +kernel
theorem d_Ma_hasInput_6 : decode b_Ma_hasInput 6 = .ok (.getfield 28, 3) := by decide +kernel
theorem d_Ma_hasInput_9 : decode b_Ma_hasInput 9 = .ok (.if_icmp .ge (7), 3) := by decide +kernel
theorem d_Ma_hasInput_12 : decode b_Ma_hasInput 12 = .ok (.iconst 1, 1) := by decide +kernel
theorem d_Ma_hasInput_13 : decode b_Ma_hasInput 13 = .ok (.goto (4), 3) := by decide +kernel
theorem d_Ma_hasInput_16 : decode b_Ma_hasInput 16 = .ok (.iconst 0, 1) := by decide +kernel
theorem d_Ma_hasInput_17 : decode b_Ma_hasInput 17 = .ok (.ireturn, 1) := by decide +kernel
theorem d_Ma_nextOf_0 : decode b_Ma_nextOf 0 = .ok (.aload_n 0, 1) := by decide +kernel
theorem d_Ma_nextOf_1 : decode b_Ma_nextOf 1 = .ok (.getfield 9, 3) := by decide +kernel
theorem d_Ma_nextOf_4 : decode b_Ma_nextOf 4 = .ok (.iload_n 1, 1) := by decide +kernel
theorem d_Ma_nextOf_5 : decode b_Ma_nextOf 5 = .ok (.iconst 4, 1) := by decide +kernel
theorem d_Ma_nextOf_6 : decode b_Ma_nextOf 6 = .ok (.imul, 1) := by decide +kernel
theorem d_Ma_nextOf_7 : decode b_Ma_nextOf 7 = .ok (.iload_n 2, 1) := by decide +kernel
theorem d_Ma_nextOf_8 : decode b_Ma_nextOf 8 = .ok (.iadd, 1) := by decide +kernel
theorem d_Ma_nextOf_9 : decode b_Ma_nextOf 9 = .ok (.iaload, 1) := by decide +kernel
theorem d_Ma_nextOf_10 : decode b_Ma_nextOf 10 = .ok (.ireturn, 1) := by decide +kernel
theorem d_Ma_outputOf_0 : decode b_Ma_outputOf 0 = .ok (.aload_n 0, 1) := by decide +kernel
theorem d_Ma_outputOf_1 : decode b_Ma_outputOf 1 = .ok (.getfield 15, 3) := by decide +kernel
theorem d_Ma_outputOf_4 : decode b_Ma_outputOf 4 = .ok (.iload_n 1, 1) := by decide +kernel
theorem d_Ma_outputOf_5 : decode b_Ma_outputOf 5 = .ok (.iconst 4, 1) := by decide +kernel
theorem d_Ma_outputOf_6 : decode b_Ma_outputOf 6 = .ok (.imul, 1) := by decide +kernel
theorem d_Ma_outputOf_7 : decode b_Ma_outputOf 7 = .ok (.iload_n 2, 1) := by decide +kernel
theorem d_Ma_outputOf_8 : decode b_Ma_outputOf 8 = .ok (.iadd, 1) := by decide +kernel
theorem d_Ma_outputOf_9 : decode b_Ma_outputOf 9 = .ok (.iaload, 1) := by decide +kernel
theorem d_Ma_outputOf_10 : decode b_Ma_outputOf 10 = .ok (.ireturn, 1) := by decide +kernel
theorem d_Ma_setArrow_0 : decode b_Ma_setArrow 0 = .ok (.aload_n 0, 1) := by decide +kernel
theorem d_Ma_setArrow_1 : decode b_Ma_setArrow 1 = .ok (.getfield 9, 3) := by decide +kernel
theorem d_Ma_setArrow_4 : decode b_Ma_setArrow 4 = .ok (.iload_n 1, 1) := by decide +kernel
theorem d_Ma_setArrow_5 : decode b_Ma_setArrow 5 = .ok (.iconst 4, 1) := by decide +kernel
theorem d_Ma_setArrow_6 : decode b_Ma_setArrow 6 = .ok (.imul, 1) := by decide +kernel
theorem d_Ma_setArrow_7 : decode b_Ma_setArrow 7 = .ok (.iload_n 2, 1) := by decide +kernel
theorem d_Ma_setArrow_8 : decode b_Ma_setArrow 8 = .ok (.iadd, 1) := by decide +kernel
theorem d_Ma_setArrow_9 : decode b_Ma_setArrow 9 = .ok (.iload_n 3, 1) := by decide +kernel
theorem d_Ma_setArrow_10 : decode b_Ma_setArrow 10 = .ok (.iastore, 1) := by decide +kernel
theorem d_Ma_setArrow_11 : decode b_Ma_setArrow 11 = .ok (.aload_n 0, 1) := by decide +kernel
theorem d_Ma_setArrow_12 : decode b_Ma_setArrow 12 = .ok (.getfield 15, 3) := by decide +kernel
theorem d_Ma_setArrow_15 : decode b_Ma_setArrow 15 = .ok (.iload_n 1, 1) := by decide +kernel
theorem d_Ma_setArrow_16 : decode b_Ma_setArrow 16 = .ok (.iconst 4, 1) := by decide +kernel
theorem d_Ma_setArrow_17 : decode b_Ma_setArrow 17 = .ok (.imul, 1) := by decide +kernel
theorem d_Ma_setArrow_18 : decode b_Ma_setArrow 18 = .ok (.iload_n 2, 1) := by decide +kernel
theorem d_Ma_setArrow_19 : decode b_Ma_setArrow 19 = .ok (.iadd, 1) := by decide +kernel
theorem d_Ma_setArrow_20 : decode b_Ma_setArrow 20 = .ok (.iload 4, 2) := by decide +kernel
theorem d_Ma_setArrow_22 : decode b_Ma_setArrow 22 = .ok (.iastore, 1) := by decide +kernel
theorem d_Ma_setArrow_23 : decode b_Ma_setArrow 23 = .ok (.aload_n 0, 1) := by decide +kernel
theorem d_Ma_setArrow_24 : decode b_Ma_setArrow 24 = .ok (.iconst 0, 1) := by decide +kernel
theorem d_Ma_setArrow_25 : decode b_Ma_setArrow 25 = .ok (.putfield 35, 3) := by decide +kernel
theorem d_Ma_setArrow_28 : decode b_Ma_setArrow 28 = .ok (.return_, 1) := by decide +kernel
theorem d_Ma_reachedFrom_0 : decode b_Ma_reachedFrom 0 = .ok (.iconst 0, 1) := by decide +kernel
theorem d_Ma_reachedFrom_1 : decode b_Ma_reachedFrom 1 = .ok (.istore_n 3, 1) := by decide +kernel
theorem d_Ma_reachedFrom_2 : decode b_Ma_reachedFrom 2 = .ok (.iconst 0, 1) := by decide +kernel
theorem d_Ma_reachedFrom_3 : decode b_Ma_reachedFrom 3 = .ok (.istore 4, 2) := by decide +kernel
theorem d_Ma_reachedFrom_5 : decode b_Ma_reachedFrom 5 = .ok (.iload 4, 2) := by decide +kernel
theorem d_Ma_reachedFrom_7 : decode b_Ma_reachedFrom 7 = .ok (.aload_n 0, 1) := by decide +kernel
theorem d_Ma_reachedFrom_8 : decode b_Ma_reachedFrom 8 = .ok (.getfield 24, 3) := by decide +kernel
theorem d_Ma_reachedFrom_11 : decode b_Ma_reachedFrom 11 = .ok (.if_icmp .ge (30), 3) := by decide +kernel
theorem d_Ma_reachedFrom_14 : decode b_Ma_reachedFrom 14 = .ok (.iload_n 1, 1) := by decide +kernel
theorem d_Ma_reachedFrom_15 : decode b_Ma_reachedFrom 15 = .ok (.iload 4, 2) := by decide +kernel
theorem d_Ma_reachedFrom_17 : decode b_Ma_reachedFrom 17 = .ok (.ishr, 1) := by decide +kernel
theorem d_Ma_reachedFrom_18 : decode b_Ma_reachedFrom 18 = .ok (.iconst 1, 1) := by decide +kernel
theorem d_Ma_reachedFrom_19 : decode b_Ma_reachedFrom 19 = .ok (.iand, 1) := by decide +kernel
theorem d_Ma_reachedFrom_20 : decode b_Ma_reachedFrom 20 = .ok (.ifCond .eq (15), 3) := by decide +kernel
theorem d_Ma_reachedFrom_23 : decode b_Ma_reachedFrom 23 = .ok (.iload_n 3, 1) := by decide +kernel
theorem d_Ma_reachedFrom_24 : decode b_Ma_reachedFrom 24 = .ok (.iconst 1, 1) := by decide +kernel
theorem d_Ma_reachedFrom_25 : decode b_Ma_reachedFrom 25 = .ok (.aload_n 0, 1) := by decide +kernel
theorem d_Ma_reachedFrom_26 : decode b_Ma_reachedFrom 26 = .ok (.iload 4, 2) := by decide +kernel
theorem d_Ma_reachedFrom_28 : decode b_Ma_reachedFrom 28 = .ok (.iload_n 2, 1) := by decide +kernel
theorem d_Ma_reachedFrom_29 : decode b_Ma_reachedFrom 29 = .ok (.invokevirtual 39, 3) := by decide +kernel
theorem d_Ma_reachedFrom_32 : decode b_Ma_reachedFrom 32 = .ok (.ishl, 1) := by decide +kernel
theorem d_Ma_reachedFrom_33 : decode b_Ma_reachedFrom 33 = .ok (.ior, 1) := by decide +kernel
theorem d_Ma_reachedFrom_34 : decode b_Ma_reachedFrom 34 = .ok (.istore_n 3, 1) := by decide +kernel
theorem d_Ma_reachedFrom_35 : decode b_Ma_reachedFrom 35 = .ok (.iinc 4 (1), 3) := by decide +kernel
theorem d_Ma_reachedFrom_38 : decode b_Ma_reachedFrom 38 = .ok (.goto (-33), 3) := by decide +kernel
theorem d_Ma_reachedFrom_41 : decode b_Ma_reachedFrom 41 = .ok (.iload_n 3, 1) := by decide +kernel
theorem d_Ma_reachedFrom_42 : decode b_Ma_reachedFrom 42 = .ok (.ireturn, 1) := by decide +kernel
theorem d_Ma_leastLike_0 : decode b_Ma_leastLike 0 = .ok (.aload_n 0, 1) := by decide +kernel
theorem d_Ma_leastLike_1 : decode b_Ma_leastLike 1 = .ok (.getfield 18, 3) := by decide +kernel
theorem d_Ma_leastLike_4 : decode b_Ma_leastLike 4 = .ok (.iload_n 1, 1) := by decide +kernel
theorem d_Ma_leastLike_5 : decode b_Ma_leastLike 5 = .ok (.iaload, 1) := by decide +kernel
theorem d_Ma_leastLike_6 : decode b_Ma_leastLike 6 = .ok (.ireturn, 1) := by decide +kernel
theorem d_Ma_countSets_0 : decode b_Ma_countSets 0 = .ok (.iconst 0, 1) := by decide +kernel
theorem d_Ma_countSets_1 : decode b_Ma_countSets 1 = .ok (.istore_n 1, 1) := by decide +kernel
theorem d_Ma_countSets_2 : decode b_Ma_countSets 2 = .ok (.iconst 0, 1) := by decide +kernel
theorem d_Ma_countSets_3 : decode b_Ma_countSets 3 = .ok (.istore_n 2, 1) := by decide +kernel
theorem d_Ma_countSets_4 : decode b_Ma_countSets 4 = .ok (.iload_n 2, 1) := by decide +kernel
theorem d_Ma_countSets_5 : decode b_Ma_countSets 5 = .ok (.aload_n 0, 1) := by decide +kernel
theorem d_Ma_countSets_6 : decode b_Ma_countSets 6 = .ok (.getfield 24, 3) := by decide +kernel
theorem d_Ma_countSets_9 : decode b_Ma_countSets 9 = .ok (.if_icmp .ge (22), 3) := by decide +kernel
theorem d_Ma_countSets_12 : decode b_Ma_countSets 12 = .ok (.aload_n 0, 1) := by decide +kernel
theorem d_Ma_countSets_13 : decode b_Ma_countSets 13 = .ok (.getfield 18, 3) := by decide +kernel
theorem d_Ma_countSets_16 : decode b_Ma_countSets 16 = .ok (.iload_n 2, 1) := by decide +kernel
theorem d_Ma_countSets_17 : decode b_Ma_countSets 17 = .ok (.iaload, 1) := by decide +kernel
theorem d_Ma_countSets_18 : decode b_Ma_countSets 18 = .ok (.iload_n 2, 1) := by decide +kernel
theorem d_Ma_countSets_19 : decode b_Ma_countSets 19 = .ok (.if_icmp .ne (6), 3) := by decide +kernel
theorem d_Ma_countSets_22 : decode b_Ma_countSets 22 = .ok (.iinc 1 (1), 3) := by decide +kernel
theorem d_Ma_countSets_25 : decode b_Ma_countSets 25 = .ok (.iinc 2 (1), 3) := by decide +kernel
theorem d_Ma_countSets_28 : decode b_Ma_countSets 28 = .ok (.goto (-24), 3) := by decide +kernel
theorem d_Ma_countSets_31 : decode b_Ma_countSets 31 = .ok (.iload_n 1, 1) := by decide +kernel
theorem d_Ma_countSets_32 : decode b_Ma_countSets 32 = .ok (.ireturn, 1) := by decide +kernel
theorem d_Ma_settle_0 : decode b_Ma_settle 0 = .ok (.aload_n 0, 1) := by decide +kernel
theorem d_Ma_settle_1 : decode b_Ma_settle 1 = .ok (.getfield 35, 3) := by decide +kernel
theorem d_Ma_settle_4 : decode b_Ma_settle 4 = .ok (.ifCond .eq (4), 3) := by decide +kernel
theorem d_Ma_settle_7 : decode b_Ma_settle 7 = .ok (.return_, 1) := by decide +kernel
theorem d_Ma_settle_8 : decode b_Ma_settle 8 = .ok (.aload_n 0, 1) := by decide +kernel
theorem d_Ma_settle_9 : decode b_Ma_settle 9 = .ok (.getfield 18, 3) := by decide +kernel
theorem d_Ma_settle_12 : decode b_Ma_settle 12 = .ok (.iconst 0, 1) := by decide +kernel
theorem d_Ma_settle_13 : decode b_Ma_settle 13 = .ok (.aload_n 0, 1) := by decide +kernel
theorem d_Ma_settle_14 : decode b_Ma_settle 14 = .ok (.getfield 24, 3) := by decide +kernel
theorem d_Ma_settle_17 : decode b_Ma_settle 17 = .ok (.iconst 0, 1) := by decide +kernel
theorem d_Ma_settle_18 : decode b_Ma_settle 18 = .ok (.invokestatic 43, 3) := by decide +kernel
theorem d_Ma_settle_21 : decode b_Ma_settle 21 = .ok (.iconst 1, 1) := by decide +kernel
theorem d_Ma_settle_22 : decode b_Ma_settle 22 = .ok (.istore_n 1, 1) := by decide +kernel
theorem d_Ma_settle_23 : decode b_Ma_settle 23 = .ok (.iconst 0, 1) := by decide +kernel
theorem d_Ma_settle_24 : decode b_Ma_settle 24 = .ok (.istore_n 2, 1) := by decide +kernel
theorem d_Ma_settle_25 : decode b_Ma_settle 25 = .ok (.iload_n 2, 1) := by decide +kernel
theorem d_Ma_settle_26 : decode b_Ma_settle 26 = .ok (.aload_n 0, 1) := by decide +kernel
theorem d_Ma_settle_27 : decode b_Ma_settle 27 = .ok (.getfield 24, 3) := by decide +kernel
theorem d_Ma_settle_30 : decode b_Ma_settle 30 = .ok (.if_icmp .ge (18), 3) := by decide +kernel
theorem d_Ma_settle_33 : decode b_Ma_settle 33 = .ok (.iload_n 1, 1) := by decide +kernel
theorem d_Ma_settle_34 : decode b_Ma_settle 34 = .ok (.ifCond .eq (14), 3) := by decide +kernel
theorem d_Ma_settle_37 : decode b_Ma_settle 37 = .ok (.aload_n 0, 1) := by decide +kernel
theorem d_Ma_settle_38 : decode b_Ma_settle 38 = .ok (.invokevirtual 49, 3) := by decide +kernel
theorem d_Ma_settle_41 : decode b_Ma_settle 41 = .ok (.istore_n 1, 1) := by decide +kernel
theorem d_Ma_settle_42 : decode b_Ma_settle 42 = .ok (.iinc 2 (1), 3) := by decide +kernel
theorem d_Ma_settle_45 : decode b_Ma_settle 45 = .ok (.goto (-20), 3) := by decide +kernel
theorem d_Ma_settle_48 : decode b_Ma_settle 48 = .ok (.aload_n 0, 1) := by decide +kernel
theorem d_Ma_settle_49 : decode b_Ma_settle 49 = .ok (.iconst 1, 1) := by decide +kernel
theorem d_Ma_settle_50 : decode b_Ma_settle 50 = .ok (.putfield 35, 3) := by decide +kernel
theorem d_Ma_settle_53 : decode b_Ma_settle 53 = .ok (.return_, 1) := by decide +kernel
theorem d_Ma_splitSets_0 : decode b_Ma_splitSets 0 = .ok (.iconst 0, 1) := by decide +kernel
theorem d_Ma_splitSets_1 : decode b_Ma_splitSets 1 = .ok (.istore_n 1, 1) := by decide +kernel
theorem d_Ma_splitSets_2 : decode b_Ma_splitSets 2 = .ok (.iconst 0, 1) := by decide +kernel
theorem d_Ma_splitSets_3 : decode b_Ma_splitSets 3 = .ok (.istore_n 2, 1) := by decide +kernel
theorem d_Ma_splitSets_4 : decode b_Ma_splitSets 4 = .ok (.iload_n 2, 1) := by decide +kernel
theorem d_Ma_splitSets_5 : decode b_Ma_splitSets 5 = .ok (.aload_n 0, 1) := by decide +kernel
theorem d_Ma_splitSets_6 : decode b_Ma_splitSets 6 = .ok (.getfield 24, 3) := by decide +kernel
theorem d_Ma_splitSets_9 : decode b_Ma_splitSets 9 = .ok (.if_icmp .ge (43), 3) := by decide +kernel
theorem d_Ma_splitSets_12 : decode b_Ma_splitSets 12 = .ok (.aload_n 0, 1) := by decide +kernel
theorem d_Ma_splitSets_13 : decode b_Ma_splitSets 13 = .ok (.getfield 21, 3) := by decide +kernel
theorem d_Ma_splitSets_16 : decode b_Ma_splitSets 16 = .ok (.iload_n 2, 1) := by decide +kernel
