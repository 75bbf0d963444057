theorem d_Se_init_0 : decode b_Se_init 0 = .ok (.aload_n 0, 1) := by decide +kernel
theorem d_Se_init_1 : decode b_Se_init 1 = .ok (.invokespecial 3, 3) := by decide +kernel
theorem d_Se_init_4 : decode b_Se_init 4 = .ok (.aload_n 0, 1) := by decide +kernel
theorem d_Se_init_5 : decode b_Se_init 5 = .ok (.sipush (4096), 3) := by decide +kernel
theorem d_Se_init_8 : decode b_Se_init 8 = .ok (.newarray .int, 2) := by decide +kernel
theorem d_Se_init_10 : decode b_Se_init 10 = .ok (.putfield 9, 3) := by decide +kernel
theorem d_Se_init_13 : decode b_Se_init 13 = .ok (.aload_n 0, 1) := by decide +kernel
theorem d_Se_init_14 : decode b_Se_init 14 = .ok (.sipush (4096), 3) := by decide +kernel
theorem d_Se_init_17 : decode b_Se_init 17 = .ok (.newarray .int, 2) := by decide +kernel
theorem d_Se_init_19 : decode b_Se_init 19 = .ok (.putfield 15, 3) := by decide +kernel
theorem d_Se_init_22 : decode b_Se_init 22 = .ok (.aload_n 0, 1) := by decide +kernel
theorem d_Se_init_23 : decode b_Se_init 23 = .ok (.sipush (4096), 3) := by decide +kernel
theorem d_Se_init_26 : decode b_Se_init 26 = .ok (.newarray .int, 2) := by decide +kernel
theorem d_Se_init_28 : decode b_Se_init 28 = .ok (.putfield 18, 3) := by decide +kernel
theorem d_Se_init_31 : decode b_Se_init 31 = .ok (.return_, 1) := by decide +kernel
theorem d_Se_begin_0 : decode b_Se_begin 0 = .ok (.aload_n 0, 1) := by decide +kernel
theorem d_Se_begin_1 : decode b_Se_begin 1 = .ok (.getfield 9, 3) := by decide +kernel
theorem d_Se_begin_4 : decode b_Se_begin 4 = .ok (.iconst 0, 1) := by decide +kernel
theorem d_Se_begin_5 : decode b_Se_begin 5 = .ok (.iload_n 1, 1) := by decide +kernel
theorem d_Se_begin_6 : decode b_Se_begin 6 = .ok (.iconst (-1), 1) := by decide +kernel
theorem d_Se_begin_7 : decode b_Se_begin 7 = .ok (.invokestatic 21, 3) := by decide +kernel
theorem d_Se_begin_10 : decode b_Se_begin 10 = .ok (.aload_n 0, 1) := by decide +kernel
theorem d_Se_begin_11 : decode b_Se_begin 11 = .ok (.iconst 0, 1) := by decide +kernel
theorem d_Se_begin_12 : decode b_Se_begin 12 = .ok (.putfield 27, 3) := by decide +kernel
theorem d_Se_begin_15 : decode b_Se_begin 15 = .ok (.return_, 1) := by decide +kernel
theorem d_Se_reach_0 : decode b_Se_reach 0 = .ok (.aload_n 0, 1) := by decide +kernel
theorem d_Se_reach_1 : decode b_Se_reach 1 = .ok (.getfield 9, 3) := by decide +kernel
theorem d_Se_reach_4 : decode b_Se_reach 4 = .ok (.iload_n 1, 1) := by decide +kernel
theorem d_Se_reach_5 : decode b_Se_reach 5 = .ok (.iaload, 1) := by decide +kernel
theorem d_Se_reach_6 : decode b_Se_reach 6 = .ok (.iconst (-1), 1) := by decide +kernel
theorem d_Se_reach_7 : decode b_Se_reach 7 = .ok (.if_icmp .ne (25), 3) := by decide +kernel
theorem d_Se_reach_10 : decode b_Se_reach 10 = .ok (.aload_n 0, 1) := by decide +kernel
theorem d_Se_reach_11 : decode b_Se_reach 11 = .ok (.getfield 15, 3) := by decide +kernel
theorem d_Se_reach_14 : decode b_Se_reach 14 = .ok (.aload_n 0, 1) := by decide +kernel
theorem d_Se_reach_15 : decode b_Se_reach 15 = .ok (.getfield 27, 3) := by decide +kernel
theorem d_Se_reach_18 : decode b_Se_reach 18 = .ok (.iload_n 1, 1) := by decide +kernel
theorem d_Se_reach_19 : decode b_Se_reach 19 = .ok (.iastore, 1) := by decide +kernel
theorem d_Se_reach_20 : decode b_Se_reach 20 = .ok (.aload_n 0, 1) := by decide +kernel
theorem d_Se_reach_21 : decode b_Se_reach 21 = .ok (.getfield 9, 3) := by decide +kernel
theorem d_Se_reach_24 : decode b_Se_reach 24 = .ok (.iload_n 1, 1) := by decide +kernel
theorem d_Se_reach_25 : decode b_Se_reach 25 = .ok (.aload_n 0, 1) := by decide +kernel
theorem d_Se_reach_26 : decode b_Se_reach 26 = .ok (.iload_n 2, 1) := by decide +kernel
theorem d_Se_reach_27 : decode b_Se_reach 27 = .ok (.iload_n 3, 1) := by decide +kernel
theorem d_Se_reach_28 : decode b_Se_reach 28 = .ok (.invokevirtual 31, 3) := by decide +kernel
theorem d_Se_reach_31 : decode b_Se_reach 31 = .ok (.iastore, 1) := by decide +kernel
theorem d_Se_reach_32 : decode b_Se_reach 32 = .ok (.return_, 1) := by decide +kernel
theorem d_Se_note_0 : decode b_Se_note 0 = .ok (.aload_n 0, 1) := by decide +kernel
theorem d_Se_note_1 : decode b_Se_note 1 = .ok (.getfield 18, 3) := by decide +kernel
theorem d_Se_note_4 : decode b_Se_note 4 = .ok (.aload_n 0, 1) := by decide +kernel
theorem d_Se_note_5 : decode b_Se_note 5 = .ok (.getfield 27, 3) := by decide +kernel
theorem d_Se_note_8 : decode b_Se_note 8 = .ok (.iload_n 1, 1) := by decide +kernel
theorem d_Se_note_9 : decode b_Se_note 9 = .ok (.iconst 4, 1) := by decide +kernel
theorem d_Se_note_10 : decode b_Se_note 10 = .ok (.imul, 1) := by decide +kernel
theorem d_Se_note_11 : decode b_Se_note 11 = .ok (.iload_n 2, 1) := by decide +kernel
theorem d_Se_note_12 : decode b_Se_note 12 = .ok (.iadd, 1) := by decide +kernel
theorem d_Se_note_13 : decode b_Se_note 13 = .ok (.iastore, 1) := by decide +kernel
theorem d_Se_note_14 : decode b_Se_note 14 = .ok (.aload_n 0, 1) := by decide +kernel
theorem d_Se_note_15 : decode b_Se_note 15 = .ok (.dup, 1) := by decide +kernel
theorem d_Se_note_16 : decode b_Se_note 16 = .ok (.getfield 27, 3) := by decide +kernel
theorem d_Se_note_19 : decode b_Se_note 19 = .ok (.iconst 1, 1) := by decide +kernel
theorem d_Se_note_20 : decode b_Se_note 20 = .ok (.iadd, 1) := by decide +kernel
theorem d_Se_note_21 : decode b_Se_note 21 = .ok (.putfield 27, 3) := by decide +kernel
theorem d_Se_note_24 : decode b_Se_note 24 = .ok (.aload_n 0, 1) := by decide +kernel
theorem d_Se_note_25 : decode b_Se_note 25 = .ok (.getfield 27, 3) := by decide +kernel
theorem d_Se_note_28 : decode b_Se_note 28 = .ok (.iconst 1, 1) := by decide +kernel
theorem d_Se_note_29 : decode b_Se_note 29 = .ok (.isub, 1) := by decide +kernel
theorem d_Se_note_30 : decode b_Se_note 30 = .ok (.ireturn, 1) := by decide +kernel
theorem d_Se_placeAt_0 : decode b_Se_placeAt 0 = .ok (.aload_n 0, 1) := by decide +kernel
theorem d_Se_placeAt_1 : decode b_Se_placeAt 1 = .ok (.getfield 15, 3) := by decide +kernel
theorem d_Se_placeAt_4 : decode b_Se_placeAt 4 = .ok (.iload_n 1, 1) := by decide +kernel
theorem d_Se_placeAt_5 : decode b_Se_placeAt 5 = .ok (.iaload, 1) := by decide +kernel
theorem d_Se_placeAt_6 : decode b_Se_placeAt 6 = .ok (.ireturn, 1) := by decide +kernel
theorem d_Se_numberOf_0 : decode b_Se_numberOf 0 = .ok (.aload_n 0, 1) := by decide +kernel
theorem d_Se_numberOf_1 : decode b_Se_numberOf 1 = .ok (.getfield 9, 3) := by decide +kernel
theorem d_Se_numberOf_4 : decode b_Se_numberOf 4 = .ok (.iload_n 1, 1) := by decide +kernel
theorem d_Se_numberOf_5 : decode b_Se_numberOf 5 = .ok (.iaload, 1) := by decide +kernel
theorem d_Se_numberOf_6 : decode b_Se_numberOf 6 = .ok (.ireturn, 1) := by decide +kernel
theorem d_Se_wordTo_0 : decode b_Se_wordTo 0 = .ok (.iconst 0, 1) := by decide +kernel
theorem d_Se_wordTo_1 : decode b_Se_wordTo 1 = .ok (.istore_n 2, 1) := by decide +kernel
theorem d_Se_wordTo_2 : decode b_Se_wordTo 2 = .ok (.iload_n 1, 1) := by decide +kernel
theorem d_Se_wordTo_3 : decode b_Se_wordTo 3 = .ok (.istore_n 3, 1) := by decide +kernel
theorem d_Se_wordTo_4 : decode b_Se_wordTo 4 = .ok (.iload_n 3, 1) := by decide +kernel
theorem d_Se_wordTo_5 : decode b_Se_wordTo 5 = .ok (.ifCond .le (25), 3) := by decide +kernel
theorem d_Se_wordTo_8 : decode b_Se_wordTo 8 = .ok (.iload_n 2, 1) := by decide +kernel
theorem d_Se_wordTo_9 : decode b_Se_wordTo 9 = .ok (.sipush (4096), 3) := by decide +kernel
theorem d_Se_wordTo_12 : decode b_Se_wordTo 12 = .ok (.if_icmp .ge (18), 3) := by decide +kernel
theorem d_Se_wordTo_15 : decode b_Se_wordTo 15 = .ok (.iinc 2 (1), 3) := by decide +kernel
theorem d_Se_wordTo_18 : decode b_Se_wordTo 18 = .ok (.aload_n 0, 1) := by decide +kernel
theorem d_Se_wordTo_19 : decode b_Se_wordTo 19 = .ok (.getfield 18, 3) := by decide +kernel
theorem d_Se_wordTo_22 : decode b_Se_wordTo 22 = .ok (.iload_n 3, 1) := by decide +kernel
theorem d_Se_wordTo_23 : decode b_Se_wordTo 23 = .ok (.iaload, 1) := by decide +kernel
theorem d_Se_wordTo_24 : decode b_Se_wordTo 24 = .ok (.iconst 4, 1) := by decide +kernel
theorem d_Se_wordTo_25 : decode b_Se_wordTo 25 = .ok (.idiv, 1) := by decide +kernel
theorem d_Se_wordTo_26 : decode b_Se_wordTo 26 = .ok (.istore_n 3, 1) := by decide +kernel
theorem d_Se_wordTo_27 : decode b_Se_wordTo 27 = .ok (.goto (-23), 3) := by decide +kernel
theorem d_Se_wordTo_30 : decode b_Se_wordTo 30 = .ok (.iload_n 2, 1) := by decide +kernel
theorem d_Se_wordTo_31 : decode b_Se_wordTo 31 = .ok (.newarray .int, 2) := by decide +kernel
theorem d_Se_wordTo_33 : decode b_Se_wordTo 33 = .ok (.astore_n 3, 1) := by decide +kernel
theorem d_Se_wordTo_34 : decode b_Se_wordTo 34 = .ok (.iload_n 1, 1) := by decide +kernel
theorem d_Se_wordTo_35 : decode b_Se_wordTo 35 = .ok (.istore 4, 2) := by decide +kernel
theorem d_Se_wordTo_37 : decode b_Se_wordTo 37 = .ok (.iload_n 2, 1) := by decide +kernel
theorem d_Se_wordTo_38 : decode b_Se_wordTo 38 = .ok (.iconst 1, 1) := by decide +kernel
theorem d_Se_wordTo_39 : decode b_Se_wordTo 39 = .ok (.isub, 1) := by decide +kernel
theorem d_Se_wordTo_40 : decode b_Se_wordTo 40 = .ok (.istore 5, 2) := by decide +kernel
theorem d_Se_wordTo_42 : decode b_Se_wordTo 42 = .ok (.iload 5, 2) := by decide +kernel
theorem d_Se_wordTo_44 : decode b_Se_wordTo 44 = .ok (.ifCond .lt (33), 3) := by decide +kernel
theorem d_Se_wordTo_47 : decode b_Se_wordTo 47 = .ok (.aload_n 3, 1) := by decide +kernel
theorem d_Se_wordTo_48 : decode b_Se_wordTo 48 = .ok (.iload 5, 2) := by decide +kernel
theorem d_Se_wordTo_50 : decode b_Se_wordTo 50 = .ok (.aload_n 0, 1) := by decide +kernel
theorem d_Se_wordTo_51 : decode b_Se_wordTo 51 = .ok (.getfield 18, 3) := by decide +kernel
theorem d_Se_wordTo_54 : decode b_Se_wordTo 54 = .ok (.iload 4, 2) := by decide +kernel
theorem d_Se_wordTo_56 : decode b_Se_wordTo 56 = .ok (.iaload, 1) := by decide +kernel
theorem d_Se_wordTo_57 : decode b_Se_wordTo 57 = .ok (.iconst 4, 1) := by decide +kernel
theorem d_Se_wordTo_58 : decode b_Se_wordTo 58 = .ok (.irem, 1) := by decide +kernel
theorem d_Se_wordTo_59 : decode b_Se_wordTo 59 = .ok (.iastore, 1) := by decide +kernel
theorem d_Se_wordTo_60 : decode b_Se_wordTo 60 = .ok (.aload_n 0, 1) := by decide +kernel
theorem d_Se_wordTo_61 : decode b_Se_wordTo 61 = .ok (.getfield 18, 3) := by decide +kernel
theorem d_Se_wordTo_64 : decode b_Se_wordTo 64 = .ok (.iload 4, 2) := by decide +kernel
theorem d_Se_wordTo_66 : decode b_Se_wordTo 66 = .ok (.iaload, 1) := by decide +kernel
theorem d_Se_wordTo_67 : decode b_Se_wordTo 67 = .ok (.iconst 4, 1) := by decide +kernel
theorem d_Se_wordTo_68 : decode b_Se_wordTo 68 = .ok (.idiv, 1) := by decide +kernel
theorem d_Se_wordTo_69 : decode b_Se_wordTo 69 = .ok (.istore 4, 2) := by decide +kernel
theorem d_Se_wordTo_71 : decode b_Se_wordTo 71 = .ok (.iinc 5 (-1), 3) := by decide +kernel
theorem d_Se_wordTo_74 : decode b_Se_wordTo 74 = .ok (.goto (-32), 3) := by decide +kernel
theorem d_Se_wordTo_77 : decode b_Se_wordTo 77 = .ok (.aload_n 3, 1) := by decide +kernel
theorem d_Se_wordTo_78 : decode b_Se_wordTo 78 = .ok (.areturn, 1) := by decide +kernel
