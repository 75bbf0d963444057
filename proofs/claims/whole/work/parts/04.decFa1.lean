theorem d_Fa_liesInOne_0 : decode b_Fa_liesInOne 0 = .ok (.iconst 0, 1) := by decide +kernel
theorem d_Fa_liesInOne_1 : decode b_Fa_liesInOne 1 = .ok (.istore_n 2, 1) := by decide +kernel
theorem d_Fa_liesInOne_2 : decode b_Fa_liesInOne 2 = .ok (.iload_n 2, 1) := by decide +kernel
theorem d_Fa_liesInOne_3 : decode b_Fa_liesInOne 3 = .ok (.aload_n 0, 1) := by decide +kernel
theorem d_Fa_liesInOne_4 : decode b_Fa_liesInOne 4 = .ok (.getfield 15, 3) := by decide +kernel
theorem d_Fa_liesInOne_7 : decode b_Fa_liesInOne 7 = .ok (.aload_n 0, 1) := by decide +kernel
theorem d_Fa_liesInOne_8 : decode b_Fa_liesInOne 8 = .ok (.getfield 21, 3) := by decide +kernel
theorem d_Fa_liesInOne_11 : decode b_Fa_liesInOne 11 = .ok (.iaload, 1) := by decide +kernel
theorem d_Fa_liesInOne_12 : decode b_Fa_liesInOne 12 = .ok (.if_icmp .ge (32), 3) := by decide +kernel
theorem d_Fa_liesInOne_15 : decode b_Fa_liesInOne 15 = .ok (.iload_n 1, 1) := by decide +kernel
theorem d_Fa_liesInOne_16 : decode b_Fa_liesInOne 16 = .ok (.aload_n 0, 1) := by decide +kernel
theorem d_Fa_liesInOne_17 : decode b_Fa_liesInOne 17 = .ok (.getfield 9, 3) := by decide +kernel
theorem d_Fa_liesInOne_20 : decode b_Fa_liesInOne 20 = .ok (.aload_n 0, 1) := by decide +kernel
theorem d_Fa_liesInOne_21 : decode b_Fa_liesInOne 21 = .ok (.getfield 21, 3) := by decide +kernel
theorem d_Fa_liesInOne_24 : decode b_Fa_liesInOne 24 = .ok (.bipush (12), 2) := by decide +kernel
theorem d_Fa_liesInOne_26 : decode b_Fa_liesInOne 26 = .ok (.imul, 1) := by decide +kernel
theorem d_Fa_liesInOne_27 : decode b_Fa_liesInOne 27 = .ok (.iload_n 2, 1) := by decide +kernel
theorem d_Fa_liesInOne_28 : decode b_Fa_liesInOne 28 = .ok (.iadd, 1) := by decide +kernel
theorem d_Fa_liesInOne_29 : decode b_Fa_liesInOne 29 = .ok (.iaload, 1) := by decide +kernel
theorem d_Fa_liesInOne_30 : decode b_Fa_liesInOne 30 = .ok (.iconst (-1), 1) := by decide +kernel
theorem d_Fa_liesInOne_31 : decode b_Fa_liesInOne 31 = .ok (.ixor, 1) := by decide +kernel
theorem d_Fa_liesInOne_32 : decode b_Fa_liesInOne 32 = .ok (.iand, 1) := by decide +kernel
theorem d_Fa_liesInOne_33 : decode b_Fa_liesInOne 33 = .ok (.ifCond .ne (5), 3) := by decide +kernel
theorem d_Fa_liesInOne_36 : decode b_Fa_liesInOne 36 = .ok (.iconst 1, 1) := by decide +kernel
theorem d_Fa_liesInOne_37 : decode b_Fa_liesInOne 37 = .ok (.ireturn, 1) := by decide +kernel
theorem d_Fa_liesInOne_38 : decode b_Fa_liesInOne 38 = .ok (.iinc 2 (1), 3) := by decide +kernel
theorem d_Fa_liesInOne_41 : decode b_Fa_liesInOne 41 = .ok (.goto (-39), 3) := by decide +kernel
theorem d_Fa_liesInOne_44 : decode b_Fa_liesInOne 44 = .ok (.iconst 0, 1) := by decide +kernel
theorem d_Fa_liesInOne_45 : decode b_Fa_liesInOne 45 = .ok (.ireturn, 1) := by decide +kernel
theorem d_Fa_leaveOutThoseIn_0 : decode b_Fa_leaveOutThoseIn 0 = .ok (.aload_n 0, 1) := by decide +kernel
theorem d_Fa_leaveOutThoseIn_1 : decode b_Fa_leaveOutThoseIn 1 = .ok (.getfield 21, 3) := by decide +kernel
theorem d_Fa_leaveOutThoseIn_4 : decode b_Fa_leaveOutThoseIn 4 = .ok (.bipush (12), 2) := by decide +kernel
theorem d_Fa_leaveOutThoseIn_6 : decode b_Fa_leaveOutThoseIn 6 = .ok (.imul, 1) := by decide +kernel
theorem d_Fa_leaveOutThoseIn_7 : decode b_Fa_leaveOutThoseIn 7 = .ok (.istore_n 2, 1) := by decide +kernel
theorem d_Fa_leaveOutThoseIn_8 : decode b_Fa_leaveOutThoseIn 8 = .ok (.iconst 0, 1) := by decide +kernel
theorem d_Fa_leaveOutThoseIn_9 : decode b_Fa_leaveOutThoseIn 9 = .ok (.istore_n 3, 1) := by decide +kernel
theorem d_Fa_leaveOutThoseIn_10 : decode b_Fa_leaveOutThoseIn 10 = .ok (.iconst 0, 1) := by decide +kernel
theorem d_Fa_leaveOutThoseIn_11 : decode b_Fa_leaveOutThoseIn 11 = .ok (.istore 4, 2) := by decide +kernel
theorem d_Fa_leaveOutThoseIn_13 : decode b_Fa_leaveOutThoseIn 13 = .ok (.iload 4, 2) := by decide +kernel
theorem d_Fa_leaveOutThoseIn_15 : decode b_Fa_leaveOutThoseIn 15 = .ok (.aload_n 0, 1) := by decide +kernel
theorem d_Fa_leaveOutThoseIn_16 : decode b_Fa_leaveOutThoseIn 16 = .ok (.getfield 15, 3) := by decide +kernel
theorem d_Fa_leaveOutThoseIn_19 : decode b_Fa_leaveOutThoseIn 19 = .ok (.aload_n 0, 1) := by decide +kernel
theorem d_Fa_leaveOutThoseIn_20 : decode b_Fa_leaveOutThoseIn 20 = .ok (.getfield 21, 3) := by decide +kernel
theorem d_Fa_leaveOutThoseIn_23 : decode b_Fa_leaveOutThoseIn 23 = .ok (.iaload, 1) := by decide +kernel
theorem d_Fa_leaveOutThoseIn_24 : decode b_Fa_leaveOutThoseIn 24 = .ok (.if_icmp .ge (42), 3) := by decide +kernel
theorem d_Fa_leaveOutThoseIn_27 : decode b_Fa_leaveOutThoseIn 27 = .ok (.aload_n 0, 1) := by decide +kernel
theorem d_Fa_leaveOutThoseIn_28 : decode b_Fa_leaveOutThoseIn 28 = .ok (.getfield 9, 3) := by decide +kernel
theorem d_Fa_leaveOutThoseIn_31 : decode b_Fa_leaveOutThoseIn 31 = .ok (.iload_n 2, 1) := by decide +kernel
theorem d_Fa_leaveOutThoseIn_32 : decode b_Fa_leaveOutThoseIn 32 = .ok (.iload 4, 2) := by decide +kernel
theorem d_Fa_leaveOutThoseIn_34 : decode b_Fa_leaveOutThoseIn 34 = .ok (.iadd, 1) := by decide +kernel
theorem d_Fa_leaveOutThoseIn_35 : decode b_Fa_leaveOutThoseIn 35 = .ok (.iaload, 1) := by decide +kernel
theorem d_Fa_leaveOutThoseIn_36 : decode b_Fa_leaveOutThoseIn 36 = .ok (.istore 5, 2) := by decide +kernel
theorem d_Fa_leaveOutThoseIn_38 : decode b_Fa_leaveOutThoseIn 38 = .ok (.iload 5, 2) := by decide +kernel
theorem d_Fa_leaveOutThoseIn_40 : decode b_Fa_leaveOutThoseIn 40 = .ok (.iload_n 1, 1) := by decide +kernel
theorem d_Fa_leaveOutThoseIn_41 : decode b_Fa_leaveOutThoseIn 41 = .ok (.iconst (-1), 1) := by decide +kernel
theorem d_Fa_leaveOutThoseIn_42 : decode b_Fa_leaveOutThoseIn 42 = .ok (.ixor, 1) := by decide +kernel
theorem d_Fa_leaveOutThoseIn_43 : decode b_Fa_leaveOutThoseIn 43 = .ok (.iand, 1) := by decide +kernel
theorem d_Fa_leaveOutThoseIn_44 : decode b_Fa_leaveOutThoseIn 44 = .ok (.ifCond .eq (16), 3) := by decide +kernel
theorem d_Fa_leaveOutThoseIn_47 : decode b_Fa_leaveOutThoseIn 47 = .ok (.aload_n 0, 1) := by decide +kernel
theorem d_Fa_leaveOutThoseIn_48 : decode b_Fa_leaveOutThoseIn 48 = .ok (.getfield 9, 3) := by decide +kernel
theorem d_Fa_leaveOutThoseIn_51 : decode b_Fa_leaveOutThoseIn 51 = .ok (.iload_n 2, 1) := by decide +kernel
theorem d_Fa_leaveOutThoseIn_52 : decode b_Fa_leaveOutThoseIn 52 = .ok (.iload_n 3, 1) := by decide +kernel
theorem d_Fa_leaveOutThoseIn_53 : decode b_Fa_leaveOutThoseIn 53 = .ok (.iadd, 1) := by decide +kernel
theorem d_Fa_leaveOutThoseIn_54 : decode b_Fa_leaveOutThoseIn 54 = .ok (.iload 5, 2) := by decide +kernel
theorem d_Fa_leaveOutThoseIn_56 : decode b_Fa_leaveOutThoseIn 56 = .ok (.iastore, 1) := by decide +kernel
theorem d_Fa_leaveOutThoseIn_57 : decode b_Fa_leaveOutThoseIn 57 = .ok (.iinc 3 (1), 3) := by decide +kernel
theorem d_Fa_leaveOutThoseIn_60 : decode b_Fa_leaveOutThoseIn 60 = .ok (.iinc 4 (1), 3) := by decide +kernel
theorem d_Fa_leaveOutThoseIn_63 : decode b_Fa_leaveOutThoseIn 63 = .ok (.goto (-50), 3) := by decide +kernel
theorem d_Fa_leaveOutThoseIn_66 : decode b_Fa_leaveOutThoseIn 66 = .ok (.aload_n 0, 1) := by decide +kernel
theorem d_Fa_leaveOutThoseIn_67 : decode b_Fa_leaveOutThoseIn 67 = .ok (.getfield 15, 3) := by decide +kernel
theorem d_Fa_leaveOutThoseIn_70 : decode b_Fa_leaveOutThoseIn 70 = .ok (.aload_n 0, 1) := by decide +kernel
theorem d_Fa_leaveOutThoseIn_71 : decode b_Fa_leaveOutThoseIn 71 = .ok (.getfield 21, 3) := by decide +kernel
theorem d_Fa_leaveOutThoseIn_74 : decode b_Fa_leaveOutThoseIn 74 = .ok (.iload_n 3, 1) := by decide +kernel
theorem d_Fa_leaveOutThoseIn_75 : decode b_Fa_leaveOutThoseIn 75 = .ok (.iastore, 1) := by decide +kernel
theorem d_Fa_leaveOutThoseIn_76 : decode b_Fa_leaveOutThoseIn 76 = .ok (.return_, 1) := by decide +kernel
theorem d_Fa_openOneIsSingles_0 : decode b_Fa_openOneIsSingles 0 = .ok (.iconst 0, 1) := by decide +kernel
theorem d_Fa_openOneIsSingles_1 : decode b_Fa_openOneIsSingles 1 = .ok (.istore_n 1, 1) := by decide +kernel
theorem d_Fa_openOneIsSingles_2 : decode b_Fa_openOneIsSingles 2 = .ok (.iload_n 1, 1) := by decide +kernel
theorem d_Fa_openOneIsSingles_3 : decode b_Fa_openOneIsSingles 3 = .ok (.aload_n 0, 1) := by decide +kernel
theorem d_Fa_openOneIsSingles_4 : decode b_Fa_openOneIsSingles 4 = .ok (.getfield 15, 3) := by decide +kernel
theorem d_Fa_openOneIsSingles_7 : decode b_Fa_openOneIsSingles 7 = .ok (.aload_n 0, 1) := by decide +kernel
theorem d_Fa_openOneIsSingles_8 : decode b_Fa_openOneIsSingles 8 = .ok (.getfield 21, 3) := by decide +kernel
theorem d_Fa_openOneIsSingles_11 : decode b_Fa_openOneIsSingles 11 = .ok (.iaload, 1) := by decide +kernel
theorem d_Fa_openOneIsSingles_12 : decode b_Fa_openOneIsSingles 12 = .ok (.if_icmp .ge (32), 3) := by decide +kernel
theorem d_Fa_openOneIsSingles_15 : decode b_Fa_openOneIsSingles 15 = .ok (.aload_n 0, 1) := by decide +kernel
theorem d_Fa_openOneIsSingles_16 : decode b_Fa_openOneIsSingles 16 = .ok (.getfield 9, 3) := by decide +kernel
theorem d_Fa_openOneIsSingles_19 : decode b_Fa_openOneIsSingles 19 = .ok (.aload_n 0, 1) := by decide +kernel
theorem d_Fa_openOneIsSingles_20 : decode b_Fa_openOneIsSingles 20 = .ok (.getfield 21, 3) := by decide +kernel
theorem d_Fa_openOneIsSingles_23 : decode b_Fa_openOneIsSingles 23 = .ok (.bipush (12), 2) := by decide +kernel
theorem d_Fa_openOneIsSingles_25 : decode b_Fa_openOneIsSingles 25 = .ok (.imul, 1) := by decide +kernel
theorem d_Fa_openOneIsSingles_26 : decode b_Fa_openOneIsSingles 26 = .ok (.iload_n 1, 1) := by decide +kernel
theorem d_Fa_openOneIsSingles_27 : decode b_Fa_openOneIsSingles 27 = .ok (.iadd, 1) := by decide +kernel
theorem d_Fa_openOneIsSingles_28 : decode b_Fa_openOneIsSingles 28 = .ok (.iaload, 1) := by decide +kernel
theorem d_Fa_openOneIsSingles_29 : decode b_Fa_openOneIsSingles 29 = .ok (.invokestatic 62, 3) := by decide +kernel
theorem d_Fa_openOneIsSingles_32 : decode b_Fa_openOneIsSingles 32 = .ok (.iconst 1, 1) := by decide +kernel
theorem d_Fa_openOneIsSingles_33 : decode b_Fa_openOneIsSingles 33 = .ok (.if_icmp .eq (5), 3) := by decide +kernel
theorem d_Fa_openOneIsSingles_36 : decode b_Fa_openOneIsSingles 36 = .ok (.iconst 0, 1) := by decide +kernel
theorem d_Fa_openOneIsSingles_37 : decode b_Fa_openOneIsSingles 37 = .ok (.ireturn, 1) := by decide +kernel
theorem d_Fa_openOneIsSingles_38 : decode b_Fa_openOneIsSingles 38 = .ok (.iinc 1 (1), 3) := by decide +kernel
theorem d_Fa_openOneIsSingles_41 : decode b_Fa_openOneIsSingles 41 = .ok (.goto (-39), 3) := by decide +kernel
theorem d_Fa_openOneIsSingles_44 : decode b_Fa_openOneIsSingles 44 = .ok (.iconst 1, 1) := by decide +kernel
theorem d_Fa_openOneIsSingles_45 : decode b_Fa_openOneIsSingles 45 = .ok (.ireturn, 1) := by decide +kernel
theorem d_Fa_openOneIsKnown_0 : decode b_Fa_openOneIsKnown 0 = .ok (.iconst 0, 1) := by decide +kernel
theorem d_Fa_openOneIsKnown_1 : decode b_Fa_openOneIsKnown 1 = .ok (.istore_n 1, 1) := by decide +kernel
theorem d_Fa_openOneIsKnown_2 : decode b_Fa_openOneIsKnown 2 = .ok (.iload_n 1, 1) := by decide +kernel
theorem d_Fa_openOneIsKnown_3 : decode b_Fa_openOneIsKnown 3 = .ok (.aload_n 0, 1) := by decide +kernel
theorem d_Fa_openOneIsKnown_4 : decode b_Fa_openOneIsKnown 4 = .ok (.getfield 21, 3) := by decide +kernel
theorem d_Fa_openOneIsKnown_7 : decode b_Fa_openOneIsKnown 7 = .ok (.if_icmp .ge (19), 3) := by decide +kernel
theorem d_Fa_openOneIsKnown_10 : decode b_Fa_openOneIsKnown 10 = .ok (.aload_n 0, 1) := by decide +kernel
theorem d_Fa_openOneIsKnown_11 : decode b_Fa_openOneIsKnown 11 = .ok (.iload_n 1, 1) := by decide +kernel
theorem d_Fa_openOneIsKnown_12 : decode b_Fa_openOneIsKnown 12 = .ok (.invokevirtual 67, 3) := by decide +kernel
theorem d_Fa_openOneIsKnown_15 : decode b_Fa_openOneIsKnown 15 = .ok (.ifCond .eq (5), 3) := by decide +kernel
theorem d_Fa_openOneIsKnown_18 : decode b_Fa_openOneIsKnown 18 = .ok (.iconst 1, 1) := by decide +kernel
theorem d_Fa_openOneIsKnown_19 : decode b_Fa_openOneIsKnown 19 = .ok (.ireturn, 1) := by decide +kernel
theorem d_Fa_openOneIsKnown_20 : decode b_Fa_openOneIsKnown 20 = .ok (.iinc 1 (1), 3) := by decide +kernel
theorem d_Fa_openOneIsKnown_23 : decode b_Fa_openOneIsKnown 23 = .ok (.goto (-21), 3) := by decide +kernel
theorem d_Fa_openOneIsKnown_26 : decode b_Fa_openOneIsKnown 26 = .ok (.iconst 0, 1) := by decide +kernel
theorem d_Fa_openOneIsKnown_27 : decode b_Fa_openOneIsKnown 27 = .ok (.ireturn, 1) := by decide +kernel
theorem d_Fa_openOneIs_0 : decode b_Fa_openOneIs 0 = .ok (.aload_n 0, 1) := by decide +kernel
theorem d_Fa_openOneIs_1 : decode b_Fa_openOneIs 1 = .ok (.getfield 15, 3) := by decide +kernel
theorem d_Fa_openOneIs_4 : decode b_Fa_openOneIs 4 = .ok (.iload_n 1, 1) := by decide +kernel
theorem d_Fa_openOneIs_5 : decode b_Fa_openOneIs 5 = .ok (.iaload, 1) := by decide +kernel
theorem d_Fa_openOneIs_6 : decode b_Fa_openOneIs 6 = .ok (.aload_n 0, 1) := by decide +kernel
theorem d_Fa_openOneIs_7 : decode b_Fa_openOneIs 7 = .ok (.getfield 15, 3) := by decide +kernel
theorem d_Fa_openOneIs_10 : decode b_Fa_openOneIs 10 = .ok (.aload_n 0, 1) := by decide +kernel
theorem d_Fa_openOneIs_11 : decode b_Fa_openOneIs 11 = .ok (.getfield 21, 3) := by decide +kernel
theorem d_Fa_openOneIs_14 : decode b_Fa_openOneIs 14 = .ok (.iaload, 1) := by decide +kernel
theorem d_Fa_openOneIs_15 : decode b_Fa_openOneIs 15 = .ok (.if_icmp .eq (5), 3) := by decide +kernel
theorem d_Fa_openOneIs_18 : decode b_Fa_openOneIs 18 = .ok (.iconst 0, 1) := by decide +kernel
theorem d_Fa_openOneIs_19 : decode b_Fa_openOneIs 19 = .ok (.ireturn, 1) := by decide +kernel
theorem d_Fa_openOneIs_20 : decode b_Fa_openOneIs 20 = .ok (.iconst 0, 1) := by decide +kernel
theorem d_Fa_openOneIs_21 : decode b_Fa_openOneIs 21 = .ok (.istore_n 2, 1) := by decide +kernel
theorem d_Fa_openOneIs_22 : decode b_Fa_openOneIs 22 = .ok (.iload_n 2, 1) := by decide +kernel
theorem d_Fa_openOneIs_23 : decode b_Fa_openOneIs 23 = .ok (.aload_n 0, 1) := by decide +kernel
theorem d_Fa_openOneIs_24 : decode b_Fa_openOneIs 24 = .ok (.getfield 15, 3) := by decide +kernel
theorem d_Fa_openOneIs_27 : decode b_Fa_openOneIs 27 = .ok (.aload_n 0, 1) := by decide +kernel
theorem d_Fa_openOneIs_28 : decode b_Fa_openOneIs 28 = .ok (.getfield 21, 3) := by decide +kernel
theorem d_Fa_openOneIs_31 : decode b_Fa_openOneIs 31 = .ok (.iaload, 1) := by decide +kernel
theorem d_Fa_openOneIs_32 : decode b_Fa_openOneIs 32 = .ok (.if_icmp .ge (39), 3) := by decide +kernel
theorem d_Fa_openOneIs_35 : decode b_Fa_openOneIs 35 = .ok (.aload_n 0, 1) := by decide +kernel
theorem d_Fa_openOneIs_36 : decode b_Fa_openOneIs 36 = .ok (.getfield 9, 3) := by decide +kernel
theorem d_Fa_openOneIs_39 : decode b_Fa_openOneIs 39 = .ok (.iload_n 1, 1) := by decide +kernel
theorem d_Fa_openOneIs_40 : decode b_Fa_openOneIs 40 = .ok (.bipush (12), 2) := by decide +kernel
theorem d_Fa_openOneIs_42 : decode b_Fa_openOneIs 42 = .ok (.imul, 1) := by decide +kernel
theorem d_Fa_openOneIs_43 : decode b_Fa_openOneIs 43 = .ok (.iload_n 2, 1) := by decide +kernel
theorem d_Fa_openOneIs_44 : decode b_Fa_openOneIs 44 = .ok (.iadd, 1) := by decide +kernel
theorem d_Fa_openOneIs_45 : decode b_Fa_openOneIs 45 = .ok (.iaload, 1) := by decide +kernel
theorem d_Fa_openOneIs_46 : decode b_Fa_openOneIs 46 = .ok (.aload_n 0, 1) := by decide +kernel
theorem d_Fa_openOneIs_47 : decode b_Fa_openOneIs 47 = .ok (.getfield 9, 3) := by decide +kernel
theorem d_Fa_openOneIs_50 : decode b_Fa_openOneIs 50 = .ok (.aload_n 0, 1) := by decide +kernel
theorem d_Fa_openOneIs_51 : decode b_Fa_openOneIs 51 = .ok (.getfield 21, 3) := by decide +kernel
theorem d_Fa_openOneIs_54 : decode b_Fa_openOneIs 54 = .ok (.bipush (12), 2) := by decide +kernel
theorem d_Fa_openOneIs_56 : decode b_Fa_openOneIs 56 = .ok (.imul, 1) := by decide +kernel
theorem d_Fa_openOneIs_57 : decode b_Fa_openOneIs 57 = .ok (.iload_n 2, 1) := by decide +kernel
theorem d_Fa_openOneIs_58 : decode b_Fa_openOneIs 58 = .ok (.iadd, 1) := by decide +kernel
theorem d_Fa_openOneIs_59 : decode b_Fa_openOneIs 59 = .ok (.iaload, 1) := by decide +kernel
theorem d_Fa_openOneIs_60 : decode b_Fa_openOneIs 60 = .ok (.if_icmp .eq (5), 3) := by decide +kernel
theorem d_Fa_openOneIs_63 : decode b_Fa_openOneIs 63 = .ok (.iconst 0, 1) := by decide +kernel
theorem d_Fa_openOneIs_64 : decode b_Fa_openOneIs 64 = .ok (.ireturn, 1) := by decide +kernel
theorem d_Fa_openOneIs_65 : decode b_Fa_openOneIs 65 = .ok (.iinc 2 (1), 3) := by decide +kernel
theorem d_Fa_openOneIs_68 : decode b_Fa_openOneIs 68 = .ok (.goto (-46), 3) := by decide +kernel
theorem d_Fa_openOneIs_71 : decode b_Fa_openOneIs 71 = .ok (.iconst 1, 1) := by decide +kernel
theorem d_Fa_openOneIs_72 : decode b_Fa_openOneIs 72 = .ok (.ireturn, 1) := by decide +kernel
