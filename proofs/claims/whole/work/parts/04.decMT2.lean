theorem d_MT_chain_116 : decode b_MT_chain 116 = .ok (.istore 9, 2) := by decide +kernel
theorem d_MT_chain_118 : decode b_MT_chain 118 = .ok (.aload_n 0, 1) := by decide +kernel
theorem d_MT_chain_119 : decode b_MT_chain 119 = .ok (.getfield 18, 3) := by decide +kernel
theorem d_MT_chain_122 : decode b_MT_chain 122 = .ok (.aload_n 3, 1) := by decide +kernel
theorem d_MT_chain_123 : decode b_MT_chain 123 = .ok (.aload 4, 2) := by decide +kernel
theorem d_MT_chain_125 : decode b_MT_chain 125 = .ok (.iload 7, 2) := by decide +kernel
theorem d_MT_chain_127 : decode b_MT_chain 127 = .ok (.iload 8, 2) := by decide +kernel
theorem d_MT_chain_129 : decode b_MT_chain 129 = .ok (.invokestatic 135, 3) := by decide +kernel
theorem d_MT_chain_132 : decode b_MT_chain 132 = .ok (.invokevirtual 108, 3) := by decide +kernel
theorem d_MT_chain_135 : decode b_MT_chain 135 = .ok (.istore 10, 2) := by decide +kernel
theorem d_MT_chain_137 : decode b_MT_chain 137 = .ok (.aload 5, 2) := by decide +kernel
theorem d_MT_chain_139 : decode b_MT_chain 139 = .ok (.iload 6, 2) := by decide +kernel
theorem d_MT_chain_141 : decode b_MT_chain 141 = .ok (.iload 8, 2) := by decide +kernel
theorem d_MT_chain_143 : decode b_MT_chain 143 = .ok (.iload 10, 2) := by decide +kernel
theorem d_MT_chain_145 : decode b_MT_chain 145 = .ok (.aload 4, 2) := by decide +kernel
theorem d_MT_chain_147 : decode b_MT_chain 147 = .ok (.iload 7, 2) := by decide +kernel
theorem d_MT_chain_149 : decode b_MT_chain 149 = .ok (.invokestatic 139, 3) := by decide +kernel
theorem d_MT_chain_152 : decode b_MT_chain 152 = .ok (.iload 9, 2) := by decide +kernel
theorem d_MT_chain_154 : decode b_MT_chain 154 = .ok (.invokevirtual 64, 3) := by decide +kernel
theorem d_MT_chain_157 : decode b_MT_chain 157 = .ok (.invokevirtual 56, 3) := by decide +kernel
theorem d_MT_chain_160 : decode b_MT_chain 160 = .ok (.iinc 8 (1), 3) := by decide +kernel
theorem d_MT_chain_163 : decode b_MT_chain 163 = .ok (.goto (-68), 3) := by decide +kernel
theorem d_MT_chain_166 : decode b_MT_chain 166 = .ok (.iinc 6 (1), 3) := by decide +kernel
theorem d_MT_chain_169 : decode b_MT_chain 169 = .ok (.goto (-98), 3) := by decide +kernel
theorem d_MT_chain_172 : decode b_MT_chain 172 = .ok (.aload_n 0, 1) := by decide +kernel
theorem d_MT_chain_173 : decode b_MT_chain 173 = .ok (.getfield 29, 3) := by decide +kernel
theorem d_MT_chain_176 : decode b_MT_chain 176 = .ok (.iconst 1, 1) := by decide +kernel
theorem d_MT_chain_177 : decode b_MT_chain 177 = .ok (.isub, 1) := by decide +kernel
theorem d_MT_chain_178 : decode b_MT_chain 178 = .ok (.ireturn, 1) := by decide +kernel
theorem d_MT_letter_0 : decode b_MT_letter 0 = .ok (.iload_n 1, 1) := by decide +kernel
theorem d_MT_letter_1 : decode b_MT_letter 1 = .ok (.ifCond .lt (12), 3) := by decide +kernel
theorem d_MT_letter_4 : decode b_MT_letter 4 = .ok (.iload_n 1, 1) := by decide +kernel
theorem d_MT_letter_5 : decode b_MT_letter 5 = .ok (.aload_n 0, 1) := by decide +kernel
theorem d_MT_letter_6 : decode b_MT_letter 6 = .ok (.getfield 33, 3) := by decide +kernel
theorem d_MT_letter_9 : decode b_MT_letter 9 = .ok (.arraylength, 1) := by decide +kernel
theorem d_MT_letter_10 : decode b_MT_letter 10 = .ok (.if_icmp .lt (13), 3) := by decide +kernel
theorem d_MT_letter_13 : decode b_MT_letter 13 = .ok (.new 142, 3) := by decide +kernel
theorem d_MT_letter_16 : decode b_MT_letter 16 = .ok (.dup, 1) := by decide +kernel
theorem d_MT_letter_17 : decode b_MT_letter 17 = .ok (.ldc 144, 2) := by decide +kernel
theorem d_MT_letter_19 : decode b_MT_letter 19 = .ok (.invokespecial 146, 3) := by decide +kernel
theorem d_MT_letter_22 : decode b_MT_letter 22 = .ok (.athrow, 1) := by decide +kernel
theorem d_MT_letter_23 : decode b_MT_letter 23 = .ok (.aload_n 0, 1) := by decide +kernel
theorem d_MT_letter_24 : decode b_MT_letter 24 = .ok (.getfield 33, 3) := by decide +kernel
theorem d_MT_letter_27 : decode b_MT_letter 27 = .ok (.iload_n 1, 1) := by decide +kernel
theorem d_MT_letter_28 : decode b_MT_letter 28 = .ok (.iaload, 1) := by decide +kernel
theorem d_MT_letter_29 : decode b_MT_letter 29 = .ok (.ireturn, 1) := by decide +kernel
theorem d_MT_along_0 : decode b_MT_along 0 = .ok (.aload_n 0, 1) := by decide +kernel
theorem d_MT_along_1 : decode b_MT_along 1 = .ok (.iload_n 1, 1) := by decide +kernel
theorem d_MT_along_2 : decode b_MT_along 2 = .ok (.invokevirtual 45, 3) := by decide +kernel
theorem d_MT_along_5 : decode b_MT_along 5 = .ok (.astore_n 3, 1) := by decide +kernel
theorem d_MT_along_6 : decode b_MT_along 6 = .ok (.aload_n 3, 1) := by decide +kernel
theorem d_MT_along_7 : decode b_MT_along 7 = .ok (.ifnull (11), 3) := by decide +kernel
theorem d_MT_along_10 : decode b_MT_along 10 = .ok (.aload_n 3, 1) := by decide +kernel
theorem d_MT_along_11 : decode b_MT_along 11 = .ok (.iload_n 2, 1) := by decide +kernel
theorem d_MT_along_12 : decode b_MT_along 12 = .ok (.invokevirtual 49, 3) := by decide +kernel
theorem d_MT_along_15 : decode b_MT_along 15 = .ok (.ifCond .ne (5), 3) := by decide +kernel
theorem d_MT_along_18 : decode b_MT_along 18 = .ok (.iconst (-1), 1) := by decide +kernel
theorem d_MT_along_19 : decode b_MT_along 19 = .ok (.ireturn, 1) := by decide +kernel
theorem d_MT_along_20 : decode b_MT_along 20 = .ok (.iload_n 2, 1) := by decide +kernel
theorem d_MT_along_21 : decode b_MT_along 21 = .ok (.istore 4, 2) := by decide +kernel
theorem d_MT_along_23 : decode b_MT_along 23 = .ok (.iconst 0, 1) := by decide +kernel
theorem d_MT_along_24 : decode b_MT_along 24 = .ok (.istore 5, 2) := by decide +kernel
theorem d_MT_along_26 : decode b_MT_along 26 = .ok (.iload 5, 2) := by decide +kernel
theorem d_MT_along_28 : decode b_MT_along 28 = .ok (.aload_n 0, 1) := by decide +kernel
theorem d_MT_along_29 : decode b_MT_along 29 = .ok (.getfield 33, 3) := by decide +kernel
theorem d_MT_along_32 : decode b_MT_along 32 = .ok (.arraylength, 1) := by decide +kernel
theorem d_MT_along_33 : decode b_MT_along 33 = .ok (.if_icmp .ge (40), 3) := by decide +kernel
theorem d_MT_along_36 : decode b_MT_along 36 = .ok (.aload_n 3, 1) := by decide +kernel
theorem d_MT_along_37 : decode b_MT_along 37 = .ok (.aload_n 0, 1) := by decide +kernel
theorem d_MT_along_38 : decode b_MT_along 38 = .ok (.getfield 33, 3) := by decide +kernel
theorem d_MT_along_41 : decode b_MT_along 41 = .ok (.iload 5, 2) := by decide +kernel
theorem d_MT_along_43 : decode b_MT_along 43 = .ok (.iaload, 1) := by decide +kernel
theorem d_MT_along_44 : decode b_MT_along 44 = .ok (.invokevirtual 53, 3) := by decide +kernel
theorem d_MT_along_47 : decode b_MT_along 47 = .ok (.ifCond .ne (5), 3) := by decide +kernel
theorem d_MT_along_50 : decode b_MT_along 50 = .ok (.iconst (-1), 1) := by decide +kernel
theorem d_MT_along_51 : decode b_MT_along 51 = .ok (.ireturn, 1) := by decide +kernel
theorem d_MT_along_52 : decode b_MT_along 52 = .ok (.aload_n 3, 1) := by decide +kernel
theorem d_MT_along_53 : decode b_MT_along 53 = .ok (.iload 4, 2) := by decide +kernel
theorem d_MT_along_55 : decode b_MT_along 55 = .ok (.aload_n 0, 1) := by decide +kernel
theorem d_MT_along_56 : decode b_MT_along 56 = .ok (.getfield 33, 3) := by decide +kernel
theorem d_MT_along_59 : decode b_MT_along 59 = .ok (.iload 5, 2) := by decide +kernel
theorem d_MT_along_61 : decode b_MT_along 61 = .ok (.iaload, 1) := by decide +kernel
theorem d_MT_along_62 : decode b_MT_along 62 = .ok (.invokevirtual 60, 3) := by decide +kernel
theorem d_MT_along_65 : decode b_MT_along 65 = .ok (.istore 4, 2) := by decide +kernel
theorem d_MT_along_67 : decode b_MT_along 67 = .ok (.iinc 5 (1), 3) := by decide +kernel
theorem d_MT_along_70 : decode b_MT_along 70 = .ok (.goto (-44), 3) := by decide +kernel
theorem d_MT_along_73 : decode b_MT_along 73 = .ok (.iload 4, 2) := by decide +kernel
theorem d_MT_along_75 : decode b_MT_along 75 = .ok (.ireturn, 1) := by decide +kernel
theorem d_MT_clear_0 : decode b_MT_clear 0 = .ok (.aload_n 0, 1) := by decide +kernel
theorem d_MT_clear_1 : decode b_MT_clear 1 = .ok (.iconst 0, 1) := by decide +kernel
theorem d_MT_clear_2 : decode b_MT_clear 2 = .ok (.putfield 29, 3) := by decide +kernel
theorem d_MT_clear_5 : decode b_MT_clear 5 = .ok (.return_, 1) := by decide +kernel
theorem d_MT_total_0 : decode b_MT_total 0 = .ok (.iload_n 1, 1) := by decide +kernel
theorem d_MT_total_1 : decode b_MT_total 1 = .ok (.ifCond .ne (8), 3) := by decide +kernel
theorem d_MT_total_4 : decode b_MT_total 4 = .ok (.aload_n 0, 1) := by decide +kernel
theorem d_MT_total_5 : decode b_MT_total 5 = .ok (.getfield 29, 3) := by decide +kernel
theorem d_MT_total_8 : decode b_MT_total 8 = .ok (.ireturn, 1) := by decide +kernel
theorem d_MT_total_9 : decode b_MT_total 9 = .ok (.iload_n 1, 1) := by decide +kernel
theorem d_MT_total_10 : decode b_MT_total 10 = .ok (.iconst 1, 1) := by decide +kernel
theorem d_MT_total_11 : decode b_MT_total 11 = .ok (.if_icmp .ne (9), 3) := by decide +kernel
theorem d_MT_total_14 : decode b_MT_total 14 = .ok (.aload_n 0, 1) := by decide +kernel
theorem d_MT_total_15 : decode b_MT_total 15 = .ok (.getfield 33, 3) := by decide +kernel
theorem d_MT_total_18 : decode b_MT_total 18 = .ok (.arraylength, 1) := by decide +kernel
theorem d_MT_total_19 : decode b_MT_total 19 = .ok (.ireturn, 1) := by decide +kernel
theorem d_MT_total_20 : decode b_MT_total 20 = .ok (.iload_n 1, 1) := by decide +kernel
theorem d_MT_total_21 : decode b_MT_total 21 = .ok (.sipush (200), 3) := by decide +kernel
theorem d_MT_total_24 : decode b_MT_total 24 = .ok (.if_icmp .lt (7), 3) := by decide +kernel
theorem d_MT_total_27 : decode b_MT_total 27 = .ok (.iconst 1, 1) := by decide +kernel
theorem d_MT_total_28 : decode b_MT_total 28 = .ok (.goto (4), 3) := by decide +kernel
theorem d_MT_total_31 : decode b_MT_total 31 = .ok (.iconst 0, 1) := by decide +kernel
theorem d_MT_total_32 : decode b_MT_total 32 = .ok (.istore_n 2, 1) := by decide +kernel
theorem d_MT_total_33 : decode b_MT_total 33 = .ok (.aload_n 0, 1) := by decide +kernel
theorem d_MT_total_34 : decode b_MT_total 34 = .ok (.iload_n 1, 1) := by decide +kernel
theorem d_MT_total_35 : decode b_MT_total 35 = .ok (.iload_n 2, 1) := by decide +kernel
theorem d_MT_total_36 : decode b_MT_total 36 = .ok (.ifCond .eq (9), 3) := by decide +kernel
theorem d_MT_total_39 : decode b_MT_total 39 = .ok (.sipush (200), 3) := by decide +kernel
theorem d_MT_total_42 : decode b_MT_total 42 = .ok (.goto (5), 3) := by decide +kernel
theorem d_MT_total_45 : decode b_MT_total 45 = .ok (.bipush (100), 2) := by decide +kernel
theorem d_MT_total_47 : decode b_MT_total 47 = .ok (.isub, 1) := by decide +kernel
theorem d_MT_total_48 : decode b_MT_total 48 = .ok (.invokevirtual 45, 3) := by decide +kernel
theorem d_MT_total_51 : decode b_MT_total 51 = .ok (.astore_n 3, 1) := by decide +kernel
theorem d_MT_total_52 : decode b_MT_total 52 = .ok (.aload_n 3, 1) := by decide +kernel
theorem d_MT_total_53 : decode b_MT_total 53 = .ok (.ifnonnull (5), 3) := by decide +kernel
theorem d_MT_total_56 : decode b_MT_total 56 = .ok (.iconst (-1), 1) := by decide +kernel
theorem d_MT_total_57 : decode b_MT_total 57 = .ok (.ireturn, 1) := by decide +kernel
theorem d_MT_total_58 : decode b_MT_total 58 = .ok (.iload_n 2, 1) := by decide +kernel
theorem d_MT_total_59 : decode b_MT_total 59 = .ok (.ifCond .eq (10), 3) := by decide +kernel
theorem d_MT_total_62 : decode b_MT_total 62 = .ok (.aload_n 3, 1) := by decide +kernel
theorem d_MT_total_63 : decode b_MT_total 63 = .ok (.getfield 85, 3) := by decide +kernel
theorem d_MT_total_66 : decode b_MT_total 66 = .ok (.goto (7), 3) := by decide +kernel
theorem d_MT_total_69 : decode b_MT_total 69 = .ok (.aload_n 3, 1) := by decide +kernel
theorem d_MT_total_70 : decode b_MT_total 70 = .ok (.getfield 102, 3) := by decide +kernel
theorem d_MT_total_73 : decode b_MT_total 73 = .ok (.ireturn, 1) := by decide +kernel
theorem d_MT_isFull_0 : decode b_MT_isFull 0 = .ok (.aload_n 0, 1) := by decide +kernel
theorem d_MT_isFull_1 : decode b_MT_isFull 1 = .ok (.getfield 29, 3) := by decide +kernel
theorem d_MT_isFull_4 : decode b_MT_isFull 4 = .ok (.bipush (12), 2) := by decide +kernel
theorem d_MT_isFull_6 : decode b_MT_isFull 6 = .ok (.if_icmp .lt (7), 3) := by decide +kernel
theorem d_MT_isFull_9 : decode b_MT_isFull 9 = .ok (.iconst 1, 1) := by decide +kernel
theorem d_MT_isFull_10 : decode b_MT_isFull 10 = .ok (.goto (4), 3) := by decide +kernel
theorem d_MT_isFull_13 : decode b_MT_isFull 13 = .ok (.iconst 0, 1) := by decide +kernel
theorem d_MT_isFull_14 : decode b_MT_isFull 14 = .ok (.ireturn, 1) := by decide +kernel
theorem d_MT_find_0 : decode b_MT_find 0 = .ok (.iload_n 1, 1) := by decide +kernel
theorem d_MT_find_1 : decode b_MT_find 1 = .ok (.ifCond .lt (20), 3) := by decide +kernel
theorem d_MT_find_4 : decode b_MT_find 4 = .ok (.iload_n 1, 1) := by decide +kernel
theorem d_MT_find_5 : decode b_MT_find 5 = .ok (.aload_n 0, 1) := by decide +kernel
theorem d_MT_find_6 : decode b_MT_find 6 = .ok (.getfield 29, 3) := by decide +kernel
theorem d_MT_find_9 : decode b_MT_find 9 = .ok (.if_icmp .ge (12), 3) := by decide +kernel
theorem d_MT_find_12 : decode b_MT_find 12 = .ok (.aload_n 0, 1) := by decide +kernel
theorem d_MT_find_13 : decode b_MT_find 13 = .ok (.getfield 11, 3) := by decide +kernel
theorem d_MT_find_16 : decode b_MT_find 16 = .ok (.iload_n 1, 1) := by decide +kernel
theorem d_MT_find_17 : decode b_MT_find 17 = .ok (.aaload, 1) := by decide +kernel
theorem d_MT_find_18 : decode b_MT_find 18 = .ok (.goto (4), 3) := by decide +kernel
theorem d_MT_find_21 : decode b_MT_find 21 = .ok (.aconst_null, 1) := by decide +kernel
theorem d_MT_find_22 : decode b_MT_find 22 = .ok (.areturn, 1) := by decide +kernel
theorem d_MT_findSmall_0 : decode b_MT_findSmall 0 = .ok (.aload_n 0, 1) := by decide +kernel
theorem d_MT_findSmall_1 : decode b_MT_findSmall 1 = .ok (.iload_n 1, 1) := by decide +kernel
theorem d_MT_findSmall_2 : decode b_MT_findSmall 2 = .ok (.invokevirtual 45, 3) := by decide +kernel
theorem d_MT_findSmall_5 : decode b_MT_findSmall 5 = .ok (.astore_n 2, 1) := by decide +kernel
theorem d_MT_findSmall_6 : decode b_MT_findSmall 6 = .ok (.aload_n 2, 1) := by decide +kernel
theorem d_MT_findSmall_7 : decode b_MT_findSmall 7 = .ok (.ifnull (12), 3) := by decide +kernel
theorem d_MT_findSmall_10 : decode b_MT_findSmall 10 = .ok (.aload_n 2, 1) := by decide +kernel
theorem d_MT_findSmall_11 : decode b_MT_findSmall 11 = .ok (.getfield 102, 3) := by decide +kernel
theorem d_MT_findSmall_14 : decode b_MT_findSmall 14 = .ok (.bipush (12), 2) := by decide +kernel
theorem d_MT_findSmall_16 : decode b_MT_findSmall 16 = .ok (.if_icmp .le (7), 3) := by decide +kernel
theorem d_MT_findSmall_19 : decode b_MT_findSmall 19 = .ok (.aconst_null, 1) := by decide +kernel
theorem d_MT_findSmall_20 : decode b_MT_findSmall 20 = .ok (.goto (4), 3) := by decide +kernel
theorem d_MT_findSmall_23 : decode b_MT_findSmall 23 = .ok (.aload_n 2, 1) := by decide +kernel
theorem d_MT_findSmall_24 : decode b_MT_findSmall 24 = .ok (.areturn, 1) := by decide +kernel
theorem d_MT_add_0 : decode b_MT_add 0 = .ok (.aload_n 0, 1) := by decide +kernel
theorem d_MT_add_1 : decode b_MT_add 1 = .ok (.getfield 11, 3) := by decide +kernel
theorem d_MT_add_4 : decode b_MT_add 4 = .ok (.aload_n 0, 1) := by decide +kernel
theorem d_MT_add_5 : decode b_MT_add 5 = .ok (.getfield 29, 3) := by decide +kernel
theorem d_MT_add_8 : decode b_MT_add 8 = .ok (.aaload, 1) := by decide +kernel
theorem d_MT_add_9 : decode b_MT_add 9 = .ok (.astore_n 3, 1) := by decide +kernel
theorem d_MT_add_10 : decode b_MT_add 10 = .ok (.aload_n 3, 1) := by decide +kernel
theorem d_MT_add_11 : decode b_MT_add 11 = .ok (.ifnonnull (21), 3) := by decide +kernel
theorem d_MT_add_14 : decode b_MT_add 14 = .ok (.new 9, 3) := by decide +kernel
theorem d_MT_add_17 : decode b_MT_add 17 = .ok (.dup, 1) := by decide +kernel
theorem d_MT_add_18 : decode b_MT_add 18 = .ok (.invokespecial 147, 3) := by decide +kernel
theorem d_MT_add_21 : decode b_MT_add 21 = .ok (.astore_n 3, 1) := by decide +kernel
theorem d_MT_add_22 : decode b_MT_add 22 = .ok (.aload_n 0, 1) := by decide +kernel
theorem d_MT_add_23 : decode b_MT_add 23 = .ok (.getfield 11, 3) := by decide +kernel
theorem d_MT_add_26 : decode b_MT_add 26 = .ok (.aload_n 0, 1) := by decide +kernel
theorem d_MT_add_27 : decode b_MT_add 27 = .ok (.getfield 29, 3) := by decide +kernel
theorem d_MT_add_30 : decode b_MT_add 30 = .ok (.aload_n 3, 1) := by decide +kernel
theorem d_MT_add_31 : decode b_MT_add 31 = .ok (.aastore, 1) := by decide +kernel
theorem d_MT_add_32 : decode b_MT_add 32 = .ok (.aload_n 3, 1) := by decide +kernel
theorem d_MT_add_33 : decode b_MT_add 33 = .ok (.iload_n 1, 1) := by decide +kernel
theorem d_MT_add_34 : decode b_MT_add 34 = .ok (.iload_n 2, 1) := by decide +kernel
theorem d_MT_add_35 : decode b_MT_add 35 = .ok (.invokevirtual 148, 3) := by decide +kernel
theorem d_MT_add_38 : decode b_MT_add 38 = .ok (.aload_n 0, 1) := by decide +kernel
theorem d_MT_add_39 : decode b_MT_add 39 = .ok (.dup, 1) := by decide +kernel
theorem d_MT_add_40 : decode b_MT_add 40 = .ok (.getfield 29, 3) := by decide +kernel
theorem d_MT_add_43 : decode b_MT_add 43 = .ok (.iconst 1, 1) := by decide +kernel
theorem d_MT_add_44 : decode b_MT_add 44 = .ok (.iadd, 1) := by decide +kernel
theorem d_MT_add_45 : decode b_MT_add 45 = .ok (.putfield 29, 3) := by decide +kernel
theorem d_MT_add_48 : decode b_MT_add 48 = .ok (.aload_n 3, 1) := by decide +kernel
theorem d_MT_add_49 : decode b_MT_add 49 = .ok (.areturn, 1) := by decide +kernel
theorem d_MT_tell_0 : decode b_MT_tell 0 = .ok (.aload_n 0, 1) := by decide +kernel
theorem d_MT_tell_1 : decode b_MT_tell 1 = .ok (.aload_n 0, 1) := by decide +kernel
