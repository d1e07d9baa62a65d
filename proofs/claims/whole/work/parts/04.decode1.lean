theorem dX0_skipTo_19 : decode cX0_skipTo 19 = .ok (.aload_n 0, 1) := by decide +kernel
theorem dX0_skipTo_20 : decode cX0_skipTo 20 = .ok (.getfield 54, 3) := by decide +kernel
theorem dX0_skipTo_23 : decode cX0_skipTo 23 = .ok (.aload_n 0, 1) := by decide +kernel
theorem dX0_skipTo_24 : decode cX0_skipTo 24 = .ok (.getfield 44, 3) := by decide +kernel
theorem dX0_skipTo_27 : decode cX0_skipTo 27 = .ok (.if_icmp .ge 36, 3) := by decide +kernel
theorem dX0_skipTo_30 : decode cX0_skipTo 30 = .ok (.aload_n 0, 1) := by decide +kernel
theorem dX0_skipTo_31 : decode cX0_skipTo 31 = .ok (.aload_n 0, 1) := by decide +kernel
theorem dX0_skipTo_32 : decode cX0_skipTo 32 = .ok (.getfield 54, 3) := by decide +kernel
theorem dX0_skipTo_35 : decode cX0_skipTo 35 = .ok (.invokevirtual 83, 3) := by decide +kernel
theorem dX0_skipTo_38 : decode cX0_skipTo 38 = .ok (.iload_n 1, 1) := by decide +kernel
theorem dX0_skipTo_39 : decode cX0_skipTo 39 = .ok (.if_icmp .ge 24, 3) := by decide +kernel
theorem dX0_skipTo_42 : decode cX0_skipTo 42 = .ok (.aload_n 0, 1) := by decide +kernel
theorem dX0_skipTo_43 : decode cX0_skipTo 43 = .ok (.aload_n 0, 1) := by decide +kernel
theorem dX0_skipTo_44 : decode cX0_skipTo 44 = .ok (.getfield 54, 3) := by decide +kernel
theorem dX0_skipTo_47 : decode cX0_skipTo 47 = .ok (.invokevirtual 96, 3) := by decide +kernel
theorem dX0_skipTo_50 : decode cX0_skipTo 50 = .ok (.aload_n 0, 1) := by decide +kernel
theorem dX0_skipTo_51 : decode cX0_skipTo 51 = .ok (.dup, 1) := by decide +kernel
theorem dX0_skipTo_52 : decode cX0_skipTo 52 = .ok (.getfield 54, 3) := by decide +kernel
theorem dX0_skipTo_55 : decode cX0_skipTo 55 = .ok (.iconst 1, 1) := by decide +kernel
theorem dX0_skipTo_56 : decode cX0_skipTo 56 = .ok (.iadd, 1) := by decide +kernel
theorem dX0_skipTo_57 : decode cX0_skipTo 57 = .ok (.putfield 54, 3) := by decide +kernel
theorem dX0_skipTo_60 : decode cX0_skipTo 60 = .ok (.goto (-41), 3) := by decide +kernel
theorem dX0_skipTo_63 : decode cX0_skipTo 63 = .ok (.aload_n 0, 1) := by decide +kernel
theorem dX0_skipTo_64 : decode cX0_skipTo 64 = .ok (.getfield 54, 3) := by decide +kernel
theorem dX0_skipTo_67 : decode cX0_skipTo 67 = .ok (.iload_n 2, 1) := by decide +kernel
theorem dX0_skipTo_68 : decode cX0_skipTo 68 = .ok (.isub, 1) := by decide +kernel
theorem dX0_skipTo_69 : decode cX0_skipTo 69 = .ok (.ireturn, 1) := by decide +kernel
theorem dX0_key_0 : decode cX0_key 0 = .ok (.aload_n 0, 1) := by decide +kernel
theorem dX0_key_1 : decode cX0_key 1 = .ok (.getfield 87, 3) := by decide +kernel
theorem dX0_key_4 : decode cX0_key 4 = .ok (.ireturn, 1) := by decide +kernel
theorem dX0_value_0 : decode cX0_value 0 = .ok (.aload_n 0, 1) := by decide +kernel
theorem dX0_value_1 : decode cX0_value 1 = .ok (.getfield 93, 3) := by decide +kernel
theorem dX0_value_4 : decode cX0_value 4 = .ok (.ireturn, 1) := by decide +kernel
theorem dX0_group_0 : decode cX0_group 0 = .ok (.iload_n 1, 1) := by decide +kernel
theorem dX0_group_1 : decode cX0_group 1 = .ok (.ifCond .lt 8, 3) := by decide +kernel
theorem dX0_group_4 : decode cX0_group 4 = .ok (.iload_n 1, 1) := by decide +kernel
theorem dX0_group_5 : decode cX0_group 5 = .ok (.iconst 4, 1) := by decide +kernel
theorem dX0_group_6 : decode cX0_group 6 = .ok (.if_icmp .lt 13, 3) := by decide +kernel
theorem dX0_group_9 : decode cX0_group 9 = .ok (.new 67, 3) := by decide +kernel
theorem dX0_group_12 : decode cX0_group 12 = .ok (.dup, 1) := by decide +kernel
theorem dX0_group_13 : decode cX0_group 13 = .ok (.ldc 103, 2) := by decide +kernel
theorem dX0_group_15 : decode cX0_group 15 = .ok (.invokespecial 71, 3) := by decide +kernel
theorem dX0_group_18 : decode cX0_group 18 = .ok (.athrow, 1) := by decide +kernel
theorem dX0_group_19 : decode cX0_group 19 = .ok (.aload_n 0, 1) := by decide +kernel
theorem dX0_group_20 : decode cX0_group 20 = .ok (.getfield 41, 3) := by decide +kernel
theorem dX0_group_23 : decode cX0_group 23 = .ok (.iload_n 1, 1) := by decide +kernel
theorem dX0_group_24 : decode cX0_group 24 = .ok (.invokestatic 105, 3) := by decide +kernel
theorem dX0_group_27 : decode cX0_group 27 = .ok (.ireturn, 1) := by decide +kernel
theorem dX0_count_0 : decode cX0_count 0 = .ok (.iload_n 1, 1) := by decide +kernel
theorem dX0_count_1 : decode cX0_count 1 = .ok (.ifCond .lt 8, 3) := by decide +kernel
theorem dX0_count_4 : decode cX0_count 4 = .ok (.iload_n 1, 1) := by decide +kernel
theorem dX0_count_5 : decode cX0_count 5 = .ok (.iconst 4, 1) := by decide +kernel
theorem dX0_count_6 : decode cX0_count 6 = .ok (.if_icmp .lt 13, 3) := by decide +kernel
theorem dX0_count_9 : decode cX0_count 9 = .ok (.new 67, 3) := by decide +kernel
theorem dX0_count_12 : decode cX0_count 12 = .ok (.dup, 1) := by decide +kernel
theorem dX0_count_13 : decode cX0_count 13 = .ok (.ldc 103, 2) := by decide +kernel
theorem dX0_count_15 : decode cX0_count 15 = .ok (.invokespecial 71, 3) := by decide +kernel
theorem dX0_count_18 : decode cX0_count 18 = .ok (.athrow, 1) := by decide +kernel
theorem dX0_count_19 : decode cX0_count 19 = .ok (.iload_n 1, 1) := by decide +kernel
theorem dX0_count_20 : decode cX0_count 20 = .ok (.tableswitch 43 0 2 #[28, 33, 38], 28) := by decide +kernel
theorem dX0_count_48 : decode cX0_count 48 = .ok (.aload_n 0, 1) := by decide +kernel
theorem dX0_count_49 : decode cX0_count 49 = .ok (.getfield 44, 3) := by decide +kernel
theorem dX0_count_52 : decode cX0_count 52 = .ok (.ireturn, 1) := by decide +kernel
theorem dX0_count_53 : decode cX0_count 53 = .ok (.aload_n 0, 1) := by decide +kernel
theorem dX0_count_54 : decode cX0_count 54 = .ok (.invokevirtual 109, 3) := by decide +kernel
theorem dX0_count_57 : decode cX0_count 57 = .ok (.ireturn, 1) := by decide +kernel
theorem dX0_count_58 : decode cX0_count 58 = .ok (.aload_n 0, 1) := by decide +kernel
theorem dX0_count_59 : decode cX0_count 59 = .ok (.getfield 54, 3) := by decide +kernel
theorem dX0_count_62 : decode cX0_count 62 = .ok (.ireturn, 1) := by decide +kernel
theorem dX0_count_63 : decode cX0_count 63 = .ok (.aload_n 0, 1) := by decide +kernel
theorem dX0_count_64 : decode cX0_count 64 = .ok (.getfield 50, 3) := by decide +kernel
theorem dX0_count_67 : decode cX0_count 67 = .ok (.ifCond .eq 10, 3) := by decide +kernel
theorem dX0_count_70 : decode cX0_count 70 = .ok (.aload_n 0, 1) := by decide +kernel
theorem dX0_count_71 : decode cX0_count 71 = .ok (.getfield 57, 3) := by decide +kernel
theorem dX0_count_74 : decode cX0_count 74 = .ok (.goto 7, 3) := by decide +kernel
theorem dX0_count_77 : decode cX0_count 77 = .ok (.aload_n 0, 1) := by decide +kernel
theorem dX0_count_78 : decode cX0_count 78 = .ok (.getfield 47, 3) := by decide +kernel
theorem dX0_count_81 : decode cX0_count 81 = .ok (.ireturn, 1) := by decide +kernel
theorem dX0_append_0 : decode cX0_append 0 = .ok (.aload_n 0, 1) := by decide +kernel
theorem dX0_append_1 : decode cX0_append 1 = .ok (.getfield 44, 3) := by decide +kernel
theorem dX0_append_4 : decode cX0_append 4 = .ok (.aload_n 0, 1) := by decide +kernel
theorem dX0_append_5 : decode cX0_append 5 = .ok (.invokevirtual 109, 3) := by decide +kernel
theorem dX0_append_8 : decode cX0_append 8 = .ok (.isub, 1) := by decide +kernel
theorem dX0_append_9 : decode cX0_append 9 = .ok (.aload_n 0, 1) := by decide +kernel
theorem dX0_append_10 : decode cX0_append 10 = .ok (.getfield 18, 3) := by decide +kernel
theorem dX0_append_13 : decode cX0_append 13 = .ok (.if_icmp .lt 17, 3) := by decide +kernel
theorem dX0_append_16 : decode cX0_append 16 = .ok (.aload_n 0, 1) := by decide +kernel
theorem dX0_append_17 : decode cX0_append 17 = .ok (.invokevirtual 74, 3) := by decide +kernel
theorem dX0_append_20 : decode cX0_append 20 = .ok (.aload_n 0, 1) := by decide +kernel
theorem dX0_append_21 : decode cX0_append 21 = .ok (.dup, 1) := by decide +kernel
theorem dX0_append_22 : decode cX0_append 22 = .ok (.getfield 47, 3) := by decide +kernel
theorem dX0_append_25 : decode cX0_append 25 = .ok (.iconst 1, 1) := by decide +kernel
theorem dX0_append_26 : decode cX0_append 26 = .ok (.iadd, 1) := by decide +kernel
theorem dX0_append_27 : decode cX0_append 27 = .ok (.putfield 47, 3) := by decide +kernel
theorem dX0_append_30 : decode cX0_append 30 = .ok (.aload_n 0, 1) := by decide +kernel
theorem dX0_append_31 : decode cX0_append 31 = .ok (.getfield 25, 3) := by decide +kernel
theorem dX0_append_34 : decode cX0_append 34 = .ok (.aload_n 0, 1) := by decide +kernel
theorem dX0_append_35 : decode cX0_append 35 = .ok (.getfield 44, 3) := by decide +kernel
theorem dX0_append_38 : decode cX0_append 38 = .ok (.iload_n 1, 1) := by decide +kernel
theorem dX0_append_39 : decode cX0_append 39 = .ok (.invokestatic 113, 3) := by decide +kernel
theorem dX0_append_42 : decode cX0_append 42 = .ok (.aload_n 0, 1) := by decide +kernel
theorem dX0_append_43 : decode cX0_append 43 = .ok (.getfield 29, 3) := by decide +kernel
theorem dX0_append_46 : decode cX0_append 46 = .ok (.aload_n 0, 1) := by decide +kernel
theorem dX0_append_47 : decode cX0_append 47 = .ok (.getfield 44, 3) := by decide +kernel
theorem dX0_append_50 : decode cX0_append 50 = .ok (.iload_n 2, 1) := by decide +kernel
theorem dX0_append_51 : decode cX0_append 51 = .ok (.invokestatic 113, 3) := by decide +kernel
theorem dX0_append_54 : decode cX0_append 54 = .ok (.aload_n 0, 1) := by decide +kernel
theorem dX0_append_55 : decode cX0_append 55 = .ok (.getfield 32, 3) := by decide +kernel
theorem dX0_append_58 : decode cX0_append 58 = .ok (.aload_n 0, 1) := by decide +kernel
theorem dX0_append_59 : decode cX0_append 59 = .ok (.getfield 44, 3) := by decide +kernel
theorem dX0_append_62 : decode cX0_append 62 = .ok (.aload_n 0, 1) := by decide +kernel
theorem dX0_append_63 : decode cX0_append 63 = .ok (.getfield 44, 3) := by decide +kernel
theorem dX0_append_66 : decode cX0_append 66 = .ok (.invokestatic 113, 3) := by decide +kernel
theorem dX0_append_69 : decode cX0_append 69 = .ok (.aload_n 0, 1) := by decide +kernel
theorem dX0_append_70 : decode cX0_append 70 = .ok (.dup, 1) := by decide +kernel
theorem dX0_append_71 : decode cX0_append 71 = .ok (.getfield 44, 3) := by decide +kernel
theorem dX0_append_74 : decode cX0_append 74 = .ok (.iconst 1, 1) := by decide +kernel
theorem dX0_append_75 : decode cX0_append 75 = .ok (.iadd, 1) := by decide +kernel
theorem dX0_append_76 : decode cX0_append 76 = .ok (.putfield 44, 3) := by decide +kernel
theorem dX0_append_79 : decode cX0_append 79 = .ok (.return_, 1) := by decide +kernel
theorem dX0_spilledPairs_0 : decode cX0_spilledPairs 0 = .ok (.aload_n 0, 1) := by decide +kernel
theorem dX0_spilledPairs_1 : decode cX0_spilledPairs 1 = .ok (.getfield 47, 3) := by decide +kernel
theorem dX0_spilledPairs_4 : decode cX0_spilledPairs 4 = .ok (.aload_n 0, 1) := by decide +kernel
theorem dX0_spilledPairs_5 : decode cX0_spilledPairs 5 = .ok (.getfield 18, 3) := by decide +kernel
theorem dX0_spilledPairs_8 : decode cX0_spilledPairs 8 = .ok (.imul, 1) := by decide +kernel
theorem dX0_spilledPairs_9 : decode cX0_spilledPairs 9 = .ok (.ireturn, 1) := by decide +kernel
theorem dX0_sortWorkArea_0 : decode cX0_sortWorkArea 0 = .ok (.aload_n 0, 1) := by decide +kernel
theorem dX0_sortWorkArea_1 : decode cX0_sortWorkArea 1 = .ok (.invokevirtual 109, 3) := by decide +kernel
theorem dX0_sortWorkArea_4 : decode cX0_sortWorkArea 4 = .ok (.istore_n 1, 1) := by decide +kernel
theorem dX0_sortWorkArea_5 : decode cX0_sortWorkArea 5 = .ok (.iload_n 1, 1) := by decide +kernel
theorem dX0_sortWorkArea_6 : decode cX0_sortWorkArea 6 = .ok (.iconst 1, 1) := by decide +kernel
theorem dX0_sortWorkArea_7 : decode cX0_sortWorkArea 7 = .ok (.iadd, 1) := by decide +kernel
theorem dX0_sortWorkArea_8 : decode cX0_sortWorkArea 8 = .ok (.istore_n 2, 1) := by decide +kernel
theorem dX0_sortWorkArea_9 : decode cX0_sortWorkArea 9 = .ok (.iload_n 2, 1) := by decide +kernel
theorem dX0_sortWorkArea_10 : decode cX0_sortWorkArea 10 = .ok (.aload_n 0, 1) := by decide +kernel
theorem dX0_sortWorkArea_11 : decode cX0_sortWorkArea 11 = .ok (.getfield 44, 3) := by decide +kernel
theorem dX0_sortWorkArea_14 : decode cX0_sortWorkArea 14 = .ok (.if_icmp .ge 15, 3) := by decide +kernel
theorem dX0_sortWorkArea_17 : decode cX0_sortWorkArea 17 = .ok (.aload_n 0, 1) := by decide +kernel
theorem dX0_sortWorkArea_18 : decode cX0_sortWorkArea 18 = .ok (.iload_n 1, 1) := by decide +kernel
theorem dX0_sortWorkArea_19 : decode cX0_sortWorkArea 19 = .ok (.iload_n 2, 1) := by decide +kernel
theorem dX0_sortWorkArea_20 : decode cX0_sortWorkArea 20 = .ok (.invokevirtual 117, 3) := by decide +kernel
theorem dX0_sortWorkArea_23 : decode cX0_sortWorkArea 23 = .ok (.iinc 2 1, 3) := by decide +kernel
theorem dX0_sortWorkArea_26 : decode cX0_sortWorkArea 26 = .ok (.goto (-17), 3) := by decide +kernel
theorem dX0_sortWorkArea_29 : decode cX0_sortWorkArea 29 = .ok (.return_, 1) := by decide +kernel
theorem dX0_insertRow_0 : decode cX0_insertRow 0 = .ok (.aload_n 0, 1) := by decide +kernel
theorem dX0_insertRow_1 : decode cX0_insertRow 1 = .ok (.getfield 32, 3) := by decide +kernel
theorem dX0_insertRow_4 : decode cX0_insertRow 4 = .ok (.iload_n 2, 1) := by decide +kernel
theorem dX0_insertRow_5 : decode cX0_insertRow 5 = .ok (.invokestatic 105, 3) := by decide +kernel
theorem dX0_insertRow_8 : decode cX0_insertRow 8 = .ok (.istore_n 3, 1) := by decide +kernel
theorem dX0_insertRow_9 : decode cX0_insertRow 9 = .ok (.aload_n 0, 1) := by decide +kernel
theorem dX0_insertRow_10 : decode cX0_insertRow 10 = .ok (.getfield 25, 3) := by decide +kernel
theorem dX0_insertRow_13 : decode cX0_insertRow 13 = .ok (.iload_n 3, 1) := by decide +kernel
theorem dX0_insertRow_14 : decode cX0_insertRow 14 = .ok (.invokestatic 105, 3) := by decide +kernel
theorem dX0_insertRow_17 : decode cX0_insertRow 17 = .ok (.istore 4, 2) := by decide +kernel
theorem dX0_insertRow_19 : decode cX0_insertRow 19 = .ok (.iload_n 2, 1) := by decide +kernel
theorem dX0_insertRow_20 : decode cX0_insertRow 20 = .ok (.istore 5, 2) := by decide +kernel
theorem dX0_insertRow_22 : decode cX0_insertRow 22 = .ok (.iload 5, 2) := by decide +kernel
theorem dX0_insertRow_24 : decode cX0_insertRow 24 = .ok (.iload_n 1, 1) := by decide +kernel
theorem dX0_insertRow_25 : decode cX0_insertRow 25 = .ok (.if_icmp .le 42, 3) := by decide +kernel
theorem dX0_insertRow_28 : decode cX0_insertRow 28 = .ok (.aload_n 0, 1) := by decide +kernel
theorem dX0_insertRow_29 : decode cX0_insertRow 29 = .ok (.iload 5, 2) := by decide +kernel
theorem dX0_insertRow_31 : decode cX0_insertRow 31 = .ok (.iconst 1, 1) := by decide +kernel
theorem dX0_insertRow_32 : decode cX0_insertRow 32 = .ok (.isub, 1) := by decide +kernel
theorem dX0_insertRow_33 : decode cX0_insertRow 33 = .ok (.invokevirtual 83, 3) := by decide +kernel
theorem dX0_insertRow_36 : decode cX0_insertRow 36 = .ok (.iload 4, 2) := by decide +kernel
theorem dX0_insertRow_38 : decode cX0_insertRow 38 = .ok (.if_icmp .le 29, 3) := by decide +kernel
theorem dX0_insertRow_41 : decode cX0_insertRow 41 = .ok (.aload_n 0, 1) := by decide +kernel
theorem dX0_insertRow_42 : decode cX0_insertRow 42 = .ok (.getfield 32, 3) := by decide +kernel
theorem dX0_insertRow_45 : decode cX0_insertRow 45 = .ok (.iload 5, 2) := by decide +kernel
theorem dX0_insertRow_47 : decode cX0_insertRow 47 = .ok (.aload_n 0, 1) := by decide +kernel
theorem dX0_insertRow_48 : decode cX0_insertRow 48 = .ok (.getfield 32, 3) := by decide +kernel
theorem dX0_insertRow_51 : decode cX0_insertRow 51 = .ok (.iload 5, 2) := by decide +kernel
theorem dX0_insertRow_53 : decode cX0_insertRow 53 = .ok (.iconst 1, 1) := by decide +kernel
theorem dX0_insertRow_54 : decode cX0_insertRow 54 = .ok (.isub, 1) := by decide +kernel
theorem dX0_insertRow_55 : decode cX0_insertRow 55 = .ok (.invokestatic 105, 3) := by decide +kernel
theorem dX0_insertRow_58 : decode cX0_insertRow 58 = .ok (.invokestatic 113, 3) := by decide +kernel
theorem dX0_insertRow_61 : decode cX0_insertRow 61 = .ok (.iinc 5 (-1), 3) := by decide +kernel
theorem dX0_insertRow_64 : decode cX0_insertRow 64 = .ok (.goto (-42), 3) := by decide +kernel
theorem dX0_insertRow_67 : decode cX0_insertRow 67 = .ok (.aload_n 0, 1) := by decide +kernel
theorem dX0_insertRow_68 : decode cX0_insertRow 68 = .ok (.getfield 32, 3) := by decide +kernel
theorem dX0_insertRow_71 : decode cX0_insertRow 71 = .ok (.iload 5, 2) := by decide +kernel
theorem dX0_insertRow_73 : decode cX0_insertRow 73 = .ok (.iload_n 3, 1) := by decide +kernel
theorem dX0_insertRow_74 : decode cX0_insertRow 74 = .ok (.invokestatic 113, 3) := by decide +kernel
theorem dX0_insertRow_77 : decode cX0_insertRow 77 = .ok (.return_, 1) := by decide +kernel
theorem dX0_countRowsOfRuns_0 : decode cX0_countRowsOfRuns 0 = .ok (.aload_n 0, 1) := by decide +kernel
theorem dX0_countRowsOfRuns_1 : decode cX0_countRowsOfRuns 1 = .ok (.aload_n 0, 1) := by decide +kernel
theorem dX0_countRowsOfRuns_2 : decode cX0_countRowsOfRuns 2 = .ok (.getfield 44, 3) := by decide +kernel
theorem dX0_countRowsOfRuns_5 : decode cX0_countRowsOfRuns 5 = .ok (.ifCond .ne 7, 3) := by decide +kernel
theorem dX0_countRowsOfRuns_8 : decode cX0_countRowsOfRuns 8 = .ok (.iconst 0, 1) := by decide +kernel
theorem dX0_countRowsOfRuns_9 : decode cX0_countRowsOfRuns 9 = .ok (.goto 9, 3) := by decide +kernel
theorem dX0_countRowsOfRuns_12 : decode cX0_countRowsOfRuns 12 = .ok (.aload_n 0, 1) := by decide +kernel
theorem dX0_countRowsOfRuns_13 : decode cX0_countRowsOfRuns 13 = .ok (.getfield 47, 3) := by decide +kernel
theorem dX0_countRowsOfRuns_16 : decode cX0_countRowsOfRuns 16 = .ok (.iconst 1, 1) := by decide +kernel
theorem dX0_countRowsOfRuns_17 : decode cX0_countRowsOfRuns 17 = .ok (.iadd, 1) := by decide +kernel
theorem dX0_countRowsOfRuns_18 : decode cX0_countRowsOfRuns 18 = .ok (.putfield 57, 3) := by decide +kernel
theorem dX0_countRowsOfRuns_21 : decode cX0_countRowsOfRuns 21 = .ok (.iconst 0, 1) := by decide +kernel
theorem dX0_countRowsOfRuns_22 : decode cX0_countRowsOfRuns 22 = .ok (.istore_n 1, 1) := by decide +kernel
theorem dX0_countRowsOfRuns_23 : decode cX0_countRowsOfRuns 23 = .ok (.iload_n 1, 1) := by decide +kernel
theorem dX0_countRowsOfRuns_24 : decode cX0_countRowsOfRuns 24 = .ok (.aload_n 0, 1) := by decide +kernel
theorem dX0_countRowsOfRuns_25 : decode cX0_countRowsOfRuns 25 = .ok (.getfield 57, 3) := by decide +kernel
theorem dX0_countRowsOfRuns_28 : decode cX0_countRowsOfRuns 28 = .ok (.if_icmp .ge 35, 3) := by decide +kernel
theorem dX0_countRowsOfRuns_31 : decode cX0_countRowsOfRuns 31 = .ok (.aload_n 0, 1) := by decide +kernel
theorem dX0_countRowsOfRuns_32 : decode cX0_countRowsOfRuns 32 = .ok (.getfield 38, 3) := by decide +kernel
theorem dX0_countRowsOfRuns_35 : decode cX0_countRowsOfRuns 35 = .ok (.iload_n 1, 1) := by decide +kernel
theorem dX0_countRowsOfRuns_36 : decode cX0_countRowsOfRuns 36 = .ok (.aload_n 0, 1) := by decide +kernel
theorem dX0_countRowsOfRuns_37 : decode cX0_countRowsOfRuns 37 = .ok (.getfield 18, 3) := by decide +kernel
theorem dX0_countRowsOfRuns_40 : decode cX0_countRowsOfRuns 40 = .ok (.aload_n 0, 1) := by decide +kernel
theorem dX0_countRowsOfRuns_41 : decode cX0_countRowsOfRuns 41 = .ok (.getfield 44, 3) := by decide +kernel
theorem dX0_countRowsOfRuns_44 : decode cX0_countRowsOfRuns 44 = .ok (.iload_n 1, 1) := by decide +kernel
theorem dX0_countRowsOfRuns_45 : decode cX0_countRowsOfRuns 45 = .ok (.aload_n 0, 1) := by decide +kernel
theorem dX0_countRowsOfRuns_46 : decode cX0_countRowsOfRuns 46 = .ok (.getfield 18, 3) := by decide +kernel
theorem dX0_countRowsOfRuns_49 : decode cX0_countRowsOfRuns 49 = .ok (.imul, 1) := by decide +kernel
theorem dX0_countRowsOfRuns_50 : decode cX0_countRowsOfRuns 50 = .ok (.isub, 1) := by decide +kernel
theorem dX0_countRowsOfRuns_51 : decode cX0_countRowsOfRuns 51 = .ok (.invokestatic 9, 3) := by decide +kernel
theorem dX0_countRowsOfRuns_54 : decode cX0_countRowsOfRuns 54 = .ok (.invokestatic 113, 3) := by decide +kernel
theorem dX0_countRowsOfRuns_57 : decode cX0_countRowsOfRuns 57 = .ok (.iinc 1 1, 3) := by decide +kernel
theorem dX0_countRowsOfRuns_60 : decode cX0_countRowsOfRuns 60 = .ok (.goto (-37), 3) := by decide +kernel
theorem dX0_countRowsOfRuns_63 : decode cX0_countRowsOfRuns 63 = .ok (.return_, 1) := by decide +kernel
theorem dX0_mergeRuns_0 : decode cX0_mergeRuns 0 = .ok (.aload_n 0, 1) := by decide +kernel
theorem dX0_mergeRuns_1 : decode cX0_mergeRuns 1 = .ok (.getfield 18, 3) := by decide +kernel
theorem dX0_mergeRuns_4 : decode cX0_mergeRuns 4 = .ok (.istore_n 1, 1) := by decide +kernel
theorem dX0_mergeRuns_5 : decode cX0_mergeRuns 5 = .ok (.iconst 0, 1) := by decide +kernel
theorem dX0_mergeRuns_6 : decode cX0_mergeRuns 6 = .ok (.istore_n 2, 1) := by decide +kernel
theorem dX0_mergeRuns_7 : decode cX0_mergeRuns 7 = .ok (.iload_n 2, 1) := by decide +kernel
theorem dX0_mergeRuns_8 : decode cX0_mergeRuns 8 = .ok (.bipush 11, 2) := by decide +kernel
theorem dX0_mergeRuns_10 : decode cX0_mergeRuns 10 = .ok (.if_icmp .ge 26, 3) := by decide +kernel
theorem dX0_mergeRuns_13 : decode cX0_mergeRuns 13 = .ok (.iload_n 1, 1) := by decide +kernel
theorem dX0_mergeRuns_14 : decode cX0_mergeRuns 14 = .ok (.aload_n 0, 1) := by decide +kernel
theorem dX0_mergeRuns_15 : decode cX0_mergeRuns 15 = .ok (.getfield 44, 3) := by decide +kernel
theorem dX0_mergeRuns_18 : decode cX0_mergeRuns 18 = .ok (.if_icmp .ge 18, 3) := by decide +kernel
theorem dX0_mergeRuns_21 : decode cX0_mergeRuns 21 = .ok (.aload_n 0, 1) := by decide +kernel
theorem dX0_mergeRuns_22 : decode cX0_mergeRuns 22 = .ok (.iload_n 1, 1) := by decide +kernel
theorem dX0_mergeRuns_23 : decode cX0_mergeRuns 23 = .ok (.invokevirtual 120, 3) := by decide +kernel
theorem dX0_mergeRuns_26 : decode cX0_mergeRuns 26 = .ok (.iload_n 1, 1) := by decide +kernel
theorem dX0_mergeRuns_27 : decode cX0_mergeRuns 27 = .ok (.iload_n 1, 1) := by decide +kernel
theorem dX0_mergeRuns_28 : decode cX0_mergeRuns 28 = .ok (.iadd, 1) := by decide +kernel
theorem dX0_mergeRuns_29 : decode cX0_mergeRuns 29 = .ok (.istore_n 1, 1) := by decide +kernel
theorem dX0_mergeRuns_30 : decode cX0_mergeRuns 30 = .ok (.iinc 2 1, 3) := by decide +kernel
theorem dX0_mergeRuns_33 : decode cX0_mergeRuns 33 = .ok (.goto (-26), 3) := by decide +kernel
theorem dX0_mergeRuns_36 : decode cX0_mergeRuns 36 = .ok (.return_, 1) := by decide +kernel
theorem dX0_mergeNeighbours_0 : decode cX0_mergeNeighbours 0 = .ok (.iconst 0, 1) := by decide +kernel
theorem dX0_mergeNeighbours_1 : decode cX0_mergeNeighbours 1 = .ok (.istore_n 2, 1) := by decide +kernel
theorem dX0_mergeNeighbours_2 : decode cX0_mergeNeighbours 2 = .ok (.iload_n 1, 1) := by decide +kernel
theorem dX0_mergeNeighbours_3 : decode cX0_mergeNeighbours 3 = .ok (.ifCond .le 42, 3) := by decide +kernel
theorem dX0_mergeNeighbours_6 : decode cX0_mergeNeighbours 6 = .ok (.iload_n 2, 1) := by decide +kernel
theorem dX0_mergeNeighbours_7 : decode cX0_mergeNeighbours 7 = .ok (.iload_n 1, 1) := by decide +kernel
theorem dX0_mergeNeighbours_8 : decode cX0_mergeNeighbours 8 = .ok (.iadd, 1) := by decide +kernel
theorem dX0_mergeNeighbours_9 : decode cX0_mergeNeighbours 9 = .ok (.aload_n 0, 1) := by decide +kernel
theorem dX0_mergeNeighbours_10 : decode cX0_mergeNeighbours 10 = .ok (.getfield 44, 3) := by decide +kernel
theorem dX0_mergeNeighbours_13 : decode cX0_mergeNeighbours 13 = .ok (.if_icmp .ge 32, 3) := by decide +kernel
