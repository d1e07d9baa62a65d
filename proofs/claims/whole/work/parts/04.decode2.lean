theorem dX0_mergeNeighbours_16 : decode cX0_mergeNeighbours 16 = .ok (.aload_n 0, 1) := by decide +kernel
theorem dX0_mergeNeighbours_17 : decode cX0_mergeNeighbours 17 = .ok (.iload_n 2, 1) := by decide +kernel
theorem dX0_mergeNeighbours_18 : decode cX0_mergeNeighbours 18 = .ok (.iload_n 2, 1) := by decide +kernel
theorem dX0_mergeNeighbours_19 : decode cX0_mergeNeighbours 19 = .ok (.iload_n 1, 1) := by decide +kernel
theorem dX0_mergeNeighbours_20 : decode cX0_mergeNeighbours 20 = .ok (.iadd, 1) := by decide +kernel
theorem dX0_mergeNeighbours_21 : decode cX0_mergeNeighbours 21 = .ok (.iload_n 2, 1) := by decide +kernel
theorem dX0_mergeNeighbours_22 : decode cX0_mergeNeighbours 22 = .ok (.iload_n 1, 1) := by decide +kernel
theorem dX0_mergeNeighbours_23 : decode cX0_mergeNeighbours 23 = .ok (.iadd, 1) := by decide +kernel
theorem dX0_mergeNeighbours_24 : decode cX0_mergeNeighbours 24 = .ok (.iload_n 1, 1) := by decide +kernel
theorem dX0_mergeNeighbours_25 : decode cX0_mergeNeighbours 25 = .ok (.iadd, 1) := by decide +kernel
theorem dX0_mergeNeighbours_26 : decode cX0_mergeNeighbours 26 = .ok (.aload_n 0, 1) := by decide +kernel
theorem dX0_mergeNeighbours_27 : decode cX0_mergeNeighbours 27 = .ok (.getfield 44, 3) := by decide +kernel
theorem dX0_mergeNeighbours_30 : decode cX0_mergeNeighbours 30 = .ok (.invokestatic 9, 3) := by decide +kernel
theorem dX0_mergeNeighbours_33 : decode cX0_mergeNeighbours 33 = .ok (.invokevirtual 123, 3) := by decide +kernel
theorem dX0_mergeNeighbours_36 : decode cX0_mergeNeighbours 36 = .ok (.iload_n 2, 1) := by decide +kernel
theorem dX0_mergeNeighbours_37 : decode cX0_mergeNeighbours 37 = .ok (.iload_n 1, 1) := by decide +kernel
theorem dX0_mergeNeighbours_38 : decode cX0_mergeNeighbours 38 = .ok (.iload_n 1, 1) := by decide +kernel
theorem dX0_mergeNeighbours_39 : decode cX0_mergeNeighbours 39 = .ok (.iadd, 1) := by decide +kernel
theorem dX0_mergeNeighbours_40 : decode cX0_mergeNeighbours 40 = .ok (.iadd, 1) := by decide +kernel
theorem dX0_mergeNeighbours_41 : decode cX0_mergeNeighbours 41 = .ok (.istore_n 2, 1) := by decide +kernel
theorem dX0_mergeNeighbours_42 : decode cX0_mergeNeighbours 42 = .ok (.goto (-40), 3) := by decide +kernel
theorem dX0_mergeNeighbours_45 : decode cX0_mergeNeighbours 45 = .ok (.return_, 1) := by decide +kernel
theorem dX0_mergeStretches_0 : decode cX0_mergeStretches 0 = .ok (.iload_n 1, 1) := by decide +kernel
theorem dX0_mergeStretches_1 : decode cX0_mergeStretches 1 = .ok (.istore 4, 2) := by decide +kernel
theorem dX0_mergeStretches_3 : decode cX0_mergeStretches 3 = .ok (.iload_n 2, 1) := by decide +kernel
theorem dX0_mergeStretches_4 : decode cX0_mergeStretches 4 = .ok (.istore 5, 2) := by decide +kernel
theorem dX0_mergeStretches_6 : decode cX0_mergeStretches 6 = .ok (.iload_n 1, 1) := by decide +kernel
theorem dX0_mergeStretches_7 : decode cX0_mergeStretches 7 = .ok (.istore 6, 2) := by decide +kernel
theorem dX0_mergeStretches_9 : decode cX0_mergeStretches 9 = .ok (.iload 6, 2) := by decide +kernel
theorem dX0_mergeStretches_11 : decode cX0_mergeStretches 11 = .ok (.iload_n 3, 1) := by decide +kernel
theorem dX0_mergeStretches_12 : decode cX0_mergeStretches 12 = .ok (.if_icmp .ge 81, 3) := by decide +kernel
theorem dX0_mergeStretches_15 : decode cX0_mergeStretches 15 = .ok (.iload 5, 2) := by decide +kernel
theorem dX0_mergeStretches_17 : decode cX0_mergeStretches 17 = .ok (.iload_n 3, 1) := by decide +kernel
theorem dX0_mergeStretches_18 : decode cX0_mergeStretches 18 = .ok (.if_icmp .ge 24, 3) := by decide +kernel
theorem dX0_mergeStretches_21 : decode cX0_mergeStretches 21 = .ok (.iload 4, 2) := by decide +kernel
theorem dX0_mergeStretches_23 : decode cX0_mergeStretches 23 = .ok (.iload_n 2, 1) := by decide +kernel
theorem dX0_mergeStretches_24 : decode cX0_mergeStretches 24 = .ok (.if_icmp .ge 42, 3) := by decide +kernel
theorem dX0_mergeStretches_27 : decode cX0_mergeStretches 27 = .ok (.aload_n 0, 1) := by decide +kernel
theorem dX0_mergeStretches_28 : decode cX0_mergeStretches 28 = .ok (.iload 4, 2) := by decide +kernel
theorem dX0_mergeStretches_30 : decode cX0_mergeStretches 30 = .ok (.invokevirtual 83, 3) := by decide +kernel
theorem dX0_mergeStretches_33 : decode cX0_mergeStretches 33 = .ok (.aload_n 0, 1) := by decide +kernel
theorem dX0_mergeStretches_34 : decode cX0_mergeStretches 34 = .ok (.iload 5, 2) := by decide +kernel
theorem dX0_mergeStretches_36 : decode cX0_mergeStretches 36 = .ok (.invokevirtual 83, 3) := by decide +kernel
theorem dX0_mergeStretches_39 : decode cX0_mergeStretches 39 = .ok (.if_icmp .gt 27, 3) := by decide +kernel
theorem dX0_mergeStretches_42 : decode cX0_mergeStretches 42 = .ok (.aload_n 0, 1) := by decide +kernel
theorem dX0_mergeStretches_43 : decode cX0_mergeStretches 43 = .ok (.getfield 35, 3) := by decide +kernel
theorem dX0_mergeStretches_46 : decode cX0_mergeStretches 46 = .ok (.iload 6, 2) := by decide +kernel
theorem dX0_mergeStretches_48 : decode cX0_mergeStretches 48 = .ok (.aload_n 0, 1) := by decide +kernel
theorem dX0_mergeStretches_49 : decode cX0_mergeStretches 49 = .ok (.getfield 32, 3) := by decide +kernel
theorem dX0_mergeStretches_52 : decode cX0_mergeStretches 52 = .ok (.iload 4, 2) := by decide +kernel
theorem dX0_mergeStretches_54 : decode cX0_mergeStretches 54 = .ok (.invokestatic 105, 3) := by decide +kernel
theorem dX0_mergeStretches_57 : decode cX0_mergeStretches 57 = .ok (.invokestatic 113, 3) := by decide +kernel
theorem dX0_mergeStretches_60 : decode cX0_mergeStretches 60 = .ok (.iinc 4 1, 3) := by decide +kernel
theorem dX0_mergeStretches_63 : decode cX0_mergeStretches 63 = .ok (.goto 24, 3) := by decide +kernel
theorem dX0_mergeStretches_66 : decode cX0_mergeStretches 66 = .ok (.aload_n 0, 1) := by decide +kernel
theorem dX0_mergeStretches_67 : decode cX0_mergeStretches 67 = .ok (.getfield 35, 3) := by decide +kernel
theorem dX0_mergeStretches_70 : decode cX0_mergeStretches 70 = .ok (.iload 6, 2) := by decide +kernel
theorem dX0_mergeStretches_72 : decode cX0_mergeStretches 72 = .ok (.aload_n 0, 1) := by decide +kernel
theorem dX0_mergeStretches_73 : decode cX0_mergeStretches 73 = .ok (.getfield 32, 3) := by decide +kernel
theorem dX0_mergeStretches_76 : decode cX0_mergeStretches 76 = .ok (.iload 5, 2) := by decide +kernel
theorem dX0_mergeStretches_78 : decode cX0_mergeStretches 78 = .ok (.invokestatic 105, 3) := by decide +kernel
theorem dX0_mergeStretches_81 : decode cX0_mergeStretches 81 = .ok (.invokestatic 113, 3) := by decide +kernel
theorem dX0_mergeStretches_84 : decode cX0_mergeStretches 84 = .ok (.iinc 5 1, 3) := by decide +kernel
theorem dX0_mergeStretches_87 : decode cX0_mergeStretches 87 = .ok (.iinc 6 1, 3) := by decide +kernel
theorem dX0_mergeStretches_90 : decode cX0_mergeStretches 90 = .ok (.goto (-81), 3) := by decide +kernel
theorem dX0_mergeStretches_93 : decode cX0_mergeStretches 93 = .ok (.iload_n 1, 1) := by decide +kernel
theorem dX0_mergeStretches_94 : decode cX0_mergeStretches 94 = .ok (.istore 6, 2) := by decide +kernel
theorem dX0_mergeStretches_96 : decode cX0_mergeStretches 96 = .ok (.iload 6, 2) := by decide +kernel
theorem dX0_mergeStretches_98 : decode cX0_mergeStretches 98 = .ok (.iload_n 3, 1) := by decide +kernel
theorem dX0_mergeStretches_99 : decode cX0_mergeStretches 99 = .ok (.if_icmp .ge 27, 3) := by decide +kernel
theorem dX0_mergeStretches_102 : decode cX0_mergeStretches 102 = .ok (.aload_n 0, 1) := by decide +kernel
theorem dX0_mergeStretches_103 : decode cX0_mergeStretches 103 = .ok (.getfield 32, 3) := by decide +kernel
theorem dX0_mergeStretches_106 : decode cX0_mergeStretches 106 = .ok (.iload 6, 2) := by decide +kernel
theorem dX0_mergeStretches_108 : decode cX0_mergeStretches 108 = .ok (.aload_n 0, 1) := by decide +kernel
theorem dX0_mergeStretches_109 : decode cX0_mergeStretches 109 = .ok (.getfield 35, 3) := by decide +kernel
theorem dX0_mergeStretches_112 : decode cX0_mergeStretches 112 = .ok (.iload 6, 2) := by decide +kernel
theorem dX0_mergeStretches_114 : decode cX0_mergeStretches 114 = .ok (.invokestatic 105, 3) := by decide +kernel
theorem dX0_mergeStretches_117 : decode cX0_mergeStretches 117 = .ok (.invokestatic 113, 3) := by decide +kernel
theorem dX0_mergeStretches_120 : decode cX0_mergeStretches 120 = .ok (.iinc 6 1, 3) := by decide +kernel
theorem dX0_mergeStretches_123 : decode cX0_mergeStretches 123 = .ok (.goto (-27), 3) := by decide +kernel
theorem dX0_mergeStretches_126 : decode cX0_mergeStretches 126 = .ok (.return_, 1) := by decide +kernel
theorem dX0_keyOfRow_0 : decode cX0_keyOfRow 0 = .ok (.aload_n 0, 1) := by decide +kernel
theorem dX0_keyOfRow_1 : decode cX0_keyOfRow 1 = .ok (.getfield 25, 3) := by decide +kernel
theorem dX0_keyOfRow_4 : decode cX0_keyOfRow 4 = .ok (.aload_n 0, 1) := by decide +kernel
theorem dX0_keyOfRow_5 : decode cX0_keyOfRow 5 = .ok (.getfield 32, 3) := by decide +kernel
theorem dX0_keyOfRow_8 : decode cX0_keyOfRow 8 = .ok (.iload_n 1, 1) := by decide +kernel
theorem dX0_keyOfRow_9 : decode cX0_keyOfRow 9 = .ok (.invokestatic 105, 3) := by decide +kernel
theorem dX0_keyOfRow_12 : decode cX0_keyOfRow 12 = .ok (.invokestatic 105, 3) := by decide +kernel
theorem dX0_keyOfRow_15 : decode cX0_keyOfRow 15 = .ok (.ireturn, 1) := by decide +kernel
theorem dX0_valueOfRow_0 : decode cX0_valueOfRow 0 = .ok (.aload_n 0, 1) := by decide +kernel
theorem dX0_valueOfRow_1 : decode cX0_valueOfRow 1 = .ok (.getfield 29, 3) := by decide +kernel
theorem dX0_valueOfRow_4 : decode cX0_valueOfRow 4 = .ok (.aload_n 0, 1) := by decide +kernel
theorem dX0_valueOfRow_5 : decode cX0_valueOfRow 5 = .ok (.getfield 32, 3) := by decide +kernel
theorem dX0_valueOfRow_8 : decode cX0_valueOfRow 8 = .ok (.iload_n 1, 1) := by decide +kernel
theorem dX0_valueOfRow_9 : decode cX0_valueOfRow 9 = .ok (.invokestatic 105, 3) := by decide +kernel
theorem dX0_valueOfRow_12 : decode cX0_valueOfRow 12 = .ok (.invokestatic 105, 3) := by decide +kernel
theorem dX0_valueOfRow_15 : decode cX0_valueOfRow 15 = .ok (.ireturn, 1) := by decide +kernel
theorem dX0_takeFromRun_0 : decode cX0_takeFromRun 0 = .ok (.aload_n 0, 1) := by decide +kernel
theorem dX0_takeFromRun_1 : decode cX0_takeFromRun 1 = .ok (.getfield 32, 3) := by decide +kernel
theorem dX0_takeFromRun_4 : decode cX0_takeFromRun 4 = .ok (.iload_n 1, 1) := by decide +kernel
theorem dX0_takeFromRun_5 : decode cX0_takeFromRun 5 = .ok (.invokestatic 105, 3) := by decide +kernel
theorem dX0_takeFromRun_8 : decode cX0_takeFromRun 8 = .ok (.aload_n 0, 1) := by decide +kernel
theorem dX0_takeFromRun_9 : decode cX0_takeFromRun 9 = .ok (.getfield 18, 3) := by decide +kernel
theorem dX0_takeFromRun_12 : decode cX0_takeFromRun 12 = .ok (.idiv, 1) := by decide +kernel
theorem dX0_takeFromRun_13 : decode cX0_takeFromRun 13 = .ok (.istore_n 2, 1) := by decide +kernel
theorem dX0_takeFromRun_14 : decode cX0_takeFromRun 14 = .ok (.aload_n 0, 1) := by decide +kernel
theorem dX0_takeFromRun_15 : decode cX0_takeFromRun 15 = .ok (.getfield 38, 3) := by decide +kernel
theorem dX0_takeFromRun_18 : decode cX0_takeFromRun 18 = .ok (.iload_n 2, 1) := by decide +kernel
theorem dX0_takeFromRun_19 : decode cX0_takeFromRun 19 = .ok (.invokestatic 105, 3) := by decide +kernel
theorem dX0_takeFromRun_22 : decode cX0_takeFromRun 22 = .ok (.iconst 1, 1) := by decide +kernel
theorem dX0_takeFromRun_23 : decode cX0_takeFromRun 23 = .ok (.isub, 1) := by decide +kernel
theorem dX0_takeFromRun_24 : decode cX0_takeFromRun 24 = .ok (.istore_n 3, 1) := by decide +kernel
theorem dX0_takeFromRun_25 : decode cX0_takeFromRun 25 = .ok (.aload_n 0, 1) := by decide +kernel
theorem dX0_takeFromRun_26 : decode cX0_takeFromRun 26 = .ok (.getfield 38, 3) := by decide +kernel
theorem dX0_takeFromRun_29 : decode cX0_takeFromRun 29 = .ok (.iload_n 2, 1) := by decide +kernel
theorem dX0_takeFromRun_30 : decode cX0_takeFromRun 30 = .ok (.iload_n 3, 1) := by decide +kernel
theorem dX0_takeFromRun_31 : decode cX0_takeFromRun 31 = .ok (.invokestatic 113, 3) := by decide +kernel
theorem dX0_takeFromRun_34 : decode cX0_takeFromRun 34 = .ok (.iload_n 3, 1) := by decide +kernel
theorem dX0_takeFromRun_35 : decode cX0_takeFromRun 35 = .ok (.ifCond .ne 13, 3) := by decide +kernel
theorem dX0_takeFromRun_38 : decode cX0_takeFromRun 38 = .ok (.aload_n 0, 1) := by decide +kernel
theorem dX0_takeFromRun_39 : decode cX0_takeFromRun 39 = .ok (.dup, 1) := by decide +kernel
theorem dX0_takeFromRun_40 : decode cX0_takeFromRun 40 = .ok (.getfield 57, 3) := by decide +kernel
theorem dX0_takeFromRun_43 : decode cX0_takeFromRun 43 = .ok (.iconst 1, 1) := by decide +kernel
theorem dX0_takeFromRun_44 : decode cX0_takeFromRun 44 = .ok (.isub, 1) := by decide +kernel
theorem dX0_takeFromRun_45 : decode cX0_takeFromRun 45 = .ok (.putfield 57, 3) := by decide +kernel
theorem dX0_takeFromRun_48 : decode cX0_takeFromRun 48 = .ok (.return_, 1) := by decide +kernel
theorem dX0_addToGroup_0 : decode cX0_addToGroup 0 = .ok (.aload_n 0, 1) := by decide +kernel
theorem dX0_addToGroup_1 : decode cX0_addToGroup 1 = .ok (.getfield 41, 3) := by decide +kernel
theorem dX0_addToGroup_4 : decode cX0_addToGroup 4 = .ok (.iconst 0, 1) := by decide +kernel
theorem dX0_addToGroup_5 : decode cX0_addToGroup 5 = .ok (.invokestatic 105, 3) := by decide +kernel
theorem dX0_addToGroup_8 : decode cX0_addToGroup 8 = .ok (.ifCond .ne 7, 3) := by decide +kernel
theorem dX0_addToGroup_11 : decode cX0_addToGroup 11 = .ok (.iconst 1, 1) := by decide +kernel
theorem dX0_addToGroup_12 : decode cX0_addToGroup 12 = .ok (.goto 4, 3) := by decide +kernel
theorem dX0_addToGroup_15 : decode cX0_addToGroup 15 = .ok (.iconst 0, 1) := by decide +kernel
theorem dX0_addToGroup_16 : decode cX0_addToGroup 16 = .ok (.istore_n 2, 1) := by decide +kernel
theorem dX0_addToGroup_17 : decode cX0_addToGroup 17 = .ok (.aload_n 0, 1) := by decide +kernel
theorem dX0_addToGroup_18 : decode cX0_addToGroup 18 = .ok (.getfield 41, 3) := by decide +kernel
theorem dX0_addToGroup_21 : decode cX0_addToGroup 21 = .ok (.iconst 0, 1) := by decide +kernel
theorem dX0_addToGroup_22 : decode cX0_addToGroup 22 = .ok (.aload_n 0, 1) := by decide +kernel
theorem dX0_addToGroup_23 : decode cX0_addToGroup 23 = .ok (.getfield 41, 3) := by decide +kernel
theorem dX0_addToGroup_26 : decode cX0_addToGroup 26 = .ok (.iconst 0, 1) := by decide +kernel
theorem dX0_addToGroup_27 : decode cX0_addToGroup 27 = .ok (.invokestatic 105, 3) := by decide +kernel
theorem dX0_addToGroup_30 : decode cX0_addToGroup 30 = .ok (.iconst 1, 1) := by decide +kernel
theorem dX0_addToGroup_31 : decode cX0_addToGroup 31 = .ok (.iadd, 1) := by decide +kernel
theorem dX0_addToGroup_32 : decode cX0_addToGroup 32 = .ok (.invokestatic 113, 3) := by decide +kernel
theorem dX0_addToGroup_35 : decode cX0_addToGroup 35 = .ok (.aload_n 0, 1) := by decide +kernel
theorem dX0_addToGroup_36 : decode cX0_addToGroup 36 = .ok (.getfield 41, 3) := by decide +kernel
theorem dX0_addToGroup_39 : decode cX0_addToGroup 39 = .ok (.iconst 1, 1) := by decide +kernel
theorem dX0_addToGroup_40 : decode cX0_addToGroup 40 = .ok (.aload_n 0, 1) := by decide +kernel
theorem dX0_addToGroup_41 : decode cX0_addToGroup 41 = .ok (.getfield 41, 3) := by decide +kernel
theorem dX0_addToGroup_44 : decode cX0_addToGroup 44 = .ok (.iconst 1, 1) := by decide +kernel
theorem dX0_addToGroup_45 : decode cX0_addToGroup 45 = .ok (.invokestatic 105, 3) := by decide +kernel
theorem dX0_addToGroup_48 : decode cX0_addToGroup 48 = .ok (.iload_n 1, 1) := by decide +kernel
theorem dX0_addToGroup_49 : decode cX0_addToGroup 49 = .ok (.iadd, 1) := by decide +kernel
theorem dX0_addToGroup_50 : decode cX0_addToGroup 50 = .ok (.invokestatic 113, 3) := by decide +kernel
theorem dX0_addToGroup_53 : decode cX0_addToGroup 53 = .ok (.aload_n 0, 1) := by decide +kernel
theorem dX0_addToGroup_54 : decode cX0_addToGroup 54 = .ok (.getfield 41, 3) := by decide +kernel
theorem dX0_addToGroup_57 : decode cX0_addToGroup 57 = .ok (.iconst 2, 1) := by decide +kernel
theorem dX0_addToGroup_58 : decode cX0_addToGroup 58 = .ok (.iload_n 2, 1) := by decide +kernel
theorem dX0_addToGroup_59 : decode cX0_addToGroup 59 = .ok (.ifCond .eq 7, 3) := by decide +kernel
theorem dX0_addToGroup_62 : decode cX0_addToGroup 62 = .ok (.iload_n 1, 1) := by decide +kernel
theorem dX0_addToGroup_63 : decode cX0_addToGroup 63 = .ok (.goto 15, 3) := by decide +kernel
theorem dX0_addToGroup_66 : decode cX0_addToGroup 66 = .ok (.aload_n 0, 1) := by decide +kernel
theorem dX0_addToGroup_67 : decode cX0_addToGroup 67 = .ok (.getfield 41, 3) := by decide +kernel
theorem dX0_addToGroup_70 : decode cX0_addToGroup 70 = .ok (.iconst 2, 1) := by decide +kernel
theorem dX0_addToGroup_71 : decode cX0_addToGroup 71 = .ok (.invokestatic 105, 3) := by decide +kernel
theorem dX0_addToGroup_74 : decode cX0_addToGroup 74 = .ok (.iload_n 1, 1) := by decide +kernel
theorem dX0_addToGroup_75 : decode cX0_addToGroup 75 = .ok (.invokestatic 9, 3) := by decide +kernel
theorem dX0_addToGroup_78 : decode cX0_addToGroup 78 = .ok (.invokestatic 113, 3) := by decide +kernel
theorem dX0_addToGroup_81 : decode cX0_addToGroup 81 = .ok (.aload_n 0, 1) := by decide +kernel
theorem dX0_addToGroup_82 : decode cX0_addToGroup 82 = .ok (.getfield 41, 3) := by decide +kernel
theorem dX0_addToGroup_85 : decode cX0_addToGroup 85 = .ok (.iconst 3, 1) := by decide +kernel
theorem dX0_addToGroup_86 : decode cX0_addToGroup 86 = .ok (.iload_n 2, 1) := by decide +kernel
theorem dX0_addToGroup_87 : decode cX0_addToGroup 87 = .ok (.ifCond .eq 7, 3) := by decide +kernel
theorem dX0_addToGroup_90 : decode cX0_addToGroup 90 = .ok (.iload_n 1, 1) := by decide +kernel
theorem dX0_addToGroup_91 : decode cX0_addToGroup 91 = .ok (.goto 15, 3) := by decide +kernel
theorem dX0_addToGroup_94 : decode cX0_addToGroup 94 = .ok (.aload_n 0, 1) := by decide +kernel
theorem dX0_addToGroup_95 : decode cX0_addToGroup 95 = .ok (.getfield 41, 3) := by decide +kernel
theorem dX0_addToGroup_98 : decode cX0_addToGroup 98 = .ok (.iconst 3, 1) := by decide +kernel
theorem dX0_addToGroup_99 : decode cX0_addToGroup 99 = .ok (.invokestatic 105, 3) := by decide +kernel
theorem dX0_addToGroup_102 : decode cX0_addToGroup 102 = .ok (.iload_n 1, 1) := by decide +kernel
theorem dX0_addToGroup_103 : decode cX0_addToGroup 103 = .ok (.invokestatic 15, 3) := by decide +kernel
theorem dX0_addToGroup_106 : decode cX0_addToGroup 106 = .ok (.invokestatic 113, 3) := by decide +kernel
theorem dX0_addToGroup_109 : decode cX0_addToGroup 109 = .ok (.return_, 1) := by decide +kernel
theorem dX0_clearCurrent_0 : decode cX0_clearCurrent 0 = .ok (.aload_n 0, 1) := by decide +kernel
theorem dX0_clearCurrent_1 : decode cX0_clearCurrent 1 = .ok (.iconst 0, 1) := by decide +kernel
theorem dX0_clearCurrent_2 : decode cX0_clearCurrent 2 = .ok (.putfield 87, 3) := by decide +kernel
theorem dX0_clearCurrent_5 : decode cX0_clearCurrent 5 = .ok (.aload_n 0, 1) := by decide +kernel
theorem dX0_clearCurrent_6 : decode cX0_clearCurrent 6 = .ok (.iconst 0, 1) := by decide +kernel
theorem dX0_clearCurrent_7 : decode cX0_clearCurrent 7 = .ok (.putfield 93, 3) := by decide +kernel
theorem dX0_clearCurrent_10 : decode cX0_clearCurrent 10 = .ok (.iconst 0, 1) := by decide +kernel
theorem dX0_clearCurrent_11 : decode cX0_clearCurrent 11 = .ok (.istore_n 1, 1) := by decide +kernel
theorem dX0_clearCurrent_12 : decode cX0_clearCurrent 12 = .ok (.iload_n 1, 1) := by decide +kernel
theorem dX0_clearCurrent_13 : decode cX0_clearCurrent 13 = .ok (.iconst 4, 1) := by decide +kernel
theorem dX0_clearCurrent_14 : decode cX0_clearCurrent 14 = .ok (.if_icmp .ge 18, 3) := by decide +kernel
theorem dX0_clearCurrent_17 : decode cX0_clearCurrent 17 = .ok (.aload_n 0, 1) := by decide +kernel
theorem dX0_clearCurrent_18 : decode cX0_clearCurrent 18 = .ok (.getfield 41, 3) := by decide +kernel
theorem dX0_clearCurrent_21 : decode cX0_clearCurrent 21 = .ok (.iload_n 1, 1) := by decide +kernel
theorem dX0_clearCurrent_22 : decode cX0_clearCurrent 22 = .ok (.iconst 0, 1) := by decide +kernel
theorem dX0_clearCurrent_23 : decode cX0_clearCurrent 23 = .ok (.invokestatic 113, 3) := by decide +kernel
theorem dX0_clearCurrent_26 : decode cX0_clearCurrent 26 = .ok (.iinc 1 1, 3) := by decide +kernel
theorem dX0_clearCurrent_29 : decode cX0_clearCurrent 29 = .ok (.goto (-17), 3) := by decide +kernel
theorem dX0_clearCurrent_32 : decode cX0_clearCurrent 32 = .ok (.return_, 1) := by decide +kernel
theorem dX0_at_0 : decode cX0_at 0 = .ok (.iload_n 1, 1) := by decide +kernel
theorem dX0_at_1 : decode cX0_at 1 = .ok (.ifCond .lt 15, 3) := by decide +kernel
theorem dX0_at_4 : decode cX0_at 4 = .ok (.iload_n 1, 1) := by decide +kernel
theorem dX0_at_5 : decode cX0_at 5 = .ok (.aload_n 0, 1) := by decide +kernel
theorem dX0_at_6 : decode cX0_at 6 = .ok (.arraylength, 1) := by decide +kernel
theorem dX0_at_7 : decode cX0_at 7 = .ok (.if_icmp .ge 9, 3) := by decide +kernel
theorem dX0_at_10 : decode cX0_at 10 = .ok (.aload_n 0, 1) := by decide +kernel
theorem dX0_at_11 : decode cX0_at 11 = .ok (.iload_n 1, 1) := by decide +kernel
theorem dX0_at_12 : decode cX0_at 12 = .ok (.iaload, 1) := by decide +kernel
theorem dX0_at_13 : decode cX0_at 13 = .ok (.goto 4, 3) := by decide +kernel
theorem dX0_at_16 : decode cX0_at 16 = .ok (.iconst 0, 1) := by decide +kernel
theorem dX0_at_17 : decode cX0_at 17 = .ok (.ireturn, 1) := by decide +kernel
theorem dX0_put_0 : decode cX0_put 0 = .ok (.iload_n 1, 1) := by decide +kernel
theorem dX0_put_1 : decode cX0_put 1 = .ok (.ifCond .lt 13, 3) := by decide +kernel
theorem dX0_put_4 : decode cX0_put 4 = .ok (.iload_n 1, 1) := by decide +kernel
theorem dX0_put_5 : decode cX0_put 5 = .ok (.aload_n 0, 1) := by decide +kernel
theorem dX0_put_6 : decode cX0_put 6 = .ok (.arraylength, 1) := by decide +kernel
theorem dX0_put_7 : decode cX0_put 7 = .ok (.if_icmp .ge 7, 3) := by decide +kernel
theorem dX0_put_10 : decode cX0_put 10 = .ok (.aload_n 0, 1) := by decide +kernel
theorem dX0_put_11 : decode cX0_put 11 = .ok (.iload_n 1, 1) := by decide +kernel
theorem dX0_put_12 : decode cX0_put 12 = .ok (.iload_n 2, 1) := by decide +kernel
theorem dX0_put_13 : decode cX0_put 13 = .ok (.iastore, 1) := by decide +kernel
theorem dX0_put_14 : decode cX0_put 14 = .ok (.return_, 1) := by decide +kernel
theorem dX1_init_0 : decode cX1_init 0 = .ok (.aload_n 0, 1) := by decide +kernel
theorem dX1_init_1 : decode cX1_init 1 = .ok (.invokespecial 1, 3) := by decide +kernel
theorem dX1_init_4 : decode cX1_init 4 = .ok (.aload_n 0, 1) := by decide +kernel
theorem dX1_init_5 : decode cX1_init 5 = .ok (.sipush 2064, 3) := by decide +kernel
theorem dX1_init_8 : decode cX1_init 8 = .ok (.newarray .int, 2) := by decide +kernel
theorem dX1_init_10 : decode cX1_init 10 = .ok (.putfield 7, 3) := by decide +kernel
theorem dX1_init_13 : decode cX1_init 13 = .ok (.aload_n 0, 1) := by decide +kernel
theorem dX1_init_14 : decode cX1_init 14 = .ok (.sipush 2064, 3) := by decide +kernel
theorem dX1_init_17 : decode cX1_init 17 = .ok (.newarray .int, 2) := by decide +kernel
theorem dX1_init_19 : decode cX1_init 19 = .ok (.putfield 13, 3) := by decide +kernel
theorem dX1_init_22 : decode cX1_init 22 = .ok (.aload_n 0, 1) := by decide +kernel
theorem dX1_init_23 : decode cX1_init 23 = .ok (.sipush 2064, 3) := by decide +kernel
theorem dX1_init_26 : decode cX1_init 26 = .ok (.newarray .int, 2) := by decide +kernel
theorem dX1_init_28 : decode cX1_init 28 = .ok (.putfield 16, 3) := by decide +kernel
theorem dX1_init_31 : decode cX1_init 31 = .ok (.aload_n 0, 1) := by decide +kernel
theorem dX1_init_32 : decode cX1_init 32 = .ok (.sipush 2064, 3) := by decide +kernel
theorem dX1_init_35 : decode cX1_init 35 = .ok (.newarray .boolean, 2) := by decide +kernel
theorem dX1_init_37 : decode cX1_init 37 = .ok (.putfield 19, 3) := by decide +kernel
theorem dX1_init_40 : decode cX1_init 40 = .ok (.iload_n 1, 1) := by decide +kernel
theorem dX1_init_41 : decode cX1_init 41 = .ok (.iconst 1, 1) := by decide +kernel
theorem dX1_init_42 : decode cX1_init 42 = .ok (.if_icmp .ge 7, 3) := by decide +kernel
theorem dX1_init_45 : decode cX1_init 45 = .ok (.iconst 1, 1) := by decide +kernel
theorem dX1_init_46 : decode cX1_init 46 = .ok (.goto 15, 3) := by decide +kernel
theorem dX1_init_49 : decode cX1_init 49 = .ok (.iload_n 1, 1) := by decide +kernel
