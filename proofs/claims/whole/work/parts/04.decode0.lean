theorem dX0_init_0 : decode cX0_init 0 = .ok (.aload_n 0, 1) := by decide +kernel
theorem dX0_init_1 : decode cX0_init 1 = .ok (.invokespecial 1, 3) := by decide +kernel
theorem dX0_init_4 : decode cX0_init 4 = .ok (.aload_n 0, 1) := by decide +kernel
theorem dX0_init_5 : decode cX0_init 5 = .ok (.iconst 1, 1) := by decide +kernel
theorem dX0_init_6 : decode cX0_init 6 = .ok (.bipush 64, 2) := by decide +kernel
theorem dX0_init_8 : decode cX0_init 8 = .ok (.iload_n 1, 1) := by decide +kernel
theorem dX0_init_9 : decode cX0_init 9 = .ok (.invokestatic 9, 3) := by decide +kernel
theorem dX0_init_12 : decode cX0_init 12 = .ok (.invokestatic 15, 3) := by decide +kernel
theorem dX0_init_15 : decode cX0_init 15 = .ok (.putfield 18, 3) := by decide +kernel
theorem dX0_init_18 : decode cX0_init 18 = .ok (.iconst 1, 1) := by decide +kernel
theorem dX0_init_19 : decode cX0_init 19 = .ok (.sipush 2000, 3) := by decide +kernel
theorem dX0_init_22 : decode cX0_init 22 = .ok (.iload_n 2, 1) := by decide +kernel
theorem dX0_init_23 : decode cX0_init 23 = .ok (.invokestatic 9, 3) := by decide +kernel
theorem dX0_init_26 : decode cX0_init 26 = .ok (.invokestatic 15, 3) := by decide +kernel
theorem dX0_init_29 : decode cX0_init 29 = .ok (.istore_n 3, 1) := by decide +kernel
theorem dX0_init_30 : decode cX0_init 30 = .ok (.iload_n 3, 1) := by decide +kernel
theorem dX0_init_31 : decode cX0_init 31 = .ok (.aload_n 0, 1) := by decide +kernel
theorem dX0_init_32 : decode cX0_init 32 = .ok (.getfield 18, 3) := by decide +kernel
theorem dX0_init_35 : decode cX0_init 35 = .ok (.idiv, 1) := by decide +kernel
theorem dX0_init_36 : decode cX0_init 36 = .ok (.iconst 1, 1) := by decide +kernel
theorem dX0_init_37 : decode cX0_init 37 = .ok (.iadd, 1) := by decide +kernel
theorem dX0_init_38 : decode cX0_init 38 = .ok (.istore 4, 2) := by decide +kernel
theorem dX0_init_40 : decode cX0_init 40 = .ok (.aload_n 0, 1) := by decide +kernel
theorem dX0_init_41 : decode cX0_init 41 = .ok (.aload_n 0, 1) := by decide +kernel
theorem dX0_init_42 : decode cX0_init 42 = .ok (.getfield 18, 3) := by decide +kernel
theorem dX0_init_45 : decode cX0_init 45 = .ok (.iload 4, 2) := by decide +kernel
theorem dX0_init_47 : decode cX0_init 47 = .ok (.imul, 1) := by decide +kernel
theorem dX0_init_48 : decode cX0_init 48 = .ok (.putfield 22, 3) := by decide +kernel
theorem dX0_init_51 : decode cX0_init 51 = .ok (.aload_n 0, 1) := by decide +kernel
theorem dX0_init_52 : decode cX0_init 52 = .ok (.aload_n 0, 1) := by decide +kernel
theorem dX0_init_53 : decode cX0_init 53 = .ok (.getfield 22, 3) := by decide +kernel
theorem dX0_init_56 : decode cX0_init 56 = .ok (.newarray .int, 2) := by decide +kernel
theorem dX0_init_58 : decode cX0_init 58 = .ok (.putfield 25, 3) := by decide +kernel
theorem dX0_init_61 : decode cX0_init 61 = .ok (.aload_n 0, 1) := by decide +kernel
theorem dX0_init_62 : decode cX0_init 62 = .ok (.aload_n 0, 1) := by decide +kernel
theorem dX0_init_63 : decode cX0_init 63 = .ok (.getfield 22, 3) := by decide +kernel
theorem dX0_init_66 : decode cX0_init 66 = .ok (.newarray .int, 2) := by decide +kernel
theorem dX0_init_68 : decode cX0_init 68 = .ok (.putfield 29, 3) := by decide +kernel
theorem dX0_init_71 : decode cX0_init 71 = .ok (.aload_n 0, 1) := by decide +kernel
theorem dX0_init_72 : decode cX0_init 72 = .ok (.aload_n 0, 1) := by decide +kernel
theorem dX0_init_73 : decode cX0_init 73 = .ok (.getfield 22, 3) := by decide +kernel
theorem dX0_init_76 : decode cX0_init 76 = .ok (.newarray .int, 2) := by decide +kernel
theorem dX0_init_78 : decode cX0_init 78 = .ok (.putfield 32, 3) := by decide +kernel
theorem dX0_init_81 : decode cX0_init 81 = .ok (.aload_n 0, 1) := by decide +kernel
theorem dX0_init_82 : decode cX0_init 82 = .ok (.aload_n 0, 1) := by decide +kernel
theorem dX0_init_83 : decode cX0_init 83 = .ok (.getfield 22, 3) := by decide +kernel
theorem dX0_init_86 : decode cX0_init 86 = .ok (.newarray .int, 2) := by decide +kernel
theorem dX0_init_88 : decode cX0_init 88 = .ok (.putfield 35, 3) := by decide +kernel
theorem dX0_init_91 : decode cX0_init 91 = .ok (.aload_n 0, 1) := by decide +kernel
theorem dX0_init_92 : decode cX0_init 92 = .ok (.iload 4, 2) := by decide +kernel
theorem dX0_init_94 : decode cX0_init 94 = .ok (.newarray .int, 2) := by decide +kernel
theorem dX0_init_96 : decode cX0_init 96 = .ok (.putfield 38, 3) := by decide +kernel
theorem dX0_init_99 : decode cX0_init 99 = .ok (.aload_n 0, 1) := by decide +kernel
theorem dX0_init_100 : decode cX0_init 100 = .ok (.iconst 4, 1) := by decide +kernel
theorem dX0_init_101 : decode cX0_init 101 = .ok (.newarray .int, 2) := by decide +kernel
theorem dX0_init_103 : decode cX0_init 103 = .ok (.putfield 41, 3) := by decide +kernel
theorem dX0_init_106 : decode cX0_init 106 = .ok (.return_, 1) := by decide +kernel
theorem dX0_reset_0 : decode cX0_reset 0 = .ok (.aload_n 0, 1) := by decide +kernel
theorem dX0_reset_1 : decode cX0_reset 1 = .ok (.iconst 0, 1) := by decide +kernel
theorem dX0_reset_2 : decode cX0_reset 2 = .ok (.putfield 44, 3) := by decide +kernel
theorem dX0_reset_5 : decode cX0_reset 5 = .ok (.aload_n 0, 1) := by decide +kernel
theorem dX0_reset_6 : decode cX0_reset 6 = .ok (.iconst 0, 1) := by decide +kernel
theorem dX0_reset_7 : decode cX0_reset 7 = .ok (.putfield 47, 3) := by decide +kernel
theorem dX0_reset_10 : decode cX0_reset 10 = .ok (.aload_n 0, 1) := by decide +kernel
theorem dX0_reset_11 : decode cX0_reset 11 = .ok (.iconst 0, 1) := by decide +kernel
theorem dX0_reset_12 : decode cX0_reset 12 = .ok (.putfield 50, 3) := by decide +kernel
theorem dX0_reset_15 : decode cX0_reset 15 = .ok (.aload_n 0, 1) := by decide +kernel
theorem dX0_reset_16 : decode cX0_reset 16 = .ok (.iconst 0, 1) := by decide +kernel
theorem dX0_reset_17 : decode cX0_reset 17 = .ok (.putfield 54, 3) := by decide +kernel
theorem dX0_reset_20 : decode cX0_reset 20 = .ok (.aload_n 0, 1) := by decide +kernel
theorem dX0_reset_21 : decode cX0_reset 21 = .ok (.iconst 0, 1) := by decide +kernel
theorem dX0_reset_22 : decode cX0_reset 22 = .ok (.putfield 57, 3) := by decide +kernel
theorem dX0_reset_25 : decode cX0_reset 25 = .ok (.aload_n 0, 1) := by decide +kernel
theorem dX0_reset_26 : decode cX0_reset 26 = .ok (.invokevirtual 60, 3) := by decide +kernel
theorem dX0_reset_29 : decode cX0_reset 29 = .ok (.return_, 1) := by decide +kernel
theorem dX0_feed_0 : decode cX0_feed 0 = .ok (.aload_n 0, 1) := by decide +kernel
theorem dX0_feed_1 : decode cX0_feed 1 = .ok (.getfield 50, 3) := by decide +kernel
theorem dX0_feed_4 : decode cX0_feed 4 = .ok (.ifCond .eq 6, 3) := by decide +kernel
theorem dX0_feed_7 : decode cX0_feed 7 = .ok (.bipush (-3), 2) := by decide +kernel
theorem dX0_feed_9 : decode cX0_feed 9 = .ok (.ireturn, 1) := by decide +kernel
theorem dX0_feed_10 : decode cX0_feed 10 = .ok (.aload_n 0, 1) := by decide +kernel
theorem dX0_feed_11 : decode cX0_feed 11 = .ok (.getfield 44, 3) := by decide +kernel
theorem dX0_feed_14 : decode cX0_feed 14 = .ok (.aload_n 0, 1) := by decide +kernel
theorem dX0_feed_15 : decode cX0_feed 15 = .ok (.getfield 22, 3) := by decide +kernel
theorem dX0_feed_18 : decode cX0_feed 18 = .ok (.if_icmp .lt 6, 3) := by decide +kernel
theorem dX0_feed_21 : decode cX0_feed 21 = .ok (.bipush (-2), 2) := by decide +kernel
theorem dX0_feed_23 : decode cX0_feed 23 = .ok (.ireturn, 1) := by decide +kernel
theorem dX0_feed_24 : decode cX0_feed 24 = .ok (.aload_n 0, 1) := by decide +kernel
theorem dX0_feed_25 : decode cX0_feed 25 = .ok (.iload_n 1, 1) := by decide +kernel
theorem dX0_feed_26 : decode cX0_feed 26 = .ok (.iload_n 2, 1) := by decide +kernel
theorem dX0_feed_27 : decode cX0_feed 27 = .ok (.invokevirtual 63, 3) := by decide +kernel
theorem dX0_feed_30 : decode cX0_feed 30 = .ok (.iconst 0, 1) := by decide +kernel
theorem dX0_feed_31 : decode cX0_feed 31 = .ok (.ireturn, 1) := by decide +kernel
theorem dX0_feedMany_0 : decode cX0_feedMany 0 = .ok (.iload 4, 2) := by decide +kernel
theorem dX0_feedMany_2 : decode cX0_feedMany 2 = .ok (.ifCond .lt 11, 3) := by decide +kernel
theorem dX0_feedMany_5 : decode cX0_feedMany 5 = .ok (.iload 4, 2) := by decide +kernel
theorem dX0_feedMany_7 : decode cX0_feedMany 7 = .ok (.sipush 200, 3) := by decide +kernel
theorem dX0_feedMany_10 : decode cX0_feedMany 10 = .ok (.if_icmp .le 13, 3) := by decide +kernel
theorem dX0_feedMany_13 : decode cX0_feedMany 13 = .ok (.new 67, 3) := by decide +kernel
theorem dX0_feedMany_16 : decode cX0_feedMany 16 = .ok (.dup, 1) := by decide +kernel
theorem dX0_feedMany_17 : decode cX0_feedMany 17 = .ok (.ldc 69, 2) := by decide +kernel
theorem dX0_feedMany_19 : decode cX0_feedMany 19 = .ok (.invokespecial 71, 3) := by decide +kernel
theorem dX0_feedMany_22 : decode cX0_feedMany 22 = .ok (.athrow, 1) := by decide +kernel
theorem dX0_feedMany_23 : decode cX0_feedMany 23 = .ok (.aload_n 0, 1) := by decide +kernel
theorem dX0_feedMany_24 : decode cX0_feedMany 24 = .ok (.getfield 50, 3) := by decide +kernel
theorem dX0_feedMany_27 : decode cX0_feedMany 27 = .ok (.ifCond .eq 6, 3) := by decide +kernel
theorem dX0_feedMany_30 : decode cX0_feedMany 30 = .ok (.bipush (-3), 2) := by decide +kernel
theorem dX0_feedMany_32 : decode cX0_feedMany 32 = .ok (.ireturn, 1) := by decide +kernel
theorem dX0_feedMany_33 : decode cX0_feedMany 33 = .ok (.iload 4, 2) := by decide +kernel
theorem dX0_feedMany_35 : decode cX0_feedMany 35 = .ok (.aload_n 0, 1) := by decide +kernel
theorem dX0_feedMany_36 : decode cX0_feedMany 36 = .ok (.getfield 22, 3) := by decide +kernel
theorem dX0_feedMany_39 : decode cX0_feedMany 39 = .ok (.aload_n 0, 1) := by decide +kernel
theorem dX0_feedMany_40 : decode cX0_feedMany 40 = .ok (.getfield 44, 3) := by decide +kernel
theorem dX0_feedMany_43 : decode cX0_feedMany 43 = .ok (.isub, 1) := by decide +kernel
theorem dX0_feedMany_44 : decode cX0_feedMany 44 = .ok (.invokestatic 9, 3) := by decide +kernel
theorem dX0_feedMany_47 : decode cX0_feedMany 47 = .ok (.istore 5, 2) := by decide +kernel
theorem dX0_feedMany_49 : decode cX0_feedMany 49 = .ok (.iconst 0, 1) := by decide +kernel
theorem dX0_feedMany_50 : decode cX0_feedMany 50 = .ok (.istore 6, 2) := by decide +kernel
theorem dX0_feedMany_52 : decode cX0_feedMany 52 = .ok (.iload 6, 2) := by decide +kernel
theorem dX0_feedMany_54 : decode cX0_feedMany 54 = .ok (.iload 5, 2) := by decide +kernel
theorem dX0_feedMany_56 : decode cX0_feedMany 56 = .ok (.if_icmp .ge 23, 3) := by decide +kernel
theorem dX0_feedMany_59 : decode cX0_feedMany 59 = .ok (.aload_n 0, 1) := by decide +kernel
theorem dX0_feedMany_60 : decode cX0_feedMany 60 = .ok (.iload_n 1, 1) := by decide +kernel
theorem dX0_feedMany_61 : decode cX0_feedMany 61 = .ok (.iload 6, 2) := by decide +kernel
theorem dX0_feedMany_63 : decode cX0_feedMany 63 = .ok (.iload_n 2, 1) := by decide +kernel
theorem dX0_feedMany_64 : decode cX0_feedMany 64 = .ok (.imul, 1) := by decide +kernel
theorem dX0_feedMany_65 : decode cX0_feedMany 65 = .ok (.iadd, 1) := by decide +kernel
theorem dX0_feedMany_66 : decode cX0_feedMany 66 = .ok (.iload_n 3, 1) := by decide +kernel
theorem dX0_feedMany_67 : decode cX0_feedMany 67 = .ok (.iload 6, 2) := by decide +kernel
theorem dX0_feedMany_69 : decode cX0_feedMany 69 = .ok (.iadd, 1) := by decide +kernel
theorem dX0_feedMany_70 : decode cX0_feedMany 70 = .ok (.invokevirtual 63, 3) := by decide +kernel
theorem dX0_feedMany_73 : decode cX0_feedMany 73 = .ok (.iinc 6 1, 3) := by decide +kernel
theorem dX0_feedMany_76 : decode cX0_feedMany 76 = .ok (.goto (-24), 3) := by decide +kernel
theorem dX0_feedMany_79 : decode cX0_feedMany 79 = .ok (.iload 5, 2) := by decide +kernel
theorem dX0_feedMany_81 : decode cX0_feedMany 81 = .ok (.ireturn, 1) := by decide +kernel
theorem dX0_seal_0 : decode cX0_seal 0 = .ok (.aload_n 0, 1) := by decide +kernel
theorem dX0_seal_1 : decode cX0_seal 1 = .ok (.getfield 50, 3) := by decide +kernel
theorem dX0_seal_4 : decode cX0_seal 4 = .ok (.ifCond .eq 6, 3) := by decide +kernel
theorem dX0_seal_7 : decode cX0_seal 7 = .ok (.bipush (-3), 2) := by decide +kernel
theorem dX0_seal_9 : decode cX0_seal 9 = .ok (.ireturn, 1) := by decide +kernel
theorem dX0_seal_10 : decode cX0_seal 10 = .ok (.aload_n 0, 1) := by decide +kernel
theorem dX0_seal_11 : decode cX0_seal 11 = .ok (.invokevirtual 74, 3) := by decide +kernel
theorem dX0_seal_14 : decode cX0_seal 14 = .ok (.aload_n 0, 1) := by decide +kernel
theorem dX0_seal_15 : decode cX0_seal 15 = .ok (.invokevirtual 77, 3) := by decide +kernel
theorem dX0_seal_18 : decode cX0_seal 18 = .ok (.aload_n 0, 1) := by decide +kernel
theorem dX0_seal_19 : decode cX0_seal 19 = .ok (.invokevirtual 80, 3) := by decide +kernel
theorem dX0_seal_22 : decode cX0_seal 22 = .ok (.aload_n 0, 1) := by decide +kernel
theorem dX0_seal_23 : decode cX0_seal 23 = .ok (.iconst 1, 1) := by decide +kernel
theorem dX0_seal_24 : decode cX0_seal 24 = .ok (.putfield 50, 3) := by decide +kernel
theorem dX0_seal_27 : decode cX0_seal 27 = .ok (.iconst 0, 1) := by decide +kernel
theorem dX0_seal_28 : decode cX0_seal 28 = .ok (.ireturn, 1) := by decide +kernel
theorem dX0_nextRow_0 : decode cX0_nextRow 0 = .ok (.aload_n 0, 1) := by decide +kernel
theorem dX0_nextRow_1 : decode cX0_nextRow 1 = .ok (.getfield 50, 3) := by decide +kernel
theorem dX0_nextRow_4 : decode cX0_nextRow 4 = .ok (.ifCond .ne 6, 3) := by decide +kernel
theorem dX0_nextRow_7 : decode cX0_nextRow 7 = .ok (.bipush (-4), 2) := by decide +kernel
theorem dX0_nextRow_9 : decode cX0_nextRow 9 = .ok (.ireturn, 1) := by decide +kernel
theorem dX0_nextRow_10 : decode cX0_nextRow 10 = .ok (.aload_n 0, 1) := by decide +kernel
theorem dX0_nextRow_11 : decode cX0_nextRow 11 = .ok (.invokevirtual 60, 3) := by decide +kernel
theorem dX0_nextRow_14 : decode cX0_nextRow 14 = .ok (.aload_n 0, 1) := by decide +kernel
theorem dX0_nextRow_15 : decode cX0_nextRow 15 = .ok (.getfield 54, 3) := by decide +kernel
theorem dX0_nextRow_18 : decode cX0_nextRow 18 = .ok (.aload_n 0, 1) := by decide +kernel
theorem dX0_nextRow_19 : decode cX0_nextRow 19 = .ok (.getfield 44, 3) := by decide +kernel
theorem dX0_nextRow_22 : decode cX0_nextRow 22 = .ok (.if_icmp .lt 5, 3) := by decide +kernel
theorem dX0_nextRow_25 : decode cX0_nextRow 25 = .ok (.iconst (-1), 1) := by decide +kernel
theorem dX0_nextRow_26 : decode cX0_nextRow 26 = .ok (.ireturn, 1) := by decide +kernel
theorem dX0_nextRow_27 : decode cX0_nextRow 27 = .ok (.aload_n 0, 1) := by decide +kernel
theorem dX0_nextRow_28 : decode cX0_nextRow 28 = .ok (.aload_n 0, 1) := by decide +kernel
theorem dX0_nextRow_29 : decode cX0_nextRow 29 = .ok (.aload_n 0, 1) := by decide +kernel
theorem dX0_nextRow_30 : decode cX0_nextRow 30 = .ok (.getfield 54, 3) := by decide +kernel
theorem dX0_nextRow_33 : decode cX0_nextRow 33 = .ok (.invokevirtual 83, 3) := by decide +kernel
theorem dX0_nextRow_36 : decode cX0_nextRow 36 = .ok (.putfield 87, 3) := by decide +kernel
theorem dX0_nextRow_39 : decode cX0_nextRow 39 = .ok (.aload_n 0, 1) := by decide +kernel
theorem dX0_nextRow_40 : decode cX0_nextRow 40 = .ok (.aload_n 0, 1) := by decide +kernel
theorem dX0_nextRow_41 : decode cX0_nextRow 41 = .ok (.aload_n 0, 1) := by decide +kernel
theorem dX0_nextRow_42 : decode cX0_nextRow 42 = .ok (.getfield 54, 3) := by decide +kernel
theorem dX0_nextRow_45 : decode cX0_nextRow 45 = .ok (.invokevirtual 90, 3) := by decide +kernel
theorem dX0_nextRow_48 : decode cX0_nextRow 48 = .ok (.putfield 93, 3) := by decide +kernel
theorem dX0_nextRow_51 : decode cX0_nextRow 51 = .ok (.aload_n 0, 1) := by decide +kernel
theorem dX0_nextRow_52 : decode cX0_nextRow 52 = .ok (.aload_n 0, 1) := by decide +kernel
theorem dX0_nextRow_53 : decode cX0_nextRow 53 = .ok (.getfield 54, 3) := by decide +kernel
theorem dX0_nextRow_56 : decode cX0_nextRow 56 = .ok (.invokevirtual 96, 3) := by decide +kernel
theorem dX0_nextRow_59 : decode cX0_nextRow 59 = .ok (.aload_n 0, 1) := by decide +kernel
theorem dX0_nextRow_60 : decode cX0_nextRow 60 = .ok (.dup, 1) := by decide +kernel
theorem dX0_nextRow_61 : decode cX0_nextRow 61 = .ok (.getfield 54, 3) := by decide +kernel
theorem dX0_nextRow_64 : decode cX0_nextRow 64 = .ok (.iconst 1, 1) := by decide +kernel
theorem dX0_nextRow_65 : decode cX0_nextRow 65 = .ok (.iadd, 1) := by decide +kernel
theorem dX0_nextRow_66 : decode cX0_nextRow 66 = .ok (.putfield 54, 3) := by decide +kernel
theorem dX0_nextRow_69 : decode cX0_nextRow 69 = .ok (.iconst 1, 1) := by decide +kernel
theorem dX0_nextRow_70 : decode cX0_nextRow 70 = .ok (.ireturn, 1) := by decide +kernel
theorem dX0_nextGroup_0 : decode cX0_nextGroup 0 = .ok (.aload_n 0, 1) := by decide +kernel
theorem dX0_nextGroup_1 : decode cX0_nextGroup 1 = .ok (.getfield 50, 3) := by decide +kernel
theorem dX0_nextGroup_4 : decode cX0_nextGroup 4 = .ok (.ifCond .ne 6, 3) := by decide +kernel
theorem dX0_nextGroup_7 : decode cX0_nextGroup 7 = .ok (.bipush (-4), 2) := by decide +kernel
theorem dX0_nextGroup_9 : decode cX0_nextGroup 9 = .ok (.ireturn, 1) := by decide +kernel
theorem dX0_nextGroup_10 : decode cX0_nextGroup 10 = .ok (.aload_n 0, 1) := by decide +kernel
theorem dX0_nextGroup_11 : decode cX0_nextGroup 11 = .ok (.invokevirtual 60, 3) := by decide +kernel
theorem dX0_nextGroup_14 : decode cX0_nextGroup 14 = .ok (.aload_n 0, 1) := by decide +kernel
theorem dX0_nextGroup_15 : decode cX0_nextGroup 15 = .ok (.getfield 54, 3) := by decide +kernel
theorem dX0_nextGroup_18 : decode cX0_nextGroup 18 = .ok (.aload_n 0, 1) := by decide +kernel
theorem dX0_nextGroup_19 : decode cX0_nextGroup 19 = .ok (.getfield 44, 3) := by decide +kernel
theorem dX0_nextGroup_22 : decode cX0_nextGroup 22 = .ok (.if_icmp .lt 5, 3) := by decide +kernel
theorem dX0_nextGroup_25 : decode cX0_nextGroup 25 = .ok (.iconst (-1), 1) := by decide +kernel
theorem dX0_nextGroup_26 : decode cX0_nextGroup 26 = .ok (.ireturn, 1) := by decide +kernel
theorem dX0_nextGroup_27 : decode cX0_nextGroup 27 = .ok (.aload_n 0, 1) := by decide +kernel
theorem dX0_nextGroup_28 : decode cX0_nextGroup 28 = .ok (.aload_n 0, 1) := by decide +kernel
theorem dX0_nextGroup_29 : decode cX0_nextGroup 29 = .ok (.aload_n 0, 1) := by decide +kernel
theorem dX0_nextGroup_30 : decode cX0_nextGroup 30 = .ok (.getfield 54, 3) := by decide +kernel
theorem dX0_nextGroup_33 : decode cX0_nextGroup 33 = .ok (.invokevirtual 83, 3) := by decide +kernel
theorem dX0_nextGroup_36 : decode cX0_nextGroup 36 = .ok (.putfield 87, 3) := by decide +kernel
theorem dX0_nextGroup_39 : decode cX0_nextGroup 39 = .ok (.aload_n 0, 1) := by decide +kernel
theorem dX0_nextGroup_40 : decode cX0_nextGroup 40 = .ok (.getfield 54, 3) := by decide +kernel
theorem dX0_nextGroup_43 : decode cX0_nextGroup 43 = .ok (.aload_n 0, 1) := by decide +kernel
theorem dX0_nextGroup_44 : decode cX0_nextGroup 44 = .ok (.getfield 44, 3) := by decide +kernel
theorem dX0_nextGroup_47 : decode cX0_nextGroup 47 = .ok (.if_icmp .ge 51, 3) := by decide +kernel
theorem dX0_nextGroup_50 : decode cX0_nextGroup 50 = .ok (.aload_n 0, 1) := by decide +kernel
theorem dX0_nextGroup_51 : decode cX0_nextGroup 51 = .ok (.aload_n 0, 1) := by decide +kernel
theorem dX0_nextGroup_52 : decode cX0_nextGroup 52 = .ok (.getfield 54, 3) := by decide +kernel
theorem dX0_nextGroup_55 : decode cX0_nextGroup 55 = .ok (.invokevirtual 83, 3) := by decide +kernel
theorem dX0_nextGroup_58 : decode cX0_nextGroup 58 = .ok (.aload_n 0, 1) := by decide +kernel
theorem dX0_nextGroup_59 : decode cX0_nextGroup 59 = .ok (.getfield 87, 3) := by decide +kernel
theorem dX0_nextGroup_62 : decode cX0_nextGroup 62 = .ok (.if_icmp .ne 36, 3) := by decide +kernel
theorem dX0_nextGroup_65 : decode cX0_nextGroup 65 = .ok (.aload_n 0, 1) := by decide +kernel
theorem dX0_nextGroup_66 : decode cX0_nextGroup 66 = .ok (.aload_n 0, 1) := by decide +kernel
theorem dX0_nextGroup_67 : decode cX0_nextGroup 67 = .ok (.aload_n 0, 1) := by decide +kernel
theorem dX0_nextGroup_68 : decode cX0_nextGroup 68 = .ok (.getfield 54, 3) := by decide +kernel
theorem dX0_nextGroup_71 : decode cX0_nextGroup 71 = .ok (.invokevirtual 90, 3) := by decide +kernel
theorem dX0_nextGroup_74 : decode cX0_nextGroup 74 = .ok (.invokevirtual 100, 3) := by decide +kernel
theorem dX0_nextGroup_77 : decode cX0_nextGroup 77 = .ok (.aload_n 0, 1) := by decide +kernel
theorem dX0_nextGroup_78 : decode cX0_nextGroup 78 = .ok (.aload_n 0, 1) := by decide +kernel
theorem dX0_nextGroup_79 : decode cX0_nextGroup 79 = .ok (.getfield 54, 3) := by decide +kernel
theorem dX0_nextGroup_82 : decode cX0_nextGroup 82 = .ok (.invokevirtual 96, 3) := by decide +kernel
theorem dX0_nextGroup_85 : decode cX0_nextGroup 85 = .ok (.aload_n 0, 1) := by decide +kernel
theorem dX0_nextGroup_86 : decode cX0_nextGroup 86 = .ok (.dup, 1) := by decide +kernel
theorem dX0_nextGroup_87 : decode cX0_nextGroup 87 = .ok (.getfield 54, 3) := by decide +kernel
theorem dX0_nextGroup_90 : decode cX0_nextGroup 90 = .ok (.iconst 1, 1) := by decide +kernel
theorem dX0_nextGroup_91 : decode cX0_nextGroup 91 = .ok (.iadd, 1) := by decide +kernel
theorem dX0_nextGroup_92 : decode cX0_nextGroup 92 = .ok (.putfield 54, 3) := by decide +kernel
theorem dX0_nextGroup_95 : decode cX0_nextGroup 95 = .ok (.goto (-56), 3) := by decide +kernel
theorem dX0_nextGroup_98 : decode cX0_nextGroup 98 = .ok (.iconst 2, 1) := by decide +kernel
theorem dX0_nextGroup_99 : decode cX0_nextGroup 99 = .ok (.ireturn, 1) := by decide +kernel
theorem dX0_skipTo_0 : decode cX0_skipTo 0 = .ok (.aload_n 0, 1) := by decide +kernel
theorem dX0_skipTo_1 : decode cX0_skipTo 1 = .ok (.getfield 50, 3) := by decide +kernel
theorem dX0_skipTo_4 : decode cX0_skipTo 4 = .ok (.ifCond .ne 6, 3) := by decide +kernel
theorem dX0_skipTo_7 : decode cX0_skipTo 7 = .ok (.bipush (-4), 2) := by decide +kernel
theorem dX0_skipTo_9 : decode cX0_skipTo 9 = .ok (.ireturn, 1) := by decide +kernel
theorem dX0_skipTo_10 : decode cX0_skipTo 10 = .ok (.aload_n 0, 1) := by decide +kernel
theorem dX0_skipTo_11 : decode cX0_skipTo 11 = .ok (.invokevirtual 60, 3) := by decide +kernel
theorem dX0_skipTo_14 : decode cX0_skipTo 14 = .ok (.aload_n 0, 1) := by decide +kernel
theorem dX0_skipTo_15 : decode cX0_skipTo 15 = .ok (.getfield 54, 3) := by decide +kernel
theorem dX0_skipTo_18 : decode cX0_skipTo 18 = .ok (.istore_n 2, 1) := by decide +kernel
