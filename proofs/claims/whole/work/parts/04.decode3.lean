theorem dX1_init_50 : decode cX1_init 50 = .ok (.bipush 64, 2) := by decide +kernel
theorem dX1_init_52 : decode cX1_init 52 = .ok (.if_icmp .le 8, 3) := by decide +kernel
theorem dX1_init_55 : decode cX1_init 55 = .ok (.bipush 64, 2) := by decide +kernel
theorem dX1_init_57 : decode cX1_init 57 = .ok (.goto 4, 3) := by decide +kernel
theorem dX1_init_60 : decode cX1_init 60 = .ok (.iload_n 1, 1) := by decide +kernel
theorem dX1_init_61 : decode cX1_init 61 = .ok (.istore_n 3, 1) := by decide +kernel
theorem dX1_init_62 : decode cX1_init 62 = .ok (.iload_n 2, 1) := by decide +kernel
theorem dX1_init_63 : decode cX1_init 63 = .ok (.iconst 1, 1) := by decide +kernel
theorem dX1_init_64 : decode cX1_init 64 = .ok (.if_icmp .ge 7, 3) := by decide +kernel
theorem dX1_init_67 : decode cX1_init 67 = .ok (.iconst 1, 1) := by decide +kernel
theorem dX1_init_68 : decode cX1_init 68 = .ok (.goto 17, 3) := by decide +kernel
theorem dX1_init_71 : decode cX1_init 71 = .ok (.iload_n 2, 1) := by decide +kernel
theorem dX1_init_72 : decode cX1_init 72 = .ok (.sipush 2000, 3) := by decide +kernel
theorem dX1_init_75 : decode cX1_init 75 = .ok (.if_icmp .le 9, 3) := by decide +kernel
theorem dX1_init_78 : decode cX1_init 78 = .ok (.sipush 2000, 3) := by decide +kernel
theorem dX1_init_81 : decode cX1_init 81 = .ok (.goto 4, 3) := by decide +kernel
theorem dX1_init_84 : decode cX1_init 84 = .ok (.iload_n 2, 1) := by decide +kernel
theorem dX1_init_85 : decode cX1_init 85 = .ok (.istore 4, 2) := by decide +kernel
theorem dX1_init_87 : decode cX1_init 87 = .ok (.aload_n 0, 1) := by decide +kernel
theorem dX1_init_88 : decode cX1_init 88 = .ok (.iload_n 3, 1) := by decide +kernel
theorem dX1_init_89 : decode cX1_init 89 = .ok (.putfield 23, 3) := by decide +kernel
theorem dX1_init_92 : decode cX1_init 92 = .ok (.aload_n 0, 1) := by decide +kernel
theorem dX1_init_93 : decode cX1_init 93 = .ok (.iload_n 3, 1) := by decide +kernel
theorem dX1_init_94 : decode cX1_init 94 = .ok (.iload 4, 2) := by decide +kernel
theorem dX1_init_96 : decode cX1_init 96 = .ok (.iload_n 3, 1) := by decide +kernel
theorem dX1_init_97 : decode cX1_init 97 = .ok (.idiv, 1) := by decide +kernel
theorem dX1_init_98 : decode cX1_init 98 = .ok (.iconst 1, 1) := by decide +kernel
theorem dX1_init_99 : decode cX1_init 99 = .ok (.iadd, 1) := by decide +kernel
theorem dX1_init_100 : decode cX1_init 100 = .ok (.imul, 1) := by decide +kernel
theorem dX1_init_101 : decode cX1_init 101 = .ok (.putfield 27, 3) := by decide +kernel
theorem dX1_init_104 : decode cX1_init 104 = .ok (.return_, 1) := by decide +kernel
theorem dX1_thrown_0 : decode cX1_thrown 0 = .ok (.aload_n 0, 1) := by decide +kernel
theorem dX1_thrown_1 : decode cX1_thrown 1 = .ok (.getfield 30, 3) := by decide +kernel
theorem dX1_thrown_4 : decode cX1_thrown 4 = .ok (.ireturn, 1) := by decide +kernel
theorem dX1_reset_0 : decode cX1_reset 0 = .ok (.aload_n 0, 1) := by decide +kernel
theorem dX1_reset_1 : decode cX1_reset 1 = .ok (.iconst 0, 1) := by decide +kernel
theorem dX1_reset_2 : decode cX1_reset 2 = .ok (.putfield 30, 3) := by decide +kernel
theorem dX1_reset_5 : decode cX1_reset 5 = .ok (.aload_n 0, 1) := by decide +kernel
theorem dX1_reset_6 : decode cX1_reset 6 = .ok (.iconst 0, 1) := by decide +kernel
theorem dX1_reset_7 : decode cX1_reset 7 = .ok (.putfield 33, 3) := by decide +kernel
theorem dX1_reset_10 : decode cX1_reset 10 = .ok (.aload_n 0, 1) := by decide +kernel
theorem dX1_reset_11 : decode cX1_reset 11 = .ok (.iconst 0, 1) := by decide +kernel
theorem dX1_reset_12 : decode cX1_reset 12 = .ok (.putfield 36, 3) := by decide +kernel
theorem dX1_reset_15 : decode cX1_reset 15 = .ok (.aload_n 0, 1) := by decide +kernel
theorem dX1_reset_16 : decode cX1_reset 16 = .ok (.iconst 0, 1) := by decide +kernel
theorem dX1_reset_17 : decode cX1_reset 17 = .ok (.putfield 39, 3) := by decide +kernel
theorem dX1_reset_20 : decode cX1_reset 20 = .ok (.aload_n 0, 1) := by decide +kernel
theorem dX1_reset_21 : decode cX1_reset 21 = .ok (.iconst 0, 1) := by decide +kernel
theorem dX1_reset_22 : decode cX1_reset 22 = .ok (.putfield 42, 3) := by decide +kernel
theorem dX1_reset_25 : decode cX1_reset 25 = .ok (.aload_n 0, 1) := by decide +kernel
theorem dX1_reset_26 : decode cX1_reset 26 = .ok (.iconst 0, 1) := by decide +kernel
theorem dX1_reset_27 : decode cX1_reset 27 = .ok (.putfield 46, 3) := by decide +kernel
theorem dX1_reset_30 : decode cX1_reset 30 = .ok (.aload_n 0, 1) := by decide +kernel
theorem dX1_reset_31 : decode cX1_reset 31 = .ok (.iconst 0, 1) := by decide +kernel
theorem dX1_reset_32 : decode cX1_reset 32 = .ok (.putfield 49, 3) := by decide +kernel
theorem dX1_reset_35 : decode cX1_reset 35 = .ok (.return_, 1) := by decide +kernel
theorem dX1_take_0 : decode cX1_take 0 = .ok (.aload_n 0, 1) := by decide +kernel
theorem dX1_take_1 : decode cX1_take 1 = .ok (.getfield 39, 3) := by decide +kernel
theorem dX1_take_4 : decode cX1_take 4 = .ok (.aload_n 0, 1) := by decide +kernel
theorem dX1_take_5 : decode cX1_take 5 = .ok (.getfield 23, 3) := by decide +kernel
theorem dX1_take_8 : decode cX1_take 8 = .ok (.if_icmp .ne 18, 3) := by decide +kernel
theorem dX1_take_11 : decode cX1_take 11 = .ok (.aload_n 0, 1) := by decide +kernel
theorem dX1_take_12 : decode cX1_take 12 = .ok (.dup, 1) := by decide +kernel
theorem dX1_take_13 : decode cX1_take 13 = .ok (.getfield 36, 3) := by decide +kernel
theorem dX1_take_16 : decode cX1_take 16 = .ok (.iconst 1, 1) := by decide +kernel
theorem dX1_take_17 : decode cX1_take 17 = .ok (.iadd, 1) := by decide +kernel
theorem dX1_take_18 : decode cX1_take 18 = .ok (.putfield 36, 3) := by decide +kernel
theorem dX1_take_21 : decode cX1_take 21 = .ok (.aload_n 0, 1) := by decide +kernel
theorem dX1_take_22 : decode cX1_take 22 = .ok (.iconst 0, 1) := by decide +kernel
theorem dX1_take_23 : decode cX1_take 23 = .ok (.putfield 39, 3) := by decide +kernel
theorem dX1_take_26 : decode cX1_take 26 = .ok (.aload_n 0, 1) := by decide +kernel
theorem dX1_take_27 : decode cX1_take 27 = .ok (.getfield 7, 3) := by decide +kernel
theorem dX1_take_30 : decode cX1_take 30 = .ok (.aload_n 0, 1) := by decide +kernel
theorem dX1_take_31 : decode cX1_take 31 = .ok (.getfield 33, 3) := by decide +kernel
theorem dX1_take_34 : decode cX1_take 34 = .ok (.iload_n 1, 1) := by decide +kernel
theorem dX1_take_35 : decode cX1_take 35 = .ok (.iastore, 1) := by decide +kernel
theorem dX1_take_36 : decode cX1_take 36 = .ok (.aload_n 0, 1) := by decide +kernel
theorem dX1_take_37 : decode cX1_take 37 = .ok (.getfield 13, 3) := by decide +kernel
theorem dX1_take_40 : decode cX1_take 40 = .ok (.aload_n 0, 1) := by decide +kernel
theorem dX1_take_41 : decode cX1_take 41 = .ok (.getfield 33, 3) := by decide +kernel
theorem dX1_take_44 : decode cX1_take 44 = .ok (.iload_n 2, 1) := by decide +kernel
theorem dX1_take_45 : decode cX1_take 45 = .ok (.iastore, 1) := by decide +kernel
theorem dX1_take_46 : decode cX1_take 46 = .ok (.aload_n 0, 1) := by decide +kernel
theorem dX1_take_47 : decode cX1_take 47 = .ok (.dup, 1) := by decide +kernel
theorem dX1_take_48 : decode cX1_take 48 = .ok (.getfield 33, 3) := by decide +kernel
theorem dX1_take_51 : decode cX1_take 51 = .ok (.iconst 1, 1) := by decide +kernel
theorem dX1_take_52 : decode cX1_take 52 = .ok (.iadd, 1) := by decide +kernel
theorem dX1_take_53 : decode cX1_take 53 = .ok (.putfield 33, 3) := by decide +kernel
theorem dX1_take_56 : decode cX1_take 56 = .ok (.aload_n 0, 1) := by decide +kernel
theorem dX1_take_57 : decode cX1_take 57 = .ok (.dup, 1) := by decide +kernel
theorem dX1_take_58 : decode cX1_take 58 = .ok (.getfield 39, 3) := by decide +kernel
theorem dX1_take_61 : decode cX1_take 61 = .ok (.iconst 1, 1) := by decide +kernel
theorem dX1_take_62 : decode cX1_take 62 = .ok (.iadd, 1) := by decide +kernel
theorem dX1_take_63 : decode cX1_take 63 = .ok (.putfield 39, 3) := by decide +kernel
theorem dX1_take_66 : decode cX1_take 66 = .ok (.return_, 1) := by decide +kernel
theorem dX1_feed_0 : decode cX1_feed 0 = .ok (.aload_n 0, 1) := by decide +kernel
theorem dX1_feed_1 : decode cX1_feed 1 = .ok (.iconst 0, 1) := by decide +kernel
theorem dX1_feed_2 : decode cX1_feed 2 = .ok (.putfield 30, 3) := by decide +kernel
theorem dX1_feed_5 : decode cX1_feed 5 = .ok (.aload_n 0, 1) := by decide +kernel
theorem dX1_feed_6 : decode cX1_feed 6 = .ok (.getfield 42, 3) := by decide +kernel
theorem dX1_feed_9 : decode cX1_feed 9 = .ok (.ifCond .eq 6, 3) := by decide +kernel
theorem dX1_feed_12 : decode cX1_feed 12 = .ok (.bipush (-3), 2) := by decide +kernel
theorem dX1_feed_14 : decode cX1_feed 14 = .ok (.ireturn, 1) := by decide +kernel
theorem dX1_feed_15 : decode cX1_feed 15 = .ok (.aload_n 0, 1) := by decide +kernel
theorem dX1_feed_16 : decode cX1_feed 16 = .ok (.getfield 33, 3) := by decide +kernel
theorem dX1_feed_19 : decode cX1_feed 19 = .ok (.aload_n 0, 1) := by decide +kernel
theorem dX1_feed_20 : decode cX1_feed 20 = .ok (.getfield 27, 3) := by decide +kernel
theorem dX1_feed_23 : decode cX1_feed 23 = .ok (.if_icmp .ne 6, 3) := by decide +kernel
theorem dX1_feed_26 : decode cX1_feed 26 = .ok (.bipush (-2), 2) := by decide +kernel
theorem dX1_feed_28 : decode cX1_feed 28 = .ok (.ireturn, 1) := by decide +kernel
theorem dX1_feed_29 : decode cX1_feed 29 = .ok (.aload_n 0, 1) := by decide +kernel
theorem dX1_feed_30 : decode cX1_feed 30 = .ok (.iload_n 1, 1) := by decide +kernel
theorem dX1_feed_31 : decode cX1_feed 31 = .ok (.iload_n 2, 1) := by decide +kernel
theorem dX1_feed_32 : decode cX1_feed 32 = .ok (.invokevirtual 52, 3) := by decide +kernel
theorem dX1_feed_35 : decode cX1_feed 35 = .ok (.iconst 0, 1) := by decide +kernel
theorem dX1_feed_36 : decode cX1_feed 36 = .ok (.ireturn, 1) := by decide +kernel
theorem dX1_feedMany_0 : decode cX1_feedMany 0 = .ok (.aload_n 0, 1) := by decide +kernel
theorem dX1_feedMany_1 : decode cX1_feedMany 1 = .ok (.iload 4, 2) := by decide +kernel
theorem dX1_feedMany_3 : decode cX1_feedMany 3 = .ok (.ifCond .lt 11, 3) := by decide +kernel
theorem dX1_feedMany_6 : decode cX1_feedMany 6 = .ok (.iload 4, 2) := by decide +kernel
theorem dX1_feedMany_8 : decode cX1_feedMany 8 = .ok (.sipush 200, 3) := by decide +kernel
theorem dX1_feedMany_11 : decode cX1_feedMany 11 = .ok (.if_icmp .le 7, 3) := by decide +kernel
theorem dX1_feedMany_14 : decode cX1_feedMany 14 = .ok (.iconst 1, 1) := by decide +kernel
theorem dX1_feedMany_15 : decode cX1_feedMany 15 = .ok (.goto 4, 3) := by decide +kernel
theorem dX1_feedMany_18 : decode cX1_feedMany 18 = .ok (.iconst 0, 1) := by decide +kernel
theorem dX1_feedMany_19 : decode cX1_feedMany 19 = .ok (.putfield 30, 3) := by decide +kernel
theorem dX1_feedMany_22 : decode cX1_feedMany 22 = .ok (.aload_n 0, 1) := by decide +kernel
theorem dX1_feedMany_23 : decode cX1_feedMany 23 = .ok (.getfield 30, 3) := by decide +kernel
theorem dX1_feedMany_26 : decode cX1_feedMany 26 = .ok (.ifCond .le 5, 3) := by decide +kernel
theorem dX1_feedMany_29 : decode cX1_feedMany 29 = .ok (.iconst 0, 1) := by decide +kernel
theorem dX1_feedMany_30 : decode cX1_feedMany 30 = .ok (.ireturn, 1) := by decide +kernel
theorem dX1_feedMany_31 : decode cX1_feedMany 31 = .ok (.aload_n 0, 1) := by decide +kernel
theorem dX1_feedMany_32 : decode cX1_feedMany 32 = .ok (.getfield 42, 3) := by decide +kernel
theorem dX1_feedMany_35 : decode cX1_feedMany 35 = .ok (.ifCond .eq 6, 3) := by decide +kernel
theorem dX1_feedMany_38 : decode cX1_feedMany 38 = .ok (.bipush (-3), 2) := by decide +kernel
theorem dX1_feedMany_40 : decode cX1_feedMany 40 = .ok (.ireturn, 1) := by decide +kernel
theorem dX1_feedMany_41 : decode cX1_feedMany 41 = .ok (.iconst 0, 1) := by decide +kernel
theorem dX1_feedMany_42 : decode cX1_feedMany 42 = .ok (.istore 5, 2) := by decide +kernel
theorem dX1_feedMany_44 : decode cX1_feedMany 44 = .ok (.iload 5, 2) := by decide +kernel
theorem dX1_feedMany_46 : decode cX1_feedMany 46 = .ok (.iload 4, 2) := by decide +kernel
theorem dX1_feedMany_48 : decode cX1_feedMany 48 = .ok (.if_icmp .ge 34, 3) := by decide +kernel
theorem dX1_feedMany_51 : decode cX1_feedMany 51 = .ok (.aload_n 0, 1) := by decide +kernel
theorem dX1_feedMany_52 : decode cX1_feedMany 52 = .ok (.getfield 33, 3) := by decide +kernel
theorem dX1_feedMany_55 : decode cX1_feedMany 55 = .ok (.aload_n 0, 1) := by decide +kernel
theorem dX1_feedMany_56 : decode cX1_feedMany 56 = .ok (.getfield 27, 3) := by decide +kernel
theorem dX1_feedMany_59 : decode cX1_feedMany 59 = .ok (.if_icmp .ge 23, 3) := by decide +kernel
theorem dX1_feedMany_62 : decode cX1_feedMany 62 = .ok (.aload_n 0, 1) := by decide +kernel
theorem dX1_feedMany_63 : decode cX1_feedMany 63 = .ok (.iload_n 1, 1) := by decide +kernel
theorem dX1_feedMany_64 : decode cX1_feedMany 64 = .ok (.iload 5, 2) := by decide +kernel
theorem dX1_feedMany_66 : decode cX1_feedMany 66 = .ok (.iload_n 2, 1) := by decide +kernel
theorem dX1_feedMany_67 : decode cX1_feedMany 67 = .ok (.imul, 1) := by decide +kernel
theorem dX1_feedMany_68 : decode cX1_feedMany 68 = .ok (.iadd, 1) := by decide +kernel
theorem dX1_feedMany_69 : decode cX1_feedMany 69 = .ok (.iload_n 3, 1) := by decide +kernel
theorem dX1_feedMany_70 : decode cX1_feedMany 70 = .ok (.iload 5, 2) := by decide +kernel
theorem dX1_feedMany_72 : decode cX1_feedMany 72 = .ok (.iadd, 1) := by decide +kernel
theorem dX1_feedMany_73 : decode cX1_feedMany 73 = .ok (.invokevirtual 52, 3) := by decide +kernel
theorem dX1_feedMany_76 : decode cX1_feedMany 76 = .ok (.iinc 5 1, 3) := by decide +kernel
theorem dX1_feedMany_79 : decode cX1_feedMany 79 = .ok (.goto (-35), 3) := by decide +kernel
theorem dX1_feedMany_82 : decode cX1_feedMany 82 = .ok (.iload 5, 2) := by decide +kernel
theorem dX1_feedMany_84 : decode cX1_feedMany 84 = .ok (.ireturn, 1) := by decide +kernel
theorem dX1_seal_0 : decode cX1_seal 0 = .ok (.aload_n 0, 1) := by decide +kernel
theorem dX1_seal_1 : decode cX1_seal 1 = .ok (.iconst 0, 1) := by decide +kernel
theorem dX1_seal_2 : decode cX1_seal 2 = .ok (.putfield 30, 3) := by decide +kernel
theorem dX1_seal_5 : decode cX1_seal 5 = .ok (.aload_n 0, 1) := by decide +kernel
theorem dX1_seal_6 : decode cX1_seal 6 = .ok (.getfield 42, 3) := by decide +kernel
theorem dX1_seal_9 : decode cX1_seal 9 = .ok (.ifCond .eq 6, 3) := by decide +kernel
theorem dX1_seal_12 : decode cX1_seal 12 = .ok (.bipush (-3), 2) := by decide +kernel
theorem dX1_seal_14 : decode cX1_seal 14 = .ok (.ireturn, 1) := by decide +kernel
theorem dX1_seal_15 : decode cX1_seal 15 = .ok (.aload_n 0, 1) := by decide +kernel
theorem dX1_seal_16 : decode cX1_seal 16 = .ok (.iconst 1, 1) := by decide +kernel
theorem dX1_seal_17 : decode cX1_seal 17 = .ok (.putfield 42, 3) := by decide +kernel
theorem dX1_seal_20 : decode cX1_seal 20 = .ok (.aload_n 0, 1) := by decide +kernel
theorem dX1_seal_21 : decode cX1_seal 21 = .ok (.iconst 0, 1) := by decide +kernel
theorem dX1_seal_22 : decode cX1_seal 22 = .ok (.putfield 46, 3) := by decide +kernel
theorem dX1_seal_25 : decode cX1_seal 25 = .ok (.aload_n 0, 1) := by decide +kernel
theorem dX1_seal_26 : decode cX1_seal 26 = .ok (.iconst 0, 1) := by decide +kernel
theorem dX1_seal_27 : decode cX1_seal 27 = .ok (.putfield 49, 3) := by decide +kernel
theorem dX1_seal_30 : decode cX1_seal 30 = .ok (.iconst 0, 1) := by decide +kernel
theorem dX1_seal_31 : decode cX1_seal 31 = .ok (.istore_n 1, 1) := by decide +kernel
theorem dX1_seal_32 : decode cX1_seal 32 = .ok (.iload_n 1, 1) := by decide +kernel
theorem dX1_seal_33 : decode cX1_seal 33 = .ok (.aload_n 0, 1) := by decide +kernel
theorem dX1_seal_34 : decode cX1_seal 34 = .ok (.getfield 33, 3) := by decide +kernel
theorem dX1_seal_37 : decode cX1_seal 37 = .ok (.if_icmp .ge 64, 3) := by decide +kernel
theorem dX1_seal_40 : decode cX1_seal 40 = .ok (.iload_n 1, 1) := by decide +kernel
theorem dX1_seal_41 : decode cX1_seal 41 = .ok (.istore_n 2, 1) := by decide +kernel
theorem dX1_seal_42 : decode cX1_seal 42 = .ok (.iload_n 2, 1) := by decide +kernel
theorem dX1_seal_43 : decode cX1_seal 43 = .ok (.ifCond .le 45, 3) := by decide +kernel
theorem dX1_seal_46 : decode cX1_seal 46 = .ok (.aload_n 0, 1) := by decide +kernel
theorem dX1_seal_47 : decode cX1_seal 47 = .ok (.getfield 7, 3) := by decide +kernel
theorem dX1_seal_50 : decode cX1_seal 50 = .ok (.aload_n 0, 1) := by decide +kernel
theorem dX1_seal_51 : decode cX1_seal 51 = .ok (.getfield 16, 3) := by decide +kernel
theorem dX1_seal_54 : decode cX1_seal 54 = .ok (.iload_n 2, 1) := by decide +kernel
theorem dX1_seal_55 : decode cX1_seal 55 = .ok (.iconst 1, 1) := by decide +kernel
theorem dX1_seal_56 : decode cX1_seal 56 = .ok (.isub, 1) := by decide +kernel
theorem dX1_seal_57 : decode cX1_seal 57 = .ok (.iaload, 1) := by decide +kernel
theorem dX1_seal_58 : decode cX1_seal 58 = .ok (.iaload, 1) := by decide +kernel
theorem dX1_seal_59 : decode cX1_seal 59 = .ok (.aload_n 0, 1) := by decide +kernel
theorem dX1_seal_60 : decode cX1_seal 60 = .ok (.getfield 7, 3) := by decide +kernel
theorem dX1_seal_63 : decode cX1_seal 63 = .ok (.iload_n 1, 1) := by decide +kernel
theorem dX1_seal_64 : decode cX1_seal 64 = .ok (.iaload, 1) := by decide +kernel
theorem dX1_seal_65 : decode cX1_seal 65 = .ok (.if_icmp .le 23, 3) := by decide +kernel
theorem dX1_seal_68 : decode cX1_seal 68 = .ok (.aload_n 0, 1) := by decide +kernel
theorem dX1_seal_69 : decode cX1_seal 69 = .ok (.getfield 16, 3) := by decide +kernel
theorem dX1_seal_72 : decode cX1_seal 72 = .ok (.iload_n 2, 1) := by decide +kernel
theorem dX1_seal_73 : decode cX1_seal 73 = .ok (.aload_n 0, 1) := by decide +kernel
theorem dX1_seal_74 : decode cX1_seal 74 = .ok (.getfield 16, 3) := by decide +kernel
theorem dX1_seal_77 : decode cX1_seal 77 = .ok (.iload_n 2, 1) := by decide +kernel
theorem dX1_seal_78 : decode cX1_seal 78 = .ok (.iconst 1, 1) := by decide +kernel
theorem dX1_seal_79 : decode cX1_seal 79 = .ok (.isub, 1) := by decide +kernel
theorem dX1_seal_80 : decode cX1_seal 80 = .ok (.iaload, 1) := by decide +kernel
theorem dX1_seal_81 : decode cX1_seal 81 = .ok (.iastore, 1) := by decide +kernel
theorem dX1_seal_82 : decode cX1_seal 82 = .ok (.iinc 2 (-1), 3) := by decide +kernel
theorem dX1_seal_85 : decode cX1_seal 85 = .ok (.goto (-43), 3) := by decide +kernel
theorem dX1_seal_88 : decode cX1_seal 88 = .ok (.aload_n 0, 1) := by decide +kernel
theorem dX1_seal_89 : decode cX1_seal 89 = .ok (.getfield 16, 3) := by decide +kernel
theorem dX1_seal_92 : decode cX1_seal 92 = .ok (.iload_n 2, 1) := by decide +kernel
theorem dX1_seal_93 : decode cX1_seal 93 = .ok (.iload_n 1, 1) := by decide +kernel
theorem dX1_seal_94 : decode cX1_seal 94 = .ok (.iastore, 1) := by decide +kernel
theorem dX1_seal_95 : decode cX1_seal 95 = .ok (.iinc 1 1, 3) := by decide +kernel
theorem dX1_seal_98 : decode cX1_seal 98 = .ok (.goto (-66), 3) := by decide +kernel
theorem dX1_seal_101 : decode cX1_seal 101 = .ok (.iconst 0, 1) := by decide +kernel
theorem dX1_seal_102 : decode cX1_seal 102 = .ok (.ireturn, 1) := by decide +kernel
theorem dX1_nextRow_0 : decode cX1_nextRow 0 = .ok (.aload_n 0, 1) := by decide +kernel
theorem dX1_nextRow_1 : decode cX1_nextRow 1 = .ok (.iconst 0, 1) := by decide +kernel
theorem dX1_nextRow_2 : decode cX1_nextRow 2 = .ok (.putfield 30, 3) := by decide +kernel
theorem dX1_nextRow_5 : decode cX1_nextRow 5 = .ok (.aload_n 0, 1) := by decide +kernel
theorem dX1_nextRow_6 : decode cX1_nextRow 6 = .ok (.getfield 42, 3) := by decide +kernel
theorem dX1_nextRow_9 : decode cX1_nextRow 9 = .ok (.ifCond .ne 6, 3) := by decide +kernel
theorem dX1_nextRow_12 : decode cX1_nextRow 12 = .ok (.bipush (-4), 2) := by decide +kernel
theorem dX1_nextRow_14 : decode cX1_nextRow 14 = .ok (.ireturn, 1) := by decide +kernel
theorem dX1_nextRow_15 : decode cX1_nextRow 15 = .ok (.aload_n 0, 1) := by decide +kernel
theorem dX1_nextRow_16 : decode cX1_nextRow 16 = .ok (.getfield 46, 3) := by decide +kernel
theorem dX1_nextRow_19 : decode cX1_nextRow 19 = .ok (.aload_n 0, 1) := by decide +kernel
theorem dX1_nextRow_20 : decode cX1_nextRow 20 = .ok (.getfield 33, 3) := by decide +kernel
theorem dX1_nextRow_23 : decode cX1_nextRow 23 = .ok (.if_icmp .ne 10, 3) := by decide +kernel
theorem dX1_nextRow_26 : decode cX1_nextRow 26 = .ok (.aload_n 0, 1) := by decide +kernel
theorem dX1_nextRow_27 : decode cX1_nextRow 27 = .ok (.iconst 0, 1) := by decide +kernel
theorem dX1_nextRow_28 : decode cX1_nextRow 28 = .ok (.putfield 49, 3) := by decide +kernel
theorem dX1_nextRow_31 : decode cX1_nextRow 31 = .ok (.iconst (-1), 1) := by decide +kernel
theorem dX1_nextRow_32 : decode cX1_nextRow 32 = .ok (.ireturn, 1) := by decide +kernel
theorem dX1_nextRow_33 : decode cX1_nextRow 33 = .ok (.aload_n 0, 1) := by decide +kernel
theorem dX1_nextRow_34 : decode cX1_nextRow 34 = .ok (.iconst 1, 1) := by decide +kernel
theorem dX1_nextRow_35 : decode cX1_nextRow 35 = .ok (.putfield 49, 3) := by decide +kernel
theorem dX1_nextRow_38 : decode cX1_nextRow 38 = .ok (.aload_n 0, 1) := by decide +kernel
theorem dX1_nextRow_39 : decode cX1_nextRow 39 = .ok (.aload_n 0, 1) := by decide +kernel
theorem dX1_nextRow_40 : decode cX1_nextRow 40 = .ok (.getfield 7, 3) := by decide +kernel
theorem dX1_nextRow_43 : decode cX1_nextRow 43 = .ok (.aload_n 0, 1) := by decide +kernel
theorem dX1_nextRow_44 : decode cX1_nextRow 44 = .ok (.getfield 16, 3) := by decide +kernel
theorem dX1_nextRow_47 : decode cX1_nextRow 47 = .ok (.aload_n 0, 1) := by decide +kernel
theorem dX1_nextRow_48 : decode cX1_nextRow 48 = .ok (.getfield 46, 3) := by decide +kernel
