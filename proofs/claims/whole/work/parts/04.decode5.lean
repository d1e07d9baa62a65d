theorem dX1_runsLeft_32 : decode cX1_runsLeft 32 = .ok (.getfield 33, 3) := by decide +kernel
theorem dX1_runsLeft_35 : decode cX1_runsLeft 35 = .ok (.if_icmp .ge 45, 3) := by decide +kernel
theorem dX1_runsLeft_38 : decode cX1_runsLeft 38 = .ok (.aload_n 0, 1) := by decide +kernel
theorem dX1_runsLeft_39 : decode cX1_runsLeft 39 = .ok (.getfield 16, 3) := by decide +kernel
theorem dX1_runsLeft_42 : decode cX1_runsLeft 42 = .ok (.iload_n 2, 1) := by decide +kernel
theorem dX1_runsLeft_43 : decode cX1_runsLeft 43 = .ok (.iaload, 1) := by decide +kernel
theorem dX1_runsLeft_44 : decode cX1_runsLeft 44 = .ok (.aload_n 0, 1) := by decide +kernel
theorem dX1_runsLeft_45 : decode cX1_runsLeft 45 = .ok (.getfield 23, 3) := by decide +kernel
theorem dX1_runsLeft_48 : decode cX1_runsLeft 48 = .ok (.idiv, 1) := by decide +kernel
theorem dX1_runsLeft_49 : decode cX1_runsLeft 49 = .ok (.istore_n 3, 1) := by decide +kernel
theorem dX1_runsLeft_50 : decode cX1_runsLeft 50 = .ok (.aload_n 0, 1) := by decide +kernel
theorem dX1_runsLeft_51 : decode cX1_runsLeft 51 = .ok (.getfield 19, 3) := by decide +kernel
theorem dX1_runsLeft_54 : decode cX1_runsLeft 54 = .ok (.iload_n 3, 1) := by decide +kernel
theorem dX1_runsLeft_55 : decode cX1_runsLeft 55 = .ok (.baload, 1) := by decide +kernel
theorem dX1_runsLeft_56 : decode cX1_runsLeft 56 = .ok (.ifCond .eq 7, 3) := by decide +kernel
theorem dX1_runsLeft_59 : decode cX1_runsLeft 59 = .ok (.iload_n 1, 1) := by decide +kernel
theorem dX1_runsLeft_60 : decode cX1_runsLeft 60 = .ok (.goto 6, 3) := by decide +kernel
theorem dX1_runsLeft_63 : decode cX1_runsLeft 63 = .ok (.iload_n 1, 1) := by decide +kernel
theorem dX1_runsLeft_64 : decode cX1_runsLeft 64 = .ok (.iconst 1, 1) := by decide +kernel
theorem dX1_runsLeft_65 : decode cX1_runsLeft 65 = .ok (.iadd, 1) := by decide +kernel
theorem dX1_runsLeft_66 : decode cX1_runsLeft 66 = .ok (.istore_n 1, 1) := by decide +kernel
theorem dX1_runsLeft_67 : decode cX1_runsLeft 67 = .ok (.aload_n 0, 1) := by decide +kernel
theorem dX1_runsLeft_68 : decode cX1_runsLeft 68 = .ok (.getfield 19, 3) := by decide +kernel
theorem dX1_runsLeft_71 : decode cX1_runsLeft 71 = .ok (.iload_n 3, 1) := by decide +kernel
theorem dX1_runsLeft_72 : decode cX1_runsLeft 72 = .ok (.iconst 1, 1) := by decide +kernel
theorem dX1_runsLeft_73 : decode cX1_runsLeft 73 = .ok (.bastore, 1) := by decide +kernel
theorem dX1_runsLeft_74 : decode cX1_runsLeft 74 = .ok (.iinc 2 1, 3) := by decide +kernel
theorem dX1_runsLeft_77 : decode cX1_runsLeft 77 = .ok (.goto (-47), 3) := by decide +kernel
theorem dX1_runsLeft_80 : decode cX1_runsLeft 80 = .ok (.iload_n 1, 1) := by decide +kernel
theorem dX1_runsLeft_81 : decode cX1_runsLeft 81 = .ok (.ireturn, 1) := by decide +kernel
theorem dX1_count_0 : decode cX1_count 0 = .ok (.aload_n 0, 1) := by decide +kernel
theorem dX1_count_1 : decode cX1_count 1 = .ok (.iload_n 1, 1) := by decide +kernel
theorem dX1_count_2 : decode cX1_count 2 = .ok (.ifCond .lt 8, 3) := by decide +kernel
theorem dX1_count_5 : decode cX1_count 5 = .ok (.iload_n 1, 1) := by decide +kernel
theorem dX1_count_6 : decode cX1_count 6 = .ok (.iconst 3, 1) := by decide +kernel
theorem dX1_count_7 : decode cX1_count 7 = .ok (.if_icmp .le 7, 3) := by decide +kernel
theorem dX1_count_10 : decode cX1_count 10 = .ok (.iconst 1, 1) := by decide +kernel
theorem dX1_count_11 : decode cX1_count 11 = .ok (.goto 4, 3) := by decide +kernel
theorem dX1_count_14 : decode cX1_count 14 = .ok (.iconst 0, 1) := by decide +kernel
theorem dX1_count_15 : decode cX1_count 15 = .ok (.putfield 30, 3) := by decide +kernel
theorem dX1_count_18 : decode cX1_count 18 = .ok (.aload_n 0, 1) := by decide +kernel
theorem dX1_count_19 : decode cX1_count 19 = .ok (.getfield 30, 3) := by decide +kernel
theorem dX1_count_22 : decode cX1_count 22 = .ok (.ifCond .le 5, 3) := by decide +kernel
theorem dX1_count_25 : decode cX1_count 25 = .ok (.iconst 0, 1) := by decide +kernel
theorem dX1_count_26 : decode cX1_count 26 = .ok (.ireturn, 1) := by decide +kernel
theorem dX1_count_27 : decode cX1_count 27 = .ok (.iload_n 1, 1) := by decide +kernel
theorem dX1_count_28 : decode cX1_count 28 = .ok (.tableswitch 48 0 2 #[28, 33, 43], 28) := by decide +kernel
theorem dX1_count_56 : decode cX1_count 56 = .ok (.aload_n 0, 1) := by decide +kernel
theorem dX1_count_57 : decode cX1_count 57 = .ok (.getfield 33, 3) := by decide +kernel
theorem dX1_count_60 : decode cX1_count 60 = .ok (.ireturn, 1) := by decide +kernel
theorem dX1_count_61 : decode cX1_count 61 = .ok (.aload_n 0, 1) := by decide +kernel
theorem dX1_count_62 : decode cX1_count 62 = .ok (.getfield 36, 3) := by decide +kernel
theorem dX1_count_65 : decode cX1_count 65 = .ok (.aload_n 0, 1) := by decide +kernel
theorem dX1_count_66 : decode cX1_count 66 = .ok (.getfield 23, 3) := by decide +kernel
theorem dX1_count_69 : decode cX1_count 69 = .ok (.imul, 1) := by decide +kernel
theorem dX1_count_70 : decode cX1_count 70 = .ok (.ireturn, 1) := by decide +kernel
theorem dX1_count_71 : decode cX1_count 71 = .ok (.aload_n 0, 1) := by decide +kernel
theorem dX1_count_72 : decode cX1_count 72 = .ok (.getfield 46, 3) := by decide +kernel
theorem dX1_count_75 : decode cX1_count 75 = .ok (.ireturn, 1) := by decide +kernel
theorem dX1_count_76 : decode cX1_count 76 = .ok (.aload_n 0, 1) := by decide +kernel
theorem dX1_count_77 : decode cX1_count 77 = .ok (.getfield 42, 3) := by decide +kernel
theorem dX1_count_80 : decode cX1_count 80 = .ok (.ifCond .eq 10, 3) := by decide +kernel
theorem dX1_count_83 : decode cX1_count 83 = .ok (.aload_n 0, 1) := by decide +kernel
theorem dX1_count_84 : decode cX1_count 84 = .ok (.invokevirtual 74, 3) := by decide +kernel
theorem dX1_count_87 : decode cX1_count 87 = .ok (.goto 7, 3) := by decide +kernel
theorem dX1_count_90 : decode cX1_count 90 = .ok (.aload_n 0, 1) := by decide +kernel
theorem dX1_count_91 : decode cX1_count 91 = .ok (.getfield 36, 3) := by decide +kernel
theorem dX1_count_94 : decode cX1_count 94 = .ok (.ireturn, 1) := by decide +kernel
theorem dJ9_max_7cf53_0 : decode cJ9_max_7cf53 0 = .ok (.iload_n 0, 1) := by decide +kernel
theorem dJ9_max_7cf53_1 : decode cJ9_max_7cf53 1 = .ok (.iload_n 1, 1) := by decide +kernel
theorem dJ9_max_7cf53_2 : decode cJ9_max_7cf53 2 = .ok (.if_icmp .lt 7, 3) := by decide +kernel
theorem dJ9_max_7cf53_5 : decode cJ9_max_7cf53 5 = .ok (.iload_n 0, 1) := by decide +kernel
theorem dJ9_max_7cf53_6 : decode cJ9_max_7cf53 6 = .ok (.goto 4, 3) := by decide +kernel
theorem dJ9_max_7cf53_9 : decode cJ9_max_7cf53 9 = .ok (.iload_n 1, 1) := by decide +kernel
theorem dJ9_max_7cf53_10 : decode cJ9_max_7cf53 10 = .ok (.ireturn, 1) := by decide +kernel
theorem dJ9_min_7cf53_0 : decode cJ9_min_7cf53 0 = .ok (.iload_n 0, 1) := by decide +kernel
theorem dJ9_min_7cf53_1 : decode cJ9_min_7cf53 1 = .ok (.iload_n 1, 1) := by decide +kernel
theorem dJ9_min_7cf53_2 : decode cJ9_min_7cf53 2 = .ok (.if_icmp .gt 7, 3) := by decide +kernel
theorem dJ9_min_7cf53_5 : decode cJ9_min_7cf53 5 = .ok (.iload_n 0, 1) := by decide +kernel
theorem dJ9_min_7cf53_6 : decode cJ9_min_7cf53 6 = .ok (.goto 4, 3) := by decide +kernel
theorem dJ9_min_7cf53_9 : decode cJ9_min_7cf53 9 = .ok (.iload_n 1, 1) := by decide +kernel
theorem dJ9_min_7cf53_10 : decode cJ9_min_7cf53 10 = .ok (.ireturn, 1) := by decide +kernel
theorem dL_cell_0 : decode cL_cell 0 = .ok (.iload_n 1, 1) := by decide +kernel
theorem dL_cell_1 : decode cL_cell 1 = .ok (.aload_n 0, 1) := by decide +kernel
theorem dL_cell_2 : decode cL_cell 2 = .ok (.arraylength, 1) := by decide +kernel
theorem dL_cell_3 : decode cL_cell 3 = .ok (.if_icmp .ge 9, 3) := by decide +kernel
theorem dL_cell_6 : decode cL_cell 6 = .ok (.aload_n 0, 1) := by decide +kernel
theorem dL_cell_7 : decode cL_cell 7 = .ok (.iload_n 1, 1) := by decide +kernel
theorem dL_cell_8 : decode cL_cell 8 = .ok (.iaload, 1) := by decide +kernel
theorem dL_cell_9 : decode cL_cell 9 = .ok (.goto 4, 3) := by decide +kernel
theorem dL_cell_12 : decode cL_cell 12 = .ok (.iconst 0, 1) := by decide +kernel
theorem dL_cell_13 : decode cL_cell 13 = .ok (.ireturn, 1) := by decide +kernel
theorem dL_feedMany_0 : decode cL_feedMany 0 = .ok (.aload 5, 2) := by decide +kernel
theorem dL_feedMany_2 : decode cL_feedMany 2 = .ok (.iconst 0, 1) := by decide +kernel
theorem dL_feedMany_3 : decode cL_feedMany 3 = .ok (.aload_n 0, 1) := by decide +kernel
theorem dL_feedMany_4 : decode cL_feedMany 4 = .ok (.iload_n 1, 1) := by decide +kernel
theorem dL_feedMany_5 : decode cL_feedMany 5 = .ok (.iload_n 2, 1) := by decide +kernel
theorem dL_feedMany_6 : decode cL_feedMany 6 = .ok (.iload_n 3, 1) := by decide +kernel
theorem dL_feedMany_7 : decode cL_feedMany 7 = .ok (.iload 4, 2) := by decide +kernel
theorem dL_feedMany_9 : decode cL_feedMany 9 = .ok (.invokevirtual 7, 3) := by decide +kernel
theorem dL_feedMany_12 : decode cL_feedMany 12 = .ok (.i2l, 1) := by decide +kernel
theorem dL_feedMany_13 : decode cL_feedMany 13 = .ok (.lastore, 1) := by decide +kernel
theorem dL_feedMany_14 : decode cL_feedMany 14 = .ok (.goto 7, 3) := by decide +kernel
theorem dL_feedMany_17 : decode cL_feedMany 17 = .ok (.astore 6, 2) := by decide +kernel
theorem dL_feedMany_19 : decode cL_feedMany 19 = .ok (.iconst 1, 1) := by decide +kernel
theorem dL_feedMany_20 : decode cL_feedMany 20 = .ok (.ireturn, 1) := by decide +kernel
theorem dL_feedMany_21 : decode cL_feedMany 21 = .ok (.iconst 0, 1) := by decide +kernel
theorem dL_feedMany_22 : decode cL_feedMany 22 = .ok (.ireturn, 1) := by decide +kernel
theorem dL_group_0 : decode cL_group 0 = .ok (.aload_n 2, 1) := by decide +kernel
theorem dL_group_1 : decode cL_group 1 = .ok (.iconst 0, 1) := by decide +kernel
theorem dL_group_2 : decode cL_group 2 = .ok (.aload_n 0, 1) := by decide +kernel
theorem dL_group_3 : decode cL_group 3 = .ok (.iload_n 1, 1) := by decide +kernel
theorem dL_group_4 : decode cL_group 4 = .ok (.invokevirtual 15, 3) := by decide +kernel
theorem dL_group_7 : decode cL_group 7 = .ok (.i2l, 1) := by decide +kernel
theorem dL_group_8 : decode cL_group 8 = .ok (.lastore, 1) := by decide +kernel
theorem dL_group_9 : decode cL_group 9 = .ok (.goto 6, 3) := by decide +kernel
theorem dL_group_12 : decode cL_group 12 = .ok (.astore_n 3, 1) := by decide +kernel
theorem dL_group_13 : decode cL_group 13 = .ok (.iconst 1, 1) := by decide +kernel
theorem dL_group_14 : decode cL_group 14 = .ok (.ireturn, 1) := by decide +kernel
theorem dL_group_15 : decode cL_group 15 = .ok (.iconst 0, 1) := by decide +kernel
theorem dL_group_16 : decode cL_group 16 = .ok (.ireturn, 1) := by decide +kernel
theorem dL_count_0 : decode cL_count 0 = .ok (.aload_n 2, 1) := by decide +kernel
theorem dL_count_1 : decode cL_count 1 = .ok (.iconst 0, 1) := by decide +kernel
theorem dL_count_2 : decode cL_count 2 = .ok (.aload_n 0, 1) := by decide +kernel
theorem dL_count_3 : decode cL_count 3 = .ok (.iload_n 1, 1) := by decide +kernel
theorem dL_count_4 : decode cL_count 4 = .ok (.invokevirtual 19, 3) := by decide +kernel
theorem dL_count_7 : decode cL_count 7 = .ok (.i2l, 1) := by decide +kernel
theorem dL_count_8 : decode cL_count 8 = .ok (.lastore, 1) := by decide +kernel
theorem dL_count_9 : decode cL_count 9 = .ok (.goto 6, 3) := by decide +kernel
theorem dL_count_12 : decode cL_count 12 = .ok (.astore_n 3, 1) := by decide +kernel
theorem dL_count_13 : decode cL_count 13 = .ok (.iconst 1, 1) := by decide +kernel
theorem dL_count_14 : decode cL_count 14 = .ok (.ireturn, 1) := by decide +kernel
theorem dL_count_15 : decode cL_count 15 = .ok (.iconst 0, 1) := by decide +kernel
theorem dL_count_16 : decode cL_count 16 = .ok (.ireturn, 1) := by decide +kernel
theorem dL_law_0 : decode cL_law 0 = .ok (.new 8, 3) := by decide +kernel
theorem dL_law_3 : decode cL_law 3 = .ok (.dup, 1) := by decide +kernel
theorem dL_law_4 : decode cL_law 4 = .ok (.aload_n 0, 1) := by decide +kernel
theorem dL_law_5 : decode cL_law 5 = .ok (.iconst 0, 1) := by decide +kernel
theorem dL_law_6 : decode cL_law 6 = .ok (.invokestatic 22, 3) := by decide +kernel
theorem dL_law_9 : decode cL_law 9 = .ok (.aload_n 0, 1) := by decide +kernel
theorem dL_law_10 : decode cL_law 10 = .ok (.iconst 1, 1) := by decide +kernel
theorem dL_law_11 : decode cL_law 11 = .ok (.invokestatic 22, 3) := by decide +kernel
theorem dL_law_14 : decode cL_law 14 = .ok (.invokespecial 28, 3) := by decide +kernel
theorem dL_law_17 : decode cL_law 17 = .ok (.astore_n 1, 1) := by decide +kernel
theorem dL_law_18 : decode cL_law 18 = .ok (.new 31, 3) := by decide +kernel
theorem dL_law_21 : decode cL_law 21 = .ok (.dup, 1) := by decide +kernel
theorem dL_law_22 : decode cL_law 22 = .ok (.aload_n 0, 1) := by decide +kernel
theorem dL_law_23 : decode cL_law 23 = .ok (.iconst 0, 1) := by decide +kernel
theorem dL_law_24 : decode cL_law 24 = .ok (.invokestatic 22, 3) := by decide +kernel
theorem dL_law_27 : decode cL_law 27 = .ok (.aload_n 0, 1) := by decide +kernel
theorem dL_law_28 : decode cL_law 28 = .ok (.iconst 1, 1) := by decide +kernel
theorem dL_law_29 : decode cL_law 29 = .ok (.invokestatic 22, 3) := by decide +kernel
theorem dL_law_32 : decode cL_law 32 = .ok (.invokespecial 33, 3) := by decide +kernel
theorem dL_law_35 : decode cL_law 35 = .ok (.astore_n 2, 1) := by decide +kernel
theorem dL_law_36 : decode cL_law 36 = .ok (.iconst 1, 1) := by decide +kernel
theorem dL_law_37 : decode cL_law 37 = .ok (.newarray .long, 2) := by decide +kernel
theorem dL_law_39 : decode cL_law 39 = .ok (.astore_n 3, 1) := by decide +kernel
theorem dL_law_40 : decode cL_law 40 = .ok (.iconst 2, 1) := by decide +kernel
theorem dL_law_41 : decode cL_law 41 = .ok (.istore 4, 2) := by decide +kernel
theorem dL_law_43 : decode cL_law 43 = .ok (.iload 4, 2) := by decide +kernel
theorem dL_law_45 : decode cL_law 45 = .ok (.aload_n 0, 1) := by decide +kernel
theorem dL_law_46 : decode cL_law 46 = .ok (.arraylength, 1) := by decide +kernel
theorem dL_law_47 : decode cL_law 47 = .ok (.iconst 5, 1) := by decide +kernel
theorem dL_law_48 : decode cL_law 48 = .ok (.isub, 1) := by decide +kernel
theorem dL_law_49 : decode cL_law 49 = .ok (.if_icmp .gt 415, 3) := by decide +kernel
theorem dL_law_52 : decode cL_law 52 = .ok (.aload_n 0, 1) := by decide +kernel
theorem dL_law_53 : decode cL_law 53 = .ok (.iload 4, 2) := by decide +kernel
theorem dL_law_55 : decode cL_law 55 = .ok (.iaload, 1) := by decide +kernel
theorem dL_law_56 : decode cL_law 56 = .ok (.bipush 15, 2) := by decide +kernel
theorem dL_law_58 : decode cL_law 58 = .ok (.iand, 1) := by decide +kernel
theorem dL_law_59 : decode cL_law 59 = .ok (.tableswitch 399 0 10 #[57, 68, 105, 197, 210, 223, 236, 261, 274, 287, 343], 57) := by decide +kernel
theorem dL_law_116 : decode cL_law 116 = .ok (.aload_n 1, 1) := by decide +kernel
theorem dL_law_117 : decode cL_law 117 = .ok (.invokevirtual 34, 3) := by decide +kernel
theorem dL_law_120 : decode cL_law 120 = .ok (.aload_n 2, 1) := by decide +kernel
theorem dL_law_121 : decode cL_law 121 = .ok (.invokevirtual 37, 3) := by decide +kernel
theorem dL_law_124 : decode cL_law 124 = .ok (.goto 334, 3) := by decide +kernel
theorem dL_law_127 : decode cL_law 127 = .ok (.aload_n 1, 1) := by decide +kernel
theorem dL_law_128 : decode cL_law 128 = .ok (.aload_n 0, 1) := by decide +kernel
theorem dL_law_129 : decode cL_law 129 = .ok (.iload 4, 2) := by decide +kernel
theorem dL_law_131 : decode cL_law 131 = .ok (.iconst 1, 1) := by decide +kernel
theorem dL_law_132 : decode cL_law 132 = .ok (.iadd, 1) := by decide +kernel
theorem dL_law_133 : decode cL_law 133 = .ok (.iaload, 1) := by decide +kernel
theorem dL_law_134 : decode cL_law 134 = .ok (.aload_n 0, 1) := by decide +kernel
theorem dL_law_135 : decode cL_law 135 = .ok (.iload 4, 2) := by decide +kernel
theorem dL_law_137 : decode cL_law 137 = .ok (.iconst 2, 1) := by decide +kernel
theorem dL_law_138 : decode cL_law 138 = .ok (.iadd, 1) := by decide +kernel
theorem dL_law_139 : decode cL_law 139 = .ok (.iaload, 1) := by decide +kernel
theorem dL_law_140 : decode cL_law 140 = .ok (.invokevirtual 38, 3) := by decide +kernel
theorem dL_law_143 : decode cL_law 143 = .ok (.aload_n 2, 1) := by decide +kernel
theorem dL_law_144 : decode cL_law 144 = .ok (.aload_n 0, 1) := by decide +kernel
theorem dL_law_145 : decode cL_law 145 = .ok (.iload 4, 2) := by decide +kernel
theorem dL_law_147 : decode cL_law 147 = .ok (.iconst 1, 1) := by decide +kernel
theorem dL_law_148 : decode cL_law 148 = .ok (.iadd, 1) := by decide +kernel
theorem dL_law_149 : decode cL_law 149 = .ok (.iaload, 1) := by decide +kernel
theorem dL_law_150 : decode cL_law 150 = .ok (.aload_n 0, 1) := by decide +kernel
theorem dL_law_151 : decode cL_law 151 = .ok (.iload 4, 2) := by decide +kernel
theorem dL_law_153 : decode cL_law 153 = .ok (.iconst 2, 1) := by decide +kernel
theorem dL_law_154 : decode cL_law 154 = .ok (.iadd, 1) := by decide +kernel
theorem dL_law_155 : decode cL_law 155 = .ok (.iaload, 1) := by decide +kernel
theorem dL_law_156 : decode cL_law 156 = .ok (.invokevirtual 42, 3) := by decide +kernel
theorem dL_law_159 : decode cL_law 159 = .ok (.if_icmp .eq 299, 3) := by decide +kernel
theorem dL_law_162 : decode cL_law 162 = .ok (.iconst 0, 1) := by decide +kernel
theorem dL_law_163 : decode cL_law 163 = .ok (.ireturn, 1) := by decide +kernel
theorem dL_law_164 : decode cL_law 164 = .ok (.aload_n 1, 1) := by decide +kernel
theorem dL_law_165 : decode cL_law 165 = .ok (.aload_n 0, 1) := by decide +kernel
theorem dL_law_166 : decode cL_law 166 = .ok (.iload 4, 2) := by decide +kernel
theorem dL_law_168 : decode cL_law 168 = .ok (.iconst 1, 1) := by decide +kernel
theorem dL_law_169 : decode cL_law 169 = .ok (.iadd, 1) := by decide +kernel
theorem dL_law_170 : decode cL_law 170 = .ok (.iaload, 1) := by decide +kernel
theorem dL_law_171 : decode cL_law 171 = .ok (.aload_n 0, 1) := by decide +kernel
theorem dL_law_172 : decode cL_law 172 = .ok (.iload 4, 2) := by decide +kernel
theorem dL_law_174 : decode cL_law 174 = .ok (.iconst 2, 1) := by decide +kernel
theorem dL_law_175 : decode cL_law 175 = .ok (.iadd, 1) := by decide +kernel
theorem dL_law_176 : decode cL_law 176 = .ok (.iaload, 1) := by decide +kernel
theorem dL_law_177 : decode cL_law 177 = .ok (.aload_n 0, 1) := by decide +kernel
theorem dL_law_178 : decode cL_law 178 = .ok (.iload 4, 2) := by decide +kernel
theorem dL_law_180 : decode cL_law 180 = .ok (.iconst 3, 1) := by decide +kernel
theorem dL_law_181 : decode cL_law 181 = .ok (.iadd, 1) := by decide +kernel
theorem dL_law_182 : decode cL_law 182 = .ok (.iaload, 1) := by decide +kernel
theorem dL_law_183 : decode cL_law 183 = .ok (.aload_n 0, 1) := by decide +kernel
theorem dL_law_184 : decode cL_law 184 = .ok (.iload 4, 2) := by decide +kernel
theorem dL_law_186 : decode cL_law 186 = .ok (.iconst 4, 1) := by decide +kernel
theorem dL_law_187 : decode cL_law 187 = .ok (.iadd, 1) := by decide +kernel
theorem dL_law_188 : decode cL_law 188 = .ok (.iaload, 1) := by decide +kernel
theorem dL_law_189 : decode cL_law 189 = .ok (.aload_n 3, 1) := by decide +kernel
theorem dL_law_190 : decode cL_law 190 = .ok (.invokestatic 43, 3) := by decide +kernel
theorem dL_law_193 : decode cL_law 193 = .ok (.istore 5, 2) := by decide +kernel
theorem dL_law_195 : decode cL_law 195 = .ok (.aload_n 2, 1) := by decide +kernel
theorem dL_law_196 : decode cL_law 196 = .ok (.aload_n 0, 1) := by decide +kernel
theorem dL_law_197 : decode cL_law 197 = .ok (.iload 4, 2) := by decide +kernel
theorem dL_law_199 : decode cL_law 199 = .ok (.iconst 1, 1) := by decide +kernel
theorem dL_law_200 : decode cL_law 200 = .ok (.iadd, 1) := by decide +kernel
theorem dL_law_201 : decode cL_law 201 = .ok (.iaload, 1) := by decide +kernel
theorem dL_law_202 : decode cL_law 202 = .ok (.aload_n 0, 1) := by decide +kernel
theorem dL_law_203 : decode cL_law 203 = .ok (.iload 4, 2) := by decide +kernel
theorem dL_law_205 : decode cL_law 205 = .ok (.iconst 2, 1) := by decide +kernel
theorem dL_law_206 : decode cL_law 206 = .ok (.iadd, 1) := by decide +kernel
theorem dL_law_207 : decode cL_law 207 = .ok (.iaload, 1) := by decide +kernel
theorem dL_law_208 : decode cL_law 208 = .ok (.aload_n 0, 1) := by decide +kernel
theorem dL_law_209 : decode cL_law 209 = .ok (.iload 4, 2) := by decide +kernel
theorem dL_law_211 : decode cL_law 211 = .ok (.iconst 3, 1) := by decide +kernel
theorem dL_law_212 : decode cL_law 212 = .ok (.iadd, 1) := by decide +kernel
theorem dL_law_213 : decode cL_law 213 = .ok (.iaload, 1) := by decide +kernel
theorem dL_law_214 : decode cL_law 214 = .ok (.aload_n 0, 1) := by decide +kernel
theorem dL_law_215 : decode cL_law 215 = .ok (.iload 4, 2) := by decide +kernel
theorem dL_law_217 : decode cL_law 217 = .ok (.iconst 4, 1) := by decide +kernel
theorem dL_law_218 : decode cL_law 218 = .ok (.iadd, 1) := by decide +kernel
theorem dL_law_219 : decode cL_law 219 = .ok (.iaload, 1) := by decide +kernel
theorem dL_law_220 : decode cL_law 220 = .ok (.invokevirtual 46, 3) := by decide +kernel
theorem dL_law_223 : decode cL_law 223 = .ok (.istore 6, 2) := by decide +kernel
