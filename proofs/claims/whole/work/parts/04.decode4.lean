theorem dX1_nextRow_51 : decode cX1_nextRow 51 = .ok (.iaload, 1) := by decide +kernel
theorem dX1_nextRow_52 : decode cX1_nextRow 52 = .ok (.iaload, 1) := by decide +kernel
theorem dX1_nextRow_53 : decode cX1_nextRow 53 = .ok (.putfield 56, 3) := by decide +kernel
theorem dX1_nextRow_56 : decode cX1_nextRow 56 = .ok (.aload_n 0, 1) := by decide +kernel
theorem dX1_nextRow_57 : decode cX1_nextRow 57 = .ok (.aload_n 0, 1) := by decide +kernel
theorem dX1_nextRow_58 : decode cX1_nextRow 58 = .ok (.getfield 13, 3) := by decide +kernel
theorem dX1_nextRow_61 : decode cX1_nextRow 61 = .ok (.aload_n 0, 1) := by decide +kernel
theorem dX1_nextRow_62 : decode cX1_nextRow 62 = .ok (.getfield 16, 3) := by decide +kernel
theorem dX1_nextRow_65 : decode cX1_nextRow 65 = .ok (.aload_n 0, 1) := by decide +kernel
theorem dX1_nextRow_66 : decode cX1_nextRow 66 = .ok (.getfield 46, 3) := by decide +kernel
theorem dX1_nextRow_69 : decode cX1_nextRow 69 = .ok (.iaload, 1) := by decide +kernel
theorem dX1_nextRow_70 : decode cX1_nextRow 70 = .ok (.iaload, 1) := by decide +kernel
theorem dX1_nextRow_71 : decode cX1_nextRow 71 = .ok (.putfield 59, 3) := by decide +kernel
theorem dX1_nextRow_74 : decode cX1_nextRow 74 = .ok (.aload_n 0, 1) := by decide +kernel
theorem dX1_nextRow_75 : decode cX1_nextRow 75 = .ok (.dup, 1) := by decide +kernel
theorem dX1_nextRow_76 : decode cX1_nextRow 76 = .ok (.getfield 46, 3) := by decide +kernel
theorem dX1_nextRow_79 : decode cX1_nextRow 79 = .ok (.iconst 1, 1) := by decide +kernel
theorem dX1_nextRow_80 : decode cX1_nextRow 80 = .ok (.iadd, 1) := by decide +kernel
theorem dX1_nextRow_81 : decode cX1_nextRow 81 = .ok (.putfield 46, 3) := by decide +kernel
theorem dX1_nextRow_84 : decode cX1_nextRow 84 = .ok (.iconst 1, 1) := by decide +kernel
theorem dX1_nextRow_85 : decode cX1_nextRow 85 = .ok (.ireturn, 1) := by decide +kernel
theorem dX1_nextGroup_0 : decode cX1_nextGroup 0 = .ok (.aload_n 0, 1) := by decide +kernel
theorem dX1_nextGroup_1 : decode cX1_nextGroup 1 = .ok (.iconst 0, 1) := by decide +kernel
theorem dX1_nextGroup_2 : decode cX1_nextGroup 2 = .ok (.putfield 30, 3) := by decide +kernel
theorem dX1_nextGroup_5 : decode cX1_nextGroup 5 = .ok (.aload_n 0, 1) := by decide +kernel
theorem dX1_nextGroup_6 : decode cX1_nextGroup 6 = .ok (.getfield 42, 3) := by decide +kernel
theorem dX1_nextGroup_9 : decode cX1_nextGroup 9 = .ok (.ifCond .ne 6, 3) := by decide +kernel
theorem dX1_nextGroup_12 : decode cX1_nextGroup 12 = .ok (.bipush (-4), 2) := by decide +kernel
theorem dX1_nextGroup_14 : decode cX1_nextGroup 14 = .ok (.ireturn, 1) := by decide +kernel
theorem dX1_nextGroup_15 : decode cX1_nextGroup 15 = .ok (.aload_n 0, 1) := by decide +kernel
theorem dX1_nextGroup_16 : decode cX1_nextGroup 16 = .ok (.getfield 46, 3) := by decide +kernel
theorem dX1_nextGroup_19 : decode cX1_nextGroup 19 = .ok (.aload_n 0, 1) := by decide +kernel
theorem dX1_nextGroup_20 : decode cX1_nextGroup 20 = .ok (.getfield 33, 3) := by decide +kernel
theorem dX1_nextGroup_23 : decode cX1_nextGroup 23 = .ok (.if_icmp .ne 10, 3) := by decide +kernel
theorem dX1_nextGroup_26 : decode cX1_nextGroup 26 = .ok (.aload_n 0, 1) := by decide +kernel
theorem dX1_nextGroup_27 : decode cX1_nextGroup 27 = .ok (.iconst 0, 1) := by decide +kernel
theorem dX1_nextGroup_28 : decode cX1_nextGroup 28 = .ok (.putfield 49, 3) := by decide +kernel
theorem dX1_nextGroup_31 : decode cX1_nextGroup 31 = .ok (.iconst (-1), 1) := by decide +kernel
theorem dX1_nextGroup_32 : decode cX1_nextGroup 32 = .ok (.ireturn, 1) := by decide +kernel
theorem dX1_nextGroup_33 : decode cX1_nextGroup 33 = .ok (.aload_n 0, 1) := by decide +kernel
theorem dX1_nextGroup_34 : decode cX1_nextGroup 34 = .ok (.iconst 2, 1) := by decide +kernel
theorem dX1_nextGroup_35 : decode cX1_nextGroup 35 = .ok (.putfield 49, 3) := by decide +kernel
theorem dX1_nextGroup_38 : decode cX1_nextGroup 38 = .ok (.aload_n 0, 1) := by decide +kernel
theorem dX1_nextGroup_39 : decode cX1_nextGroup 39 = .ok (.aload_n 0, 1) := by decide +kernel
theorem dX1_nextGroup_40 : decode cX1_nextGroup 40 = .ok (.getfield 7, 3) := by decide +kernel
theorem dX1_nextGroup_43 : decode cX1_nextGroup 43 = .ok (.aload_n 0, 1) := by decide +kernel
theorem dX1_nextGroup_44 : decode cX1_nextGroup 44 = .ok (.getfield 16, 3) := by decide +kernel
theorem dX1_nextGroup_47 : decode cX1_nextGroup 47 = .ok (.aload_n 0, 1) := by decide +kernel
theorem dX1_nextGroup_48 : decode cX1_nextGroup 48 = .ok (.getfield 46, 3) := by decide +kernel
theorem dX1_nextGroup_51 : decode cX1_nextGroup 51 = .ok (.iaload, 1) := by decide +kernel
theorem dX1_nextGroup_52 : decode cX1_nextGroup 52 = .ok (.iaload, 1) := by decide +kernel
theorem dX1_nextGroup_53 : decode cX1_nextGroup 53 = .ok (.putfield 56, 3) := by decide +kernel
theorem dX1_nextGroup_56 : decode cX1_nextGroup 56 = .ok (.aload_n 0, 1) := by decide +kernel
theorem dX1_nextGroup_57 : decode cX1_nextGroup 57 = .ok (.iconst 0, 1) := by decide +kernel
theorem dX1_nextGroup_58 : decode cX1_nextGroup 58 = .ok (.putfield 62, 3) := by decide +kernel
theorem dX1_nextGroup_61 : decode cX1_nextGroup 61 = .ok (.aload_n 0, 1) := by decide +kernel
theorem dX1_nextGroup_62 : decode cX1_nextGroup 62 = .ok (.iconst 0, 1) := by decide +kernel
theorem dX1_nextGroup_63 : decode cX1_nextGroup 63 = .ok (.putfield 65, 3) := by decide +kernel
theorem dX1_nextGroup_66 : decode cX1_nextGroup 66 = .ok (.aload_n 0, 1) := by decide +kernel
theorem dX1_nextGroup_67 : decode cX1_nextGroup 67 = .ok (.getfield 46, 3) := by decide +kernel
theorem dX1_nextGroup_70 : decode cX1_nextGroup 70 = .ok (.aload_n 0, 1) := by decide +kernel
theorem dX1_nextGroup_71 : decode cX1_nextGroup 71 = .ok (.getfield 33, 3) := by decide +kernel
theorem dX1_nextGroup_74 : decode cX1_nextGroup 74 = .ok (.if_icmp .ge 126, 3) := by decide +kernel
theorem dX1_nextGroup_77 : decode cX1_nextGroup 77 = .ok (.aload_n 0, 1) := by decide +kernel
theorem dX1_nextGroup_78 : decode cX1_nextGroup 78 = .ok (.getfield 7, 3) := by decide +kernel
theorem dX1_nextGroup_81 : decode cX1_nextGroup 81 = .ok (.aload_n 0, 1) := by decide +kernel
theorem dX1_nextGroup_82 : decode cX1_nextGroup 82 = .ok (.getfield 16, 3) := by decide +kernel
theorem dX1_nextGroup_85 : decode cX1_nextGroup 85 = .ok (.aload_n 0, 1) := by decide +kernel
theorem dX1_nextGroup_86 : decode cX1_nextGroup 86 = .ok (.getfield 46, 3) := by decide +kernel
theorem dX1_nextGroup_89 : decode cX1_nextGroup 89 = .ok (.iaload, 1) := by decide +kernel
theorem dX1_nextGroup_90 : decode cX1_nextGroup 90 = .ok (.iaload, 1) := by decide +kernel
theorem dX1_nextGroup_91 : decode cX1_nextGroup 91 = .ok (.aload_n 0, 1) := by decide +kernel
theorem dX1_nextGroup_92 : decode cX1_nextGroup 92 = .ok (.getfield 56, 3) := by decide +kernel
theorem dX1_nextGroup_95 : decode cX1_nextGroup 95 = .ok (.if_icmp .ne 105, 3) := by decide +kernel
theorem dX1_nextGroup_98 : decode cX1_nextGroup 98 = .ok (.aload_n 0, 1) := by decide +kernel
theorem dX1_nextGroup_99 : decode cX1_nextGroup 99 = .ok (.getfield 13, 3) := by decide +kernel
theorem dX1_nextGroup_102 : decode cX1_nextGroup 102 = .ok (.aload_n 0, 1) := by decide +kernel
theorem dX1_nextGroup_103 : decode cX1_nextGroup 103 = .ok (.getfield 16, 3) := by decide +kernel
theorem dX1_nextGroup_106 : decode cX1_nextGroup 106 = .ok (.aload_n 0, 1) := by decide +kernel
theorem dX1_nextGroup_107 : decode cX1_nextGroup 107 = .ok (.getfield 46, 3) := by decide +kernel
theorem dX1_nextGroup_110 : decode cX1_nextGroup 110 = .ok (.iaload, 1) := by decide +kernel
theorem dX1_nextGroup_111 : decode cX1_nextGroup 111 = .ok (.iaload, 1) := by decide +kernel
theorem dX1_nextGroup_112 : decode cX1_nextGroup 112 = .ok (.istore_n 1, 1) := by decide +kernel
theorem dX1_nextGroup_113 : decode cX1_nextGroup 113 = .ok (.aload_n 0, 1) := by decide +kernel
theorem dX1_nextGroup_114 : decode cX1_nextGroup 114 = .ok (.aload_n 0, 1) := by decide +kernel
theorem dX1_nextGroup_115 : decode cX1_nextGroup 115 = .ok (.getfield 62, 3) := by decide +kernel
theorem dX1_nextGroup_118 : decode cX1_nextGroup 118 = .ok (.ifCond .eq 11, 3) := by decide +kernel
theorem dX1_nextGroup_121 : decode cX1_nextGroup 121 = .ok (.iload_n 1, 1) := by decide +kernel
theorem dX1_nextGroup_122 : decode cX1_nextGroup 122 = .ok (.aload_n 0, 1) := by decide +kernel
theorem dX1_nextGroup_123 : decode cX1_nextGroup 123 = .ok (.getfield 68, 3) := by decide +kernel
theorem dX1_nextGroup_126 : decode cX1_nextGroup 126 = .ok (.if_icmp .ge 7, 3) := by decide +kernel
theorem dX1_nextGroup_129 : decode cX1_nextGroup 129 = .ok (.iload_n 1, 1) := by decide +kernel
theorem dX1_nextGroup_130 : decode cX1_nextGroup 130 = .ok (.goto 7, 3) := by decide +kernel
theorem dX1_nextGroup_133 : decode cX1_nextGroup 133 = .ok (.aload_n 0, 1) := by decide +kernel
theorem dX1_nextGroup_134 : decode cX1_nextGroup 134 = .ok (.getfield 68, 3) := by decide +kernel
theorem dX1_nextGroup_137 : decode cX1_nextGroup 137 = .ok (.putfield 68, 3) := by decide +kernel
theorem dX1_nextGroup_140 : decode cX1_nextGroup 140 = .ok (.aload_n 0, 1) := by decide +kernel
theorem dX1_nextGroup_141 : decode cX1_nextGroup 141 = .ok (.aload_n 0, 1) := by decide +kernel
theorem dX1_nextGroup_142 : decode cX1_nextGroup 142 = .ok (.getfield 62, 3) := by decide +kernel
theorem dX1_nextGroup_145 : decode cX1_nextGroup 145 = .ok (.ifCond .eq 11, 3) := by decide +kernel
theorem dX1_nextGroup_148 : decode cX1_nextGroup 148 = .ok (.iload_n 1, 1) := by decide +kernel
theorem dX1_nextGroup_149 : decode cX1_nextGroup 149 = .ok (.aload_n 0, 1) := by decide +kernel
theorem dX1_nextGroup_150 : decode cX1_nextGroup 150 = .ok (.getfield 71, 3) := by decide +kernel
theorem dX1_nextGroup_153 : decode cX1_nextGroup 153 = .ok (.if_icmp .le 7, 3) := by decide +kernel
theorem dX1_nextGroup_156 : decode cX1_nextGroup 156 = .ok (.iload_n 1, 1) := by decide +kernel
theorem dX1_nextGroup_157 : decode cX1_nextGroup 157 = .ok (.goto 7, 3) := by decide +kernel
theorem dX1_nextGroup_160 : decode cX1_nextGroup 160 = .ok (.aload_n 0, 1) := by decide +kernel
theorem dX1_nextGroup_161 : decode cX1_nextGroup 161 = .ok (.getfield 71, 3) := by decide +kernel
theorem dX1_nextGroup_164 : decode cX1_nextGroup 164 = .ok (.putfield 71, 3) := by decide +kernel
theorem dX1_nextGroup_167 : decode cX1_nextGroup 167 = .ok (.aload_n 0, 1) := by decide +kernel
theorem dX1_nextGroup_168 : decode cX1_nextGroup 168 = .ok (.aload_n 0, 1) := by decide +kernel
theorem dX1_nextGroup_169 : decode cX1_nextGroup 169 = .ok (.getfield 65, 3) := by decide +kernel
theorem dX1_nextGroup_172 : decode cX1_nextGroup 172 = .ok (.iload_n 1, 1) := by decide +kernel
theorem dX1_nextGroup_173 : decode cX1_nextGroup 173 = .ok (.iadd, 1) := by decide +kernel
theorem dX1_nextGroup_174 : decode cX1_nextGroup 174 = .ok (.putfield 65, 3) := by decide +kernel
theorem dX1_nextGroup_177 : decode cX1_nextGroup 177 = .ok (.aload_n 0, 1) := by decide +kernel
theorem dX1_nextGroup_178 : decode cX1_nextGroup 178 = .ok (.dup, 1) := by decide +kernel
theorem dX1_nextGroup_179 : decode cX1_nextGroup 179 = .ok (.getfield 62, 3) := by decide +kernel
theorem dX1_nextGroup_182 : decode cX1_nextGroup 182 = .ok (.iconst 1, 1) := by decide +kernel
theorem dX1_nextGroup_183 : decode cX1_nextGroup 183 = .ok (.iadd, 1) := by decide +kernel
theorem dX1_nextGroup_184 : decode cX1_nextGroup 184 = .ok (.putfield 62, 3) := by decide +kernel
theorem dX1_nextGroup_187 : decode cX1_nextGroup 187 = .ok (.aload_n 0, 1) := by decide +kernel
theorem dX1_nextGroup_188 : decode cX1_nextGroup 188 = .ok (.dup, 1) := by decide +kernel
theorem dX1_nextGroup_189 : decode cX1_nextGroup 189 = .ok (.getfield 46, 3) := by decide +kernel
theorem dX1_nextGroup_192 : decode cX1_nextGroup 192 = .ok (.iconst 1, 1) := by decide +kernel
theorem dX1_nextGroup_193 : decode cX1_nextGroup 193 = .ok (.iadd, 1) := by decide +kernel
theorem dX1_nextGroup_194 : decode cX1_nextGroup 194 = .ok (.putfield 46, 3) := by decide +kernel
theorem dX1_nextGroup_197 : decode cX1_nextGroup 197 = .ok (.goto (-131), 3) := by decide +kernel
theorem dX1_nextGroup_200 : decode cX1_nextGroup 200 = .ok (.iconst 2, 1) := by decide +kernel
theorem dX1_nextGroup_201 : decode cX1_nextGroup 201 = .ok (.ireturn, 1) := by decide +kernel
theorem dX1_skipTo_0 : decode cX1_skipTo 0 = .ok (.aload_n 0, 1) := by decide +kernel
theorem dX1_skipTo_1 : decode cX1_skipTo 1 = .ok (.iconst 0, 1) := by decide +kernel
theorem dX1_skipTo_2 : decode cX1_skipTo 2 = .ok (.putfield 30, 3) := by decide +kernel
theorem dX1_skipTo_5 : decode cX1_skipTo 5 = .ok (.aload_n 0, 1) := by decide +kernel
theorem dX1_skipTo_6 : decode cX1_skipTo 6 = .ok (.getfield 42, 3) := by decide +kernel
theorem dX1_skipTo_9 : decode cX1_skipTo 9 = .ok (.ifCond .ne 6, 3) := by decide +kernel
theorem dX1_skipTo_12 : decode cX1_skipTo 12 = .ok (.bipush (-4), 2) := by decide +kernel
theorem dX1_skipTo_14 : decode cX1_skipTo 14 = .ok (.ireturn, 1) := by decide +kernel
theorem dX1_skipTo_15 : decode cX1_skipTo 15 = .ok (.iconst 0, 1) := by decide +kernel
theorem dX1_skipTo_16 : decode cX1_skipTo 16 = .ok (.istore_n 2, 1) := by decide +kernel
theorem dX1_skipTo_17 : decode cX1_skipTo 17 = .ok (.aload_n 0, 1) := by decide +kernel
theorem dX1_skipTo_18 : decode cX1_skipTo 18 = .ok (.getfield 46, 3) := by decide +kernel
theorem dX1_skipTo_21 : decode cX1_skipTo 21 = .ok (.aload_n 0, 1) := by decide +kernel
theorem dX1_skipTo_22 : decode cX1_skipTo 22 = .ok (.getfield 33, 3) := by decide +kernel
theorem dX1_skipTo_25 : decode cX1_skipTo 25 = .ok (.if_icmp .ge 37, 3) := by decide +kernel
theorem dX1_skipTo_28 : decode cX1_skipTo 28 = .ok (.aload_n 0, 1) := by decide +kernel
theorem dX1_skipTo_29 : decode cX1_skipTo 29 = .ok (.getfield 7, 3) := by decide +kernel
theorem dX1_skipTo_32 : decode cX1_skipTo 32 = .ok (.aload_n 0, 1) := by decide +kernel
theorem dX1_skipTo_33 : decode cX1_skipTo 33 = .ok (.getfield 16, 3) := by decide +kernel
theorem dX1_skipTo_36 : decode cX1_skipTo 36 = .ok (.aload_n 0, 1) := by decide +kernel
theorem dX1_skipTo_37 : decode cX1_skipTo 37 = .ok (.getfield 46, 3) := by decide +kernel
theorem dX1_skipTo_40 : decode cX1_skipTo 40 = .ok (.iaload, 1) := by decide +kernel
theorem dX1_skipTo_41 : decode cX1_skipTo 41 = .ok (.iaload, 1) := by decide +kernel
theorem dX1_skipTo_42 : decode cX1_skipTo 42 = .ok (.iload_n 1, 1) := by decide +kernel
theorem dX1_skipTo_43 : decode cX1_skipTo 43 = .ok (.if_icmp .ge 19, 3) := by decide +kernel
theorem dX1_skipTo_46 : decode cX1_skipTo 46 = .ok (.aload_n 0, 1) := by decide +kernel
theorem dX1_skipTo_47 : decode cX1_skipTo 47 = .ok (.dup, 1) := by decide +kernel
theorem dX1_skipTo_48 : decode cX1_skipTo 48 = .ok (.getfield 46, 3) := by decide +kernel
theorem dX1_skipTo_51 : decode cX1_skipTo 51 = .ok (.iconst 1, 1) := by decide +kernel
theorem dX1_skipTo_52 : decode cX1_skipTo 52 = .ok (.iadd, 1) := by decide +kernel
theorem dX1_skipTo_53 : decode cX1_skipTo 53 = .ok (.putfield 46, 3) := by decide +kernel
theorem dX1_skipTo_56 : decode cX1_skipTo 56 = .ok (.iinc 2 1, 3) := by decide +kernel
theorem dX1_skipTo_59 : decode cX1_skipTo 59 = .ok (.goto (-42), 3) := by decide +kernel
theorem dX1_skipTo_62 : decode cX1_skipTo 62 = .ok (.aload_n 0, 1) := by decide +kernel
theorem dX1_skipTo_63 : decode cX1_skipTo 63 = .ok (.iconst 0, 1) := by decide +kernel
theorem dX1_skipTo_64 : decode cX1_skipTo 64 = .ok (.putfield 49, 3) := by decide +kernel
theorem dX1_skipTo_67 : decode cX1_skipTo 67 = .ok (.iload_n 2, 1) := by decide +kernel
theorem dX1_skipTo_68 : decode cX1_skipTo 68 = .ok (.ireturn, 1) := by decide +kernel
theorem dX1_key_0 : decode cX1_key 0 = .ok (.aload_n 0, 1) := by decide +kernel
theorem dX1_key_1 : decode cX1_key 1 = .ok (.iconst 0, 1) := by decide +kernel
theorem dX1_key_2 : decode cX1_key 2 = .ok (.putfield 30, 3) := by decide +kernel
theorem dX1_key_5 : decode cX1_key 5 = .ok (.aload_n 0, 1) := by decide +kernel
theorem dX1_key_6 : decode cX1_key 6 = .ok (.getfield 49, 3) := by decide +kernel
theorem dX1_key_9 : decode cX1_key 9 = .ok (.ifCond .ne 7, 3) := by decide +kernel
theorem dX1_key_12 : decode cX1_key 12 = .ok (.iconst 0, 1) := by decide +kernel
theorem dX1_key_13 : decode cX1_key 13 = .ok (.goto 7, 3) := by decide +kernel
theorem dX1_key_16 : decode cX1_key 16 = .ok (.aload_n 0, 1) := by decide +kernel
theorem dX1_key_17 : decode cX1_key 17 = .ok (.getfield 56, 3) := by decide +kernel
theorem dX1_key_20 : decode cX1_key 20 = .ok (.ireturn, 1) := by decide +kernel
theorem dX1_value_0 : decode cX1_value 0 = .ok (.aload_n 0, 1) := by decide +kernel
theorem dX1_value_1 : decode cX1_value 1 = .ok (.iconst 0, 1) := by decide +kernel
theorem dX1_value_2 : decode cX1_value 2 = .ok (.putfield 30, 3) := by decide +kernel
theorem dX1_value_5 : decode cX1_value 5 = .ok (.aload_n 0, 1) := by decide +kernel
theorem dX1_value_6 : decode cX1_value 6 = .ok (.getfield 49, 3) := by decide +kernel
theorem dX1_value_9 : decode cX1_value 9 = .ok (.iconst 1, 1) := by decide +kernel
theorem dX1_value_10 : decode cX1_value 10 = .ok (.if_icmp .ne 10, 3) := by decide +kernel
theorem dX1_value_13 : decode cX1_value 13 = .ok (.aload_n 0, 1) := by decide +kernel
theorem dX1_value_14 : decode cX1_value 14 = .ok (.getfield 59, 3) := by decide +kernel
theorem dX1_value_17 : decode cX1_value 17 = .ok (.goto 4, 3) := by decide +kernel
theorem dX1_value_20 : decode cX1_value 20 = .ok (.iconst 0, 1) := by decide +kernel
theorem dX1_value_21 : decode cX1_value 21 = .ok (.ireturn, 1) := by decide +kernel
theorem dX1_group_0 : decode cX1_group 0 = .ok (.aload_n 0, 1) := by decide +kernel
theorem dX1_group_1 : decode cX1_group 1 = .ok (.iload_n 1, 1) := by decide +kernel
theorem dX1_group_2 : decode cX1_group 2 = .ok (.ifCond .lt 8, 3) := by decide +kernel
theorem dX1_group_5 : decode cX1_group 5 = .ok (.iload_n 1, 1) := by decide +kernel
theorem dX1_group_6 : decode cX1_group 6 = .ok (.iconst 3, 1) := by decide +kernel
theorem dX1_group_7 : decode cX1_group 7 = .ok (.if_icmp .le 7, 3) := by decide +kernel
theorem dX1_group_10 : decode cX1_group 10 = .ok (.iconst 1, 1) := by decide +kernel
theorem dX1_group_11 : decode cX1_group 11 = .ok (.goto 4, 3) := by decide +kernel
theorem dX1_group_14 : decode cX1_group 14 = .ok (.iconst 0, 1) := by decide +kernel
theorem dX1_group_15 : decode cX1_group 15 = .ok (.putfield 30, 3) := by decide +kernel
theorem dX1_group_18 : decode cX1_group 18 = .ok (.aload_n 0, 1) := by decide +kernel
theorem dX1_group_19 : decode cX1_group 19 = .ok (.getfield 30, 3) := by decide +kernel
theorem dX1_group_22 : decode cX1_group 22 = .ok (.ifCond .gt 11, 3) := by decide +kernel
theorem dX1_group_25 : decode cX1_group 25 = .ok (.aload_n 0, 1) := by decide +kernel
theorem dX1_group_26 : decode cX1_group 26 = .ok (.getfield 49, 3) := by decide +kernel
theorem dX1_group_29 : decode cX1_group 29 = .ok (.iconst 2, 1) := by decide +kernel
theorem dX1_group_30 : decode cX1_group 30 = .ok (.if_icmp .eq 5, 3) := by decide +kernel
theorem dX1_group_33 : decode cX1_group 33 = .ok (.iconst 0, 1) := by decide +kernel
theorem dX1_group_34 : decode cX1_group 34 = .ok (.ireturn, 1) := by decide +kernel
theorem dX1_group_35 : decode cX1_group 35 = .ok (.iload_n 1, 1) := by decide +kernel
theorem dX1_group_36 : decode cX1_group 36 = .ok (.ifCond .ne 10, 3) := by decide +kernel
theorem dX1_group_39 : decode cX1_group 39 = .ok (.aload_n 0, 1) := by decide +kernel
theorem dX1_group_40 : decode cX1_group 40 = .ok (.getfield 62, 3) := by decide +kernel
theorem dX1_group_43 : decode cX1_group 43 = .ok (.goto 31, 3) := by decide +kernel
theorem dX1_group_46 : decode cX1_group 46 = .ok (.iload_n 1, 1) := by decide +kernel
theorem dX1_group_47 : decode cX1_group 47 = .ok (.iconst 1, 1) := by decide +kernel
theorem dX1_group_48 : decode cX1_group 48 = .ok (.if_icmp .ne 10, 3) := by decide +kernel
theorem dX1_group_51 : decode cX1_group 51 = .ok (.aload_n 0, 1) := by decide +kernel
theorem dX1_group_52 : decode cX1_group 52 = .ok (.getfield 65, 3) := by decide +kernel
theorem dX1_group_55 : decode cX1_group 55 = .ok (.goto 19, 3) := by decide +kernel
theorem dX1_group_58 : decode cX1_group 58 = .ok (.iload_n 1, 1) := by decide +kernel
theorem dX1_group_59 : decode cX1_group 59 = .ok (.iconst 2, 1) := by decide +kernel
theorem dX1_group_60 : decode cX1_group 60 = .ok (.if_icmp .ne 10, 3) := by decide +kernel
theorem dX1_group_63 : decode cX1_group 63 = .ok (.aload_n 0, 1) := by decide +kernel
theorem dX1_group_64 : decode cX1_group 64 = .ok (.getfield 68, 3) := by decide +kernel
theorem dX1_group_67 : decode cX1_group 67 = .ok (.goto 7, 3) := by decide +kernel
theorem dX1_group_70 : decode cX1_group 70 = .ok (.aload_n 0, 1) := by decide +kernel
theorem dX1_group_71 : decode cX1_group 71 = .ok (.getfield 71, 3) := by decide +kernel
theorem dX1_group_74 : decode cX1_group 74 = .ok (.ireturn, 1) := by decide +kernel
theorem dX1_runsLeft_0 : decode cX1_runsLeft 0 = .ok (.iconst 0, 1) := by decide +kernel
theorem dX1_runsLeft_1 : decode cX1_runsLeft 1 = .ok (.istore_n 1, 1) := by decide +kernel
theorem dX1_runsLeft_2 : decode cX1_runsLeft 2 = .ok (.iload_n 1, 1) := by decide +kernel
theorem dX1_runsLeft_3 : decode cX1_runsLeft 3 = .ok (.aload_n 0, 1) := by decide +kernel
theorem dX1_runsLeft_4 : decode cX1_runsLeft 4 = .ok (.getfield 33, 3) := by decide +kernel
theorem dX1_runsLeft_7 : decode cX1_runsLeft 7 = .ok (.if_icmp .ge 16, 3) := by decide +kernel
theorem dX1_runsLeft_10 : decode cX1_runsLeft 10 = .ok (.aload_n 0, 1) := by decide +kernel
theorem dX1_runsLeft_11 : decode cX1_runsLeft 11 = .ok (.getfield 19, 3) := by decide +kernel
theorem dX1_runsLeft_14 : decode cX1_runsLeft 14 = .ok (.iload_n 1, 1) := by decide +kernel
theorem dX1_runsLeft_15 : decode cX1_runsLeft 15 = .ok (.iconst 0, 1) := by decide +kernel
theorem dX1_runsLeft_16 : decode cX1_runsLeft 16 = .ok (.bastore, 1) := by decide +kernel
theorem dX1_runsLeft_17 : decode cX1_runsLeft 17 = .ok (.iinc 1 1, 3) := by decide +kernel
theorem dX1_runsLeft_20 : decode cX1_runsLeft 20 = .ok (.goto (-18), 3) := by decide +kernel
theorem dX1_runsLeft_23 : decode cX1_runsLeft 23 = .ok (.iconst 0, 1) := by decide +kernel
theorem dX1_runsLeft_24 : decode cX1_runsLeft 24 = .ok (.istore_n 1, 1) := by decide +kernel
theorem dX1_runsLeft_25 : decode cX1_runsLeft 25 = .ok (.aload_n 0, 1) := by decide +kernel
theorem dX1_runsLeft_26 : decode cX1_runsLeft 26 = .ok (.getfield 46, 3) := by decide +kernel
theorem dX1_runsLeft_29 : decode cX1_runsLeft 29 = .ok (.istore_n 2, 1) := by decide +kernel
theorem dX1_runsLeft_30 : decode cX1_runsLeft 30 = .ok (.iload_n 2, 1) := by decide +kernel
theorem dX1_runsLeft_31 : decode cX1_runsLeft 31 = .ok (.aload_n 0, 1) := by decide +kernel
