theorem dX3_skip_106 : decode cX3_skip 106 = .ok (.aload_n 0, 1) := by decide +kernel
theorem dX3_skip_107 : decode cX3_skip 107 = .ok (.dup, 1) := by decide +kernel
theorem dX3_skip_108 : decode cX3_skip 108 = .ok (.getfield 91, 3) := by decide +kernel
theorem dX3_skip_111 : decode cX3_skip 111 = .ok (.iconst 1, 1) := by decide +kernel
theorem dX3_skip_112 : decode cX3_skip 112 = .ok (.iadd, 1) := by decide +kernel
theorem dX3_skip_113 : decode cX3_skip 113 = .ok (.putfield 91, 3) := by decide +kernel
theorem dX3_skip_116 : decode cX3_skip 116 = .ok (.goto 73, 3) := by decide +kernel
theorem dX3_skip_119 : decode cX3_skip 119 = .ok (.iinc 1 1, 3) := by decide +kernel
theorem dX3_skip_122 : decode cX3_skip 122 = .ok (.aload_n 0, 1) := by decide +kernel
theorem dX3_skip_123 : decode cX3_skip 123 = .ok (.iload_n 3, 1) := by decide +kernel
theorem dX3_skip_124 : decode cX3_skip 124 = .ok (.iconst 1, 1) := by decide +kernel
theorem dX3_skip_125 : decode cX3_skip 125 = .ok (.if_icmp .ne 12, 3) := by decide +kernel
theorem dX3_skip_128 : decode cX3_skip 128 = .ok (.aload_n 0, 1) := by decide +kernel
theorem dX3_skip_129 : decode cX3_skip 129 = .ok (.getfield 97, 3) := by decide +kernel
theorem dX3_skip_132 : decode cX3_skip 132 = .ok (.iconst 1, 1) := by decide +kernel
theorem dX3_skip_133 : decode cX3_skip 133 = .ok (.iadd, 1) := by decide +kernel
theorem dX3_skip_134 : decode cX3_skip 134 = .ok (.goto 4, 3) := by decide +kernel
theorem dX3_skip_137 : decode cX3_skip 137 = .ok (.iconst 0, 1) := by decide +kernel
theorem dX3_skip_138 : decode cX3_skip 138 = .ok (.putfield 97, 3) := by decide +kernel
theorem dX3_skip_141 : decode cX3_skip 141 = .ok (.aload_n 0, 1) := by decide +kernel
theorem dX3_skip_142 : decode cX3_skip 142 = .ok (.getfield 17, 3) := by decide +kernel
theorem dX3_skip_145 : decode cX3_skip 145 = .ok (.iconst 1, 1) := by decide +kernel
theorem dX3_skip_146 : decode cX3_skip 146 = .ok (.if_icmp .le 43, 3) := by decide +kernel
theorem dX3_skip_149 : decode cX3_skip 149 = .ok (.aload_n 0, 1) := by decide +kernel
theorem dX3_skip_150 : decode cX3_skip 150 = .ok (.getfield 97, 3) := by decide +kernel
theorem dX3_skip_153 : decode cX3_skip 153 = .ok (.aload_n 0, 1) := by decide +kernel
theorem dX3_skip_154 : decode cX3_skip 154 = .ok (.getfield 17, 3) := by decide +kernel
theorem dX3_skip_157 : decode cX3_skip 157 = .ok (.if_icmp .ne 32, 3) := by decide +kernel
theorem dX3_skip_160 : decode cX3_skip 160 = .ok (.aload_n 0, 1) := by decide +kernel
theorem dX3_skip_161 : decode cX3_skip 161 = .ok (.getfield 79, 3) := by decide +kernel
theorem dX3_skip_164 : decode cX3_skip 164 = .ok (.bipush 8, 2) := by decide +kernel
theorem dX3_skip_166 : decode cX3_skip 166 = .ok (.irem, 1) := by decide +kernel
theorem dX3_skip_167 : decode cX3_skip 167 = .ok (.ifCond .eq 22, 3) := by decide +kernel
theorem dX3_skip_170 : decode cX3_skip 170 = .ok (.aload_n 0, 1) := by decide +kernel
theorem dX3_skip_171 : decode cX3_skip 171 = .ok (.dup, 1) := by decide +kernel
theorem dX3_skip_172 : decode cX3_skip 172 = .ok (.getfield 91, 3) := by decide +kernel
theorem dX3_skip_175 : decode cX3_skip 175 = .ok (.iconst 1, 1) := by decide +kernel
theorem dX3_skip_176 : decode cX3_skip 176 = .ok (.iadd, 1) := by decide +kernel
theorem dX3_skip_177 : decode cX3_skip 177 = .ok (.putfield 91, 3) := by decide +kernel
theorem dX3_skip_180 : decode cX3_skip 180 = .ok (.aload_n 0, 1) := by decide +kernel
theorem dX3_skip_181 : decode cX3_skip 181 = .ok (.invokevirtual 94, 3) := by decide +kernel
theorem dX3_skip_184 : decode cX3_skip 184 = .ok (.aload_n 0, 1) := by decide +kernel
theorem dX3_skip_185 : decode cX3_skip 185 = .ok (.iconst 0, 1) := by decide +kernel
theorem dX3_skip_186 : decode cX3_skip 186 = .ok (.putfield 97, 3) := by decide +kernel
theorem dX3_skip_189 : decode cX3_skip 189 = .ok (.goto (-169), 3) := by decide +kernel
theorem dX3_skip_192 : decode cX3_skip 192 = .ok (.aload_n 0, 1) := by decide +kernel
theorem dX3_skip_193 : decode cX3_skip 193 = .ok (.iload_n 1, 1) := by decide +kernel
theorem dX3_skip_194 : decode cX3_skip 194 = .ok (.ifCond .le 7, 3) := by decide +kernel
theorem dX3_skip_197 : decode cX3_skip 197 = .ok (.iconst 0, 1) := by decide +kernel
theorem dX3_skip_198 : decode cX3_skip 198 = .ok (.goto 7, 3) := by decide +kernel
theorem dX3_skip_201 : decode cX3_skip 201 = .ok (.aload_n 0, 1) := by decide +kernel
theorem dX3_skip_202 : decode cX3_skip 202 = .ok (.getfield 97, 3) := by decide +kernel
theorem dX3_skip_205 : decode cX3_skip 205 = .ok (.putfield 97, 3) := by decide +kernel
theorem dX3_skip_208 : decode cX3_skip 208 = .ok (.aload_n 0, 1) := by decide +kernel
theorem dX3_skip_209 : decode cX3_skip 209 = .ok (.invokevirtual 125, 3) := by decide +kernel
theorem dX3_skip_212 : decode cX3_skip 212 = .ok (.iload_n 1, 1) := by decide +kernel
theorem dX3_skip_213 : decode cX3_skip 213 = .ok (.ireturn, 1) := by decide +kernel
theorem dX3_take_0 : decode cX3_take 0 = .ok (.aload_n 0, 1) := by decide +kernel
theorem dX3_take_1 : decode cX3_take 1 = .ok (.iconst 0, 1) := by decide +kernel
theorem dX3_take_2 : decode cX3_take 2 = .ok (.putfield 25, 3) := by decide +kernel
theorem dX3_take_5 : decode cX3_take 5 = .ok (.aload_n 0, 1) := by decide +kernel
theorem dX3_take_6 : decode cX3_take 6 = .ok (.getfield 17, 3) := by decide +kernel
theorem dX3_take_9 : decode cX3_take 9 = .ok (.iconst 1, 1) := by decide +kernel
theorem dX3_take_10 : decode cX3_take 10 = .ok (.if_icmp .ne 34, 3) := by decide +kernel
theorem dX3_take_13 : decode cX3_take 13 = .ok (.aload_n 0, 1) := by decide +kernel
theorem dX3_take_14 : decode cX3_take 14 = .ok (.getfield 112, 3) := by decide +kernel
theorem dX3_take_17 : decode cX3_take 17 = .ok (.ifCond .ne 27, 3) := by decide +kernel
theorem dX3_take_20 : decode cX3_take 20 = .ok (.aload_n 0, 1) := by decide +kernel
theorem dX3_take_21 : decode cX3_take 21 = .ok (.getfield 100, 3) := by decide +kernel
theorem dX3_take_24 : decode cX3_take 24 = .ok (.bipush 8, 2) := by decide +kernel
theorem dX3_take_26 : decode cX3_take 26 = .ok (.irem, 1) := by decide +kernel
theorem dX3_take_27 : decode cX3_take 27 = .ok (.ifCond .ne 17, 3) := by decide +kernel
theorem dX3_take_30 : decode cX3_take 30 = .ok (.aload_n 0, 1) := by decide +kernel
theorem dX3_take_31 : decode cX3_take 31 = .ok (.aload_n 0, 1) := by decide +kernel
theorem dX3_take_32 : decode cX3_take 32 = .ok (.getfield 100, 3) := by decide +kernel
theorem dX3_take_35 : decode cX3_take 35 = .ok (.bipush 8, 2) := by decide +kernel
theorem dX3_take_37 : decode cX3_take 37 = .ok (.idiv, 1) := by decide +kernel
theorem dX3_take_38 : decode cX3_take 38 = .ok (.invokevirtual 128, 3) := by decide +kernel
theorem dX3_take_41 : decode cX3_take 41 = .ok (.ifCond .ne 5, 3) := by decide +kernel
theorem dX3_take_44 : decode cX3_take 44 = .ok (.iconst (-1), 1) := by decide +kernel
theorem dX3_take_45 : decode cX3_take 45 = .ok (.ireturn, 1) := by decide +kernel
theorem dX3_take_46 : decode cX3_take 46 = .ok (.aload_n 0, 1) := by decide +kernel
theorem dX3_take_47 : decode cX3_take 47 = .ok (.getfield 13, 3) := by decide +kernel
theorem dX3_take_50 : decode cX3_take 50 = .ok (.aload_n 0, 1) := by decide +kernel
theorem dX3_take_51 : decode cX3_take 51 = .ok (.getfield 100, 3) := by decide +kernel
theorem dX3_take_54 : decode cX3_take 54 = .ok (.bipush 8, 2) := by decide +kernel
theorem dX3_take_56 : decode cX3_take 56 = .ok (.idiv, 1) := by decide +kernel
theorem dX3_take_57 : decode cX3_take 57 = .ok (.iconst 1, 1) := by decide +kernel
theorem dX3_take_58 : decode cX3_take 58 = .ok (.iadd, 1) := by decide +kernel
theorem dX3_take_59 : decode cX3_take 59 = .ok (.iaload, 1) := by decide +kernel
theorem dX3_take_60 : decode cX3_take 60 = .ok (.istore_n 1, 1) := by decide +kernel
theorem dX3_take_61 : decode cX3_take 61 = .ok (.aload_n 0, 1) := by decide +kernel
theorem dX3_take_62 : decode cX3_take 62 = .ok (.aload_n 0, 1) := by decide +kernel
theorem dX3_take_63 : decode cX3_take 63 = .ok (.getfield 100, 3) := by decide +kernel
theorem dX3_take_66 : decode cX3_take 66 = .ok (.bipush 16, 2) := by decide +kernel
theorem dX3_take_68 : decode cX3_take 68 = .ok (.iadd, 1) := by decide +kernel
theorem dX3_take_69 : decode cX3_take 69 = .ok (.putfield 100, 3) := by decide +kernel
theorem dX3_take_72 : decode cX3_take 72 = .ok (.aload_n 0, 1) := by decide +kernel
theorem dX3_take_73 : decode cX3_take 73 = .ok (.iconst 0, 1) := by decide +kernel
theorem dX3_take_74 : decode cX3_take 74 = .ok (.putfield 109, 3) := by decide +kernel
theorem dX3_take_77 : decode cX3_take 77 = .ok (.iload_n 1, 1) := by decide +kernel
theorem dX3_take_78 : decode cX3_take 78 = .ok (.ireturn, 1) := by decide +kernel
theorem dX3_isMark_0 : decode cX3_isMark 0 = .ok (.iload_n 1, 1) := by decide +kernel
theorem dX3_isMark_1 : decode cX3_isMark 1 = .ok (.iconst 1, 1) := by decide +kernel
theorem dX3_isMark_2 : decode cX3_isMark 2 = .ok (.iadd, 1) := by decide +kernel
theorem dX3_isMark_3 : decode cX3_isMark 3 = .ok (.aload_n 0, 1) := by decide +kernel
theorem dX3_isMark_4 : decode cX3_isMark 4 = .ok (.getfield 76, 3) := by decide +kernel
theorem dX3_isMark_7 : decode cX3_isMark 7 = .ok (.if_icmp .ge 32, 3) := by decide +kernel
theorem dX3_isMark_10 : decode cX3_isMark 10 = .ok (.aload_n 0, 1) := by decide +kernel
theorem dX3_isMark_11 : decode cX3_isMark 11 = .ok (.getfield 13, 3) := by decide +kernel
theorem dX3_isMark_14 : decode cX3_isMark 14 = .ok (.iload_n 1, 1) := by decide +kernel
theorem dX3_isMark_15 : decode cX3_isMark 15 = .ok (.iaload, 1) := by decide +kernel
theorem dX3_isMark_16 : decode cX3_isMark 16 = .ok (.sipush 255, 3) := by decide +kernel
theorem dX3_isMark_19 : decode cX3_isMark 19 = .ok (.if_icmp .ne 20, 3) := by decide +kernel
theorem dX3_isMark_22 : decode cX3_isMark 22 = .ok (.aload_n 0, 1) := by decide +kernel
theorem dX3_isMark_23 : decode cX3_isMark 23 = .ok (.getfield 13, 3) := by decide +kernel
theorem dX3_isMark_26 : decode cX3_isMark 26 = .ok (.iload_n 1, 1) := by decide +kernel
theorem dX3_isMark_27 : decode cX3_isMark 27 = .ok (.iconst 1, 1) := by decide +kernel
theorem dX3_isMark_28 : decode cX3_isMark 28 = .ok (.iadd, 1) := by decide +kernel
theorem dX3_isMark_29 : decode cX3_isMark 29 = .ok (.iaload, 1) := by decide +kernel
theorem dX3_isMark_30 : decode cX3_isMark 30 = .ok (.bipush 127, 2) := by decide +kernel
theorem dX3_isMark_32 : decode cX3_isMark 32 = .ok (.if_icmp .le 7, 3) := by decide +kernel
theorem dX3_isMark_35 : decode cX3_isMark 35 = .ok (.iconst 1, 1) := by decide +kernel
theorem dX3_isMark_36 : decode cX3_isMark 36 = .ok (.goto 4, 3) := by decide +kernel
theorem dX3_isMark_39 : decode cX3_isMark 39 = .ok (.iconst 0, 1) := by decide +kernel
theorem dX3_isMark_40 : decode cX3_isMark 40 = .ok (.ireturn, 1) := by decide +kernel
theorem dX3_find_0 : decode cX3_find 0 = .ok (.aload_n 0, 1) := by decide +kernel
theorem dX3_find_1 : decode cX3_find 1 = .ok (.iload_n 1, 1) := by decide +kernel
theorem dX3_find_2 : decode cX3_find 2 = .ok (.i2l, 1) := by decide +kernel
theorem dX3_find_3 : decode cX3_find 3 = .ok (.lconst 0, 1) := by decide +kernel
theorem dX3_find_4 : decode cX3_find 4 = .ok (.aload_n 0, 1) := by decide +kernel
theorem dX3_find_5 : decode cX3_find 5 = .ok (.getfield 76, 3) := by decide +kernel
theorem dX3_find_8 : decode cX3_find 8 = .ok (.i2l, 1) := by decide +kernel
theorem dX3_find_9 : decode cX3_find 9 = .ok (.invokestatic 53, 3) := by decide +kernel
theorem dX3_find_12 : decode cX3_find 12 = .ok (.ifCond .eq 7, 3) := by decide +kernel
theorem dX3_find_15 : decode cX3_find 15 = .ok (.iconst 0, 1) := by decide +kernel
theorem dX3_find_16 : decode cX3_find 16 = .ok (.goto 4, 3) := by decide +kernel
theorem dX3_find_19 : decode cX3_find 19 = .ok (.iconst 1, 1) := by decide +kernel
theorem dX3_find_20 : decode cX3_find 20 = .ok (.putfield 25, 3) := by decide +kernel
theorem dX3_find_23 : decode cX3_find 23 = .ok (.iload_n 1, 1) := by decide +kernel
theorem dX3_find_24 : decode cX3_find 24 = .ok (.istore_n 2, 1) := by decide +kernel
theorem dX3_find_25 : decode cX3_find 25 = .ok (.aload_n 0, 1) := by decide +kernel
theorem dX3_find_26 : decode cX3_find 26 = .ok (.getfield 25, 3) := by decide +kernel
theorem dX3_find_29 : decode cX3_find 29 = .ok (.ifCond .ne 27, 3) := by decide +kernel
theorem dX3_find_32 : decode cX3_find 32 = .ok (.iload_n 2, 1) := by decide +kernel
theorem dX3_find_33 : decode cX3_find 33 = .ok (.aload_n 0, 1) := by decide +kernel
theorem dX3_find_34 : decode cX3_find 34 = .ok (.getfield 76, 3) := by decide +kernel
theorem dX3_find_37 : decode cX3_find 37 = .ok (.if_icmp .ge 19, 3) := by decide +kernel
theorem dX3_find_40 : decode cX3_find 40 = .ok (.aload_n 0, 1) := by decide +kernel
theorem dX3_find_41 : decode cX3_find 41 = .ok (.iload_n 2, 1) := by decide +kernel
theorem dX3_find_42 : decode cX3_find 42 = .ok (.invokevirtual 128, 3) := by decide +kernel
theorem dX3_find_45 : decode cX3_find 45 = .ok (.ifCond .eq 5, 3) := by decide +kernel
theorem dX3_find_48 : decode cX3_find 48 = .ok (.iload_n 2, 1) := by decide +kernel
theorem dX3_find_49 : decode cX3_find 49 = .ok (.ireturn, 1) := by decide +kernel
theorem dX3_find_50 : decode cX3_find 50 = .ok (.iinc 2 1, 3) := by decide +kernel
theorem dX3_find_53 : decode cX3_find 53 = .ok (.goto (-28), 3) := by decide +kernel
theorem dX3_find_56 : decode cX3_find 56 = .ok (.aload_n 0, 1) := by decide +kernel
theorem dX3_find_57 : decode cX3_find 57 = .ok (.getfield 25, 3) := by decide +kernel
theorem dX3_find_60 : decode cX3_find 60 = .ok (.ifCond .le 7, 3) := by decide +kernel
theorem dX3_find_63 : decode cX3_find 63 = .ok (.iconst 0, 1) := by decide +kernel
theorem dX3_find_64 : decode cX3_find 64 = .ok (.goto 4, 3) := by decide +kernel
theorem dX3_find_67 : decode cX3_find 67 = .ok (.iconst (-1), 1) := by decide +kernel
theorem dX3_find_68 : decode cX3_find 68 = .ok (.ireturn, 1) := by decide +kernel
theorem dX3_sum_0 : decode cX3_sum 0 = .ok (.iload_n 1, 1) := by decide +kernel
theorem dX3_sum_1 : decode cX3_sum 1 = .ok (.ifCond .eq 10, 3) := by decide +kernel
theorem dX3_sum_4 : decode cX3_sum 4 = .ok (.aload_n 0, 1) := by decide +kernel
theorem dX3_sum_5 : decode cX3_sum 5 = .ok (.getfield 76, 3) := by decide +kernel
theorem dX3_sum_8 : decode cX3_sum 8 = .ok (.goto 7, 3) := by decide +kernel
theorem dX3_sum_11 : decode cX3_sum 11 = .ok (.aload_n 0, 1) := by decide +kernel
theorem dX3_sum_12 : decode cX3_sum 12 = .ok (.invokevirtual 73, 3) := by decide +kernel
theorem dX3_sum_15 : decode cX3_sum 15 = .ok (.istore 5, 2) := by decide +kernel
theorem dX3_sum_17 : decode cX3_sum 17 = .ok (.aload_n 0, 1) := by decide +kernel
theorem dX3_sum_18 : decode cX3_sum 18 = .ok (.iload_n 2, 1) := by decide +kernel
theorem dX3_sum_19 : decode cX3_sum 19 = .ok (.bipush 16, 2) := by decide +kernel
theorem dX3_sum_21 : decode cX3_sum 21 = .ok (.if_icmp .eq 13, 3) := by decide +kernel
theorem dX3_sum_24 : decode cX3_sum 24 = .ok (.iload_n 2, 1) := by decide +kernel
theorem dX3_sum_25 : decode cX3_sum 25 = .ok (.bipush 32, 2) := by decide +kernel
theorem dX3_sum_27 : decode cX3_sum 27 = .ok (.if_icmp .eq 7, 3) := by decide +kernel
theorem dX3_sum_30 : decode cX3_sum 30 = .ok (.iconst 1, 1) := by decide +kernel
theorem dX3_sum_31 : decode cX3_sum 31 = .ok (.goto 25, 3) := by decide +kernel
theorem dX3_sum_34 : decode cX3_sum 34 = .ok (.iload_n 3, 1) := by decide +kernel
theorem dX3_sum_35 : decode cX3_sum 35 = .ok (.ifCond .lt 16, 3) := by decide +kernel
theorem dX3_sum_38 : decode cX3_sum 38 = .ok (.iload_n 3, 1) := by decide +kernel
theorem dX3_sum_39 : decode cX3_sum 39 = .ok (.iload 4, 2) := by decide +kernel
theorem dX3_sum_41 : decode cX3_sum 41 = .ok (.if_icmp .gt 10, 3) := by decide +kernel
theorem dX3_sum_44 : decode cX3_sum 44 = .ok (.iload 4, 2) := by decide +kernel
theorem dX3_sum_46 : decode cX3_sum 46 = .ok (.iload 5, 2) := by decide +kernel
theorem dX3_sum_48 : decode cX3_sum 48 = .ok (.if_icmp .le 7, 3) := by decide +kernel
theorem dX3_sum_51 : decode cX3_sum 51 = .ok (.iconst 2, 1) := by decide +kernel
theorem dX3_sum_52 : decode cX3_sum 52 = .ok (.goto 4, 3) := by decide +kernel
theorem dX3_sum_55 : decode cX3_sum 55 = .ok (.iconst 0, 1) := by decide +kernel
theorem dX3_sum_56 : decode cX3_sum 56 = .ok (.putfield 25, 3) := by decide +kernel
theorem dX3_sum_59 : decode cX3_sum 59 = .ok (.aload_n 0, 1) := by decide +kernel
theorem dX3_sum_60 : decode cX3_sum 60 = .ok (.getfield 25, 3) := by decide +kernel
theorem dX3_sum_63 : decode cX3_sum 63 = .ok (.ifCond .le 5, 3) := by decide +kernel
theorem dX3_sum_66 : decode cX3_sum 66 = .ok (.iconst 0, 1) := by decide +kernel
theorem dX3_sum_67 : decode cX3_sum 67 = .ok (.ireturn, 1) := by decide +kernel
theorem dX3_sum_68 : decode cX3_sum 68 = .ok (.iload_n 2, 1) := by decide +kernel
theorem dX3_sum_69 : decode cX3_sum 69 = .ok (.bipush 16, 2) := by decide +kernel
theorem dX3_sum_71 : decode cX3_sum 71 = .ok (.if_icmp .ne 8, 3) := by decide +kernel
theorem dX3_sum_74 : decode cX3_sum 74 = .ok (.ldc 131, 2) := by decide +kernel
theorem dX3_sum_76 : decode cX3_sum 76 = .ok (.goto 4, 3) := by decide +kernel
theorem dX3_sum_79 : decode cX3_sum 79 = .ok (.iconst (-1), 1) := by decide +kernel
theorem dX3_sum_80 : decode cX3_sum 80 = .ok (.istore 6, 2) := by decide +kernel
theorem dX3_sum_82 : decode cX3_sum 82 = .ok (.iload_n 3, 1) := by decide +kernel
theorem dX3_sum_83 : decode cX3_sum 83 = .ok (.istore 7, 2) := by decide +kernel
theorem dX3_sum_85 : decode cX3_sum 85 = .ok (.iload 7, 2) := by decide +kernel
theorem dX3_sum_87 : decode cX3_sum 87 = .ok (.iload 4, 2) := by decide +kernel
theorem dX3_sum_89 : decode cX3_sum 89 = .ok (.if_icmp .ge 56, 3) := by decide +kernel
theorem dX3_sum_92 : decode cX3_sum 92 = .ok (.iload_n 1, 1) := by decide +kernel
theorem dX3_sum_93 : decode cX3_sum 93 = .ok (.ifCond .eq 13, 3) := by decide +kernel
theorem dX3_sum_96 : decode cX3_sum 96 = .ok (.aload_n 0, 1) := by decide +kernel
theorem dX3_sum_97 : decode cX3_sum 97 = .ok (.getfield 13, 3) := by decide +kernel
theorem dX3_sum_100 : decode cX3_sum 100 = .ok (.iload 7, 2) := by decide +kernel
theorem dX3_sum_102 : decode cX3_sum 102 = .ok (.iaload, 1) := by decide +kernel
theorem dX3_sum_103 : decode cX3_sum 103 = .ok (.goto 9, 3) := by decide +kernel
theorem dX3_sum_106 : decode cX3_sum 106 = .ok (.aload_n 0, 1) := by decide +kernel
theorem dX3_sum_107 : decode cX3_sum 107 = .ok (.iload 7, 2) := by decide +kernel
theorem dX3_sum_109 : decode cX3_sum 109 = .ok (.invokevirtual 31, 3) := by decide +kernel
theorem dX3_sum_112 : decode cX3_sum 112 = .ok (.istore 8, 2) := by decide +kernel
theorem dX3_sum_114 : decode cX3_sum 114 = .ok (.iload_n 2, 1) := by decide +kernel
theorem dX3_sum_115 : decode cX3_sum 115 = .ok (.bipush 16, 2) := by decide +kernel
theorem dX3_sum_117 : decode cX3_sum 117 = .ok (.if_icmp .ne 13, 3) := by decide +kernel
theorem dX3_sum_120 : decode cX3_sum 120 = .ok (.iload 6, 2) := by decide +kernel
theorem dX3_sum_122 : decode cX3_sum 122 = .ok (.iload 8, 2) := by decide +kernel
theorem dX3_sum_124 : decode cX3_sum 124 = .ok (.invokestatic 133, 3) := by decide +kernel
theorem dX3_sum_127 : decode cX3_sum 127 = .ok (.goto 10, 3) := by decide +kernel
theorem dX3_sum_130 : decode cX3_sum 130 = .ok (.iload 6, 2) := by decide +kernel
theorem dX3_sum_132 : decode cX3_sum 132 = .ok (.iload 8, 2) := by decide +kernel
theorem dX3_sum_134 : decode cX3_sum 134 = .ok (.invokestatic 137, 3) := by decide +kernel
theorem dX3_sum_137 : decode cX3_sum 137 = .ok (.istore 6, 2) := by decide +kernel
theorem dX3_sum_139 : decode cX3_sum 139 = .ok (.iinc 7 1, 3) := by decide +kernel
theorem dX3_sum_142 : decode cX3_sum 142 = .ok (.goto (-57), 3) := by decide +kernel
theorem dX3_sum_145 : decode cX3_sum 145 = .ok (.iload_n 2, 1) := by decide +kernel
theorem dX3_sum_146 : decode cX3_sum 146 = .ok (.bipush 16, 2) := by decide +kernel
theorem dX3_sum_148 : decode cX3_sum 148 = .ok (.if_icmp .ne 8, 3) := by decide +kernel
theorem dX3_sum_151 : decode cX3_sum 151 = .ok (.iload 6, 2) := by decide +kernel
theorem dX3_sum_153 : decode cX3_sum 153 = .ok (.goto 7, 3) := by decide +kernel
theorem dX3_sum_156 : decode cX3_sum 156 = .ok (.iload 6, 2) := by decide +kernel
theorem dX3_sum_158 : decode cX3_sum 158 = .ok (.iconst (-1), 1) := by decide +kernel
theorem dX3_sum_159 : decode cX3_sum 159 = .ok (.ixor, 1) := by decide +kernel
theorem dX3_sum_160 : decode cX3_sum 160 = .ok (.ireturn, 1) := by decide +kernel
theorem dX3_sum16_0 : decode cX3_sum16 0 = .ok (.iload_n 0, 1) := by decide +kernel
theorem dX3_sum16_1 : decode cX3_sum16 1 = .ok (.istore_n 2, 1) := by decide +kernel
theorem dX3_sum16_2 : decode cX3_sum16 2 = .ok (.bipush 7, 2) := by decide +kernel
theorem dX3_sum16_4 : decode cX3_sum16 4 = .ok (.istore_n 3, 1) := by decide +kernel
theorem dX3_sum16_5 : decode cX3_sum16 5 = .ok (.iload_n 3, 1) := by decide +kernel
theorem dX3_sum16_6 : decode cX3_sum16 6 = .ok (.ifCond .lt 44, 3) := by decide +kernel
theorem dX3_sum16_9 : decode cX3_sum16 9 = .ok (.iload_n 2, 1) := by decide +kernel
theorem dX3_sum16_10 : decode cX3_sum16 10 = .ok (.bipush 15, 2) := by decide +kernel
theorem dX3_sum16_12 : decode cX3_sum16 12 = .ok (.ishr, 1) := by decide +kernel
theorem dX3_sum16_13 : decode cX3_sum16 13 = .ok (.iconst 1, 1) := by decide +kernel
theorem dX3_sum16_14 : decode cX3_sum16 14 = .ok (.iand, 1) := by decide +kernel
theorem dX3_sum16_15 : decode cX3_sum16 15 = .ok (.istore 4, 2) := by decide +kernel
theorem dX3_sum16_17 : decode cX3_sum16 17 = .ok (.iload_n 2, 1) := by decide +kernel
theorem dX3_sum16_18 : decode cX3_sum16 18 = .ok (.iconst 1, 1) := by decide +kernel
theorem dX3_sum16_19 : decode cX3_sum16 19 = .ok (.ishl, 1) := by decide +kernel
theorem dX3_sum16_20 : decode cX3_sum16 20 = .ok (.ldc 131, 2) := by decide +kernel
theorem dX3_sum16_22 : decode cX3_sum16 22 = .ok (.iand, 1) := by decide +kernel
theorem dX3_sum16_23 : decode cX3_sum16 23 = .ok (.istore_n 2, 1) := by decide +kernel
theorem dX3_sum16_24 : decode cX3_sum16 24 = .ok (.iload 4, 2) := by decide +kernel
theorem dX3_sum16_26 : decode cX3_sum16 26 = .ok (.iload_n 1, 1) := by decide +kernel
theorem dX3_sum16_27 : decode cX3_sum16 27 = .ok (.iload_n 3, 1) := by decide +kernel
theorem dX3_sum16_28 : decode cX3_sum16 28 = .ok (.ishr, 1) := by decide +kernel
theorem dX3_sum16_29 : decode cX3_sum16 29 = .ok (.iconst 1, 1) := by decide +kernel
theorem dX3_sum16_30 : decode cX3_sum16 30 = .ok (.iand, 1) := by decide +kernel
theorem dX3_sum16_31 : decode cX3_sum16 31 = .ok (.if_icmp .eq 11, 3) := by decide +kernel
theorem dX3_sum16_34 : decode cX3_sum16 34 = .ok (.iload_n 2, 1) := by decide +kernel
theorem dX3_sum16_35 : decode cX3_sum16 35 = .ok (.sipush 4129, 3) := by decide +kernel
theorem dX3_sum16_38 : decode cX3_sum16 38 = .ok (.ixor, 1) := by decide +kernel
theorem dX3_sum16_39 : decode cX3_sum16 39 = .ok (.goto 4, 3) := by decide +kernel
theorem dX3_sum16_42 : decode cX3_sum16 42 = .ok (.iload_n 2, 1) := by decide +kernel
theorem dX3_sum16_43 : decode cX3_sum16 43 = .ok (.istore_n 2, 1) := by decide +kernel
theorem dX3_sum16_44 : decode cX3_sum16 44 = .ok (.iinc 3 (-1), 3) := by decide +kernel
theorem dX3_sum16_47 : decode cX3_sum16 47 = .ok (.goto (-42), 3) := by decide +kernel
theorem dX3_sum16_50 : decode cX3_sum16 50 = .ok (.iload_n 2, 1) := by decide +kernel
theorem dX3_sum16_51 : decode cX3_sum16 51 = .ok (.ireturn, 1) := by decide +kernel
theorem dX3_sum32_0 : decode cX3_sum32 0 = .ok (.iload_n 0, 1) := by decide +kernel
theorem dX3_sum32_1 : decode cX3_sum32 1 = .ok (.istore_n 2, 1) := by decide +kernel
theorem dX3_sum32_2 : decode cX3_sum32 2 = .ok (.iconst 0, 1) := by decide +kernel
theorem dX3_sum32_3 : decode cX3_sum32 3 = .ok (.istore_n 3, 1) := by decide +kernel
theorem dX3_sum32_4 : decode cX3_sum32 4 = .ok (.iload_n 3, 1) := by decide +kernel
theorem dX3_sum32_5 : decode cX3_sum32 5 = .ok (.bipush 8, 2) := by decide +kernel
theorem dX3_sum32_7 : decode cX3_sum32 7 = .ok (.if_icmp .ge 37, 3) := by decide +kernel
theorem dX3_sum32_10 : decode cX3_sum32 10 = .ok (.iload_n 2, 1) := by decide +kernel
theorem dX3_sum32_11 : decode cX3_sum32 11 = .ok (.iconst 1, 1) := by decide +kernel
theorem dX3_sum32_12 : decode cX3_sum32 12 = .ok (.iand, 1) := by decide +kernel
theorem dX3_sum32_13 : decode cX3_sum32 13 = .ok (.istore 4, 2) := by decide +kernel
theorem dX3_sum32_15 : decode cX3_sum32 15 = .ok (.iload_n 2, 1) := by decide +kernel
theorem dX3_sum32_16 : decode cX3_sum32 16 = .ok (.iconst 1, 1) := by decide +kernel
theorem dX3_sum32_17 : decode cX3_sum32 17 = .ok (.iushr, 1) := by decide +kernel
theorem dX3_sum32_18 : decode cX3_sum32 18 = .ok (.istore_n 2, 1) := by decide +kernel
theorem dX3_sum32_19 : decode cX3_sum32 19 = .ok (.iload 4, 2) := by decide +kernel
theorem dX3_sum32_21 : decode cX3_sum32 21 = .ok (.iload_n 1, 1) := by decide +kernel
theorem dX3_sum32_22 : decode cX3_sum32 22 = .ok (.iload_n 3, 1) := by decide +kernel
theorem dX3_sum32_23 : decode cX3_sum32 23 = .ok (.ishr, 1) := by decide +kernel
theorem dX3_sum32_24 : decode cX3_sum32 24 = .ok (.iconst 1, 1) := by decide +kernel
theorem dX3_sum32_25 : decode cX3_sum32 25 = .ok (.iand, 1) := by decide +kernel
theorem dX3_sum32_26 : decode cX3_sum32 26 = .ok (.if_icmp .eq 10, 3) := by decide +kernel
theorem dX3_sum32_29 : decode cX3_sum32 29 = .ok (.iload_n 2, 1) := by decide +kernel
theorem dX3_sum32_30 : decode cX3_sum32 30 = .ok (.ldc 132, 2) := by decide +kernel
theorem dX3_sum32_32 : decode cX3_sum32 32 = .ok (.ixor, 1) := by decide +kernel
theorem dX3_sum32_33 : decode cX3_sum32 33 = .ok (.goto 4, 3) := by decide +kernel
theorem dX3_sum32_36 : decode cX3_sum32 36 = .ok (.iload_n 2, 1) := by decide +kernel
theorem dX3_sum32_37 : decode cX3_sum32 37 = .ok (.istore_n 2, 1) := by decide +kernel
theorem dX3_sum32_38 : decode cX3_sum32 38 = .ok (.iinc 3 1, 3) := by decide +kernel
theorem dX3_sum32_41 : decode cX3_sum32 41 = .ok (.goto (-37), 3) := by decide +kernel
theorem dX3_sum32_44 : decode cX3_sum32 44 = .ok (.iload_n 2, 1) := by decide +kernel
theorem dX3_sum32_45 : decode cX3_sum32 45 = .ok (.ireturn, 1) := by decide +kernel
theorem dX3_told_0 : decode cX3_told 0 = .ok (.aload_n 0, 1) := by decide +kernel
theorem dX3_told_1 : decode cX3_told 1 = .ok (.iconst 0, 1) := by decide +kernel
theorem dX3_told_2 : decode cX3_told 2 = .ok (.putfield 25, 3) := by decide +kernel
theorem dX3_told_5 : decode cX3_told 5 = .ok (.iload_n 1, 1) := by decide +kernel
theorem dX3_told_6 : decode cX3_told 6 = .ok (.tableswitch 102 0 7 #[46, 51, 64, 69, 74, 79, 84, 89], 46) := by decide +kernel
theorem dX3_told_52 : decode cX3_told 52 = .ok (.aload_n 0, 1) := by decide +kernel
theorem dX3_told_53 : decode cX3_told 53 = .ok (.getfield 17, 3) := by decide +kernel
theorem dX3_told_56 : decode cX3_told 56 = .ok (.ireturn, 1) := by decide +kernel
theorem dX3_told_57 : decode cX3_told 57 = .ok (.aload_n 0, 1) := by decide +kernel
theorem dX3_told_58 : decode cX3_told 58 = .ok (.getfield 21, 3) := by decide +kernel
theorem dX3_told_61 : decode cX3_told 61 = .ok (.ifCond .eq 7, 3) := by decide +kernel
theorem dX3_told_64 : decode cX3_told 64 = .ok (.iconst 1, 1) := by decide +kernel
theorem dX3_told_65 : decode cX3_told 65 = .ok (.goto 4, 3) := by decide +kernel
theorem dX3_told_68 : decode cX3_told 68 = .ok (.iconst 0, 1) := by decide +kernel
theorem dX3_told_69 : decode cX3_told 69 = .ok (.ireturn, 1) := by decide +kernel
theorem dX3_told_70 : decode cX3_told 70 = .ok (.aload_n 0, 1) := by decide +kernel
theorem dX3_told_71 : decode cX3_told 71 = .ok (.getfield 28, 3) := by decide +kernel
theorem dX3_told_74 : decode cX3_told 74 = .ok (.ireturn, 1) := by decide +kernel
theorem dX3_told_75 : decode cX3_told 75 = .ok (.aload_n 0, 1) := by decide +kernel
theorem dX3_told_76 : decode cX3_told 76 = .ok (.getfield 38, 3) := by decide +kernel
theorem dX3_told_79 : decode cX3_told 79 = .ok (.ireturn, 1) := by decide +kernel
theorem dX3_told_80 : decode cX3_told 80 = .ok (.aload_n 0, 1) := by decide +kernel
theorem dX3_told_81 : decode cX3_told 81 = .ok (.getfield 76, 3) := by decide +kernel
theorem dX3_told_84 : decode cX3_told 84 = .ok (.ireturn, 1) := by decide +kernel
theorem dX3_told_85 : decode cX3_told 85 = .ok (.aload_n 0, 1) := by decide +kernel
theorem dX3_told_86 : decode cX3_told 86 = .ok (.getfield 100, 3) := by decide +kernel
theorem dX3_told_89 : decode cX3_told 89 = .ok (.ireturn, 1) := by decide +kernel
theorem dX3_told_90 : decode cX3_told 90 = .ok (.aload_n 0, 1) := by decide +kernel
theorem dX3_told_91 : decode cX3_told 91 = .ok (.getfield 103, 3) := by decide +kernel
theorem dX3_told_94 : decode cX3_told 94 = .ok (.ireturn, 1) := by decide +kernel
theorem dX3_told_95 : decode cX3_told 95 = .ok (.aload_n 0, 1) := by decide +kernel
theorem dX3_told_96 : decode cX3_told 96 = .ok (.getfield 112, 3) := by decide +kernel
theorem dX3_told_99 : decode cX3_told 99 = .ok (.ifCond .eq 7, 3) := by decide +kernel
theorem dX3_told_102 : decode cX3_told 102 = .ok (.iconst 1, 1) := by decide +kernel
theorem dX3_told_103 : decode cX3_told 103 = .ok (.goto 4, 3) := by decide +kernel
theorem dX3_told_106 : decode cX3_told 106 = .ok (.iconst 0, 1) := by decide +kernel
theorem dX3_told_107 : decode cX3_told 107 = .ok (.ireturn, 1) := by decide +kernel
theorem dX3_told_108 : decode cX3_told 108 = .ok (.iconst (-1), 1) := by decide +kernel
theorem dX3_told_109 : decode cX3_told 109 = .ok (.ireturn, 1) := by decide +kernel
theorem dX3_clear_0 : decode cX3_clear 0 = .ok (.aload_n 0, 1) := by decide +kernel
theorem dX3_clear_1 : decode cX3_clear 1 = .ok (.iconst 0, 1) := by decide +kernel
theorem dX3_clear_2 : decode cX3_clear 2 = .ok (.putfield 25, 3) := by decide +kernel
theorem dX3_clear_5 : decode cX3_clear 5 = .ok (.aload_n 0, 1) := by decide +kernel
theorem dX3_clear_6 : decode cX3_clear 6 = .ok (.iconst 0, 1) := by decide +kernel
theorem dX3_clear_7 : decode cX3_clear 7 = .ok (.putfield 28, 3) := by decide +kernel
theorem dX3_clear_10 : decode cX3_clear 10 = .ok (.aload_n 0, 1) := by decide +kernel
theorem dX3_clear_11 : decode cX3_clear 11 = .ok (.iconst 0, 1) := by decide +kernel
theorem dX3_clear_12 : decode cX3_clear 12 = .ok (.putfield 38, 3) := by decide +kernel
theorem dX3_clear_15 : decode cX3_clear 15 = .ok (.aload_n 0, 1) := by decide +kernel
theorem dX3_clear_16 : decode cX3_clear 16 = .ok (.iconst 0, 1) := by decide +kernel
theorem dX3_clear_17 : decode cX3_clear 17 = .ok (.putfield 48, 3) := by decide +kernel
theorem dX3_clear_20 : decode cX3_clear 20 = .ok (.aload_n 0, 1) := by decide +kernel
theorem dX3_clear_21 : decode cX3_clear 21 = .ok (.iconst 0, 1) := by decide +kernel
theorem dX3_clear_22 : decode cX3_clear 22 = .ok (.putfield 35, 3) := by decide +kernel
theorem dX3_clear_25 : decode cX3_clear 25 = .ok (.aload_n 0, 1) := by decide +kernel
theorem dX3_clear_26 : decode cX3_clear 26 = .ok (.iconst 0, 1) := by decide +kernel
theorem dX3_clear_27 : decode cX3_clear 27 = .ok (.putfield 76, 3) := by decide +kernel
theorem dX3_clear_30 : decode cX3_clear 30 = .ok (.aload_n 0, 1) := by decide +kernel
theorem dX3_clear_31 : decode cX3_clear 31 = .ok (.iconst 0, 1) := by decide +kernel
theorem dX3_clear_32 : decode cX3_clear 32 = .ok (.putfield 100, 3) := by decide +kernel
theorem dX3_clear_35 : decode cX3_clear 35 = .ok (.aload_n 0, 1) := by decide +kernel
theorem dX3_clear_36 : decode cX3_clear 36 = .ok (.iconst 0, 1) := by decide +kernel
theorem dX3_clear_37 : decode cX3_clear 37 = .ok (.putfield 103, 3) := by decide +kernel
theorem dX3_clear_40 : decode cX3_clear 40 = .ok (.aload_n 0, 1) := by decide +kernel
theorem dX3_clear_41 : decode cX3_clear 41 = .ok (.iconst 0, 1) := by decide +kernel
theorem dX3_clear_42 : decode cX3_clear 42 = .ok (.putfield 106, 3) := by decide +kernel
theorem dX3_clear_45 : decode cX3_clear 45 = .ok (.aload_n 0, 1) := by decide +kernel
theorem dX3_clear_46 : decode cX3_clear 46 = .ok (.iconst 0, 1) := by decide +kernel
theorem dX3_clear_47 : decode cX3_clear 47 = .ok (.putfield 109, 3) := by decide +kernel
theorem dX3_clear_50 : decode cX3_clear 50 = .ok (.aload_n 0, 1) := by decide +kernel
theorem dX3_clear_51 : decode cX3_clear 51 = .ok (.iconst 0, 1) := by decide +kernel
theorem dX3_clear_52 : decode cX3_clear 52 = .ok (.putfield 112, 3) := by decide +kernel
theorem dX3_clear_55 : decode cX3_clear 55 = .ok (.return_, 1) := by decide +kernel
theorem dL_law_0 : decode cL_law 0 = .ok (.new 8, 3) := by decide +kernel
theorem dL_law_3 : decode cL_law 3 = .ok (.dup, 1) := by decide +kernel
theorem dL_law_4 : decode cL_law 4 = .ok (.aload_n 0, 1) := by decide +kernel
theorem dL_law_5 : decode cL_law 5 = .ok (.iconst 0, 1) := by decide +kernel
theorem dL_law_6 : decode cL_law 6 = .ok (.invokestatic 53, 3) := by decide +kernel
theorem dL_law_9 : decode cL_law 9 = .ok (.aload_n 0, 1) := by decide +kernel
theorem dL_law_10 : decode cL_law 10 = .ok (.iconst 1, 1) := by decide +kernel
theorem dL_law_11 : decode cL_law 11 = .ok (.invokestatic 53, 3) := by decide +kernel
theorem dL_law_14 : decode cL_law 14 = .ok (.invokespecial 59, 3) := by decide +kernel
theorem dL_law_17 : decode cL_law 17 = .ok (.astore_n 1, 1) := by decide +kernel
theorem dL_law_18 : decode cL_law 18 = .ok (.new 62, 3) := by decide +kernel
theorem dL_law_21 : decode cL_law 21 = .ok (.dup, 1) := by decide +kernel
theorem dL_law_22 : decode cL_law 22 = .ok (.aload_n 0, 1) := by decide +kernel
theorem dL_law_23 : decode cL_law 23 = .ok (.iconst 0, 1) := by decide +kernel
theorem dL_law_24 : decode cL_law 24 = .ok (.invokestatic 53, 3) := by decide +kernel
theorem dL_law_27 : decode cL_law 27 = .ok (.aload_n 0, 1) := by decide +kernel
theorem dL_law_28 : decode cL_law 28 = .ok (.iconst 1, 1) := by decide +kernel
theorem dL_law_29 : decode cL_law 29 = .ok (.invokestatic 53, 3) := by decide +kernel
