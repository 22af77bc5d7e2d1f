theorem dX3_pass_108 : decode cX3_pass 108 = .ok (.dup, 1) := by decide +kernel
theorem dX3_pass_109 : decode cX3_pass 109 = .ok (.getfield 76, 3) := by decide +kernel
theorem dX3_pass_112 : decode cX3_pass 112 = .ok (.iconst 1, 1) := by decide +kernel
theorem dX3_pass_113 : decode cX3_pass 113 = .ok (.iadd, 1) := by decide +kernel
theorem dX3_pass_114 : decode cX3_pass 114 = .ok (.putfield 76, 3) := by decide +kernel
theorem dX3_pass_117 : decode cX3_pass 117 = .ok (.iinc 5 1, 3) := by decide +kernel
theorem dX3_pass_120 : decode cX3_pass 120 = .ok (.goto (-37), 3) := by decide +kernel
theorem dX3_pass_123 : decode cX3_pass 123 = .ok (.iload 4, 2) := by decide +kernel
theorem dX3_pass_125 : decode cX3_pass 125 = .ok (.ireturn, 1) := by decide +kernel
theorem dX3_get_0 : decode cX3_get 0 = .ok (.aload_n 0, 1) := by decide +kernel
theorem dX3_get_1 : decode cX3_get 1 = .ok (.iload_n 1, 1) := by decide +kernel
theorem dX3_get_2 : decode cX3_get 2 = .ok (.i2l, 1) := by decide +kernel
theorem dX3_get_3 : decode cX3_get 3 = .ok (.lconst 1, 1) := by decide +kernel
theorem dX3_get_4 : decode cX3_get 4 = .ok (.ldc2_w 51, 3) := by decide +kernel
theorem dX3_get_7 : decode cX3_get 7 = .ok (.invokestatic 53, 3) := by decide +kernel
theorem dX3_get_10 : decode cX3_get 10 = .ok (.ifCond .ne 7, 3) := by decide +kernel
theorem dX3_get_13 : decode cX3_get 13 = .ok (.iconst 1, 1) := by decide +kernel
theorem dX3_get_14 : decode cX3_get 14 = .ok (.goto 4, 3) := by decide +kernel
theorem dX3_get_17 : decode cX3_get 17 = .ok (.iconst 0, 1) := by decide +kernel
theorem dX3_get_18 : decode cX3_get 18 = .ok (.putfield 25, 3) := by decide +kernel
theorem dX3_get_21 : decode cX3_get 21 = .ok (.aload_n 0, 1) := by decide +kernel
theorem dX3_get_22 : decode cX3_get 22 = .ok (.getfield 25, 3) := by decide +kernel
theorem dX3_get_25 : decode cX3_get 25 = .ok (.ifCond .le 5, 3) := by decide +kernel
theorem dX3_get_28 : decode cX3_get 28 = .ok (.lconst 0, 1) := by decide +kernel
theorem dX3_get_29 : decode cX3_get 29 = .ok (.lreturn, 1) := by decide +kernel
theorem dX3_get_30 : decode cX3_get 30 = .ok (.aload_n 0, 1) := by decide +kernel
theorem dX3_get_31 : decode cX3_get 31 = .ok (.getfield 112, 3) := by decide +kernel
theorem dX3_get_34 : decode cX3_get 34 = .ok (.ifCond .eq 7, 3) := by decide +kernel
theorem dX3_get_37 : decode cX3_get 37 = .ok (.ldc2_w 115, 3) := by decide +kernel
theorem dX3_get_40 : decode cX3_get 40 = .ok (.lreturn, 1) := by decide +kernel
theorem dX3_get_41 : decode cX3_get 41 = .ok (.aload_n 0, 1) := by decide +kernel
theorem dX3_get_42 : decode cX3_get 42 = .ok (.invokevirtual 117, 3) := by decide +kernel
theorem dX3_get_45 : decode cX3_get 45 = .ok (.lconst 0, 1) := by decide +kernel
theorem dX3_get_46 : decode cX3_get 46 = .ok (.lstore_n 2, 1) := by decide +kernel
theorem dX3_get_47 : decode cX3_get 47 = .ok (.iconst 0, 1) := by decide +kernel
theorem dX3_get_48 : decode cX3_get 48 = .ok (.istore 4, 2) := by decide +kernel
theorem dX3_get_50 : decode cX3_get 50 = .ok (.iload 4, 2) := by decide +kernel
theorem dX3_get_52 : decode cX3_get 52 = .ok (.iload_n 1, 1) := by decide +kernel
theorem dX3_get_53 : decode cX3_get 53 = .ok (.if_icmp .ge 68, 3) := by decide +kernel
theorem dX3_get_56 : decode cX3_get 56 = .ok (.aload_n 0, 1) := by decide +kernel
theorem dX3_get_57 : decode cX3_get 57 = .ok (.invokevirtual 120, 3) := by decide +kernel
theorem dX3_get_60 : decode cX3_get 60 = .ok (.istore 5, 2) := by decide +kernel
theorem dX3_get_62 : decode cX3_get 62 = .ok (.iload 5, 2) := by decide +kernel
theorem dX3_get_64 : decode cX3_get 64 = .ok (.ifCond .ge 23, 3) := by decide +kernel
theorem dX3_get_67 : decode cX3_get 67 = .ok (.aload_n 0, 1) := by decide +kernel
theorem dX3_get_68 : decode cX3_get 68 = .ok (.iload 5, 2) := by decide +kernel
theorem dX3_get_70 : decode cX3_get 70 = .ok (.bipush (-3), 2) := by decide +kernel
theorem dX3_get_72 : decode cX3_get 72 = .ok (.if_icmp .ne 7, 3) := by decide +kernel
theorem dX3_get_75 : decode cX3_get 75 = .ok (.iconst 1, 1) := by decide +kernel
theorem dX3_get_76 : decode cX3_get 76 = .ok (.goto 4, 3) := by decide +kernel
theorem dX3_get_79 : decode cX3_get 79 = .ok (.iconst 0, 1) := by decide +kernel
theorem dX3_get_80 : decode cX3_get 80 = .ok (.putfield 112, 3) := by decide +kernel
theorem dX3_get_83 : decode cX3_get 83 = .ok (.iload 5, 2) := by decide +kernel
theorem dX3_get_85 : decode cX3_get 85 = .ok (.i2l, 1) := by decide +kernel
theorem dX3_get_86 : decode cX3_get 86 = .ok (.lreturn, 1) := by decide +kernel
theorem dX3_get_87 : decode cX3_get 87 = .ok (.aload_n 0, 1) := by decide +kernel
theorem dX3_get_88 : decode cX3_get 88 = .ok (.getfield 21, 3) := by decide +kernel
theorem dX3_get_91 : decode cX3_get 91 = .ok (.ifCond .eq 14, 3) := by decide +kernel
theorem dX3_get_94 : decode cX3_get 94 = .ok (.lload_n 2, 1) := by decide +kernel
theorem dX3_get_95 : decode cX3_get 95 = .ok (.iload 5, 2) := by decide +kernel
theorem dX3_get_97 : decode cX3_get 97 = .ok (.i2l, 1) := by decide +kernel
theorem dX3_get_98 : decode cX3_get 98 = .ok (.iload 4, 2) := by decide +kernel
theorem dX3_get_100 : decode cX3_get 100 = .ok (.lshl, 1) := by decide +kernel
theorem dX3_get_101 : decode cX3_get 101 = .ok (.lor, 1) := by decide +kernel
theorem dX3_get_102 : decode cX3_get 102 = .ok (.goto 12, 3) := by decide +kernel
theorem dX3_get_105 : decode cX3_get 105 = .ok (.ldc2_w 123, 3) := by decide +kernel
theorem dX3_get_108 : decode cX3_get 108 = .ok (.lload_n 2, 1) := by decide +kernel
theorem dX3_get_109 : decode cX3_get 109 = .ok (.lmul, 1) := by decide +kernel
theorem dX3_get_110 : decode cX3_get 110 = .ok (.iload 5, 2) := by decide +kernel
theorem dX3_get_112 : decode cX3_get 112 = .ok (.i2l, 1) := by decide +kernel
theorem dX3_get_113 : decode cX3_get 113 = .ok (.ladd, 1) := by decide +kernel
theorem dX3_get_114 : decode cX3_get 114 = .ok (.lstore_n 2, 1) := by decide +kernel
theorem dX3_get_115 : decode cX3_get 115 = .ok (.iinc 4 1, 3) := by decide +kernel
theorem dX3_get_118 : decode cX3_get 118 = .ok (.goto (-68), 3) := by decide +kernel
theorem dX3_get_121 : decode cX3_get 121 = .ok (.aload_n 0, 1) := by decide +kernel
theorem dX3_get_122 : decode cX3_get 122 = .ok (.invokevirtual 125, 3) := by decide +kernel
theorem dX3_get_125 : decode cX3_get 125 = .ok (.lload_n 2, 1) := by decide +kernel
theorem dX3_get_126 : decode cX3_get 126 = .ok (.lreturn, 1) := by decide +kernel
theorem dX3_beginTry_0 : decode cX3_beginTry 0 = .ok (.aload_n 0, 1) := by decide +kernel
theorem dX3_beginTry_1 : decode cX3_beginTry 1 = .ok (.aload_n 0, 1) := by decide +kernel
theorem dX3_beginTry_2 : decode cX3_beginTry 2 = .ok (.getfield 100, 3) := by decide +kernel
theorem dX3_beginTry_5 : decode cX3_beginTry 5 = .ok (.putfield 79, 3) := by decide +kernel
theorem dX3_beginTry_8 : decode cX3_beginTry 8 = .ok (.aload_n 0, 1) := by decide +kernel
theorem dX3_beginTry_9 : decode cX3_beginTry 9 = .ok (.aload_n 0, 1) := by decide +kernel
theorem dX3_beginTry_10 : decode cX3_beginTry 10 = .ok (.getfield 103, 3) := by decide +kernel
theorem dX3_beginTry_13 : decode cX3_beginTry 13 = .ok (.putfield 91, 3) := by decide +kernel
theorem dX3_beginTry_16 : decode cX3_beginTry 16 = .ok (.aload_n 0, 1) := by decide +kernel
theorem dX3_beginTry_17 : decode cX3_beginTry 17 = .ok (.aload_n 0, 1) := by decide +kernel
theorem dX3_beginTry_18 : decode cX3_beginTry 18 = .ok (.getfield 106, 3) := by decide +kernel
theorem dX3_beginTry_21 : decode cX3_beginTry 21 = .ok (.putfield 97, 3) := by decide +kernel
theorem dX3_beginTry_24 : decode cX3_beginTry 24 = .ok (.aload_n 0, 1) := by decide +kernel
theorem dX3_beginTry_25 : decode cX3_beginTry 25 = .ok (.aload_n 0, 1) := by decide +kernel
theorem dX3_beginTry_26 : decode cX3_beginTry 26 = .ok (.getfield 109, 3) := by decide +kernel
theorem dX3_beginTry_29 : decode cX3_beginTry 29 = .ok (.putfield 82, 3) := by decide +kernel
theorem dX3_beginTry_32 : decode cX3_beginTry 32 = .ok (.return_, 1) := by decide +kernel
theorem dX3_tryBit_0 : decode cX3_tryBit 0 = .ok (.aload_n 0, 1) := by decide +kernel
theorem dX3_tryBit_1 : decode cX3_tryBit 1 = .ok (.invokevirtual 85, 3) := by decide +kernel
theorem dX3_tryBit_4 : decode cX3_tryBit 4 = .ok (.istore_n 1, 1) := by decide +kernel
theorem dX3_tryBit_5 : decode cX3_tryBit 5 = .ok (.iload_n 1, 1) := by decide +kernel
theorem dX3_tryBit_6 : decode cX3_tryBit 6 = .ok (.ifCond .ge 5, 3) := by decide +kernel
theorem dX3_tryBit_9 : decode cX3_tryBit 9 = .ok (.iload_n 1, 1) := by decide +kernel
theorem dX3_tryBit_10 : decode cX3_tryBit 10 = .ok (.ireturn, 1) := by decide +kernel
theorem dX3_tryBit_11 : decode cX3_tryBit 11 = .ok (.aload_n 0, 1) := by decide +kernel
theorem dX3_tryBit_12 : decode cX3_tryBit 12 = .ok (.getfield 79, 3) := by decide +kernel
theorem dX3_tryBit_15 : decode cX3_tryBit 15 = .ok (.bipush 8, 2) := by decide +kernel
theorem dX3_tryBit_17 : decode cX3_tryBit 17 = .ok (.irem, 1) := by decide +kernel
theorem dX3_tryBit_18 : decode cX3_tryBit 18 = .ok (.ifCond .ne 7, 3) := by decide +kernel
theorem dX3_tryBit_21 : decode cX3_tryBit 21 = .ok (.iconst 1, 1) := by decide +kernel
theorem dX3_tryBit_22 : decode cX3_tryBit 22 = .ok (.goto 4, 3) := by decide +kernel
theorem dX3_tryBit_25 : decode cX3_tryBit 25 = .ok (.iconst 0, 1) := by decide +kernel
theorem dX3_tryBit_26 : decode cX3_tryBit 26 = .ok (.istore_n 2, 1) := by decide +kernel
theorem dX3_tryBit_27 : decode cX3_tryBit 27 = .ok (.aload_n 0, 1) := by decide +kernel
theorem dX3_tryBit_28 : decode cX3_tryBit 28 = .ok (.getfield 17, 3) := by decide +kernel
theorem dX3_tryBit_31 : decode cX3_tryBit 31 = .ok (.iconst 1, 1) := by decide +kernel
theorem dX3_tryBit_32 : decode cX3_tryBit 32 = .ok (.if_icmp .ne 50, 3) := by decide +kernel
theorem dX3_tryBit_35 : decode cX3_tryBit 35 = .ok (.aload_n 0, 1) := by decide +kernel
theorem dX3_tryBit_36 : decode cX3_tryBit 36 = .ok (.getfield 21, 3) := by decide +kernel
theorem dX3_tryBit_39 : decode cX3_tryBit 39 = .ok (.ifCond .ne 43, 3) := by decide +kernel
theorem dX3_tryBit_42 : decode cX3_tryBit 42 = .ok (.aload_n 0, 1) := by decide +kernel
theorem dX3_tryBit_43 : decode cX3_tryBit 43 = .ok (.getfield 82, 3) := by decide +kernel
theorem dX3_tryBit_46 : decode cX3_tryBit 46 = .ok (.ifCond .eq 36, 3) := by decide +kernel
theorem dX3_tryBit_49 : decode cX3_tryBit 49 = .ok (.iload_n 2, 1) := by decide +kernel
theorem dX3_tryBit_50 : decode cX3_tryBit 50 = .ok (.ifCond .eq 32, 3) := by decide +kernel
theorem dX3_tryBit_53 : decode cX3_tryBit 53 = .ok (.aload_n 0, 1) := by decide +kernel
theorem dX3_tryBit_54 : decode cX3_tryBit 54 = .ok (.aload_n 0, 1) := by decide +kernel
theorem dX3_tryBit_55 : decode cX3_tryBit 55 = .ok (.getfield 79, 3) := by decide +kernel
theorem dX3_tryBit_58 : decode cX3_tryBit 58 = .ok (.invokevirtual 88, 3) := by decide +kernel
theorem dX3_tryBit_61 : decode cX3_tryBit 61 = .ok (.iconst 1, 1) := by decide +kernel
theorem dX3_tryBit_62 : decode cX3_tryBit 62 = .ok (.if_icmp .ne 6, 3) := by decide +kernel
theorem dX3_tryBit_65 : decode cX3_tryBit 65 = .ok (.bipush (-3), 2) := by decide +kernel
theorem dX3_tryBit_67 : decode cX3_tryBit 67 = .ok (.ireturn, 1) := by decide +kernel
theorem dX3_tryBit_68 : decode cX3_tryBit 68 = .ok (.aload_n 0, 1) := by decide +kernel
theorem dX3_tryBit_69 : decode cX3_tryBit 69 = .ok (.dup, 1) := by decide +kernel
theorem dX3_tryBit_70 : decode cX3_tryBit 70 = .ok (.getfield 91, 3) := by decide +kernel
theorem dX3_tryBit_73 : decode cX3_tryBit 73 = .ok (.iconst 1, 1) := by decide +kernel
theorem dX3_tryBit_74 : decode cX3_tryBit 74 = .ok (.iadd, 1) := by decide +kernel
theorem dX3_tryBit_75 : decode cX3_tryBit 75 = .ok (.putfield 91, 3) := by decide +kernel
theorem dX3_tryBit_78 : decode cX3_tryBit 78 = .ok (.aload_n 0, 1) := by decide +kernel
theorem dX3_tryBit_79 : decode cX3_tryBit 79 = .ok (.invokevirtual 94, 3) := by decide +kernel
theorem dX3_tryBit_82 : decode cX3_tryBit 82 = .ok (.aload_n 0, 1) := by decide +kernel
theorem dX3_tryBit_83 : decode cX3_tryBit 83 = .ok (.aload_n 0, 1) := by decide +kernel
theorem dX3_tryBit_84 : decode cX3_tryBit 84 = .ok (.getfield 79, 3) := by decide +kernel
theorem dX3_tryBit_87 : decode cX3_tryBit 87 = .ok (.invokevirtual 88, 3) := by decide +kernel
theorem dX3_tryBit_90 : decode cX3_tryBit 90 = .ok (.istore_n 3, 1) := by decide +kernel
theorem dX3_tryBit_91 : decode cX3_tryBit 91 = .ok (.aload_n 0, 1) := by decide +kernel
theorem dX3_tryBit_92 : decode cX3_tryBit 92 = .ok (.getfield 17, 3) := by decide +kernel
theorem dX3_tryBit_95 : decode cX3_tryBit 95 = .ok (.iconst 1, 1) := by decide +kernel
theorem dX3_tryBit_96 : decode cX3_tryBit 96 = .ok (.if_icmp .ne 33, 3) := by decide +kernel
theorem dX3_tryBit_99 : decode cX3_tryBit 99 = .ok (.aload_n 0, 1) := by decide +kernel
theorem dX3_tryBit_100 : decode cX3_tryBit 100 = .ok (.getfield 21, 3) := by decide +kernel
theorem dX3_tryBit_103 : decode cX3_tryBit 103 = .ok (.ifCond .eq 26, 3) := by decide +kernel
theorem dX3_tryBit_106 : decode cX3_tryBit 106 = .ok (.aload_n 0, 1) := by decide +kernel
theorem dX3_tryBit_107 : decode cX3_tryBit 107 = .ok (.getfield 82, 3) := by decide +kernel
theorem dX3_tryBit_110 : decode cX3_tryBit 110 = .ok (.ifCond .eq 19, 3) := by decide +kernel
theorem dX3_tryBit_113 : decode cX3_tryBit 113 = .ok (.aload_n 0, 1) := by decide +kernel
theorem dX3_tryBit_114 : decode cX3_tryBit 114 = .ok (.getfield 79, 3) := by decide +kernel
theorem dX3_tryBit_117 : decode cX3_tryBit 117 = .ok (.bipush 8, 2) := by decide +kernel
theorem dX3_tryBit_119 : decode cX3_tryBit 119 = .ok (.irem, 1) := by decide +kernel
theorem dX3_tryBit_120 : decode cX3_tryBit 120 = .ok (.bipush 6, 2) := by decide +kernel
theorem dX3_tryBit_122 : decode cX3_tryBit 122 = .ok (.if_icmp .ne 7, 3) := by decide +kernel
theorem dX3_tryBit_125 : decode cX3_tryBit 125 = .ok (.iconst 1, 1) := by decide +kernel
theorem dX3_tryBit_126 : decode cX3_tryBit 126 = .ok (.goto 4, 3) := by decide +kernel
theorem dX3_tryBit_129 : decode cX3_tryBit 129 = .ok (.iconst 0, 1) := by decide +kernel
theorem dX3_tryBit_130 : decode cX3_tryBit 130 = .ok (.istore 4, 2) := by decide +kernel
theorem dX3_tryBit_132 : decode cX3_tryBit 132 = .ok (.aload_n 0, 1) := by decide +kernel
theorem dX3_tryBit_133 : decode cX3_tryBit 133 = .ok (.invokevirtual 94, 3) := by decide +kernel
theorem dX3_tryBit_136 : decode cX3_tryBit 136 = .ok (.aload_n 0, 1) := by decide +kernel
theorem dX3_tryBit_137 : decode cX3_tryBit 137 = .ok (.iload_n 3, 1) := by decide +kernel
theorem dX3_tryBit_138 : decode cX3_tryBit 138 = .ok (.iconst 1, 1) := by decide +kernel
theorem dX3_tryBit_139 : decode cX3_tryBit 139 = .ok (.if_icmp .ne 12, 3) := by decide +kernel
theorem dX3_tryBit_142 : decode cX3_tryBit 142 = .ok (.aload_n 0, 1) := by decide +kernel
theorem dX3_tryBit_143 : decode cX3_tryBit 143 = .ok (.getfield 97, 3) := by decide +kernel
theorem dX3_tryBit_146 : decode cX3_tryBit 146 = .ok (.iconst 1, 1) := by decide +kernel
theorem dX3_tryBit_147 : decode cX3_tryBit 147 = .ok (.iadd, 1) := by decide +kernel
theorem dX3_tryBit_148 : decode cX3_tryBit 148 = .ok (.goto 4, 3) := by decide +kernel
theorem dX3_tryBit_151 : decode cX3_tryBit 151 = .ok (.iconst 0, 1) := by decide +kernel
theorem dX3_tryBit_152 : decode cX3_tryBit 152 = .ok (.putfield 97, 3) := by decide +kernel
theorem dX3_tryBit_155 : decode cX3_tryBit 155 = .ok (.aload_n 0, 1) := by decide +kernel
theorem dX3_tryBit_156 : decode cX3_tryBit 156 = .ok (.getfield 17, 3) := by decide +kernel
theorem dX3_tryBit_159 : decode cX3_tryBit 159 = .ok (.iconst 1, 1) := by decide +kernel
theorem dX3_tryBit_160 : decode cX3_tryBit 160 = .ok (.if_icmp .le 18, 3) := by decide +kernel
theorem dX3_tryBit_163 : decode cX3_tryBit 163 = .ok (.aload_n 0, 1) := by decide +kernel
theorem dX3_tryBit_164 : decode cX3_tryBit 164 = .ok (.getfield 97, 3) := by decide +kernel
theorem dX3_tryBit_167 : decode cX3_tryBit 167 = .ok (.aload_n 0, 1) := by decide +kernel
theorem dX3_tryBit_168 : decode cX3_tryBit 168 = .ok (.getfield 17, 3) := by decide +kernel
theorem dX3_tryBit_171 : decode cX3_tryBit 171 = .ok (.if_icmp .ne 7, 3) := by decide +kernel
theorem dX3_tryBit_174 : decode cX3_tryBit 174 = .ok (.iconst 1, 1) := by decide +kernel
theorem dX3_tryBit_175 : decode cX3_tryBit 175 = .ok (.goto 4, 3) := by decide +kernel
theorem dX3_tryBit_178 : decode cX3_tryBit 178 = .ok (.iconst 0, 1) := by decide +kernel
theorem dX3_tryBit_179 : decode cX3_tryBit 179 = .ok (.istore 5, 2) := by decide +kernel
theorem dX3_tryBit_181 : decode cX3_tryBit 181 = .ok (.iload 4, 2) := by decide +kernel
theorem dX3_tryBit_183 : decode cX3_tryBit 183 = .ok (.ifCond .ne 8, 3) := by decide +kernel
theorem dX3_tryBit_186 : decode cX3_tryBit 186 = .ok (.iload 5, 2) := by decide +kernel
theorem dX3_tryBit_188 : decode cX3_tryBit 188 = .ok (.ifCond .eq 53, 3) := by decide +kernel
theorem dX3_tryBit_191 : decode cX3_tryBit 191 = .ok (.aload_n 0, 1) := by decide +kernel
theorem dX3_tryBit_192 : decode cX3_tryBit 192 = .ok (.getfield 79, 3) := by decide +kernel
theorem dX3_tryBit_195 : decode cX3_tryBit 195 = .ok (.bipush 8, 2) := by decide +kernel
theorem dX3_tryBit_197 : decode cX3_tryBit 197 = .ok (.idiv, 1) := by decide +kernel
theorem dX3_tryBit_198 : decode cX3_tryBit 198 = .ok (.aload_n 0, 1) := by decide +kernel
theorem dX3_tryBit_199 : decode cX3_tryBit 199 = .ok (.getfield 76, 3) := by decide +kernel
theorem dX3_tryBit_202 : decode cX3_tryBit 202 = .ok (.if_icmp .lt 5, 3) := by decide +kernel
theorem dX3_tryBit_205 : decode cX3_tryBit 205 = .ok (.iconst (-1), 1) := by decide +kernel
theorem dX3_tryBit_206 : decode cX3_tryBit 206 = .ok (.ireturn, 1) := by decide +kernel
theorem dX3_tryBit_207 : decode cX3_tryBit 207 = .ok (.aload_n 0, 1) := by decide +kernel
theorem dX3_tryBit_208 : decode cX3_tryBit 208 = .ok (.aload_n 0, 1) := by decide +kernel
theorem dX3_tryBit_209 : decode cX3_tryBit 209 = .ok (.getfield 79, 3) := by decide +kernel
theorem dX3_tryBit_212 : decode cX3_tryBit 212 = .ok (.invokevirtual 88, 3) := by decide +kernel
theorem dX3_tryBit_215 : decode cX3_tryBit 215 = .ok (.iconst 1, 1) := by decide +kernel
theorem dX3_tryBit_216 : decode cX3_tryBit 216 = .ok (.if_icmp .ne 6, 3) := by decide +kernel
theorem dX3_tryBit_219 : decode cX3_tryBit 219 = .ok (.bipush (-3), 2) := by decide +kernel
theorem dX3_tryBit_221 : decode cX3_tryBit 221 = .ok (.ireturn, 1) := by decide +kernel
theorem dX3_tryBit_222 : decode cX3_tryBit 222 = .ok (.aload_n 0, 1) := by decide +kernel
theorem dX3_tryBit_223 : decode cX3_tryBit 223 = .ok (.dup, 1) := by decide +kernel
theorem dX3_tryBit_224 : decode cX3_tryBit 224 = .ok (.getfield 91, 3) := by decide +kernel
theorem dX3_tryBit_227 : decode cX3_tryBit 227 = .ok (.iconst 1, 1) := by decide +kernel
theorem dX3_tryBit_228 : decode cX3_tryBit 228 = .ok (.iadd, 1) := by decide +kernel
theorem dX3_tryBit_229 : decode cX3_tryBit 229 = .ok (.putfield 91, 3) := by decide +kernel
theorem dX3_tryBit_232 : decode cX3_tryBit 232 = .ok (.aload_n 0, 1) := by decide +kernel
theorem dX3_tryBit_233 : decode cX3_tryBit 233 = .ok (.iconst 0, 1) := by decide +kernel
theorem dX3_tryBit_234 : decode cX3_tryBit 234 = .ok (.putfield 97, 3) := by decide +kernel
theorem dX3_tryBit_237 : decode cX3_tryBit 237 = .ok (.aload_n 0, 1) := by decide +kernel
theorem dX3_tryBit_238 : decode cX3_tryBit 238 = .ok (.invokevirtual 94, 3) := by decide +kernel
theorem dX3_tryBit_241 : decode cX3_tryBit 241 = .ok (.iload_n 3, 1) := by decide +kernel
theorem dX3_tryBit_242 : decode cX3_tryBit 242 = .ok (.ireturn, 1) := by decide +kernel
theorem dX3_obstacle_0 : decode cX3_obstacle 0 = .ok (.aload_n 0, 1) := by decide +kernel
theorem dX3_obstacle_1 : decode cX3_obstacle 1 = .ok (.getfield 79, 3) := by decide +kernel
theorem dX3_obstacle_4 : decode cX3_obstacle 4 = .ok (.bipush 8, 2) := by decide +kernel
theorem dX3_obstacle_6 : decode cX3_obstacle 6 = .ok (.idiv, 1) := by decide +kernel
theorem dX3_obstacle_7 : decode cX3_obstacle 7 = .ok (.istore_n 1, 1) := by decide +kernel
theorem dX3_obstacle_8 : decode cX3_obstacle 8 = .ok (.iload_n 1, 1) := by decide +kernel
theorem dX3_obstacle_9 : decode cX3_obstacle 9 = .ok (.aload_n 0, 1) := by decide +kernel
theorem dX3_obstacle_10 : decode cX3_obstacle 10 = .ok (.getfield 76, 3) := by decide +kernel
theorem dX3_obstacle_13 : decode cX3_obstacle 13 = .ok (.if_icmp .lt 5, 3) := by decide +kernel
theorem dX3_obstacle_16 : decode cX3_obstacle 16 = .ok (.iconst (-1), 1) := by decide +kernel
theorem dX3_obstacle_17 : decode cX3_obstacle 17 = .ok (.ireturn, 1) := by decide +kernel
theorem dX3_obstacle_18 : decode cX3_obstacle 18 = .ok (.aload_n 0, 1) := by decide +kernel
theorem dX3_obstacle_19 : decode cX3_obstacle 19 = .ok (.getfield 17, 3) := by decide +kernel
theorem dX3_obstacle_22 : decode cX3_obstacle 22 = .ok (.iconst 1, 1) := by decide +kernel
theorem dX3_obstacle_23 : decode cX3_obstacle 23 = .ok (.if_icmp .ne 59, 3) := by decide +kernel
theorem dX3_obstacle_26 : decode cX3_obstacle 26 = .ok (.aload_n 0, 1) := by decide +kernel
theorem dX3_obstacle_27 : decode cX3_obstacle 27 = .ok (.getfield 79, 3) := by decide +kernel
theorem dX3_obstacle_30 : decode cX3_obstacle 30 = .ok (.bipush 8, 2) := by decide +kernel
theorem dX3_obstacle_32 : decode cX3_obstacle 32 = .ok (.irem, 1) := by decide +kernel
theorem dX3_obstacle_33 : decode cX3_obstacle 33 = .ok (.ifCond .ne 49, 3) := by decide +kernel
theorem dX3_obstacle_36 : decode cX3_obstacle 36 = .ok (.aload_n 0, 1) := by decide +kernel
theorem dX3_obstacle_37 : decode cX3_obstacle 37 = .ok (.getfield 13, 3) := by decide +kernel
theorem dX3_obstacle_40 : decode cX3_obstacle 40 = .ok (.iload_n 1, 1) := by decide +kernel
theorem dX3_obstacle_41 : decode cX3_obstacle 41 = .ok (.iaload, 1) := by decide +kernel
theorem dX3_obstacle_42 : decode cX3_obstacle 42 = .ok (.sipush 255, 3) := by decide +kernel
theorem dX3_obstacle_45 : decode cX3_obstacle 45 = .ok (.if_icmp .ne 37, 3) := by decide +kernel
theorem dX3_obstacle_48 : decode cX3_obstacle 48 = .ok (.iload_n 1, 1) := by decide +kernel
theorem dX3_obstacle_49 : decode cX3_obstacle 49 = .ok (.iconst 1, 1) := by decide +kernel
theorem dX3_obstacle_50 : decode cX3_obstacle 50 = .ok (.iadd, 1) := by decide +kernel
theorem dX3_obstacle_51 : decode cX3_obstacle 51 = .ok (.aload_n 0, 1) := by decide +kernel
theorem dX3_obstacle_52 : decode cX3_obstacle 52 = .ok (.getfield 76, 3) := by decide +kernel
theorem dX3_obstacle_55 : decode cX3_obstacle 55 = .ok (.if_icmp .lt 7, 3) := by decide +kernel
theorem dX3_obstacle_58 : decode cX3_obstacle 58 = .ok (.iconst (-1), 1) := by decide +kernel
theorem dX3_obstacle_59 : decode cX3_obstacle 59 = .ok (.goto 22, 3) := by decide +kernel
theorem dX3_obstacle_62 : decode cX3_obstacle 62 = .ok (.aload_n 0, 1) := by decide +kernel
theorem dX3_obstacle_63 : decode cX3_obstacle 63 = .ok (.getfield 13, 3) := by decide +kernel
theorem dX3_obstacle_66 : decode cX3_obstacle 66 = .ok (.iload_n 1, 1) := by decide +kernel
theorem dX3_obstacle_67 : decode cX3_obstacle 67 = .ok (.iconst 1, 1) := by decide +kernel
theorem dX3_obstacle_68 : decode cX3_obstacle 68 = .ok (.iadd, 1) := by decide +kernel
theorem dX3_obstacle_69 : decode cX3_obstacle 69 = .ok (.iaload, 1) := by decide +kernel
theorem dX3_obstacle_70 : decode cX3_obstacle 70 = .ok (.bipush 127, 2) := by decide +kernel
theorem dX3_obstacle_72 : decode cX3_obstacle 72 = .ok (.if_icmp .le 8, 3) := by decide +kernel
theorem dX3_obstacle_75 : decode cX3_obstacle 75 = .ok (.bipush (-2), 2) := by decide +kernel
theorem dX3_obstacle_77 : decode cX3_obstacle 77 = .ok (.goto 4, 3) := by decide +kernel
theorem dX3_obstacle_80 : decode cX3_obstacle 80 = .ok (.iconst 0, 1) := by decide +kernel
theorem dX3_obstacle_81 : decode cX3_obstacle 81 = .ok (.ireturn, 1) := by decide +kernel
theorem dX3_obstacle_82 : decode cX3_obstacle 82 = .ok (.iconst 0, 1) := by decide +kernel
theorem dX3_obstacle_83 : decode cX3_obstacle 83 = .ok (.ireturn, 1) := by decide +kernel
theorem dX3_bitAt_0 : decode cX3_bitAt 0 = .ok (.aload_n 0, 1) := by decide +kernel
theorem dX3_bitAt_1 : decode cX3_bitAt 1 = .ok (.getfield 13, 3) := by decide +kernel
theorem dX3_bitAt_4 : decode cX3_bitAt 4 = .ok (.iload_n 1, 1) := by decide +kernel
theorem dX3_bitAt_5 : decode cX3_bitAt 5 = .ok (.bipush 8, 2) := by decide +kernel
theorem dX3_bitAt_7 : decode cX3_bitAt 7 = .ok (.idiv, 1) := by decide +kernel
theorem dX3_bitAt_8 : decode cX3_bitAt 8 = .ok (.iaload, 1) := by decide +kernel
theorem dX3_bitAt_9 : decode cX3_bitAt 9 = .ok (.istore_n 2, 1) := by decide +kernel
theorem dX3_bitAt_10 : decode cX3_bitAt 10 = .ok (.aload_n 0, 1) := by decide +kernel
theorem dX3_bitAt_11 : decode cX3_bitAt 11 = .ok (.getfield 21, 3) := by decide +kernel
theorem dX3_bitAt_14 : decode cX3_bitAt 14 = .ok (.ifCond .eq 14, 3) := by decide +kernel
theorem dX3_bitAt_17 : decode cX3_bitAt 17 = .ok (.iload_n 2, 1) := by decide +kernel
theorem dX3_bitAt_18 : decode cX3_bitAt 18 = .ok (.iload_n 1, 1) := by decide +kernel
theorem dX3_bitAt_19 : decode cX3_bitAt 19 = .ok (.bipush 8, 2) := by decide +kernel
theorem dX3_bitAt_21 : decode cX3_bitAt 21 = .ok (.irem, 1) := by decide +kernel
theorem dX3_bitAt_22 : decode cX3_bitAt 22 = .ok (.ishr, 1) := by decide +kernel
theorem dX3_bitAt_23 : decode cX3_bitAt 23 = .ok (.iconst 1, 1) := by decide +kernel
theorem dX3_bitAt_24 : decode cX3_bitAt 24 = .ok (.iand, 1) := by decide +kernel
theorem dX3_bitAt_25 : decode cX3_bitAt 25 = .ok (.goto 14, 3) := by decide +kernel
theorem dX3_bitAt_28 : decode cX3_bitAt 28 = .ok (.iload_n 2, 1) := by decide +kernel
theorem dX3_bitAt_29 : decode cX3_bitAt 29 = .ok (.bipush 7, 2) := by decide +kernel
theorem dX3_bitAt_31 : decode cX3_bitAt 31 = .ok (.iload_n 1, 1) := by decide +kernel
theorem dX3_bitAt_32 : decode cX3_bitAt 32 = .ok (.bipush 8, 2) := by decide +kernel
theorem dX3_bitAt_34 : decode cX3_bitAt 34 = .ok (.irem, 1) := by decide +kernel
theorem dX3_bitAt_35 : decode cX3_bitAt 35 = .ok (.isub, 1) := by decide +kernel
theorem dX3_bitAt_36 : decode cX3_bitAt 36 = .ok (.ishr, 1) := by decide +kernel
theorem dX3_bitAt_37 : decode cX3_bitAt 37 = .ok (.iconst 1, 1) := by decide +kernel
theorem dX3_bitAt_38 : decode cX3_bitAt 38 = .ok (.iand, 1) := by decide +kernel
theorem dX3_bitAt_39 : decode cX3_bitAt 39 = .ok (.ireturn, 1) := by decide +kernel
theorem dX3_goOn_0 : decode cX3_goOn 0 = .ok (.aload_n 0, 1) := by decide +kernel
theorem dX3_goOn_1 : decode cX3_goOn 1 = .ok (.dup, 1) := by decide +kernel
theorem dX3_goOn_2 : decode cX3_goOn 2 = .ok (.getfield 79, 3) := by decide +kernel
theorem dX3_goOn_5 : decode cX3_goOn 5 = .ok (.iconst 1, 1) := by decide +kernel
theorem dX3_goOn_6 : decode cX3_goOn 6 = .ok (.iadd, 1) := by decide +kernel
theorem dX3_goOn_7 : decode cX3_goOn 7 = .ok (.putfield 79, 3) := by decide +kernel
theorem dX3_goOn_10 : decode cX3_goOn 10 = .ok (.aload_n 0, 1) := by decide +kernel
theorem dX3_goOn_11 : decode cX3_goOn 11 = .ok (.getfield 79, 3) := by decide +kernel
theorem dX3_goOn_14 : decode cX3_goOn 14 = .ok (.bipush 8, 2) := by decide +kernel
theorem dX3_goOn_16 : decode cX3_goOn 16 = .ok (.irem, 1) := by decide +kernel
theorem dX3_goOn_17 : decode cX3_goOn 17 = .ok (.ifCond .ne 32, 3) := by decide +kernel
theorem dX3_goOn_20 : decode cX3_goOn 20 = .ok (.aload_n 0, 1) := by decide +kernel
theorem dX3_goOn_21 : decode cX3_goOn 21 = .ok (.aload_n 0, 1) := by decide +kernel
theorem dX3_goOn_22 : decode cX3_goOn 22 = .ok (.getfield 13, 3) := by decide +kernel
theorem dX3_goOn_25 : decode cX3_goOn 25 = .ok (.aload_n 0, 1) := by decide +kernel
theorem dX3_goOn_26 : decode cX3_goOn 26 = .ok (.getfield 79, 3) := by decide +kernel
theorem dX3_goOn_29 : decode cX3_goOn 29 = .ok (.bipush 8, 2) := by decide +kernel
theorem dX3_goOn_31 : decode cX3_goOn 31 = .ok (.idiv, 1) := by decide +kernel
theorem dX3_goOn_32 : decode cX3_goOn 32 = .ok (.iconst 1, 1) := by decide +kernel
theorem dX3_goOn_33 : decode cX3_goOn 33 = .ok (.isub, 1) := by decide +kernel
theorem dX3_goOn_34 : decode cX3_goOn 34 = .ok (.iaload, 1) := by decide +kernel
theorem dX3_goOn_35 : decode cX3_goOn 35 = .ok (.sipush 255, 3) := by decide +kernel
theorem dX3_goOn_38 : decode cX3_goOn 38 = .ok (.if_icmp .ne 7, 3) := by decide +kernel
theorem dX3_goOn_41 : decode cX3_goOn 41 = .ok (.iconst 1, 1) := by decide +kernel
theorem dX3_goOn_42 : decode cX3_goOn 42 = .ok (.goto 4, 3) := by decide +kernel
theorem dX3_goOn_45 : decode cX3_goOn 45 = .ok (.iconst 0, 1) := by decide +kernel
theorem dX3_goOn_46 : decode cX3_goOn 46 = .ok (.putfield 82, 3) := by decide +kernel
theorem dX3_goOn_49 : decode cX3_goOn 49 = .ok (.return_, 1) := by decide +kernel
theorem dX3_keepTry_0 : decode cX3_keepTry 0 = .ok (.aload_n 0, 1) := by decide +kernel
theorem dX3_keepTry_1 : decode cX3_keepTry 1 = .ok (.aload_n 0, 1) := by decide +kernel
theorem dX3_keepTry_2 : decode cX3_keepTry 2 = .ok (.getfield 79, 3) := by decide +kernel
theorem dX3_keepTry_5 : decode cX3_keepTry 5 = .ok (.putfield 100, 3) := by decide +kernel
theorem dX3_keepTry_8 : decode cX3_keepTry 8 = .ok (.aload_n 0, 1) := by decide +kernel
theorem dX3_keepTry_9 : decode cX3_keepTry 9 = .ok (.aload_n 0, 1) := by decide +kernel
theorem dX3_keepTry_10 : decode cX3_keepTry 10 = .ok (.getfield 91, 3) := by decide +kernel
theorem dX3_keepTry_13 : decode cX3_keepTry 13 = .ok (.putfield 103, 3) := by decide +kernel
theorem dX3_keepTry_16 : decode cX3_keepTry 16 = .ok (.aload_n 0, 1) := by decide +kernel
theorem dX3_keepTry_17 : decode cX3_keepTry 17 = .ok (.aload_n 0, 1) := by decide +kernel
theorem dX3_keepTry_18 : decode cX3_keepTry 18 = .ok (.getfield 97, 3) := by decide +kernel
theorem dX3_keepTry_21 : decode cX3_keepTry 21 = .ok (.putfield 106, 3) := by decide +kernel
theorem dX3_keepTry_24 : decode cX3_keepTry 24 = .ok (.aload_n 0, 1) := by decide +kernel
theorem dX3_keepTry_25 : decode cX3_keepTry 25 = .ok (.aload_n 0, 1) := by decide +kernel
theorem dX3_keepTry_26 : decode cX3_keepTry 26 = .ok (.getfield 82, 3) := by decide +kernel
theorem dX3_keepTry_29 : decode cX3_keepTry 29 = .ok (.putfield 109, 3) := by decide +kernel
theorem dX3_keepTry_32 : decode cX3_keepTry 32 = .ok (.return_, 1) := by decide +kernel
theorem dX3_skip_0 : decode cX3_skip 0 = .ok (.aload_n 0, 1) := by decide +kernel
theorem dX3_skip_1 : decode cX3_skip 1 = .ok (.iconst 0, 1) := by decide +kernel
theorem dX3_skip_2 : decode cX3_skip 2 = .ok (.putfield 25, 3) := by decide +kernel
theorem dX3_skip_5 : decode cX3_skip 5 = .ok (.aload_n 0, 1) := by decide +kernel
theorem dX3_skip_6 : decode cX3_skip 6 = .ok (.getfield 112, 3) := by decide +kernel
theorem dX3_skip_9 : decode cX3_skip 9 = .ok (.ifCond .eq 5, 3) := by decide +kernel
theorem dX3_skip_12 : decode cX3_skip 12 = .ok (.iconst 0, 1) := by decide +kernel
theorem dX3_skip_13 : decode cX3_skip 13 = .ok (.ireturn, 1) := by decide +kernel
theorem dX3_skip_14 : decode cX3_skip 14 = .ok (.aload_n 0, 1) := by decide +kernel
theorem dX3_skip_15 : decode cX3_skip 15 = .ok (.invokevirtual 117, 3) := by decide +kernel
theorem dX3_skip_18 : decode cX3_skip 18 = .ok (.iconst 0, 1) := by decide +kernel
theorem dX3_skip_19 : decode cX3_skip 19 = .ok (.istore_n 1, 1) := by decide +kernel
theorem dX3_skip_20 : decode cX3_skip 20 = .ok (.aload_n 0, 1) := by decide +kernel
theorem dX3_skip_21 : decode cX3_skip 21 = .ok (.getfield 79, 3) := by decide +kernel
theorem dX3_skip_24 : decode cX3_skip 24 = .ok (.bipush 8, 2) := by decide +kernel
theorem dX3_skip_26 : decode cX3_skip 26 = .ok (.irem, 1) := by decide +kernel
theorem dX3_skip_27 : decode cX3_skip 27 = .ok (.ifCond .ne 18, 3) := by decide +kernel
theorem dX3_skip_30 : decode cX3_skip 30 = .ok (.aload_n 0, 1) := by decide +kernel
theorem dX3_skip_31 : decode cX3_skip 31 = .ok (.getfield 17, 3) := by decide +kernel
theorem dX3_skip_34 : decode cX3_skip 34 = .ok (.iconst 1, 1) := by decide +kernel
theorem dX3_skip_35 : decode cX3_skip 35 = .ok (.if_icmp .ne 157, 3) := by decide +kernel
theorem dX3_skip_38 : decode cX3_skip 38 = .ok (.aload_n 0, 1) := by decide +kernel
theorem dX3_skip_39 : decode cX3_skip 39 = .ok (.getfield 82, 3) := by decide +kernel
theorem dX3_skip_42 : decode cX3_skip 42 = .ok (.ifCond .eq 150, 3) := by decide +kernel
theorem dX3_skip_45 : decode cX3_skip 45 = .ok (.aload_n 0, 1) := by decide +kernel
theorem dX3_skip_46 : decode cX3_skip 46 = .ok (.getfield 17, 3) := by decide +kernel
theorem dX3_skip_49 : decode cX3_skip 49 = .ok (.iconst 1, 1) := by decide +kernel
theorem dX3_skip_50 : decode cX3_skip 50 = .ok (.if_icmp .ne 37, 3) := by decide +kernel
theorem dX3_skip_53 : decode cX3_skip 53 = .ok (.aload_n 0, 1) := by decide +kernel
theorem dX3_skip_54 : decode cX3_skip 54 = .ok (.getfield 82, 3) := by decide +kernel
theorem dX3_skip_57 : decode cX3_skip 57 = .ok (.ifCond .eq 30, 3) := by decide +kernel
theorem dX3_skip_60 : decode cX3_skip 60 = .ok (.aload_n 0, 1) := by decide +kernel
theorem dX3_skip_61 : decode cX3_skip 61 = .ok (.getfield 79, 3) := by decide +kernel
theorem dX3_skip_64 : decode cX3_skip 64 = .ok (.bipush 8, 2) := by decide +kernel
theorem dX3_skip_66 : decode cX3_skip 66 = .ok (.irem, 1) := by decide +kernel
theorem dX3_skip_67 : decode cX3_skip 67 = .ok (.aload_n 0, 1) := by decide +kernel
theorem dX3_skip_68 : decode cX3_skip 68 = .ok (.getfield 21, 3) := by decide +kernel
theorem dX3_skip_71 : decode cX3_skip 71 = .ok (.ifCond .eq 8, 3) := by decide +kernel
theorem dX3_skip_74 : decode cX3_skip 74 = .ok (.bipush 7, 2) := by decide +kernel
theorem dX3_skip_76 : decode cX3_skip 76 = .ok (.goto 4, 3) := by decide +kernel
theorem dX3_skip_79 : decode cX3_skip 79 = .ok (.iconst 0, 1) := by decide +kernel
theorem dX3_skip_80 : decode cX3_skip 80 = .ok (.if_icmp .ne 7, 3) := by decide +kernel
theorem dX3_skip_83 : decode cX3_skip 83 = .ok (.iconst 1, 1) := by decide +kernel
theorem dX3_skip_84 : decode cX3_skip 84 = .ok (.goto 4, 3) := by decide +kernel
theorem dX3_skip_87 : decode cX3_skip 87 = .ok (.iconst 0, 1) := by decide +kernel
theorem dX3_skip_88 : decode cX3_skip 88 = .ok (.istore_n 2, 1) := by decide +kernel
theorem dX3_skip_89 : decode cX3_skip 89 = .ok (.aload_n 0, 1) := by decide +kernel
theorem dX3_skip_90 : decode cX3_skip 90 = .ok (.aload_n 0, 1) := by decide +kernel
theorem dX3_skip_91 : decode cX3_skip 91 = .ok (.getfield 79, 3) := by decide +kernel
theorem dX3_skip_94 : decode cX3_skip 94 = .ok (.invokevirtual 88, 3) := by decide +kernel
theorem dX3_skip_97 : decode cX3_skip 97 = .ok (.istore_n 3, 1) := by decide +kernel
theorem dX3_skip_98 : decode cX3_skip 98 = .ok (.aload_n 0, 1) := by decide +kernel
theorem dX3_skip_99 : decode cX3_skip 99 = .ok (.invokevirtual 94, 3) := by decide +kernel
theorem dX3_skip_102 : decode cX3_skip 102 = .ok (.iload_n 2, 1) := by decide +kernel
theorem dX3_skip_103 : decode cX3_skip 103 = .ok (.ifCond .eq 16, 3) := by decide +kernel
