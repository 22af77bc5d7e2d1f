theorem dX2_init_0 : decode cX2_init 0 = .ok (.aload_n 0, 1) := by decide +kernel
theorem dX2_init_1 : decode cX2_init 1 = .ok (.invokespecial 1, 3) := by decide +kernel
theorem dX2_init_4 : decode cX2_init 4 = .ok (.aload_n 0, 1) := by decide +kernel
theorem dX2_init_5 : decode cX2_init 5 = .ok (.iconst 0, 1) := by decide +kernel
theorem dX2_init_6 : decode cX2_init 6 = .ok (.bipush 16, 2) := by decide +kernel
theorem dX2_init_8 : decode cX2_init 8 = .ok (.iload_n 1, 1) := by decide +kernel
theorem dX2_init_9 : decode cX2_init 9 = .ok (.invokestatic 9, 3) := by decide +kernel
theorem dX2_init_12 : decode cX2_init 12 = .ok (.invokestatic 15, 3) := by decide +kernel
theorem dX2_init_15 : decode cX2_init 15 = .ok (.putfield 18, 3) := by decide +kernel
theorem dX2_init_18 : decode cX2_init 18 = .ok (.aload_n 0, 1) := by decide +kernel
theorem dX2_init_19 : decode cX2_init 19 = .ok (.iload_n 2, 1) := by decide +kernel
theorem dX2_init_20 : decode cX2_init 20 = .ok (.ifCond .eq 7, 3) := by decide +kernel
theorem dX2_init_23 : decode cX2_init 23 = .ok (.iconst 1, 1) := by decide +kernel
theorem dX2_init_24 : decode cX2_init 24 = .ok (.goto 4, 3) := by decide +kernel
theorem dX2_init_27 : decode cX2_init 27 = .ok (.iconst 0, 1) := by decide +kernel
theorem dX2_init_28 : decode cX2_init 28 = .ok (.putfield 22, 3) := by decide +kernel
theorem dX2_init_31 : decode cX2_init 31 = .ok (.aload_n 0, 1) := by decide +kernel
theorem dX2_init_32 : decode cX2_init 32 = .ok (.aload_n 0, 1) := by decide +kernel
theorem dX2_init_33 : decode cX2_init 33 = .ok (.getfield 22, 3) := by decide +kernel
theorem dX2_init_36 : decode cX2_init 36 = .ok (.ifCond .ne 11, 3) := by decide +kernel
theorem dX2_init_39 : decode cX2_init 39 = .ok (.aload_n 0, 1) := by decide +kernel
theorem dX2_init_40 : decode cX2_init 40 = .ok (.getfield 18, 3) := by decide +kernel
theorem dX2_init_43 : decode cX2_init 43 = .ok (.iconst 1, 1) := by decide +kernel
theorem dX2_init_44 : decode cX2_init 44 = .ok (.if_icmp .eq 7, 3) := by decide +kernel
theorem dX2_init_47 : decode cX2_init 47 = .ok (.iconst 1, 1) := by decide +kernel
theorem dX2_init_48 : decode cX2_init 48 = .ok (.goto 4, 3) := by decide +kernel
theorem dX2_init_51 : decode cX2_init 51 = .ok (.iconst 0, 1) := by decide +kernel
theorem dX2_init_52 : decode cX2_init 52 = .ok (.putfield 26, 3) := by decide +kernel
theorem dX2_init_55 : decode cX2_init 55 = .ok (.aload_n 0, 1) := by decide +kernel
theorem dX2_init_56 : decode cX2_init 56 = .ok (.new 29, 3) := by decide +kernel
theorem dX2_init_59 : decode cX2_init 59 = .ok (.dup, 1) := by decide +kernel
theorem dX2_init_60 : decode cX2_init 60 = .ok (.aload_n 0, 1) := by decide +kernel
theorem dX2_init_61 : decode cX2_init 61 = .ok (.getfield 22, 3) := by decide +kernel
theorem dX2_init_64 : decode cX2_init 64 = .ok (.invokespecial 31, 3) := by decide +kernel
theorem dX2_init_67 : decode cX2_init 67 = .ok (.putfield 34, 3) := by decide +kernel
theorem dX2_init_70 : decode cX2_init 70 = .ok (.aload_n 0, 1) := by decide +kernel
theorem dX2_init_71 : decode cX2_init 71 = .ok (.new 38, 3) := by decide +kernel
theorem dX2_init_74 : decode cX2_init 74 = .ok (.dup, 1) := by decide +kernel
theorem dX2_init_75 : decode cX2_init 75 = .ok (.aload_n 0, 1) := by decide +kernel
theorem dX2_init_76 : decode cX2_init 76 = .ok (.getfield 34, 3) := by decide +kernel
theorem dX2_init_79 : decode cX2_init 79 = .ok (.aload_n 0, 1) := by decide +kernel
theorem dX2_init_80 : decode cX2_init 80 = .ok (.getfield 18, 3) := by decide +kernel
theorem dX2_init_83 : decode cX2_init 83 = .ok (.aload_n 0, 1) := by decide +kernel
theorem dX2_init_84 : decode cX2_init 84 = .ok (.getfield 22, 3) := by decide +kernel
theorem dX2_init_87 : decode cX2_init 87 = .ok (.invokespecial 40, 3) := by decide +kernel
theorem dX2_init_90 : decode cX2_init 90 = .ok (.putfield 43, 3) := by decide +kernel
theorem dX2_init_93 : decode cX2_init 93 = .ok (.aload_n 0, 1) := by decide +kernel
theorem dX2_init_94 : decode cX2_init 94 = .ok (.new 29, 3) := by decide +kernel
theorem dX2_init_97 : decode cX2_init 97 = .ok (.dup, 1) := by decide +kernel
theorem dX2_init_98 : decode cX2_init 98 = .ok (.aload_n 0, 1) := by decide +kernel
theorem dX2_init_99 : decode cX2_init 99 = .ok (.getfield 22, 3) := by decide +kernel
theorem dX2_init_102 : decode cX2_init 102 = .ok (.invokespecial 31, 3) := by decide +kernel
theorem dX2_init_105 : decode cX2_init 105 = .ok (.putfield 47, 3) := by decide +kernel
theorem dX2_init_108 : decode cX2_init 108 = .ok (.aload_n 0, 1) := by decide +kernel
theorem dX2_init_109 : decode cX2_init 109 = .ok (.new 38, 3) := by decide +kernel
theorem dX2_init_112 : decode cX2_init 112 = .ok (.dup, 1) := by decide +kernel
theorem dX2_init_113 : decode cX2_init 113 = .ok (.aload_n 0, 1) := by decide +kernel
theorem dX2_init_114 : decode cX2_init 114 = .ok (.getfield 47, 3) := by decide +kernel
theorem dX2_init_117 : decode cX2_init 117 = .ok (.aload_n 0, 1) := by decide +kernel
theorem dX2_init_118 : decode cX2_init 118 = .ok (.getfield 18, 3) := by decide +kernel
theorem dX2_init_121 : decode cX2_init 121 = .ok (.aload_n 0, 1) := by decide +kernel
theorem dX2_init_122 : decode cX2_init 122 = .ok (.getfield 22, 3) := by decide +kernel
theorem dX2_init_125 : decode cX2_init 125 = .ok (.invokespecial 40, 3) := by decide +kernel
theorem dX2_init_128 : decode cX2_init 128 = .ok (.putfield 50, 3) := by decide +kernel
theorem dX2_init_131 : decode cX2_init 131 = .ok (.aload_n 0, 1) := by decide +kernel
theorem dX2_init_132 : decode cX2_init 132 = .ok (.iconst 0, 1) := by decide +kernel
theorem dX2_init_133 : decode cX2_init 133 = .ok (.putfield 53, 3) := by decide +kernel
theorem dX2_init_136 : decode cX2_init 136 = .ok (.return_, 1) := by decide +kernel
theorem dX0_init_0 : decode cX0_init 0 = .ok (.aload_n 0, 1) := by decide +kernel
theorem dX0_init_1 : decode cX0_init 1 = .ok (.invokespecial 3, 3) := by decide +kernel
theorem dX0_init_4 : decode cX0_init 4 = .ok (.aload_n 0, 1) := by decide +kernel
theorem dX0_init_5 : decode cX0_init 5 = .ok (.iload_n 1, 1) := by decide +kernel
theorem dX0_init_6 : decode cX0_init 6 = .ok (.putfield 9, 3) := by decide +kernel
theorem dX0_init_9 : decode cX0_init 9 = .ok (.aload_n 0, 1) := by decide +kernel
theorem dX0_init_10 : decode cX0_init 10 = .ok (.sipush 600, 3) := by decide +kernel
theorem dX0_init_13 : decode cX0_init 13 = .ok (.newarray .int, 2) := by decide +kernel
theorem dX0_init_15 : decode cX0_init 15 = .ok (.putfield 15, 3) := by decide +kernel
theorem dX0_init_18 : decode cX0_init 18 = .ok (.aload_n 0, 1) := by decide +kernel
theorem dX0_init_19 : decode cX0_init 19 = .ok (.iconst 0, 1) := by decide +kernel
theorem dX0_init_20 : decode cX0_init 20 = .ok (.putfield 19, 3) := by decide +kernel
theorem dX0_init_23 : decode cX0_init 23 = .ok (.return_, 1) := by decide +kernel
theorem dX1_init_0 : decode cX1_init 0 = .ok (.aload_n 0, 1) := by decide +kernel
theorem dX1_init_1 : decode cX1_init 1 = .ok (.invokespecial 3, 3) := by decide +kernel
theorem dX1_init_4 : decode cX1_init 4 = .ok (.aload_n 0, 1) := by decide +kernel
theorem dX1_init_5 : decode cX1_init 5 = .ok (.aload_n 1, 1) := by decide +kernel
theorem dX1_init_6 : decode cX1_init 6 = .ok (.putfield 9, 3) := by decide +kernel
theorem dX1_init_9 : decode cX1_init 9 = .ok (.aload_n 0, 1) := by decide +kernel
theorem dX1_init_10 : decode cX1_init 10 = .ok (.iload_n 2, 1) := by decide +kernel
theorem dX1_init_11 : decode cX1_init 11 = .ok (.putfield 15, 3) := by decide +kernel
theorem dX1_init_14 : decode cX1_init 14 = .ok (.aload_n 0, 1) := by decide +kernel
theorem dX1_init_15 : decode cX1_init 15 = .ok (.iload_n 3, 1) := by decide +kernel
theorem dX1_init_16 : decode cX1_init 16 = .ok (.ifCond .eq 8, 3) := by decide +kernel
theorem dX1_init_19 : decode cX1_init 19 = .ok (.bipush 7, 2) := by decide +kernel
theorem dX1_init_21 : decode cX1_init 21 = .ok (.goto 4, 3) := by decide +kernel
theorem dX1_init_24 : decode cX1_init 24 = .ok (.iconst 0, 1) := by decide +kernel
theorem dX1_init_25 : decode cX1_init 25 = .ok (.putfield 19, 3) := by decide +kernel
theorem dX1_init_28 : decode cX1_init 28 = .ok (.aload_n 0, 1) := by decide +kernel
theorem dX1_init_29 : decode cX1_init 29 = .ok (.iconst 0, 1) := by decide +kernel
theorem dX1_init_30 : decode cX1_init 30 = .ok (.putfield 22, 3) := by decide +kernel
theorem dX1_init_33 : decode cX1_init 33 = .ok (.aload_n 0, 1) := by decide +kernel
theorem dX1_init_34 : decode cX1_init 34 = .ok (.iconst 0, 1) := by decide +kernel
theorem dX1_init_35 : decode cX1_init 35 = .ok (.putfield 25, 3) := by decide +kernel
theorem dX1_init_38 : decode cX1_init 38 = .ok (.aload_n 0, 1) := by decide +kernel
theorem dX1_init_39 : decode cX1_init 39 = .ok (.iconst 0, 1) := by decide +kernel
theorem dX1_init_40 : decode cX1_init 40 = .ok (.putfield 28, 3) := by decide +kernel
theorem dX1_init_43 : decode cX1_init 43 = .ok (.aload_n 0, 1) := by decide +kernel
theorem dX1_init_44 : decode cX1_init 44 = .ok (.iconst 0, 1) := by decide +kernel
theorem dX1_init_45 : decode cX1_init 45 = .ok (.putfield 31, 3) := by decide +kernel
theorem dX1_init_48 : decode cX1_init 48 = .ok (.return_, 1) := by decide +kernel
theorem dX2_skip_0 : decode cX2_skip 0 = .ok (.aload_n 0, 1) := by decide +kernel
theorem dX2_skip_1 : decode cX2_skip 1 = .ok (.getfield 53, 3) := by decide +kernel
theorem dX2_skip_4 : decode cX2_skip 4 = .ok (.ifCond .ne 13, 3) := by decide +kernel
theorem dX2_skip_7 : decode cX2_skip 7 = .ok (.aload_n 0, 1) := by decide +kernel
theorem dX2_skip_8 : decode cX2_skip 8 = .ok (.getfield 50, 3) := by decide +kernel
theorem dX2_skip_11 : decode cX2_skip 11 = .ok (.invokevirtual 144, 3) := by decide +kernel
theorem dX2_skip_14 : decode cX2_skip 14 = .ok (.ifCond .eq 5, 3) := by decide +kernel
theorem dX2_skip_17 : decode cX2_skip 17 = .ok (.iconst 0, 1) := by decide +kernel
theorem dX2_skip_18 : decode cX2_skip 18 = .ok (.ireturn, 1) := by decide +kernel
theorem dX2_skip_19 : decode cX2_skip 19 = .ok (.iconst 0, 1) := by decide +kernel
theorem dX2_skip_20 : decode cX2_skip 20 = .ok (.istore_n 1, 1) := by decide +kernel
theorem dX2_skip_21 : decode cX2_skip 21 = .ok (.iconst 0, 1) := by decide +kernel
theorem dX2_skip_22 : decode cX2_skip 22 = .ok (.istore_n 2, 1) := by decide +kernel
theorem dX2_skip_23 : decode cX2_skip 23 = .ok (.iload_n 2, 1) := by decide +kernel
theorem dX2_skip_24 : decode cX2_skip 24 = .ok (.bipush 16, 2) := by decide +kernel
theorem dX2_skip_26 : decode cX2_skip 26 = .ok (.if_icmp .ge 63, 3) := by decide +kernel
theorem dX2_skip_29 : decode cX2_skip 29 = .ok (.aload_n 0, 1) := by decide +kernel
theorem dX2_skip_30 : decode cX2_skip 30 = .ok (.getfield 50, 3) := by decide +kernel
theorem dX2_skip_33 : decode cX2_skip 33 = .ok (.invokevirtual 144, 3) := by decide +kernel
theorem dX2_skip_36 : decode cX2_skip 36 = .ok (.ifCond .ne 53, 3) := by decide +kernel
theorem dX2_skip_39 : decode cX2_skip 39 = .ok (.aload_n 0, 1) := by decide +kernel
theorem dX2_skip_40 : decode cX2_skip 40 = .ok (.getfield 50, 3) := by decide +kernel
theorem dX2_skip_43 : decode cX2_skip 43 = .ok (.invokevirtual 148, 3) := by decide +kernel
theorem dX2_skip_46 : decode cX2_skip 46 = .ok (.ifCond .eq 13, 3) := by decide +kernel
theorem dX2_skip_49 : decode cX2_skip 49 = .ok (.aload_n 0, 1) := by decide +kernel
theorem dX2_skip_50 : decode cX2_skip 50 = .ok (.getfield 50, 3) := by decide +kernel
theorem dX2_skip_53 : decode cX2_skip 53 = .ok (.invokevirtual 151, 3) := by decide +kernel
theorem dX2_skip_56 : decode cX2_skip 56 = .ok (.goto 27, 3) := by decide +kernel
theorem dX2_skip_59 : decode cX2_skip 59 = .ok (.aload_n 0, 1) := by decide +kernel
theorem dX2_skip_60 : decode cX2_skip 60 = .ok (.getfield 50, 3) := by decide +kernel
theorem dX2_skip_63 : decode cX2_skip 63 = .ok (.aload_n 0, 1) := by decide +kernel
theorem dX2_skip_64 : decode cX2_skip 64 = .ok (.getfield 47, 3) := by decide +kernel
theorem dX2_skip_67 : decode cX2_skip 67 = .ok (.aload_n 0, 1) := by decide +kernel
theorem dX2_skip_68 : decode cX2_skip 68 = .ok (.getfield 50, 3) := by decide +kernel
theorem dX2_skip_71 : decode cX2_skip 71 = .ok (.getfield 66, 3) := by decide +kernel
theorem dX2_skip_74 : decode cX2_skip 74 = .ok (.invokevirtual 104, 3) := by decide +kernel
theorem dX2_skip_77 : decode cX2_skip 77 = .ok (.invokevirtual 154, 3) := by decide +kernel
theorem dX2_skip_80 : decode cX2_skip 80 = .ok (.iinc 1 1, 3) := by decide +kernel
theorem dX2_skip_83 : decode cX2_skip 83 = .ok (.iinc 2 1, 3) := by decide +kernel
theorem dX2_skip_86 : decode cX2_skip 86 = .ok (.goto (-63), 3) := by decide +kernel
theorem dX2_skip_89 : decode cX2_skip 89 = .ok (.aload_n 0, 1) := by decide +kernel
theorem dX2_skip_90 : decode cX2_skip 90 = .ok (.getfield 50, 3) := by decide +kernel
theorem dX2_skip_93 : decode cX2_skip 93 = .ok (.iconst 0, 1) := by decide +kernel
theorem dX2_skip_94 : decode cX2_skip 94 = .ok (.putfield 134, 3) := by decide +kernel
theorem dX2_skip_97 : decode cX2_skip 97 = .ok (.iload_n 1, 1) := by decide +kernel
theorem dX2_skip_98 : decode cX2_skip 98 = .ok (.ireturn, 1) := by decide +kernel
theorem dX1_isAligned_0 : decode cX1_isAligned 0 = .ok (.aload_n 0, 1) := by decide +kernel
theorem dX1_isAligned_1 : decode cX1_isAligned 1 = .ok (.invokevirtual 43, 3) := by decide +kernel
theorem dX1_isAligned_4 : decode cX1_isAligned 4 = .ok (.ifCond .eq 22, 3) := by decide +kernel
theorem dX1_isAligned_7 : decode cX1_isAligned 7 = .ok (.aload_n 0, 1) := by decide +kernel
theorem dX1_isAligned_8 : decode cX1_isAligned 8 = .ok (.getfield 15, 3) := by decide +kernel
theorem dX1_isAligned_11 : decode cX1_isAligned 11 = .ok (.iconst 1, 1) := by decide +kernel
theorem dX1_isAligned_12 : decode cX1_isAligned 12 = .ok (.if_icmp .ne 10, 3) := by decide +kernel
theorem dX1_isAligned_15 : decode cX1_isAligned 15 = .ok (.aload_n 0, 1) := by decide +kernel
theorem dX1_isAligned_16 : decode cX1_isAligned 16 = .ok (.invokevirtual 47, 3) := by decide +kernel
theorem dX1_isAligned_19 : decode cX1_isAligned 19 = .ok (.ifCond .ne 7, 3) := by decide +kernel
theorem dX1_isAligned_22 : decode cX1_isAligned 22 = .ok (.iconst 1, 1) := by decide +kernel
theorem dX1_isAligned_23 : decode cX1_isAligned 23 = .ok (.goto 4, 3) := by decide +kernel
theorem dX1_isAligned_26 : decode cX1_isAligned 26 = .ok (.iconst 0, 1) := by decide +kernel
theorem dX1_isAligned_27 : decode cX1_isAligned 27 = .ok (.ireturn, 1) := by decide +kernel
theorem dX1_isAtByte_0 : decode cX1_isAtByte 0 = .ok (.aload_n 0, 1) := by decide +kernel
theorem dX1_isAtByte_1 : decode cX1_isAtByte 1 = .ok (.getfield 22, 3) := by decide +kernel
theorem dX1_isAtByte_4 : decode cX1_isAtByte 4 = .ok (.bipush 7, 2) := by decide +kernel
theorem dX1_isAtByte_6 : decode cX1_isAtByte 6 = .ok (.iand, 1) := by decide +kernel
theorem dX1_isAtByte_7 : decode cX1_isAtByte 7 = .ok (.ifCond .ne 7, 3) := by decide +kernel
theorem dX1_isAtByte_10 : decode cX1_isAtByte 10 = .ok (.iconst 1, 1) := by decide +kernel
theorem dX1_isAtByte_11 : decode cX1_isAtByte 11 = .ok (.goto 4, 3) := by decide +kernel
theorem dX1_isAtByte_14 : decode cX1_isAtByte 14 = .ok (.iconst 0, 1) := by decide +kernel
theorem dX1_isAtByte_15 : decode cX1_isAtByte 15 = .ok (.ireturn, 1) := by decide +kernel
theorem dX1_isBehindFullByte_0 : decode cX1_isBehindFullByte 0 = .ok (.aload_n 0, 1) := by decide +kernel
theorem dX1_isBehindFullByte_1 : decode cX1_isBehindFullByte 1 = .ok (.getfield 22, 3) := by decide +kernel
theorem dX1_isBehindFullByte_4 : decode cX1_isBehindFullByte 4 = .ok (.iconst 3, 1) := by decide +kernel
theorem dX1_isBehindFullByte_5 : decode cX1_isBehindFullByte 5 = .ok (.ishr, 1) := by decide +kernel
theorem dX1_isBehindFullByte_6 : decode cX1_isBehindFullByte 6 = .ok (.istore_n 1, 1) := by decide +kernel
theorem dX1_isBehindFullByte_7 : decode cX1_isBehindFullByte 7 = .ok (.iload_n 1, 1) := by decide +kernel
theorem dX1_isBehindFullByte_8 : decode cX1_isBehindFullByte 8 = .ok (.ifCond .le 31, 3) := by decide +kernel
theorem dX1_isBehindFullByte_11 : decode cX1_isBehindFullByte 11 = .ok (.iload_n 1, 1) := by decide +kernel
theorem dX1_isBehindFullByte_12 : decode cX1_isBehindFullByte 12 = .ok (.aload_n 0, 1) := by decide +kernel
theorem dX1_isBehindFullByte_13 : decode cX1_isBehindFullByte 13 = .ok (.getfield 31, 3) := by decide +kernel
theorem dX1_isBehindFullByte_16 : decode cX1_isBehindFullByte 16 = .ok (.if_icmp .eq 23, 3) := by decide +kernel
theorem dX1_isBehindFullByte_19 : decode cX1_isBehindFullByte 19 = .ok (.aload_n 0, 1) := by decide +kernel
theorem dX1_isBehindFullByte_20 : decode cX1_isBehindFullByte 20 = .ok (.getfield 9, 3) := by decide +kernel
theorem dX1_isBehindFullByte_23 : decode cX1_isBehindFullByte 23 = .ok (.iload_n 1, 1) := by decide +kernel
theorem dX1_isBehindFullByte_24 : decode cX1_isBehindFullByte 24 = .ok (.iconst 1, 1) := by decide +kernel
theorem dX1_isBehindFullByte_25 : decode cX1_isBehindFullByte 25 = .ok (.isub, 1) := by decide +kernel
theorem dX1_isBehindFullByte_26 : decode cX1_isBehindFullByte 26 = .ok (.invokevirtual 50, 3) := by decide +kernel
theorem dX1_isBehindFullByte_29 : decode cX1_isBehindFullByte 29 = .ok (.sipush 255, 3) := by decide +kernel
theorem dX1_isBehindFullByte_32 : decode cX1_isBehindFullByte 32 = .ok (.if_icmp .ne 7, 3) := by decide +kernel
theorem dX1_isBehindFullByte_35 : decode cX1_isBehindFullByte 35 = .ok (.iconst 1, 1) := by decide +kernel
theorem dX1_isBehindFullByte_36 : decode cX1_isBehindFullByte 36 = .ok (.goto 4, 3) := by decide +kernel
theorem dX1_isBehindFullByte_39 : decode cX1_isBehindFullByte 39 = .ok (.iconst 0, 1) := by decide +kernel
theorem dX1_isBehindFullByte_40 : decode cX1_isBehindFullByte 40 = .ok (.ireturn, 1) := by decide +kernel
theorem dX0_byteOf_0 : decode cX0_byteOf 0 = .ok (.iload_n 1, 1) := by decide +kernel
theorem dX0_byteOf_1 : decode cX0_byteOf 1 = .ok (.ifCond .lt 21, 3) := by decide +kernel
theorem dX0_byteOf_4 : decode cX0_byteOf 4 = .ok (.iload_n 1, 1) := by decide +kernel
theorem dX0_byteOf_5 : decode cX0_byteOf 5 = .ok (.aload_n 0, 1) := by decide +kernel
theorem dX0_byteOf_6 : decode cX0_byteOf 6 = .ok (.getfield 15, 3) := by decide +kernel
theorem dX0_byteOf_9 : decode cX0_byteOf 9 = .ok (.arraylength, 1) := by decide +kernel
theorem dX0_byteOf_10 : decode cX0_byteOf 10 = .ok (.if_icmp .ge 12, 3) := by decide +kernel
theorem dX0_byteOf_13 : decode cX0_byteOf 13 = .ok (.aload_n 0, 1) := by decide +kernel
theorem dX0_byteOf_14 : decode cX0_byteOf 14 = .ok (.getfield 15, 3) := by decide +kernel
theorem dX0_byteOf_17 : decode cX0_byteOf 17 = .ok (.iload_n 1, 1) := by decide +kernel
theorem dX0_byteOf_18 : decode cX0_byteOf 18 = .ok (.iaload, 1) := by decide +kernel
theorem dX0_byteOf_19 : decode cX0_byteOf 19 = .ok (.goto 4, 3) := by decide +kernel
theorem dX0_byteOf_22 : decode cX0_byteOf 22 = .ok (.iconst 0, 1) := by decide +kernel
theorem dX0_byteOf_23 : decode cX0_byteOf 23 = .ok (.ireturn, 1) := by decide +kernel
theorem dX1_isStuffedDue_0 : decode cX1_isStuffedDue 0 = .ok (.aload_n 0, 1) := by decide +kernel
theorem dX1_isStuffedDue_1 : decode cX1_isStuffedDue 1 = .ok (.getfield 15, 3) := by decide +kernel
theorem dX1_isStuffedDue_4 : decode cX1_isStuffedDue 4 = .ok (.iconst 1, 1) := by decide +kernel
theorem dX1_isStuffedDue_5 : decode cX1_isStuffedDue 5 = .ok (.if_icmp .le 20, 3) := by decide +kernel
theorem dX1_isStuffedDue_8 : decode cX1_isStuffedDue 8 = .ok (.aload_n 0, 1) := by decide +kernel
theorem dX1_isStuffedDue_9 : decode cX1_isStuffedDue 9 = .ok (.getfield 28, 3) := by decide +kernel
theorem dX1_isStuffedDue_12 : decode cX1_isStuffedDue 12 = .ok (.aload_n 0, 1) := by decide +kernel
theorem dX1_isStuffedDue_13 : decode cX1_isStuffedDue 13 = .ok (.getfield 15, 3) := by decide +kernel
theorem dX1_isStuffedDue_16 : decode cX1_isStuffedDue 16 = .ok (.if_icmp .ne 7, 3) := by decide +kernel
theorem dX1_isStuffedDue_19 : decode cX1_isStuffedDue 19 = .ok (.iconst 1, 1) := by decide +kernel
theorem dX1_isStuffedDue_20 : decode cX1_isStuffedDue 20 = .ok (.goto 4, 3) := by decide +kernel
theorem dX1_isStuffedDue_23 : decode cX1_isStuffedDue 23 = .ok (.iconst 0, 1) := by decide +kernel
theorem dX1_isStuffedDue_24 : decode cX1_isStuffedDue 24 = .ok (.ireturn, 1) := by decide +kernel
theorem dX1_isStuffedDue_25 : decode cX1_isStuffedDue 25 = .ok (.aload_n 0, 1) := by decide +kernel
theorem dX1_isStuffedDue_26 : decode cX1_isStuffedDue 26 = .ok (.getfield 15, 3) := by decide +kernel
theorem dX1_isStuffedDue_29 : decode cX1_isStuffedDue 29 = .ok (.iconst 1, 1) := by decide +kernel
theorem dX1_isStuffedDue_30 : decode cX1_isStuffedDue 30 = .ok (.if_icmp .ne 28, 3) := by decide +kernel
theorem dX1_isStuffedDue_33 : decode cX1_isStuffedDue 33 = .ok (.aload_n 0, 1) := by decide +kernel
theorem dX1_isStuffedDue_34 : decode cX1_isStuffedDue 34 = .ok (.getfield 22, 3) := by decide +kernel
theorem dX1_isStuffedDue_37 : decode cX1_isStuffedDue 37 = .ok (.bipush 7, 2) := by decide +kernel
theorem dX1_isStuffedDue_39 : decode cX1_isStuffedDue 39 = .ok (.iand, 1) := by decide +kernel
theorem dX1_isStuffedDue_40 : decode cX1_isStuffedDue 40 = .ok (.aload_n 0, 1) := by decide +kernel
theorem dX1_isStuffedDue_41 : decode cX1_isStuffedDue 41 = .ok (.getfield 19, 3) := by decide +kernel
theorem dX1_isStuffedDue_44 : decode cX1_isStuffedDue 44 = .ok (.if_icmp .ne 14, 3) := by decide +kernel
theorem dX1_isStuffedDue_47 : decode cX1_isStuffedDue 47 = .ok (.aload_n 0, 1) := by decide +kernel
theorem dX1_isStuffedDue_48 : decode cX1_isStuffedDue 48 = .ok (.invokevirtual 47, 3) := by decide +kernel
theorem dX1_isStuffedDue_51 : decode cX1_isStuffedDue 51 = .ok (.ifCond .eq 7, 3) := by decide +kernel
theorem dX1_isStuffedDue_54 : decode cX1_isStuffedDue 54 = .ok (.iconst 1, 1) := by decide +kernel
theorem dX1_isStuffedDue_55 : decode cX1_isStuffedDue 55 = .ok (.goto 4, 3) := by decide +kernel
theorem dX1_isStuffedDue_58 : decode cX1_isStuffedDue 58 = .ok (.iconst 0, 1) := by decide +kernel
theorem dX1_isStuffedDue_59 : decode cX1_isStuffedDue 59 = .ok (.ireturn, 1) := by decide +kernel
theorem dX1_stepOverStuffed_0 : decode cX1_stepOverStuffed 0 = .ok (.aload_n 0, 1) := by decide +kernel
theorem dX1_stepOverStuffed_1 : decode cX1_stepOverStuffed 1 = .ok (.dup, 1) := by decide +kernel
theorem dX1_stepOverStuffed_2 : decode cX1_stepOverStuffed 2 = .ok (.getfield 22, 3) := by decide +kernel
theorem dX1_stepOverStuffed_5 : decode cX1_stepOverStuffed 5 = .ok (.iconst 1, 1) := by decide +kernel
theorem dX1_stepOverStuffed_6 : decode cX1_stepOverStuffed 6 = .ok (.iadd, 1) := by decide +kernel
theorem dX1_stepOverStuffed_7 : decode cX1_stepOverStuffed 7 = .ok (.putfield 22, 3) := by decide +kernel
theorem dX1_stepOverStuffed_10 : decode cX1_stepOverStuffed 10 = .ok (.aload_n 0, 1) := by decide +kernel
theorem dX1_stepOverStuffed_11 : decode cX1_stepOverStuffed 11 = .ok (.dup, 1) := by decide +kernel
theorem dX1_stepOverStuffed_12 : decode cX1_stepOverStuffed 12 = .ok (.getfield 25, 3) := by decide +kernel
theorem dX1_stepOverStuffed_15 : decode cX1_stepOverStuffed 15 = .ok (.iconst 1, 1) := by decide +kernel
theorem dX1_stepOverStuffed_16 : decode cX1_stepOverStuffed 16 = .ok (.iadd, 1) := by decide +kernel
theorem dX1_stepOverStuffed_17 : decode cX1_stepOverStuffed 17 = .ok (.putfield 25, 3) := by decide +kernel
theorem dX1_stepOverStuffed_20 : decode cX1_stepOverStuffed 20 = .ok (.aload_n 0, 1) := by decide +kernel
theorem dX1_stepOverStuffed_21 : decode cX1_stepOverStuffed 21 = .ok (.iconst 0, 1) := by decide +kernel
theorem dX1_stepOverStuffed_22 : decode cX1_stepOverStuffed 22 = .ok (.putfield 28, 3) := by decide +kernel
theorem dX1_stepOverStuffed_25 : decode cX1_stepOverStuffed 25 = .ok (.return_, 1) := by decide +kernel
theorem dX0_bitOf_0 : decode cX0_bitOf 0 = .ok (.aload_n 0, 1) := by decide +kernel
theorem dX0_bitOf_1 : decode cX0_bitOf 1 = .ok (.iload_n 1, 1) := by decide +kernel
theorem dX0_bitOf_2 : decode cX0_bitOf 2 = .ok (.iconst 3, 1) := by decide +kernel
theorem dX0_bitOf_3 : decode cX0_bitOf 3 = .ok (.ishr, 1) := by decide +kernel
theorem dX0_bitOf_4 : decode cX0_bitOf 4 = .ok (.invokevirtual 29, 3) := by decide +kernel
theorem dX0_bitOf_7 : decode cX0_bitOf 7 = .ok (.aload_n 0, 1) := by decide +kernel
theorem dX0_bitOf_8 : decode cX0_bitOf 8 = .ok (.iload_n 1, 1) := by decide +kernel
theorem dX0_bitOf_9 : decode cX0_bitOf 9 = .ok (.invokevirtual 33, 3) := by decide +kernel
theorem dX0_bitOf_12 : decode cX0_bitOf 12 = .ok (.ishr, 1) := by decide +kernel
theorem dX0_bitOf_13 : decode cX0_bitOf 13 = .ok (.iconst 1, 1) := by decide +kernel
theorem dX0_bitOf_14 : decode cX0_bitOf 14 = .ok (.iand, 1) := by decide +kernel
theorem dX0_bitOf_15 : decode cX0_bitOf 15 = .ok (.ireturn, 1) := by decide +kernel
theorem dX0_shiftInByte_0 : decode cX0_shiftInByte 0 = .ok (.aload_n 0, 1) := by decide +kernel
theorem dX0_shiftInByte_1 : decode cX0_shiftInByte 1 = .ok (.getfield 9, 3) := by decide +kernel
theorem dX0_shiftInByte_4 : decode cX0_shiftInByte 4 = .ok (.ifCond .eq 10, 3) := by decide +kernel
theorem dX0_shiftInByte_7 : decode cX0_shiftInByte 7 = .ok (.iload_n 1, 1) := by decide +kernel
theorem dX0_shiftInByte_8 : decode cX0_shiftInByte 8 = .ok (.bipush 7, 2) := by decide +kernel
theorem dX0_shiftInByte_10 : decode cX0_shiftInByte 10 = .ok (.iand, 1) := by decide +kernel
theorem dX0_shiftInByte_11 : decode cX0_shiftInByte 11 = .ok (.goto 10, 3) := by decide +kernel
theorem dX0_shiftInByte_14 : decode cX0_shiftInByte 14 = .ok (.bipush 7, 2) := by decide +kernel
theorem dX0_shiftInByte_16 : decode cX0_shiftInByte 16 = .ok (.iload_n 1, 1) := by decide +kernel
theorem dX0_shiftInByte_17 : decode cX0_shiftInByte 17 = .ok (.bipush 7, 2) := by decide +kernel
theorem dX0_shiftInByte_19 : decode cX0_shiftInByte 19 = .ok (.iand, 1) := by decide +kernel
theorem dX0_shiftInByte_20 : decode cX0_shiftInByte 20 = .ok (.isub, 1) := by decide +kernel
theorem dX0_shiftInByte_21 : decode cX0_shiftInByte 21 = .ok (.ireturn, 1) := by decide +kernel
theorem dX1_stepOver_0 : decode cX1_stepOver 0 = .ok (.aload_n 0, 1) := by decide +kernel
theorem dX1_stepOver_1 : decode cX1_stepOver 1 = .ok (.dup, 1) := by decide +kernel
theorem dX1_stepOver_2 : decode cX1_stepOver 2 = .ok (.getfield 22, 3) := by decide +kernel
theorem dX1_stepOver_5 : decode cX1_stepOver 5 = .ok (.iconst 1, 1) := by decide +kernel
theorem dX1_stepOver_6 : decode cX1_stepOver 6 = .ok (.iadd, 1) := by decide +kernel
theorem dX1_stepOver_7 : decode cX1_stepOver 7 = .ok (.putfield 22, 3) := by decide +kernel
theorem dX1_stepOver_10 : decode cX1_stepOver 10 = .ok (.aload_n 0, 1) := by decide +kernel
theorem dX1_stepOver_11 : decode cX1_stepOver 11 = .ok (.iload_n 1, 1) := by decide +kernel
theorem dX1_stepOver_12 : decode cX1_stepOver 12 = .ok (.iconst 1, 1) := by decide +kernel
theorem dX1_stepOver_13 : decode cX1_stepOver 13 = .ok (.if_icmp .ne 12, 3) := by decide +kernel
theorem dX1_stepOver_16 : decode cX1_stepOver 16 = .ok (.aload_n 0, 1) := by decide +kernel
theorem dX1_stepOver_17 : decode cX1_stepOver 17 = .ok (.getfield 28, 3) := by decide +kernel
theorem dX1_stepOver_20 : decode cX1_stepOver 20 = .ok (.iconst 1, 1) := by decide +kernel
theorem dX1_stepOver_21 : decode cX1_stepOver 21 = .ok (.iadd, 1) := by decide +kernel
theorem dX1_stepOver_22 : decode cX1_stepOver 22 = .ok (.goto 4, 3) := by decide +kernel
theorem dX1_stepOver_25 : decode cX1_stepOver 25 = .ok (.iconst 0, 1) := by decide +kernel
theorem dX1_stepOver_26 : decode cX1_stepOver 26 = .ok (.putfield 28, 3) := by decide +kernel
theorem dX1_stepOver_29 : decode cX1_stepOver 29 = .ok (.return_, 1) := by decide +kernel
theorem dX2_take_0 : decode cX2_take 0 = .ok (.aload_n 0, 1) := by decide +kernel
theorem dX2_take_1 : decode cX2_take 1 = .ok (.getfield 50, 3) := by decide +kernel
theorem dX2_take_4 : decode cX2_take 4 = .ok (.getfield 66, 3) := by decide +kernel
theorem dX2_take_7 : decode cX2_take 7 = .ok (.iconst 3, 1) := by decide +kernel
theorem dX2_take_8 : decode cX2_take 8 = .ok (.ishr, 1) := by decide +kernel
theorem dX2_take_9 : decode cX2_take 9 = .ok (.istore_n 1, 1) := by decide +kernel
theorem dX2_take_10 : decode cX2_take 10 = .ok (.aload_n 0, 1) := by decide +kernel
theorem dX2_take_11 : decode cX2_take 11 = .ok (.getfield 53, 3) := by decide +kernel
theorem dX2_take_14 : decode cX2_take 14 = .ok (.ifCond .ne 32, 3) := by decide +kernel
theorem dX2_take_17 : decode cX2_take 17 = .ok (.aload_n 0, 1) := by decide +kernel
theorem dX2_take_18 : decode cX2_take 18 = .ok (.getfield 18, 3) := by decide +kernel
theorem dX2_take_21 : decode cX2_take 21 = .ok (.iconst 1, 1) := by decide +kernel
theorem dX2_take_22 : decode cX2_take 22 = .ok (.if_icmp .ne 24, 3) := by decide +kernel
theorem dX2_take_25 : decode cX2_take 25 = .ok (.aload_n 0, 1) := by decide +kernel
theorem dX2_take_26 : decode cX2_take 26 = .ok (.getfield 50, 3) := by decide +kernel
theorem dX2_take_29 : decode cX2_take 29 = .ok (.invokevirtual 157, 3) := by decide +kernel
theorem dX2_take_32 : decode cX2_take 32 = .ok (.ifCond .eq 14, 3) := by decide +kernel
theorem dX2_take_35 : decode cX2_take 35 = .ok (.aload_n 0, 1) := by decide +kernel
theorem dX2_take_36 : decode cX2_take 36 = .ok (.getfield 47, 3) := by decide +kernel
theorem dX2_take_39 : decode cX2_take 39 = .ok (.iload_n 1, 1) := by decide +kernel
theorem dX2_take_40 : decode cX2_take 40 = .ok (.invokevirtual 160, 3) := by decide +kernel
theorem dX2_take_43 : decode cX2_take 43 = .ok (.ifCond .ne 5, 3) := by decide +kernel
theorem dX2_take_46 : decode cX2_take 46 = .ok (.iconst (-1), 1) := by decide +kernel
theorem dX2_take_47 : decode cX2_take 47 = .ok (.ireturn, 1) := by decide +kernel
theorem dX2_take_48 : decode cX2_take 48 = .ok (.aload_n 0, 1) := by decide +kernel
theorem dX2_take_49 : decode cX2_take 49 = .ok (.getfield 50, 3) := by decide +kernel
theorem dX2_take_52 : decode cX2_take 52 = .ok (.invokevirtual 94, 3) := by decide +kernel
theorem dX2_take_55 : decode cX2_take 55 = .ok (.aload_n 0, 1) := by decide +kernel
theorem dX2_take_56 : decode cX2_take 56 = .ok (.getfield 47, 3) := by decide +kernel
theorem dX2_take_59 : decode cX2_take 59 = .ok (.iload_n 1, 1) := by decide +kernel
theorem dX2_take_60 : decode cX2_take 60 = .ok (.iconst 1, 1) := by decide +kernel
theorem dX2_take_61 : decode cX2_take 61 = .ok (.iadd, 1) := by decide +kernel
theorem dX2_take_62 : decode cX2_take 62 = .ok (.invokevirtual 117, 3) := by decide +kernel
theorem dX2_take_65 : decode cX2_take 65 = .ok (.ireturn, 1) := by decide +kernel
theorem dX0_isMarkAt_0 : decode cX0_isMarkAt 0 = .ok (.iload_n 1, 1) := by decide +kernel
theorem dX0_isMarkAt_1 : decode cX0_isMarkAt 1 = .ok (.iconst 1, 1) := by decide +kernel
theorem dX0_isMarkAt_2 : decode cX0_isMarkAt 2 = .ok (.iadd, 1) := by decide +kernel
theorem dX0_isMarkAt_3 : decode cX0_isMarkAt 3 = .ok (.aload_n 0, 1) := by decide +kernel
theorem dX0_isMarkAt_4 : decode cX0_isMarkAt 4 = .ok (.getfield 19, 3) := by decide +kernel
theorem dX0_isMarkAt_7 : decode cX0_isMarkAt 7 = .ok (.if_icmp .ge 31, 3) := by decide +kernel
theorem dX0_isMarkAt_10 : decode cX0_isMarkAt 10 = .ok (.aload_n 0, 1) := by decide +kernel
theorem dX0_isMarkAt_11 : decode cX0_isMarkAt 11 = .ok (.iload_n 1, 1) := by decide +kernel
theorem dX0_isMarkAt_12 : decode cX0_isMarkAt 12 = .ok (.invokevirtual 29, 3) := by decide +kernel
theorem dX0_isMarkAt_15 : decode cX0_isMarkAt 15 = .ok (.sipush 255, 3) := by decide +kernel
theorem dX0_isMarkAt_18 : decode cX0_isMarkAt 18 = .ok (.if_icmp .ne 20, 3) := by decide +kernel
theorem dX0_isMarkAt_21 : decode cX0_isMarkAt 21 = .ok (.aload_n 0, 1) := by decide +kernel
theorem dX0_isMarkAt_22 : decode cX0_isMarkAt 22 = .ok (.iload_n 1, 1) := by decide +kernel
theorem dX0_isMarkAt_23 : decode cX0_isMarkAt 23 = .ok (.iconst 1, 1) := by decide +kernel
theorem dX0_isMarkAt_24 : decode cX0_isMarkAt 24 = .ok (.iadd, 1) := by decide +kernel
theorem dX0_isMarkAt_25 : decode cX0_isMarkAt 25 = .ok (.invokevirtual 29, 3) := by decide +kernel
theorem dX0_isMarkAt_28 : decode cX0_isMarkAt 28 = .ok (.sipush 128, 3) := by decide +kernel
theorem dX0_isMarkAt_31 : decode cX0_isMarkAt 31 = .ok (.if_icmp .lt 7, 3) := by decide +kernel
theorem dX0_isMarkAt_34 : decode cX0_isMarkAt 34 = .ok (.iconst 1, 1) := by decide +kernel
theorem dX0_isMarkAt_35 : decode cX0_isMarkAt 35 = .ok (.goto 4, 3) := by decide +kernel
theorem dX0_isMarkAt_38 : decode cX0_isMarkAt 38 = .ok (.iconst 0, 1) := by decide +kernel
theorem dX0_isMarkAt_39 : decode cX0_isMarkAt 39 = .ok (.ireturn, 1) := by decide +kernel
theorem dX1_stepOverMark_0 : decode cX1_stepOverMark 0 = .ok (.aload_n 0, 1) := by decide +kernel
theorem dX1_stepOverMark_1 : decode cX1_stepOverMark 1 = .ok (.dup, 1) := by decide +kernel
theorem dX1_stepOverMark_2 : decode cX1_stepOverMark 2 = .ok (.getfield 22, 3) := by decide +kernel
theorem dX1_stepOverMark_5 : decode cX1_stepOverMark 5 = .ok (.bipush 16, 2) := by decide +kernel
theorem dX1_stepOverMark_7 : decode cX1_stepOverMark 7 = .ok (.iadd, 1) := by decide +kernel
theorem dX1_stepOverMark_8 : decode cX1_stepOverMark 8 = .ok (.putfield 22, 3) := by decide +kernel
theorem dX1_stepOverMark_11 : decode cX1_stepOverMark 11 = .ok (.aload_n 0, 1) := by decide +kernel
theorem dX1_stepOverMark_12 : decode cX1_stepOverMark 12 = .ok (.aload_n 0, 1) := by decide +kernel
theorem dX1_stepOverMark_13 : decode cX1_stepOverMark 13 = .ok (.getfield 22, 3) := by decide +kernel
theorem dX1_stepOverMark_16 : decode cX1_stepOverMark 16 = .ok (.iconst 3, 1) := by decide +kernel
theorem dX1_stepOverMark_17 : decode cX1_stepOverMark 17 = .ok (.ishr, 1) := by decide +kernel
theorem dX1_stepOverMark_18 : decode cX1_stepOverMark 18 = .ok (.putfield 31, 3) := by decide +kernel
theorem dX1_stepOverMark_21 : decode cX1_stepOverMark 21 = .ok (.return_, 1) := by decide +kernel
theorem dX2_told_0 : decode cX2_told 0 = .ok (.iload_n 1, 1) := by decide +kernel
theorem dX2_told_1 : decode cX2_told 1 = .ok (.tableswitch 118 0 7 #[47, 52, 65, 73, 81, 89, 97, 105], 47) := by decide +kernel
theorem dX2_told_48 : decode cX2_told 48 = .ok (.aload_n 0, 1) := by decide +kernel
theorem dX2_told_49 : decode cX2_told 49 = .ok (.getfield 18, 3) := by decide +kernel
theorem dX2_told_52 : decode cX2_told 52 = .ok (.ireturn, 1) := by decide +kernel
theorem dX2_told_53 : decode cX2_told 53 = .ok (.aload_n 0, 1) := by decide +kernel
theorem dX2_told_54 : decode cX2_told 54 = .ok (.getfield 22, 3) := by decide +kernel
theorem dX2_told_57 : decode cX2_told 57 = .ok (.ifCond .eq 7, 3) := by decide +kernel
theorem dX2_told_60 : decode cX2_told 60 = .ok (.iconst 1, 1) := by decide +kernel
theorem dX2_told_61 : decode cX2_told 61 = .ok (.goto 4, 3) := by decide +kernel
theorem dX2_told_64 : decode cX2_told 64 = .ok (.iconst 0, 1) := by decide +kernel
theorem dX2_told_65 : decode cX2_told 65 = .ok (.ireturn, 1) := by decide +kernel
theorem dX2_told_66 : decode cX2_told 66 = .ok (.aload_n 0, 1) := by decide +kernel
theorem dX2_told_67 : decode cX2_told 67 = .ok (.getfield 43, 3) := by decide +kernel
theorem dX2_told_70 : decode cX2_told 70 = .ok (.getfield 66, 3) := by decide +kernel
theorem dX2_told_73 : decode cX2_told 73 = .ok (.ireturn, 1) := by decide +kernel
theorem dX2_told_74 : decode cX2_told 74 = .ok (.aload_n 0, 1) := by decide +kernel
theorem dX2_told_75 : decode cX2_told 75 = .ok (.getfield 43, 3) := by decide +kernel
theorem dX2_told_78 : decode cX2_told 78 = .ok (.getfield 131, 3) := by decide +kernel
theorem dX2_told_81 : decode cX2_told 81 = .ok (.ireturn, 1) := by decide +kernel
theorem dX2_told_82 : decode cX2_told 82 = .ok (.aload_n 0, 1) := by decide +kernel
theorem dX2_told_83 : decode cX2_told 83 = .ok (.getfield 47, 3) := by decide +kernel
theorem dX2_told_86 : decode cX2_told 86 = .ok (.getfield 112, 3) := by decide +kernel
theorem dX2_told_89 : decode cX2_told 89 = .ok (.ireturn, 1) := by decide +kernel
theorem dX2_told_90 : decode cX2_told 90 = .ok (.aload_n 0, 1) := by decide +kernel
theorem dX2_told_91 : decode cX2_told 91 = .ok (.getfield 50, 3) := by decide +kernel
