theorem dX3_add_26 : decode cX3_add 26 = .ok (.irem, 1) := by decide +kernel
theorem dX3_add_27 : decode cX3_add 27 = .ok (.ifCond .ne 31, 3) := by decide +kernel
theorem dX3_add_30 : decode cX3_add 30 = .ok (.aload_n 0, 1) := by decide +kernel
theorem dX3_add_31 : decode cX3_add 31 = .ok (.aload_n 0, 1) := by decide +kernel
theorem dX3_add_32 : decode cX3_add 32 = .ok (.aload_n 0, 1) := by decide +kernel
theorem dX3_add_33 : decode cX3_add 33 = .ok (.getfield 28, 3) := by decide +kernel
theorem dX3_add_36 : decode cX3_add 36 = .ok (.bipush 8, 2) := by decide +kernel
theorem dX3_add_38 : decode cX3_add 38 = .ok (.idiv, 1) := by decide +kernel
theorem dX3_add_39 : decode cX3_add 39 = .ok (.iconst 1, 1) := by decide +kernel
theorem dX3_add_40 : decode cX3_add 40 = .ok (.isub, 1) := by decide +kernel
theorem dX3_add_41 : decode cX3_add 41 = .ok (.invokevirtual 31, 3) := by decide +kernel
theorem dX3_add_44 : decode cX3_add 44 = .ok (.sipush 255, 3) := by decide +kernel
theorem dX3_add_47 : decode cX3_add 47 = .ok (.if_icmp .ne 7, 3) := by decide +kernel
theorem dX3_add_50 : decode cX3_add 50 = .ok (.iconst 1, 1) := by decide +kernel
theorem dX3_add_51 : decode cX3_add 51 = .ok (.goto 4, 3) := by decide +kernel
theorem dX3_add_54 : decode cX3_add 54 = .ok (.iconst 0, 1) := by decide +kernel
theorem dX3_add_55 : decode cX3_add 55 = .ok (.putfield 35, 3) := by decide +kernel
theorem dX3_add_58 : decode cX3_add 58 = .ok (.return_, 1) := by decide +kernel
theorem dX3_byteOf_0 : decode cX3_byteOf 0 = .ok (.iconst 0, 1) := by decide +kernel
theorem dX3_byteOf_1 : decode cX3_byteOf 1 = .ok (.istore_n 2, 1) := by decide +kernel
theorem dX3_byteOf_2 : decode cX3_byteOf 2 = .ok (.iconst 0, 1) := by decide +kernel
theorem dX3_byteOf_3 : decode cX3_byteOf 3 = .ok (.istore_n 3, 1) := by decide +kernel
theorem dX3_byteOf_4 : decode cX3_byteOf 4 = .ok (.iload_n 3, 1) := by decide +kernel
theorem dX3_byteOf_5 : decode cX3_byteOf 5 = .ok (.bipush 8, 2) := by decide +kernel
theorem dX3_byteOf_7 : decode cX3_byteOf 7 = .ok (.if_icmp .ge 73, 3) := by decide +kernel
theorem dX3_byteOf_10 : decode cX3_byteOf 10 = .ok (.bipush 8, 2) := by decide +kernel
theorem dX3_byteOf_12 : decode cX3_byteOf 12 = .ok (.iload_n 1, 1) := by decide +kernel
theorem dX3_byteOf_13 : decode cX3_byteOf 13 = .ok (.imul, 1) := by decide +kernel
theorem dX3_byteOf_14 : decode cX3_byteOf 14 = .ok (.iload_n 3, 1) := by decide +kernel
theorem dX3_byteOf_15 : decode cX3_byteOf 15 = .ok (.iadd, 1) := by decide +kernel
theorem dX3_byteOf_16 : decode cX3_byteOf 16 = .ok (.istore 4, 2) := by decide +kernel
theorem dX3_byteOf_18 : decode cX3_byteOf 18 = .ok (.iload 4, 2) := by decide +kernel
theorem dX3_byteOf_20 : decode cX3_byteOf 20 = .ok (.aload_n 0, 1) := by decide +kernel
theorem dX3_byteOf_21 : decode cX3_byteOf 21 = .ok (.getfield 28, 3) := by decide +kernel
theorem dX3_byteOf_24 : decode cX3_byteOf 24 = .ok (.if_icmp .ge 17, 3) := by decide +kernel
theorem dX3_byteOf_27 : decode cX3_byteOf 27 = .ok (.aload_n 0, 1) := by decide +kernel
theorem dX3_byteOf_28 : decode cX3_byteOf 28 = .ok (.getfield 7, 3) := by decide +kernel
theorem dX3_byteOf_31 : decode cX3_byteOf 31 = .ok (.iload 4, 2) := by decide +kernel
theorem dX3_byteOf_33 : decode cX3_byteOf 33 = .ok (.baload, 1) := by decide +kernel
theorem dX3_byteOf_34 : decode cX3_byteOf 34 = .ok (.ifCond .eq 7, 3) := by decide +kernel
theorem dX3_byteOf_37 : decode cX3_byteOf 37 = .ok (.iconst 1, 1) := by decide +kernel
theorem dX3_byteOf_38 : decode cX3_byteOf 38 = .ok (.goto 4, 3) := by decide +kernel
theorem dX3_byteOf_41 : decode cX3_byteOf 41 = .ok (.iconst 0, 1) := by decide +kernel
theorem dX3_byteOf_42 : decode cX3_byteOf 42 = .ok (.istore 5, 2) := by decide +kernel
theorem dX3_byteOf_44 : decode cX3_byteOf 44 = .ok (.iload 5, 2) := by decide +kernel
theorem dX3_byteOf_46 : decode cX3_byteOf 46 = .ok (.ifCond .eq 26, 3) := by decide +kernel
theorem dX3_byteOf_49 : decode cX3_byteOf 49 = .ok (.iload_n 2, 1) := by decide +kernel
theorem dX3_byteOf_50 : decode cX3_byteOf 50 = .ok (.aload_n 0, 1) := by decide +kernel
theorem dX3_byteOf_51 : decode cX3_byteOf 51 = .ok (.getfield 21, 3) := by decide +kernel
theorem dX3_byteOf_54 : decode cX3_byteOf 54 = .ok (.ifCond .eq 9, 3) := by decide +kernel
theorem dX3_byteOf_57 : decode cX3_byteOf 57 = .ok (.iconst 1, 1) := by decide +kernel
theorem dX3_byteOf_58 : decode cX3_byteOf 58 = .ok (.iload_n 3, 1) := by decide +kernel
theorem dX3_byteOf_59 : decode cX3_byteOf 59 = .ok (.ishl, 1) := by decide +kernel
theorem dX3_byteOf_60 : decode cX3_byteOf 60 = .ok (.goto 8, 3) := by decide +kernel
theorem dX3_byteOf_63 : decode cX3_byteOf 63 = .ok (.sipush 128, 3) := by decide +kernel
theorem dX3_byteOf_66 : decode cX3_byteOf 66 = .ok (.iload_n 3, 1) := by decide +kernel
theorem dX3_byteOf_67 : decode cX3_byteOf 67 = .ok (.ishr, 1) := by decide +kernel
theorem dX3_byteOf_68 : decode cX3_byteOf 68 = .ok (.ior, 1) := by decide +kernel
theorem dX3_byteOf_69 : decode cX3_byteOf 69 = .ok (.goto 4, 3) := by decide +kernel
theorem dX3_byteOf_72 : decode cX3_byteOf 72 = .ok (.iload_n 2, 1) := by decide +kernel
theorem dX3_byteOf_73 : decode cX3_byteOf 73 = .ok (.istore_n 2, 1) := by decide +kernel
theorem dX3_byteOf_74 : decode cX3_byteOf 74 = .ok (.iinc 3 1, 3) := by decide +kernel
theorem dX3_byteOf_77 : decode cX3_byteOf 77 = .ok (.goto (-73), 3) := by decide +kernel
theorem dX3_byteOf_80 : decode cX3_byteOf 80 = .ok (.iload_n 2, 1) := by decide +kernel
theorem dX3_byteOf_81 : decode cX3_byteOf 81 = .ok (.ireturn, 1) := by decide +kernel
theorem dX3_align_0 : decode cX3_align 0 = .ok (.aload_n 0, 1) := by decide +kernel
theorem dX3_align_1 : decode cX3_align 1 = .ok (.aload_n 0, 1) := by decide +kernel
theorem dX3_align_2 : decode cX3_align 2 = .ok (.bipush 16, 2) := by decide +kernel
theorem dX3_align_4 : decode cX3_align 4 = .ok (.invokevirtual 57, 3) := by decide +kernel
theorem dX3_align_7 : decode cX3_align 7 = .ok (.ifCond .eq 7, 3) := by decide +kernel
theorem dX3_align_10 : decode cX3_align 10 = .ok (.iconst 1, 1) := by decide +kernel
theorem dX3_align_11 : decode cX3_align 11 = .ok (.goto 4, 3) := by decide +kernel
theorem dX3_align_14 : decode cX3_align 14 = .ok (.iconst 0, 1) := by decide +kernel
theorem dX3_align_15 : decode cX3_align 15 = .ok (.putfield 25, 3) := by decide +kernel
theorem dX3_align_18 : decode cX3_align 18 = .ok (.aload_n 0, 1) := by decide +kernel
theorem dX3_align_19 : decode cX3_align 19 = .ok (.getfield 25, 3) := by decide +kernel
theorem dX3_align_22 : decode cX3_align 22 = .ok (.ifCond .le 7, 3) := by decide +kernel
theorem dX3_align_25 : decode cX3_align 25 = .ok (.iconst 0, 1) := by decide +kernel
theorem dX3_align_26 : decode cX3_align 26 = .ok (.goto 7, 3) := by decide +kernel
theorem dX3_align_29 : decode cX3_align 29 = .ok (.aload_n 0, 1) := by decide +kernel
theorem dX3_align_30 : decode cX3_align 30 = .ok (.invokevirtual 65, 3) := by decide +kernel
theorem dX3_align_33 : decode cX3_align 33 = .ok (.ireturn, 1) := by decide +kernel
theorem dX3_alignAll_0 : decode cX3_alignAll 0 = .ok (.iconst 0, 1) := by decide +kernel
theorem dX3_alignAll_1 : decode cX3_alignAll 1 = .ok (.istore_n 1, 1) := by decide +kernel
theorem dX3_alignAll_2 : decode cX3_alignAll 2 = .ok (.aload_n 0, 1) := by decide +kernel
theorem dX3_alignAll_3 : decode cX3_alignAll 3 = .ok (.getfield 28, 3) := by decide +kernel
theorem dX3_alignAll_6 : decode cX3_alignAll 6 = .ok (.bipush 8, 2) := by decide +kernel
theorem dX3_alignAll_8 : decode cX3_alignAll 8 = .ok (.irem, 1) := by decide +kernel
theorem dX3_alignAll_9 : decode cX3_alignAll 9 = .ok (.ifCond .ne 18, 3) := by decide +kernel
theorem dX3_alignAll_12 : decode cX3_alignAll 12 = .ok (.aload_n 0, 1) := by decide +kernel
theorem dX3_alignAll_13 : decode cX3_alignAll 13 = .ok (.getfield 17, 3) := by decide +kernel
theorem dX3_alignAll_16 : decode cX3_alignAll 16 = .ok (.iconst 1, 1) := by decide +kernel
theorem dX3_alignAll_17 : decode cX3_alignAll 17 = .ok (.if_icmp .ne 22, 3) := by decide +kernel
theorem dX3_alignAll_20 : decode cX3_alignAll 20 = .ok (.aload_n 0, 1) := by decide +kernel
theorem dX3_alignAll_21 : decode cX3_alignAll 21 = .ok (.getfield 35, 3) := by decide +kernel
theorem dX3_alignAll_24 : decode cX3_alignAll 24 = .ok (.ifCond .eq 15, 3) := by decide +kernel
theorem dX3_alignAll_27 : decode cX3_alignAll 27 = .ok (.aload_n 0, 1) := by decide +kernel
theorem dX3_alignAll_28 : decode cX3_alignAll 28 = .ok (.iconst 0, 1) := by decide +kernel
theorem dX3_alignAll_29 : decode cX3_alignAll 29 = .ok (.invokevirtual 61, 3) := by decide +kernel
theorem dX3_alignAll_32 : decode cX3_alignAll 32 = .ok (.istore_n 2, 1) := by decide +kernel
theorem dX3_alignAll_33 : decode cX3_alignAll 33 = .ok (.iinc 1 1, 3) := by decide +kernel
theorem dX3_alignAll_36 : decode cX3_alignAll 36 = .ok (.goto (-34), 3) := by decide +kernel
theorem dX3_alignAll_39 : decode cX3_alignAll 39 = .ok (.iload_n 1, 1) := by decide +kernel
theorem dX3_alignAll_40 : decode cX3_alignAll 40 = .ok (.ireturn, 1) := by decide +kernel
theorem dX3_mark_0 : decode cX3_mark 0 = .ok (.aload_n 0, 1) := by decide +kernel
theorem dX3_mark_1 : decode cX3_mark 1 = .ok (.aload_n 0, 1) := by decide +kernel
theorem dX3_mark_2 : decode cX3_mark 2 = .ok (.getfield 17, 3) := by decide +kernel
theorem dX3_mark_5 : decode cX3_mark 5 = .ok (.iconst 1, 1) := by decide +kernel
theorem dX3_mark_6 : decode cX3_mark 6 = .ok (.if_icmp .eq 7, 3) := by decide +kernel
theorem dX3_mark_9 : decode cX3_mark 9 = .ok (.iconst 1, 1) := by decide +kernel
theorem dX3_mark_10 : decode cX3_mark 10 = .ok (.goto 35, 3) := by decide +kernel
theorem dX3_mark_13 : decode cX3_mark 13 = .ok (.iload_n 1, 1) := by decide +kernel
theorem dX3_mark_14 : decode cX3_mark 14 = .ok (.i2l, 1) := by decide +kernel
theorem dX3_mark_15 : decode cX3_mark 15 = .ok (.ldc2_w 69, 3) := by decide +kernel
theorem dX3_mark_18 : decode cX3_mark 18 = .ok (.ldc2_w 71, 3) := by decide +kernel
theorem dX3_mark_21 : decode cX3_mark 21 = .ok (.invokestatic 53, 3) := by decide +kernel
theorem dX3_mark_24 : decode cX3_mark 24 = .ok (.ifCond .ne 7, 3) := by decide +kernel
theorem dX3_mark_27 : decode cX3_mark 27 = .ok (.iconst 2, 1) := by decide +kernel
theorem dX3_mark_28 : decode cX3_mark 28 = .ok (.goto 17, 3) := by decide +kernel
theorem dX3_mark_31 : decode cX3_mark 31 = .ok (.aload_n 0, 1) := by decide +kernel
theorem dX3_mark_32 : decode cX3_mark 32 = .ok (.bipush 32, 2) := by decide +kernel
theorem dX3_mark_34 : decode cX3_mark 34 = .ok (.invokevirtual 57, 3) := by decide +kernel
theorem dX3_mark_37 : decode cX3_mark 37 = .ok (.ifCond .eq 7, 3) := by decide +kernel
theorem dX3_mark_40 : decode cX3_mark 40 = .ok (.iconst 3, 1) := by decide +kernel
theorem dX3_mark_41 : decode cX3_mark 41 = .ok (.goto 4, 3) := by decide +kernel
theorem dX3_mark_44 : decode cX3_mark 44 = .ok (.iconst 0, 1) := by decide +kernel
theorem dX3_mark_45 : decode cX3_mark 45 = .ok (.putfield 25, 3) := by decide +kernel
theorem dX3_mark_48 : decode cX3_mark 48 = .ok (.aload_n 0, 1) := by decide +kernel
theorem dX3_mark_49 : decode cX3_mark 49 = .ok (.getfield 25, 3) := by decide +kernel
theorem dX3_mark_52 : decode cX3_mark 52 = .ok (.ifCond .le 5, 3) := by decide +kernel
theorem dX3_mark_55 : decode cX3_mark 55 = .ok (.iconst 0, 1) := by decide +kernel
theorem dX3_mark_56 : decode cX3_mark 56 = .ok (.ireturn, 1) := by decide +kernel
theorem dX3_mark_57 : decode cX3_mark 57 = .ok (.aload_n 0, 1) := by decide +kernel
theorem dX3_mark_58 : decode cX3_mark 58 = .ok (.invokevirtual 65, 3) := by decide +kernel
theorem dX3_mark_61 : decode cX3_mark 61 = .ok (.istore_n 2, 1) := by decide +kernel
theorem dX3_mark_62 : decode cX3_mark 62 = .ok (.aload_n 0, 1) := by decide +kernel
theorem dX3_mark_63 : decode cX3_mark 63 = .ok (.getfield 28, 3) := by decide +kernel
theorem dX3_mark_66 : decode cX3_mark 66 = .ok (.bipush 8, 2) := by decide +kernel
theorem dX3_mark_68 : decode cX3_mark 68 = .ok (.idiv, 1) := by decide +kernel
theorem dX3_mark_69 : decode cX3_mark 69 = .ok (.istore_n 3, 1) := by decide +kernel
theorem dX3_mark_70 : decode cX3_mark 70 = .ok (.iconst 0, 1) := by decide +kernel
theorem dX3_mark_71 : decode cX3_mark 71 = .ok (.istore 4, 2) := by decide +kernel
theorem dX3_mark_73 : decode cX3_mark 73 = .ok (.iload 4, 2) := by decide +kernel
theorem dX3_mark_75 : decode cX3_mark 75 = .ok (.bipush 8, 2) := by decide +kernel
theorem dX3_mark_77 : decode cX3_mark 77 = .ok (.if_icmp .ge 14, 3) := by decide +kernel
theorem dX3_mark_80 : decode cX3_mark 80 = .ok (.aload_n 0, 1) := by decide +kernel
theorem dX3_mark_81 : decode cX3_mark 81 = .ok (.iconst 1, 1) := by decide +kernel
theorem dX3_mark_82 : decode cX3_mark 82 = .ok (.invokevirtual 41, 3) := by decide +kernel
theorem dX3_mark_85 : decode cX3_mark 85 = .ok (.iinc 4 1, 3) := by decide +kernel
theorem dX3_mark_88 : decode cX3_mark 88 = .ok (.goto (-15), 3) := by decide +kernel
theorem dX3_mark_91 : decode cX3_mark 91 = .ok (.iconst 0, 1) := by decide +kernel
theorem dX3_mark_92 : decode cX3_mark 92 = .ok (.istore 4, 2) := by decide +kernel
theorem dX3_mark_94 : decode cX3_mark 94 = .ok (.iload 4, 2) := by decide +kernel
theorem dX3_mark_96 : decode cX3_mark 96 = .ok (.bipush 8, 2) := by decide +kernel
theorem dX3_mark_98 : decode cX3_mark 98 = .ok (.if_icmp .ge 43, 3) := by decide +kernel
theorem dX3_mark_101 : decode cX3_mark 101 = .ok (.aload_n 0, 1) := by decide +kernel
theorem dX3_mark_102 : decode cX3_mark 102 = .ok (.iload_n 1, 1) := by decide +kernel
theorem dX3_mark_103 : decode cX3_mark 103 = .ok (.aload_n 0, 1) := by decide +kernel
theorem dX3_mark_104 : decode cX3_mark 104 = .ok (.getfield 21, 3) := by decide +kernel
theorem dX3_mark_107 : decode cX3_mark 107 = .ok (.ifCond .eq 8, 3) := by decide +kernel
theorem dX3_mark_110 : decode cX3_mark 110 = .ok (.iload 4, 2) := by decide +kernel
theorem dX3_mark_112 : decode cX3_mark 112 = .ok (.goto 8, 3) := by decide +kernel
theorem dX3_mark_115 : decode cX3_mark 115 = .ok (.bipush 7, 2) := by decide +kernel
theorem dX3_mark_117 : decode cX3_mark 117 = .ok (.iload 4, 2) := by decide +kernel
theorem dX3_mark_119 : decode cX3_mark 119 = .ok (.isub, 1) := by decide +kernel
theorem dX3_mark_120 : decode cX3_mark 120 = .ok (.ishr, 1) := by decide +kernel
theorem dX3_mark_121 : decode cX3_mark 121 = .ok (.iconst 1, 1) := by decide +kernel
theorem dX3_mark_122 : decode cX3_mark 122 = .ok (.iand, 1) := by decide +kernel
theorem dX3_mark_123 : decode cX3_mark 123 = .ok (.iconst 1, 1) := by decide +kernel
theorem dX3_mark_124 : decode cX3_mark 124 = .ok (.if_icmp .ne 7, 3) := by decide +kernel
theorem dX3_mark_127 : decode cX3_mark 127 = .ok (.iconst 1, 1) := by decide +kernel
theorem dX3_mark_128 : decode cX3_mark 128 = .ok (.goto 4, 3) := by decide +kernel
theorem dX3_mark_131 : decode cX3_mark 131 = .ok (.iconst 0, 1) := by decide +kernel
theorem dX3_mark_132 : decode cX3_mark 132 = .ok (.invokevirtual 41, 3) := by decide +kernel
theorem dX3_mark_135 : decode cX3_mark 135 = .ok (.iinc 4 1, 3) := by decide +kernel
theorem dX3_mark_138 : decode cX3_mark 138 = .ok (.goto (-44), 3) := by decide +kernel
theorem dX3_mark_141 : decode cX3_mark 141 = .ok (.aload_n 0, 1) := by decide +kernel
theorem dX3_mark_142 : decode cX3_mark 142 = .ok (.iconst 0, 1) := by decide +kernel
theorem dX3_mark_143 : decode cX3_mark 143 = .ok (.putfield 35, 3) := by decide +kernel
theorem dX3_mark_146 : decode cX3_mark 146 = .ok (.iload_n 3, 1) := by decide +kernel
theorem dX3_mark_147 : decode cX3_mark 147 = .ok (.ireturn, 1) := by decide +kernel
theorem dX3_patch_0 : decode cX3_patch 0 = .ok (.aload_n 0, 1) := by decide +kernel
theorem dX3_patch_1 : decode cX3_patch 1 = .ok (.aload_n 0, 1) := by decide +kernel
theorem dX3_patch_2 : decode cX3_patch 2 = .ok (.getfield 17, 3) := by decide +kernel
theorem dX3_patch_5 : decode cX3_patch 5 = .ok (.ifCond .eq 7, 3) := by decide +kernel
theorem dX3_patch_8 : decode cX3_patch 8 = .ok (.iconst 1, 1) := by decide +kernel
theorem dX3_patch_9 : decode cX3_patch 9 = .ok (.goto 42, 3) := by decide +kernel
theorem dX3_patch_12 : decode cX3_patch 12 = .ok (.iload_n 2, 1) := by decide +kernel
theorem dX3_patch_13 : decode cX3_patch 13 = .ok (.i2l, 1) := by decide +kernel
theorem dX3_patch_14 : decode cX3_patch 14 = .ok (.lconst 1, 1) := by decide +kernel
theorem dX3_patch_15 : decode cX3_patch 15 = .ok (.ldc2_w 51, 3) := by decide +kernel
theorem dX3_patch_18 : decode cX3_patch 18 = .ok (.invokestatic 53, 3) := by decide +kernel
theorem dX3_patch_21 : decode cX3_patch 21 = .ok (.ifCond .ne 7, 3) := by decide +kernel
theorem dX3_patch_24 : decode cX3_patch 24 = .ok (.iconst 2, 1) := by decide +kernel
theorem dX3_patch_25 : decode cX3_patch 25 = .ok (.goto 26, 3) := by decide +kernel
theorem dX3_patch_28 : decode cX3_patch 28 = .ok (.iload_n 1, 1) := by decide +kernel
theorem dX3_patch_29 : decode cX3_patch 29 = .ok (.ifCond .lt 17, 3) := by decide +kernel
theorem dX3_patch_32 : decode cX3_patch 32 = .ok (.iload_n 1, 1) := by decide +kernel
theorem dX3_patch_33 : decode cX3_patch 33 = .ok (.i2l, 1) := by decide +kernel
theorem dX3_patch_34 : decode cX3_patch 34 = .ok (.iload_n 2, 1) := by decide +kernel
theorem dX3_patch_35 : decode cX3_patch 35 = .ok (.i2l, 1) := by decide +kernel
theorem dX3_patch_36 : decode cX3_patch 36 = .ok (.ladd, 1) := by decide +kernel
theorem dX3_patch_37 : decode cX3_patch 37 = .ok (.aload_n 0, 1) := by decide +kernel
theorem dX3_patch_38 : decode cX3_patch 38 = .ok (.getfield 28, 3) := by decide +kernel
theorem dX3_patch_41 : decode cX3_patch 41 = .ok (.i2l, 1) := by decide +kernel
theorem dX3_patch_42 : decode cX3_patch 42 = .ok (.lcmp, 1) := by decide +kernel
theorem dX3_patch_43 : decode cX3_patch 43 = .ok (.ifCond .le 7, 3) := by decide +kernel
theorem dX3_patch_46 : decode cX3_patch 46 = .ok (.iconst 3, 1) := by decide +kernel
theorem dX3_patch_47 : decode cX3_patch 47 = .ok (.goto 4, 3) := by decide +kernel
theorem dX3_patch_50 : decode cX3_patch 50 = .ok (.iconst 0, 1) := by decide +kernel
theorem dX3_patch_51 : decode cX3_patch 51 = .ok (.putfield 25, 3) := by decide +kernel
theorem dX3_patch_54 : decode cX3_patch 54 = .ok (.aload_n 0, 1) := by decide +kernel
theorem dX3_patch_55 : decode cX3_patch 55 = .ok (.getfield 25, 3) := by decide +kernel
theorem dX3_patch_58 : decode cX3_patch 58 = .ok (.ifCond .le 5, 3) := by decide +kernel
theorem dX3_patch_61 : decode cX3_patch 61 = .ok (.iconst 0, 1) := by decide +kernel
theorem dX3_patch_62 : decode cX3_patch 62 = .ok (.ireturn, 1) := by decide +kernel
theorem dX3_patch_63 : decode cX3_patch 63 = .ok (.iconst 0, 1) := by decide +kernel
theorem dX3_patch_64 : decode cX3_patch 64 = .ok (.istore 4, 2) := by decide +kernel
theorem dX3_patch_66 : decode cX3_patch 66 = .ok (.iconst 0, 1) := by decide +kernel
theorem dX3_patch_67 : decode cX3_patch 67 = .ok (.istore 5, 2) := by decide +kernel
theorem dX3_patch_69 : decode cX3_patch 69 = .ok (.iload 5, 2) := by decide +kernel
theorem dX3_patch_71 : decode cX3_patch 71 = .ok (.iload_n 2, 1) := by decide +kernel
theorem dX3_patch_72 : decode cX3_patch 72 = .ok (.if_icmp .ge 79, 3) := by decide +kernel
theorem dX3_patch_75 : decode cX3_patch 75 = .ok (.aload_n 0, 1) := by decide +kernel
theorem dX3_patch_76 : decode cX3_patch 76 = .ok (.getfield 21, 3) := by decide +kernel
theorem dX3_patch_79 : decode cX3_patch 79 = .ok (.ifCond .eq 8, 3) := by decide +kernel
theorem dX3_patch_82 : decode cX3_patch 82 = .ok (.iload 5, 2) := by decide +kernel
theorem dX3_patch_84 : decode cX3_patch 84 = .ok (.goto 9, 3) := by decide +kernel
theorem dX3_patch_87 : decode cX3_patch 87 = .ok (.iload_n 2, 1) := by decide +kernel
theorem dX3_patch_88 : decode cX3_patch 88 = .ok (.iconst 1, 1) := by decide +kernel
theorem dX3_patch_89 : decode cX3_patch 89 = .ok (.isub, 1) := by decide +kernel
theorem dX3_patch_90 : decode cX3_patch 90 = .ok (.iload 5, 2) := by decide +kernel
theorem dX3_patch_92 : decode cX3_patch 92 = .ok (.isub, 1) := by decide +kernel
theorem dX3_patch_93 : decode cX3_patch 93 = .ok (.istore 6, 2) := by decide +kernel
theorem dX3_patch_95 : decode cX3_patch 95 = .ok (.aload_n 0, 1) := by decide +kernel
theorem dX3_patch_96 : decode cX3_patch 96 = .ok (.getfield 7, 3) := by decide +kernel
theorem dX3_patch_99 : decode cX3_patch 99 = .ok (.iload_n 1, 1) := by decide +kernel
theorem dX3_patch_100 : decode cX3_patch 100 = .ok (.iload 5, 2) := by decide +kernel
theorem dX3_patch_102 : decode cX3_patch 102 = .ok (.iadd, 1) := by decide +kernel
theorem dX3_patch_103 : decode cX3_patch 103 = .ok (.baload, 1) := by decide +kernel
theorem dX3_patch_104 : decode cX3_patch 104 = .ok (.ifCond .eq 13, 3) := by decide +kernel
theorem dX3_patch_107 : decode cX3_patch 107 = .ok (.iload 4, 2) := by decide +kernel
theorem dX3_patch_109 : decode cX3_patch 109 = .ok (.iconst 1, 1) := by decide +kernel
theorem dX3_patch_110 : decode cX3_patch 110 = .ok (.iload 6, 2) := by decide +kernel
theorem dX3_patch_112 : decode cX3_patch 112 = .ok (.ishl, 1) := by decide +kernel
theorem dX3_patch_113 : decode cX3_patch 113 = .ok (.ior, 1) := by decide +kernel
theorem dX3_patch_114 : decode cX3_patch 114 = .ok (.goto 5, 3) := by decide +kernel
theorem dX3_patch_117 : decode cX3_patch 117 = .ok (.iload 4, 2) := by decide +kernel
theorem dX3_patch_119 : decode cX3_patch 119 = .ok (.istore 4, 2) := by decide +kernel
theorem dX3_patch_121 : decode cX3_patch 121 = .ok (.aload_n 0, 1) := by decide +kernel
theorem dX3_patch_122 : decode cX3_patch 122 = .ok (.getfield 7, 3) := by decide +kernel
theorem dX3_patch_125 : decode cX3_patch 125 = .ok (.iload_n 1, 1) := by decide +kernel
theorem dX3_patch_126 : decode cX3_patch 126 = .ok (.iload 5, 2) := by decide +kernel
theorem dX3_patch_128 : decode cX3_patch 128 = .ok (.iadd, 1) := by decide +kernel
theorem dX3_patch_129 : decode cX3_patch 129 = .ok (.iload_n 3, 1) := by decide +kernel
theorem dX3_patch_130 : decode cX3_patch 130 = .ok (.iload 6, 2) := by decide +kernel
theorem dX3_patch_132 : decode cX3_patch 132 = .ok (.iushr, 1) := by decide +kernel
theorem dX3_patch_133 : decode cX3_patch 133 = .ok (.iconst 1, 1) := by decide +kernel
theorem dX3_patch_134 : decode cX3_patch 134 = .ok (.iand, 1) := by decide +kernel
theorem dX3_patch_135 : decode cX3_patch 135 = .ok (.iconst 1, 1) := by decide +kernel
theorem dX3_patch_136 : decode cX3_patch 136 = .ok (.if_icmp .ne 7, 3) := by decide +kernel
theorem dX3_patch_139 : decode cX3_patch 139 = .ok (.iconst 1, 1) := by decide +kernel
theorem dX3_patch_140 : decode cX3_patch 140 = .ok (.goto 4, 3) := by decide +kernel
theorem dX3_patch_143 : decode cX3_patch 143 = .ok (.iconst 0, 1) := by decide +kernel
theorem dX3_patch_144 : decode cX3_patch 144 = .ok (.bastore, 1) := by decide +kernel
theorem dX3_patch_145 : decode cX3_patch 145 = .ok (.iinc 5 1, 3) := by decide +kernel
theorem dX3_patch_148 : decode cX3_patch 148 = .ok (.goto (-79), 3) := by decide +kernel
theorem dX3_patch_151 : decode cX3_patch 151 = .ok (.iload 4, 2) := by decide +kernel
theorem dX3_patch_153 : decode cX3_patch 153 = .ok (.ireturn, 1) := by decide +kernel
theorem dX3_byteAt_0 : decode cX3_byteAt 0 = .ok (.aload_n 0, 1) := by decide +kernel
theorem dX3_byteAt_1 : decode cX3_byteAt 1 = .ok (.iload_n 1, 1) := by decide +kernel
theorem dX3_byteAt_2 : decode cX3_byteAt 2 = .ok (.i2l, 1) := by decide +kernel
theorem dX3_byteAt_3 : decode cX3_byteAt 3 = .ok (.lconst 0, 1) := by decide +kernel
theorem dX3_byteAt_4 : decode cX3_byteAt 4 = .ok (.aload_n 0, 1) := by decide +kernel
theorem dX3_byteAt_5 : decode cX3_byteAt 5 = .ok (.invokevirtual 73, 3) := by decide +kernel
theorem dX3_byteAt_8 : decode cX3_byteAt 8 = .ok (.iconst 1, 1) := by decide +kernel
theorem dX3_byteAt_9 : decode cX3_byteAt 9 = .ok (.isub, 1) := by decide +kernel
theorem dX3_byteAt_10 : decode cX3_byteAt 10 = .ok (.i2l, 1) := by decide +kernel
theorem dX3_byteAt_11 : decode cX3_byteAt 11 = .ok (.invokestatic 53, 3) := by decide +kernel
theorem dX3_byteAt_14 : decode cX3_byteAt 14 = .ok (.ifCond .eq 7, 3) := by decide +kernel
theorem dX3_byteAt_17 : decode cX3_byteAt 17 = .ok (.iconst 0, 1) := by decide +kernel
theorem dX3_byteAt_18 : decode cX3_byteAt 18 = .ok (.goto 4, 3) := by decide +kernel
theorem dX3_byteAt_21 : decode cX3_byteAt 21 = .ok (.iconst 1, 1) := by decide +kernel
theorem dX3_byteAt_22 : decode cX3_byteAt 22 = .ok (.putfield 25, 3) := by decide +kernel
theorem dX3_byteAt_25 : decode cX3_byteAt 25 = .ok (.aload_n 0, 1) := by decide +kernel
theorem dX3_byteAt_26 : decode cX3_byteAt 26 = .ok (.getfield 25, 3) := by decide +kernel
theorem dX3_byteAt_29 : decode cX3_byteAt 29 = .ok (.ifCond .le 7, 3) := by decide +kernel
theorem dX3_byteAt_32 : decode cX3_byteAt 32 = .ok (.iconst 0, 1) := by decide +kernel
theorem dX3_byteAt_33 : decode cX3_byteAt 33 = .ok (.goto 8, 3) := by decide +kernel
theorem dX3_byteAt_36 : decode cX3_byteAt 36 = .ok (.aload_n 0, 1) := by decide +kernel
theorem dX3_byteAt_37 : decode cX3_byteAt 37 = .ok (.iload_n 1, 1) := by decide +kernel
theorem dX3_byteAt_38 : decode cX3_byteAt 38 = .ok (.invokevirtual 31, 3) := by decide +kernel
theorem dX3_byteAt_41 : decode cX3_byteAt 41 = .ok (.ireturn, 1) := by decide +kernel
theorem dX3_bytesWritten_0 : decode cX3_bytesWritten 0 = .ok (.aload_n 0, 1) := by decide +kernel
theorem dX3_bytesWritten_1 : decode cX3_bytesWritten 1 = .ok (.getfield 28, 3) := by decide +kernel
theorem dX3_bytesWritten_4 : decode cX3_bytesWritten 4 = .ok (.bipush 7, 2) := by decide +kernel
theorem dX3_bytesWritten_6 : decode cX3_bytesWritten 6 = .ok (.iadd, 1) := by decide +kernel
theorem dX3_bytesWritten_7 : decode cX3_bytesWritten 7 = .ok (.bipush 8, 2) := by decide +kernel
theorem dX3_bytesWritten_9 : decode cX3_bytesWritten 9 = .ok (.idiv, 1) := by decide +kernel
theorem dX3_bytesWritten_10 : decode cX3_bytesWritten 10 = .ok (.ireturn, 1) := by decide +kernel
theorem dX3_feed_0 : decode cX3_feed 0 = .ok (.aload_n 0, 1) := by decide +kernel
theorem dX3_feed_1 : decode cX3_feed 1 = .ok (.iload_n 1, 1) := by decide +kernel
theorem dX3_feed_2 : decode cX3_feed 2 = .ok (.i2l, 1) := by decide +kernel
theorem dX3_feed_3 : decode cX3_feed 3 = .ok (.lconst 0, 1) := by decide +kernel
theorem dX3_feed_4 : decode cX3_feed 4 = .ok (.ldc2_w 71, 3) := by decide +kernel
theorem dX3_feed_7 : decode cX3_feed 7 = .ok (.invokestatic 53, 3) := by decide +kernel
theorem dX3_feed_10 : decode cX3_feed 10 = .ok (.ifCond .ne 7, 3) := by decide +kernel
theorem dX3_feed_13 : decode cX3_feed 13 = .ok (.iconst 1, 1) := by decide +kernel
theorem dX3_feed_14 : decode cX3_feed 14 = .ok (.goto 18, 3) := by decide +kernel
theorem dX3_feed_17 : decode cX3_feed 17 = .ok (.aload_n 0, 1) := by decide +kernel
theorem dX3_feed_18 : decode cX3_feed 18 = .ok (.getfield 76, 3) := by decide +kernel
theorem dX3_feed_21 : decode cX3_feed 21 = .ok (.sipush 600, 3) := by decide +kernel
theorem dX3_feed_24 : decode cX3_feed 24 = .ok (.if_icmp .ne 7, 3) := by decide +kernel
theorem dX3_feed_27 : decode cX3_feed 27 = .ok (.iconst 2, 1) := by decide +kernel
theorem dX3_feed_28 : decode cX3_feed 28 = .ok (.goto 4, 3) := by decide +kernel
theorem dX3_feed_31 : decode cX3_feed 31 = .ok (.iconst 0, 1) := by decide +kernel
theorem dX3_feed_32 : decode cX3_feed 32 = .ok (.putfield 25, 3) := by decide +kernel
theorem dX3_feed_35 : decode cX3_feed 35 = .ok (.aload_n 0, 1) := by decide +kernel
theorem dX3_feed_36 : decode cX3_feed 36 = .ok (.getfield 25, 3) := by decide +kernel
theorem dX3_feed_39 : decode cX3_feed 39 = .ok (.ifCond .le 5, 3) := by decide +kernel
theorem dX3_feed_42 : decode cX3_feed 42 = .ok (.iconst 0, 1) := by decide +kernel
theorem dX3_feed_43 : decode cX3_feed 43 = .ok (.ireturn, 1) := by decide +kernel
theorem dX3_feed_44 : decode cX3_feed 44 = .ok (.aload_n 0, 1) := by decide +kernel
theorem dX3_feed_45 : decode cX3_feed 45 = .ok (.getfield 13, 3) := by decide +kernel
theorem dX3_feed_48 : decode cX3_feed 48 = .ok (.aload_n 0, 1) := by decide +kernel
theorem dX3_feed_49 : decode cX3_feed 49 = .ok (.getfield 76, 3) := by decide +kernel
theorem dX3_feed_52 : decode cX3_feed 52 = .ok (.iload_n 1, 1) := by decide +kernel
theorem dX3_feed_53 : decode cX3_feed 53 = .ok (.iastore, 1) := by decide +kernel
theorem dX3_feed_54 : decode cX3_feed 54 = .ok (.aload_n 0, 1) := by decide +kernel
theorem dX3_feed_55 : decode cX3_feed 55 = .ok (.dup, 1) := by decide +kernel
theorem dX3_feed_56 : decode cX3_feed 56 = .ok (.getfield 76, 3) := by decide +kernel
theorem dX3_feed_59 : decode cX3_feed 59 = .ok (.iconst 1, 1) := by decide +kernel
theorem dX3_feed_60 : decode cX3_feed 60 = .ok (.iadd, 1) := by decide +kernel
theorem dX3_feed_61 : decode cX3_feed 61 = .ok (.putfield 76, 3) := by decide +kernel
theorem dX3_feed_64 : decode cX3_feed 64 = .ok (.aload_n 0, 1) := by decide +kernel
theorem dX3_feed_65 : decode cX3_feed 65 = .ok (.getfield 76, 3) := by decide +kernel
theorem dX3_feed_68 : decode cX3_feed 68 = .ok (.ireturn, 1) := by decide +kernel
theorem dX3_pass_0 : decode cX3_pass 0 = .ok (.aload_n 0, 1) := by decide +kernel
theorem dX3_pass_1 : decode cX3_pass 1 = .ok (.getfield 28, 3) := by decide +kernel
theorem dX3_pass_4 : decode cX3_pass 4 = .ok (.bipush 8, 2) := by decide +kernel
theorem dX3_pass_6 : decode cX3_pass 6 = .ok (.idiv, 1) := by decide +kernel
theorem dX3_pass_7 : decode cX3_pass 7 = .ok (.istore_n 3, 1) := by decide +kernel
theorem dX3_pass_8 : decode cX3_pass 8 = .ok (.iload_n 2, 1) := by decide +kernel
theorem dX3_pass_9 : decode cX3_pass 9 = .ok (.iload_n 3, 1) := by decide +kernel
theorem dX3_pass_10 : decode cX3_pass 10 = .ok (.iload_n 1, 1) := by decide +kernel
theorem dX3_pass_11 : decode cX3_pass 11 = .ok (.isub, 1) := by decide +kernel
theorem dX3_pass_12 : decode cX3_pass 12 = .ok (.if_icmp .ge 7, 3) := by decide +kernel
theorem dX3_pass_15 : decode cX3_pass 15 = .ok (.iload_n 2, 1) := by decide +kernel
theorem dX3_pass_16 : decode cX3_pass 16 = .ok (.goto 6, 3) := by decide +kernel
theorem dX3_pass_19 : decode cX3_pass 19 = .ok (.iload_n 3, 1) := by decide +kernel
theorem dX3_pass_20 : decode cX3_pass 20 = .ok (.iload_n 1, 1) := by decide +kernel
theorem dX3_pass_21 : decode cX3_pass 21 = .ok (.isub, 1) := by decide +kernel
theorem dX3_pass_22 : decode cX3_pass 22 = .ok (.istore 4, 2) := by decide +kernel
theorem dX3_pass_24 : decode cX3_pass 24 = .ok (.aload_n 0, 1) := by decide +kernel
theorem dX3_pass_25 : decode cX3_pass 25 = .ok (.iload_n 1, 1) := by decide +kernel
theorem dX3_pass_26 : decode cX3_pass 26 = .ok (.i2l, 1) := by decide +kernel
theorem dX3_pass_27 : decode cX3_pass 27 = .ok (.lconst 0, 1) := by decide +kernel
theorem dX3_pass_28 : decode cX3_pass 28 = .ok (.iload_n 3, 1) := by decide +kernel
theorem dX3_pass_29 : decode cX3_pass 29 = .ok (.iconst 1, 1) := by decide +kernel
theorem dX3_pass_30 : decode cX3_pass 30 = .ok (.isub, 1) := by decide +kernel
theorem dX3_pass_31 : decode cX3_pass 31 = .ok (.i2l, 1) := by decide +kernel
theorem dX3_pass_32 : decode cX3_pass 32 = .ok (.invokestatic 53, 3) := by decide +kernel
theorem dX3_pass_35 : decode cX3_pass 35 = .ok (.ifCond .ne 7, 3) := by decide +kernel
theorem dX3_pass_38 : decode cX3_pass 38 = .ok (.iconst 1, 1) := by decide +kernel
theorem dX3_pass_39 : decode cX3_pass 39 = .ok (.goto 29, 3) := by decide +kernel
theorem dX3_pass_42 : decode cX3_pass 42 = .ok (.iload_n 2, 1) := by decide +kernel
theorem dX3_pass_43 : decode cX3_pass 43 = .ok (.ifCond .ge 7, 3) := by decide +kernel
theorem dX3_pass_46 : decode cX3_pass 46 = .ok (.iconst 2, 1) := by decide +kernel
theorem dX3_pass_47 : decode cX3_pass 47 = .ok (.goto 21, 3) := by decide +kernel
theorem dX3_pass_50 : decode cX3_pass 50 = .ok (.aload_n 0, 1) := by decide +kernel
theorem dX3_pass_51 : decode cX3_pass 51 = .ok (.getfield 76, 3) := by decide +kernel
theorem dX3_pass_54 : decode cX3_pass 54 = .ok (.iload 4, 2) := by decide +kernel
theorem dX3_pass_56 : decode cX3_pass 56 = .ok (.iadd, 1) := by decide +kernel
theorem dX3_pass_57 : decode cX3_pass 57 = .ok (.sipush 600, 3) := by decide +kernel
theorem dX3_pass_60 : decode cX3_pass 60 = .ok (.if_icmp .le 7, 3) := by decide +kernel
theorem dX3_pass_63 : decode cX3_pass 63 = .ok (.iconst 3, 1) := by decide +kernel
theorem dX3_pass_64 : decode cX3_pass 64 = .ok (.goto 4, 3) := by decide +kernel
theorem dX3_pass_67 : decode cX3_pass 67 = .ok (.iconst 0, 1) := by decide +kernel
theorem dX3_pass_68 : decode cX3_pass 68 = .ok (.putfield 25, 3) := by decide +kernel
theorem dX3_pass_71 : decode cX3_pass 71 = .ok (.aload_n 0, 1) := by decide +kernel
theorem dX3_pass_72 : decode cX3_pass 72 = .ok (.getfield 25, 3) := by decide +kernel
theorem dX3_pass_75 : decode cX3_pass 75 = .ok (.ifCond .le 5, 3) := by decide +kernel
theorem dX3_pass_78 : decode cX3_pass 78 = .ok (.iconst 0, 1) := by decide +kernel
theorem dX3_pass_79 : decode cX3_pass 79 = .ok (.ireturn, 1) := by decide +kernel
theorem dX3_pass_80 : decode cX3_pass 80 = .ok (.iconst 0, 1) := by decide +kernel
theorem dX3_pass_81 : decode cX3_pass 81 = .ok (.istore 5, 2) := by decide +kernel
theorem dX3_pass_83 : decode cX3_pass 83 = .ok (.iload 5, 2) := by decide +kernel
theorem dX3_pass_85 : decode cX3_pass 85 = .ok (.iload 4, 2) := by decide +kernel
theorem dX3_pass_87 : decode cX3_pass 87 = .ok (.if_icmp .ge 36, 3) := by decide +kernel
theorem dX3_pass_90 : decode cX3_pass 90 = .ok (.aload_n 0, 1) := by decide +kernel
theorem dX3_pass_91 : decode cX3_pass 91 = .ok (.getfield 13, 3) := by decide +kernel
theorem dX3_pass_94 : decode cX3_pass 94 = .ok (.aload_n 0, 1) := by decide +kernel
theorem dX3_pass_95 : decode cX3_pass 95 = .ok (.getfield 76, 3) := by decide +kernel
theorem dX3_pass_98 : decode cX3_pass 98 = .ok (.aload_n 0, 1) := by decide +kernel
theorem dX3_pass_99 : decode cX3_pass 99 = .ok (.iload_n 1, 1) := by decide +kernel
theorem dX3_pass_100 : decode cX3_pass 100 = .ok (.iload 5, 2) := by decide +kernel
theorem dX3_pass_102 : decode cX3_pass 102 = .ok (.iadd, 1) := by decide +kernel
theorem dX3_pass_103 : decode cX3_pass 103 = .ok (.invokevirtual 31, 3) := by decide +kernel
theorem dX3_pass_106 : decode cX3_pass 106 = .ok (.iastore, 1) := by decide +kernel
theorem dX3_pass_107 : decode cX3_pass 107 = .ok (.aload_n 0, 1) := by decide +kernel
