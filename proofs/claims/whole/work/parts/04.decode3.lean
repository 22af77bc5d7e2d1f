theorem dX2_patch_18 : decode cX2_patch 18 = .ok (.invokestatic 56, 3) := by decide +kernel
theorem dX2_patch_21 : decode cX2_patch 21 = .ok (.iload_n 1, 1) := by decide +kernel
theorem dX2_patch_22 : decode cX2_patch 22 = .ok (.ifCond .lt 16, 3) := by decide +kernel
theorem dX2_patch_25 : decode cX2_patch 25 = .ok (.iload_n 1, 1) := by decide +kernel
theorem dX2_patch_26 : decode cX2_patch 26 = .ok (.aload_n 0, 1) := by decide +kernel
theorem dX2_patch_27 : decode cX2_patch 27 = .ok (.getfield 43, 3) := by decide +kernel
theorem dX2_patch_30 : decode cX2_patch 30 = .ok (.getfield 66, 3) := by decide +kernel
theorem dX2_patch_33 : decode cX2_patch 33 = .ok (.iload_n 2, 1) := by decide +kernel
theorem dX2_patch_34 : decode cX2_patch 34 = .ok (.isub, 1) := by decide +kernel
theorem dX2_patch_35 : decode cX2_patch 35 = .ok (.if_icmp .le 13, 3) := by decide +kernel
theorem dX2_patch_38 : decode cX2_patch 38 = .ok (.new 99, 3) := by decide +kernel
theorem dX2_patch_41 : decode cX2_patch 41 = .ok (.dup, 1) := by decide +kernel
theorem dX2_patch_42 : decode cX2_patch 42 = .ok (.ldc 101, 2) := by decide +kernel
theorem dX2_patch_44 : decode cX2_patch 44 = .ok (.invokespecial 103, 3) := by decide +kernel
theorem dX2_patch_47 : decode cX2_patch 47 = .ok (.athrow, 1) := by decide +kernel
theorem dX2_patch_48 : decode cX2_patch 48 = .ok (.iconst 0, 1) := by decide +kernel
theorem dX2_patch_49 : decode cX2_patch 49 = .ok (.istore 4, 2) := by decide +kernel
theorem dX2_patch_51 : decode cX2_patch 51 = .ok (.iconst 0, 1) := by decide +kernel
theorem dX2_patch_52 : decode cX2_patch 52 = .ok (.istore 5, 2) := by decide +kernel
theorem dX2_patch_54 : decode cX2_patch 54 = .ok (.iload 5, 2) := by decide +kernel
theorem dX2_patch_56 : decode cX2_patch 56 = .ok (.iload_n 2, 1) := by decide +kernel
theorem dX2_patch_57 : decode cX2_patch 57 = .ok (.if_icmp .ge 54, 3) := by decide +kernel
theorem dX2_patch_60 : decode cX2_patch 60 = .ok (.aload_n 0, 1) := by decide +kernel
theorem dX2_patch_61 : decode cX2_patch 61 = .ok (.iload 5, 2) := by decide +kernel
theorem dX2_patch_63 : decode cX2_patch 63 = .ok (.iload_n 2, 1) := by decide +kernel
theorem dX2_patch_64 : decode cX2_patch 64 = .ok (.invokevirtual 69, 3) := by decide +kernel
theorem dX2_patch_67 : decode cX2_patch 67 = .ok (.istore 6, 2) := by decide +kernel
theorem dX2_patch_69 : decode cX2_patch 69 = .ok (.iload 4, 2) := by decide +kernel
theorem dX2_patch_71 : decode cX2_patch 71 = .ok (.aload_n 0, 1) := by decide +kernel
theorem dX2_patch_72 : decode cX2_patch 72 = .ok (.getfield 34, 3) := by decide +kernel
theorem dX2_patch_75 : decode cX2_patch 75 = .ok (.iload_n 1, 1) := by decide +kernel
theorem dX2_patch_76 : decode cX2_patch 76 = .ok (.iload 5, 2) := by decide +kernel
theorem dX2_patch_78 : decode cX2_patch 78 = .ok (.iadd, 1) := by decide +kernel
theorem dX2_patch_79 : decode cX2_patch 79 = .ok (.invokevirtual 104, 3) := by decide +kernel
theorem dX2_patch_82 : decode cX2_patch 82 = .ok (.iload 6, 2) := by decide +kernel
theorem dX2_patch_84 : decode cX2_patch 84 = .ok (.ishl, 1) := by decide +kernel
theorem dX2_patch_85 : decode cX2_patch 85 = .ok (.ior, 1) := by decide +kernel
theorem dX2_patch_86 : decode cX2_patch 86 = .ok (.istore 4, 2) := by decide +kernel
theorem dX2_patch_88 : decode cX2_patch 88 = .ok (.aload_n 0, 1) := by decide +kernel
theorem dX2_patch_89 : decode cX2_patch 89 = .ok (.getfield 34, 3) := by decide +kernel
theorem dX2_patch_92 : decode cX2_patch 92 = .ok (.iload_n 1, 1) := by decide +kernel
theorem dX2_patch_93 : decode cX2_patch 93 = .ok (.iload 5, 2) := by decide +kernel
theorem dX2_patch_95 : decode cX2_patch 95 = .ok (.iadd, 1) := by decide +kernel
theorem dX2_patch_96 : decode cX2_patch 96 = .ok (.iload_n 3, 1) := by decide +kernel
theorem dX2_patch_97 : decode cX2_patch 97 = .ok (.iload 6, 2) := by decide +kernel
theorem dX2_patch_99 : decode cX2_patch 99 = .ok (.iushr, 1) := by decide +kernel
theorem dX2_patch_100 : decode cX2_patch 100 = .ok (.iconst 1, 1) := by decide +kernel
theorem dX2_patch_101 : decode cX2_patch 101 = .ok (.iand, 1) := by decide +kernel
theorem dX2_patch_102 : decode cX2_patch 102 = .ok (.invokevirtual 108, 3) := by decide +kernel
theorem dX2_patch_105 : decode cX2_patch 105 = .ok (.iinc 5 1, 3) := by decide +kernel
theorem dX2_patch_108 : decode cX2_patch 108 = .ok (.goto (-54), 3) := by decide +kernel
theorem dX2_patch_111 : decode cX2_patch 111 = .ok (.iload 4, 2) := by decide +kernel
theorem dX2_patch_113 : decode cX2_patch 113 = .ok (.ireturn, 1) := by decide +kernel
theorem dL_byteAt_0 : decode cL_byteAt 0 = .ok (.aload_n 2, 1) := by decide +kernel
theorem dL_byteAt_1 : decode cL_byteAt 1 = .ok (.iconst 0, 1) := by decide +kernel
theorem dL_byteAt_2 : decode cL_byteAt 2 = .ok (.aload_n 0, 1) := by decide +kernel
theorem dL_byteAt_3 : decode cL_byteAt 3 = .ok (.iload_n 1, 1) := by decide +kernel
theorem dL_byteAt_4 : decode cL_byteAt 4 = .ok (.invokevirtual 33, 3) := by decide +kernel
theorem dL_byteAt_7 : decode cL_byteAt 7 = .ok (.i2l, 1) := by decide +kernel
theorem dL_byteAt_8 : decode cL_byteAt 8 = .ok (.lastore, 1) := by decide +kernel
theorem dL_byteAt_9 : decode cL_byteAt 9 = .ok (.goto 6, 3) := by decide +kernel
theorem dL_byteAt_12 : decode cL_byteAt 12 = .ok (.astore_n 3, 1) := by decide +kernel
theorem dL_byteAt_13 : decode cL_byteAt 13 = .ok (.iconst 1, 1) := by decide +kernel
theorem dL_byteAt_14 : decode cL_byteAt 14 = .ok (.ireturn, 1) := by decide +kernel
theorem dL_byteAt_15 : decode cL_byteAt 15 = .ok (.iconst 0, 1) := by decide +kernel
theorem dL_byteAt_16 : decode cL_byteAt 16 = .ok (.ireturn, 1) := by decide +kernel
theorem dX2_byteAt_0 : decode cX2_byteAt 0 = .ok (.iload_n 1, 1) := by decide +kernel
theorem dX2_byteAt_1 : decode cX2_byteAt 1 = .ok (.ifCond .lt 14, 3) := by decide +kernel
theorem dX2_byteAt_4 : decode cX2_byteAt 4 = .ok (.iload_n 1, 1) := by decide +kernel
theorem dX2_byteAt_5 : decode cX2_byteAt 5 = .ok (.aload_n 0, 1) := by decide +kernel
theorem dX2_byteAt_6 : decode cX2_byteAt 6 = .ok (.getfield 34, 3) := by decide +kernel
theorem dX2_byteAt_9 : decode cX2_byteAt 9 = .ok (.getfield 112, 3) := by decide +kernel
theorem dX2_byteAt_12 : decode cX2_byteAt 12 = .ok (.if_icmp .lt 13, 3) := by decide +kernel
theorem dX2_byteAt_15 : decode cX2_byteAt 15 = .ok (.new 99, 3) := by decide +kernel
theorem dX2_byteAt_18 : decode cX2_byteAt 18 = .ok (.dup, 1) := by decide +kernel
theorem dX2_byteAt_19 : decode cX2_byteAt 19 = .ok (.ldc 115, 2) := by decide +kernel
theorem dX2_byteAt_21 : decode cX2_byteAt 21 = .ok (.invokespecial 103, 3) := by decide +kernel
theorem dX2_byteAt_24 : decode cX2_byteAt 24 = .ok (.athrow, 1) := by decide +kernel
theorem dX2_byteAt_25 : decode cX2_byteAt 25 = .ok (.aload_n 0, 1) := by decide +kernel
theorem dX2_byteAt_26 : decode cX2_byteAt 26 = .ok (.getfield 34, 3) := by decide +kernel
theorem dX2_byteAt_29 : decode cX2_byteAt 29 = .ok (.iload_n 1, 1) := by decide +kernel
theorem dX2_byteAt_30 : decode cX2_byteAt 30 = .ok (.invokevirtual 117, 3) := by decide +kernel
theorem dX2_byteAt_33 : decode cX2_byteAt 33 = .ok (.ireturn, 1) := by decide +kernel
theorem dL_feed_0 : decode cL_feed 0 = .ok (.aload_n 2, 1) := by decide +kernel
theorem dL_feed_1 : decode cL_feed 1 = .ok (.iconst 0, 1) := by decide +kernel
theorem dL_feed_2 : decode cL_feed 2 = .ok (.aload_n 0, 1) := by decide +kernel
theorem dL_feed_3 : decode cL_feed 3 = .ok (.iload_n 1, 1) := by decide +kernel
theorem dL_feed_4 : decode cL_feed 4 = .ok (.invokevirtual 36, 3) := by decide +kernel
theorem dL_feed_7 : decode cL_feed 7 = .ok (.i2l, 1) := by decide +kernel
theorem dL_feed_8 : decode cL_feed 8 = .ok (.lastore, 1) := by decide +kernel
theorem dL_feed_9 : decode cL_feed 9 = .ok (.goto 9, 3) := by decide +kernel
theorem dL_feed_12 : decode cL_feed 12 = .ok (.astore_n 3, 1) := by decide +kernel
theorem dL_feed_13 : decode cL_feed 13 = .ok (.iconst 1, 1) := by decide +kernel
theorem dL_feed_14 : decode cL_feed 14 = .ok (.ireturn, 1) := by decide +kernel
theorem dL_feed_15 : decode cL_feed 15 = .ok (.astore_n 3, 1) := by decide +kernel
theorem dL_feed_16 : decode cL_feed 16 = .ok (.iconst 2, 1) := by decide +kernel
theorem dL_feed_17 : decode cL_feed 17 = .ok (.ireturn, 1) := by decide +kernel
theorem dL_feed_18 : decode cL_feed 18 = .ok (.iconst 0, 1) := by decide +kernel
theorem dL_feed_19 : decode cL_feed 19 = .ok (.ireturn, 1) := by decide +kernel
theorem dX2_feed_0 : decode cX2_feed 0 = .ok (.iload_n 1, 1) := by decide +kernel
theorem dX2_feed_1 : decode cX2_feed 1 = .ok (.ifCond .lt 10, 3) := by decide +kernel
theorem dX2_feed_4 : decode cX2_feed 4 = .ok (.iload_n 1, 1) := by decide +kernel
theorem dX2_feed_5 : decode cX2_feed 5 = .ok (.sipush 255, 3) := by decide +kernel
theorem dX2_feed_8 : decode cX2_feed 8 = .ok (.if_icmp .le 13, 3) := by decide +kernel
theorem dX2_feed_11 : decode cX2_feed 11 = .ok (.new 86, 3) := by decide +kernel
theorem dX2_feed_14 : decode cX2_feed 14 = .ok (.dup, 1) := by decide +kernel
theorem dX2_feed_15 : decode cX2_feed 15 = .ok (.ldc 120, 2) := by decide +kernel
theorem dX2_feed_17 : decode cX2_feed 17 = .ok (.invokespecial 90, 3) := by decide +kernel
theorem dX2_feed_20 : decode cX2_feed 20 = .ok (.athrow, 1) := by decide +kernel
theorem dX2_feed_21 : decode cX2_feed 21 = .ok (.aload_n 0, 1) := by decide +kernel
theorem dX2_feed_22 : decode cX2_feed 22 = .ok (.iconst 1, 1) := by decide +kernel
theorem dX2_feed_23 : decode cX2_feed 23 = .ok (.invokevirtual 122, 3) := by decide +kernel
theorem dX2_feed_26 : decode cX2_feed 26 = .ok (.aload_n 0, 1) := by decide +kernel
theorem dX2_feed_27 : decode cX2_feed 27 = .ok (.getfield 47, 3) := by decide +kernel
theorem dX2_feed_30 : decode cX2_feed 30 = .ok (.iload_n 1, 1) := by decide +kernel
theorem dX2_feed_31 : decode cX2_feed 31 = .ok (.invokevirtual 91, 3) := by decide +kernel
theorem dX2_feed_34 : decode cX2_feed 34 = .ok (.aload_n 0, 1) := by decide +kernel
theorem dX2_feed_35 : decode cX2_feed 35 = .ok (.getfield 47, 3) := by decide +kernel
theorem dX2_feed_38 : decode cX2_feed 38 = .ok (.getfield 112, 3) := by decide +kernel
theorem dX2_feed_41 : decode cX2_feed 41 = .ok (.ireturn, 1) := by decide +kernel
theorem dX2_refuseMoreBytes_0 : decode cX2_refuseMoreBytes 0 = .ok (.aload_n 0, 1) := by decide +kernel
theorem dX2_refuseMoreBytes_1 : decode cX2_refuseMoreBytes 1 = .ok (.getfield 47, 3) := by decide +kernel
theorem dX2_refuseMoreBytes_4 : decode cX2_refuseMoreBytes 4 = .ok (.getfield 112, 3) := by decide +kernel
theorem dX2_refuseMoreBytes_7 : decode cX2_refuseMoreBytes 7 = .ok (.iload_n 1, 1) := by decide +kernel
theorem dX2_refuseMoreBytes_8 : decode cX2_refuseMoreBytes 8 = .ok (.iadd, 1) := by decide +kernel
theorem dX2_refuseMoreBytes_9 : decode cX2_refuseMoreBytes 9 = .ok (.sipush 600, 3) := by decide +kernel
theorem dX2_refuseMoreBytes_12 : decode cX2_refuseMoreBytes 12 = .ok (.if_icmp .le 13, 3) := by decide +kernel
theorem dX2_refuseMoreBytes_15 : decode cX2_refuseMoreBytes 15 = .ok (.new 184, 3) := by decide +kernel
theorem dX2_refuseMoreBytes_18 : decode cX2_refuseMoreBytes 18 = .ok (.dup, 1) := by decide +kernel
theorem dX2_refuseMoreBytes_19 : decode cX2_refuseMoreBytes 19 = .ok (.ldc 189, 2) := by decide +kernel
theorem dX2_refuseMoreBytes_21 : decode cX2_refuseMoreBytes 21 = .ok (.invokespecial 188, 3) := by decide +kernel
theorem dX2_refuseMoreBytes_24 : decode cX2_refuseMoreBytes 24 = .ok (.athrow, 1) := by decide +kernel
theorem dX2_refuseMoreBytes_25 : decode cX2_refuseMoreBytes 25 = .ok (.return_, 1) := by decide +kernel
theorem dL_pass_0 : decode cL_pass 0 = .ok (.aload_n 3, 1) := by decide +kernel
theorem dL_pass_1 : decode cL_pass 1 = .ok (.iconst 0, 1) := by decide +kernel
theorem dL_pass_2 : decode cL_pass 2 = .ok (.aload_n 0, 1) := by decide +kernel
theorem dL_pass_3 : decode cL_pass 3 = .ok (.iload_n 1, 1) := by decide +kernel
theorem dL_pass_4 : decode cL_pass 4 = .ok (.iload_n 2, 1) := by decide +kernel
theorem dL_pass_5 : decode cL_pass 5 = .ok (.invokevirtual 39, 3) := by decide +kernel
theorem dL_pass_8 : decode cL_pass 8 = .ok (.i2l, 1) := by decide +kernel
theorem dL_pass_9 : decode cL_pass 9 = .ok (.lastore, 1) := by decide +kernel
theorem dL_pass_10 : decode cL_pass 10 = .ok (.goto 15, 3) := by decide +kernel
theorem dL_pass_13 : decode cL_pass 13 = .ok (.astore 4, 2) := by decide +kernel
theorem dL_pass_15 : decode cL_pass 15 = .ok (.iconst 1, 1) := by decide +kernel
theorem dL_pass_16 : decode cL_pass 16 = .ok (.ireturn, 1) := by decide +kernel
theorem dL_pass_17 : decode cL_pass 17 = .ok (.astore 4, 2) := by decide +kernel
theorem dL_pass_19 : decode cL_pass 19 = .ok (.iconst 2, 1) := by decide +kernel
theorem dL_pass_20 : decode cL_pass 20 = .ok (.ireturn, 1) := by decide +kernel
theorem dL_pass_21 : decode cL_pass 21 = .ok (.astore 4, 2) := by decide +kernel
theorem dL_pass_23 : decode cL_pass 23 = .ok (.iconst 3, 1) := by decide +kernel
theorem dL_pass_24 : decode cL_pass 24 = .ok (.ireturn, 1) := by decide +kernel
theorem dL_pass_25 : decode cL_pass 25 = .ok (.iconst 0, 1) := by decide +kernel
theorem dL_pass_26 : decode cL_pass 26 = .ok (.ireturn, 1) := by decide +kernel
theorem dX2_pass_0 : decode cX2_pass 0 = .ok (.aload_n 0, 1) := by decide +kernel
theorem dX2_pass_1 : decode cX2_pass 1 = .ok (.getfield 43, 3) := by decide +kernel
theorem dX2_pass_4 : decode cX2_pass 4 = .ok (.getfield 66, 3) := by decide +kernel
theorem dX2_pass_7 : decode cX2_pass 7 = .ok (.iconst 3, 1) := by decide +kernel
theorem dX2_pass_8 : decode cX2_pass 8 = .ok (.ishr, 1) := by decide +kernel
theorem dX2_pass_9 : decode cX2_pass 9 = .ok (.istore_n 3, 1) := by decide +kernel
theorem dX2_pass_10 : decode cX2_pass 10 = .ok (.iload_n 1, 1) := by decide +kernel
theorem dX2_pass_11 : decode cX2_pass 11 = .ok (.ifCond .lt 8, 3) := by decide +kernel
theorem dX2_pass_14 : decode cX2_pass 14 = .ok (.iload_n 1, 1) := by decide +kernel
theorem dX2_pass_15 : decode cX2_pass 15 = .ok (.iload_n 3, 1) := by decide +kernel
theorem dX2_pass_16 : decode cX2_pass 16 = .ok (.if_icmp .lt 13, 3) := by decide +kernel
theorem dX2_pass_19 : decode cX2_pass 19 = .ok (.new 99, 3) := by decide +kernel
theorem dX2_pass_22 : decode cX2_pass 22 = .ok (.dup, 1) := by decide +kernel
theorem dX2_pass_23 : decode cX2_pass 23 = .ok (.ldc 125, 2) := by decide +kernel
theorem dX2_pass_25 : decode cX2_pass 25 = .ok (.invokespecial 103, 3) := by decide +kernel
theorem dX2_pass_28 : decode cX2_pass 28 = .ok (.athrow, 1) := by decide +kernel
theorem dX2_pass_29 : decode cX2_pass 29 = .ok (.iload_n 2, 1) := by decide +kernel
theorem dX2_pass_30 : decode cX2_pass 30 = .ok (.ifCond .ge 13, 3) := by decide +kernel
theorem dX2_pass_33 : decode cX2_pass 33 = .ok (.new 86, 3) := by decide +kernel
theorem dX2_pass_36 : decode cX2_pass 36 = .ok (.dup, 1) := by decide +kernel
theorem dX2_pass_37 : decode cX2_pass 37 = .ok (.ldc 127, 2) := by decide +kernel
theorem dX2_pass_39 : decode cX2_pass 39 = .ok (.invokespecial 90, 3) := by decide +kernel
theorem dX2_pass_42 : decode cX2_pass 42 = .ok (.athrow, 1) := by decide +kernel
theorem dX2_pass_43 : decode cX2_pass 43 = .ok (.iload_n 2, 1) := by decide +kernel
theorem dX2_pass_44 : decode cX2_pass 44 = .ok (.iload_n 3, 1) := by decide +kernel
theorem dX2_pass_45 : decode cX2_pass 45 = .ok (.iload_n 1, 1) := by decide +kernel
theorem dX2_pass_46 : decode cX2_pass 46 = .ok (.isub, 1) := by decide +kernel
theorem dX2_pass_47 : decode cX2_pass 47 = .ok (.invokestatic 9, 3) := by decide +kernel
theorem dX2_pass_50 : decode cX2_pass 50 = .ok (.istore 4, 2) := by decide +kernel
theorem dX2_pass_52 : decode cX2_pass 52 = .ok (.aload_n 0, 1) := by decide +kernel
theorem dX2_pass_53 : decode cX2_pass 53 = .ok (.iload 4, 2) := by decide +kernel
theorem dX2_pass_55 : decode cX2_pass 55 = .ok (.invokevirtual 122, 3) := by decide +kernel
theorem dX2_pass_58 : decode cX2_pass 58 = .ok (.iconst 0, 1) := by decide +kernel
theorem dX2_pass_59 : decode cX2_pass 59 = .ok (.istore 5, 2) := by decide +kernel
theorem dX2_pass_61 : decode cX2_pass 61 = .ok (.iload 5, 2) := by decide +kernel
theorem dX2_pass_63 : decode cX2_pass 63 = .ok (.iload 4, 2) := by decide +kernel
theorem dX2_pass_65 : decode cX2_pass 65 = .ok (.if_icmp .ge 27, 3) := by decide +kernel
theorem dX2_pass_68 : decode cX2_pass 68 = .ok (.aload_n 0, 1) := by decide +kernel
theorem dX2_pass_69 : decode cX2_pass 69 = .ok (.getfield 47, 3) := by decide +kernel
theorem dX2_pass_72 : decode cX2_pass 72 = .ok (.aload_n 0, 1) := by decide +kernel
theorem dX2_pass_73 : decode cX2_pass 73 = .ok (.getfield 34, 3) := by decide +kernel
theorem dX2_pass_76 : decode cX2_pass 76 = .ok (.iload_n 1, 1) := by decide +kernel
theorem dX2_pass_77 : decode cX2_pass 77 = .ok (.iload 5, 2) := by decide +kernel
theorem dX2_pass_79 : decode cX2_pass 79 = .ok (.iadd, 1) := by decide +kernel
theorem dX2_pass_80 : decode cX2_pass 80 = .ok (.invokevirtual 117, 3) := by decide +kernel
theorem dX2_pass_83 : decode cX2_pass 83 = .ok (.invokevirtual 91, 3) := by decide +kernel
theorem dX2_pass_86 : decode cX2_pass 86 = .ok (.iinc 5 1, 3) := by decide +kernel
theorem dX2_pass_89 : decode cX2_pass 89 = .ok (.goto (-28), 3) := by decide +kernel
theorem dX2_pass_92 : decode cX2_pass 92 = .ok (.iload 4, 2) := by decide +kernel
theorem dX2_pass_94 : decode cX2_pass 94 = .ok (.ireturn, 1) := by decide +kernel
theorem dL_get_0 : decode cL_get 0 = .ok (.aload_n 2, 1) := by decide +kernel
theorem dL_get_1 : decode cL_get 1 = .ok (.iconst 0, 1) := by decide +kernel
theorem dL_get_2 : decode cL_get 2 = .ok (.aload_n 0, 1) := by decide +kernel
theorem dL_get_3 : decode cL_get 3 = .ok (.iload_n 1, 1) := by decide +kernel
theorem dL_get_4 : decode cL_get 4 = .ok (.invokevirtual 42, 3) := by decide +kernel
theorem dL_get_7 : decode cL_get 7 = .ok (.lastore, 1) := by decide +kernel
theorem dL_get_8 : decode cL_get 8 = .ok (.goto 6, 3) := by decide +kernel
theorem dL_get_11 : decode cL_get 11 = .ok (.astore_n 3, 1) := by decide +kernel
theorem dL_get_12 : decode cL_get 12 = .ok (.iconst 1, 1) := by decide +kernel
theorem dL_get_13 : decode cL_get 13 = .ok (.ireturn, 1) := by decide +kernel
theorem dL_get_14 : decode cL_get 14 = .ok (.iconst 0, 1) := by decide +kernel
theorem dL_get_15 : decode cL_get 15 = .ok (.ireturn, 1) := by decide +kernel
theorem dX2_get_0 : decode cX2_get 0 = .ok (.iload_n 1, 1) := by decide +kernel
theorem dX2_get_1 : decode cX2_get 1 = .ok (.invokestatic 56, 3) := by decide +kernel
theorem dX2_get_4 : decode cX2_get 4 = .ok (.aload_n 0, 1) := by decide +kernel
theorem dX2_get_5 : decode cX2_get 5 = .ok (.getfield 53, 3) := by decide +kernel
theorem dX2_get_8 : decode cX2_get 8 = .ok (.ifCond .eq 7, 3) := by decide +kernel
theorem dX2_get_11 : decode cX2_get 11 = .ok (.ldc2_w 129, 3) := by decide +kernel
theorem dX2_get_14 : decode cX2_get 14 = .ok (.lreturn, 1) := by decide +kernel
theorem dX2_get_15 : decode cX2_get 15 = .ok (.aload_n 0, 1) := by decide +kernel
theorem dX2_get_16 : decode cX2_get 16 = .ok (.getfield 50, 3) := by decide +kernel
theorem dX2_get_19 : decode cX2_get 19 = .ok (.getfield 66, 3) := by decide +kernel
theorem dX2_get_22 : decode cX2_get 22 = .ok (.istore_n 2, 1) := by decide +kernel
theorem dX2_get_23 : decode cX2_get 23 = .ok (.aload_n 0, 1) := by decide +kernel
theorem dX2_get_24 : decode cX2_get 24 = .ok (.getfield 50, 3) := by decide +kernel
theorem dX2_get_27 : decode cX2_get 27 = .ok (.getfield 131, 3) := by decide +kernel
theorem dX2_get_30 : decode cX2_get 30 = .ok (.istore_n 3, 1) := by decide +kernel
theorem dX2_get_31 : decode cX2_get 31 = .ok (.aload_n 0, 1) := by decide +kernel
theorem dX2_get_32 : decode cX2_get 32 = .ok (.getfield 50, 3) := by decide +kernel
theorem dX2_get_35 : decode cX2_get 35 = .ok (.getfield 134, 3) := by decide +kernel
theorem dX2_get_38 : decode cX2_get 38 = .ok (.istore 4, 2) := by decide +kernel
theorem dX2_get_40 : decode cX2_get 40 = .ok (.lconst 0, 1) := by decide +kernel
theorem dX2_get_41 : decode cX2_get 41 = .ok (.lstore 5, 2) := by decide +kernel
theorem dX2_get_43 : decode cX2_get 43 = .ok (.iconst 0, 1) := by decide +kernel
theorem dX2_get_44 : decode cX2_get 44 = .ok (.istore 7, 2) := by decide +kernel
theorem dX2_get_46 : decode cX2_get 46 = .ok (.iload 7, 2) := by decide +kernel
theorem dX2_get_48 : decode cX2_get 48 = .ok (.iload_n 1, 1) := by decide +kernel
theorem dX2_get_49 : decode cX2_get 49 = .ok (.if_icmp .ge 67, 3) := by decide +kernel
theorem dX2_get_52 : decode cX2_get 52 = .ok (.aload_n 0, 1) := by decide +kernel
theorem dX2_get_53 : decode cX2_get 53 = .ok (.invokevirtual 137, 3) := by decide +kernel
theorem dX2_get_56 : decode cX2_get 56 = .ok (.istore 8, 2) := by decide +kernel
theorem dX2_get_58 : decode cX2_get 58 = .ok (.iload 8, 2) := by decide +kernel
theorem dX2_get_60 : decode cX2_get 60 = .ok (.ifCond .ge 34, 3) := by decide +kernel
theorem dX2_get_63 : decode cX2_get 63 = .ok (.aload_n 0, 1) := by decide +kernel
theorem dX2_get_64 : decode cX2_get 64 = .ok (.getfield 50, 3) := by decide +kernel
theorem dX2_get_67 : decode cX2_get 67 = .ok (.iload_n 2, 1) := by decide +kernel
theorem dX2_get_68 : decode cX2_get 68 = .ok (.iload_n 3, 1) := by decide +kernel
theorem dX2_get_69 : decode cX2_get 69 = .ok (.iload 4, 2) := by decide +kernel
theorem dX2_get_71 : decode cX2_get 71 = .ok (.invokevirtual 140, 3) := by decide +kernel
theorem dX2_get_74 : decode cX2_get 74 = .ok (.aload_n 0, 1) := by decide +kernel
theorem dX2_get_75 : decode cX2_get 75 = .ok (.iload 8, 2) := by decide +kernel
theorem dX2_get_77 : decode cX2_get 77 = .ok (.bipush (-3), 2) := by decide +kernel
theorem dX2_get_79 : decode cX2_get 79 = .ok (.if_icmp .ne 7, 3) := by decide +kernel
theorem dX2_get_82 : decode cX2_get 82 = .ok (.iconst 1, 1) := by decide +kernel
theorem dX2_get_83 : decode cX2_get 83 = .ok (.goto 4, 3) := by decide +kernel
theorem dX2_get_86 : decode cX2_get 86 = .ok (.iconst 0, 1) := by decide +kernel
theorem dX2_get_87 : decode cX2_get 87 = .ok (.putfield 53, 3) := by decide +kernel
theorem dX2_get_90 : decode cX2_get 90 = .ok (.iload 8, 2) := by decide +kernel
theorem dX2_get_92 : decode cX2_get 92 = .ok (.i2l, 1) := by decide +kernel
theorem dX2_get_93 : decode cX2_get 93 = .ok (.lreturn, 1) := by decide +kernel
theorem dX2_get_94 : decode cX2_get 94 = .ok (.lload 5, 2) := by decide +kernel
theorem dX2_get_96 : decode cX2_get 96 = .ok (.iload 8, 2) := by decide +kernel
theorem dX2_get_98 : decode cX2_get 98 = .ok (.i2l, 1) := by decide +kernel
theorem dX2_get_99 : decode cX2_get 99 = .ok (.aload_n 0, 1) := by decide +kernel
theorem dX2_get_100 : decode cX2_get 100 = .ok (.iload 7, 2) := by decide +kernel
theorem dX2_get_102 : decode cX2_get 102 = .ok (.iload_n 1, 1) := by decide +kernel
theorem dX2_get_103 : decode cX2_get 103 = .ok (.invokevirtual 69, 3) := by decide +kernel
theorem dX2_get_106 : decode cX2_get 106 = .ok (.lshl, 1) := by decide +kernel
theorem dX2_get_107 : decode cX2_get 107 = .ok (.lor, 1) := by decide +kernel
theorem dX2_get_108 : decode cX2_get 108 = .ok (.lstore 5, 2) := by decide +kernel
theorem dX2_get_110 : decode cX2_get 110 = .ok (.iinc 7 1, 3) := by decide +kernel
theorem dX2_get_113 : decode cX2_get 113 = .ok (.goto (-67), 3) := by decide +kernel
theorem dX2_get_116 : decode cX2_get 116 = .ok (.lload 5, 2) := by decide +kernel
theorem dX2_get_118 : decode cX2_get 118 = .ok (.lreturn, 1) := by decide +kernel
theorem dX2_readBit_0 : decode cX2_readBit 0 = .ok (.aload_n 0, 1) := by decide +kernel
theorem dX2_readBit_1 : decode cX2_readBit 1 = .ok (.invokevirtual 191, 3) := by decide +kernel
theorem dX2_readBit_4 : decode cX2_readBit 4 = .ok (.istore_n 1, 1) := by decide +kernel
theorem dX2_readBit_5 : decode cX2_readBit 5 = .ok (.iload_n 1, 1) := by decide +kernel
theorem dX2_readBit_6 : decode cX2_readBit 6 = .ok (.ifCond .ne 8, 3) := by decide +kernel
theorem dX2_readBit_9 : decode cX2_readBit 9 = .ok (.aload_n 0, 1) := by decide +kernel
theorem dX2_readBit_10 : decode cX2_readBit 10 = .ok (.invokevirtual 194, 3) := by decide +kernel
theorem dX2_readBit_13 : decode cX2_readBit 13 = .ok (.istore_n 1, 1) := by decide +kernel
theorem dX2_readBit_14 : decode cX2_readBit 14 = .ok (.iload_n 1, 1) := by decide +kernel
theorem dX2_readBit_15 : decode cX2_readBit 15 = .ok (.ifCond .eq 5, 3) := by decide +kernel
theorem dX2_readBit_18 : decode cX2_readBit 18 = .ok (.iload_n 1, 1) := by decide +kernel
theorem dX2_readBit_19 : decode cX2_readBit 19 = .ok (.ireturn, 1) := by decide +kernel
theorem dX2_readBit_20 : decode cX2_readBit 20 = .ok (.aload_n 0, 1) := by decide +kernel
theorem dX2_readBit_21 : decode cX2_readBit 21 = .ok (.getfield 47, 3) := by decide +kernel
theorem dX2_readBit_24 : decode cX2_readBit 24 = .ok (.aload_n 0, 1) := by decide +kernel
theorem dX2_readBit_25 : decode cX2_readBit 25 = .ok (.getfield 50, 3) := by decide +kernel
theorem dX2_readBit_28 : decode cX2_readBit 28 = .ok (.getfield 66, 3) := by decide +kernel
theorem dX2_readBit_31 : decode cX2_readBit 31 = .ok (.invokevirtual 104, 3) := by decide +kernel
theorem dX2_readBit_34 : decode cX2_readBit 34 = .ok (.istore_n 2, 1) := by decide +kernel
theorem dX2_readBit_35 : decode cX2_readBit 35 = .ok (.aload_n 0, 1) := by decide +kernel
theorem dX2_readBit_36 : decode cX2_readBit 36 = .ok (.getfield 50, 3) := by decide +kernel
theorem dX2_readBit_39 : decode cX2_readBit 39 = .ok (.iload_n 2, 1) := by decide +kernel
theorem dX2_readBit_40 : decode cX2_readBit 40 = .ok (.invokevirtual 154, 3) := by decide +kernel
theorem dX2_readBit_43 : decode cX2_readBit 43 = .ok (.aload_n 0, 1) := by decide +kernel
theorem dX2_readBit_44 : decode cX2_readBit 44 = .ok (.getfield 26, 3) := by decide +kernel
theorem dX2_readBit_47 : decode cX2_readBit 47 = .ok (.ifCond .eq 8, 3) := by decide +kernel
theorem dX2_readBit_50 : decode cX2_readBit 50 = .ok (.aload_n 0, 1) := by decide +kernel
theorem dX2_readBit_51 : decode cX2_readBit 51 = .ok (.invokevirtual 194, 3) := by decide +kernel
theorem dX2_readBit_54 : decode cX2_readBit 54 = .ok (.istore_n 1, 1) := by decide +kernel
theorem dX2_readBit_55 : decode cX2_readBit 55 = .ok (.iload_n 1, 1) := by decide +kernel
theorem dX2_readBit_56 : decode cX2_readBit 56 = .ok (.ifCond .ne 7, 3) := by decide +kernel
theorem dX2_readBit_59 : decode cX2_readBit 59 = .ok (.iload_n 2, 1) := by decide +kernel
theorem dX2_readBit_60 : decode cX2_readBit 60 = .ok (.goto 4, 3) := by decide +kernel
theorem dX2_readBit_63 : decode cX2_readBit 63 = .ok (.iload_n 1, 1) := by decide +kernel
theorem dX2_readBit_64 : decode cX2_readBit 64 = .ok (.ireturn, 1) := by decide +kernel
theorem dX2_meetHere_0 : decode cX2_meetHere 0 = .ok (.aload_n 0, 1) := by decide +kernel
theorem dX2_meetHere_1 : decode cX2_meetHere 1 = .ok (.getfield 50, 3) := by decide +kernel
theorem dX2_meetHere_4 : decode cX2_meetHere 4 = .ok (.invokevirtual 197, 3) := by decide +kernel
theorem dX2_meetHere_7 : decode cX2_meetHere 7 = .ok (.ifCond .ne 5, 3) := by decide +kernel
theorem dX2_meetHere_10 : decode cX2_meetHere 10 = .ok (.iconst (-1), 1) := by decide +kernel
theorem dX2_meetHere_11 : decode cX2_meetHere 11 = .ok (.ireturn, 1) := by decide +kernel
theorem dX2_meetHere_12 : decode cX2_meetHere 12 = .ok (.aload_n 0, 1) := by decide +kernel
theorem dX2_meetHere_13 : decode cX2_meetHere 13 = .ok (.getfield 50, 3) := by decide +kernel
theorem dX2_meetHere_16 : decode cX2_meetHere 16 = .ok (.getfield 66, 3) := by decide +kernel
theorem dX2_meetHere_19 : decode cX2_meetHere 19 = .ok (.iconst 3, 1) := by decide +kernel
theorem dX2_meetHere_20 : decode cX2_meetHere 20 = .ok (.ishr, 1) := by decide +kernel
theorem dX2_meetHere_21 : decode cX2_meetHere 21 = .ok (.istore_n 1, 1) := by decide +kernel
theorem dX2_meetHere_22 : decode cX2_meetHere 22 = .ok (.aload_n 0, 1) := by decide +kernel
theorem dX2_meetHere_23 : decode cX2_meetHere 23 = .ok (.getfield 18, 3) := by decide +kernel
theorem dX2_meetHere_26 : decode cX2_meetHere 26 = .ok (.iconst 1, 1) := by decide +kernel
theorem dX2_meetHere_27 : decode cX2_meetHere 27 = .ok (.if_icmp .ne 27, 3) := by decide +kernel
theorem dX2_meetHere_30 : decode cX2_meetHere 30 = .ok (.aload_n 0, 1) := by decide +kernel
theorem dX2_meetHere_31 : decode cX2_meetHere 31 = .ok (.getfield 50, 3) := by decide +kernel
theorem dX2_meetHere_34 : decode cX2_meetHere 34 = .ok (.invokevirtual 157, 3) := by decide +kernel
theorem dX2_meetHere_37 : decode cX2_meetHere 37 = .ok (.ifCond .eq 17, 3) := by decide +kernel
theorem dX2_meetHere_40 : decode cX2_meetHere 40 = .ok (.aload_n 0, 1) := by decide +kernel
theorem dX2_meetHere_41 : decode cX2_meetHere 41 = .ok (.getfield 47, 3) := by decide +kernel
theorem dX2_meetHere_44 : decode cX2_meetHere 44 = .ok (.iload_n 1, 1) := by decide +kernel
theorem dX2_meetHere_45 : decode cX2_meetHere 45 = .ok (.invokevirtual 117, 3) := by decide +kernel
theorem dX2_meetHere_48 : decode cX2_meetHere 48 = .ok (.sipush 255, 3) := by decide +kernel
theorem dX2_meetHere_51 : decode cX2_meetHere 51 = .ok (.if_icmp .eq 5, 3) := by decide +kernel
theorem dX2_meetHere_54 : decode cX2_meetHere 54 = .ok (.iconst 0, 1) := by decide +kernel
theorem dX2_meetHere_55 : decode cX2_meetHere 55 = .ok (.ireturn, 1) := by decide +kernel
theorem dX2_meetHere_56 : decode cX2_meetHere 56 = .ok (.iload_n 1, 1) := by decide +kernel
theorem dX2_meetHere_57 : decode cX2_meetHere 57 = .ok (.iconst 1, 1) := by decide +kernel
theorem dX2_meetHere_58 : decode cX2_meetHere 58 = .ok (.iadd, 1) := by decide +kernel
theorem dX2_meetHere_59 : decode cX2_meetHere 59 = .ok (.aload_n 0, 1) := by decide +kernel
theorem dX2_meetHere_60 : decode cX2_meetHere 60 = .ok (.getfield 47, 3) := by decide +kernel
theorem dX2_meetHere_63 : decode cX2_meetHere 63 = .ok (.getfield 112, 3) := by decide +kernel
theorem dX2_meetHere_66 : decode cX2_meetHere 66 = .ok (.if_icmp .lt 5, 3) := by decide +kernel
theorem dX2_meetHere_69 : decode cX2_meetHere 69 = .ok (.iconst (-1), 1) := by decide +kernel
theorem dX2_meetHere_70 : decode cX2_meetHere 70 = .ok (.ireturn, 1) := by decide +kernel
theorem dX2_meetHere_71 : decode cX2_meetHere 71 = .ok (.aload_n 0, 1) := by decide +kernel
theorem dX2_meetHere_72 : decode cX2_meetHere 72 = .ok (.getfield 47, 3) := by decide +kernel
theorem dX2_meetHere_75 : decode cX2_meetHere 75 = .ok (.iload_n 1, 1) := by decide +kernel
theorem dX2_meetHere_76 : decode cX2_meetHere 76 = .ok (.invokevirtual 160, 3) := by decide +kernel
theorem dX2_meetHere_79 : decode cX2_meetHere 79 = .ok (.ifCond .eq 8, 3) := by decide +kernel
theorem dX2_meetHere_82 : decode cX2_meetHere 82 = .ok (.bipush (-2), 2) := by decide +kernel
theorem dX2_meetHere_84 : decode cX2_meetHere 84 = .ok (.goto 4, 3) := by decide +kernel
theorem dX2_meetHere_87 : decode cX2_meetHere 87 = .ok (.iconst 0, 1) := by decide +kernel
theorem dX2_meetHere_88 : decode cX2_meetHere 88 = .ok (.ireturn, 1) := by decide +kernel
theorem dX1_isWithin_0 : decode cX1_isWithin 0 = .ok (.aload_n 0, 1) := by decide +kernel
theorem dX1_isWithin_1 : decode cX1_isWithin 1 = .ok (.getfield 22, 3) := by decide +kernel
theorem dX1_isWithin_4 : decode cX1_isWithin 4 = .ok (.bipush 8, 2) := by decide +kernel
theorem dX1_isWithin_6 : decode cX1_isWithin 6 = .ok (.aload_n 0, 1) := by decide +kernel
theorem dX1_isWithin_7 : decode cX1_isWithin 7 = .ok (.getfield 9, 3) := by decide +kernel
theorem dX1_isWithin_10 : decode cX1_isWithin 10 = .ok (.getfield 38, 3) := by decide +kernel
theorem dX1_isWithin_13 : decode cX1_isWithin 13 = .ok (.imul, 1) := by decide +kernel
theorem dX1_isWithin_14 : decode cX1_isWithin 14 = .ok (.if_icmp .ge 7, 3) := by decide +kernel
theorem dX1_isWithin_17 : decode cX1_isWithin 17 = .ok (.iconst 1, 1) := by decide +kernel
theorem dX1_isWithin_18 : decode cX1_isWithin 18 = .ok (.goto 4, 3) := by decide +kernel
theorem dX1_isWithin_21 : decode cX1_isWithin 21 = .ok (.iconst 0, 1) := by decide +kernel
theorem dX1_isWithin_22 : decode cX1_isWithin 22 = .ok (.ireturn, 1) := by decide +kernel
theorem dX2_readStuffedIfDue_0 : decode cX2_readStuffedIfDue 0 = .ok (.aload_n 0, 1) := by decide +kernel
theorem dX2_readStuffedIfDue_1 : decode cX2_readStuffedIfDue 1 = .ok (.getfield 50, 3) := by decide +kernel
theorem dX2_readStuffedIfDue_4 : decode cX2_readStuffedIfDue 4 = .ok (.invokevirtual 148, 3) := by decide +kernel
theorem dX2_readStuffedIfDue_7 : decode cX2_readStuffedIfDue 7 = .ok (.ifCond .ne 5, 3) := by decide +kernel
theorem dX2_readStuffedIfDue_10 : decode cX2_readStuffedIfDue 10 = .ok (.iconst 0, 1) := by decide +kernel
theorem dX2_readStuffedIfDue_11 : decode cX2_readStuffedIfDue 11 = .ok (.ireturn, 1) := by decide +kernel
theorem dX2_readStuffedIfDue_12 : decode cX2_readStuffedIfDue 12 = .ok (.aload_n 0, 1) := by decide +kernel
theorem dX2_readStuffedIfDue_13 : decode cX2_readStuffedIfDue 13 = .ok (.getfield 50, 3) := by decide +kernel
theorem dX2_readStuffedIfDue_16 : decode cX2_readStuffedIfDue 16 = .ok (.invokevirtual 197, 3) := by decide +kernel
theorem dX2_readStuffedIfDue_19 : decode cX2_readStuffedIfDue 19 = .ok (.ifCond .ne 5, 3) := by decide +kernel
theorem dX2_readStuffedIfDue_22 : decode cX2_readStuffedIfDue 22 = .ok (.iconst (-1), 1) := by decide +kernel
theorem dX2_readStuffedIfDue_23 : decode cX2_readStuffedIfDue 23 = .ok (.ireturn, 1) := by decide +kernel
theorem dX2_readStuffedIfDue_24 : decode cX2_readStuffedIfDue 24 = .ok (.aload_n 0, 1) := by decide +kernel
theorem dX2_readStuffedIfDue_25 : decode cX2_readStuffedIfDue 25 = .ok (.getfield 47, 3) := by decide +kernel
theorem dX2_readStuffedIfDue_28 : decode cX2_readStuffedIfDue 28 = .ok (.aload_n 0, 1) := by decide +kernel
theorem dX2_readStuffedIfDue_29 : decode cX2_readStuffedIfDue 29 = .ok (.getfield 50, 3) := by decide +kernel
theorem dX2_readStuffedIfDue_32 : decode cX2_readStuffedIfDue 32 = .ok (.getfield 66, 3) := by decide +kernel
theorem dX2_readStuffedIfDue_35 : decode cX2_readStuffedIfDue 35 = .ok (.invokevirtual 104, 3) := by decide +kernel
theorem dX2_readStuffedIfDue_38 : decode cX2_readStuffedIfDue 38 = .ok (.ifCond .eq 6, 3) := by decide +kernel
theorem dX2_readStuffedIfDue_41 : decode cX2_readStuffedIfDue 41 = .ok (.bipush (-3), 2) := by decide +kernel
theorem dX2_readStuffedIfDue_43 : decode cX2_readStuffedIfDue 43 = .ok (.ireturn, 1) := by decide +kernel
theorem dX2_readStuffedIfDue_44 : decode cX2_readStuffedIfDue 44 = .ok (.aload_n 0, 1) := by decide +kernel
theorem dX2_readStuffedIfDue_45 : decode cX2_readStuffedIfDue 45 = .ok (.getfield 50, 3) := by decide +kernel
theorem dX2_readStuffedIfDue_48 : decode cX2_readStuffedIfDue 48 = .ok (.invokevirtual 151, 3) := by decide +kernel
theorem dX2_readStuffedIfDue_51 : decode cX2_readStuffedIfDue 51 = .ok (.iconst 0, 1) := by decide +kernel
theorem dX2_readStuffedIfDue_52 : decode cX2_readStuffedIfDue 52 = .ok (.ireturn, 1) := by decide +kernel
theorem dL_find_0 : decode cL_find 0 = .ok (.aload_n 2, 1) := by decide +kernel
theorem dL_find_1 : decode cL_find 1 = .ok (.iconst 0, 1) := by decide +kernel
theorem dL_find_2 : decode cL_find 2 = .ok (.aload_n 0, 1) := by decide +kernel
theorem dL_find_3 : decode cL_find 3 = .ok (.iload_n 1, 1) := by decide +kernel
