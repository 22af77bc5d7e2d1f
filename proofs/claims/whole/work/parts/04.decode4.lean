theorem dL_find_4 : decode cL_find 4 = .ok (.invokevirtual 46, 3) := by decide +kernel
theorem dL_find_7 : decode cL_find 7 = .ok (.i2l, 1) := by decide +kernel
theorem dL_find_8 : decode cL_find 8 = .ok (.lastore, 1) := by decide +kernel
theorem dL_find_9 : decode cL_find 9 = .ok (.goto 6, 3) := by decide +kernel
theorem dL_find_12 : decode cL_find 12 = .ok (.astore_n 3, 1) := by decide +kernel
theorem dL_find_13 : decode cL_find 13 = .ok (.iconst 1, 1) := by decide +kernel
theorem dL_find_14 : decode cL_find 14 = .ok (.ireturn, 1) := by decide +kernel
theorem dL_find_15 : decode cL_find 15 = .ok (.iconst 0, 1) := by decide +kernel
theorem dL_find_16 : decode cL_find 16 = .ok (.ireturn, 1) := by decide +kernel
theorem dX2_find_0 : decode cX2_find 0 = .ok (.iload_n 1, 1) := by decide +kernel
theorem dX2_find_1 : decode cX2_find 1 = .ok (.ifCond .lt 14, 3) := by decide +kernel
theorem dX2_find_4 : decode cX2_find 4 = .ok (.iload_n 1, 1) := by decide +kernel
theorem dX2_find_5 : decode cX2_find 5 = .ok (.aload_n 0, 1) := by decide +kernel
theorem dX2_find_6 : decode cX2_find 6 = .ok (.getfield 47, 3) := by decide +kernel
theorem dX2_find_9 : decode cX2_find 9 = .ok (.getfield 112, 3) := by decide +kernel
theorem dX2_find_12 : decode cX2_find 12 = .ok (.if_icmp .le 13, 3) := by decide +kernel
theorem dX2_find_15 : decode cX2_find 15 = .ok (.new 99, 3) := by decide +kernel
theorem dX2_find_18 : decode cX2_find 18 = .ok (.dup, 1) := by decide +kernel
theorem dX2_find_19 : decode cX2_find 19 = .ok (.ldc 164, 2) := by decide +kernel
theorem dX2_find_21 : decode cX2_find 21 = .ok (.invokespecial 103, 3) := by decide +kernel
theorem dX2_find_24 : decode cX2_find 24 = .ok (.athrow, 1) := by decide +kernel
theorem dX2_find_25 : decode cX2_find 25 = .ok (.iload_n 1, 1) := by decide +kernel
theorem dX2_find_26 : decode cX2_find 26 = .ok (.istore_n 2, 1) := by decide +kernel
theorem dX2_find_27 : decode cX2_find 27 = .ok (.iload_n 2, 1) := by decide +kernel
theorem dX2_find_28 : decode cX2_find 28 = .ok (.aload_n 0, 1) := by decide +kernel
theorem dX2_find_29 : decode cX2_find 29 = .ok (.getfield 47, 3) := by decide +kernel
theorem dX2_find_32 : decode cX2_find 32 = .ok (.getfield 112, 3) := by decide +kernel
theorem dX2_find_35 : decode cX2_find 35 = .ok (.if_icmp .ge 22, 3) := by decide +kernel
theorem dX2_find_38 : decode cX2_find 38 = .ok (.aload_n 0, 1) := by decide +kernel
theorem dX2_find_39 : decode cX2_find 39 = .ok (.getfield 47, 3) := by decide +kernel
theorem dX2_find_42 : decode cX2_find 42 = .ok (.iload_n 2, 1) := by decide +kernel
theorem dX2_find_43 : decode cX2_find 43 = .ok (.invokevirtual 160, 3) := by decide +kernel
theorem dX2_find_46 : decode cX2_find 46 = .ok (.ifCond .eq 5, 3) := by decide +kernel
theorem dX2_find_49 : decode cX2_find 49 = .ok (.iload_n 2, 1) := by decide +kernel
theorem dX2_find_50 : decode cX2_find 50 = .ok (.ireturn, 1) := by decide +kernel
theorem dX2_find_51 : decode cX2_find 51 = .ok (.iinc 2 1, 3) := by decide +kernel
theorem dX2_find_54 : decode cX2_find 54 = .ok (.goto (-27), 3) := by decide +kernel
theorem dX2_find_57 : decode cX2_find 57 = .ok (.iconst (-1), 1) := by decide +kernel
theorem dX2_find_58 : decode cX2_find 58 = .ok (.ireturn, 1) := by decide +kernel
theorem dL_sum_0 : decode cL_sum 0 = .ok (.aload 5, 2) := by decide +kernel
theorem dL_sum_2 : decode cL_sum 2 = .ok (.iconst 0, 1) := by decide +kernel
theorem dL_sum_3 : decode cL_sum 3 = .ok (.aload_n 0, 1) := by decide +kernel
theorem dL_sum_4 : decode cL_sum 4 = .ok (.iload_n 1, 1) := by decide +kernel
theorem dL_sum_5 : decode cL_sum 5 = .ok (.iload_n 2, 1) := by decide +kernel
theorem dL_sum_6 : decode cL_sum 6 = .ok (.iload_n 3, 1) := by decide +kernel
theorem dL_sum_7 : decode cL_sum 7 = .ok (.iload 4, 2) := by decide +kernel
theorem dL_sum_9 : decode cL_sum 9 = .ok (.invokevirtual 49, 3) := by decide +kernel
theorem dL_sum_12 : decode cL_sum 12 = .ok (.i2l, 1) := by decide +kernel
theorem dL_sum_13 : decode cL_sum 13 = .ok (.lastore, 1) := by decide +kernel
theorem dL_sum_14 : decode cL_sum 14 = .ok (.goto 11, 3) := by decide +kernel
theorem dL_sum_17 : decode cL_sum 17 = .ok (.astore 6, 2) := by decide +kernel
theorem dL_sum_19 : decode cL_sum 19 = .ok (.iconst 1, 1) := by decide +kernel
theorem dL_sum_20 : decode cL_sum 20 = .ok (.ireturn, 1) := by decide +kernel
theorem dL_sum_21 : decode cL_sum 21 = .ok (.astore 6, 2) := by decide +kernel
theorem dL_sum_23 : decode cL_sum 23 = .ok (.iconst 2, 1) := by decide +kernel
theorem dL_sum_24 : decode cL_sum 24 = .ok (.ireturn, 1) := by decide +kernel
theorem dL_sum_25 : decode cL_sum 25 = .ok (.iconst 0, 1) := by decide +kernel
theorem dL_sum_26 : decode cL_sum 26 = .ok (.ireturn, 1) := by decide +kernel
theorem dX2_sum_0 : decode cX2_sum 0 = .ok (.iload_n 2, 1) := by decide +kernel
theorem dX2_sum_1 : decode cX2_sum 1 = .ok (.bipush 16, 2) := by decide +kernel
theorem dX2_sum_3 : decode cX2_sum 3 = .ok (.if_icmp .eq 19, 3) := by decide +kernel
theorem dX2_sum_6 : decode cX2_sum 6 = .ok (.iload_n 2, 1) := by decide +kernel
theorem dX2_sum_7 : decode cX2_sum 7 = .ok (.bipush 32, 2) := by decide +kernel
theorem dX2_sum_9 : decode cX2_sum 9 = .ok (.if_icmp .eq 13, 3) := by decide +kernel
theorem dX2_sum_12 : decode cX2_sum 12 = .ok (.new 86, 3) := by decide +kernel
theorem dX2_sum_15 : decode cX2_sum 15 = .ok (.dup, 1) := by decide +kernel
theorem dX2_sum_16 : decode cX2_sum 16 = .ok (.ldc 166, 2) := by decide +kernel
theorem dX2_sum_18 : decode cX2_sum 18 = .ok (.invokespecial 90, 3) := by decide +kernel
theorem dX2_sum_21 : decode cX2_sum 21 = .ok (.athrow, 1) := by decide +kernel
theorem dX2_sum_22 : decode cX2_sum 22 = .ok (.iload_n 1, 1) := by decide +kernel
theorem dX2_sum_23 : decode cX2_sum 23 = .ok (.ifCond .eq 10, 3) := by decide +kernel
theorem dX2_sum_26 : decode cX2_sum 26 = .ok (.aload_n 0, 1) := by decide +kernel
theorem dX2_sum_27 : decode cX2_sum 27 = .ok (.getfield 47, 3) := by decide +kernel
theorem dX2_sum_30 : decode cX2_sum 30 = .ok (.goto 7, 3) := by decide +kernel
theorem dX2_sum_33 : decode cX2_sum 33 = .ok (.aload_n 0, 1) := by decide +kernel
theorem dX2_sum_34 : decode cX2_sum 34 = .ok (.getfield 34, 3) := by decide +kernel
theorem dX2_sum_37 : decode cX2_sum 37 = .ok (.astore 5, 2) := by decide +kernel
theorem dX2_sum_39 : decode cX2_sum 39 = .ok (.iload_n 3, 1) := by decide +kernel
theorem dX2_sum_40 : decode cX2_sum 40 = .ok (.ifCond .lt 19, 3) := by decide +kernel
theorem dX2_sum_43 : decode cX2_sum 43 = .ok (.iload 4, 2) := by decide +kernel
theorem dX2_sum_45 : decode cX2_sum 45 = .ok (.iload_n 3, 1) := by decide +kernel
theorem dX2_sum_46 : decode cX2_sum 46 = .ok (.if_icmp .lt 13, 3) := by decide +kernel
theorem dX2_sum_49 : decode cX2_sum 49 = .ok (.iload 4, 2) := by decide +kernel
theorem dX2_sum_51 : decode cX2_sum 51 = .ok (.aload 5, 2) := by decide +kernel
theorem dX2_sum_53 : decode cX2_sum 53 = .ok (.getfield 112, 3) := by decide +kernel
theorem dX2_sum_56 : decode cX2_sum 56 = .ok (.if_icmp .le 13, 3) := by decide +kernel
theorem dX2_sum_59 : decode cX2_sum 59 = .ok (.new 99, 3) := by decide +kernel
theorem dX2_sum_62 : decode cX2_sum 62 = .ok (.dup, 1) := by decide +kernel
theorem dX2_sum_63 : decode cX2_sum 63 = .ok (.ldc 168, 2) := by decide +kernel
theorem dX2_sum_65 : decode cX2_sum 65 = .ok (.invokespecial 103, 3) := by decide +kernel
theorem dX2_sum_68 : decode cX2_sum 68 = .ok (.athrow, 1) := by decide +kernel
theorem dX2_sum_69 : decode cX2_sum 69 = .ok (.iload_n 2, 1) := by decide +kernel
theorem dX2_sum_70 : decode cX2_sum 70 = .ok (.bipush 16, 2) := by decide +kernel
theorem dX2_sum_72 : decode cX2_sum 72 = .ok (.if_icmp .ne 14, 3) := by decide +kernel
theorem dX2_sum_75 : decode cX2_sum 75 = .ok (.aload 5, 2) := by decide +kernel
theorem dX2_sum_77 : decode cX2_sum 77 = .ok (.iload_n 3, 1) := by decide +kernel
theorem dX2_sum_78 : decode cX2_sum 78 = .ok (.iload 4, 2) := by decide +kernel
theorem dX2_sum_80 : decode cX2_sum 80 = .ok (.invokevirtual 170, 3) := by decide +kernel
theorem dX2_sum_83 : decode cX2_sum 83 = .ok (.goto 11, 3) := by decide +kernel
theorem dX2_sum_86 : decode cX2_sum 86 = .ok (.aload 5, 2) := by decide +kernel
theorem dX2_sum_88 : decode cX2_sum 88 = .ok (.iload_n 3, 1) := by decide +kernel
theorem dX2_sum_89 : decode cX2_sum 89 = .ok (.iload 4, 2) := by decide +kernel
theorem dX2_sum_91 : decode cX2_sum 91 = .ok (.invokevirtual 173, 3) := by decide +kernel
theorem dX2_sum_94 : decode cX2_sum 94 = .ok (.ireturn, 1) := by decide +kernel
theorem dX0_sumOf16_0 : decode cX0_sumOf16 0 = .ok (.ldc 42, 2) := by decide +kernel
theorem dX0_sumOf16_2 : decode cX0_sumOf16 2 = .ok (.istore_n 3, 1) := by decide +kernel
theorem dX0_sumOf16_3 : decode cX0_sumOf16 3 = .ok (.iload_n 1, 1) := by decide +kernel
theorem dX0_sumOf16_4 : decode cX0_sumOf16 4 = .ok (.istore 4, 2) := by decide +kernel
theorem dX0_sumOf16_6 : decode cX0_sumOf16 6 = .ok (.iload 4, 2) := by decide +kernel
theorem dX0_sumOf16_8 : decode cX0_sumOf16 8 = .ok (.iload_n 2, 1) := by decide +kernel
theorem dX0_sumOf16_9 : decode cX0_sumOf16 9 = .ok (.if_icmp .ge 63, 3) := by decide +kernel
theorem dX0_sumOf16_12 : decode cX0_sumOf16 12 = .ok (.iload_n 3, 1) := by decide +kernel
theorem dX0_sumOf16_13 : decode cX0_sumOf16 13 = .ok (.aload_n 0, 1) := by decide +kernel
theorem dX0_sumOf16_14 : decode cX0_sumOf16 14 = .ok (.iload 4, 2) := by decide +kernel
theorem dX0_sumOf16_16 : decode cX0_sumOf16 16 = .ok (.invokevirtual 29, 3) := by decide +kernel
theorem dX0_sumOf16_19 : decode cX0_sumOf16 19 = .ok (.bipush 8, 2) := by decide +kernel
theorem dX0_sumOf16_21 : decode cX0_sumOf16 21 = .ok (.ishl, 1) := by decide +kernel
theorem dX0_sumOf16_22 : decode cX0_sumOf16 22 = .ok (.ixor, 1) := by decide +kernel
theorem dX0_sumOf16_23 : decode cX0_sumOf16 23 = .ok (.istore_n 3, 1) := by decide +kernel
theorem dX0_sumOf16_24 : decode cX0_sumOf16 24 = .ok (.iconst 0, 1) := by decide +kernel
theorem dX0_sumOf16_25 : decode cX0_sumOf16 25 = .ok (.istore 5, 2) := by decide +kernel
theorem dX0_sumOf16_27 : decode cX0_sumOf16 27 = .ok (.iload 5, 2) := by decide +kernel
theorem dX0_sumOf16_29 : decode cX0_sumOf16 29 = .ok (.bipush 8, 2) := by decide +kernel
theorem dX0_sumOf16_31 : decode cX0_sumOf16 31 = .ok (.if_icmp .ge 30, 3) := by decide +kernel
theorem dX0_sumOf16_34 : decode cX0_sumOf16 34 = .ok (.iload_n 3, 1) := by decide +kernel
theorem dX0_sumOf16_35 : decode cX0_sumOf16 35 = .ok (.ldc 43, 2) := by decide +kernel
theorem dX0_sumOf16_37 : decode cX0_sumOf16 37 = .ok (.iand, 1) := by decide +kernel
theorem dX0_sumOf16_38 : decode cX0_sumOf16 38 = .ok (.ifCond .eq 13, 3) := by decide +kernel
theorem dX0_sumOf16_41 : decode cX0_sumOf16 41 = .ok (.iload_n 3, 1) := by decide +kernel
theorem dX0_sumOf16_42 : decode cX0_sumOf16 42 = .ok (.iconst 1, 1) := by decide +kernel
theorem dX0_sumOf16_43 : decode cX0_sumOf16 43 = .ok (.ishl, 1) := by decide +kernel
theorem dX0_sumOf16_44 : decode cX0_sumOf16 44 = .ok (.sipush 4129, 3) := by decide +kernel
theorem dX0_sumOf16_47 : decode cX0_sumOf16 47 = .ok (.ixor, 1) := by decide +kernel
theorem dX0_sumOf16_48 : decode cX0_sumOf16 48 = .ok (.goto 6, 3) := by decide +kernel
theorem dX0_sumOf16_51 : decode cX0_sumOf16 51 = .ok (.iload_n 3, 1) := by decide +kernel
theorem dX0_sumOf16_52 : decode cX0_sumOf16 52 = .ok (.iconst 1, 1) := by decide +kernel
theorem dX0_sumOf16_53 : decode cX0_sumOf16 53 = .ok (.ishl, 1) := by decide +kernel
theorem dX0_sumOf16_54 : decode cX0_sumOf16 54 = .ok (.istore_n 3, 1) := by decide +kernel
theorem dX0_sumOf16_55 : decode cX0_sumOf16 55 = .ok (.iinc 5 1, 3) := by decide +kernel
theorem dX0_sumOf16_58 : decode cX0_sumOf16 58 = .ok (.goto (-31), 3) := by decide +kernel
theorem dX0_sumOf16_61 : decode cX0_sumOf16 61 = .ok (.iload_n 3, 1) := by decide +kernel
theorem dX0_sumOf16_62 : decode cX0_sumOf16 62 = .ok (.ldc 42, 2) := by decide +kernel
theorem dX0_sumOf16_64 : decode cX0_sumOf16 64 = .ok (.iand, 1) := by decide +kernel
theorem dX0_sumOf16_65 : decode cX0_sumOf16 65 = .ok (.istore_n 3, 1) := by decide +kernel
theorem dX0_sumOf16_66 : decode cX0_sumOf16 66 = .ok (.iinc 4 1, 3) := by decide +kernel
theorem dX0_sumOf16_69 : decode cX0_sumOf16 69 = .ok (.goto (-63), 3) := by decide +kernel
theorem dX0_sumOf16_72 : decode cX0_sumOf16 72 = .ok (.iload_n 3, 1) := by decide +kernel
theorem dX0_sumOf16_73 : decode cX0_sumOf16 73 = .ok (.ireturn, 1) := by decide +kernel
theorem dX0_sumOf32_0 : decode cX0_sumOf32 0 = .ok (.iconst (-1), 1) := by decide +kernel
theorem dX0_sumOf32_1 : decode cX0_sumOf32 1 = .ok (.istore_n 3, 1) := by decide +kernel
theorem dX0_sumOf32_2 : decode cX0_sumOf32 2 = .ok (.iload_n 1, 1) := by decide +kernel
theorem dX0_sumOf32_3 : decode cX0_sumOf32 3 = .ok (.istore 4, 2) := by decide +kernel
theorem dX0_sumOf32_5 : decode cX0_sumOf32 5 = .ok (.iload 4, 2) := by decide +kernel
theorem dX0_sumOf32_7 : decode cX0_sumOf32 7 = .ok (.iload_n 2, 1) := by decide +kernel
theorem dX0_sumOf32_8 : decode cX0_sumOf32 8 = .ok (.if_icmp .ge 53, 3) := by decide +kernel
theorem dX0_sumOf32_11 : decode cX0_sumOf32 11 = .ok (.iload_n 3, 1) := by decide +kernel
theorem dX0_sumOf32_12 : decode cX0_sumOf32 12 = .ok (.aload_n 0, 1) := by decide +kernel
theorem dX0_sumOf32_13 : decode cX0_sumOf32 13 = .ok (.iload 4, 2) := by decide +kernel
theorem dX0_sumOf32_15 : decode cX0_sumOf32 15 = .ok (.invokevirtual 29, 3) := by decide +kernel
theorem dX0_sumOf32_18 : decode cX0_sumOf32 18 = .ok (.ixor, 1) := by decide +kernel
theorem dX0_sumOf32_19 : decode cX0_sumOf32 19 = .ok (.istore_n 3, 1) := by decide +kernel
theorem dX0_sumOf32_20 : decode cX0_sumOf32 20 = .ok (.iconst 0, 1) := by decide +kernel
theorem dX0_sumOf32_21 : decode cX0_sumOf32 21 = .ok (.istore 5, 2) := by decide +kernel
theorem dX0_sumOf32_23 : decode cX0_sumOf32 23 = .ok (.iload 5, 2) := by decide +kernel
theorem dX0_sumOf32_25 : decode cX0_sumOf32 25 = .ok (.bipush 8, 2) := by decide +kernel
theorem dX0_sumOf32_27 : decode cX0_sumOf32 27 = .ok (.if_icmp .ge 28, 3) := by decide +kernel
theorem dX0_sumOf32_30 : decode cX0_sumOf32 30 = .ok (.iload_n 3, 1) := by decide +kernel
theorem dX0_sumOf32_31 : decode cX0_sumOf32 31 = .ok (.iconst 1, 1) := by decide +kernel
theorem dX0_sumOf32_32 : decode cX0_sumOf32 32 = .ok (.iand, 1) := by decide +kernel
theorem dX0_sumOf32_33 : decode cX0_sumOf32 33 = .ok (.ifCond .eq 12, 3) := by decide +kernel
theorem dX0_sumOf32_36 : decode cX0_sumOf32 36 = .ok (.iload_n 3, 1) := by decide +kernel
theorem dX0_sumOf32_37 : decode cX0_sumOf32 37 = .ok (.iconst 1, 1) := by decide +kernel
theorem dX0_sumOf32_38 : decode cX0_sumOf32 38 = .ok (.iushr, 1) := by decide +kernel
theorem dX0_sumOf32_39 : decode cX0_sumOf32 39 = .ok (.ldc 44, 2) := by decide +kernel
theorem dX0_sumOf32_41 : decode cX0_sumOf32 41 = .ok (.ixor, 1) := by decide +kernel
theorem dX0_sumOf32_42 : decode cX0_sumOf32 42 = .ok (.goto 6, 3) := by decide +kernel
theorem dX0_sumOf32_45 : decode cX0_sumOf32 45 = .ok (.iload_n 3, 1) := by decide +kernel
theorem dX0_sumOf32_46 : decode cX0_sumOf32 46 = .ok (.iconst 1, 1) := by decide +kernel
theorem dX0_sumOf32_47 : decode cX0_sumOf32 47 = .ok (.iushr, 1) := by decide +kernel
theorem dX0_sumOf32_48 : decode cX0_sumOf32 48 = .ok (.istore_n 3, 1) := by decide +kernel
theorem dX0_sumOf32_49 : decode cX0_sumOf32 49 = .ok (.iinc 5 1, 3) := by decide +kernel
theorem dX0_sumOf32_52 : decode cX0_sumOf32 52 = .ok (.goto (-29), 3) := by decide +kernel
theorem dX0_sumOf32_55 : decode cX0_sumOf32 55 = .ok (.iinc 4 1, 3) := by decide +kernel
theorem dX0_sumOf32_58 : decode cX0_sumOf32 58 = .ok (.goto (-53), 3) := by decide +kernel
theorem dX0_sumOf32_61 : decode cX0_sumOf32 61 = .ok (.iload_n 3, 1) := by decide +kernel
theorem dX0_sumOf32_62 : decode cX0_sumOf32 62 = .ok (.iconst (-1), 1) := by decide +kernel
theorem dX0_sumOf32_63 : decode cX0_sumOf32 63 = .ok (.ixor, 1) := by decide +kernel
theorem dX0_sumOf32_64 : decode cX0_sumOf32 64 = .ok (.ireturn, 1) := by decide +kernel
theorem dX3_init_0 : decode cX3_init 0 = .ok (.aload_n 0, 1) := by decide +kernel
theorem dX3_init_1 : decode cX3_init 1 = .ok (.invokespecial 1, 3) := by decide +kernel
theorem dX3_init_4 : decode cX3_init 4 = .ok (.aload_n 0, 1) := by decide +kernel
theorem dX3_init_5 : decode cX3_init 5 = .ok (.sipush 5200, 3) := by decide +kernel
theorem dX3_init_8 : decode cX3_init 8 = .ok (.newarray .boolean, 2) := by decide +kernel
theorem dX3_init_10 : decode cX3_init 10 = .ok (.putfield 7, 3) := by decide +kernel
theorem dX3_init_13 : decode cX3_init 13 = .ok (.aload_n 0, 1) := by decide +kernel
theorem dX3_init_14 : decode cX3_init 14 = .ok (.sipush 600, 3) := by decide +kernel
theorem dX3_init_17 : decode cX3_init 17 = .ok (.newarray .int, 2) := by decide +kernel
theorem dX3_init_19 : decode cX3_init 19 = .ok (.putfield 13, 3) := by decide +kernel
theorem dX3_init_22 : decode cX3_init 22 = .ok (.aload_n 0, 1) := by decide +kernel
theorem dX3_init_23 : decode cX3_init 23 = .ok (.iload_n 1, 1) := by decide +kernel
theorem dX3_init_24 : decode cX3_init 24 = .ok (.ifCond .ge 7, 3) := by decide +kernel
theorem dX3_init_27 : decode cX3_init 27 = .ok (.iconst 0, 1) := by decide +kernel
theorem dX3_init_28 : decode cX3_init 28 = .ok (.goto 15, 3) := by decide +kernel
theorem dX3_init_31 : decode cX3_init 31 = .ok (.iload_n 1, 1) := by decide +kernel
theorem dX3_init_32 : decode cX3_init 32 = .ok (.bipush 16, 2) := by decide +kernel
theorem dX3_init_34 : decode cX3_init 34 = .ok (.if_icmp .le 8, 3) := by decide +kernel
theorem dX3_init_37 : decode cX3_init 37 = .ok (.bipush 16, 2) := by decide +kernel
theorem dX3_init_39 : decode cX3_init 39 = .ok (.goto 4, 3) := by decide +kernel
theorem dX3_init_42 : decode cX3_init 42 = .ok (.iload_n 1, 1) := by decide +kernel
theorem dX3_init_43 : decode cX3_init 43 = .ok (.putfield 17, 3) := by decide +kernel
theorem dX3_init_46 : decode cX3_init 46 = .ok (.aload_n 0, 1) := by decide +kernel
theorem dX3_init_47 : decode cX3_init 47 = .ok (.iload_n 2, 1) := by decide +kernel
theorem dX3_init_48 : decode cX3_init 48 = .ok (.ifCond .eq 7, 3) := by decide +kernel
theorem dX3_init_51 : decode cX3_init 51 = .ok (.iconst 1, 1) := by decide +kernel
theorem dX3_init_52 : decode cX3_init 52 = .ok (.goto 4, 3) := by decide +kernel
theorem dX3_init_55 : decode cX3_init 55 = .ok (.iconst 0, 1) := by decide +kernel
theorem dX3_init_56 : decode cX3_init 56 = .ok (.putfield 21, 3) := by decide +kernel
theorem dX3_init_59 : decode cX3_init 59 = .ok (.return_, 1) := by decide +kernel
theorem dX3_thrown_0 : decode cX3_thrown 0 = .ok (.aload_n 0, 1) := by decide +kernel
theorem dX3_thrown_1 : decode cX3_thrown 1 = .ok (.getfield 25, 3) := by decide +kernel
theorem dX3_thrown_4 : decode cX3_thrown 4 = .ok (.ireturn, 1) := by decide +kernel
theorem dX3_put_0 : decode cX3_put 0 = .ok (.aload_n 0, 1) := by decide +kernel
theorem dX3_put_1 : decode cX3_put 1 = .ok (.iload_n 1, 1) := by decide +kernel
theorem dX3_put_2 : decode cX3_put 2 = .ok (.i2l, 1) := by decide +kernel
theorem dX3_put_3 : decode cX3_put 3 = .ok (.lconst 1, 1) := by decide +kernel
theorem dX3_put_4 : decode cX3_put 4 = .ok (.ldc2_w 51, 3) := by decide +kernel
theorem dX3_put_7 : decode cX3_put 7 = .ok (.invokestatic 53, 3) := by decide +kernel
theorem dX3_put_10 : decode cX3_put 10 = .ok (.ifCond .ne 7, 3) := by decide +kernel
theorem dX3_put_13 : decode cX3_put 13 = .ok (.iconst 1, 1) := by decide +kernel
theorem dX3_put_14 : decode cX3_put 14 = .ok (.goto 16, 3) := by decide +kernel
theorem dX3_put_17 : decode cX3_put 17 = .ok (.aload_n 0, 1) := by decide +kernel
theorem dX3_put_18 : decode cX3_put 18 = .ok (.iload_n 1, 1) := by decide +kernel
theorem dX3_put_19 : decode cX3_put 19 = .ok (.invokevirtual 57, 3) := by decide +kernel
theorem dX3_put_22 : decode cX3_put 22 = .ok (.ifCond .eq 7, 3) := by decide +kernel
theorem dX3_put_25 : decode cX3_put 25 = .ok (.iconst 2, 1) := by decide +kernel
theorem dX3_put_26 : decode cX3_put 26 = .ok (.goto 4, 3) := by decide +kernel
theorem dX3_put_29 : decode cX3_put 29 = .ok (.iconst 0, 1) := by decide +kernel
theorem dX3_put_30 : decode cX3_put 30 = .ok (.putfield 25, 3) := by decide +kernel
theorem dX3_put_33 : decode cX3_put 33 = .ok (.aload_n 0, 1) := by decide +kernel
theorem dX3_put_34 : decode cX3_put 34 = .ok (.getfield 25, 3) := by decide +kernel
theorem dX3_put_37 : decode cX3_put 37 = .ok (.ifCond .le 5, 3) := by decide +kernel
theorem dX3_put_40 : decode cX3_put 40 = .ok (.iconst 0, 1) := by decide +kernel
theorem dX3_put_41 : decode cX3_put 41 = .ok (.ireturn, 1) := by decide +kernel
theorem dX3_put_42 : decode cX3_put 42 = .ok (.iconst 0, 1) := by decide +kernel
theorem dX3_put_43 : decode cX3_put 43 = .ok (.istore_n 3, 1) := by decide +kernel
theorem dX3_put_44 : decode cX3_put 44 = .ok (.iconst 0, 1) := by decide +kernel
theorem dX3_put_45 : decode cX3_put 45 = .ok (.istore 4, 2) := by decide +kernel
theorem dX3_put_47 : decode cX3_put 47 = .ok (.iload 4, 2) := by decide +kernel
theorem dX3_put_49 : decode cX3_put 49 = .ok (.iload_n 1, 1) := by decide +kernel
theorem dX3_put_50 : decode cX3_put 50 = .ok (.if_icmp .ge 58, 3) := by decide +kernel
theorem dX3_put_53 : decode cX3_put 53 = .ok (.aload_n 0, 1) := by decide +kernel
theorem dX3_put_54 : decode cX3_put 54 = .ok (.iload_n 2, 1) := by decide +kernel
theorem dX3_put_55 : decode cX3_put 55 = .ok (.aload_n 0, 1) := by decide +kernel
theorem dX3_put_56 : decode cX3_put 56 = .ok (.getfield 21, 3) := by decide +kernel
theorem dX3_put_59 : decode cX3_put 59 = .ok (.ifCond .eq 8, 3) := by decide +kernel
theorem dX3_put_62 : decode cX3_put 62 = .ok (.iload 4, 2) := by decide +kernel
theorem dX3_put_64 : decode cX3_put 64 = .ok (.goto 9, 3) := by decide +kernel
theorem dX3_put_67 : decode cX3_put 67 = .ok (.iload_n 1, 1) := by decide +kernel
theorem dX3_put_68 : decode cX3_put 68 = .ok (.iconst 1, 1) := by decide +kernel
theorem dX3_put_69 : decode cX3_put 69 = .ok (.isub, 1) := by decide +kernel
theorem dX3_put_70 : decode cX3_put 70 = .ok (.iload 4, 2) := by decide +kernel
theorem dX3_put_72 : decode cX3_put 72 = .ok (.isub, 1) := by decide +kernel
theorem dX3_put_73 : decode cX3_put 73 = .ok (.iushr, 1) := by decide +kernel
theorem dX3_put_74 : decode cX3_put 74 = .ok (.iconst 1, 1) := by decide +kernel
theorem dX3_put_75 : decode cX3_put 75 = .ok (.iand, 1) := by decide +kernel
theorem dX3_put_76 : decode cX3_put 76 = .ok (.iconst 1, 1) := by decide +kernel
theorem dX3_put_77 : decode cX3_put 77 = .ok (.if_icmp .ne 7, 3) := by decide +kernel
theorem dX3_put_80 : decode cX3_put 80 = .ok (.iconst 1, 1) := by decide +kernel
theorem dX3_put_81 : decode cX3_put 81 = .ok (.goto 4, 3) := by decide +kernel
theorem dX3_put_84 : decode cX3_put 84 = .ok (.iconst 0, 1) := by decide +kernel
theorem dX3_put_85 : decode cX3_put 85 = .ok (.invokevirtual 61, 3) := by decide +kernel
theorem dX3_put_88 : decode cX3_put 88 = .ok (.istore 5, 2) := by decide +kernel
theorem dX3_put_90 : decode cX3_put 90 = .ok (.iload 4, 2) := by decide +kernel
theorem dX3_put_92 : decode cX3_put 92 = .ok (.ifCond .ne 8, 3) := by decide +kernel
theorem dX3_put_95 : decode cX3_put 95 = .ok (.iload 5, 2) := by decide +kernel
theorem dX3_put_97 : decode cX3_put 97 = .ok (.goto 4, 3) := by decide +kernel
theorem dX3_put_100 : decode cX3_put 100 = .ok (.iload_n 3, 1) := by decide +kernel
theorem dX3_put_101 : decode cX3_put 101 = .ok (.istore_n 3, 1) := by decide +kernel
theorem dX3_put_102 : decode cX3_put 102 = .ok (.iinc 4 1, 3) := by decide +kernel
theorem dX3_put_105 : decode cX3_put 105 = .ok (.goto (-58), 3) := by decide +kernel
theorem dX3_put_108 : decode cX3_put 108 = .ok (.iload_n 3, 1) := by decide +kernel
theorem dX3_put_109 : decode cX3_put 109 = .ok (.ireturn, 1) := by decide +kernel
theorem dX3_isIn_0 : decode cX3_isIn 0 = .ok (.lload_n 0, 1) := by decide +kernel
theorem dX3_isIn_1 : decode cX3_isIn 1 = .ok (.lload_n 2, 1) := by decide +kernel
theorem dX3_isIn_2 : decode cX3_isIn 2 = .ok (.lcmp, 1) := by decide +kernel
theorem dX3_isIn_3 : decode cX3_isIn 3 = .ok (.ifCond .lt 14, 3) := by decide +kernel
theorem dX3_isIn_6 : decode cX3_isIn 6 = .ok (.lload_n 0, 1) := by decide +kernel
theorem dX3_isIn_7 : decode cX3_isIn 7 = .ok (.lload 4, 2) := by decide +kernel
theorem dX3_isIn_9 : decode cX3_isIn 9 = .ok (.lcmp, 1) := by decide +kernel
theorem dX3_isIn_10 : decode cX3_isIn 10 = .ok (.ifCond .gt 7, 3) := by decide +kernel
theorem dX3_isIn_13 : decode cX3_isIn 13 = .ok (.iconst 1, 1) := by decide +kernel
theorem dX3_isIn_14 : decode cX3_isIn 14 = .ok (.goto 4, 3) := by decide +kernel
theorem dX3_isIn_17 : decode cX3_isIn 17 = .ok (.iconst 0, 1) := by decide +kernel
theorem dX3_isIn_18 : decode cX3_isIn 18 = .ok (.ireturn, 1) := by decide +kernel
theorem dX3_isFull_0 : decode cX3_isFull 0 = .ok (.aload_n 0, 1) := by decide +kernel
theorem dX3_isFull_1 : decode cX3_isFull 1 = .ok (.getfield 28, 3) := by decide +kernel
theorem dX3_isFull_4 : decode cX3_isFull 4 = .ok (.iconst 2, 1) := by decide +kernel
theorem dX3_isFull_5 : decode cX3_isFull 5 = .ok (.iload_n 1, 1) := by decide +kernel
theorem dX3_isFull_6 : decode cX3_isFull 6 = .ok (.imul, 1) := by decide +kernel
theorem dX3_isFull_7 : decode cX3_isFull 7 = .ok (.iadd, 1) := by decide +kernel
theorem dX3_isFull_8 : decode cX3_isFull 8 = .ok (.bipush 16, 2) := by decide +kernel
theorem dX3_isFull_10 : decode cX3_isFull 10 = .ok (.iadd, 1) := by decide +kernel
theorem dX3_isFull_11 : decode cX3_isFull 11 = .ok (.sipush 4800, 3) := by decide +kernel
theorem dX3_isFull_14 : decode cX3_isFull 14 = .ok (.if_icmp .le 7, 3) := by decide +kernel
theorem dX3_isFull_17 : decode cX3_isFull 17 = .ok (.iconst 1, 1) := by decide +kernel
theorem dX3_isFull_18 : decode cX3_isFull 18 = .ok (.goto 4, 3) := by decide +kernel
theorem dX3_isFull_21 : decode cX3_isFull 21 = .ok (.iconst 0, 1) := by decide +kernel
theorem dX3_isFull_22 : decode cX3_isFull 22 = .ok (.ireturn, 1) := by decide +kernel
theorem dX3_putBit_0 : decode cX3_putBit 0 = .ok (.aload_n 0, 1) := by decide +kernel
theorem dX3_putBit_1 : decode cX3_putBit 1 = .ok (.getfield 17, 3) := by decide +kernel
theorem dX3_putBit_4 : decode cX3_putBit 4 = .ok (.iconst 1, 1) := by decide +kernel
theorem dX3_putBit_5 : decode cX3_putBit 5 = .ok (.if_icmp .ne 31, 3) := by decide +kernel
theorem dX3_putBit_8 : decode cX3_putBit 8 = .ok (.aload_n 0, 1) := by decide +kernel
theorem dX3_putBit_9 : decode cX3_putBit 9 = .ok (.getfield 21, 3) := by decide +kernel
theorem dX3_putBit_12 : decode cX3_putBit 12 = .ok (.ifCond .ne 24, 3) := by decide +kernel
theorem dX3_putBit_15 : decode cX3_putBit 15 = .ok (.aload_n 0, 1) := by decide +kernel
theorem dX3_putBit_16 : decode cX3_putBit 16 = .ok (.getfield 35, 3) := by decide +kernel
theorem dX3_putBit_19 : decode cX3_putBit 19 = .ok (.ifCond .eq 17, 3) := by decide +kernel
theorem dX3_putBit_22 : decode cX3_putBit 22 = .ok (.aload_n 0, 1) := by decide +kernel
theorem dX3_putBit_23 : decode cX3_putBit 23 = .ok (.getfield 28, 3) := by decide +kernel
theorem dX3_putBit_26 : decode cX3_putBit 26 = .ok (.bipush 8, 2) := by decide +kernel
theorem dX3_putBit_28 : decode cX3_putBit 28 = .ok (.irem, 1) := by decide +kernel
theorem dX3_putBit_29 : decode cX3_putBit 29 = .ok (.ifCond .ne 7, 3) := by decide +kernel
theorem dX3_putBit_32 : decode cX3_putBit 32 = .ok (.aload_n 0, 1) := by decide +kernel
theorem dX3_putBit_33 : decode cX3_putBit 33 = .ok (.invokevirtual 45, 3) := by decide +kernel
theorem dX3_putBit_36 : decode cX3_putBit 36 = .ok (.aload_n 0, 1) := by decide +kernel
theorem dX3_putBit_37 : decode cX3_putBit 37 = .ok (.getfield 28, 3) := by decide +kernel
theorem dX3_putBit_40 : decode cX3_putBit 40 = .ok (.istore_n 2, 1) := by decide +kernel
theorem dX3_putBit_41 : decode cX3_putBit 41 = .ok (.aload_n 0, 1) := by decide +kernel
theorem dX3_putBit_42 : decode cX3_putBit 42 = .ok (.iload_n 1, 1) := by decide +kernel
theorem dX3_putBit_43 : decode cX3_putBit 43 = .ok (.invokevirtual 41, 3) := by decide +kernel
theorem dX3_putBit_46 : decode cX3_putBit 46 = .ok (.aload_n 0, 1) := by decide +kernel
theorem dX3_putBit_47 : decode cX3_putBit 47 = .ok (.getfield 17, 3) := by decide +kernel
theorem dX3_putBit_50 : decode cX3_putBit 50 = .ok (.iconst 1, 1) := by decide +kernel
theorem dX3_putBit_51 : decode cX3_putBit 51 = .ok (.if_icmp .ne 33, 3) := by decide +kernel
theorem dX3_putBit_54 : decode cX3_putBit 54 = .ok (.aload_n 0, 1) := by decide +kernel
theorem dX3_putBit_55 : decode cX3_putBit 55 = .ok (.getfield 21, 3) := by decide +kernel
theorem dX3_putBit_58 : decode cX3_putBit 58 = .ok (.ifCond .eq 26, 3) := by decide +kernel
theorem dX3_putBit_61 : decode cX3_putBit 61 = .ok (.aload_n 0, 1) := by decide +kernel
theorem dX3_putBit_62 : decode cX3_putBit 62 = .ok (.getfield 35, 3) := by decide +kernel
theorem dX3_putBit_65 : decode cX3_putBit 65 = .ok (.ifCond .eq 19, 3) := by decide +kernel
theorem dX3_putBit_68 : decode cX3_putBit 68 = .ok (.aload_n 0, 1) := by decide +kernel
theorem dX3_putBit_69 : decode cX3_putBit 69 = .ok (.getfield 28, 3) := by decide +kernel
theorem dX3_putBit_72 : decode cX3_putBit 72 = .ok (.bipush 8, 2) := by decide +kernel
theorem dX3_putBit_74 : decode cX3_putBit 74 = .ok (.irem, 1) := by decide +kernel
theorem dX3_putBit_75 : decode cX3_putBit 75 = .ok (.bipush 7, 2) := by decide +kernel
theorem dX3_putBit_77 : decode cX3_putBit 77 = .ok (.if_icmp .ne 7, 3) := by decide +kernel
theorem dX3_putBit_80 : decode cX3_putBit 80 = .ok (.aload_n 0, 1) := by decide +kernel
theorem dX3_putBit_81 : decode cX3_putBit 81 = .ok (.invokevirtual 45, 3) := by decide +kernel
theorem dX3_putBit_84 : decode cX3_putBit 84 = .ok (.aload_n 0, 1) := by decide +kernel
theorem dX3_putBit_85 : decode cX3_putBit 85 = .ok (.iload_n 1, 1) := by decide +kernel
theorem dX3_putBit_86 : decode cX3_putBit 86 = .ok (.ifCond .eq 12, 3) := by decide +kernel
theorem dX3_putBit_89 : decode cX3_putBit 89 = .ok (.aload_n 0, 1) := by decide +kernel
theorem dX3_putBit_90 : decode cX3_putBit 90 = .ok (.getfield 48, 3) := by decide +kernel
theorem dX3_putBit_93 : decode cX3_putBit 93 = .ok (.iconst 1, 1) := by decide +kernel
theorem dX3_putBit_94 : decode cX3_putBit 94 = .ok (.iadd, 1) := by decide +kernel
theorem dX3_putBit_95 : decode cX3_putBit 95 = .ok (.goto 4, 3) := by decide +kernel
theorem dX3_putBit_98 : decode cX3_putBit 98 = .ok (.iconst 0, 1) := by decide +kernel
theorem dX3_putBit_99 : decode cX3_putBit 99 = .ok (.putfield 48, 3) := by decide +kernel
theorem dX3_putBit_102 : decode cX3_putBit 102 = .ok (.aload_n 0, 1) := by decide +kernel
theorem dX3_putBit_103 : decode cX3_putBit 103 = .ok (.getfield 17, 3) := by decide +kernel
theorem dX3_putBit_106 : decode cX3_putBit 106 = .ok (.iconst 1, 1) := by decide +kernel
theorem dX3_putBit_107 : decode cX3_putBit 107 = .ok (.if_icmp .le 23, 3) := by decide +kernel
theorem dX3_putBit_110 : decode cX3_putBit 110 = .ok (.aload_n 0, 1) := by decide +kernel
theorem dX3_putBit_111 : decode cX3_putBit 111 = .ok (.getfield 48, 3) := by decide +kernel
theorem dX3_putBit_114 : decode cX3_putBit 114 = .ok (.aload_n 0, 1) := by decide +kernel
theorem dX3_putBit_115 : decode cX3_putBit 115 = .ok (.getfield 17, 3) := by decide +kernel
theorem dX3_putBit_118 : decode cX3_putBit 118 = .ok (.if_icmp .ne 12, 3) := by decide +kernel
theorem dX3_putBit_121 : decode cX3_putBit 121 = .ok (.aload_n 0, 1) := by decide +kernel
theorem dX3_putBit_122 : decode cX3_putBit 122 = .ok (.iconst 0, 1) := by decide +kernel
theorem dX3_putBit_123 : decode cX3_putBit 123 = .ok (.putfield 48, 3) := by decide +kernel
theorem dX3_putBit_126 : decode cX3_putBit 126 = .ok (.aload_n 0, 1) := by decide +kernel
theorem dX3_putBit_127 : decode cX3_putBit 127 = .ok (.invokevirtual 45, 3) := by decide +kernel
theorem dX3_putBit_130 : decode cX3_putBit 130 = .ok (.iload_n 2, 1) := by decide +kernel
theorem dX3_putBit_131 : decode cX3_putBit 131 = .ok (.ireturn, 1) := by decide +kernel
theorem dX3_stuff_0 : decode cX3_stuff 0 = .ok (.aload_n 0, 1) := by decide +kernel
theorem dX3_stuff_1 : decode cX3_stuff 1 = .ok (.dup, 1) := by decide +kernel
theorem dX3_stuff_2 : decode cX3_stuff 2 = .ok (.getfield 38, 3) := by decide +kernel
theorem dX3_stuff_5 : decode cX3_stuff 5 = .ok (.iconst 1, 1) := by decide +kernel
theorem dX3_stuff_6 : decode cX3_stuff 6 = .ok (.iadd, 1) := by decide +kernel
theorem dX3_stuff_7 : decode cX3_stuff 7 = .ok (.putfield 38, 3) := by decide +kernel
theorem dX3_stuff_10 : decode cX3_stuff 10 = .ok (.aload_n 0, 1) := by decide +kernel
theorem dX3_stuff_11 : decode cX3_stuff 11 = .ok (.iconst 0, 1) := by decide +kernel
theorem dX3_stuff_12 : decode cX3_stuff 12 = .ok (.invokevirtual 41, 3) := by decide +kernel
theorem dX3_stuff_15 : decode cX3_stuff 15 = .ok (.return_, 1) := by decide +kernel
theorem dX3_add_0 : decode cX3_add 0 = .ok (.aload_n 0, 1) := by decide +kernel
theorem dX3_add_1 : decode cX3_add 1 = .ok (.getfield 7, 3) := by decide +kernel
theorem dX3_add_4 : decode cX3_add 4 = .ok (.aload_n 0, 1) := by decide +kernel
theorem dX3_add_5 : decode cX3_add 5 = .ok (.getfield 28, 3) := by decide +kernel
theorem dX3_add_8 : decode cX3_add 8 = .ok (.iload_n 1, 1) := by decide +kernel
theorem dX3_add_9 : decode cX3_add 9 = .ok (.bastore, 1) := by decide +kernel
theorem dX3_add_10 : decode cX3_add 10 = .ok (.aload_n 0, 1) := by decide +kernel
theorem dX3_add_11 : decode cX3_add 11 = .ok (.dup, 1) := by decide +kernel
theorem dX3_add_12 : decode cX3_add 12 = .ok (.getfield 28, 3) := by decide +kernel
theorem dX3_add_15 : decode cX3_add 15 = .ok (.iconst 1, 1) := by decide +kernel
theorem dX3_add_16 : decode cX3_add 16 = .ok (.iadd, 1) := by decide +kernel
theorem dX3_add_17 : decode cX3_add 17 = .ok (.putfield 28, 3) := by decide +kernel
theorem dX3_add_20 : decode cX3_add 20 = .ok (.aload_n 0, 1) := by decide +kernel
theorem dX3_add_21 : decode cX3_add 21 = .ok (.getfield 28, 3) := by decide +kernel
theorem dX3_add_24 : decode cX3_add 24 = .ok (.bipush 8, 2) := by decide +kernel
