theorem dX2_told_94 : decode cX2_told 94 = .ok (.getfield 66, 3) := by decide +kernel
theorem dX2_told_97 : decode cX2_told 97 = .ok (.ireturn, 1) := by decide +kernel
theorem dX2_told_98 : decode cX2_told 98 = .ok (.aload_n 0, 1) := by decide +kernel
theorem dX2_told_99 : decode cX2_told 99 = .ok (.getfield 50, 3) := by decide +kernel
theorem dX2_told_102 : decode cX2_told 102 = .ok (.getfield 131, 3) := by decide +kernel
theorem dX2_told_105 : decode cX2_told 105 = .ok (.ireturn, 1) := by decide +kernel
theorem dX2_told_106 : decode cX2_told 106 = .ok (.aload_n 0, 1) := by decide +kernel
theorem dX2_told_107 : decode cX2_told 107 = .ok (.getfield 53, 3) := by decide +kernel
theorem dX2_told_110 : decode cX2_told 110 = .ok (.ifCond .eq 7, 3) := by decide +kernel
theorem dX2_told_113 : decode cX2_told 113 = .ok (.iconst 1, 1) := by decide +kernel
theorem dX2_told_114 : decode cX2_told 114 = .ok (.goto 4, 3) := by decide +kernel
theorem dX2_told_117 : decode cX2_told 117 = .ok (.iconst 0, 1) := by decide +kernel
theorem dX2_told_118 : decode cX2_told 118 = .ok (.ireturn, 1) := by decide +kernel
theorem dX2_told_119 : decode cX2_told 119 = .ok (.iconst (-1), 1) := by decide +kernel
theorem dX2_told_120 : decode cX2_told 120 = .ok (.ireturn, 1) := by decide +kernel
theorem dX2_clear_0 : decode cX2_clear 0 = .ok (.aload_n 0, 1) := by decide +kernel
theorem dX2_clear_1 : decode cX2_clear 1 = .ok (.getfield 34, 3) := by decide +kernel
theorem dX2_clear_4 : decode cX2_clear 4 = .ok (.invokevirtual 176, 3) := by decide +kernel
theorem dX2_clear_7 : decode cX2_clear 7 = .ok (.aload_n 0, 1) := by decide +kernel
theorem dX2_clear_8 : decode cX2_clear 8 = .ok (.getfield 43, 3) := by decide +kernel
theorem dX2_clear_11 : decode cX2_clear 11 = .ok (.invokevirtual 179, 3) := by decide +kernel
theorem dX2_clear_14 : decode cX2_clear 14 = .ok (.aload_n 0, 1) := by decide +kernel
theorem dX2_clear_15 : decode cX2_clear 15 = .ok (.getfield 47, 3) := by decide +kernel
theorem dX2_clear_18 : decode cX2_clear 18 = .ok (.invokevirtual 176, 3) := by decide +kernel
theorem dX2_clear_21 : decode cX2_clear 21 = .ok (.aload_n 0, 1) := by decide +kernel
theorem dX2_clear_22 : decode cX2_clear 22 = .ok (.getfield 50, 3) := by decide +kernel
theorem dX2_clear_25 : decode cX2_clear 25 = .ok (.invokevirtual 179, 3) := by decide +kernel
theorem dX2_clear_28 : decode cX2_clear 28 = .ok (.aload_n 0, 1) := by decide +kernel
theorem dX2_clear_29 : decode cX2_clear 29 = .ok (.iconst 0, 1) := by decide +kernel
theorem dX2_clear_30 : decode cX2_clear 30 = .ok (.putfield 53, 3) := by decide +kernel
theorem dX2_clear_33 : decode cX2_clear 33 = .ok (.return_, 1) := by decide +kernel
theorem dX0_empty_0 : decode cX0_empty 0 = .ok (.aload_n 0, 1) := by decide +kernel
theorem dX0_empty_1 : decode cX0_empty 1 = .ok (.getfield 15, 3) := by decide +kernel
theorem dX0_empty_4 : decode cX0_empty 4 = .ok (.iconst 0, 1) := by decide +kernel
theorem dX0_empty_5 : decode cX0_empty 5 = .ok (.invokestatic 23, 3) := by decide +kernel
theorem dX0_empty_8 : decode cX0_empty 8 = .ok (.aload_n 0, 1) := by decide +kernel
theorem dX0_empty_9 : decode cX0_empty 9 = .ok (.iconst 0, 1) := by decide +kernel
theorem dX0_empty_10 : decode cX0_empty 10 = .ok (.putfield 19, 3) := by decide +kernel
theorem dX0_empty_13 : decode cX0_empty 13 = .ok (.return_, 1) := by decide +kernel
theorem dJ7_fill_0 : decode cJ7_fill 0 = .ok (.iconst 0, 1) := by decide +kernel
theorem dJ7_fill_1 : decode cJ7_fill 1 = .ok (.istore_n 2, 1) := by decide +kernel
theorem dJ7_fill_2 : decode cJ7_fill 2 = .ok (.aload_n 0, 1) := by decide +kernel
theorem dJ7_fill_3 : decode cJ7_fill 3 = .ok (.arraylength, 1) := by decide +kernel
theorem dJ7_fill_4 : decode cJ7_fill 4 = .ok (.istore_n 3, 1) := by decide +kernel
theorem dJ7_fill_5 : decode cJ7_fill 5 = .ok (.iload_n 2, 1) := by decide +kernel
theorem dJ7_fill_6 : decode cJ7_fill 6 = .ok (.iload_n 3, 1) := by decide +kernel
theorem dJ7_fill_7 : decode cJ7_fill 7 = .ok (.if_icmp .ge 13, 3) := by decide +kernel
theorem dJ7_fill_10 : decode cJ7_fill 10 = .ok (.aload_n 0, 1) := by decide +kernel
theorem dJ7_fill_11 : decode cJ7_fill 11 = .ok (.iload_n 2, 1) := by decide +kernel
theorem dJ7_fill_12 : decode cJ7_fill 12 = .ok (.iload_n 1, 1) := by decide +kernel
theorem dJ7_fill_13 : decode cJ7_fill 13 = .ok (.iastore, 1) := by decide +kernel
theorem dJ7_fill_14 : decode cJ7_fill 14 = .ok (.iinc 2 1, 3) := by decide +kernel
theorem dJ7_fill_17 : decode cJ7_fill 17 = .ok (.goto (-12), 3) := by decide +kernel
theorem dJ7_fill_20 : decode cJ7_fill 20 = .ok (.return_, 1) := by decide +kernel
theorem dX1_goToStart_0 : decode cX1_goToStart 0 = .ok (.aload_n 0, 1) := by decide +kernel
theorem dX1_goToStart_1 : decode cX1_goToStart 1 = .ok (.iconst 0, 1) := by decide +kernel
theorem dX1_goToStart_2 : decode cX1_goToStart 2 = .ok (.iconst 0, 1) := by decide +kernel
theorem dX1_goToStart_3 : decode cX1_goToStart 3 = .ok (.iconst 0, 1) := by decide +kernel
theorem dX1_goToStart_4 : decode cX1_goToStart 4 = .ok (.invokevirtual 34, 3) := by decide +kernel
theorem dX1_goToStart_7 : decode cX1_goToStart 7 = .ok (.aload_n 0, 1) := by decide +kernel
theorem dX1_goToStart_8 : decode cX1_goToStart 8 = .ok (.iconst 0, 1) := by decide +kernel
theorem dX1_goToStart_9 : decode cX1_goToStart 9 = .ok (.putfield 31, 3) := by decide +kernel
theorem dX1_goToStart_12 : decode cX1_goToStart 12 = .ok (.return_, 1) := by decide +kernel
theorem dX1_goBack_0 : decode cX1_goBack 0 = .ok (.aload_n 0, 1) := by decide +kernel
theorem dX1_goBack_1 : decode cX1_goBack 1 = .ok (.iload_n 1, 1) := by decide +kernel
theorem dX1_goBack_2 : decode cX1_goBack 2 = .ok (.putfield 22, 3) := by decide +kernel
theorem dX1_goBack_5 : decode cX1_goBack 5 = .ok (.aload_n 0, 1) := by decide +kernel
theorem dX1_goBack_6 : decode cX1_goBack 6 = .ok (.iload_n 2, 1) := by decide +kernel
theorem dX1_goBack_7 : decode cX1_goBack 7 = .ok (.putfield 25, 3) := by decide +kernel
theorem dX1_goBack_10 : decode cX1_goBack 10 = .ok (.aload_n 0, 1) := by decide +kernel
theorem dX1_goBack_11 : decode cX1_goBack 11 = .ok (.iload_n 3, 1) := by decide +kernel
theorem dX1_goBack_12 : decode cX1_goBack 12 = .ok (.putfield 28, 3) := by decide +kernel
theorem dX1_goBack_15 : decode cX1_goBack 15 = .ok (.return_, 1) := by decide +kernel
theorem dL_cell_0 : decode cL_cell 0 = .ok (.iload_n 1, 1) := by decide +kernel
theorem dL_cell_1 : decode cL_cell 1 = .ok (.aload_n 0, 1) := by decide +kernel
theorem dL_cell_2 : decode cL_cell 2 = .ok (.arraylength, 1) := by decide +kernel
theorem dL_cell_3 : decode cL_cell 3 = .ok (.if_icmp .ge 9, 3) := by decide +kernel
theorem dL_cell_6 : decode cL_cell 6 = .ok (.aload_n 0, 1) := by decide +kernel
theorem dL_cell_7 : decode cL_cell 7 = .ok (.iload_n 1, 1) := by decide +kernel
theorem dL_cell_8 : decode cL_cell 8 = .ok (.iaload, 1) := by decide +kernel
theorem dL_cell_9 : decode cL_cell 9 = .ok (.goto 4, 3) := by decide +kernel
theorem dL_cell_12 : decode cL_cell 12 = .ok (.iconst 0, 1) := by decide +kernel
theorem dL_cell_13 : decode cL_cell 13 = .ok (.ireturn, 1) := by decide +kernel
theorem dL_put_0 : decode cL_put 0 = .ok (.aload_n 3, 1) := by decide +kernel
theorem dL_put_1 : decode cL_put 1 = .ok (.iconst 0, 1) := by decide +kernel
theorem dL_put_2 : decode cL_put 2 = .ok (.aload_n 0, 1) := by decide +kernel
theorem dL_put_3 : decode cL_put 3 = .ok (.iload_n 1, 1) := by decide +kernel
theorem dL_put_4 : decode cL_put 4 = .ok (.iload_n 2, 1) := by decide +kernel
theorem dL_put_5 : decode cL_put 5 = .ok (.invokevirtual 7, 3) := by decide +kernel
theorem dL_put_8 : decode cL_put 8 = .ok (.i2l, 1) := by decide +kernel
theorem dL_put_9 : decode cL_put 9 = .ok (.lastore, 1) := by decide +kernel
theorem dL_put_10 : decode cL_put 10 = .ok (.goto 11, 3) := by decide +kernel
theorem dL_put_13 : decode cL_put 13 = .ok (.astore 4, 2) := by decide +kernel
theorem dL_put_15 : decode cL_put 15 = .ok (.iconst 1, 1) := by decide +kernel
theorem dL_put_16 : decode cL_put 16 = .ok (.ireturn, 1) := by decide +kernel
theorem dL_put_17 : decode cL_put 17 = .ok (.astore 4, 2) := by decide +kernel
theorem dL_put_19 : decode cL_put 19 = .ok (.iconst 2, 1) := by decide +kernel
theorem dL_put_20 : decode cL_put 20 = .ok (.ireturn, 1) := by decide +kernel
theorem dL_put_21 : decode cL_put 21 = .ok (.iconst 0, 1) := by decide +kernel
theorem dL_put_22 : decode cL_put 22 = .ok (.ireturn, 1) := by decide +kernel
theorem dX2_put_0 : decode cX2_put 0 = .ok (.iload_n 1, 1) := by decide +kernel
theorem dX2_put_1 : decode cX2_put 1 = .ok (.invokestatic 56, 3) := by decide +kernel
theorem dX2_put_4 : decode cX2_put 4 = .ok (.aload_n 0, 1) := by decide +kernel
theorem dX2_put_5 : decode cX2_put 5 = .ok (.iload_n 1, 1) := by decide +kernel
theorem dX2_put_6 : decode cX2_put 6 = .ok (.invokevirtual 60, 3) := by decide +kernel
theorem dX2_put_9 : decode cX2_put 9 = .ok (.aload_n 0, 1) := by decide +kernel
theorem dX2_put_10 : decode cX2_put 10 = .ok (.invokevirtual 63, 3) := by decide +kernel
theorem dX2_put_13 : decode cX2_put 13 = .ok (.aload_n 0, 1) := by decide +kernel
theorem dX2_put_14 : decode cX2_put 14 = .ok (.getfield 43, 3) := by decide +kernel
theorem dX2_put_17 : decode cX2_put 17 = .ok (.getfield 66, 3) := by decide +kernel
theorem dX2_put_20 : decode cX2_put 20 = .ok (.istore_n 3, 1) := by decide +kernel
theorem dX2_put_21 : decode cX2_put 21 = .ok (.iconst 0, 1) := by decide +kernel
theorem dX2_put_22 : decode cX2_put 22 = .ok (.istore 4, 2) := by decide +kernel
theorem dX2_put_24 : decode cX2_put 24 = .ok (.iload 4, 2) := by decide +kernel
theorem dX2_put_26 : decode cX2_put 26 = .ok (.iload_n 1, 1) := by decide +kernel
theorem dX2_put_27 : decode cX2_put 27 = .ok (.if_icmp .ge 24, 3) := by decide +kernel
theorem dX2_put_30 : decode cX2_put 30 = .ok (.aload_n 0, 1) := by decide +kernel
theorem dX2_put_31 : decode cX2_put 31 = .ok (.iload_n 2, 1) := by decide +kernel
theorem dX2_put_32 : decode cX2_put 32 = .ok (.aload_n 0, 1) := by decide +kernel
theorem dX2_put_33 : decode cX2_put 33 = .ok (.iload 4, 2) := by decide +kernel
theorem dX2_put_35 : decode cX2_put 35 = .ok (.iload_n 1, 1) := by decide +kernel
theorem dX2_put_36 : decode cX2_put 36 = .ok (.invokevirtual 69, 3) := by decide +kernel
theorem dX2_put_39 : decode cX2_put 39 = .ok (.iushr, 1) := by decide +kernel
theorem dX2_put_40 : decode cX2_put 40 = .ok (.iconst 1, 1) := by decide +kernel
theorem dX2_put_41 : decode cX2_put 41 = .ok (.iand, 1) := by decide +kernel
theorem dX2_put_42 : decode cX2_put 42 = .ok (.invokevirtual 72, 3) := by decide +kernel
theorem dX2_put_45 : decode cX2_put 45 = .ok (.iinc 4 1, 3) := by decide +kernel
theorem dX2_put_48 : decode cX2_put 48 = .ok (.goto (-24), 3) := by decide +kernel
theorem dX2_put_51 : decode cX2_put 51 = .ok (.iload_n 3, 1) := by decide +kernel
theorem dX2_put_52 : decode cX2_put 52 = .ok (.ireturn, 1) := by decide +kernel
theorem dX2_refuseOtherWidths_0 : decode cX2_refuseOtherWidths 0 = .ok (.iload_n 0, 1) := by decide +kernel
theorem dX2_refuseOtherWidths_1 : decode cX2_refuseOtherWidths 1 = .ok (.iconst 1, 1) := by decide +kernel
theorem dX2_refuseOtherWidths_2 : decode cX2_refuseOtherWidths 2 = .ok (.if_icmp .lt 9, 3) := by decide +kernel
theorem dX2_refuseOtherWidths_5 : decode cX2_refuseOtherWidths 5 = .ok (.iload_n 0, 1) := by decide +kernel
theorem dX2_refuseOtherWidths_6 : decode cX2_refuseOtherWidths 6 = .ok (.bipush 32, 2) := by decide +kernel
theorem dX2_refuseOtherWidths_8 : decode cX2_refuseOtherWidths 8 = .ok (.if_icmp .le 13, 3) := by decide +kernel
theorem dX2_refuseOtherWidths_11 : decode cX2_refuseOtherWidths 11 = .ok (.new 86, 3) := by decide +kernel
theorem dX2_refuseOtherWidths_14 : decode cX2_refuseOtherWidths 14 = .ok (.dup, 1) := by decide +kernel
theorem dX2_refuseOtherWidths_15 : decode cX2_refuseOtherWidths 15 = .ok (.ldc 182, 2) := by decide +kernel
theorem dX2_refuseOtherWidths_17 : decode cX2_refuseOtherWidths 17 = .ok (.invokespecial 90, 3) := by decide +kernel
theorem dX2_refuseOtherWidths_20 : decode cX2_refuseOtherWidths 20 = .ok (.athrow, 1) := by decide +kernel
theorem dX2_refuseOtherWidths_21 : decode cX2_refuseOtherWidths 21 = .ok (.return_, 1) := by decide +kernel
theorem dX2_refuseToOverfill_0 : decode cX2_refuseToOverfill 0 = .ok (.aload_n 0, 1) := by decide +kernel
theorem dX2_refuseToOverfill_1 : decode cX2_refuseToOverfill 1 = .ok (.getfield 43, 3) := by decide +kernel
theorem dX2_refuseToOverfill_4 : decode cX2_refuseToOverfill 4 = .ok (.getfield 66, 3) := by decide +kernel
theorem dX2_refuseToOverfill_7 : decode cX2_refuseToOverfill 7 = .ok (.iconst 2, 1) := by decide +kernel
theorem dX2_refuseToOverfill_8 : decode cX2_refuseToOverfill 8 = .ok (.iload_n 1, 1) := by decide +kernel
theorem dX2_refuseToOverfill_9 : decode cX2_refuseToOverfill 9 = .ok (.imul, 1) := by decide +kernel
theorem dX2_refuseToOverfill_10 : decode cX2_refuseToOverfill 10 = .ok (.iadd, 1) := by decide +kernel
theorem dX2_refuseToOverfill_11 : decode cX2_refuseToOverfill 11 = .ok (.bipush 16, 2) := by decide +kernel
theorem dX2_refuseToOverfill_13 : decode cX2_refuseToOverfill 13 = .ok (.iadd, 1) := by decide +kernel
theorem dX2_refuseToOverfill_14 : decode cX2_refuseToOverfill 14 = .ok (.sipush 4800, 3) := by decide +kernel
theorem dX2_refuseToOverfill_17 : decode cX2_refuseToOverfill 17 = .ok (.if_icmp .le 13, 3) := by decide +kernel
theorem dX2_refuseToOverfill_20 : decode cX2_refuseToOverfill 20 = .ok (.new 184, 3) := by decide +kernel
theorem dX2_refuseToOverfill_23 : decode cX2_refuseToOverfill 23 = .ok (.dup, 1) := by decide +kernel
theorem dX2_refuseToOverfill_24 : decode cX2_refuseToOverfill 24 = .ok (.ldc 186, 2) := by decide +kernel
theorem dX2_refuseToOverfill_26 : decode cX2_refuseToOverfill 26 = .ok (.invokespecial 188, 3) := by decide +kernel
theorem dX2_refuseToOverfill_29 : decode cX2_refuseToOverfill 29 = .ok (.athrow, 1) := by decide +kernel
theorem dX2_refuseToOverfill_30 : decode cX2_refuseToOverfill 30 = .ok (.return_, 1) := by decide +kernel
theorem dX2_writeStuffedIfDue_0 : decode cX2_writeStuffedIfDue 0 = .ok (.aload_n 0, 1) := by decide +kernel
theorem dX2_writeStuffedIfDue_1 : decode cX2_writeStuffedIfDue 1 = .ok (.getfield 43, 3) := by decide +kernel
theorem dX2_writeStuffedIfDue_4 : decode cX2_writeStuffedIfDue 4 = .ok (.invokevirtual 148, 3) := by decide +kernel
theorem dX2_writeStuffedIfDue_7 : decode cX2_writeStuffedIfDue 7 = .ok (.ifCond .eq 25, 3) := by decide +kernel
theorem dX2_writeStuffedIfDue_10 : decode cX2_writeStuffedIfDue 10 = .ok (.aload_n 0, 1) := by decide +kernel
theorem dX2_writeStuffedIfDue_11 : decode cX2_writeStuffedIfDue 11 = .ok (.getfield 34, 3) := by decide +kernel
theorem dX2_writeStuffedIfDue_14 : decode cX2_writeStuffedIfDue 14 = .ok (.aload_n 0, 1) := by decide +kernel
theorem dX2_writeStuffedIfDue_15 : decode cX2_writeStuffedIfDue 15 = .ok (.getfield 43, 3) := by decide +kernel
theorem dX2_writeStuffedIfDue_18 : decode cX2_writeStuffedIfDue 18 = .ok (.getfield 66, 3) := by decide +kernel
theorem dX2_writeStuffedIfDue_21 : decode cX2_writeStuffedIfDue 21 = .ok (.iconst 0, 1) := by decide +kernel
theorem dX2_writeStuffedIfDue_22 : decode cX2_writeStuffedIfDue 22 = .ok (.invokevirtual 108, 3) := by decide +kernel
theorem dX2_writeStuffedIfDue_25 : decode cX2_writeStuffedIfDue 25 = .ok (.aload_n 0, 1) := by decide +kernel
theorem dX2_writeStuffedIfDue_26 : decode cX2_writeStuffedIfDue 26 = .ok (.getfield 43, 3) := by decide +kernel
theorem dX2_writeStuffedIfDue_29 : decode cX2_writeStuffedIfDue 29 = .ok (.invokevirtual 151, 3) := by decide +kernel
theorem dX2_writeStuffedIfDue_32 : decode cX2_writeStuffedIfDue 32 = .ok (.return_, 1) := by decide +kernel
theorem dX0_setBit_0 : decode cX0_setBit 0 = .ok (.iload_n 1, 1) := by decide +kernel
theorem dX0_setBit_1 : decode cX0_setBit 1 = .ok (.iconst 3, 1) := by decide +kernel
theorem dX0_setBit_2 : decode cX0_setBit 2 = .ok (.ishr, 1) := by decide +kernel
theorem dX0_setBit_3 : decode cX0_setBit 3 = .ok (.istore_n 3, 1) := by decide +kernel
theorem dX0_setBit_4 : decode cX0_setBit 4 = .ok (.iload_n 3, 1) := by decide +kernel
theorem dX0_setBit_5 : decode cX0_setBit 5 = .ok (.ifCond .lt 12, 3) := by decide +kernel
theorem dX0_setBit_8 : decode cX0_setBit 8 = .ok (.iload_n 3, 1) := by decide +kernel
theorem dX0_setBit_9 : decode cX0_setBit 9 = .ok (.aload_n 0, 1) := by decide +kernel
theorem dX0_setBit_10 : decode cX0_setBit 10 = .ok (.getfield 15, 3) := by decide +kernel
theorem dX0_setBit_13 : decode cX0_setBit 13 = .ok (.arraylength, 1) := by decide +kernel
theorem dX0_setBit_14 : decode cX0_setBit 14 = .ok (.if_icmp .lt 4, 3) := by decide +kernel
theorem dX0_setBit_17 : decode cX0_setBit 17 = .ok (.return_, 1) := by decide +kernel
theorem dX0_setBit_18 : decode cX0_setBit 18 = .ok (.aload_n 0, 1) := by decide +kernel
theorem dX0_setBit_19 : decode cX0_setBit 19 = .ok (.iload_n 1, 1) := by decide +kernel
theorem dX0_setBit_20 : decode cX0_setBit 20 = .ok (.invokevirtual 33, 3) := by decide +kernel
theorem dX0_setBit_23 : decode cX0_setBit 23 = .ok (.istore 4, 2) := by decide +kernel
theorem dX0_setBit_25 : decode cX0_setBit 25 = .ok (.aload_n 0, 1) := by decide +kernel
theorem dX0_setBit_26 : decode cX0_setBit 26 = .ok (.getfield 15, 3) := by decide +kernel
theorem dX0_setBit_29 : decode cX0_setBit 29 = .ok (.iload_n 3, 1) := by decide +kernel
theorem dX0_setBit_30 : decode cX0_setBit 30 = .ok (.aload_n 0, 1) := by decide +kernel
theorem dX0_setBit_31 : decode cX0_setBit 31 = .ok (.getfield 15, 3) := by decide +kernel
theorem dX0_setBit_34 : decode cX0_setBit 34 = .ok (.iload_n 3, 1) := by decide +kernel
theorem dX0_setBit_35 : decode cX0_setBit 35 = .ok (.iaload, 1) := by decide +kernel
theorem dX0_setBit_36 : decode cX0_setBit 36 = .ok (.iconst 1, 1) := by decide +kernel
theorem dX0_setBit_37 : decode cX0_setBit 37 = .ok (.iload 4, 2) := by decide +kernel
theorem dX0_setBit_39 : decode cX0_setBit 39 = .ok (.ishl, 1) := by decide +kernel
theorem dX0_setBit_40 : decode cX0_setBit 40 = .ok (.iconst (-1), 1) := by decide +kernel
theorem dX0_setBit_41 : decode cX0_setBit 41 = .ok (.ixor, 1) := by decide +kernel
theorem dX0_setBit_42 : decode cX0_setBit 42 = .ok (.iand, 1) := by decide +kernel
theorem dX0_setBit_43 : decode cX0_setBit 43 = .ok (.iload_n 2, 1) := by decide +kernel
theorem dX0_setBit_44 : decode cX0_setBit 44 = .ok (.iload 4, 2) := by decide +kernel
theorem dX0_setBit_46 : decode cX0_setBit 46 = .ok (.ishl, 1) := by decide +kernel
theorem dX0_setBit_47 : decode cX0_setBit 47 = .ok (.ior, 1) := by decide +kernel
theorem dX0_setBit_48 : decode cX0_setBit 48 = .ok (.iastore, 1) := by decide +kernel
theorem dX0_setBit_49 : decode cX0_setBit 49 = .ok (.aload_n 0, 1) := by decide +kernel
theorem dX0_setBit_50 : decode cX0_setBit 50 = .ok (.aload_n 0, 1) := by decide +kernel
theorem dX0_setBit_51 : decode cX0_setBit 51 = .ok (.getfield 19, 3) := by decide +kernel
theorem dX0_setBit_54 : decode cX0_setBit 54 = .ok (.iload_n 3, 1) := by decide +kernel
theorem dX0_setBit_55 : decode cX0_setBit 55 = .ok (.iconst 1, 1) := by decide +kernel
theorem dX0_setBit_56 : decode cX0_setBit 56 = .ok (.iadd, 1) := by decide +kernel
theorem dX0_setBit_57 : decode cX0_setBit 57 = .ok (.invokestatic 36, 3) := by decide +kernel
theorem dX0_setBit_60 : decode cX0_setBit 60 = .ok (.putfield 19, 3) := by decide +kernel
theorem dX0_setBit_63 : decode cX0_setBit 63 = .ok (.return_, 1) := by decide +kernel
theorem dX2_shiftOf_0 : decode cX2_shiftOf 0 = .ok (.aload_n 0, 1) := by decide +kernel
theorem dX2_shiftOf_1 : decode cX2_shiftOf 1 = .ok (.getfield 22, 3) := by decide +kernel
theorem dX2_shiftOf_4 : decode cX2_shiftOf 4 = .ok (.ifCond .eq 7, 3) := by decide +kernel
theorem dX2_shiftOf_7 : decode cX2_shiftOf 7 = .ok (.iload_n 1, 1) := by decide +kernel
theorem dX2_shiftOf_8 : decode cX2_shiftOf 8 = .ok (.goto 8, 3) := by decide +kernel
theorem dX2_shiftOf_11 : decode cX2_shiftOf 11 = .ok (.iload_n 2, 1) := by decide +kernel
theorem dX2_shiftOf_12 : decode cX2_shiftOf 12 = .ok (.iconst 1, 1) := by decide +kernel
theorem dX2_shiftOf_13 : decode cX2_shiftOf 13 = .ok (.isub, 1) := by decide +kernel
theorem dX2_shiftOf_14 : decode cX2_shiftOf 14 = .ok (.iload_n 1, 1) := by decide +kernel
theorem dX2_shiftOf_15 : decode cX2_shiftOf 15 = .ok (.isub, 1) := by decide +kernel
theorem dX2_shiftOf_16 : decode cX2_shiftOf 16 = .ok (.ireturn, 1) := by decide +kernel
theorem dX2_writeBit_0 : decode cX2_writeBit 0 = .ok (.aload_n 0, 1) := by decide +kernel
theorem dX2_writeBit_1 : decode cX2_writeBit 1 = .ok (.invokevirtual 63, 3) := by decide +kernel
theorem dX2_writeBit_4 : decode cX2_writeBit 4 = .ok (.aload_n 0, 1) := by decide +kernel
theorem dX2_writeBit_5 : decode cX2_writeBit 5 = .ok (.getfield 34, 3) := by decide +kernel
theorem dX2_writeBit_8 : decode cX2_writeBit 8 = .ok (.aload_n 0, 1) := by decide +kernel
theorem dX2_writeBit_9 : decode cX2_writeBit 9 = .ok (.getfield 43, 3) := by decide +kernel
theorem dX2_writeBit_12 : decode cX2_writeBit 12 = .ok (.getfield 66, 3) := by decide +kernel
theorem dX2_writeBit_15 : decode cX2_writeBit 15 = .ok (.iload_n 1, 1) := by decide +kernel
theorem dX2_writeBit_16 : decode cX2_writeBit 16 = .ok (.invokevirtual 108, 3) := by decide +kernel
theorem dX2_writeBit_19 : decode cX2_writeBit 19 = .ok (.aload_n 0, 1) := by decide +kernel
theorem dX2_writeBit_20 : decode cX2_writeBit 20 = .ok (.getfield 43, 3) := by decide +kernel
theorem dX2_writeBit_23 : decode cX2_writeBit 23 = .ok (.iload_n 1, 1) := by decide +kernel
theorem dX2_writeBit_24 : decode cX2_writeBit 24 = .ok (.invokevirtual 154, 3) := by decide +kernel
theorem dX2_writeBit_27 : decode cX2_writeBit 27 = .ok (.aload_n 0, 1) := by decide +kernel
theorem dX2_writeBit_28 : decode cX2_writeBit 28 = .ok (.getfield 26, 3) := by decide +kernel
theorem dX2_writeBit_31 : decode cX2_writeBit 31 = .ok (.ifCond .eq 7, 3) := by decide +kernel
theorem dX2_writeBit_34 : decode cX2_writeBit 34 = .ok (.aload_n 0, 1) := by decide +kernel
theorem dX2_writeBit_35 : decode cX2_writeBit 35 = .ok (.invokevirtual 63, 3) := by decide +kernel
theorem dX2_writeBit_38 : decode cX2_writeBit 38 = .ok (.return_, 1) := by decide +kernel
theorem dL_align_0 : decode cL_align 0 = .ok (.aload_n 1, 1) := by decide +kernel
theorem dL_align_1 : decode cL_align 1 = .ok (.iconst 0, 1) := by decide +kernel
theorem dL_align_2 : decode cL_align 2 = .ok (.aload_n 0, 1) := by decide +kernel
theorem dL_align_3 : decode cL_align 3 = .ok (.invokevirtual 17, 3) := by decide +kernel
theorem dL_align_6 : decode cL_align 6 = .ok (.i2l, 1) := by decide +kernel
theorem dL_align_7 : decode cL_align 7 = .ok (.lastore, 1) := by decide +kernel
theorem dL_align_8 : decode cL_align 8 = .ok (.goto 6, 3) := by decide +kernel
theorem dL_align_11 : decode cL_align 11 = .ok (.astore_n 2, 1) := by decide +kernel
theorem dL_align_12 : decode cL_align 12 = .ok (.iconst 1, 1) := by decide +kernel
theorem dL_align_13 : decode cL_align 13 = .ok (.ireturn, 1) := by decide +kernel
theorem dL_align_14 : decode cL_align 14 = .ok (.iconst 0, 1) := by decide +kernel
theorem dL_align_15 : decode cL_align 15 = .ok (.ireturn, 1) := by decide +kernel
theorem dX2_align_0 : decode cX2_align 0 = .ok (.aload_n 0, 1) := by decide +kernel
theorem dX2_align_1 : decode cX2_align 1 = .ok (.bipush 16, 2) := by decide +kernel
theorem dX2_align_3 : decode cX2_align 3 = .ok (.invokevirtual 60, 3) := by decide +kernel
theorem dX2_align_6 : decode cX2_align 6 = .ok (.aload_n 0, 1) := by decide +kernel
theorem dX2_align_7 : decode cX2_align 7 = .ok (.invokevirtual 75, 3) := by decide +kernel
theorem dX2_align_10 : decode cX2_align 10 = .ok (.ireturn, 1) := by decide +kernel
theorem dX2_writeTillAligned_0 : decode cX2_writeTillAligned 0 = .ok (.iconst 0, 1) := by decide +kernel
theorem dX2_writeTillAligned_1 : decode cX2_writeTillAligned 1 = .ok (.istore_n 1, 1) := by decide +kernel
theorem dX2_writeTillAligned_2 : decode cX2_writeTillAligned 2 = .ok (.iconst 0, 1) := by decide +kernel
theorem dX2_writeTillAligned_3 : decode cX2_writeTillAligned 3 = .ok (.istore_n 2, 1) := by decide +kernel
theorem dX2_writeTillAligned_4 : decode cX2_writeTillAligned 4 = .ok (.iload_n 2, 1) := by decide +kernel
theorem dX2_writeTillAligned_5 : decode cX2_writeTillAligned 5 = .ok (.bipush 16, 2) := by decide +kernel
theorem dX2_writeTillAligned_7 : decode cX2_writeTillAligned 7 = .ok (.if_icmp .ge 27, 3) := by decide +kernel
theorem dX2_writeTillAligned_10 : decode cX2_writeTillAligned 10 = .ok (.aload_n 0, 1) := by decide +kernel
theorem dX2_writeTillAligned_11 : decode cX2_writeTillAligned 11 = .ok (.getfield 43, 3) := by decide +kernel
theorem dX2_writeTillAligned_14 : decode cX2_writeTillAligned 14 = .ok (.invokevirtual 144, 3) := by decide +kernel
theorem dX2_writeTillAligned_17 : decode cX2_writeTillAligned 17 = .ok (.ifCond .ne 17, 3) := by decide +kernel
theorem dX2_writeTillAligned_20 : decode cX2_writeTillAligned 20 = .ok (.aload_n 0, 1) := by decide +kernel
theorem dX2_writeTillAligned_21 : decode cX2_writeTillAligned 21 = .ok (.iconst 0, 1) := by decide +kernel
theorem dX2_writeTillAligned_22 : decode cX2_writeTillAligned 22 = .ok (.invokevirtual 72, 3) := by decide +kernel
theorem dX2_writeTillAligned_25 : decode cX2_writeTillAligned 25 = .ok (.iinc 1 1, 3) := by decide +kernel
theorem dX2_writeTillAligned_28 : decode cX2_writeTillAligned 28 = .ok (.iinc 2 1, 3) := by decide +kernel
theorem dX2_writeTillAligned_31 : decode cX2_writeTillAligned 31 = .ok (.goto (-27), 3) := by decide +kernel
theorem dX2_writeTillAligned_34 : decode cX2_writeTillAligned 34 = .ok (.iload_n 1, 1) := by decide +kernel
theorem dX2_writeTillAligned_35 : decode cX2_writeTillAligned 35 = .ok (.ireturn, 1) := by decide +kernel
theorem dL_mark_0 : decode cL_mark 0 = .ok (.aload_n 2, 1) := by decide +kernel
theorem dL_mark_1 : decode cL_mark 1 = .ok (.iconst 0, 1) := by decide +kernel
theorem dL_mark_2 : decode cL_mark 2 = .ok (.aload_n 0, 1) := by decide +kernel
theorem dL_mark_3 : decode cL_mark 3 = .ok (.iload_n 1, 1) := by decide +kernel
theorem dL_mark_4 : decode cL_mark 4 = .ok (.invokevirtual 21, 3) := by decide +kernel
theorem dL_mark_7 : decode cL_mark 7 = .ok (.i2l, 1) := by decide +kernel
theorem dL_mark_8 : decode cL_mark 8 = .ok (.lastore, 1) := by decide +kernel
theorem dL_mark_9 : decode cL_mark 9 = .ok (.goto 12, 3) := by decide +kernel
theorem dL_mark_12 : decode cL_mark 12 = .ok (.astore_n 3, 1) := by decide +kernel
theorem dL_mark_13 : decode cL_mark 13 = .ok (.iconst 1, 1) := by decide +kernel
theorem dL_mark_14 : decode cL_mark 14 = .ok (.ireturn, 1) := by decide +kernel
theorem dL_mark_15 : decode cL_mark 15 = .ok (.astore_n 3, 1) := by decide +kernel
theorem dL_mark_16 : decode cL_mark 16 = .ok (.iconst 2, 1) := by decide +kernel
theorem dL_mark_17 : decode cL_mark 17 = .ok (.ireturn, 1) := by decide +kernel
theorem dL_mark_18 : decode cL_mark 18 = .ok (.astore_n 3, 1) := by decide +kernel
theorem dL_mark_19 : decode cL_mark 19 = .ok (.iconst 3, 1) := by decide +kernel
theorem dL_mark_20 : decode cL_mark 20 = .ok (.ireturn, 1) := by decide +kernel
theorem dL_mark_21 : decode cL_mark 21 = .ok (.iconst 0, 1) := by decide +kernel
theorem dL_mark_22 : decode cL_mark 22 = .ok (.ireturn, 1) := by decide +kernel
theorem dX2_mark_0 : decode cX2_mark 0 = .ok (.aload_n 0, 1) := by decide +kernel
theorem dX2_mark_1 : decode cX2_mark 1 = .ok (.getfield 18, 3) := by decide +kernel
theorem dX2_mark_4 : decode cX2_mark 4 = .ok (.iconst 1, 1) := by decide +kernel
theorem dX2_mark_5 : decode cX2_mark 5 = .ok (.if_icmp .eq 13, 3) := by decide +kernel
theorem dX2_mark_8 : decode cX2_mark 8 = .ok (.new 79, 3) := by decide +kernel
theorem dX2_mark_11 : decode cX2_mark 11 = .ok (.dup, 1) := by decide +kernel
theorem dX2_mark_12 : decode cX2_mark 12 = .ok (.ldc 81, 2) := by decide +kernel
theorem dX2_mark_14 : decode cX2_mark 14 = .ok (.invokespecial 83, 3) := by decide +kernel
theorem dX2_mark_17 : decode cX2_mark 17 = .ok (.athrow, 1) := by decide +kernel
theorem dX2_mark_18 : decode cX2_mark 18 = .ok (.iload_n 1, 1) := by decide +kernel
theorem dX2_mark_19 : decode cX2_mark 19 = .ok (.sipush 128, 3) := by decide +kernel
theorem dX2_mark_22 : decode cX2_mark 22 = .ok (.if_icmp .lt 10, 3) := by decide +kernel
theorem dX2_mark_25 : decode cX2_mark 25 = .ok (.iload_n 1, 1) := by decide +kernel
theorem dX2_mark_26 : decode cX2_mark 26 = .ok (.sipush 255, 3) := by decide +kernel
theorem dX2_mark_29 : decode cX2_mark 29 = .ok (.if_icmp .le 13, 3) := by decide +kernel
theorem dX2_mark_32 : decode cX2_mark 32 = .ok (.new 86, 3) := by decide +kernel
theorem dX2_mark_35 : decode cX2_mark 35 = .ok (.dup, 1) := by decide +kernel
theorem dX2_mark_36 : decode cX2_mark 36 = .ok (.ldc 88, 2) := by decide +kernel
theorem dX2_mark_38 : decode cX2_mark 38 = .ok (.invokespecial 90, 3) := by decide +kernel
theorem dX2_mark_41 : decode cX2_mark 41 = .ok (.athrow, 1) := by decide +kernel
theorem dX2_mark_42 : decode cX2_mark 42 = .ok (.aload_n 0, 1) := by decide +kernel
theorem dX2_mark_43 : decode cX2_mark 43 = .ok (.bipush 32, 2) := by decide +kernel
theorem dX2_mark_45 : decode cX2_mark 45 = .ok (.invokevirtual 60, 3) := by decide +kernel
theorem dX2_mark_48 : decode cX2_mark 48 = .ok (.aload_n 0, 1) := by decide +kernel
theorem dX2_mark_49 : decode cX2_mark 49 = .ok (.invokevirtual 75, 3) := by decide +kernel
theorem dX2_mark_52 : decode cX2_mark 52 = .ok (.pop, 1) := by decide +kernel
theorem dX2_mark_53 : decode cX2_mark 53 = .ok (.aload_n 0, 1) := by decide +kernel
theorem dX2_mark_54 : decode cX2_mark 54 = .ok (.getfield 43, 3) := by decide +kernel
theorem dX2_mark_57 : decode cX2_mark 57 = .ok (.getfield 66, 3) := by decide +kernel
theorem dX2_mark_60 : decode cX2_mark 60 = .ok (.iconst 3, 1) := by decide +kernel
theorem dX2_mark_61 : decode cX2_mark 61 = .ok (.ishr, 1) := by decide +kernel
theorem dX2_mark_62 : decode cX2_mark 62 = .ok (.istore_n 2, 1) := by decide +kernel
theorem dX2_mark_63 : decode cX2_mark 63 = .ok (.aload_n 0, 1) := by decide +kernel
theorem dX2_mark_64 : decode cX2_mark 64 = .ok (.getfield 34, 3) := by decide +kernel
theorem dX2_mark_67 : decode cX2_mark 67 = .ok (.sipush 255, 3) := by decide +kernel
theorem dX2_mark_70 : decode cX2_mark 70 = .ok (.invokevirtual 91, 3) := by decide +kernel
theorem dX2_mark_73 : decode cX2_mark 73 = .ok (.aload_n 0, 1) := by decide +kernel
theorem dX2_mark_74 : decode cX2_mark 74 = .ok (.getfield 34, 3) := by decide +kernel
theorem dX2_mark_77 : decode cX2_mark 77 = .ok (.iload_n 1, 1) := by decide +kernel
theorem dX2_mark_78 : decode cX2_mark 78 = .ok (.invokevirtual 91, 3) := by decide +kernel
theorem dX2_mark_81 : decode cX2_mark 81 = .ok (.aload_n 0, 1) := by decide +kernel
theorem dX2_mark_82 : decode cX2_mark 82 = .ok (.getfield 43, 3) := by decide +kernel
theorem dX2_mark_85 : decode cX2_mark 85 = .ok (.invokevirtual 94, 3) := by decide +kernel
theorem dX2_mark_88 : decode cX2_mark 88 = .ok (.iload_n 2, 1) := by decide +kernel
theorem dX2_mark_89 : decode cX2_mark 89 = .ok (.ireturn, 1) := by decide +kernel
theorem dX0_addByte_0 : decode cX0_addByte 0 = .ok (.aload_n 0, 1) := by decide +kernel
theorem dX0_addByte_1 : decode cX0_addByte 1 = .ok (.getfield 19, 3) := by decide +kernel
theorem dX0_addByte_4 : decode cX0_addByte 4 = .ok (.ifCond .lt 35, 3) := by decide +kernel
theorem dX0_addByte_7 : decode cX0_addByte 7 = .ok (.aload_n 0, 1) := by decide +kernel
theorem dX0_addByte_8 : decode cX0_addByte 8 = .ok (.getfield 19, 3) := by decide +kernel
theorem dX0_addByte_11 : decode cX0_addByte 11 = .ok (.aload_n 0, 1) := by decide +kernel
theorem dX0_addByte_12 : decode cX0_addByte 12 = .ok (.getfield 15, 3) := by decide +kernel
theorem dX0_addByte_15 : decode cX0_addByte 15 = .ok (.arraylength, 1) := by decide +kernel
theorem dX0_addByte_16 : decode cX0_addByte 16 = .ok (.if_icmp .ge 23, 3) := by decide +kernel
theorem dX0_addByte_19 : decode cX0_addByte 19 = .ok (.aload_n 0, 1) := by decide +kernel
theorem dX0_addByte_20 : decode cX0_addByte 20 = .ok (.getfield 15, 3) := by decide +kernel
theorem dX0_addByte_23 : decode cX0_addByte 23 = .ok (.aload_n 0, 1) := by decide +kernel
theorem dX0_addByte_24 : decode cX0_addByte 24 = .ok (.getfield 19, 3) := by decide +kernel
theorem dX0_addByte_27 : decode cX0_addByte 27 = .ok (.iload_n 1, 1) := by decide +kernel
theorem dX0_addByte_28 : decode cX0_addByte 28 = .ok (.iastore, 1) := by decide +kernel
theorem dX0_addByte_29 : decode cX0_addByte 29 = .ok (.aload_n 0, 1) := by decide +kernel
theorem dX0_addByte_30 : decode cX0_addByte 30 = .ok (.dup, 1) := by decide +kernel
theorem dX0_addByte_31 : decode cX0_addByte 31 = .ok (.getfield 19, 3) := by decide +kernel
theorem dX0_addByte_34 : decode cX0_addByte 34 = .ok (.iconst 1, 1) := by decide +kernel
theorem dX0_addByte_35 : decode cX0_addByte 35 = .ok (.iadd, 1) := by decide +kernel
theorem dX0_addByte_36 : decode cX0_addByte 36 = .ok (.putfield 19, 3) := by decide +kernel
theorem dX0_addByte_39 : decode cX0_addByte 39 = .ok (.return_, 1) := by decide +kernel
theorem dL_patch_0 : decode cL_patch 0 = .ok (.aload 4, 2) := by decide +kernel
theorem dL_patch_2 : decode cL_patch 2 = .ok (.iconst 0, 1) := by decide +kernel
theorem dL_patch_3 : decode cL_patch 3 = .ok (.aload_n 0, 1) := by decide +kernel
theorem dL_patch_4 : decode cL_patch 4 = .ok (.iload_n 1, 1) := by decide +kernel
theorem dL_patch_5 : decode cL_patch 5 = .ok (.iload_n 2, 1) := by decide +kernel
theorem dL_patch_6 : decode cL_patch 6 = .ok (.iload_n 3, 1) := by decide +kernel
theorem dL_patch_7 : decode cL_patch 7 = .ok (.invokevirtual 27, 3) := by decide +kernel
theorem dL_patch_10 : decode cL_patch 10 = .ok (.i2l, 1) := by decide +kernel
theorem dL_patch_11 : decode cL_patch 11 = .ok (.lastore, 1) := by decide +kernel
theorem dL_patch_12 : decode cL_patch 12 = .ok (.goto 15, 3) := by decide +kernel
theorem dL_patch_15 : decode cL_patch 15 = .ok (.astore 5, 2) := by decide +kernel
theorem dL_patch_17 : decode cL_patch 17 = .ok (.iconst 1, 1) := by decide +kernel
theorem dL_patch_18 : decode cL_patch 18 = .ok (.ireturn, 1) := by decide +kernel
theorem dL_patch_19 : decode cL_patch 19 = .ok (.astore 5, 2) := by decide +kernel
theorem dL_patch_21 : decode cL_patch 21 = .ok (.iconst 2, 1) := by decide +kernel
theorem dL_patch_22 : decode cL_patch 22 = .ok (.ireturn, 1) := by decide +kernel
theorem dL_patch_23 : decode cL_patch 23 = .ok (.astore 5, 2) := by decide +kernel
theorem dL_patch_25 : decode cL_patch 25 = .ok (.iconst 3, 1) := by decide +kernel
theorem dL_patch_26 : decode cL_patch 26 = .ok (.ireturn, 1) := by decide +kernel
theorem dL_patch_27 : decode cL_patch 27 = .ok (.iconst 0, 1) := by decide +kernel
theorem dL_patch_28 : decode cL_patch 28 = .ok (.ireturn, 1) := by decide +kernel
theorem dX2_patch_0 : decode cX2_patch 0 = .ok (.aload_n 0, 1) := by decide +kernel
theorem dX2_patch_1 : decode cX2_patch 1 = .ok (.getfield 18, 3) := by decide +kernel
theorem dX2_patch_4 : decode cX2_patch 4 = .ok (.ifCond .eq 13, 3) := by decide +kernel
theorem dX2_patch_7 : decode cX2_patch 7 = .ok (.new 79, 3) := by decide +kernel
theorem dX2_patch_10 : decode cX2_patch 10 = .ok (.dup, 1) := by decide +kernel
theorem dX2_patch_11 : decode cX2_patch 11 = .ok (.ldc 97, 2) := by decide +kernel
theorem dX2_patch_13 : decode cX2_patch 13 = .ok (.invokespecial 83, 3) := by decide +kernel
theorem dX2_patch_16 : decode cX2_patch 16 = .ok (.athrow, 1) := by decide +kernel
theorem dX2_patch_17 : decode cX2_patch 17 = .ok (.iload_n 2, 1) := by decide +kernel
