/-! decode rows -/
theorem dX2_init_0 : decode cX2_init 0 = .ok (.aload_n 0, 1) := by decide +kernel
theorem dX2_init_1 : decode cX2_init 1 = .ok (.invokespecial 1, 3) := by decide +kernel
theorem dX2_init_4 : decode cX2_init 4 = .ok (.aload_n 0, 1) := by decide +kernel
theorem dX2_init_5 : decode cX2_init 5 = .ok (.bipush 24, 2) := by decide +kernel
theorem dX2_init_7 : decode cX2_init 7 = .ok (.newarray .boolean, 2) := by decide +kernel
theorem dX2_init_9 : decode cX2_init 9 = .ok (.putfield 9, 3) := by decide +kernel
theorem dX2_init_12 : decode cX2_init 12 = .ok (.aload_n 0, 1) := by decide +kernel
theorem dX2_init_13 : decode cX2_init 13 = .ok (.bipush 8, 2) := by decide +kernel
theorem dX2_init_15 : decode cX2_init 15 = .ok (.newarray .double, 2) := by decide +kernel
theorem dX2_init_17 : decode cX2_init 17 = .ok (.putfield 13, 3) := by decide +kernel
theorem dX2_init_20 : decode cX2_init 20 = .ok (.aload_n 0, 1) := by decide +kernel
theorem dX2_init_21 : decode cX2_init 21 = .ok (.iconst 5, 1) := by decide +kernel
theorem dX2_init_22 : decode cX2_init 22 = .ok (.anewarray 17, 3) := by decide +kernel
theorem dX2_init_25 : decode cX2_init 25 = .ok (.putfield 19, 3) := by decide +kernel
theorem dX2_init_28 : decode cX2_init 28 = .ok (.iconst 0, 1) := by decide +kernel
theorem dX2_init_29 : decode cX2_init 29 = .ok (.istore_n 1, 1) := by decide +kernel
theorem dX2_init_30 : decode cX2_init 30 = .ok (.iload_n 1, 1) := by decide +kernel
theorem dX2_init_31 : decode cX2_init 31 = .ok (.iconst 5, 1) := by decide +kernel
theorem dX2_init_32 : decode cX2_init 32 = .ok (.if_icmp .ge 22, 3) := by decide +kernel
theorem dX2_init_35 : decode cX2_init 35 = .ok (.aload_n 0, 1) := by decide +kernel
theorem dX2_init_36 : decode cX2_init 36 = .ok (.getfield 19, 3) := by decide +kernel
theorem dX2_init_39 : decode cX2_init 39 = .ok (.iload_n 1, 1) := by decide +kernel
theorem dX2_init_40 : decode cX2_init 40 = .ok (.new 17, 3) := by decide +kernel
theorem dX2_init_43 : decode cX2_init 43 = .ok (.dup, 1) := by decide +kernel
theorem dX2_init_44 : decode cX2_init 44 = .ok (.invokespecial 23, 3) := by decide +kernel
theorem dX2_init_47 : decode cX2_init 47 = .ok (.aastore, 1) := by decide +kernel
theorem dX2_init_48 : decode cX2_init 48 = .ok (.iinc 1 1, 3) := by decide +kernel
theorem dX2_init_51 : decode cX2_init 51 = .ok (.goto (-21), 3) := by decide +kernel
theorem dX2_init_54 : decode cX2_init 54 = .ok (.aload_n 0, 1) := by decide +kernel
theorem dX2_init_55 : decode cX2_init 55 = .ok (.bipush 8, 2) := by decide +kernel
theorem dX2_init_57 : decode cX2_init 57 = .ok (.anewarray 24, 3) := by decide +kernel
theorem dX2_init_60 : decode cX2_init 60 = .ok (.putfield 26, 3) := by decide +kernel
theorem dX2_init_63 : decode cX2_init 63 = .ok (.iconst 0, 1) := by decide +kernel
theorem dX2_init_64 : decode cX2_init 64 = .ok (.istore_n 1, 1) := by decide +kernel
theorem dX2_init_65 : decode cX2_init 65 = .ok (.iload_n 1, 1) := by decide +kernel
theorem dX2_init_66 : decode cX2_init 66 = .ok (.bipush 8, 2) := by decide +kernel
theorem dX2_init_68 : decode cX2_init 68 = .ok (.if_icmp .ge 22, 3) := by decide +kernel
theorem dX2_init_71 : decode cX2_init 71 = .ok (.aload_n 0, 1) := by decide +kernel
theorem dX2_init_72 : decode cX2_init 72 = .ok (.getfield 26, 3) := by decide +kernel
theorem dX2_init_75 : decode cX2_init 75 = .ok (.iload_n 1, 1) := by decide +kernel
theorem dX2_init_76 : decode cX2_init 76 = .ok (.new 24, 3) := by decide +kernel
theorem dX2_init_79 : decode cX2_init 79 = .ok (.dup, 1) := by decide +kernel
theorem dX2_init_80 : decode cX2_init 80 = .ok (.invokespecial 30, 3) := by decide +kernel
theorem dX2_init_83 : decode cX2_init 83 = .ok (.aastore, 1) := by decide +kernel
theorem dX2_init_84 : decode cX2_init 84 = .ok (.iinc 1 1, 3) := by decide +kernel
theorem dX2_init_87 : decode cX2_init 87 = .ok (.goto (-22), 3) := by decide +kernel
theorem dX2_init_90 : decode cX2_init 90 = .ok (.aload_n 0, 1) := by decide +kernel
theorem dX2_init_91 : decode cX2_init 91 = .ok (.iconst (-1), 1) := by decide +kernel
theorem dX2_init_92 : decode cX2_init 92 = .ok (.putfield 31, 3) := by decide +kernel
theorem dX2_init_95 : decode cX2_init 95 = .ok (.return_, 1) := by decide +kernel
theorem dX1_init_0 : decode cX1_init 0 = .ok (.aload_n 0, 1) := by decide +kernel
theorem dX1_init_1 : decode cX1_init 1 = .ok (.invokespecial 3, 3) := by decide +kernel
theorem dX1_init_4 : decode cX1_init 4 = .ok (.aload_n 0, 1) := by decide +kernel
theorem dX1_init_5 : decode cX1_init 5 = .ok (.bipush 12, 2) := by decide +kernel
theorem dX1_init_7 : decode cX1_init 7 = .ok (.newarray .int, 2) := by decide +kernel
theorem dX1_init_9 : decode cX1_init 9 = .ok (.putfield 9, 3) := by decide +kernel
theorem dX1_init_12 : decode cX1_init 12 = .ok (.aload_n 0, 1) := by decide +kernel
theorem dX1_init_13 : decode cX1_init 13 = .ok (.bipush 12, 2) := by decide +kernel
theorem dX1_init_15 : decode cX1_init 15 = .ok (.newarray .int, 2) := by decide +kernel
theorem dX1_init_17 : decode cX1_init 17 = .ok (.putfield 15, 3) := by decide +kernel
theorem dX1_init_20 : decode cX1_init 20 = .ok (.aload_n 0, 1) := by decide +kernel
theorem dX1_init_21 : decode cX1_init 21 = .ok (.bipush 12, 2) := by decide +kernel
theorem dX1_init_23 : decode cX1_init 23 = .ok (.newarray .boolean, 2) := by decide +kernel
theorem dX1_init_25 : decode cX1_init 25 = .ok (.putfield 18, 3) := by decide +kernel
theorem dX1_init_28 : decode cX1_init 28 = .ok (.aload_n 0, 1) := by decide +kernel
theorem dX1_init_29 : decode cX1_init 29 = .ok (.bipush 8, 2) := by decide +kernel
theorem dX1_init_31 : decode cX1_init 31 = .ok (.newarray .boolean, 2) := by decide +kernel
theorem dX1_init_33 : decode cX1_init 33 = .ok (.putfield 22, 3) := by decide +kernel
theorem dX1_init_36 : decode cX1_init 36 = .ok (.aload_n 0, 1) := by decide +kernel
theorem dX1_init_37 : decode cX1_init 37 = .ok (.bipush 15, 2) := by decide +kernel
theorem dX1_init_39 : decode cX1_init 39 = .ok (.newarray .boolean, 2) := by decide +kernel
theorem dX1_init_41 : decode cX1_init 41 = .ok (.putfield 25, 3) := by decide +kernel
theorem dX1_init_44 : decode cX1_init 44 = .ok (.aload_n 0, 1) := by decide +kernel
theorem dX1_init_45 : decode cX1_init 45 = .ok (.iconst 3, 1) := by decide +kernel
theorem dX1_init_46 : decode cX1_init 46 = .ok (.newarray .int, 2) := by decide +kernel
theorem dX1_init_48 : decode cX1_init 48 = .ok (.putfield 28, 3) := by decide +kernel
theorem dX1_init_51 : decode cX1_init 51 = .ok (.aload_n 0, 1) := by decide +kernel
theorem dX1_init_52 : decode cX1_init 52 = .ok (.iconst 3, 1) := by decide +kernel
theorem dX1_init_53 : decode cX1_init 53 = .ok (.newarray .int, 2) := by decide +kernel
theorem dX1_init_55 : decode cX1_init 55 = .ok (.putfield 31, 3) := by decide +kernel
theorem dX1_init_58 : decode cX1_init 58 = .ok (.return_, 1) := by decide +kernel
theorem dX0_init_0 : decode cX0_init 0 = .ok (.aload_n 0, 1) := by decide +kernel
theorem dX0_init_1 : decode cX0_init 1 = .ok (.invokespecial 3, 3) := by decide +kernel
theorem dX0_init_4 : decode cX0_init 4 = .ok (.return_, 1) := by decide +kernel
theorem dX2_resume_0 : decode cX2_resume 0 = .ok (.aload_n 0, 1) := by decide +kernel
theorem dX2_resume_1 : decode cX2_resume 1 = .ok (.getfield 31, 3) := by decide +kernel
theorem dX2_resume_4 : decode cX2_resume 4 = .ok (.istore_n 1, 1) := by decide +kernel
theorem dX2_resume_5 : decode cX2_resume 5 = .ok (.aload_n 0, 1) := by decide +kernel
theorem dX2_resume_6 : decode cX2_resume 6 = .ok (.iconst (-1), 1) := by decide +kernel
theorem dX2_resume_7 : decode cX2_resume 7 = .ok (.putfield 31, 3) := by decide +kernel
theorem dX2_resume_10 : decode cX2_resume 10 = .ok (.iload_n 1, 1) := by decide +kernel
theorem dX2_resume_11 : decode cX2_resume 11 = .ok (.ireturn, 1) := by decide +kernel
theorem dL_cell_0 : decode cL_cell 0 = .ok (.aload 6, 2) := by decide +kernel
theorem dL_cell_2 : decode cL_cell 2 = .ok (.iconst 0, 1) := by decide +kernel
theorem dL_cell_3 : decode cL_cell 3 = .ok (.aload_n 0, 1) := by decide +kernel
theorem dL_cell_4 : decode cL_cell 4 = .ok (.iload_n 1, 1) := by decide +kernel
theorem dL_cell_5 : decode cL_cell 5 = .ok (.iload_n 2, 1) := by decide +kernel
theorem dL_cell_6 : decode cL_cell 6 = .ok (.iload_n 3, 1) := by decide +kernel
theorem dL_cell_7 : decode cL_cell 7 = .ok (.iload 4, 2) := by decide +kernel
theorem dL_cell_9 : decode cL_cell 9 = .ok (.iload 5, 2) := by decide +kernel
theorem dL_cell_11 : decode cL_cell 11 = .ok (.invokevirtual 7, 3) := by decide +kernel
theorem dL_cell_14 : decode cL_cell 14 = .ok (.i2l, 1) := by decide +kernel
theorem dL_cell_15 : decode cL_cell 15 = .ok (.lastore, 1) := by decide +kernel
theorem dL_cell_16 : decode cL_cell 16 = .ok (.goto 11, 3) := by decide +kernel
theorem dL_cell_19 : decode cL_cell 19 = .ok (.astore 7, 2) := by decide +kernel
theorem dL_cell_21 : decode cL_cell 21 = .ok (.iconst 1, 1) := by decide +kernel
theorem dL_cell_22 : decode cL_cell 22 = .ok (.ireturn, 1) := by decide +kernel
theorem dL_cell_23 : decode cL_cell 23 = .ok (.astore 7, 2) := by decide +kernel
theorem dL_cell_25 : decode cL_cell 25 = .ok (.iconst 2, 1) := by decide +kernel
theorem dL_cell_26 : decode cL_cell 26 = .ok (.ireturn, 1) := by decide +kernel
theorem dL_cell_27 : decode cL_cell 27 = .ok (.iconst 0, 1) := by decide +kernel
theorem dL_cell_28 : decode cL_cell 28 = .ok (.ireturn, 1) := by decide +kernel
theorem dX2_cell_0 : decode cX2_cell 0 = .ok (.iload 4, 2) := by decide +kernel
theorem dX2_cell_2 : decode cX2_cell 2 = .ok (.iload 5, 2) := by decide +kernel
theorem dX2_cell_4 : decode cX2_cell 4 = .ok (.invokestatic 35, 3) := by decide +kernel
theorem dX2_cell_7 : decode cX2_cell 7 = .ok (.invokestatic 39, 3) := by decide +kernel
theorem dX2_cell_10 : decode cX2_cell 10 = .ok (.iload_n 1, 1) := by decide +kernel
theorem dX2_cell_11 : decode cX2_cell 11 = .ok (.iload_n 2, 1) := by decide +kernel
theorem dX2_cell_12 : decode cX2_cell 12 = .ok (.invokestatic 43, 3) := by decide +kernel
theorem dX2_cell_15 : decode cX2_cell 15 = .ok (.ifCond .eq 15, 3) := by decide +kernel
theorem dX2_cell_18 : decode cX2_cell 18 = .ok (.iload_n 3, 1) := by decide +kernel
theorem dX2_cell_19 : decode cX2_cell 19 = .ok (.iconst 4, 1) := by decide +kernel
theorem dX2_cell_20 : decode cX2_cell 20 = .ok (.invokestatic 46, 3) := by decide +kernel
theorem dX2_cell_23 : decode cX2_cell 23 = .ok (.ifCond .eq 7, 3) := by decide +kernel
theorem dX2_cell_26 : decode cX2_cell 26 = .ok (.iconst 1, 1) := by decide +kernel
theorem dX2_cell_27 : decode cX2_cell 27 = .ok (.goto 4, 3) := by decide +kernel
theorem dX2_cell_30 : decode cX2_cell 30 = .ok (.iconst 0, 1) := by decide +kernel
theorem dX2_cell_31 : decode cX2_cell 31 = .ok (.invokestatic 49, 3) := by decide +kernel
theorem dX2_cell_34 : decode cX2_cell 34 = .ok (.aload_n 0, 1) := by decide +kernel
theorem dX2_cell_35 : decode cX2_cell 35 = .ok (.getfield 19, 3) := by decide +kernel
theorem dX2_cell_38 : decode cX2_cell 38 = .ok (.iload_n 1, 1) := by decide +kernel
theorem dX2_cell_39 : decode cX2_cell 39 = .ok (.aaload, 1) := by decide +kernel
theorem dX2_cell_40 : decode cX2_cell 40 = .ok (.iload_n 2, 1) := by decide +kernel
theorem dX2_cell_41 : decode cX2_cell 41 = .ok (.iload_n 3, 1) := by decide +kernel
theorem dX2_cell_42 : decode cX2_cell 42 = .ok (.iload 4, 2) := by decide +kernel
theorem dX2_cell_44 : decode cX2_cell 44 = .ok (.iload 5, 2) := by decide +kernel
theorem dX2_cell_46 : decode cX2_cell 46 = .ok (.invokevirtual 52, 3) := by decide +kernel
theorem dX2_cell_49 : decode cX2_cell 49 = .ok (.ireturn, 1) := by decide +kernel
theorem dX2_isCell_0 : decode cX2_isCell 0 = .ok (.iload_n 0, 1) := by decide +kernel
theorem dX2_isCell_1 : decode cX2_isCell 1 = .ok (.iconst 0, 1) := by decide +kernel
theorem dX2_isCell_2 : decode cX2_isCell 2 = .ok (.iconst 5, 1) := by decide +kernel
theorem dX2_isCell_3 : decode cX2_isCell 3 = .ok (.invokestatic 83, 3) := by decide +kernel
theorem dX2_isCell_6 : decode cX2_isCell 6 = .ok (.ifCond .eq 23, 3) := by decide +kernel
theorem dX2_isCell_9 : decode cX2_isCell 9 = .ok (.iload_n 0, 1) := by decide +kernel
theorem dX2_isCell_10 : decode cX2_isCell 10 = .ok (.invokestatic 133, 3) := by decide +kernel
theorem dX2_isCell_13 : decode cX2_isCell 13 = .ok (.ifCond .eq 12, 3) := by decide +kernel
theorem dX2_isCell_16 : decode cX2_isCell 16 = .ok (.iload_n 1, 1) := by decide +kernel
theorem dX2_isCell_17 : decode cX2_isCell 17 = .ok (.bipush 24, 2) := by decide +kernel
theorem dX2_isCell_19 : decode cX2_isCell 19 = .ok (.invokestatic 46, 3) := by decide +kernel
theorem dX2_isCell_22 : decode cX2_isCell 22 = .ok (.ifCond .eq 7, 3) := by decide +kernel
theorem dX2_isCell_25 : decode cX2_isCell 25 = .ok (.iconst 1, 1) := by decide +kernel
theorem dX2_isCell_26 : decode cX2_isCell 26 = .ok (.goto 4, 3) := by decide +kernel
theorem dX2_isCell_29 : decode cX2_isCell 29 = .ok (.iconst 0, 1) := by decide +kernel
theorem dX2_isCell_30 : decode cX2_isCell 30 = .ok (.ireturn, 1) := by decide +kernel
theorem dX2_isBetween_0 : decode cX2_isBetween 0 = .ok (.iload_n 0, 1) := by decide +kernel
theorem dX2_isBetween_1 : decode cX2_isBetween 1 = .ok (.iload_n 1, 1) := by decide +kernel
theorem dX2_isBetween_2 : decode cX2_isBetween 2 = .ok (.if_icmp .lt 12, 3) := by decide +kernel
theorem dX2_isBetween_5 : decode cX2_isBetween 5 = .ok (.iload_n 0, 1) := by decide +kernel
theorem dX2_isBetween_6 : decode cX2_isBetween 6 = .ok (.iload_n 2, 1) := by decide +kernel
theorem dX2_isBetween_7 : decode cX2_isBetween 7 = .ok (.if_icmp .gt 7, 3) := by decide +kernel
theorem dX2_isBetween_10 : decode cX2_isBetween 10 = .ok (.iconst 1, 1) := by decide +kernel
theorem dX2_isBetween_11 : decode cX2_isBetween 11 = .ok (.goto 4, 3) := by decide +kernel
theorem dX2_isBetween_14 : decode cX2_isBetween 14 = .ok (.iconst 0, 1) := by decide +kernel
theorem dX2_isBetween_15 : decode cX2_isBetween 15 = .ok (.ireturn, 1) := by decide +kernel
theorem dX2_looksAtBit_0 : decode cX2_looksAtBit 0 = .ok (.iload_n 0, 1) := by decide +kernel
theorem dX2_looksAtBit_1 : decode cX2_looksAtBit 1 = .ok (.iconst 2, 1) := by decide +kernel
theorem dX2_looksAtBit_2 : decode cX2_looksAtBit 2 = .ok (.iconst 5, 1) := by decide +kernel
theorem dX2_looksAtBit_3 : decode cX2_looksAtBit 3 = .ok (.invokestatic 83, 3) := by decide +kernel
theorem dX2_looksAtBit_6 : decode cX2_looksAtBit 6 = .ok (.ireturn, 1) := by decide +kernel
theorem dX2_isIndex_0 : decode cX2_isIndex 0 = .ok (.iload_n 0, 1) := by decide +kernel
theorem dX2_isIndex_1 : decode cX2_isIndex 1 = .ok (.ifCond .lt 12, 3) := by decide +kernel
theorem dX2_isIndex_4 : decode cX2_isIndex 4 = .ok (.iload_n 0, 1) := by decide +kernel
theorem dX2_isIndex_5 : decode cX2_isIndex 5 = .ok (.iload_n 1, 1) := by decide +kernel
theorem dX2_isIndex_6 : decode cX2_isIndex 6 = .ok (.if_icmp .ge 7, 3) := by decide +kernel
theorem dX2_isIndex_9 : decode cX2_isIndex 9 = .ok (.iconst 1, 1) := by decide +kernel
theorem dX2_isIndex_10 : decode cX2_isIndex 10 = .ok (.goto 4, 3) := by decide +kernel
theorem dX2_isIndex_13 : decode cX2_isIndex 13 = .ok (.iconst 0, 1) := by decide +kernel
theorem dX2_isIndex_14 : decode cX2_isIndex 14 = .ok (.ireturn, 1) := by decide +kernel
theorem dX2_demandNumbers_0 : decode cX2_demandNumbers 0 = .ok (.iload_n 0, 1) := by decide +kernel
theorem dX2_demandNumbers_1 : decode cX2_demandNumbers 1 = .ok (.ifCond .ne 13, 3) := by decide +kernel
theorem dX2_demandNumbers_4 : decode cX2_demandNumbers 4 = .ok (.new 123, 3) := by decide +kernel
theorem dX2_demandNumbers_7 : decode cX2_demandNumbers 7 = .ok (.dup, 1) := by decide +kernel
theorem dX2_demandNumbers_8 : decode cX2_demandNumbers 8 = .ok (.ldc 125, 2) := by decide +kernel
theorem dX2_demandNumbers_10 : decode cX2_demandNumbers 10 = .ok (.invokespecial 127, 3) := by decide +kernel
theorem dX2_demandNumbers_13 : decode cX2_demandNumbers 13 = .ok (.athrow, 1) := by decide +kernel
theorem dX2_demandNumbers_14 : decode cX2_demandNumbers 14 = .ok (.return_, 1) := by decide +kernel
theorem dX2_isRow_0 : decode cX2_isRow 0 = .ok (.iload_n 0, 1) := by decide +kernel
theorem dX2_isRow_1 : decode cX2_isRow 1 = .ok (.iconst 5, 1) := by decide +kernel
theorem dX2_isRow_2 : decode cX2_isRow 2 = .ok (.invokestatic 46, 3) := by decide +kernel
theorem dX2_isRow_5 : decode cX2_isRow 5 = .ok (.ifCond .eq 15, 3) := by decide +kernel
theorem dX2_isRow_8 : decode cX2_isRow 8 = .ok (.iload_n 1, 1) := by decide +kernel
theorem dX2_isRow_9 : decode cX2_isRow 9 = .ok (.iconst 3, 1) := by decide +kernel
theorem dX2_isRow_10 : decode cX2_isRow 10 = .ok (.invokestatic 46, 3) := by decide +kernel
theorem dX2_isRow_13 : decode cX2_isRow 13 = .ok (.ifCond .eq 7, 3) := by decide +kernel
theorem dX2_isRow_16 : decode cX2_isRow 16 = .ok (.iconst 1, 1) := by decide +kernel
theorem dX2_isRow_17 : decode cX2_isRow 17 = .ok (.goto 4, 3) := by decide +kernel
theorem dX2_isRow_20 : decode cX2_isRow 20 = .ok (.iconst 0, 1) := by decide +kernel
theorem dX2_isRow_21 : decode cX2_isRow 21 = .ok (.ireturn, 1) := by decide +kernel
theorem dX2_demandPlace_0 : decode cX2_demandPlace 0 = .ok (.iload_n 0, 1) := by decide +kernel
theorem dX2_demandPlace_1 : decode cX2_demandPlace 1 = .ok (.ifCond .ne 13, 3) := by decide +kernel
theorem dX2_demandPlace_4 : decode cX2_demandPlace 4 = .ok (.new 128, 3) := by decide +kernel
theorem dX2_demandPlace_7 : decode cX2_demandPlace 7 = .ok (.dup, 1) := by decide +kernel
theorem dX2_demandPlace_8 : decode cX2_demandPlace 8 = .ok (.ldc 130, 2) := by decide +kernel
theorem dX2_demandPlace_10 : decode cX2_demandPlace 10 = .ok (.invokespecial 132, 3) := by decide +kernel
theorem dX2_demandPlace_13 : decode cX2_demandPlace 13 = .ok (.athrow, 1) := by decide +kernel
theorem dX2_demandPlace_14 : decode cX2_demandPlace 14 = .ok (.return_, 1) := by decide +kernel
theorem dX1_changeCell_0 : decode cX1_changeCell 0 = .ok (.iload_n 1, 1) := by decide +kernel
theorem dX1_changeCell_1 : decode cX1_changeCell 1 = .ok (.iconst 4, 1) := by decide +kernel
theorem dX1_changeCell_2 : decode cX1_changeCell 2 = .ok (.imul, 1) := by decide +kernel
theorem dX1_changeCell_3 : decode cX1_changeCell 3 = .ok (.iload_n 2, 1) := by decide +kernel
theorem dX1_changeCell_4 : decode cX1_changeCell 4 = .ok (.iadd, 1) := by decide +kernel
theorem dX1_changeCell_5 : decode cX1_changeCell 5 = .ok (.istore 5, 2) := by decide +kernel
theorem dX1_changeCell_7 : decode cX1_changeCell 7 = .ok (.aload_n 0, 1) := by decide +kernel
theorem dX1_changeCell_8 : decode cX1_changeCell 8 = .ok (.getfield 9, 3) := by decide +kernel
theorem dX1_changeCell_11 : decode cX1_changeCell 11 = .ok (.iload 5, 2) := by decide +kernel
theorem dX1_changeCell_13 : decode cX1_changeCell 13 = .ok (.iaload, 1) := by decide +kernel
theorem dX1_changeCell_14 : decode cX1_changeCell 14 = .ok (.istore 6, 2) := by decide +kernel
theorem dX1_changeCell_16 : decode cX1_changeCell 16 = .ok (.aload_n 0, 1) := by decide +kernel
theorem dX1_changeCell_17 : decode cX1_changeCell 17 = .ok (.getfield 9, 3) := by decide +kernel
theorem dX1_changeCell_20 : decode cX1_changeCell 20 = .ok (.iload 5, 2) := by decide +kernel
theorem dX1_changeCell_22 : decode cX1_changeCell 22 = .ok (.iload_n 3, 1) := by decide +kernel
theorem dX1_changeCell_23 : decode cX1_changeCell 23 = .ok (.iastore, 1) := by decide +kernel
theorem dX1_changeCell_24 : decode cX1_changeCell 24 = .ok (.aload_n 0, 1) := by decide +kernel
theorem dX1_changeCell_25 : decode cX1_changeCell 25 = .ok (.getfield 15, 3) := by decide +kernel
theorem dX1_changeCell_28 : decode cX1_changeCell 28 = .ok (.iload 5, 2) := by decide +kernel
theorem dX1_changeCell_30 : decode cX1_changeCell 30 = .ok (.iload_n 3, 1) := by decide +kernel
theorem dX1_changeCell_31 : decode cX1_changeCell 31 = .ok (.invokestatic 34, 3) := by decide +kernel
theorem dX1_changeCell_34 : decode cX1_changeCell 34 = .ok (.ifCond .eq 8, 3) := by decide +kernel
theorem dX1_changeCell_37 : decode cX1_changeCell 37 = .ok (.iload 4, 2) := by decide +kernel
theorem dX1_changeCell_39 : decode cX1_changeCell 39 = .ok (.goto 4, 3) := by decide +kernel
theorem dX1_changeCell_42 : decode cX1_changeCell 42 = .ok (.iconst 0, 1) := by decide +kernel
theorem dX1_changeCell_43 : decode cX1_changeCell 43 = .ok (.iastore, 1) := by decide +kernel
theorem dX1_changeCell_44 : decode cX1_changeCell 44 = .ok (.aload_n 0, 1) := by decide +kernel
theorem dX1_changeCell_45 : decode cX1_changeCell 45 = .ok (.getfield 18, 3) := by decide +kernel
theorem dX1_changeCell_48 : decode cX1_changeCell 48 = .ok (.iload 5, 2) := by decide +kernel
theorem dX1_changeCell_50 : decode cX1_changeCell 50 = .ok (.iconst 0, 1) := by decide +kernel
theorem dX1_changeCell_51 : decode cX1_changeCell 51 = .ok (.bastore, 1) := by decide +kernel
theorem dX1_changeCell_52 : decode cX1_changeCell 52 = .ok (.iload 6, 2) := by decide +kernel
theorem dX1_changeCell_54 : decode cX1_changeCell 54 = .ok (.ireturn, 1) := by decide +kernel
theorem dL_link_0 : decode cL_link 0 = .ok (.aload 5, 2) := by decide +kernel
theorem dL_link_2 : decode cL_link 2 = .ok (.iconst 0, 1) := by decide +kernel
theorem dL_link_3 : decode cL_link 3 = .ok (.aload_n 0, 1) := by decide +kernel
theorem dL_link_4 : decode cL_link 4 = .ok (.iload_n 1, 1) := by decide +kernel
theorem dL_link_5 : decode cL_link 5 = .ok (.iload_n 2, 1) := by decide +kernel
theorem dL_link_6 : decode cL_link 6 = .ok (.iload_n 3, 1) := by decide +kernel
theorem dL_link_7 : decode cL_link 7 = .ok (.iload 4, 2) := by decide +kernel
theorem dL_link_9 : decode cL_link 9 = .ok (.invokevirtual 17, 3) := by decide +kernel
theorem dL_link_12 : decode cL_link 12 = .ok (.ifCond .eq 7, 3) := by decide +kernel
theorem dL_link_15 : decode cL_link 15 = .ok (.lconst 1, 1) := by decide +kernel
theorem dL_link_16 : decode cL_link 16 = .ok (.goto 4, 3) := by decide +kernel
theorem dL_link_19 : decode cL_link 19 = .ok (.lconst 0, 1) := by decide +kernel
theorem dL_link_20 : decode cL_link 20 = .ok (.lastore, 1) := by decide +kernel
theorem dL_link_21 : decode cL_link 21 = .ok (.goto 7, 3) := by decide +kernel
theorem dL_link_24 : decode cL_link 24 = .ok (.astore 6, 2) := by decide +kernel
theorem dL_link_26 : decode cL_link 26 = .ok (.iconst 1, 1) := by decide +kernel
theorem dL_link_27 : decode cL_link 27 = .ok (.ireturn, 1) := by decide +kernel
theorem dL_link_28 : decode cL_link 28 = .ok (.iconst 0, 1) := by decide +kernel
theorem dL_link_29 : decode cL_link 29 = .ok (.ireturn, 1) := by decide +kernel
theorem dX2_link_0 : decode cX2_link 0 = .ok (.iload_n 1, 1) := by decide +kernel
theorem dX2_link_1 : decode cX2_link 1 = .ok (.iconst 5, 1) := by decide +kernel
theorem dX2_link_2 : decode cX2_link 2 = .ok (.invokestatic 46, 3) := by decide +kernel
theorem dX2_link_5 : decode cX2_link 5 = .ok (.ifCond .eq 23, 3) := by decide +kernel
theorem dX2_link_8 : decode cX2_link 8 = .ok (.iload_n 2, 1) := by decide +kernel
theorem dX2_link_9 : decode cX2_link 9 = .ok (.iconst 2, 1) := by decide +kernel
theorem dX2_link_10 : decode cX2_link 10 = .ok (.invokestatic 46, 3) := by decide +kernel
theorem dX2_link_13 : decode cX2_link 13 = .ok (.ifCond .eq 15, 3) := by decide +kernel
theorem dX2_link_16 : decode cX2_link 16 = .ok (.iload_n 3, 1) := by decide +kernel
theorem dX2_link_17 : decode cX2_link 17 = .ok (.iconst 4, 1) := by decide +kernel
theorem dX2_link_18 : decode cX2_link 18 = .ok (.invokestatic 46, 3) := by decide +kernel
theorem dX2_link_21 : decode cX2_link 21 = .ok (.ifCond .eq 7, 3) := by decide +kernel
theorem dX2_link_24 : decode cX2_link 24 = .ok (.iconst 1, 1) := by decide +kernel
theorem dX2_link_25 : decode cX2_link 25 = .ok (.goto 4, 3) := by decide +kernel
theorem dX2_link_28 : decode cX2_link 28 = .ok (.iconst 0, 1) := by decide +kernel
theorem dX2_link_29 : decode cX2_link 29 = .ok (.invokestatic 49, 3) := by decide +kernel
theorem dX2_link_32 : decode cX2_link 32 = .ok (.aload_n 0, 1) := by decide +kernel
theorem dX2_link_33 : decode cX2_link 33 = .ok (.getfield 19, 3) := by decide +kernel
theorem dX2_link_36 : decode cX2_link 36 = .ok (.iload_n 1, 1) := by decide +kernel
theorem dX2_link_37 : decode cX2_link 37 = .ok (.aaload, 1) := by decide +kernel
theorem dX2_link_38 : decode cX2_link 38 = .ok (.iload_n 2, 1) := by decide +kernel
theorem dX2_link_39 : decode cX2_link 39 = .ok (.iload_n 3, 1) := by decide +kernel
theorem dX2_link_40 : decode cX2_link 40 = .ok (.iload 4, 2) := by decide +kernel
theorem dX2_link_42 : decode cX2_link 42 = .ok (.invokevirtual 56, 3) := by decide +kernel
theorem dX2_link_45 : decode cX2_link 45 = .ok (.ireturn, 1) := by decide +kernel
theorem dX1_changeLink_0 : decode cX1_changeLink 0 = .ok (.iload_n 1, 1) := by decide +kernel
theorem dX1_changeLink_1 : decode cX1_changeLink 1 = .ok (.iconst 4, 1) := by decide +kernel
theorem dX1_changeLink_2 : decode cX1_changeLink 2 = .ok (.imul, 1) := by decide +kernel
theorem dX1_changeLink_3 : decode cX1_changeLink 3 = .ok (.iload_n 2, 1) := by decide +kernel
theorem dX1_changeLink_4 : decode cX1_changeLink 4 = .ok (.iadd, 1) := by decide +kernel
theorem dX1_changeLink_5 : decode cX1_changeLink 5 = .ok (.istore 4, 2) := by decide +kernel
theorem dX1_changeLink_7 : decode cX1_changeLink 7 = .ok (.aload_n 0, 1) := by decide +kernel
theorem dX1_changeLink_8 : decode cX1_changeLink 8 = .ok (.getfield 22, 3) := by decide +kernel
theorem dX1_changeLink_11 : decode cX1_changeLink 11 = .ok (.iload 4, 2) := by decide +kernel
theorem dX1_changeLink_13 : decode cX1_changeLink 13 = .ok (.baload, 1) := by decide +kernel
theorem dX1_changeLink_14 : decode cX1_changeLink 14 = .ok (.istore 5, 2) := by decide +kernel
theorem dX1_changeLink_16 : decode cX1_changeLink 16 = .ok (.aload_n 0, 1) := by decide +kernel
theorem dX1_changeLink_17 : decode cX1_changeLink 17 = .ok (.getfield 22, 3) := by decide +kernel
theorem dX1_changeLink_20 : decode cX1_changeLink 20 = .ok (.iload 4, 2) := by decide +kernel
theorem dX1_changeLink_22 : decode cX1_changeLink 22 = .ok (.iload_n 3, 1) := by decide +kernel
theorem dX1_changeLink_23 : decode cX1_changeLink 23 = .ok (.bastore, 1) := by decide +kernel
theorem dX1_changeLink_24 : decode cX1_changeLink 24 = .ok (.iload 5, 2) := by decide +kernel
theorem dX1_changeLink_26 : decode cX1_changeLink 26 = .ok (.ireturn, 1) := by decide +kernel
theorem dL_coil_0 : decode cL_coil 0 = .ok (.aload 5, 2) := by decide +kernel
theorem dL_coil_2 : decode cL_coil 2 = .ok (.iconst 0, 1) := by decide +kernel
theorem dL_coil_3 : decode cL_coil 3 = .ok (.aload_n 0, 1) := by decide +kernel
theorem dL_coil_4 : decode cL_coil 4 = .ok (.iload_n 1, 1) := by decide +kernel
theorem dL_coil_5 : decode cL_coil 5 = .ok (.iload_n 2, 1) := by decide +kernel
theorem dL_coil_6 : decode cL_coil 6 = .ok (.iload_n 3, 1) := by decide +kernel
theorem dL_coil_7 : decode cL_coil 7 = .ok (.iload 4, 2) := by decide +kernel
theorem dL_coil_9 : decode cL_coil 9 = .ok (.invokevirtual 21, 3) := by decide +kernel
theorem dL_coil_12 : decode cL_coil 12 = .ok (.i2l, 1) := by decide +kernel
theorem dL_coil_13 : decode cL_coil 13 = .ok (.lastore, 1) := by decide +kernel
theorem dL_coil_14 : decode cL_coil 14 = .ok (.goto 11, 3) := by decide +kernel
theorem dL_coil_17 : decode cL_coil 17 = .ok (.astore 6, 2) := by decide +kernel
theorem dL_coil_19 : decode cL_coil 19 = .ok (.iconst 1, 1) := by decide +kernel
theorem dL_coil_20 : decode cL_coil 20 = .ok (.ireturn, 1) := by decide +kernel
theorem dL_coil_21 : decode cL_coil 21 = .ok (.astore 6, 2) := by decide +kernel
theorem dL_coil_23 : decode cL_coil 23 = .ok (.iconst 2, 1) := by decide +kernel
theorem dL_coil_24 : decode cL_coil 24 = .ok (.ireturn, 1) := by decide +kernel
theorem dL_coil_25 : decode cL_coil 25 = .ok (.iconst 0, 1) := by decide +kernel
theorem dL_coil_26 : decode cL_coil 26 = .ok (.ireturn, 1) := by decide +kernel
theorem dX2_coil_0 : decode cX2_coil 0 = .ok (.iload_n 3, 1) := by decide +kernel
theorem dX2_coil_1 : decode cX2_coil 1 = .ok (.iload 4, 2) := by decide +kernel
theorem dX2_coil_3 : decode cX2_coil 3 = .ok (.invokestatic 60, 3) := by decide +kernel
theorem dX2_coil_6 : decode cX2_coil 6 = .ok (.invokestatic 39, 3) := by decide +kernel
theorem dX2_coil_9 : decode cX2_coil 9 = .ok (.iload_n 1, 1) := by decide +kernel
theorem dX2_coil_10 : decode cX2_coil 10 = .ok (.iload_n 2, 1) := by decide +kernel
theorem dX2_coil_11 : decode cX2_coil 11 = .ok (.invokestatic 43, 3) := by decide +kernel
theorem dX2_coil_14 : decode cX2_coil 14 = .ok (.invokestatic 49, 3) := by decide +kernel
theorem dX2_coil_17 : decode cX2_coil 17 = .ok (.aload_n 0, 1) := by decide +kernel
theorem dX2_coil_18 : decode cX2_coil 18 = .ok (.getfield 19, 3) := by decide +kernel
theorem dX2_coil_21 : decode cX2_coil 21 = .ok (.iload_n 1, 1) := by decide +kernel
theorem dX2_coil_22 : decode cX2_coil 22 = .ok (.aaload, 1) := by decide +kernel
theorem dX2_coil_23 : decode cX2_coil 23 = .ok (.iload_n 2, 1) := by decide +kernel
theorem dX2_coil_24 : decode cX2_coil 24 = .ok (.iload_n 3, 1) := by decide +kernel
theorem dX2_coil_25 : decode cX2_coil 25 = .ok (.iload 4, 2) := by decide +kernel
theorem dX2_coil_27 : decode cX2_coil 27 = .ok (.invokevirtual 63, 3) := by decide +kernel
theorem dX2_coil_30 : decode cX2_coil 30 = .ok (.ireturn, 1) := by decide +kernel
theorem dX2_isCoil_0 : decode cX2_isCoil 0 = .ok (.iload_n 0, 1) := by decide +kernel
theorem dX2_isCoil_1 : decode cX2_isCoil 1 = .ok (.tableswitch 53 0 4 #[35, 37, 37, 37, 46], 35) := by decide +kernel
theorem dX2_isCoil_36 : decode cX2_isCoil 36 = .ok (.iconst 1, 1) := by decide +kernel
theorem dX2_isCoil_37 : decode cX2_isCoil 37 = .ok (.ireturn, 1) := by decide +kernel
theorem dX2_isCoil_38 : decode cX2_isCoil 38 = .ok (.iload_n 1, 1) := by decide +kernel
theorem dX2_isCoil_39 : decode cX2_isCoil 39 = .ok (.bipush 8, 2) := by decide +kernel
theorem dX2_isCoil_41 : decode cX2_isCoil 41 = .ok (.bipush 23, 2) := by decide +kernel
theorem dX2_isCoil_43 : decode cX2_isCoil 43 = .ok (.invokestatic 83, 3) := by decide +kernel
theorem dX2_isCoil_46 : decode cX2_isCoil 46 = .ok (.ireturn, 1) := by decide +kernel
theorem dX2_isCoil_47 : decode cX2_isCoil 47 = .ok (.iload_n 1, 1) := by decide +kernel
theorem dX2_isCoil_48 : decode cX2_isCoil 48 = .ok (.bipush 8, 2) := by decide +kernel
theorem dX2_isCoil_50 : decode cX2_isCoil 50 = .ok (.invokestatic 46, 3) := by decide +kernel
theorem dX2_isCoil_53 : decode cX2_isCoil 53 = .ok (.ireturn, 1) := by decide +kernel
theorem dX2_isCoil_54 : decode cX2_isCoil 54 = .ok (.iconst 0, 1) := by decide +kernel
theorem dX2_isCoil_55 : decode cX2_isCoil 55 = .ok (.ireturn, 1) := by decide +kernel
theorem dX1_changeCoil_0 : decode cX1_changeCoil 0 = .ok (.aload_n 0, 1) := by decide +kernel
theorem dX1_changeCoil_1 : decode cX1_changeCoil 1 = .ok (.getfield 28, 3) := by decide +kernel
theorem dX1_changeCoil_4 : decode cX1_changeCoil 4 = .ok (.iload_n 1, 1) := by decide +kernel
theorem dX1_changeCoil_5 : decode cX1_changeCoil 5 = .ok (.iaload, 1) := by decide +kernel
theorem dX1_changeCoil_6 : decode cX1_changeCoil 6 = .ok (.istore 4, 2) := by decide +kernel
theorem dX1_changeCoil_8 : decode cX1_changeCoil 8 = .ok (.aload_n 0, 1) := by decide +kernel
theorem dX1_changeCoil_9 : decode cX1_changeCoil 9 = .ok (.getfield 28, 3) := by decide +kernel
theorem dX1_changeCoil_12 : decode cX1_changeCoil 12 = .ok (.iload_n 1, 1) := by decide +kernel
theorem dX1_changeCoil_13 : decode cX1_changeCoil 13 = .ok (.iload_n 2, 1) := by decide +kernel
theorem dX1_changeCoil_14 : decode cX1_changeCoil 14 = .ok (.iastore, 1) := by decide +kernel
theorem dX1_changeCoil_15 : decode cX1_changeCoil 15 = .ok (.aload_n 0, 1) := by decide +kernel
theorem dX1_changeCoil_16 : decode cX1_changeCoil 16 = .ok (.getfield 31, 3) := by decide +kernel
theorem dX1_changeCoil_19 : decode cX1_changeCoil 19 = .ok (.iload_n 1, 1) := by decide +kernel
theorem dX1_changeCoil_20 : decode cX1_changeCoil 20 = .ok (.iload_n 3, 1) := by decide +kernel
theorem dX1_changeCoil_21 : decode cX1_changeCoil 21 = .ok (.iastore, 1) := by decide +kernel
theorem dX1_changeCoil_22 : decode cX1_changeCoil 22 = .ok (.iload 4, 2) := by decide +kernel
theorem dX1_changeCoil_24 : decode cX1_changeCoil 24 = .ok (.ireturn, 1) := by decide +kernel
theorem dL_block_0 : decode cL_block 0 = .ok (.aload 8, 2) := by decide +kernel
theorem dL_block_2 : decode cL_block 2 = .ok (.iconst 0, 1) := by decide +kernel
theorem dL_block_3 : decode cL_block 3 = .ok (.aload_n 0, 1) := by decide +kernel
theorem dL_block_4 : decode cL_block 4 = .ok (.iload_n 1, 1) := by decide +kernel
theorem dL_block_5 : decode cL_block 5 = .ok (.iload_n 2, 1) := by decide +kernel
theorem dL_block_6 : decode cL_block 6 = .ok (.iload_n 3, 1) := by decide +kernel
theorem dL_block_7 : decode cL_block 7 = .ok (.iload 4, 2) := by decide +kernel
theorem dL_block_9 : decode cL_block 9 = .ok (.iload 5, 2) := by decide +kernel
theorem dL_block_11 : decode cL_block 11 = .ok (.dload 6, 2) := by decide +kernel
theorem dL_block_13 : decode cL_block 13 = .ok (.invokevirtual 25, 3) := by decide +kernel
theorem dL_block_16 : decode cL_block 16 = .ok (.i2l, 1) := by decide +kernel
theorem dL_block_17 : decode cL_block 17 = .ok (.lastore, 1) := by decide +kernel
theorem dL_block_18 : decode cL_block 18 = .ok (.goto 11, 3) := by decide +kernel
theorem dL_block_21 : decode cL_block 21 = .ok (.astore 9, 2) := by decide +kernel
theorem dL_block_23 : decode cL_block 23 = .ok (.iconst 1, 1) := by decide +kernel
theorem dL_block_24 : decode cL_block 24 = .ok (.ireturn, 1) := by decide +kernel
theorem dL_block_25 : decode cL_block 25 = .ok (.astore 9, 2) := by decide +kernel
theorem dL_block_27 : decode cL_block 27 = .ok (.iconst 2, 1) := by decide +kernel
theorem dL_block_28 : decode cL_block 28 = .ok (.ireturn, 1) := by decide +kernel
theorem dL_block_29 : decode cL_block 29 = .ok (.iconst 0, 1) := by decide +kernel
theorem dL_block_30 : decode cL_block 30 = .ok (.ireturn, 1) := by decide +kernel
theorem dX2_block_0 : decode cX2_block 0 = .ok (.iload_n 2, 1) := by decide +kernel
theorem dX2_block_1 : decode cX2_block 1 = .ok (.iload_n 3, 1) := by decide +kernel
theorem dX2_block_2 : decode cX2_block 2 = .ok (.iload 4, 2) := by decide +kernel
theorem dX2_block_4 : decode cX2_block 4 = .ok (.iload 5, 2) := by decide +kernel
theorem dX2_block_6 : decode cX2_block 6 = .ok (.dload 6, 2) := by decide +kernel
theorem dX2_block_8 : decode cX2_block 8 = .ok (.invokestatic 67, 3) := by decide +kernel
theorem dX2_block_11 : decode cX2_block 11 = .ok (.invokestatic 39, 3) := by decide +kernel
theorem dX2_block_14 : decode cX2_block 14 = .ok (.iload_n 1, 1) := by decide +kernel
theorem dX2_block_15 : decode cX2_block 15 = .ok (.bipush 8, 2) := by decide +kernel
theorem dX2_block_17 : decode cX2_block 17 = .ok (.invokestatic 46, 3) := by decide +kernel
theorem dX2_block_20 : decode cX2_block 20 = .ok (.invokestatic 49, 3) := by decide +kernel
theorem dX2_block_23 : decode cX2_block 23 = .ok (.aload_n 0, 1) := by decide +kernel
theorem dX2_block_24 : decode cX2_block 24 = .ok (.getfield 26, 3) := by decide +kernel
theorem dX2_block_27 : decode cX2_block 27 = .ok (.iload_n 1, 1) := by decide +kernel
theorem dX2_block_28 : decode cX2_block 28 = .ok (.aaload, 1) := by decide +kernel
theorem dX2_block_29 : decode cX2_block 29 = .ok (.iload_n 2, 1) := by decide +kernel
theorem dX2_block_30 : decode cX2_block 30 = .ok (.iload_n 3, 1) := by decide +kernel
theorem dX2_block_31 : decode cX2_block 31 = .ok (.iload 4, 2) := by decide +kernel
theorem dX2_block_33 : decode cX2_block 33 = .ok (.iload 5, 2) := by decide +kernel
theorem dX2_block_35 : decode cX2_block 35 = .ok (.dload 6, 2) := by decide +kernel
theorem dX2_block_37 : decode cX2_block 37 = .ok (.invokevirtual 71, 3) := by decide +kernel
theorem dX2_block_40 : decode cX2_block 40 = .ok (.ireturn, 1) := by decide +kernel
theorem dX2_isBlock_0 : decode cX2_isBlock 0 = .ok (.iload_n 0, 1) := by decide +kernel
theorem dX2_isBlock_1 : decode cX2_isBlock 1 = .ok (.tableswitch 153 0 9 #[55, 57, 57, 78, 99, 99, 99, 99, 122, 122], 55) := by decide +kernel
theorem dX2_isBlock_56 : decode cX2_isBlock 56 = .ok (.iconst 1, 1) := by decide +kernel
theorem dX2_isBlock_57 : decode cX2_isBlock 57 = .ok (.ireturn, 1) := by decide +kernel
theorem dX2_isBlock_58 : decode cX2_isBlock 58 = .ok (.iload_n 3, 1) := by decide +kernel
theorem dX2_isBlock_59 : decode cX2_isBlock 59 = .ok (.invokestatic 137, 3) := by decide +kernel
theorem dX2_isBlock_62 : decode cX2_isBlock 62 = .ok (.ifCond .eq 15, 3) := by decide +kernel
theorem dX2_isBlock_65 : decode cX2_isBlock 65 = .ok (.dload 4, 2) := by decide +kernel
theorem dX2_isBlock_67 : decode cX2_isBlock 67 = .ok (.invokestatic 140, 3) := by decide +kernel
theorem dX2_isBlock_70 : decode cX2_isBlock 70 = .ok (.ifCond .eq 7, 3) := by decide +kernel
theorem dX2_isBlock_73 : decode cX2_isBlock 73 = .ok (.iconst 1, 1) := by decide +kernel
theorem dX2_isBlock_74 : decode cX2_isBlock 74 = .ok (.goto 4, 3) := by decide +kernel
theorem dX2_isBlock_77 : decode cX2_isBlock 77 = .ok (.iconst 0, 1) := by decide +kernel
theorem dX2_isBlock_78 : decode cX2_isBlock 78 = .ok (.ireturn, 1) := by decide +kernel
theorem dX2_isBlock_79 : decode cX2_isBlock 79 = .ok (.iload_n 1, 1) := by decide +kernel
theorem dX2_isBlock_80 : decode cX2_isBlock 80 = .ok (.iload_n 2, 1) := by decide +kernel
theorem dX2_isBlock_81 : decode cX2_isBlock 81 = .ok (.invokestatic 143, 3) := by decide +kernel
theorem dX2_isBlock_84 : decode cX2_isBlock 84 = .ok (.ifCond .eq 14, 3) := by decide +kernel
theorem dX2_isBlock_87 : decode cX2_isBlock 87 = .ok (.iload_n 3, 1) := by decide +kernel
theorem dX2_isBlock_88 : decode cX2_isBlock 88 = .ok (.invokestatic 137, 3) := by decide +kernel
theorem dX2_isBlock_91 : decode cX2_isBlock 91 = .ok (.ifCond .eq 7, 3) := by decide +kernel
theorem dX2_isBlock_94 : decode cX2_isBlock 94 = .ok (.iconst 1, 1) := by decide +kernel
theorem dX2_isBlock_95 : decode cX2_isBlock 95 = .ok (.goto 4, 3) := by decide +kernel
theorem dX2_isBlock_98 : decode cX2_isBlock 98 = .ok (.iconst 0, 1) := by decide +kernel
theorem dX2_isBlock_99 : decode cX2_isBlock 99 = .ok (.ireturn, 1) := by decide +kernel
theorem dX2_isBlock_100 : decode cX2_isBlock 100 = .ok (.iload_n 1, 1) := by decide +kernel
theorem dX2_isBlock_101 : decode cX2_isBlock 101 = .ok (.iload_n 2, 1) := by decide +kernel
theorem dX2_isBlock_102 : decode cX2_isBlock 102 = .ok (.invokestatic 143, 3) := by decide +kernel
theorem dX2_isBlock_105 : decode cX2_isBlock 105 = .ok (.ifCond .eq 16, 3) := by decide +kernel
theorem dX2_isBlock_108 : decode cX2_isBlock 108 = .ok (.iload_n 3, 1) := by decide +kernel
theorem dX2_isBlock_109 : decode cX2_isBlock 109 = .ok (.bipush 8, 2) := by decide +kernel
theorem dX2_isBlock_111 : decode cX2_isBlock 111 = .ok (.invokestatic 46, 3) := by decide +kernel
theorem dX2_isBlock_114 : decode cX2_isBlock 114 = .ok (.ifCond .eq 7, 3) := by decide +kernel
theorem dX2_isBlock_117 : decode cX2_isBlock 117 = .ok (.iconst 1, 1) := by decide +kernel
theorem dX2_isBlock_118 : decode cX2_isBlock 118 = .ok (.goto 4, 3) := by decide +kernel
theorem dX2_isBlock_121 : decode cX2_isBlock 121 = .ok (.iconst 0, 1) := by decide +kernel
theorem dX2_isBlock_122 : decode cX2_isBlock 122 = .ok (.ireturn, 1) := by decide +kernel
theorem dX2_isBlock_123 : decode cX2_isBlock 123 = .ok (.iload_n 1, 1) := by decide +kernel
theorem dX2_isBlock_124 : decode cX2_isBlock 124 = .ok (.iload_n 2, 1) := by decide +kernel
theorem dX2_isBlock_125 : decode cX2_isBlock 125 = .ok (.invokestatic 143, 3) := by decide +kernel
theorem dX2_isBlock_128 : decode cX2_isBlock 128 = .ok (.ifCond .eq 24, 3) := by decide +kernel
theorem dX2_isBlock_131 : decode cX2_isBlock 131 = .ok (.iload_n 3, 1) := by decide +kernel
theorem dX2_isBlock_132 : decode cX2_isBlock 132 = .ok (.bipush 8, 2) := by decide +kernel
theorem dX2_isBlock_134 : decode cX2_isBlock 134 = .ok (.invokestatic 46, 3) := by decide +kernel
theorem dX2_isBlock_137 : decode cX2_isBlock 137 = .ok (.ifCond .eq 15, 3) := by decide +kernel
theorem dX2_isBlock_140 : decode cX2_isBlock 140 = .ok (.dload 4, 2) := by decide +kernel
theorem dX2_isBlock_142 : decode cX2_isBlock 142 = .ok (.invokestatic 146, 3) := by decide +kernel
theorem dX2_isBlock_145 : decode cX2_isBlock 145 = .ok (.ifCond .eq 7, 3) := by decide +kernel
theorem dX2_isBlock_148 : decode cX2_isBlock 148 = .ok (.iconst 1, 1) := by decide +kernel
theorem dX2_isBlock_149 : decode cX2_isBlock 149 = .ok (.goto 4, 3) := by decide +kernel
theorem dX2_isBlock_152 : decode cX2_isBlock 152 = .ok (.iconst 0, 1) := by decide +kernel
theorem dX2_isBlock_153 : decode cX2_isBlock 153 = .ok (.ireturn, 1) := by decide +kernel
theorem dX2_isBlock_154 : decode cX2_isBlock 154 = .ok (.iconst 0, 1) := by decide +kernel
theorem dX2_isBlock_155 : decode cX2_isBlock 155 = .ok (.ireturn, 1) := by decide +kernel
theorem dX2_isBlockBit_0 : decode cX2_isBlockBit 0 = .ok (.iload_n 0, 1) := by decide +kernel
theorem dX2_isBlockBit_1 : decode cX2_isBlockBit 1 = .ok (.bipush 8, 2) := by decide +kernel
theorem dX2_isBlockBit_3 : decode cX2_isBlockBit 3 = .ok (.bipush 21, 2) := by decide +kernel
theorem dX2_isBlockBit_5 : decode cX2_isBlockBit 5 = .ok (.invokestatic 83, 3) := by decide +kernel
theorem dX2_isBlockBit_8 : decode cX2_isBlockBit 8 = .ok (.ireturn, 1) := by decide +kernel
theorem dX2_isCountable_0 : decode cX2_isCountable 0 = .ok (.dload_n 0, 1) := by decide +kernel
theorem dX2_isCountable_1 : decode cX2_isCountable 1 = .ok (.dconst 1, 1) := by decide +kernel
theorem dX2_isCountable_2 : decode cX2_isCountable 2 = .ok (.dcmp .l, 1) := by decide +kernel
theorem dX2_isCountable_3 : decode cX2_isCountable 3 = .ok (.ifCond .lt 23, 3) := by decide +kernel
theorem dX2_isCountable_6 : decode cX2_isCountable 6 = .ok (.dload_n 0, 1) := by decide +kernel
theorem dX2_isCountable_7 : decode cX2_isCountable 7 = .ok (.ldc2_w 149, 3) := by decide +kernel
theorem dX2_isCountable_10 : decode cX2_isCountable 10 = .ok (.dcmp .g, 1) := by decide +kernel
theorem dX2_isCountable_11 : decode cX2_isCountable 11 = .ok (.ifCond .gt 15, 3) := by decide +kernel
theorem dX2_isCountable_14 : decode cX2_isCountable 14 = .ok (.dload_n 0, 1) := by decide +kernel
theorem dX2_isCountable_15 : decode cX2_isCountable 15 = .ok (.dload_n 0, 1) := by decide +kernel
theorem dX2_isCountable_16 : decode cX2_isCountable 16 = .ok (.d2i, 1) := by decide +kernel
theorem dX2_isCountable_17 : decode cX2_isCountable 17 = .ok (.i2d, 1) := by decide +kernel
theorem dX2_isCountable_18 : decode cX2_isCountable 18 = .ok (.dcmp .l, 1) := by decide +kernel
theorem dX2_isCountable_19 : decode cX2_isCountable 19 = .ok (.ifCond .ne 7, 3) := by decide +kernel
theorem dX2_isCountable_22 : decode cX2_isCountable 22 = .ok (.iconst 1, 1) := by decide +kernel
theorem dX2_isCountable_23 : decode cX2_isCountable 23 = .ok (.goto 4, 3) := by decide +kernel
theorem dX2_isCountable_26 : decode cX2_isCountable 26 = .ok (.iconst 0, 1) := by decide +kernel
theorem dX2_isCountable_27 : decode cX2_isCountable 27 = .ok (.ireturn, 1) := by decide +kernel
theorem dX2_areRegisters_0 : decode cX2_areRegisters 0 = .ok (.iload_n 0, 1) := by decide +kernel
theorem dX2_areRegisters_1 : decode cX2_areRegisters 1 = .ok (.bipush 8, 2) := by decide +kernel
theorem dX2_areRegisters_3 : decode cX2_areRegisters 3 = .ok (.invokestatic 46, 3) := by decide +kernel
theorem dX2_areRegisters_6 : decode cX2_areRegisters 6 = .ok (.ifCond .eq 16, 3) := by decide +kernel
theorem dX2_areRegisters_9 : decode cX2_areRegisters 9 = .ok (.iload_n 1, 1) := by decide +kernel
theorem dX2_areRegisters_10 : decode cX2_areRegisters 10 = .ok (.bipush 8, 2) := by decide +kernel
theorem dX2_areRegisters_12 : decode cX2_areRegisters 12 = .ok (.invokestatic 46, 3) := by decide +kernel
theorem dX2_areRegisters_15 : decode cX2_areRegisters 15 = .ok (.ifCond .eq 7, 3) := by decide +kernel
theorem dX2_areRegisters_18 : decode cX2_areRegisters 18 = .ok (.iconst 1, 1) := by decide +kernel
theorem dX2_areRegisters_19 : decode cX2_areRegisters 19 = .ok (.goto 4, 3) := by decide +kernel
theorem dX2_areRegisters_22 : decode cX2_areRegisters 22 = .ok (.iconst 0, 1) := by decide +kernel
