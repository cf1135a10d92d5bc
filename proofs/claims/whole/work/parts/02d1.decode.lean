/-! decode rows -/
theorem dX2_areRegisters_23 : decode cX2_areRegisters 23 = .ok (.ireturn, 1) := by decide +kernel
theorem dX2_isSetting_0 : decode cX2_isSetting 0 = .ok (.dload_n 0, 1) := by decide +kernel
theorem dX2_isSetting_1 : decode cX2_isSetting 1 = .ok (.ldc2_w 151, 3) := by decide +kernel
theorem dX2_isSetting_4 : decode cX2_isSetting 4 = .ok (.dcmp .l, 1) := by decide +kernel
theorem dX2_isSetting_5 : decode cX2_isSetting 5 = .ok (.ifCond .lt 15, 3) := by decide +kernel
theorem dX2_isSetting_8 : decode cX2_isSetting 8 = .ok (.dload_n 0, 1) := by decide +kernel
theorem dX2_isSetting_9 : decode cX2_isSetting 9 = .ok (.ldc2_w 149, 3) := by decide +kernel
theorem dX2_isSetting_12 : decode cX2_isSetting 12 = .ok (.dcmp .g, 1) := by decide +kernel
theorem dX2_isSetting_13 : decode cX2_isSetting 13 = .ok (.ifCond .gt 7, 3) := by decide +kernel
theorem dX2_isSetting_16 : decode cX2_isSetting 16 = .ok (.iconst 1, 1) := by decide +kernel
theorem dX2_isSetting_17 : decode cX2_isSetting 17 = .ok (.goto 4, 3) := by decide +kernel
theorem dX2_isSetting_20 : decode cX2_isSetting 20 = .ok (.iconst 0, 1) := by decide +kernel
theorem dX2_isSetting_21 : decode cX2_isSetting 21 = .ok (.ireturn, 1) := by decide +kernel
theorem dX0_become_0 : decode cX0_become 0 = .ok (.aload_n 0, 1) := by decide +kernel
theorem dX0_become_1 : decode cX0_become 1 = .ok (.getfield 9, 3) := by decide +kernel
theorem dX0_become_4 : decode cX0_become 4 = .ok (.istore 7, 2) := by decide +kernel
theorem dX0_become_6 : decode cX0_become 6 = .ok (.aload_n 0, 1) := by decide +kernel
theorem dX0_become_7 : decode cX0_become 7 = .ok (.iload_n 1, 1) := by decide +kernel
theorem dX0_become_8 : decode cX0_become 8 = .ok (.putfield 9, 3) := by decide +kernel
theorem dX0_become_11 : decode cX0_become 11 = .ok (.aload_n 0, 1) := by decide +kernel
theorem dX0_become_12 : decode cX0_become 12 = .ok (.iload_n 2, 1) := by decide +kernel
theorem dX0_become_13 : decode cX0_become 13 = .ok (.putfield 15, 3) := by decide +kernel
theorem dX0_become_16 : decode cX0_become 16 = .ok (.aload_n 0, 1) := by decide +kernel
theorem dX0_become_17 : decode cX0_become 17 = .ok (.iload_n 3, 1) := by decide +kernel
theorem dX0_become_18 : decode cX0_become 18 = .ok (.putfield 18, 3) := by decide +kernel
theorem dX0_become_21 : decode cX0_become 21 = .ok (.aload_n 0, 1) := by decide +kernel
theorem dX0_become_22 : decode cX0_become 22 = .ok (.iload 4, 2) := by decide +kernel
theorem dX0_become_24 : decode cX0_become 24 = .ok (.putfield 21, 3) := by decide +kernel
theorem dX0_become_27 : decode cX0_become 27 = .ok (.aload_n 0, 1) := by decide +kernel
theorem dX0_become_28 : decode cX0_become 28 = .ok (.dload 5, 2) := by decide +kernel
theorem dX0_become_30 : decode cX0_become 30 = .ok (.putfield 24, 3) := by decide +kernel
theorem dX0_become_33 : decode cX0_become 33 = .ok (.aload_n 0, 1) := by decide +kernel
theorem dX0_become_34 : decode cX0_become 34 = .ok (.iconst 0, 1) := by decide +kernel
theorem dX0_become_35 : decode cX0_become 35 = .ok (.putfield 28, 3) := by decide +kernel
theorem dX0_become_38 : decode cX0_become 38 = .ok (.aload_n 0, 1) := by decide +kernel
theorem dX0_become_39 : decode cX0_become 39 = .ok (.iconst 0, 1) := by decide +kernel
theorem dX0_become_40 : decode cX0_become 40 = .ok (.putfield 31, 3) := by decide +kernel
theorem dX0_become_43 : decode cX0_become 43 = .ok (.aload_n 0, 1) := by decide +kernel
theorem dX0_become_44 : decode cX0_become 44 = .ok (.dconst 0, 1) := by decide +kernel
theorem dX0_become_45 : decode cX0_become 45 = .ok (.putfield 35, 3) := by decide +kernel
theorem dX0_become_48 : decode cX0_become 48 = .ok (.aload_n 0, 1) := by decide +kernel
theorem dX0_become_49 : decode cX0_become 49 = .ok (.dconst 0, 1) := by decide +kernel
theorem dX0_become_50 : decode cX0_become 50 = .ok (.putfield 38, 3) := by decide +kernel
theorem dX0_become_53 : decode cX0_become 53 = .ok (.aload_n 0, 1) := by decide +kernel
theorem dX0_become_54 : decode cX0_become 54 = .ok (.iconst 0, 1) := by decide +kernel
theorem dX0_become_55 : decode cX0_become 55 = .ok (.putfield 41, 3) := by decide +kernel
theorem dX0_become_58 : decode cX0_become 58 = .ok (.aload_n 0, 1) := by decide +kernel
theorem dX0_become_59 : decode cX0_become 59 = .ok (.iconst 0, 1) := by decide +kernel
theorem dX0_become_60 : decode cX0_become 60 = .ok (.putfield 44, 3) := by decide +kernel
theorem dX0_become_63 : decode cX0_become 63 = .ok (.iload 7, 2) := by decide +kernel
theorem dX0_become_65 : decode cX0_become 65 = .ok (.ireturn, 1) := by decide +kernel
theorem dL_guard_0 : decode cL_guard 0 = .ok (.aload_n 3, 1) := by decide +kernel
theorem dL_guard_1 : decode cL_guard 1 = .ok (.iconst 0, 1) := by decide +kernel
theorem dL_guard_2 : decode cL_guard 2 = .ok (.aload_n 0, 1) := by decide +kernel
theorem dL_guard_3 : decode cL_guard 3 = .ok (.iload_n 1, 1) := by decide +kernel
theorem dL_guard_4 : decode cL_guard 4 = .ok (.iload_n 2, 1) := by decide +kernel
theorem dL_guard_5 : decode cL_guard 5 = .ok (.invokevirtual 29, 3) := by decide +kernel
theorem dL_guard_8 : decode cL_guard 8 = .ok (.ifCond .eq 7, 3) := by decide +kernel
theorem dL_guard_11 : decode cL_guard 11 = .ok (.lconst 1, 1) := by decide +kernel
theorem dL_guard_12 : decode cL_guard 12 = .ok (.goto 4, 3) := by decide +kernel
theorem dL_guard_15 : decode cL_guard 15 = .ok (.lconst 0, 1) := by decide +kernel
theorem dL_guard_16 : decode cL_guard 16 = .ok (.lastore, 1) := by decide +kernel
theorem dL_guard_17 : decode cL_guard 17 = .ok (.goto 7, 3) := by decide +kernel
theorem dL_guard_20 : decode cL_guard 20 = .ok (.astore 4, 2) := by decide +kernel
theorem dL_guard_22 : decode cL_guard 22 = .ok (.iconst 1, 1) := by decide +kernel
theorem dL_guard_23 : decode cL_guard 23 = .ok (.ireturn, 1) := by decide +kernel
theorem dL_guard_24 : decode cL_guard 24 = .ok (.iconst 0, 1) := by decide +kernel
theorem dL_guard_25 : decode cL_guard 25 = .ok (.ireturn, 1) := by decide +kernel
theorem dX2_guard_0 : decode cX2_guard 0 = .ok (.iload_n 1, 1) := by decide +kernel
theorem dX2_guard_1 : decode cX2_guard 1 = .ok (.bipush 8, 2) := by decide +kernel
theorem dX2_guard_3 : decode cX2_guard 3 = .ok (.invokestatic 46, 3) := by decide +kernel
theorem dX2_guard_6 : decode cX2_guard 6 = .ok (.invokestatic 49, 3) := by decide +kernel
theorem dX2_guard_9 : decode cX2_guard 9 = .ok (.aload_n 0, 1) := by decide +kernel
theorem dX2_guard_10 : decode cX2_guard 10 = .ok (.getfield 26, 3) := by decide +kernel
theorem dX2_guard_13 : decode cX2_guard 13 = .ok (.iload_n 1, 1) := by decide +kernel
theorem dX2_guard_14 : decode cX2_guard 14 = .ok (.aaload, 1) := by decide +kernel
theorem dX2_guard_15 : decode cX2_guard 15 = .ok (.getfield 75, 3) := by decide +kernel
theorem dX2_guard_18 : decode cX2_guard 18 = .ok (.istore_n 3, 1) := by decide +kernel
theorem dX2_guard_19 : decode cX2_guard 19 = .ok (.aload_n 0, 1) := by decide +kernel
theorem dX2_guard_20 : decode cX2_guard 20 = .ok (.getfield 26, 3) := by decide +kernel
theorem dX2_guard_23 : decode cX2_guard 23 = .ok (.iload_n 1, 1) := by decide +kernel
theorem dX2_guard_24 : decode cX2_guard 24 = .ok (.aaload, 1) := by decide +kernel
theorem dX2_guard_25 : decode cX2_guard 25 = .ok (.iload_n 2, 1) := by decide +kernel
theorem dX2_guard_26 : decode cX2_guard 26 = .ok (.putfield 75, 3) := by decide +kernel
theorem dX2_guard_29 : decode cX2_guard 29 = .ok (.iload_n 3, 1) := by decide +kernel
theorem dX2_guard_30 : decode cX2_guard 30 = .ok (.ireturn, 1) := by decide +kernel
theorem dL_input_0 : decode cL_input 0 = .ok (.aload_n 3, 1) := by decide +kernel
theorem dL_input_1 : decode cL_input 1 = .ok (.iconst 0, 1) := by decide +kernel
theorem dL_input_2 : decode cL_input 2 = .ok (.aload_n 0, 1) := by decide +kernel
theorem dL_input_3 : decode cL_input 3 = .ok (.iload_n 1, 1) := by decide +kernel
theorem dL_input_4 : decode cL_input 4 = .ok (.iload_n 2, 1) := by decide +kernel
theorem dL_input_5 : decode cL_input 5 = .ok (.invokevirtual 33, 3) := by decide +kernel
theorem dL_input_8 : decode cL_input 8 = .ok (.ifCond .eq 7, 3) := by decide +kernel
theorem dL_input_11 : decode cL_input 11 = .ok (.lconst 1, 1) := by decide +kernel
theorem dL_input_12 : decode cL_input 12 = .ok (.goto 4, 3) := by decide +kernel
theorem dL_input_15 : decode cL_input 15 = .ok (.lconst 0, 1) := by decide +kernel
theorem dL_input_16 : decode cL_input 16 = .ok (.lastore, 1) := by decide +kernel
theorem dL_input_17 : decode cL_input 17 = .ok (.goto 7, 3) := by decide +kernel
theorem dL_input_20 : decode cL_input 20 = .ok (.astore 4, 2) := by decide +kernel
theorem dL_input_22 : decode cL_input 22 = .ok (.iconst 1, 1) := by decide +kernel
theorem dL_input_23 : decode cL_input 23 = .ok (.ireturn, 1) := by decide +kernel
theorem dL_input_24 : decode cL_input 24 = .ok (.iconst 0, 1) := by decide +kernel
theorem dL_input_25 : decode cL_input 25 = .ok (.ireturn, 1) := by decide +kernel
theorem dX2_input_0 : decode cX2_input 0 = .ok (.iload_n 1, 1) := by decide +kernel
theorem dX2_input_1 : decode cX2_input 1 = .ok (.bipush 8, 2) := by decide +kernel
theorem dX2_input_3 : decode cX2_input 3 = .ok (.invokestatic 46, 3) := by decide +kernel
theorem dX2_input_6 : decode cX2_input 6 = .ok (.invokestatic 49, 3) := by decide +kernel
theorem dX2_input_9 : decode cX2_input 9 = .ok (.aload_n 0, 1) := by decide +kernel
theorem dX2_input_10 : decode cX2_input 10 = .ok (.getfield 9, 3) := by decide +kernel
theorem dX2_input_13 : decode cX2_input 13 = .ok (.iload_n 1, 1) := by decide +kernel
theorem dX2_input_14 : decode cX2_input 14 = .ok (.baload, 1) := by decide +kernel
theorem dX2_input_15 : decode cX2_input 15 = .ok (.istore_n 3, 1) := by decide +kernel
theorem dX2_input_16 : decode cX2_input 16 = .ok (.aload_n 0, 1) := by decide +kernel
theorem dX2_input_17 : decode cX2_input 17 = .ok (.getfield 9, 3) := by decide +kernel
theorem dX2_input_20 : decode cX2_input 20 = .ok (.iload_n 1, 1) := by decide +kernel
theorem dX2_input_21 : decode cX2_input 21 = .ok (.iload_n 2, 1) := by decide +kernel
theorem dX2_input_22 : decode cX2_input 22 = .ok (.bastore, 1) := by decide +kernel
theorem dX2_input_23 : decode cX2_input 23 = .ok (.iload_n 3, 1) := by decide +kernel
theorem dX2_input_24 : decode cX2_input 24 = .ok (.ireturn, 1) := by decide +kernel
theorem dL_set_0 : decode cL_set 0 = .ok (.aload 4, 2) := by decide +kernel
theorem dL_set_2 : decode cL_set 2 = .ok (.iconst 0, 1) := by decide +kernel
theorem dL_set_3 : decode cL_set 3 = .ok (.aload_n 0, 1) := by decide +kernel
theorem dL_set_4 : decode cL_set 4 = .ok (.iload_n 1, 1) := by decide +kernel
theorem dL_set_5 : decode cL_set 5 = .ok (.dload_n 2, 1) := by decide +kernel
theorem dL_set_6 : decode cL_set 6 = .ok (.invokevirtual 36, 3) := by decide +kernel
theorem dL_set_9 : decode cL_set 9 = .ok (.dastore, 1) := by decide +kernel
theorem dL_set_10 : decode cL_set 10 = .ok (.goto 11, 3) := by decide +kernel
theorem dL_set_13 : decode cL_set 13 = .ok (.astore 5, 2) := by decide +kernel
theorem dL_set_15 : decode cL_set 15 = .ok (.iconst 1, 1) := by decide +kernel
theorem dL_set_16 : decode cL_set 16 = .ok (.ireturn, 1) := by decide +kernel
theorem dL_set_17 : decode cL_set 17 = .ok (.astore 5, 2) := by decide +kernel
theorem dL_set_19 : decode cL_set 19 = .ok (.iconst 2, 1) := by decide +kernel
theorem dL_set_20 : decode cL_set 20 = .ok (.ireturn, 1) := by decide +kernel
theorem dL_set_21 : decode cL_set 21 = .ok (.iconst 0, 1) := by decide +kernel
theorem dL_set_22 : decode cL_set 22 = .ok (.ireturn, 1) := by decide +kernel
theorem dX2_set_0 : decode cX2_set 0 = .ok (.dload_n 2, 1) := by decide +kernel
theorem dX2_set_1 : decode cX2_set 1 = .ok (.invokestatic 79, 3) := by decide +kernel
theorem dX2_set_4 : decode cX2_set 4 = .ok (.invokestatic 39, 3) := by decide +kernel
theorem dX2_set_7 : decode cX2_set 7 = .ok (.iload_n 1, 1) := by decide +kernel
theorem dX2_set_8 : decode cX2_set 8 = .ok (.bipush 8, 2) := by decide +kernel
theorem dX2_set_10 : decode cX2_set 10 = .ok (.invokestatic 46, 3) := by decide +kernel
theorem dX2_set_13 : decode cX2_set 13 = .ok (.invokestatic 49, 3) := by decide +kernel
theorem dX2_set_16 : decode cX2_set 16 = .ok (.aload_n 0, 1) := by decide +kernel
theorem dX2_set_17 : decode cX2_set 17 = .ok (.getfield 13, 3) := by decide +kernel
theorem dX2_set_20 : decode cX2_set 20 = .ok (.iload_n 1, 1) := by decide +kernel
theorem dX2_set_21 : decode cX2_set 21 = .ok (.daload, 1) := by decide +kernel
theorem dX2_set_22 : decode cX2_set 22 = .ok (.dstore 4, 2) := by decide +kernel
theorem dX2_set_24 : decode cX2_set 24 = .ok (.aload_n 0, 1) := by decide +kernel
theorem dX2_set_25 : decode cX2_set 25 = .ok (.getfield 13, 3) := by decide +kernel
theorem dX2_set_28 : decode cX2_set 28 = .ok (.iload_n 1, 1) := by decide +kernel
theorem dX2_set_29 : decode cX2_set 29 = .ok (.dload_n 2, 1) := by decide +kernel
theorem dX2_set_30 : decode cX2_set 30 = .ok (.dastore, 1) := by decide +kernel
theorem dX2_set_31 : decode cX2_set 31 = .ok (.dload 4, 2) := by decide +kernel
theorem dX2_set_33 : decode cX2_set 33 = .ok (.dreturn, 1) := by decide +kernel
theorem dX2_isValue_0 : decode cX2_isValue 0 = .ok (.dload_n 0, 1) := by decide +kernel
theorem dX2_isValue_1 : decode cX2_isValue 1 = .ok (.ldc2_w 153, 3) := by decide +kernel
theorem dX2_isValue_4 : decode cX2_isValue 4 = .ok (.dcmp .l, 1) := by decide +kernel
theorem dX2_isValue_5 : decode cX2_isValue 5 = .ok (.ifCond .lt 15, 3) := by decide +kernel
theorem dX2_isValue_8 : decode cX2_isValue 8 = .ok (.dload_n 0, 1) := by decide +kernel
theorem dX2_isValue_9 : decode cX2_isValue 9 = .ok (.ldc2_w 155, 3) := by decide +kernel
theorem dX2_isValue_12 : decode cX2_isValue 12 = .ok (.dcmp .g, 1) := by decide +kernel
theorem dX2_isValue_13 : decode cX2_isValue 13 = .ok (.ifCond .gt 7, 3) := by decide +kernel
theorem dX2_isValue_16 : decode cX2_isValue 16 = .ok (.iconst 1, 1) := by decide +kernel
theorem dX2_isValue_17 : decode cX2_isValue 17 = .ok (.goto 4, 3) := by decide +kernel
theorem dX2_isValue_20 : decode cX2_isValue 20 = .ok (.iconst 0, 1) := by decide +kernel
theorem dX2_isValue_21 : decode cX2_isValue 21 = .ok (.ireturn, 1) := by decide +kernel
theorem dL_scan_0 : decode cL_scan 0 = .ok (.aload_n 2, 1) := by decide +kernel
theorem dL_scan_1 : decode cL_scan 1 = .ok (.iconst 0, 1) := by decide +kernel
theorem dL_scan_2 : decode cL_scan 2 = .ok (.aload_n 0, 1) := by decide +kernel
theorem dL_scan_3 : decode cL_scan 3 = .ok (.iload_n 1, 1) := by decide +kernel
theorem dL_scan_4 : decode cL_scan 4 = .ok (.invokevirtual 40, 3) := by decide +kernel
theorem dL_scan_7 : decode cL_scan 7 = .ok (.i2l, 1) := by decide +kernel
theorem dL_scan_8 : decode cL_scan 8 = .ok (.lastore, 1) := by decide +kernel
theorem dL_scan_9 : decode cL_scan 9 = .ok (.goto 12, 3) := by decide +kernel
theorem dL_scan_12 : decode cL_scan 12 = .ok (.astore_n 3, 1) := by decide +kernel
theorem dL_scan_13 : decode cL_scan 13 = .ok (.iconst 1, 1) := by decide +kernel
theorem dL_scan_14 : decode cL_scan 14 = .ok (.ireturn, 1) := by decide +kernel
theorem dL_scan_15 : decode cL_scan 15 = .ok (.astore_n 3, 1) := by decide +kernel
theorem dL_scan_16 : decode cL_scan 16 = .ok (.iconst 2, 1) := by decide +kernel
theorem dL_scan_17 : decode cL_scan 17 = .ok (.ireturn, 1) := by decide +kernel
theorem dL_scan_18 : decode cL_scan 18 = .ok (.astore_n 3, 1) := by decide +kernel
theorem dL_scan_19 : decode cL_scan 19 = .ok (.iconst 3, 1) := by decide +kernel
theorem dL_scan_20 : decode cL_scan 20 = .ok (.ireturn, 1) := by decide +kernel
theorem dL_scan_21 : decode cL_scan 21 = .ok (.iconst 0, 1) := by decide +kernel
theorem dL_scan_22 : decode cL_scan 22 = .ok (.ireturn, 1) := by decide +kernel
theorem dX2_scan_0 : decode cX2_scan 0 = .ok (.iload_n 1, 1) := by decide +kernel
theorem dX2_scan_1 : decode cX2_scan 1 = .ok (.iconst 1, 1) := by decide +kernel
theorem dX2_scan_2 : decode cX2_scan 2 = .ok (.bipush 50, 2) := by decide +kernel
theorem dX2_scan_4 : decode cX2_scan 4 = .ok (.invokestatic 83, 3) := by decide +kernel
theorem dX2_scan_7 : decode cX2_scan 7 = .ok (.invokestatic 39, 3) := by decide +kernel
theorem dX2_scan_10 : decode cX2_scan 10 = .ok (.aload_n 0, 1) := by decide +kernel
theorem dX2_scan_11 : decode cX2_scan 11 = .ok (.invokevirtual 87, 3) := by decide +kernel
theorem dX2_scan_14 : decode cX2_scan 14 = .ok (.ifCond .eq 13, 3) := by decide +kernel
theorem dX2_scan_17 : decode cX2_scan 17 = .ok (.new 91, 3) := by decide +kernel
theorem dX2_scan_20 : decode cX2_scan 20 = .ok (.dup, 1) := by decide +kernel
theorem dX2_scan_21 : decode cX2_scan 21 = .ok (.ldc 93, 2) := by decide +kernel
theorem dX2_scan_23 : decode cX2_scan 23 = .ok (.invokespecial 95, 3) := by decide +kernel
theorem dX2_scan_26 : decode cX2_scan 26 = .ok (.athrow, 1) := by decide +kernel
theorem dX2_scan_27 : decode cX2_scan 27 = .ok (.iconst 0, 1) := by decide +kernel
theorem dX2_scan_28 : decode cX2_scan 28 = .ok (.istore_n 2, 1) := by decide +kernel
theorem dX2_scan_29 : decode cX2_scan 29 = .ok (.iload_n 2, 1) := by decide +kernel
theorem dX2_scan_30 : decode cX2_scan 30 = .ok (.iload_n 1, 1) := by decide +kernel
theorem dX2_scan_31 : decode cX2_scan 31 = .ok (.if_icmp .ge 30, 3) := by decide +kernel
theorem dX2_scan_34 : decode cX2_scan 34 = .ok (.aload_n 0, 1) := by decide +kernel
theorem dX2_scan_35 : decode cX2_scan 35 = .ok (.invokevirtual 98, 3) := by decide +kernel
theorem dX2_scan_38 : decode cX2_scan 38 = .ok (.aload_n 0, 1) := by decide +kernel
theorem dX2_scan_39 : decode cX2_scan 39 = .ok (.invokevirtual 87, 3) := by decide +kernel
theorem dX2_scan_42 : decode cX2_scan 42 = .ok (.ifCond .eq 13, 3) := by decide +kernel
theorem dX2_scan_45 : decode cX2_scan 45 = .ok (.new 101, 3) := by decide +kernel
theorem dX2_scan_48 : decode cX2_scan 48 = .ok (.dup, 1) := by decide +kernel
theorem dX2_scan_49 : decode cX2_scan 49 = .ok (.ldc 103, 2) := by decide +kernel
theorem dX2_scan_51 : decode cX2_scan 51 = .ok (.invokespecial 105, 3) := by decide +kernel
theorem dX2_scan_54 : decode cX2_scan 54 = .ok (.athrow, 1) := by decide +kernel
theorem dX2_scan_55 : decode cX2_scan 55 = .ok (.iinc 2 1, 3) := by decide +kernel
theorem dX2_scan_58 : decode cX2_scan 58 = .ok (.goto (-29), 3) := by decide +kernel
theorem dX2_scan_61 : decode cX2_scan 61 = .ok (.aload_n 0, 1) := by decide +kernel
theorem dX2_scan_62 : decode cX2_scan 62 = .ok (.getfield 106, 3) := by decide +kernel
theorem dX2_scan_65 : decode cX2_scan 65 = .ok (.ireturn, 1) := by decide +kernel
theorem dX2_isHalted_0 : decode cX2_isHalted 0 = .ok (.aload_n 0, 1) := by decide +kernel
theorem dX2_isHalted_1 : decode cX2_isHalted 1 = .ok (.getfield 31, 3) := by decide +kernel
theorem dX2_isHalted_4 : decode cX2_isHalted 4 = .ok (.iconst (-1), 1) := by decide +kernel
theorem dX2_isHalted_5 : decode cX2_isHalted 5 = .ok (.if_icmp .eq 7, 3) := by decide +kernel
theorem dX2_isHalted_8 : decode cX2_isHalted 8 = .ok (.iconst 1, 1) := by decide +kernel
theorem dX2_isHalted_9 : decode cX2_isHalted 9 = .ok (.goto 4, 3) := by decide +kernel
theorem dX2_isHalted_12 : decode cX2_isHalted 12 = .ok (.iconst 0, 1) := by decide +kernel
theorem dX2_isHalted_13 : decode cX2_isHalted 13 = .ok (.ireturn, 1) := by decide +kernel
theorem dX2_scanOnce_0 : decode cX2_scanOnce 0 = .ok (.aload_n 0, 1) := by decide +kernel
theorem dX2_scanOnce_1 : decode cX2_scanOnce 1 = .ok (.dup, 1) := by decide +kernel
theorem dX2_scanOnce_2 : decode cX2_scanOnce 2 = .ok (.getfield 106, 3) := by decide +kernel
theorem dX2_scanOnce_5 : decode cX2_scanOnce 5 = .ok (.iconst 1, 1) := by decide +kernel
theorem dX2_scanOnce_6 : decode cX2_scanOnce 6 = .ok (.iadd, 1) := by decide +kernel
theorem dX2_scanOnce_7 : decode cX2_scanOnce 7 = .ok (.putfield 106, 3) := by decide +kernel
theorem dX2_scanOnce_10 : decode cX2_scanOnce 10 = .ok (.iconst 0, 1) := by decide +kernel
theorem dX2_scanOnce_11 : decode cX2_scanOnce 11 = .ok (.istore_n 1, 1) := by decide +kernel
theorem dX2_scanOnce_12 : decode cX2_scanOnce 12 = .ok (.iload_n 1, 1) := by decide +kernel
theorem dX2_scanOnce_13 : decode cX2_scanOnce 13 = .ok (.iconst 5, 1) := by decide +kernel
theorem dX2_scanOnce_14 : decode cX2_scanOnce 14 = .ok (.if_icmp .ge 86, 3) := by decide +kernel
theorem dX2_scanOnce_17 : decode cX2_scanOnce 17 = .ok (.aload_n 0, 1) := by decide +kernel
theorem dX2_scanOnce_18 : decode cX2_scanOnce 18 = .ok (.invokevirtual 87, 3) := by decide +kernel
theorem dX2_scanOnce_21 : decode cX2_scanOnce 21 = .ok (.ifCond .ne 79, 3) := by decide +kernel
theorem dX2_scanOnce_24 : decode cX2_scanOnce 24 = .ok (.aload_n 0, 1) := by decide +kernel
theorem dX2_scanOnce_25 : decode cX2_scanOnce 25 = .ok (.getfield 19, 3) := by decide +kernel
theorem dX2_scanOnce_28 : decode cX2_scanOnce 28 = .ok (.iload_n 1, 1) := by decide +kernel
theorem dX2_scanOnce_29 : decode cX2_scanOnce 29 = .ok (.aaload, 1) := by decide +kernel
theorem dX2_scanOnce_30 : decode cX2_scanOnce 30 = .ok (.aload_n 0, 1) := by decide +kernel
theorem dX2_scanOnce_31 : decode cX2_scanOnce 31 = .ok (.getfield 9, 3) := by decide +kernel
theorem dX2_scanOnce_34 : decode cX2_scanOnce 34 = .ok (.invokevirtual 157, 3) := by decide +kernel
theorem dX2_scanOnce_37 : decode cX2_scanOnce 37 = .ok (.iconst 0, 1) := by decide +kernel
theorem dX2_scanOnce_38 : decode cX2_scanOnce 38 = .ok (.istore_n 2, 1) := by decide +kernel
theorem dX2_scanOnce_39 : decode cX2_scanOnce 39 = .ok (.iload_n 2, 1) := by decide +kernel
theorem dX2_scanOnce_40 : decode cX2_scanOnce 40 = .ok (.iconst 3, 1) := by decide +kernel
theorem dX2_scanOnce_41 : decode cX2_scanOnce 41 = .ok (.if_icmp .ge 53, 3) := by decide +kernel
theorem dX2_scanOnce_44 : decode cX2_scanOnce 44 = .ok (.aload_n 0, 1) := by decide +kernel
theorem dX2_scanOnce_45 : decode cX2_scanOnce 45 = .ok (.invokevirtual 87, 3) := by decide +kernel
theorem dX2_scanOnce_48 : decode cX2_scanOnce 48 = .ok (.ifCond .ne 46, 3) := by decide +kernel
theorem dX2_scanOnce_51 : decode cX2_scanOnce 51 = .ok (.aload_n 0, 1) := by decide +kernel
theorem dX2_scanOnce_52 : decode cX2_scanOnce 52 = .ok (.aload_n 0, 1) := by decide +kernel
theorem dX2_scanOnce_53 : decode cX2_scanOnce 53 = .ok (.getfield 19, 3) := by decide +kernel
theorem dX2_scanOnce_56 : decode cX2_scanOnce 56 = .ok (.iload_n 1, 1) := by decide +kernel
theorem dX2_scanOnce_57 : decode cX2_scanOnce 57 = .ok (.aaload, 1) := by decide +kernel
theorem dX2_scanOnce_58 : decode cX2_scanOnce 58 = .ok (.getfield 161, 3) := by decide +kernel
theorem dX2_scanOnce_61 : decode cX2_scanOnce 61 = .ok (.iload_n 2, 1) := by decide +kernel
theorem dX2_scanOnce_62 : decode cX2_scanOnce 62 = .ok (.iaload, 1) := by decide +kernel
theorem dX2_scanOnce_63 : decode cX2_scanOnce 63 = .ok (.aload_n 0, 1) := by decide +kernel
theorem dX2_scanOnce_64 : decode cX2_scanOnce 64 = .ok (.getfield 19, 3) := by decide +kernel
theorem dX2_scanOnce_67 : decode cX2_scanOnce 67 = .ok (.iload_n 1, 1) := by decide +kernel
theorem dX2_scanOnce_68 : decode cX2_scanOnce 68 = .ok (.aaload, 1) := by decide +kernel
theorem dX2_scanOnce_69 : decode cX2_scanOnce 69 = .ok (.getfield 165, 3) := by decide +kernel
theorem dX2_scanOnce_72 : decode cX2_scanOnce 72 = .ok (.iload_n 2, 1) := by decide +kernel
theorem dX2_scanOnce_73 : decode cX2_scanOnce 73 = .ok (.iaload, 1) := by decide +kernel
theorem dX2_scanOnce_74 : decode cX2_scanOnce 74 = .ok (.aload_n 0, 1) := by decide +kernel
theorem dX2_scanOnce_75 : decode cX2_scanOnce 75 = .ok (.getfield 19, 3) := by decide +kernel
theorem dX2_scanOnce_78 : decode cX2_scanOnce 78 = .ok (.iload_n 1, 1) := by decide +kernel
theorem dX2_scanOnce_79 : decode cX2_scanOnce 79 = .ok (.aaload, 1) := by decide +kernel
theorem dX2_scanOnce_80 : decode cX2_scanOnce 80 = .ok (.iload_n 2, 1) := by decide +kernel
theorem dX2_scanOnce_81 : decode cX2_scanOnce 81 = .ok (.iconst 3, 1) := by decide +kernel
theorem dX2_scanOnce_82 : decode cX2_scanOnce 82 = .ok (.invokevirtual 109, 3) := by decide +kernel
theorem dX2_scanOnce_85 : decode cX2_scanOnce 85 = .ok (.invokevirtual 168, 3) := by decide +kernel
theorem dX2_scanOnce_88 : decode cX2_scanOnce 88 = .ok (.iinc 2 1, 3) := by decide +kernel
theorem dX2_scanOnce_91 : decode cX2_scanOnce 91 = .ok (.goto (-52), 3) := by decide +kernel
theorem dX2_scanOnce_94 : decode cX2_scanOnce 94 = .ok (.iinc 1 1, 3) := by decide +kernel
theorem dX2_scanOnce_97 : decode cX2_scanOnce 97 = .ok (.goto (-85), 3) := by decide +kernel
theorem dX2_scanOnce_100 : decode cX2_scanOnce 100 = .ok (.return_, 1) := by decide +kernel
theorem dX1_look_0 : decode cX1_look 0 = .ok (.iconst 0, 1) := by decide +kernel
theorem dX1_look_1 : decode cX1_look 1 = .ok (.istore_n 2, 1) := by decide +kernel
theorem dX1_look_2 : decode cX1_look 2 = .ok (.iload_n 2, 1) := by decide +kernel
theorem dX1_look_3 : decode cX1_look 3 = .ok (.iconst 3, 1) := by decide +kernel
theorem dX1_look_4 : decode cX1_look 4 = .ok (.if_icmp .ge 18, 3) := by decide +kernel
theorem dX1_look_7 : decode cX1_look 7 = .ok (.aload_n 0, 1) := by decide +kernel
theorem dX1_look_8 : decode cX1_look 8 = .ok (.getfield 25, 3) := by decide +kernel
theorem dX1_look_11 : decode cX1_look 11 = .ok (.iload_n 2, 1) := by decide +kernel
theorem dX1_look_12 : decode cX1_look 12 = .ok (.iconst 5, 1) := by decide +kernel
theorem dX1_look_13 : decode cX1_look 13 = .ok (.imul, 1) := by decide +kernel
theorem dX1_look_14 : decode cX1_look 14 = .ok (.iconst 1, 1) := by decide +kernel
theorem dX1_look_15 : decode cX1_look 15 = .ok (.bastore, 1) := by decide +kernel
theorem dX1_look_16 : decode cX1_look 16 = .ok (.iinc 2 1, 3) := by decide +kernel
theorem dX1_look_19 : decode cX1_look 19 = .ok (.goto (-17), 3) := by decide +kernel
theorem dX1_look_22 : decode cX1_look 22 = .ok (.iconst 0, 1) := by decide +kernel
theorem dX1_look_23 : decode cX1_look 23 = .ok (.istore_n 2, 1) := by decide +kernel
theorem dX1_look_24 : decode cX1_look 24 = .ok (.iload_n 2, 1) := by decide +kernel
theorem dX1_look_25 : decode cX1_look 25 = .ok (.iconst 4, 1) := by decide +kernel
theorem dX1_look_26 : decode cX1_look 26 = .ok (.if_icmp .ge 85, 3) := by decide +kernel
theorem dX1_look_29 : decode cX1_look 29 = .ok (.iconst 0, 1) := by decide +kernel
theorem dX1_look_30 : decode cX1_look 30 = .ok (.istore_n 3, 1) := by decide +kernel
theorem dX1_look_31 : decode cX1_look 31 = .ok (.iload_n 3, 1) := by decide +kernel
theorem dX1_look_32 : decode cX1_look 32 = .ok (.iconst 3, 1) := by decide +kernel
theorem dX1_look_33 : decode cX1_look 33 = .ok (.if_icmp .ge 54, 3) := by decide +kernel
theorem dX1_look_36 : decode cX1_look 36 = .ok (.aload_n 0, 1) := by decide +kernel
theorem dX1_look_37 : decode cX1_look 37 = .ok (.iload_n 3, 1) := by decide +kernel
theorem dX1_look_38 : decode cX1_look 38 = .ok (.iconst 4, 1) := by decide +kernel
theorem dX1_look_39 : decode cX1_look 39 = .ok (.imul, 1) := by decide +kernel
theorem dX1_look_40 : decode cX1_look 40 = .ok (.iload_n 2, 1) := by decide +kernel
theorem dX1_look_41 : decode cX1_look 41 = .ok (.iadd, 1) := by decide +kernel
theorem dX1_look_42 : decode cX1_look 42 = .ok (.aload_n 1, 1) := by decide +kernel
theorem dX1_look_43 : decode cX1_look 43 = .ok (.invokevirtual 38, 3) := by decide +kernel
theorem dX1_look_46 : decode cX1_look 46 = .ok (.istore 4, 2) := by decide +kernel
theorem dX1_look_48 : decode cX1_look 48 = .ok (.aload_n 0, 1) := by decide +kernel
theorem dX1_look_49 : decode cX1_look 49 = .ok (.getfield 25, 3) := by decide +kernel
theorem dX1_look_52 : decode cX1_look 52 = .ok (.iload_n 3, 1) := by decide +kernel
theorem dX1_look_53 : decode cX1_look 53 = .ok (.iconst 5, 1) := by decide +kernel
theorem dX1_look_54 : decode cX1_look 54 = .ok (.imul, 1) := by decide +kernel
theorem dX1_look_55 : decode cX1_look 55 = .ok (.iload_n 2, 1) := by decide +kernel
theorem dX1_look_56 : decode cX1_look 56 = .ok (.iadd, 1) := by decide +kernel
theorem dX1_look_57 : decode cX1_look 57 = .ok (.iconst 1, 1) := by decide +kernel
theorem dX1_look_58 : decode cX1_look 58 = .ok (.iadd, 1) := by decide +kernel
theorem dX1_look_59 : decode cX1_look 59 = .ok (.iload 4, 2) := by decide +kernel
theorem dX1_look_61 : decode cX1_look 61 = .ok (.ifCond .eq 18, 3) := by decide +kernel
theorem dX1_look_64 : decode cX1_look 64 = .ok (.aload_n 0, 1) := by decide +kernel
theorem dX1_look_65 : decode cX1_look 65 = .ok (.iload_n 3, 1) := by decide +kernel
theorem dX1_look_66 : decode cX1_look 66 = .ok (.iload_n 2, 1) := by decide +kernel
theorem dX1_look_67 : decode cX1_look 67 = .ok (.iconst 1, 1) := by decide +kernel
theorem dX1_look_68 : decode cX1_look 68 = .ok (.isub, 1) := by decide +kernel
theorem dX1_look_69 : decode cX1_look 69 = .ok (.invokevirtual 42, 3) := by decide +kernel
theorem dX1_look_72 : decode cX1_look 72 = .ok (.ifCond .eq 7, 3) := by decide +kernel
theorem dX1_look_75 : decode cX1_look 75 = .ok (.iconst 1, 1) := by decide +kernel
theorem dX1_look_76 : decode cX1_look 76 = .ok (.goto 4, 3) := by decide +kernel
theorem dX1_look_79 : decode cX1_look 79 = .ok (.iconst 0, 1) := by decide +kernel
theorem dX1_look_80 : decode cX1_look 80 = .ok (.bastore, 1) := by decide +kernel
theorem dX1_look_81 : decode cX1_look 81 = .ok (.iinc 3 1, 3) := by decide +kernel
theorem dX1_look_84 : decode cX1_look 84 = .ok (.goto (-53), 3) := by decide +kernel
theorem dX1_look_87 : decode cX1_look 87 = .ok (.aload_n 0, 1) := by decide +kernel
theorem dX1_look_88 : decode cX1_look 88 = .ok (.iconst 0, 1) := by decide +kernel
theorem dX1_look_89 : decode cX1_look 89 = .ok (.iload_n 2, 1) := by decide +kernel
theorem dX1_look_90 : decode cX1_look 90 = .ok (.invokevirtual 46, 3) := by decide +kernel
theorem dX1_look_93 : decode cX1_look 93 = .ok (.aload_n 0, 1) := by decide +kernel
theorem dX1_look_94 : decode cX1_look 94 = .ok (.iconst 1, 1) := by decide +kernel
theorem dX1_look_95 : decode cX1_look 95 = .ok (.iload_n 2, 1) := by decide +kernel
theorem dX1_look_96 : decode cX1_look 96 = .ok (.invokevirtual 46, 3) := by decide +kernel
theorem dX1_look_99 : decode cX1_look 99 = .ok (.aload_n 0, 1) := by decide +kernel
theorem dX1_look_100 : decode cX1_look 100 = .ok (.iconst 0, 1) := by decide +kernel
theorem dX1_look_101 : decode cX1_look 101 = .ok (.iload_n 2, 1) := by decide +kernel
theorem dX1_look_102 : decode cX1_look 102 = .ok (.invokevirtual 46, 3) := by decide +kernel
theorem dX1_look_105 : decode cX1_look 105 = .ok (.iinc 2 1, 3) := by decide +kernel
theorem dX1_look_108 : decode cX1_look 108 = .ok (.goto (-84), 3) := by decide +kernel
theorem dX1_look_111 : decode cX1_look 111 = .ok (.return_, 1) := by decide +kernel
theorem dX1_lookAtCell_0 : decode cX1_lookAtCell 0 = .ok (.aload_n 2, 1) := by decide +kernel
theorem dX1_lookAtCell_1 : decode cX1_lookAtCell 1 = .ok (.aload_n 0, 1) := by decide +kernel
theorem dX1_lookAtCell_2 : decode cX1_lookAtCell 2 = .ok (.getfield 15, 3) := by decide +kernel
theorem dX1_lookAtCell_5 : decode cX1_lookAtCell 5 = .ok (.iload_n 1, 1) := by decide +kernel
theorem dX1_lookAtCell_6 : decode cX1_lookAtCell 6 = .ok (.iaload, 1) := by decide +kernel
theorem dX1_lookAtCell_7 : decode cX1_lookAtCell 7 = .ok (.baload, 1) := by decide +kernel
theorem dX1_lookAtCell_8 : decode cX1_lookAtCell 8 = .ok (.istore_n 3, 1) := by decide +kernel
theorem dX1_lookAtCell_9 : decode cX1_lookAtCell 9 = .ok (.aload_n 0, 1) := by decide +kernel
theorem dX1_lookAtCell_10 : decode cX1_lookAtCell 10 = .ok (.getfield 18, 3) := by decide +kernel
theorem dX1_lookAtCell_13 : decode cX1_lookAtCell 13 = .ok (.iload_n 1, 1) := by decide +kernel
theorem dX1_lookAtCell_14 : decode cX1_lookAtCell 14 = .ok (.baload, 1) := by decide +kernel
theorem dX1_lookAtCell_15 : decode cX1_lookAtCell 15 = .ok (.istore 4, 2) := by decide +kernel
theorem dX1_lookAtCell_17 : decode cX1_lookAtCell 17 = .ok (.aload_n 0, 1) := by decide +kernel
theorem dX1_lookAtCell_18 : decode cX1_lookAtCell 18 = .ok (.getfield 18, 3) := by decide +kernel
theorem dX1_lookAtCell_21 : decode cX1_lookAtCell 21 = .ok (.iload_n 1, 1) := by decide +kernel
theorem dX1_lookAtCell_22 : decode cX1_lookAtCell 22 = .ok (.iload_n 3, 1) := by decide +kernel
theorem dX1_lookAtCell_23 : decode cX1_lookAtCell 23 = .ok (.bastore, 1) := by decide +kernel
theorem dX1_lookAtCell_24 : decode cX1_lookAtCell 24 = .ok (.aload_n 0, 1) := by decide +kernel
theorem dX1_lookAtCell_25 : decode cX1_lookAtCell 25 = .ok (.getfield 9, 3) := by decide +kernel
theorem dX1_lookAtCell_28 : decode cX1_lookAtCell 28 = .ok (.iload_n 1, 1) := by decide +kernel
theorem dX1_lookAtCell_29 : decode cX1_lookAtCell 29 = .ok (.iaload, 1) := by decide +kernel
theorem dX1_lookAtCell_30 : decode cX1_lookAtCell 30 = .ok (.tableswitch 78 1 5 #[34, 36, 38, 48, 63], 34) := by decide +kernel
theorem dX1_lookAtCell_64 : decode cX1_lookAtCell 64 = .ok (.iconst 1, 1) := by decide +kernel
theorem dX1_lookAtCell_65 : decode cX1_lookAtCell 65 = .ok (.ireturn, 1) := by decide +kernel
theorem dX1_lookAtCell_66 : decode cX1_lookAtCell 66 = .ok (.iload_n 3, 1) := by decide +kernel
theorem dX1_lookAtCell_67 : decode cX1_lookAtCell 67 = .ok (.ireturn, 1) := by decide +kernel
theorem dX1_lookAtCell_68 : decode cX1_lookAtCell 68 = .ok (.iload_n 3, 1) := by decide +kernel
theorem dX1_lookAtCell_69 : decode cX1_lookAtCell 69 = .ok (.ifCond .ne 7, 3) := by decide +kernel
theorem dX1_lookAtCell_72 : decode cX1_lookAtCell 72 = .ok (.iconst 1, 1) := by decide +kernel
theorem dX1_lookAtCell_73 : decode cX1_lookAtCell 73 = .ok (.goto 4, 3) := by decide +kernel
theorem dX1_lookAtCell_76 : decode cX1_lookAtCell 76 = .ok (.iconst 0, 1) := by decide +kernel
theorem dX1_lookAtCell_77 : decode cX1_lookAtCell 77 = .ok (.ireturn, 1) := by decide +kernel
theorem dX1_lookAtCell_78 : decode cX1_lookAtCell 78 = .ok (.iload_n 3, 1) := by decide +kernel
theorem dX1_lookAtCell_79 : decode cX1_lookAtCell 79 = .ok (.ifCond .eq 12, 3) := by decide +kernel
theorem dX1_lookAtCell_82 : decode cX1_lookAtCell 82 = .ok (.iload 4, 2) := by decide +kernel
theorem dX1_lookAtCell_84 : decode cX1_lookAtCell 84 = .ok (.ifCond .ne 7, 3) := by decide +kernel
theorem dX1_lookAtCell_87 : decode cX1_lookAtCell 87 = .ok (.iconst 1, 1) := by decide +kernel
theorem dX1_lookAtCell_88 : decode cX1_lookAtCell 88 = .ok (.goto 4, 3) := by decide +kernel
theorem dX1_lookAtCell_91 : decode cX1_lookAtCell 91 = .ok (.iconst 0, 1) := by decide +kernel
theorem dX1_lookAtCell_92 : decode cX1_lookAtCell 92 = .ok (.ireturn, 1) := by decide +kernel
theorem dX1_lookAtCell_93 : decode cX1_lookAtCell 93 = .ok (.iload_n 3, 1) := by decide +kernel
theorem dX1_lookAtCell_94 : decode cX1_lookAtCell 94 = .ok (.ifCond .ne 12, 3) := by decide +kernel
theorem dX1_lookAtCell_97 : decode cX1_lookAtCell 97 = .ok (.iload 4, 2) := by decide +kernel
theorem dX1_lookAtCell_99 : decode cX1_lookAtCell 99 = .ok (.ifCond .eq 7, 3) := by decide +kernel
theorem dX1_lookAtCell_102 : decode cX1_lookAtCell 102 = .ok (.iconst 1, 1) := by decide +kernel
theorem dX1_lookAtCell_103 : decode cX1_lookAtCell 103 = .ok (.goto 4, 3) := by decide +kernel
theorem dX1_lookAtCell_106 : decode cX1_lookAtCell 106 = .ok (.iconst 0, 1) := by decide +kernel
theorem dX1_lookAtCell_107 : decode cX1_lookAtCell 107 = .ok (.ireturn, 1) := by decide +kernel
theorem dX1_lookAtCell_108 : decode cX1_lookAtCell 108 = .ok (.iconst 0, 1) := by decide +kernel
theorem dX1_lookAtCell_109 : decode cX1_lookAtCell 109 = .ok (.ireturn, 1) := by decide +kernel
theorem dX1_hadPower_0 : decode cX1_hadPower 0 = .ok (.aload_n 0, 1) := by decide +kernel
theorem dX1_hadPower_1 : decode cX1_hadPower 1 = .ok (.getfield 25, 3) := by decide +kernel
theorem dX1_hadPower_4 : decode cX1_hadPower 4 = .ok (.iload_n 1, 1) := by decide +kernel
theorem dX1_hadPower_5 : decode cX1_hadPower 5 = .ok (.iconst 5, 1) := by decide +kernel
theorem dX1_hadPower_6 : decode cX1_hadPower 6 = .ok (.imul, 1) := by decide +kernel
theorem dX1_hadPower_7 : decode cX1_hadPower 7 = .ok (.iload_n 2, 1) := by decide +kernel
theorem dX1_hadPower_8 : decode cX1_hadPower 8 = .ok (.iadd, 1) := by decide +kernel
theorem dX1_hadPower_9 : decode cX1_hadPower 9 = .ok (.iconst 1, 1) := by decide +kernel
theorem dX1_hadPower_10 : decode cX1_hadPower 10 = .ok (.iadd, 1) := by decide +kernel
theorem dX1_hadPower_11 : decode cX1_hadPower 11 = .ok (.baload, 1) := by decide +kernel
theorem dX1_hadPower_12 : decode cX1_hadPower 12 = .ok (.ireturn, 1) := by decide +kernel
theorem dX1_join_0 : decode cX1_join 0 = .ok (.aload_n 0, 1) := by decide +kernel
theorem dX1_join_1 : decode cX1_join 1 = .ok (.getfield 22, 3) := by decide +kernel
theorem dX1_join_4 : decode cX1_join 4 = .ok (.iload_n 1, 1) := by decide +kernel
theorem dX1_join_5 : decode cX1_join 5 = .ok (.iconst 4, 1) := by decide +kernel
theorem dX1_join_6 : decode cX1_join 6 = .ok (.imul, 1) := by decide +kernel
theorem dX1_join_7 : decode cX1_join 7 = .ok (.iload_n 2, 1) := by decide +kernel
theorem dX1_join_8 : decode cX1_join 8 = .ok (.iadd, 1) := by decide +kernel
theorem dX1_join_9 : decode cX1_join 9 = .ok (.baload, 1) := by decide +kernel
theorem dX1_join_10 : decode cX1_join 10 = .ok (.ifCond .ne 4, 3) := by decide +kernel
theorem dX1_join_13 : decode cX1_join 13 = .ok (.return_, 1) := by decide +kernel
theorem dX1_join_14 : decode cX1_join 14 = .ok (.iload_n 1, 1) := by decide +kernel
theorem dX1_join_15 : decode cX1_join 15 = .ok (.iconst 5, 1) := by decide +kernel
theorem dX1_join_16 : decode cX1_join 16 = .ok (.imul, 1) := by decide +kernel
theorem dX1_join_17 : decode cX1_join 17 = .ok (.iload_n 2, 1) := by decide +kernel
theorem dX1_join_18 : decode cX1_join 18 = .ok (.iadd, 1) := by decide +kernel
theorem dX1_join_19 : decode cX1_join 19 = .ok (.iconst 1, 1) := by decide +kernel
theorem dX1_join_20 : decode cX1_join 20 = .ok (.iadd, 1) := by decide +kernel
theorem dX1_join_21 : decode cX1_join 21 = .ok (.istore_n 3, 1) := by decide +kernel
theorem dX1_join_22 : decode cX1_join 22 = .ok (.iload_n 3, 1) := by decide +kernel
theorem dX1_join_23 : decode cX1_join 23 = .ok (.iconst 5, 1) := by decide +kernel
theorem dX1_join_24 : decode cX1_join 24 = .ok (.iadd, 1) := by decide +kernel
theorem dX1_join_25 : decode cX1_join 25 = .ok (.istore 4, 2) := by decide +kernel
theorem dX1_join_27 : decode cX1_join 27 = .ok (.aload_n 0, 1) := by decide +kernel
theorem dX1_join_28 : decode cX1_join 28 = .ok (.getfield 25, 3) := by decide +kernel
theorem dX1_join_31 : decode cX1_join 31 = .ok (.iload_n 3, 1) := by decide +kernel
theorem dX1_join_32 : decode cX1_join 32 = .ok (.baload, 1) := by decide +kernel
theorem dX1_join_33 : decode cX1_join 33 = .ok (.ifCond .ne 13, 3) := by decide +kernel
theorem dX1_join_36 : decode cX1_join 36 = .ok (.aload_n 0, 1) := by decide +kernel
theorem dX1_join_37 : decode cX1_join 37 = .ok (.getfield 25, 3) := by decide +kernel
theorem dX1_join_40 : decode cX1_join 40 = .ok (.iload 4, 2) := by decide +kernel
theorem dX1_join_42 : decode cX1_join 42 = .ok (.baload, 1) := by decide +kernel
theorem dX1_join_43 : decode cX1_join 43 = .ok (.ifCond .eq 7, 3) := by decide +kernel
theorem dX1_join_46 : decode cX1_join 46 = .ok (.iconst 1, 1) := by decide +kernel
theorem dX1_join_47 : decode cX1_join 47 = .ok (.goto 4, 3) := by decide +kernel
theorem dX1_join_50 : decode cX1_join 50 = .ok (.iconst 0, 1) := by decide +kernel
theorem dX1_join_51 : decode cX1_join 51 = .ok (.istore 5, 2) := by decide +kernel
theorem dX1_join_53 : decode cX1_join 53 = .ok (.aload_n 0, 1) := by decide +kernel
theorem dX1_join_54 : decode cX1_join 54 = .ok (.getfield 25, 3) := by decide +kernel
theorem dX1_join_57 : decode cX1_join 57 = .ok (.iload_n 3, 1) := by decide +kernel
theorem dX1_join_58 : decode cX1_join 58 = .ok (.iload 5, 2) := by decide +kernel
theorem dX1_join_60 : decode cX1_join 60 = .ok (.bastore, 1) := by decide +kernel
theorem dX1_join_61 : decode cX1_join 61 = .ok (.aload_n 0, 1) := by decide +kernel
theorem dX1_join_62 : decode cX1_join 62 = .ok (.getfield 25, 3) := by decide +kernel
theorem dX1_join_65 : decode cX1_join 65 = .ok (.iload 4, 2) := by decide +kernel
theorem dX1_join_67 : decode cX1_join 67 = .ok (.iload 5, 2) := by decide +kernel
theorem dX1_join_69 : decode cX1_join 69 = .ok (.bastore, 1) := by decide +kernel
theorem dX1_join_70 : decode cX1_join 70 = .ok (.return_, 1) := by decide +kernel
theorem dX2_drive_0 : decode cX2_drive 0 = .ok (.iload_n 1, 1) := by decide +kernel
theorem dX2_drive_1 : decode cX2_drive 1 = .ok (.tableswitch 124 1 4 #[31, 41, 68, 95], 31) := by decide +kernel
theorem dX2_drive_32 : decode cX2_drive 32 = .ok (.aload_n 0, 1) := by decide +kernel
theorem dX2_drive_33 : decode cX2_drive 33 = .ok (.getfield 9, 3) := by decide +kernel
theorem dX2_drive_36 : decode cX2_drive 36 = .ok (.iload_n 2, 1) := by decide +kernel
theorem dX2_drive_37 : decode cX2_drive 37 = .ok (.iload_n 3, 1) := by decide +kernel
theorem dX2_drive_38 : decode cX2_drive 38 = .ok (.bastore, 1) := by decide +kernel
theorem dX2_drive_39 : decode cX2_drive 39 = .ok (.goto 86, 3) := by decide +kernel
theorem dX2_drive_42 : decode cX2_drive 42 = .ok (.aload_n 0, 1) := by decide +kernel
theorem dX2_drive_43 : decode cX2_drive 43 = .ok (.getfield 9, 3) := by decide +kernel
theorem dX2_drive_46 : decode cX2_drive 46 = .ok (.iload_n 2, 1) := by decide +kernel
theorem dX2_drive_47 : decode cX2_drive 47 = .ok (.aload_n 0, 1) := by decide +kernel
theorem dX2_drive_48 : decode cX2_drive 48 = .ok (.getfield 9, 3) := by decide +kernel
theorem dX2_drive_51 : decode cX2_drive 51 = .ok (.iload_n 2, 1) := by decide +kernel
theorem dX2_drive_52 : decode cX2_drive 52 = .ok (.baload, 1) := by decide +kernel
theorem dX2_drive_53 : decode cX2_drive 53 = .ok (.ifCond .ne 7, 3) := by decide +kernel
theorem dX2_drive_56 : decode cX2_drive 56 = .ok (.iload_n 3, 1) := by decide +kernel
theorem dX2_drive_57 : decode cX2_drive 57 = .ok (.ifCond .eq 7, 3) := by decide +kernel
theorem dX2_drive_60 : decode cX2_drive 60 = .ok (.iconst 1, 1) := by decide +kernel
theorem dX2_drive_61 : decode cX2_drive 61 = .ok (.goto 4, 3) := by decide +kernel
theorem dX2_drive_64 : decode cX2_drive 64 = .ok (.iconst 0, 1) := by decide +kernel
theorem dX2_drive_65 : decode cX2_drive 65 = .ok (.bastore, 1) := by decide +kernel
theorem dX2_drive_66 : decode cX2_drive 66 = .ok (.goto 59, 3) := by decide +kernel
theorem dX2_drive_69 : decode cX2_drive 69 = .ok (.aload_n 0, 1) := by decide +kernel
theorem dX2_drive_70 : decode cX2_drive 70 = .ok (.getfield 9, 3) := by decide +kernel
theorem dX2_drive_73 : decode cX2_drive 73 = .ok (.iload_n 2, 1) := by decide +kernel
theorem dX2_drive_74 : decode cX2_drive 74 = .ok (.aload_n 0, 1) := by decide +kernel
theorem dX2_drive_75 : decode cX2_drive 75 = .ok (.getfield 9, 3) := by decide +kernel
theorem dX2_drive_78 : decode cX2_drive 78 = .ok (.iload_n 2, 1) := by decide +kernel
theorem dX2_drive_79 : decode cX2_drive 79 = .ok (.baload, 1) := by decide +kernel
theorem dX2_drive_80 : decode cX2_drive 80 = .ok (.ifCond .eq 11, 3) := by decide +kernel
theorem dX2_drive_83 : decode cX2_drive 83 = .ok (.iload_n 3, 1) := by decide +kernel
theorem dX2_drive_84 : decode cX2_drive 84 = .ok (.ifCond .ne 7, 3) := by decide +kernel
theorem dX2_drive_87 : decode cX2_drive 87 = .ok (.iconst 1, 1) := by decide +kernel
theorem dX2_drive_88 : decode cX2_drive 88 = .ok (.goto 4, 3) := by decide +kernel
theorem dX2_drive_91 : decode cX2_drive 91 = .ok (.iconst 0, 1) := by decide +kernel
theorem dX2_drive_92 : decode cX2_drive 92 = .ok (.bastore, 1) := by decide +kernel
