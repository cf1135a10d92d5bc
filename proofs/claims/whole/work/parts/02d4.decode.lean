/-! decode rows -/
theorem dX3_fits_100 : decode cX3_fits 100 = .ok (.ifCond .eq 31, 3) := by decide +kernel
theorem dX3_fits_103 : decode cX3_fits 103 = .ok (.iload_n 0, 1) := by decide +kernel
theorem dX3_fits_104 : decode cX3_fits 104 = .ok (.bipush 8, 2) := by decide +kernel
theorem dX3_fits_106 : decode cX3_fits 106 = .ok (.if_icmp .lt 21, 3) := by decide +kernel
theorem dX3_fits_109 : decode cX3_fits 109 = .ok (.dload 4, 2) := by decide +kernel
theorem dX3_fits_111 : decode cX3_fits 111 = .ok (.ldc2_w 106, 3) := by decide +kernel
theorem dX3_fits_114 : decode cX3_fits 114 = .ok (.dcmp .l, 1) := by decide +kernel
theorem dX3_fits_115 : decode cX3_fits 115 = .ok (.ifCond .lt 16, 3) := by decide +kernel
theorem dX3_fits_118 : decode cX3_fits 118 = .ok (.dload 4, 2) := by decide +kernel
theorem dX3_fits_120 : decode cX3_fits 120 = .ok (.ldc2_w 100, 3) := by decide +kernel
theorem dX3_fits_123 : decode cX3_fits 123 = .ok (.dcmp .g, 1) := by decide +kernel
theorem dX3_fits_124 : decode cX3_fits 124 = .ok (.ifCond .gt 7, 3) := by decide +kernel
theorem dX3_fits_127 : decode cX3_fits 127 = .ok (.iconst 1, 1) := by decide +kernel
theorem dX3_fits_128 : decode cX3_fits 128 = .ok (.goto 4, 3) := by decide +kernel
theorem dX3_fits_131 : decode cX3_fits 131 = .ok (.iconst 0, 1) := by decide +kernel
theorem dX3_fits_132 : decode cX3_fits 132 = .ok (.ireturn, 1) := by decide +kernel
theorem dX3_isRegister_0 : decode cX3_isRegister 0 = .ok (.iload_n 0, 1) := by decide +kernel
theorem dX3_isRegister_1 : decode cX3_isRegister 1 = .ok (.iconst 0, 1) := by decide +kernel
theorem dX3_isRegister_2 : decode cX3_isRegister 2 = .ok (.bipush 7, 2) := by decide +kernel
theorem dX3_isRegister_4 : decode cX3_isRegister 4 = .ok (.invokestatic 88, 3) := by decide +kernel
theorem dX3_isRegister_7 : decode cX3_isRegister 7 = .ok (.ireturn, 1) := by decide +kernel
theorem dX3_guard_0 : decode cX3_guard 0 = .ok (.aload_n 0, 1) := by decide +kernel
theorem dX3_guard_1 : decode cX3_guard 1 = .ok (.iload_n 1, 1) := by decide +kernel
theorem dX3_guard_2 : decode cX3_guard 2 = .ok (.iconst 0, 1) := by decide +kernel
theorem dX3_guard_3 : decode cX3_guard 3 = .ok (.bipush 7, 2) := by decide +kernel
theorem dX3_guard_5 : decode cX3_guard 5 = .ok (.invokestatic 88, 3) := by decide +kernel
theorem dX3_guard_8 : decode cX3_guard 8 = .ok (.ifCond .eq 7, 3) := by decide +kernel
theorem dX3_guard_11 : decode cX3_guard 11 = .ok (.iconst 0, 1) := by decide +kernel
theorem dX3_guard_12 : decode cX3_guard 12 = .ok (.goto 4, 3) := by decide +kernel
theorem dX3_guard_15 : decode cX3_guard 15 = .ok (.iconst 1, 1) := by decide +kernel
theorem dX3_guard_16 : decode cX3_guard 16 = .ok (.putfield 85, 3) := by decide +kernel
theorem dX3_guard_19 : decode cX3_guard 19 = .ok (.aload_n 0, 1) := by decide +kernel
theorem dX3_guard_20 : decode cX3_guard 20 = .ok (.getfield 85, 3) := by decide +kernel
theorem dX3_guard_23 : decode cX3_guard 23 = .ok (.ifCond .le 5, 3) := by decide +kernel
theorem dX3_guard_26 : decode cX3_guard 26 = .ok (.iconst 0, 1) := by decide +kernel
theorem dX3_guard_27 : decode cX3_guard 27 = .ok (.ireturn, 1) := by decide +kernel
theorem dX3_guard_28 : decode cX3_guard 28 = .ok (.aload_n 0, 1) := by decide +kernel
theorem dX3_guard_29 : decode cX3_guard 29 = .ok (.getfield 25, 3) := by decide +kernel
theorem dX3_guard_32 : decode cX3_guard 32 = .ok (.iload_n 1, 1) := by decide +kernel
theorem dX3_guard_33 : decode cX3_guard 33 = .ok (.baload, 1) := by decide +kernel
theorem dX3_guard_34 : decode cX3_guard 34 = .ok (.istore_n 3, 1) := by decide +kernel
theorem dX3_guard_35 : decode cX3_guard 35 = .ok (.aload_n 0, 1) := by decide +kernel
theorem dX3_guard_36 : decode cX3_guard 36 = .ok (.getfield 25, 3) := by decide +kernel
theorem dX3_guard_39 : decode cX3_guard 39 = .ok (.iload_n 1, 1) := by decide +kernel
theorem dX3_guard_40 : decode cX3_guard 40 = .ok (.iload_n 2, 1) := by decide +kernel
theorem dX3_guard_41 : decode cX3_guard 41 = .ok (.bastore, 1) := by decide +kernel
theorem dX3_guard_42 : decode cX3_guard 42 = .ok (.iload_n 3, 1) := by decide +kernel
theorem dX3_guard_43 : decode cX3_guard 43 = .ok (.ireturn, 1) := by decide +kernel
theorem dX3_input_0 : decode cX3_input 0 = .ok (.aload_n 0, 1) := by decide +kernel
theorem dX3_input_1 : decode cX3_input 1 = .ok (.iload_n 1, 1) := by decide +kernel
theorem dX3_input_2 : decode cX3_input 2 = .ok (.iconst 0, 1) := by decide +kernel
theorem dX3_input_3 : decode cX3_input 3 = .ok (.bipush 7, 2) := by decide +kernel
theorem dX3_input_5 : decode cX3_input 5 = .ok (.invokestatic 88, 3) := by decide +kernel
theorem dX3_input_8 : decode cX3_input 8 = .ok (.ifCond .eq 7, 3) := by decide +kernel
theorem dX3_input_11 : decode cX3_input 11 = .ok (.iconst 0, 1) := by decide +kernel
theorem dX3_input_12 : decode cX3_input 12 = .ok (.goto 4, 3) := by decide +kernel
theorem dX3_input_15 : decode cX3_input 15 = .ok (.iconst 1, 1) := by decide +kernel
theorem dX3_input_16 : decode cX3_input 16 = .ok (.putfield 85, 3) := by decide +kernel
theorem dX3_input_19 : decode cX3_input 19 = .ok (.aload_n 0, 1) := by decide +kernel
theorem dX3_input_20 : decode cX3_input 20 = .ok (.getfield 85, 3) := by decide +kernel
theorem dX3_input_23 : decode cX3_input 23 = .ok (.ifCond .le 5, 3) := by decide +kernel
theorem dX3_input_26 : decode cX3_input 26 = .ok (.iconst 0, 1) := by decide +kernel
theorem dX3_input_27 : decode cX3_input 27 = .ok (.ireturn, 1) := by decide +kernel
theorem dX3_input_28 : decode cX3_input 28 = .ok (.aload_n 0, 1) := by decide +kernel
theorem dX3_input_29 : decode cX3_input 29 = .ok (.getfield 7, 3) := by decide +kernel
theorem dX3_input_32 : decode cX3_input 32 = .ok (.iload_n 1, 1) := by decide +kernel
theorem dX3_input_33 : decode cX3_input 33 = .ok (.baload, 1) := by decide +kernel
theorem dX3_input_34 : decode cX3_input 34 = .ok (.istore_n 3, 1) := by decide +kernel
theorem dX3_input_35 : decode cX3_input 35 = .ok (.aload_n 0, 1) := by decide +kernel
theorem dX3_input_36 : decode cX3_input 36 = .ok (.getfield 7, 3) := by decide +kernel
theorem dX3_input_39 : decode cX3_input 39 = .ok (.iload_n 1, 1) := by decide +kernel
theorem dX3_input_40 : decode cX3_input 40 = .ok (.iload_n 2, 1) := by decide +kernel
theorem dX3_input_41 : decode cX3_input 41 = .ok (.bastore, 1) := by decide +kernel
theorem dX3_input_42 : decode cX3_input 42 = .ok (.iload_n 3, 1) := by decide +kernel
theorem dX3_input_43 : decode cX3_input 43 = .ok (.ireturn, 1) := by decide +kernel
theorem dX3_set_0 : decode cX3_set 0 = .ok (.aload_n 0, 1) := by decide +kernel
theorem dX3_set_1 : decode cX3_set 1 = .ok (.dload_n 2, 1) := by decide +kernel
theorem dX3_set_2 : decode cX3_set 2 = .ok (.ldc2_w 112, 3) := by decide +kernel
theorem dX3_set_5 : decode cX3_set 5 = .ok (.dcmp .g, 1) := by decide +kernel
theorem dX3_set_6 : decode cX3_set 6 = .ok (.ifCond .gt 11, 3) := by decide +kernel
theorem dX3_set_9 : decode cX3_set 9 = .ok (.dload_n 2, 1) := by decide +kernel
theorem dX3_set_10 : decode cX3_set 10 = .ok (.ldc2_w 114, 3) := by decide +kernel
theorem dX3_set_13 : decode cX3_set 13 = .ok (.dcmp .l, 1) := by decide +kernel
theorem dX3_set_14 : decode cX3_set 14 = .ok (.ifCond .ge 7, 3) := by decide +kernel
theorem dX3_set_17 : decode cX3_set 17 = .ok (.iconst 1, 1) := by decide +kernel
theorem dX3_set_18 : decode cX3_set 18 = .ok (.goto 15, 3) := by decide +kernel
theorem dX3_set_21 : decode cX3_set 21 = .ok (.iload_n 1, 1) := by decide +kernel
theorem dX3_set_22 : decode cX3_set 22 = .ok (.invokestatic 102, 3) := by decide +kernel
theorem dX3_set_25 : decode cX3_set 25 = .ok (.ifCond .ne 7, 3) := by decide +kernel
theorem dX3_set_28 : decode cX3_set 28 = .ok (.iconst 2, 1) := by decide +kernel
theorem dX3_set_29 : decode cX3_set 29 = .ok (.goto 4, 3) := by decide +kernel
theorem dX3_set_32 : decode cX3_set 32 = .ok (.iconst 0, 1) := by decide +kernel
theorem dX3_set_33 : decode cX3_set 33 = .ok (.putfield 85, 3) := by decide +kernel
theorem dX3_set_36 : decode cX3_set 36 = .ok (.aload_n 0, 1) := by decide +kernel
theorem dX3_set_37 : decode cX3_set 37 = .ok (.getfield 85, 3) := by decide +kernel
theorem dX3_set_40 : decode cX3_set 40 = .ok (.ifCond .le 5, 3) := by decide +kernel
theorem dX3_set_43 : decode cX3_set 43 = .ok (.dconst 0, 1) := by decide +kernel
theorem dX3_set_44 : decode cX3_set 44 = .ok (.dreturn, 1) := by decide +kernel
theorem dX3_set_45 : decode cX3_set 45 = .ok (.aload_n 0, 1) := by decide +kernel
theorem dX3_set_46 : decode cX3_set 46 = .ok (.getfield 34, 3) := by decide +kernel
theorem dX3_set_49 : decode cX3_set 49 = .ok (.iload_n 1, 1) := by decide +kernel
theorem dX3_set_50 : decode cX3_set 50 = .ok (.daload, 1) := by decide +kernel
theorem dX3_set_51 : decode cX3_set 51 = .ok (.dstore 4, 2) := by decide +kernel
theorem dX3_set_53 : decode cX3_set 53 = .ok (.aload_n 0, 1) := by decide +kernel
theorem dX3_set_54 : decode cX3_set 54 = .ok (.getfield 34, 3) := by decide +kernel
theorem dX3_set_57 : decode cX3_set 57 = .ok (.iload_n 1, 1) := by decide +kernel
theorem dX3_set_58 : decode cX3_set 58 = .ok (.dload_n 2, 1) := by decide +kernel
theorem dX3_set_59 : decode cX3_set 59 = .ok (.dastore, 1) := by decide +kernel
theorem dX3_set_60 : decode cX3_set 60 = .ok (.dload 4, 2) := by decide +kernel
theorem dX3_set_62 : decode cX3_set 62 = .ok (.dreturn, 1) := by decide +kernel
theorem dX3_scan_0 : decode cX3_scan 0 = .ok (.iload_n 1, 1) := by decide +kernel
theorem dX3_scan_1 : decode cX3_scan 1 = .ok (.iconst 1, 1) := by decide +kernel
theorem dX3_scan_2 : decode cX3_scan 2 = .ok (.bipush 50, 2) := by decide +kernel
theorem dX3_scan_4 : decode cX3_scan 4 = .ok (.invokestatic 88, 3) := by decide +kernel
theorem dX3_scan_7 : decode cX3_scan 7 = .ok (.ifCond .ne 9, 3) := by decide +kernel
theorem dX3_scan_10 : decode cX3_scan 10 = .ok (.aload_n 0, 1) := by decide +kernel
theorem dX3_scan_11 : decode cX3_scan 11 = .ok (.iconst 1, 1) := by decide +kernel
theorem dX3_scan_12 : decode cX3_scan 12 = .ok (.invokevirtual 92, 3) := by decide +kernel
theorem dX3_scan_15 : decode cX3_scan 15 = .ok (.ireturn, 1) := by decide +kernel
theorem dX3_scan_16 : decode cX3_scan 16 = .ok (.aload_n 0, 1) := by decide +kernel
theorem dX3_scan_17 : decode cX3_scan 17 = .ok (.getfield 130, 3) := by decide +kernel
theorem dX3_scan_20 : decode cX3_scan 20 = .ok (.ifCond .eq 9, 3) := by decide +kernel
theorem dX3_scan_23 : decode cX3_scan 23 = .ok (.aload_n 0, 1) := by decide +kernel
theorem dX3_scan_24 : decode cX3_scan 24 = .ok (.iconst 2, 1) := by decide +kernel
theorem dX3_scan_25 : decode cX3_scan 25 = .ok (.invokevirtual 92, 3) := by decide +kernel
theorem dX3_scan_28 : decode cX3_scan 28 = .ok (.ireturn, 1) := by decide +kernel
theorem dX3_scan_29 : decode cX3_scan 29 = .ok (.aload_n 0, 1) := by decide +kernel
theorem dX3_scan_30 : decode cX3_scan 30 = .ok (.iconst 0, 1) := by decide +kernel
theorem dX3_scan_31 : decode cX3_scan 31 = .ok (.putfield 85, 3) := by decide +kernel
theorem dX3_scan_34 : decode cX3_scan 34 = .ok (.iconst 0, 1) := by decide +kernel
theorem dX3_scan_35 : decode cX3_scan 35 = .ok (.istore_n 2, 1) := by decide +kernel
theorem dX3_scan_36 : decode cX3_scan 36 = .ok (.iload_n 2, 1) := by decide +kernel
theorem dX3_scan_37 : decode cX3_scan 37 = .ok (.iload_n 1, 1) := by decide +kernel
theorem dX3_scan_38 : decode cX3_scan 38 = .ok (.if_icmp .ge 52, 3) := by decide +kernel
theorem dX3_scan_41 : decode cX3_scan 41 = .ok (.aload_n 0, 1) := by decide +kernel
theorem dX3_scan_42 : decode cX3_scan 42 = .ok (.getfield 130, 3) := by decide +kernel
theorem dX3_scan_45 : decode cX3_scan 45 = .ok (.ifCond .ne 45, 3) := by decide +kernel
theorem dX3_scan_48 : decode cX3_scan 48 = .ok (.aload_n 0, 1) := by decide +kernel
theorem dX3_scan_49 : decode cX3_scan 49 = .ok (.dup, 1) := by decide +kernel
theorem dX3_scan_50 : decode cX3_scan 50 = .ok (.getfield 145, 3) := by decide +kernel
theorem dX3_scan_53 : decode cX3_scan 53 = .ok (.iconst 1, 1) := by decide +kernel
theorem dX3_scan_54 : decode cX3_scan 54 = .ok (.iadd, 1) := by decide +kernel
theorem dX3_scan_55 : decode cX3_scan 55 = .ok (.putfield 145, 3) := by decide +kernel
theorem dX3_scan_58 : decode cX3_scan 58 = .ok (.iconst 0, 1) := by decide +kernel
theorem dX3_scan_59 : decode cX3_scan 59 = .ok (.istore_n 3, 1) := by decide +kernel
theorem dX3_scan_60 : decode cX3_scan 60 = .ok (.iload_n 3, 1) := by decide +kernel
theorem dX3_scan_61 : decode cX3_scan 61 = .ok (.iconst 5, 1) := by decide +kernel
theorem dX3_scan_62 : decode cX3_scan 62 = .ok (.if_icmp .ge 22, 3) := by decide +kernel
theorem dX3_scan_65 : decode cX3_scan 65 = .ok (.aload_n 0, 1) := by decide +kernel
theorem dX3_scan_66 : decode cX3_scan 66 = .ok (.getfield 130, 3) := by decide +kernel
theorem dX3_scan_69 : decode cX3_scan 69 = .ok (.ifCond .ne 15, 3) := by decide +kernel
theorem dX3_scan_72 : decode cX3_scan 72 = .ok (.aload_n 0, 1) := by decide +kernel
theorem dX3_scan_73 : decode cX3_scan 73 = .ok (.iload_n 3, 1) := by decide +kernel
theorem dX3_scan_74 : decode cX3_scan 74 = .ok (.invokevirtual 148, 3) := by decide +kernel
theorem dX3_scan_77 : decode cX3_scan 77 = .ok (.pop, 1) := by decide +kernel
theorem dX3_scan_78 : decode cX3_scan 78 = .ok (.iinc 3 1, 3) := by decide +kernel
theorem dX3_scan_81 : decode cX3_scan 81 = .ok (.goto (-21), 3) := by decide +kernel
theorem dX3_scan_84 : decode cX3_scan 84 = .ok (.iinc 2 1, 3) := by decide +kernel
theorem dX3_scan_87 : decode cX3_scan 87 = .ok (.goto (-51), 3) := by decide +kernel
theorem dX3_scan_90 : decode cX3_scan 90 = .ok (.aload_n 0, 1) := by decide +kernel
theorem dX3_scan_91 : decode cX3_scan 91 = .ok (.getfield 130, 3) := by decide +kernel
theorem dX3_scan_94 : decode cX3_scan 94 = .ok (.ifCond .eq 9, 3) := by decide +kernel
theorem dX3_scan_97 : decode cX3_scan 97 = .ok (.aload_n 0, 1) := by decide +kernel
theorem dX3_scan_98 : decode cX3_scan 98 = .ok (.iconst 3, 1) := by decide +kernel
theorem dX3_scan_99 : decode cX3_scan 99 = .ok (.invokevirtual 92, 3) := by decide +kernel
theorem dX3_scan_102 : decode cX3_scan 102 = .ok (.ireturn, 1) := by decide +kernel
theorem dX3_scan_103 : decode cX3_scan 103 = .ok (.aload_n 0, 1) := by decide +kernel
theorem dX3_scan_104 : decode cX3_scan 104 = .ok (.getfield 145, 3) := by decide +kernel
theorem dX3_scan_107 : decode cX3_scan 107 = .ok (.ireturn, 1) := by decide +kernel
theorem dX3_rung_0 : decode cX3_rung 0 = .ok (.aload_n 0, 1) := by decide +kernel
theorem dX3_rung_1 : decode cX3_rung 1 = .ok (.getfield 22, 3) := by decide +kernel
theorem dX3_rung_4 : decode cX3_rung 4 = .ok (.iload_n 1, 1) := by decide +kernel
theorem dX3_rung_5 : decode cX3_rung 5 = .ok (.iconst 1, 1) := by decide +kernel
theorem dX3_rung_6 : decode cX3_rung 6 = .ok (.bastore, 1) := by decide +kernel
theorem dX3_rung_7 : decode cX3_rung 7 = .ok (.iconst 0, 1) := by decide +kernel
theorem dX3_rung_8 : decode cX3_rung 8 = .ok (.istore_n 2, 1) := by decide +kernel
theorem dX3_rung_9 : decode cX3_rung 9 = .ok (.iload_n 2, 1) := by decide +kernel
theorem dX3_rung_10 : decode cX3_rung 10 = .ok (.iconst 4, 1) := by decide +kernel
theorem dX3_rung_11 : decode cX3_rung 11 = .ok (.if_icmp .ge 15, 3) := by decide +kernel
theorem dX3_rung_14 : decode cX3_rung 14 = .ok (.aload_n 0, 1) := by decide +kernel
theorem dX3_rung_15 : decode cX3_rung 15 = .ok (.iload_n 1, 1) := by decide +kernel
theorem dX3_rung_16 : decode cX3_rung 16 = .ok (.iload_n 2, 1) := by decide +kernel
theorem dX3_rung_17 : decode cX3_rung 17 = .ok (.invokevirtual 137, 3) := by decide +kernel
theorem dX3_rung_20 : decode cX3_rung 20 = .ok (.iinc 2 1, 3) := by decide +kernel
theorem dX3_rung_23 : decode cX3_rung 23 = .ok (.goto (-14), 3) := by decide +kernel
theorem dX3_rung_26 : decode cX3_rung 26 = .ok (.iconst 0, 1) := by decide +kernel
theorem dX3_rung_27 : decode cX3_rung 27 = .ok (.istore_n 2, 1) := by decide +kernel
theorem dX3_rung_28 : decode cX3_rung 28 = .ok (.iload_n 2, 1) := by decide +kernel
theorem dX3_rung_29 : decode cX3_rung 29 = .ok (.iconst 3, 1) := by decide +kernel
theorem dX3_rung_30 : decode cX3_rung 30 = .ok (.if_icmp .ge 129, 3) := by decide +kernel
theorem dX3_rung_33 : decode cX3_rung 33 = .ok (.aload_n 0, 1) := by decide +kernel
theorem dX3_rung_34 : decode cX3_rung 34 = .ok (.getfield 19, 3) := by decide +kernel
theorem dX3_rung_37 : decode cX3_rung 37 = .ok (.iload_n 1, 1) := by decide +kernel
theorem dX3_rung_38 : decode cX3_rung 38 = .ok (.iload_n 2, 1) := by decide +kernel
theorem dX3_rung_39 : decode cX3_rung 39 = .ok (.iconst 3, 1) := by decide +kernel
theorem dX3_rung_40 : decode cX3_rung 40 = .ok (.invokestatic 96, 3) := by decide +kernel
theorem dX3_rung_43 : decode cX3_rung 43 = .ok (.baload, 1) := by decide +kernel
theorem dX3_rung_44 : decode cX3_rung 44 = .ok (.istore_n 3, 1) := by decide +kernel
theorem dX3_rung_45 : decode cX3_rung 45 = .ok (.aload_n 0, 1) := by decide +kernel
theorem dX3_rung_46 : decode cX3_rung 46 = .ok (.getfield 57, 3) := by decide +kernel
theorem dX3_rung_49 : decode cX3_rung 49 = .ok (.iconst 3, 1) := by decide +kernel
theorem dX3_rung_50 : decode cX3_rung 50 = .ok (.iload_n 1, 1) := by decide +kernel
theorem dX3_rung_51 : decode cX3_rung 51 = .ok (.imul, 1) := by decide +kernel
theorem dX3_rung_52 : decode cX3_rung 52 = .ok (.iload_n 2, 1) := by decide +kernel
theorem dX3_rung_53 : decode cX3_rung 53 = .ok (.iadd, 1) := by decide +kernel
theorem dX3_rung_54 : decode cX3_rung 54 = .ok (.iaload, 1) := by decide +kernel
theorem dX3_rung_55 : decode cX3_rung 55 = .ok (.istore 4, 2) := by decide +kernel
theorem dX3_rung_57 : decode cX3_rung 57 = .ok (.aload_n 0, 1) := by decide +kernel
theorem dX3_rung_58 : decode cX3_rung 58 = .ok (.getfield 54, 3) := by decide +kernel
theorem dX3_rung_61 : decode cX3_rung 61 = .ok (.iconst 3, 1) := by decide +kernel
theorem dX3_rung_62 : decode cX3_rung 62 = .ok (.iload_n 1, 1) := by decide +kernel
theorem dX3_rung_63 : decode cX3_rung 63 = .ok (.imul, 1) := by decide +kernel
theorem dX3_rung_64 : decode cX3_rung 64 = .ok (.iload_n 2, 1) := by decide +kernel
theorem dX3_rung_65 : decode cX3_rung 65 = .ok (.iadd, 1) := by decide +kernel
theorem dX3_rung_66 : decode cX3_rung 66 = .ok (.iaload, 1) := by decide +kernel
theorem dX3_rung_67 : decode cX3_rung 67 = .ok (.tableswitch 86 1 4 #[29, 40, 55, 70], 29) := by decide +kernel
theorem dX3_rung_96 : decode cX3_rung 96 = .ok (.aload_n 0, 1) := by decide +kernel
theorem dX3_rung_97 : decode cX3_rung 97 = .ok (.getfield 7, 3) := by decide +kernel
theorem dX3_rung_100 : decode cX3_rung 100 = .ok (.iload 4, 2) := by decide +kernel
theorem dX3_rung_102 : decode cX3_rung 102 = .ok (.iload_n 3, 1) := by decide +kernel
theorem dX3_rung_103 : decode cX3_rung 103 = .ok (.bastore, 1) := by decide +kernel
theorem dX3_rung_104 : decode cX3_rung 104 = .ok (.goto 49, 3) := by decide +kernel
theorem dX3_rung_107 : decode cX3_rung 107 = .ok (.iload_n 3, 1) := by decide +kernel
theorem dX3_rung_108 : decode cX3_rung 108 = .ok (.ifCond .eq 45, 3) := by decide +kernel
theorem dX3_rung_111 : decode cX3_rung 111 = .ok (.aload_n 0, 1) := by decide +kernel
theorem dX3_rung_112 : decode cX3_rung 112 = .ok (.getfield 7, 3) := by decide +kernel
theorem dX3_rung_115 : decode cX3_rung 115 = .ok (.iload 4, 2) := by decide +kernel
theorem dX3_rung_117 : decode cX3_rung 117 = .ok (.iconst 1, 1) := by decide +kernel
theorem dX3_rung_118 : decode cX3_rung 118 = .ok (.bastore, 1) := by decide +kernel
theorem dX3_rung_119 : decode cX3_rung 119 = .ok (.goto 34, 3) := by decide +kernel
theorem dX3_rung_122 : decode cX3_rung 122 = .ok (.iload_n 3, 1) := by decide +kernel
theorem dX3_rung_123 : decode cX3_rung 123 = .ok (.ifCond .eq 30, 3) := by decide +kernel
theorem dX3_rung_126 : decode cX3_rung 126 = .ok (.aload_n 0, 1) := by decide +kernel
theorem dX3_rung_127 : decode cX3_rung 127 = .ok (.getfield 7, 3) := by decide +kernel
theorem dX3_rung_130 : decode cX3_rung 130 = .ok (.iload 4, 2) := by decide +kernel
theorem dX3_rung_132 : decode cX3_rung 132 = .ok (.iconst 0, 1) := by decide +kernel
theorem dX3_rung_133 : decode cX3_rung 133 = .ok (.bastore, 1) := by decide +kernel
theorem dX3_rung_134 : decode cX3_rung 134 = .ok (.goto 19, 3) := by decide +kernel
theorem dX3_rung_137 : decode cX3_rung 137 = .ok (.aload_n 0, 1) := by decide +kernel
theorem dX3_rung_138 : decode cX3_rung 138 = .ok (.iload 4, 2) := by decide +kernel
theorem dX3_rung_140 : decode cX3_rung 140 = .ok (.iload_n 3, 1) := by decide +kernel
theorem dX3_rung_141 : decode cX3_rung 141 = .ok (.invokevirtual 141, 3) := by decide +kernel
theorem dX3_rung_144 : decode cX3_rung 144 = .ok (.istore 5, 2) := by decide +kernel
theorem dX3_rung_146 : decode cX3_rung 146 = .ok (.iload 5, 2) := by decide +kernel
theorem dX3_rung_148 : decode cX3_rung 148 = .ok (.ifCond .eq 5, 3) := by decide +kernel
theorem dX3_rung_151 : decode cX3_rung 151 = .ok (.iconst 1, 1) := by decide +kernel
theorem dX3_rung_152 : decode cX3_rung 152 = .ok (.ireturn, 1) := by decide +kernel
theorem dX3_rung_153 : decode cX3_rung 153 = .ok (.iinc 2 1, 3) := by decide +kernel
theorem dX3_rung_156 : decode cX3_rung 156 = .ok (.goto (-128), 3) := by decide +kernel
theorem dX3_rung_159 : decode cX3_rung 159 = .ok (.iconst 0, 1) := by decide +kernel
theorem dX3_rung_160 : decode cX3_rung 160 = .ok (.ireturn, 1) := by decide +kernel
theorem dX3_column_0 : decode cX3_column 0 = .ok (.iconst 0, 1) := by decide +kernel
theorem dX3_column_1 : decode cX3_column 1 = .ok (.istore_n 3, 1) := by decide +kernel
theorem dX3_column_2 : decode cX3_column 2 = .ok (.iload_n 3, 1) := by decide +kernel
theorem dX3_column_3 : decode cX3_column 3 = .ok (.iconst 3, 1) := by decide +kernel
theorem dX3_column_4 : decode cX3_column 4 = .ok (.if_icmp .ge 57, 3) := by decide +kernel
theorem dX3_column_7 : decode cX3_column 7 = .ok (.aload_n 0, 1) := by decide +kernel
theorem dX3_column_8 : decode cX3_column 8 = .ok (.iload_n 1, 1) := by decide +kernel
theorem dX3_column_9 : decode cX3_column 9 = .ok (.iload_n 3, 1) := by decide +kernel
theorem dX3_column_10 : decode cX3_column 10 = .ok (.iload_n 2, 1) := by decide +kernel
theorem dX3_column_11 : decode cX3_column 11 = .ok (.invokestatic 96, 3) := by decide +kernel
theorem dX3_column_14 : decode cX3_column 14 = .ok (.invokevirtual 134, 3) := by decide +kernel
theorem dX3_column_17 : decode cX3_column 17 = .ok (.istore 4, 2) := by decide +kernel
theorem dX3_column_19 : decode cX3_column 19 = .ok (.aload_n 0, 1) := by decide +kernel
theorem dX3_column_20 : decode cX3_column 20 = .ok (.getfield 31, 3) := by decide +kernel
theorem dX3_column_23 : decode cX3_column 23 = .ok (.iload_n 3, 1) := by decide +kernel
theorem dX3_column_24 : decode cX3_column 24 = .ok (.iload 4, 2) := by decide +kernel
theorem dX3_column_26 : decode cX3_column 26 = .ok (.ifCond .eq 27, 3) := by decide +kernel
theorem dX3_column_29 : decode cX3_column 29 = .ok (.iload_n 2, 1) := by decide +kernel
theorem dX3_column_30 : decode cX3_column 30 = .ok (.ifCond .eq 19, 3) := by decide +kernel
theorem dX3_column_33 : decode cX3_column 33 = .ok (.aload_n 0, 1) := by decide +kernel
theorem dX3_column_34 : decode cX3_column 34 = .ok (.getfield 19, 3) := by decide +kernel
theorem dX3_column_37 : decode cX3_column 37 = .ok (.iload_n 1, 1) := by decide +kernel
theorem dX3_column_38 : decode cX3_column 38 = .ok (.iload_n 3, 1) := by decide +kernel
theorem dX3_column_39 : decode cX3_column 39 = .ok (.iload_n 2, 1) := by decide +kernel
theorem dX3_column_40 : decode cX3_column 40 = .ok (.iconst 1, 1) := by decide +kernel
theorem dX3_column_41 : decode cX3_column 41 = .ok (.isub, 1) := by decide +kernel
theorem dX3_column_42 : decode cX3_column 42 = .ok (.invokestatic 96, 3) := by decide +kernel
theorem dX3_column_45 : decode cX3_column 45 = .ok (.baload, 1) := by decide +kernel
theorem dX3_column_46 : decode cX3_column 46 = .ok (.ifCond .eq 7, 3) := by decide +kernel
theorem dX3_column_49 : decode cX3_column 49 = .ok (.iconst 1, 1) := by decide +kernel
theorem dX3_column_50 : decode cX3_column 50 = .ok (.goto 4, 3) := by decide +kernel
theorem dX3_column_53 : decode cX3_column 53 = .ok (.iconst 0, 1) := by decide +kernel
theorem dX3_column_54 : decode cX3_column 54 = .ok (.bastore, 1) := by decide +kernel
theorem dX3_column_55 : decode cX3_column 55 = .ok (.iinc 3 1, 3) := by decide +kernel
theorem dX3_column_58 : decode cX3_column 58 = .ok (.goto (-56), 3) := by decide +kernel
theorem dX3_column_61 : decode cX3_column 61 = .ok (.aload_n 0, 1) := by decide +kernel
theorem dX3_column_62 : decode cX3_column 62 = .ok (.getfield 16, 3) := by decide +kernel
theorem dX3_column_65 : decode cX3_column 65 = .ok (.bipush 8, 2) := by decide +kernel
theorem dX3_column_67 : decode cX3_column 67 = .ok (.iload_n 1, 1) := by decide +kernel
theorem dX3_column_68 : decode cX3_column 68 = .ok (.imul, 1) := by decide +kernel
theorem dX3_column_69 : decode cX3_column 69 = .ok (.iload_n 2, 1) := by decide +kernel
theorem dX3_column_70 : decode cX3_column 70 = .ok (.iadd, 1) := by decide +kernel
theorem dX3_column_71 : decode cX3_column 71 = .ok (.baload, 1) := by decide +kernel
theorem dX3_column_72 : decode cX3_column 72 = .ok (.istore_n 3, 1) := by decide +kernel
theorem dX3_column_73 : decode cX3_column 73 = .ok (.aload_n 0, 1) := by decide +kernel
theorem dX3_column_74 : decode cX3_column 74 = .ok (.getfield 16, 3) := by decide +kernel
theorem dX3_column_77 : decode cX3_column 77 = .ok (.bipush 8, 2) := by decide +kernel
theorem dX3_column_79 : decode cX3_column 79 = .ok (.iload_n 1, 1) := by decide +kernel
theorem dX3_column_80 : decode cX3_column 80 = .ok (.imul, 1) := by decide +kernel
theorem dX3_column_81 : decode cX3_column 81 = .ok (.iconst 4, 1) := by decide +kernel
theorem dX3_column_82 : decode cX3_column 82 = .ok (.iadd, 1) := by decide +kernel
theorem dX3_column_83 : decode cX3_column 83 = .ok (.iload_n 2, 1) := by decide +kernel
theorem dX3_column_84 : decode cX3_column 84 = .ok (.iadd, 1) := by decide +kernel
theorem dX3_column_85 : decode cX3_column 85 = .ok (.baload, 1) := by decide +kernel
theorem dX3_column_86 : decode cX3_column 86 = .ok (.istore 4, 2) := by decide +kernel
theorem dX3_column_88 : decode cX3_column 88 = .ok (.iconst 0, 1) := by decide +kernel
theorem dX3_column_89 : decode cX3_column 89 = .ok (.istore 5, 2) := by decide +kernel
theorem dX3_column_91 : decode cX3_column 91 = .ok (.iload 5, 2) := by decide +kernel
theorem dX3_column_93 : decode cX3_column 93 = .ok (.iconst 2, 1) := by decide +kernel
theorem dX3_column_94 : decode cX3_column 94 = .ok (.if_icmp .ge 82, 3) := by decide +kernel
theorem dX3_column_97 : decode cX3_column 97 = .ok (.iload_n 3, 1) := by decide +kernel
theorem dX3_column_98 : decode cX3_column 98 = .ok (.ifCond .eq 35, 3) := by decide +kernel
theorem dX3_column_101 : decode cX3_column 101 = .ok (.aload_n 0, 1) := by decide +kernel
theorem dX3_column_102 : decode cX3_column 102 = .ok (.getfield 31, 3) := by decide +kernel
theorem dX3_column_105 : decode cX3_column 105 = .ok (.iconst 0, 1) := by decide +kernel
theorem dX3_column_106 : decode cX3_column 106 = .ok (.baload, 1) := by decide +kernel
theorem dX3_column_107 : decode cX3_column 107 = .ok (.ifCond .ne 12, 3) := by decide +kernel
theorem dX3_column_110 : decode cX3_column 110 = .ok (.aload_n 0, 1) := by decide +kernel
theorem dX3_column_111 : decode cX3_column 111 = .ok (.getfield 31, 3) := by decide +kernel
theorem dX3_column_114 : decode cX3_column 114 = .ok (.iconst 1, 1) := by decide +kernel
theorem dX3_column_115 : decode cX3_column 115 = .ok (.baload, 1) := by decide +kernel
theorem dX3_column_116 : decode cX3_column 116 = .ok (.ifCond .eq 17, 3) := by decide +kernel
theorem dX3_column_119 : decode cX3_column 119 = .ok (.aload_n 0, 1) := by decide +kernel
theorem dX3_column_120 : decode cX3_column 120 = .ok (.getfield 31, 3) := by decide +kernel
theorem dX3_column_123 : decode cX3_column 123 = .ok (.iconst 0, 1) := by decide +kernel
theorem dX3_column_124 : decode cX3_column 124 = .ok (.iconst 1, 1) := by decide +kernel
theorem dX3_column_125 : decode cX3_column 125 = .ok (.bastore, 1) := by decide +kernel
theorem dX3_column_126 : decode cX3_column 126 = .ok (.aload_n 0, 1) := by decide +kernel
theorem dX3_column_127 : decode cX3_column 127 = .ok (.getfield 31, 3) := by decide +kernel
theorem dX3_column_130 : decode cX3_column 130 = .ok (.iconst 1, 1) := by decide +kernel
theorem dX3_column_131 : decode cX3_column 131 = .ok (.iconst 1, 1) := by decide +kernel
theorem dX3_column_132 : decode cX3_column 132 = .ok (.bastore, 1) := by decide +kernel
theorem dX3_column_133 : decode cX3_column 133 = .ok (.iload 4, 2) := by decide +kernel
theorem dX3_column_135 : decode cX3_column 135 = .ok (.ifCond .eq 35, 3) := by decide +kernel
theorem dX3_column_138 : decode cX3_column 138 = .ok (.aload_n 0, 1) := by decide +kernel
theorem dX3_column_139 : decode cX3_column 139 = .ok (.getfield 31, 3) := by decide +kernel
theorem dX3_column_142 : decode cX3_column 142 = .ok (.iconst 1, 1) := by decide +kernel
theorem dX3_column_143 : decode cX3_column 143 = .ok (.baload, 1) := by decide +kernel
theorem dX3_column_144 : decode cX3_column 144 = .ok (.ifCond .ne 12, 3) := by decide +kernel
theorem dX3_column_147 : decode cX3_column 147 = .ok (.aload_n 0, 1) := by decide +kernel
theorem dX3_column_148 : decode cX3_column 148 = .ok (.getfield 31, 3) := by decide +kernel
theorem dX3_column_151 : decode cX3_column 151 = .ok (.iconst 2, 1) := by decide +kernel
theorem dX3_column_152 : decode cX3_column 152 = .ok (.baload, 1) := by decide +kernel
theorem dX3_column_153 : decode cX3_column 153 = .ok (.ifCond .eq 17, 3) := by decide +kernel
theorem dX3_column_156 : decode cX3_column 156 = .ok (.aload_n 0, 1) := by decide +kernel
theorem dX3_column_157 : decode cX3_column 157 = .ok (.getfield 31, 3) := by decide +kernel
theorem dX3_column_160 : decode cX3_column 160 = .ok (.iconst 1, 1) := by decide +kernel
theorem dX3_column_161 : decode cX3_column 161 = .ok (.iconst 1, 1) := by decide +kernel
theorem dX3_column_162 : decode cX3_column 162 = .ok (.bastore, 1) := by decide +kernel
theorem dX3_column_163 : decode cX3_column 163 = .ok (.aload_n 0, 1) := by decide +kernel
theorem dX3_column_164 : decode cX3_column 164 = .ok (.getfield 31, 3) := by decide +kernel
theorem dX3_column_167 : decode cX3_column 167 = .ok (.iconst 2, 1) := by decide +kernel
theorem dX3_column_168 : decode cX3_column 168 = .ok (.iconst 1, 1) := by decide +kernel
theorem dX3_column_169 : decode cX3_column 169 = .ok (.bastore, 1) := by decide +kernel
theorem dX3_column_170 : decode cX3_column 170 = .ok (.iinc 5 1, 3) := by decide +kernel
theorem dX3_column_173 : decode cX3_column 173 = .ok (.goto (-82), 3) := by decide +kernel
theorem dX3_column_176 : decode cX3_column 176 = .ok (.iconst 0, 1) := by decide +kernel
theorem dX3_column_177 : decode cX3_column 177 = .ok (.istore 5, 2) := by decide +kernel
theorem dX3_column_179 : decode cX3_column 179 = .ok (.iload 5, 2) := by decide +kernel
theorem dX3_column_181 : decode cX3_column 181 = .ok (.iconst 3, 1) := by decide +kernel
theorem dX3_column_182 : decode cX3_column 182 = .ok (.if_icmp .ge 28, 3) := by decide +kernel
theorem dX3_column_185 : decode cX3_column 185 = .ok (.aload_n 0, 1) := by decide +kernel
theorem dX3_column_186 : decode cX3_column 186 = .ok (.getfield 19, 3) := by decide +kernel
theorem dX3_column_189 : decode cX3_column 189 = .ok (.iload_n 1, 1) := by decide +kernel
theorem dX3_column_190 : decode cX3_column 190 = .ok (.iload 5, 2) := by decide +kernel
theorem dX3_column_192 : decode cX3_column 192 = .ok (.iload_n 2, 1) := by decide +kernel
theorem dX3_column_193 : decode cX3_column 193 = .ok (.invokestatic 96, 3) := by decide +kernel
theorem dX3_column_196 : decode cX3_column 196 = .ok (.aload_n 0, 1) := by decide +kernel
theorem dX3_column_197 : decode cX3_column 197 = .ok (.getfield 31, 3) := by decide +kernel
theorem dX3_column_200 : decode cX3_column 200 = .ok (.iload 5, 2) := by decide +kernel
theorem dX3_column_202 : decode cX3_column 202 = .ok (.baload, 1) := by decide +kernel
theorem dX3_column_203 : decode cX3_column 203 = .ok (.bastore, 1) := by decide +kernel
theorem dX3_column_204 : decode cX3_column 204 = .ok (.iinc 5 1, 3) := by decide +kernel
theorem dX3_column_207 : decode cX3_column 207 = .ok (.goto (-28), 3) := by decide +kernel
theorem dX3_column_210 : decode cX3_column 210 = .ok (.return_, 1) := by decide +kernel
theorem dX3_conducts_0 : decode cX3_conducts 0 = .ok (.aload_n 0, 1) := by decide +kernel
theorem dX3_conducts_1 : decode cX3_conducts 1 = .ok (.getfield 7, 3) := by decide +kernel
theorem dX3_conducts_4 : decode cX3_conducts 4 = .ok (.aload_n 0, 1) := by decide +kernel
theorem dX3_conducts_5 : decode cX3_conducts 5 = .ok (.getfield 51, 3) := by decide +kernel
theorem dX3_conducts_8 : decode cX3_conducts 8 = .ok (.iload_n 1, 1) := by decide +kernel
theorem dX3_conducts_9 : decode cX3_conducts 9 = .ok (.iaload, 1) := by decide +kernel
theorem dX3_conducts_10 : decode cX3_conducts 10 = .ok (.baload, 1) := by decide +kernel
theorem dX3_conducts_11 : decode cX3_conducts 11 = .ok (.istore_n 2, 1) := by decide +kernel
theorem dX3_conducts_12 : decode cX3_conducts 12 = .ok (.aload_n 0, 1) := by decide +kernel
theorem dX3_conducts_13 : decode cX3_conducts 13 = .ok (.getfield 13, 3) := by decide +kernel
theorem dX3_conducts_16 : decode cX3_conducts 16 = .ok (.iload_n 1, 1) := by decide +kernel
theorem dX3_conducts_17 : decode cX3_conducts 17 = .ok (.baload, 1) := by decide +kernel
theorem dX3_conducts_18 : decode cX3_conducts 18 = .ok (.istore_n 3, 1) := by decide +kernel
theorem dX3_conducts_19 : decode cX3_conducts 19 = .ok (.aload_n 0, 1) := by decide +kernel
theorem dX3_conducts_20 : decode cX3_conducts 20 = .ok (.getfield 13, 3) := by decide +kernel
theorem dX3_conducts_23 : decode cX3_conducts 23 = .ok (.iload_n 1, 1) := by decide +kernel
theorem dX3_conducts_24 : decode cX3_conducts 24 = .ok (.iload_n 2, 1) := by decide +kernel
theorem dX3_conducts_25 : decode cX3_conducts 25 = .ok (.bastore, 1) := by decide +kernel
theorem dX3_conducts_26 : decode cX3_conducts 26 = .ok (.aload_n 0, 1) := by decide +kernel
theorem dX3_conducts_27 : decode cX3_conducts 27 = .ok (.getfield 47, 3) := by decide +kernel
theorem dX3_conducts_30 : decode cX3_conducts 30 = .ok (.iload_n 1, 1) := by decide +kernel
theorem dX3_conducts_31 : decode cX3_conducts 31 = .ok (.iaload, 1) := by decide +kernel
theorem dX3_conducts_32 : decode cX3_conducts 32 = .ok (.tableswitch 66 0 4 #[36, 38, 40, 42, 52], 36) := by decide +kernel
theorem dX3_conducts_68 : decode cX3_conducts 68 = .ok (.iconst 0, 1) := by decide +kernel
theorem dX3_conducts_69 : decode cX3_conducts 69 = .ok (.ireturn, 1) := by decide +kernel
theorem dX3_conducts_70 : decode cX3_conducts 70 = .ok (.iconst 1, 1) := by decide +kernel
theorem dX3_conducts_71 : decode cX3_conducts 71 = .ok (.ireturn, 1) := by decide +kernel
theorem dX3_conducts_72 : decode cX3_conducts 72 = .ok (.iload_n 2, 1) := by decide +kernel
theorem dX3_conducts_73 : decode cX3_conducts 73 = .ok (.ireturn, 1) := by decide +kernel
theorem dX3_conducts_74 : decode cX3_conducts 74 = .ok (.iload_n 2, 1) := by decide +kernel
theorem dX3_conducts_75 : decode cX3_conducts 75 = .ok (.ifCond .ne 7, 3) := by decide +kernel
theorem dX3_conducts_78 : decode cX3_conducts 78 = .ok (.iconst 1, 1) := by decide +kernel
theorem dX3_conducts_79 : decode cX3_conducts 79 = .ok (.goto 4, 3) := by decide +kernel
theorem dX3_conducts_82 : decode cX3_conducts 82 = .ok (.iconst 0, 1) := by decide +kernel
theorem dX3_conducts_83 : decode cX3_conducts 83 = .ok (.ireturn, 1) := by decide +kernel
theorem dX3_conducts_84 : decode cX3_conducts 84 = .ok (.iload_n 2, 1) := by decide +kernel
theorem dX3_conducts_85 : decode cX3_conducts 85 = .ok (.ifCond .eq 11, 3) := by decide +kernel
theorem dX3_conducts_88 : decode cX3_conducts 88 = .ok (.iload_n 3, 1) := by decide +kernel
theorem dX3_conducts_89 : decode cX3_conducts 89 = .ok (.ifCond .ne 7, 3) := by decide +kernel
theorem dX3_conducts_92 : decode cX3_conducts 92 = .ok (.iconst 1, 1) := by decide +kernel
theorem dX3_conducts_93 : decode cX3_conducts 93 = .ok (.goto 4, 3) := by decide +kernel
theorem dX3_conducts_96 : decode cX3_conducts 96 = .ok (.iconst 0, 1) := by decide +kernel
theorem dX3_conducts_97 : decode cX3_conducts 97 = .ok (.ireturn, 1) := by decide +kernel
theorem dX3_conducts_98 : decode cX3_conducts 98 = .ok (.iload_n 2, 1) := by decide +kernel
theorem dX3_conducts_99 : decode cX3_conducts 99 = .ok (.ifCond .ne 11, 3) := by decide +kernel
theorem dX3_conducts_102 : decode cX3_conducts 102 = .ok (.iload_n 3, 1) := by decide +kernel
theorem dX3_conducts_103 : decode cX3_conducts 103 = .ok (.ifCond .eq 7, 3) := by decide +kernel
theorem dX3_conducts_106 : decode cX3_conducts 106 = .ok (.iconst 1, 1) := by decide +kernel
theorem dX3_conducts_107 : decode cX3_conducts 107 = .ok (.goto 4, 3) := by decide +kernel
theorem dX3_conducts_110 : decode cX3_conducts 110 = .ok (.iconst 0, 1) := by decide +kernel
theorem dX3_conducts_111 : decode cX3_conducts 111 = .ok (.ireturn, 1) := by decide +kernel
theorem dX3_perform_0 : decode cX3_perform 0 = .ok (.aload_n 0, 1) := by decide +kernel
theorem dX3_perform_1 : decode cX3_perform 1 = .ok (.getfield 75, 3) := by decide +kernel
theorem dX3_perform_4 : decode cX3_perform 4 = .ok (.iload_n 1, 1) := by decide +kernel
theorem dX3_perform_5 : decode cX3_perform 5 = .ok (.dup2, 1) := by decide +kernel
theorem dX3_perform_6 : decode cX3_perform 6 = .ok (.iaload, 1) := by decide +kernel
theorem dX3_perform_7 : decode cX3_perform 7 = .ok (.iconst 1, 1) := by decide +kernel
theorem dX3_perform_8 : decode cX3_perform 8 = .ok (.iadd, 1) := by decide +kernel
theorem dX3_perform_9 : decode cX3_perform 9 = .ok (.iastore, 1) := by decide +kernel
theorem dX3_perform_10 : decode cX3_perform 10 = .ok (.aload_n 0, 1) := by decide +kernel
theorem dX3_perform_11 : decode cX3_perform 11 = .ok (.getfield 60, 3) := by decide +kernel
theorem dX3_perform_14 : decode cX3_perform 14 = .ok (.iload_n 1, 1) := by decide +kernel
theorem dX3_perform_15 : decode cX3_perform 15 = .ok (.iaload, 1) := by decide +kernel
theorem dX3_perform_16 : decode cX3_perform 16 = .ok (.istore_n 3, 1) := by decide +kernel
theorem dX3_perform_17 : decode cX3_perform 17 = .ok (.iload_n 3, 1) := by decide +kernel
theorem dX3_perform_18 : decode cX3_perform 18 = .ok (.ifCond .ne 5, 3) := by decide +kernel
theorem dX3_perform_21 : decode cX3_perform 21 = .ok (.iconst 0, 1) := by decide +kernel
theorem dX3_perform_22 : decode cX3_perform 22 = .ok (.ireturn, 1) := by decide +kernel
theorem dX3_perform_23 : decode cX3_perform 23 = .ok (.iload_n 3, 1) := by decide +kernel
theorem dX3_perform_24 : decode cX3_perform 24 = .ok (.iconst 3, 1) := by decide +kernel
theorem dX3_perform_25 : decode cX3_perform 25 = .ok (.if_icmp .ge 11, 3) := by decide +kernel
theorem dX3_perform_28 : decode cX3_perform 28 = .ok (.aload_n 0, 1) := by decide +kernel
theorem dX3_perform_29 : decode cX3_perform 29 = .ok (.iload_n 1, 1) := by decide +kernel
theorem dX3_perform_30 : decode cX3_perform 30 = .ok (.iload_n 2, 1) := by decide +kernel
theorem dX3_perform_31 : decode cX3_perform 31 = .ok (.invokevirtual 120, 3) := by decide +kernel
theorem dX3_perform_34 : decode cX3_perform 34 = .ok (.iconst 0, 1) := by decide +kernel
theorem dX3_perform_35 : decode cX3_perform 35 = .ok (.ireturn, 1) := by decide +kernel
theorem dX3_perform_36 : decode cX3_perform 36 = .ok (.iload_n 3, 1) := by decide +kernel
theorem dX3_perform_37 : decode cX3_perform 37 = .ok (.iconst 3, 1) := by decide +kernel
theorem dX3_perform_38 : decode cX3_perform 38 = .ok (.if_icmp .ne 51, 3) := by decide +kernel
theorem dX3_perform_41 : decode cX3_perform 41 = .ok (.iload_n 2, 1) := by decide +kernel
theorem dX3_perform_42 : decode cX3_perform 42 = .ok (.ifCond .eq 45, 3) := by decide +kernel
theorem dX3_perform_45 : decode cX3_perform 45 = .ok (.aload_n 0, 1) := by decide +kernel
theorem dX3_perform_46 : decode cX3_perform 46 = .ok (.getfield 7, 3) := by decide +kernel
theorem dX3_perform_49 : decode cX3_perform 49 = .ok (.aload_n 0, 1) := by decide +kernel
theorem dX3_perform_50 : decode cX3_perform 50 = .ok (.getfield 69, 3) := by decide +kernel
theorem dX3_perform_53 : decode cX3_perform 53 = .ok (.iload_n 1, 1) := by decide +kernel
theorem dX3_perform_54 : decode cX3_perform 54 = .ok (.iaload, 1) := by decide +kernel
theorem dX3_perform_55 : decode cX3_perform 55 = .ok (.aload_n 0, 1) := by decide +kernel
theorem dX3_perform_56 : decode cX3_perform 56 = .ok (.getfield 34, 3) := by decide +kernel
theorem dX3_perform_59 : decode cX3_perform 59 = .ok (.aload_n 0, 1) := by decide +kernel
theorem dX3_perform_60 : decode cX3_perform 60 = .ok (.getfield 63, 3) := by decide +kernel
theorem dX3_perform_63 : decode cX3_perform 63 = .ok (.iload_n 1, 1) := by decide +kernel
theorem dX3_perform_64 : decode cX3_perform 64 = .ok (.iaload, 1) := by decide +kernel
theorem dX3_perform_65 : decode cX3_perform 65 = .ok (.daload, 1) := by decide +kernel
theorem dX3_perform_66 : decode cX3_perform 66 = .ok (.aload_n 0, 1) := by decide +kernel
theorem dX3_perform_67 : decode cX3_perform 67 = .ok (.getfield 34, 3) := by decide +kernel
theorem dX3_perform_70 : decode cX3_perform 70 = .ok (.aload_n 0, 1) := by decide +kernel
theorem dX3_perform_71 : decode cX3_perform 71 = .ok (.getfield 66, 3) := by decide +kernel
theorem dX3_perform_74 : decode cX3_perform 74 = .ok (.iload_n 1, 1) := by decide +kernel
theorem dX3_perform_75 : decode cX3_perform 75 = .ok (.iaload, 1) := by decide +kernel
theorem dX3_perform_76 : decode cX3_perform 76 = .ok (.daload, 1) := by decide +kernel
theorem dX3_perform_77 : decode cX3_perform 77 = .ok (.dcmp .g, 1) := by decide +kernel
theorem dX3_perform_78 : decode cX3_perform 78 = .ok (.ifCond .ge 7, 3) := by decide +kernel
theorem dX3_perform_81 : decode cX3_perform 81 = .ok (.iconst 1, 1) := by decide +kernel
theorem dX3_perform_82 : decode cX3_perform 82 = .ok (.goto 4, 3) := by decide +kernel
theorem dX3_perform_85 : decode cX3_perform 85 = .ok (.iconst 0, 1) := by decide +kernel
theorem dX3_perform_86 : decode cX3_perform 86 = .ok (.bastore, 1) := by decide +kernel
theorem dX3_perform_87 : decode cX3_perform 87 = .ok (.iconst 0, 1) := by decide +kernel
theorem dX3_perform_88 : decode cX3_perform 88 = .ok (.ireturn, 1) := by decide +kernel
theorem dX3_perform_89 : decode cX3_perform 89 = .ok (.iload_n 2, 1) := by decide +kernel
theorem dX3_perform_90 : decode cX3_perform 90 = .ok (.ifCond .ne 19, 3) := by decide +kernel
theorem dX3_perform_93 : decode cX3_perform 93 = .ok (.aload_n 0, 1) := by decide +kernel
theorem dX3_perform_94 : decode cX3_perform 94 = .ok (.getfield 41, 3) := by decide +kernel
theorem dX3_perform_97 : decode cX3_perform 97 = .ok (.iload_n 1, 1) := by decide +kernel
theorem dX3_perform_98 : decode cX3_perform 98 = .ok (.dconst 0, 1) := by decide +kernel
theorem dX3_perform_99 : decode cX3_perform 99 = .ok (.dastore, 1) := by decide +kernel
theorem dX3_perform_100 : decode cX3_perform 100 = .ok (.aload_n 0, 1) := by decide +kernel
theorem dX3_perform_101 : decode cX3_perform 101 = .ok (.getfield 44, 3) := by decide +kernel
theorem dX3_perform_104 : decode cX3_perform 104 = .ok (.iload_n 1, 1) := by decide +kernel
theorem dX3_perform_105 : decode cX3_perform 105 = .ok (.dconst 0, 1) := by decide +kernel
theorem dX3_perform_106 : decode cX3_perform 106 = .ok (.dastore, 1) := by decide +kernel
theorem dX3_perform_107 : decode cX3_perform 107 = .ok (.iconst 0, 1) := by decide +kernel
theorem dX3_perform_108 : decode cX3_perform 108 = .ok (.ireturn, 1) := by decide +kernel
