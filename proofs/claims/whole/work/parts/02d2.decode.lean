/-! decode rows -/
theorem dX2_drive_93 : decode cX2_drive 93 = .ok (.goto 32, 3) := by decide +kernel
theorem dX2_drive_96 : decode cX2_drive 96 = .ok (.aload_n 0, 1) := by decide +kernel
theorem dX2_drive_97 : decode cX2_drive 97 = .ok (.getfield 26, 3) := by decide +kernel
theorem dX2_drive_100 : decode cX2_drive 100 = .ok (.iload_n 2, 1) := by decide +kernel
theorem dX2_drive_101 : decode cX2_drive 101 = .ok (.aaload, 1) := by decide +kernel
theorem dX2_drive_102 : decode cX2_drive 102 = .ok (.iload_n 3, 1) := by decide +kernel
theorem dX2_drive_103 : decode cX2_drive 103 = .ok (.aload_n 0, 1) := by decide +kernel
theorem dX2_drive_104 : decode cX2_drive 104 = .ok (.getfield 9, 3) := by decide +kernel
theorem dX2_drive_107 : decode cX2_drive 107 = .ok (.aload_n 0, 1) := by decide +kernel
theorem dX2_drive_108 : decode cX2_drive 108 = .ok (.getfield 13, 3) := by decide +kernel
theorem dX2_drive_111 : decode cX2_drive 111 = .ok (.invokevirtual 172, 3) := by decide +kernel
theorem dX2_drive_114 : decode cX2_drive 114 = .ok (.ifCond .ne 11, 3) := by decide +kernel
theorem dX2_drive_117 : decode cX2_drive 117 = .ok (.aload_n 0, 1) := by decide +kernel
theorem dX2_drive_118 : decode cX2_drive 118 = .ok (.iload_n 2, 1) := by decide +kernel
theorem dX2_drive_119 : decode cX2_drive 119 = .ok (.invokevirtual 176, 3) := by decide +kernel
theorem dX2_drive_122 : decode cX2_drive 122 = .ok (.goto 3, 3) := by decide +kernel
theorem dX2_drive_125 : decode cX2_drive 125 = .ok (.return_, 1) := by decide +kernel
theorem dX0_run_0 : decode cX0_run 0 = .ok (.aload_n 0, 1) := by decide +kernel
theorem dX0_run_1 : decode cX0_run 1 = .ok (.dup, 1) := by decide +kernel
theorem dX0_run_2 : decode cX0_run 2 = .ok (.getfield 41, 3) := by decide +kernel
theorem dX0_run_5 : decode cX0_run 5 = .ok (.iconst 1, 1) := by decide +kernel
theorem dX0_run_6 : decode cX0_run 6 = .ok (.iadd, 1) := by decide +kernel
theorem dX0_run_7 : decode cX0_run 7 = .ok (.putfield 41, 3) := by decide +kernel
theorem dX0_run_10 : decode cX0_run 10 = .ok (.iconst 1, 1) := by decide +kernel
theorem dX0_run_11 : decode cX0_run 11 = .ok (.istore 4, 2) := by decide +kernel
theorem dX0_run_13 : decode cX0_run 13 = .ok (.aload_n 0, 1) := by decide +kernel
theorem dX0_run_14 : decode cX0_run 14 = .ok (.getfield 9, 3) := by decide +kernel
theorem dX0_run_17 : decode cX0_run 17 = .ok (.tableswitch 130 0 9 #[55, 58, 67, 76, 130, 130, 130, 130, 130, 119], 55) := by decide +kernel
theorem dX0_run_72 : decode cX0_run 72 = .ok (.goto 94, 3) := by decide +kernel
theorem dX0_run_75 : decode cX0_run 75 = .ok (.aload_n 0, 1) := by decide +kernel
theorem dX0_run_76 : decode cX0_run 76 = .ok (.iload_n 1, 1) := by decide +kernel
theorem dX0_run_77 : decode cX0_run 77 = .ok (.aload_n 2, 1) := by decide +kernel
theorem dX0_run_78 : decode cX0_run 78 = .ok (.invokevirtual 50, 3) := by decide +kernel
theorem dX0_run_81 : decode cX0_run 81 = .ok (.goto 85, 3) := by decide +kernel
theorem dX0_run_84 : decode cX0_run 84 = .ok (.aload_n 0, 1) := by decide +kernel
theorem dX0_run_85 : decode cX0_run 85 = .ok (.iload_n 1, 1) := by decide +kernel
theorem dX0_run_86 : decode cX0_run 86 = .ok (.aload_n 2, 1) := by decide +kernel
theorem dX0_run_87 : decode cX0_run 87 = .ok (.invokevirtual 54, 3) := by decide +kernel
theorem dX0_run_90 : decode cX0_run 90 = .ok (.goto 76, 3) := by decide +kernel
theorem dX0_run_93 : decode cX0_run 93 = .ok (.aload_n 2, 1) := by decide +kernel
theorem dX0_run_94 : decode cX0_run 94 = .ok (.aload_n 0, 1) := by decide +kernel
theorem dX0_run_95 : decode cX0_run 95 = .ok (.getfield 21, 3) := by decide +kernel
theorem dX0_run_98 : decode cX0_run 98 = .ok (.iload_n 1, 1) := by decide +kernel
theorem dX0_run_99 : decode cX0_run 99 = .ok (.ifCond .eq 27, 3) := by decide +kernel
theorem dX0_run_102 : decode cX0_run 102 = .ok (.aload_n 3, 1) := by decide +kernel
theorem dX0_run_103 : decode cX0_run 103 = .ok (.aload_n 0, 1) := by decide +kernel
theorem dX0_run_104 : decode cX0_run 104 = .ok (.getfield 15, 3) := by decide +kernel
theorem dX0_run_107 : decode cX0_run 107 = .ok (.daload, 1) := by decide +kernel
theorem dX0_run_108 : decode cX0_run 108 = .ok (.aload_n 3, 1) := by decide +kernel
theorem dX0_run_109 : decode cX0_run 109 = .ok (.aload_n 0, 1) := by decide +kernel
theorem dX0_run_110 : decode cX0_run 110 = .ok (.getfield 18, 3) := by decide +kernel
theorem dX0_run_113 : decode cX0_run 113 = .ok (.daload, 1) := by decide +kernel
theorem dX0_run_114 : decode cX0_run 114 = .ok (.dcmp .g, 1) := by decide +kernel
theorem dX0_run_115 : decode cX0_run 115 = .ok (.ifCond .ge 7, 3) := by decide +kernel
theorem dX0_run_118 : decode cX0_run 118 = .ok (.iconst 1, 1) := by decide +kernel
theorem dX0_run_119 : decode cX0_run 119 = .ok (.goto 13, 3) := by decide +kernel
theorem dX0_run_122 : decode cX0_run 122 = .ok (.iconst 0, 1) := by decide +kernel
theorem dX0_run_123 : decode cX0_run 123 = .ok (.goto 9, 3) := by decide +kernel
theorem dX0_run_126 : decode cX0_run 126 = .ok (.aload_n 2, 1) := by decide +kernel
theorem dX0_run_127 : decode cX0_run 127 = .ok (.aload_n 0, 1) := by decide +kernel
theorem dX0_run_128 : decode cX0_run 128 = .ok (.getfield 21, 3) := by decide +kernel
theorem dX0_run_131 : decode cX0_run 131 = .ok (.baload, 1) := by decide +kernel
theorem dX0_run_132 : decode cX0_run 132 = .ok (.bastore, 1) := by decide +kernel
theorem dX0_run_133 : decode cX0_run 133 = .ok (.goto 33, 3) := by decide +kernel
theorem dX0_run_136 : decode cX0_run 136 = .ok (.aload_n 0, 1) := by decide +kernel
theorem dX0_run_137 : decode cX0_run 137 = .ok (.iload_n 1, 1) := by decide +kernel
theorem dX0_run_138 : decode cX0_run 138 = .ok (.aload_n 3, 1) := by decide +kernel
theorem dX0_run_139 : decode cX0_run 139 = .ok (.invokevirtual 57, 3) := by decide +kernel
theorem dX0_run_142 : decode cX0_run 142 = .ok (.istore 4, 2) := by decide +kernel
theorem dX0_run_144 : decode cX0_run 144 = .ok (.goto 22, 3) := by decide +kernel
theorem dX0_run_147 : decode cX0_run 147 = .ok (.iload_n 1, 1) := by decide +kernel
theorem dX0_run_148 : decode cX0_run 148 = .ok (.ifCond .eq 11, 3) := by decide +kernel
theorem dX0_run_151 : decode cX0_run 151 = .ok (.aload_n 0, 1) := by decide +kernel
theorem dX0_run_152 : decode cX0_run 152 = .ok (.aload_n 3, 1) := by decide +kernel
theorem dX0_run_153 : decode cX0_run 153 = .ok (.invokevirtual 61, 3) := by decide +kernel
theorem dX0_run_156 : decode cX0_run 156 = .ok (.ifCond .eq 7, 3) := by decide +kernel
theorem dX0_run_159 : decode cX0_run 159 = .ok (.iconst 1, 1) := by decide +kernel
theorem dX0_run_160 : decode cX0_run 160 = .ok (.goto 4, 3) := by decide +kernel
theorem dX0_run_163 : decode cX0_run 163 = .ok (.iconst 0, 1) := by decide +kernel
theorem dX0_run_164 : decode cX0_run 164 = .ok (.istore 4, 2) := by decide +kernel
theorem dX0_run_166 : decode cX0_run 166 = .ok (.iload 4, 2) := by decide +kernel
theorem dX0_run_168 : decode cX0_run 168 = .ok (.ifCond .ne 13, 3) := by decide +kernel
theorem dX0_run_171 : decode cX0_run 171 = .ok (.aload_n 0, 1) := by decide +kernel
theorem dX0_run_172 : decode cX0_run 172 = .ok (.dup, 1) := by decide +kernel
theorem dX0_run_173 : decode cX0_run 173 = .ok (.getfield 44, 3) := by decide +kernel
theorem dX0_run_176 : decode cX0_run 176 = .ok (.iconst 1, 1) := by decide +kernel
theorem dX0_run_177 : decode cX0_run 177 = .ok (.iadd, 1) := by decide +kernel
theorem dX0_run_178 : decode cX0_run 178 = .ok (.putfield 44, 3) := by decide +kernel
theorem dX0_run_181 : decode cX0_run 181 = .ok (.iload 4, 2) := by decide +kernel
theorem dX0_run_183 : decode cX0_run 183 = .ok (.ireturn, 1) := by decide +kernel
theorem dX0_delay_0 : decode cX0_delay 0 = .ok (.iload_n 1, 1) := by decide +kernel
theorem dX0_delay_1 : decode cX0_delay 1 = .ok (.ifCond .ne 11, 3) := by decide +kernel
theorem dX0_delay_4 : decode cX0_delay 4 = .ok (.aload_n 0, 1) := by decide +kernel
theorem dX0_delay_5 : decode cX0_delay 5 = .ok (.iconst 0, 1) := by decide +kernel
theorem dX0_delay_6 : decode cX0_delay 6 = .ok (.putfield 28, 3) := by decide +kernel
theorem dX0_delay_9 : decode cX0_delay 9 = .ok (.goto 26, 3) := by decide +kernel
theorem dX0_delay_12 : decode cX0_delay 12 = .ok (.aload_n 0, 1) := by decide +kernel
theorem dX0_delay_13 : decode cX0_delay 13 = .ok (.getfield 28, 3) := by decide +kernel
theorem dX0_delay_16 : decode cX0_delay 16 = .ok (.i2d, 1) := by decide +kernel
theorem dX0_delay_17 : decode cX0_delay 17 = .ok (.aload_n 0, 1) := by decide +kernel
theorem dX0_delay_18 : decode cX0_delay 18 = .ok (.getfield 24, 3) := by decide +kernel
theorem dX0_delay_21 : decode cX0_delay 21 = .ok (.dcmp .g, 1) := by decide +kernel
theorem dX0_delay_22 : decode cX0_delay 22 = .ok (.ifCond .ge 13, 3) := by decide +kernel
theorem dX0_delay_25 : decode cX0_delay 25 = .ok (.aload_n 0, 1) := by decide +kernel
theorem dX0_delay_26 : decode cX0_delay 26 = .ok (.dup, 1) := by decide +kernel
theorem dX0_delay_27 : decode cX0_delay 27 = .ok (.getfield 28, 3) := by decide +kernel
theorem dX0_delay_30 : decode cX0_delay 30 = .ok (.iconst 1, 1) := by decide +kernel
theorem dX0_delay_31 : decode cX0_delay 31 = .ok (.iadd, 1) := by decide +kernel
theorem dX0_delay_32 : decode cX0_delay 32 = .ok (.putfield 28, 3) := by decide +kernel
theorem dX0_delay_35 : decode cX0_delay 35 = .ok (.aload_n 2, 1) := by decide +kernel
theorem dX0_delay_36 : decode cX0_delay 36 = .ok (.aload_n 0, 1) := by decide +kernel
theorem dX0_delay_37 : decode cX0_delay 37 = .ok (.getfield 21, 3) := by decide +kernel
theorem dX0_delay_40 : decode cX0_delay 40 = .ok (.aload_n 0, 1) := by decide +kernel
theorem dX0_delay_41 : decode cX0_delay 41 = .ok (.getfield 28, 3) := by decide +kernel
theorem dX0_delay_44 : decode cX0_delay 44 = .ok (.i2d, 1) := by decide +kernel
theorem dX0_delay_45 : decode cX0_delay 45 = .ok (.aload_n 0, 1) := by decide +kernel
theorem dX0_delay_46 : decode cX0_delay 46 = .ok (.getfield 24, 3) := by decide +kernel
theorem dX0_delay_49 : decode cX0_delay 49 = .ok (.dcmp .l, 1) := by decide +kernel
theorem dX0_delay_50 : decode cX0_delay 50 = .ok (.ifCond .lt 7, 3) := by decide +kernel
theorem dX0_delay_53 : decode cX0_delay 53 = .ok (.iconst 1, 1) := by decide +kernel
theorem dX0_delay_54 : decode cX0_delay 54 = .ok (.goto 4, 3) := by decide +kernel
theorem dX0_delay_57 : decode cX0_delay 57 = .ok (.iconst 0, 1) := by decide +kernel
theorem dX0_delay_58 : decode cX0_delay 58 = .ok (.bastore, 1) := by decide +kernel
theorem dX0_delay_59 : decode cX0_delay 59 = .ok (.return_, 1) := by decide +kernel
theorem dX0_countRuns_0 : decode cX0_countRuns 0 = .ok (.aload_n 2, 1) := by decide +kernel
theorem dX0_countRuns_1 : decode cX0_countRuns 1 = .ok (.bipush 22, 2) := by decide +kernel
theorem dX0_countRuns_3 : decode cX0_countRuns 3 = .ok (.baload, 1) := by decide +kernel
theorem dX0_countRuns_4 : decode cX0_countRuns 4 = .ok (.ifCond .eq 11, 3) := by decide +kernel
theorem dX0_countRuns_7 : decode cX0_countRuns 7 = .ok (.aload_n 0, 1) := by decide +kernel
theorem dX0_countRuns_8 : decode cX0_countRuns 8 = .ok (.iconst 0, 1) := by decide +kernel
theorem dX0_countRuns_9 : decode cX0_countRuns 9 = .ok (.putfield 28, 3) := by decide +kernel
theorem dX0_countRuns_12 : decode cX0_countRuns 12 = .ok (.goto 37, 3) := by decide +kernel
theorem dX0_countRuns_15 : decode cX0_countRuns 15 = .ok (.iload_n 1, 1) := by decide +kernel
theorem dX0_countRuns_16 : decode cX0_countRuns 16 = .ok (.ifCond .eq 33, 3) := by decide +kernel
theorem dX0_countRuns_19 : decode cX0_countRuns 19 = .ok (.aload_n 0, 1) := by decide +kernel
theorem dX0_countRuns_20 : decode cX0_countRuns 20 = .ok (.getfield 31, 3) := by decide +kernel
theorem dX0_countRuns_23 : decode cX0_countRuns 23 = .ok (.ifCond .ne 26, 3) := by decide +kernel
theorem dX0_countRuns_26 : decode cX0_countRuns 26 = .ok (.aload_n 0, 1) := by decide +kernel
theorem dX0_countRuns_27 : decode cX0_countRuns 27 = .ok (.getfield 28, 3) := by decide +kernel
theorem dX0_countRuns_30 : decode cX0_countRuns 30 = .ok (.i2d, 1) := by decide +kernel
theorem dX0_countRuns_31 : decode cX0_countRuns 31 = .ok (.aload_n 0, 1) := by decide +kernel
theorem dX0_countRuns_32 : decode cX0_countRuns 32 = .ok (.getfield 24, 3) := by decide +kernel
theorem dX0_countRuns_35 : decode cX0_countRuns 35 = .ok (.dcmp .g, 1) := by decide +kernel
theorem dX0_countRuns_36 : decode cX0_countRuns 36 = .ok (.ifCond .ge 13, 3) := by decide +kernel
theorem dX0_countRuns_39 : decode cX0_countRuns 39 = .ok (.aload_n 0, 1) := by decide +kernel
theorem dX0_countRuns_40 : decode cX0_countRuns 40 = .ok (.dup, 1) := by decide +kernel
theorem dX0_countRuns_41 : decode cX0_countRuns 41 = .ok (.getfield 28, 3) := by decide +kernel
theorem dX0_countRuns_44 : decode cX0_countRuns 44 = .ok (.iconst 1, 1) := by decide +kernel
theorem dX0_countRuns_45 : decode cX0_countRuns 45 = .ok (.iadd, 1) := by decide +kernel
theorem dX0_countRuns_46 : decode cX0_countRuns 46 = .ok (.putfield 28, 3) := by decide +kernel
theorem dX0_countRuns_49 : decode cX0_countRuns 49 = .ok (.aload_n 0, 1) := by decide +kernel
theorem dX0_countRuns_50 : decode cX0_countRuns 50 = .ok (.iload_n 1, 1) := by decide +kernel
theorem dX0_countRuns_51 : decode cX0_countRuns 51 = .ok (.putfield 31, 3) := by decide +kernel
theorem dX0_countRuns_54 : decode cX0_countRuns 54 = .ok (.aload_n 2, 1) := by decide +kernel
theorem dX0_countRuns_55 : decode cX0_countRuns 55 = .ok (.aload_n 0, 1) := by decide +kernel
theorem dX0_countRuns_56 : decode cX0_countRuns 56 = .ok (.getfield 21, 3) := by decide +kernel
theorem dX0_countRuns_59 : decode cX0_countRuns 59 = .ok (.aload_n 0, 1) := by decide +kernel
theorem dX0_countRuns_60 : decode cX0_countRuns 60 = .ok (.getfield 28, 3) := by decide +kernel
theorem dX0_countRuns_63 : decode cX0_countRuns 63 = .ok (.i2d, 1) := by decide +kernel
theorem dX0_countRuns_64 : decode cX0_countRuns 64 = .ok (.aload_n 0, 1) := by decide +kernel
theorem dX0_countRuns_65 : decode cX0_countRuns 65 = .ok (.getfield 24, 3) := by decide +kernel
theorem dX0_countRuns_68 : decode cX0_countRuns 68 = .ok (.dcmp .l, 1) := by decide +kernel
theorem dX0_countRuns_69 : decode cX0_countRuns 69 = .ok (.ifCond .lt 7, 3) := by decide +kernel
theorem dX0_countRuns_72 : decode cX0_countRuns 72 = .ok (.iconst 1, 1) := by decide +kernel
theorem dX0_countRuns_73 : decode cX0_countRuns 73 = .ok (.goto 4, 3) := by decide +kernel
theorem dX0_countRuns_76 : decode cX0_countRuns 76 = .ok (.iconst 0, 1) := by decide +kernel
theorem dX0_countRuns_77 : decode cX0_countRuns 77 = .ok (.bastore, 1) := by decide +kernel
theorem dX0_countRuns_78 : decode cX0_countRuns 78 = .ok (.return_, 1) := by decide +kernel
theorem dX0_regulate_0 : decode cX0_regulate 0 = .ok (.iload_n 1, 1) := by decide +kernel
theorem dX0_regulate_1 : decode cX0_regulate 1 = .ok (.ifCond .ne 15, 3) := by decide +kernel
theorem dX0_regulate_4 : decode cX0_regulate 4 = .ok (.aload_n 0, 1) := by decide +kernel
theorem dX0_regulate_5 : decode cX0_regulate 5 = .ok (.dconst 0, 1) := by decide +kernel
theorem dX0_regulate_6 : decode cX0_regulate 6 = .ok (.putfield 35, 3) := by decide +kernel
theorem dX0_regulate_9 : decode cX0_regulate 9 = .ok (.aload_n 0, 1) := by decide +kernel
theorem dX0_regulate_10 : decode cX0_regulate 10 = .ok (.dconst 0, 1) := by decide +kernel
theorem dX0_regulate_11 : decode cX0_regulate 11 = .ok (.putfield 38, 3) := by decide +kernel
theorem dX0_regulate_14 : decode cX0_regulate 14 = .ok (.iconst 1, 1) := by decide +kernel
theorem dX0_regulate_15 : decode cX0_regulate 15 = .ok (.ireturn, 1) := by decide +kernel
theorem dX0_regulate_16 : decode cX0_regulate 16 = .ok (.aload_n 2, 1) := by decide +kernel
theorem dX0_regulate_17 : decode cX0_regulate 17 = .ok (.aload_n 0, 1) := by decide +kernel
theorem dX0_regulate_18 : decode cX0_regulate 18 = .ok (.getfield 18, 3) := by decide +kernel
theorem dX0_regulate_21 : decode cX0_regulate 21 = .ok (.daload, 1) := by decide +kernel
theorem dX0_regulate_22 : decode cX0_regulate 22 = .ok (.aload_n 2, 1) := by decide +kernel
theorem dX0_regulate_23 : decode cX0_regulate 23 = .ok (.aload_n 0, 1) := by decide +kernel
theorem dX0_regulate_24 : decode cX0_regulate 24 = .ok (.getfield 15, 3) := by decide +kernel
theorem dX0_regulate_27 : decode cX0_regulate 27 = .ok (.daload, 1) := by decide +kernel
theorem dX0_regulate_28 : decode cX0_regulate 28 = .ok (.dsub, 1) := by decide +kernel
theorem dX0_regulate_29 : decode cX0_regulate 29 = .ok (.dstore_n 3, 1) := by decide +kernel
theorem dX0_regulate_30 : decode cX0_regulate 30 = .ok (.dload_n 3, 1) := by decide +kernel
theorem dX0_regulate_31 : decode cX0_regulate 31 = .ok (.aload_n 0, 1) := by decide +kernel
theorem dX0_regulate_32 : decode cX0_regulate 32 = .ok (.getfield 38, 3) := by decide +kernel
theorem dX0_regulate_35 : decode cX0_regulate 35 = .ok (.dsub, 1) := by decide +kernel
theorem dX0_regulate_36 : decode cX0_regulate 36 = .ok (.dstore 5, 2) := by decide +kernel
theorem dX0_regulate_38 : decode cX0_regulate 38 = .ok (.aload_n 0, 1) := by decide +kernel
theorem dX0_regulate_39 : decode cX0_regulate 39 = .ok (.aload_n 0, 1) := by decide +kernel
theorem dX0_regulate_40 : decode cX0_regulate 40 = .ok (.getfield 35, 3) := by decide +kernel
theorem dX0_regulate_43 : decode cX0_regulate 43 = .ok (.dload_n 3, 1) := by decide +kernel
theorem dX0_regulate_44 : decode cX0_regulate 44 = .ok (.ldc2_w 73, 3) := by decide +kernel
theorem dX0_regulate_47 : decode cX0_regulate 47 = .ok (.dmul, 1) := by decide +kernel
theorem dX0_regulate_48 : decode cX0_regulate 48 = .ok (.dadd, 1) := by decide +kernel
theorem dX0_regulate_49 : decode cX0_regulate 49 = .ok (.ldc2_w 75, 3) := by decide +kernel
theorem dX0_regulate_52 : decode cX0_regulate 52 = .ok (.ldc2_w 77, 3) := by decide +kernel
theorem dX0_regulate_55 : decode cX0_regulate 55 = .ok (.invokestatic 69, 3) := by decide +kernel
theorem dX0_regulate_58 : decode cX0_regulate 58 = .ok (.putfield 35, 3) := by decide +kernel
theorem dX0_regulate_61 : decode cX0_regulate 61 = .ok (.aload_n 0, 1) := by decide +kernel
theorem dX0_regulate_62 : decode cX0_regulate 62 = .ok (.dload_n 3, 1) := by decide +kernel
theorem dX0_regulate_63 : decode cX0_regulate 63 = .ok (.putfield 38, 3) := by decide +kernel
theorem dX0_regulate_66 : decode cX0_regulate 66 = .ok (.aload_n 0, 1) := by decide +kernel
theorem dX0_regulate_67 : decode cX0_regulate 67 = .ok (.aload_n 0, 1) := by decide +kernel
theorem dX0_regulate_68 : decode cX0_regulate 68 = .ok (.getfield 24, 3) := by decide +kernel
theorem dX0_regulate_71 : decode cX0_regulate 71 = .ok (.dload_n 3, 1) := by decide +kernel
theorem dX0_regulate_72 : decode cX0_regulate 72 = .ok (.aload_n 0, 1) := by decide +kernel
theorem dX0_regulate_73 : decode cX0_regulate 73 = .ok (.getfield 35, 3) := by decide +kernel
theorem dX0_regulate_76 : decode cX0_regulate 76 = .ok (.dadd, 1) := by decide +kernel
theorem dX0_regulate_77 : decode cX0_regulate 77 = .ok (.dload 5, 2) := by decide +kernel
theorem dX0_regulate_79 : decode cX0_regulate 79 = .ok (.ldc2_w 79, 3) := by decide +kernel
theorem dX0_regulate_82 : decode cX0_regulate 82 = .ok (.dmul, 1) := by decide +kernel
theorem dX0_regulate_83 : decode cX0_regulate 83 = .ok (.dadd, 1) := by decide +kernel
theorem dX0_regulate_84 : decode cX0_regulate 84 = .ok (.dmul, 1) := by decide +kernel
theorem dX0_regulate_85 : decode cX0_regulate 85 = .ok (.aload_n 2, 1) := by decide +kernel
theorem dX0_regulate_86 : decode cX0_regulate 86 = .ok (.invokevirtual 65, 3) := by decide +kernel
theorem dX0_regulate_89 : decode cX0_regulate 89 = .ok (.ireturn, 1) := by decide +kernel
theorem dX0_limited_0 : decode cX0_limited 0 = .ok (.dload_n 0, 1) := by decide +kernel
theorem dX0_limited_1 : decode cX0_limited 1 = .ok (.dload_n 2, 1) := by decide +kernel
theorem dX0_limited_2 : decode cX0_limited 2 = .ok (.dcmp .g, 1) := by decide +kernel
theorem dX0_limited_3 : decode cX0_limited 3 = .ok (.ifCond .ge 7, 3) := by decide +kernel
theorem dX0_limited_6 : decode cX0_limited 6 = .ok (.dload_n 2, 1) := by decide +kernel
theorem dX0_limited_7 : decode cX0_limited 7 = .ok (.goto 16, 3) := by decide +kernel
theorem dX0_limited_10 : decode cX0_limited 10 = .ok (.dload_n 0, 1) := by decide +kernel
theorem dX0_limited_11 : decode cX0_limited 11 = .ok (.dload 4, 2) := by decide +kernel
theorem dX0_limited_13 : decode cX0_limited 13 = .ok (.dcmp .l, 1) := by decide +kernel
theorem dX0_limited_14 : decode cX0_limited 14 = .ok (.ifCond .le 8, 3) := by decide +kernel
theorem dX0_limited_17 : decode cX0_limited 17 = .ok (.dload 4, 2) := by decide +kernel
theorem dX0_limited_19 : decode cX0_limited 19 = .ok (.goto 4, 3) := by decide +kernel
theorem dX0_limited_22 : decode cX0_limited 22 = .ok (.dload_n 0, 1) := by decide +kernel
theorem dX0_limited_23 : decode cX0_limited 23 = .ok (.dreturn, 1) := by decide +kernel
theorem dX0_keep_0 : decode cX0_keep 0 = .ok (.dload_n 1, 1) := by decide +kernel
theorem dX0_keep_1 : decode cX0_keep 1 = .ok (.invokestatic 81, 3) := by decide +kernel
theorem dX0_keep_4 : decode cX0_keep 4 = .ok (.ifCond .ne 5, 3) := by decide +kernel
theorem dX0_keep_7 : decode cX0_keep 7 = .ok (.iconst 0, 1) := by decide +kernel
theorem dX0_keep_8 : decode cX0_keep 8 = .ok (.ireturn, 1) := by decide +kernel
theorem dX0_keep_9 : decode cX0_keep 9 = .ok (.aload_n 3, 1) := by decide +kernel
theorem dX0_keep_10 : decode cX0_keep 10 = .ok (.aload_n 0, 1) := by decide +kernel
theorem dX0_keep_11 : decode cX0_keep 11 = .ok (.getfield 21, 3) := by decide +kernel
theorem dX0_keep_14 : decode cX0_keep 14 = .ok (.dload_n 1, 1) := by decide +kernel
theorem dX0_keep_15 : decode cX0_keep 15 = .ok (.dastore, 1) := by decide +kernel
theorem dX0_keep_16 : decode cX0_keep 16 = .ok (.iconst 1, 1) := by decide +kernel
theorem dX0_keep_17 : decode cX0_keep 17 = .ok (.ireturn, 1) := by decide +kernel
theorem dX0_calculate_0 : decode cX0_calculate 0 = .ok (.aload_n 1, 1) := by decide +kernel
theorem dX0_calculate_1 : decode cX0_calculate 1 = .ok (.aload_n 0, 1) := by decide +kernel
theorem dX0_calculate_2 : decode cX0_calculate 2 = .ok (.getfield 15, 3) := by decide +kernel
theorem dX0_calculate_5 : decode cX0_calculate 5 = .ok (.daload, 1) := by decide +kernel
theorem dX0_calculate_6 : decode cX0_calculate 6 = .ok (.dstore_n 2, 1) := by decide +kernel
theorem dX0_calculate_7 : decode cX0_calculate 7 = .ok (.aload_n 1, 1) := by decide +kernel
theorem dX0_calculate_8 : decode cX0_calculate 8 = .ok (.aload_n 0, 1) := by decide +kernel
theorem dX0_calculate_9 : decode cX0_calculate 9 = .ok (.getfield 18, 3) := by decide +kernel
theorem dX0_calculate_12 : decode cX0_calculate 12 = .ok (.daload, 1) := by decide +kernel
theorem dX0_calculate_13 : decode cX0_calculate 13 = .ok (.dstore 4, 2) := by decide +kernel
theorem dX0_calculate_15 : decode cX0_calculate 15 = .ok (.aload_n 0, 1) := by decide +kernel
theorem dX0_calculate_16 : decode cX0_calculate 16 = .ok (.getfield 9, 3) := by decide +kernel
theorem dX0_calculate_19 : decode cX0_calculate 19 = .ok (.tableswitch 84 4 7 #[29, 39, 49, 59], 29) := by decide +kernel
theorem dX0_calculate_48 : decode cX0_calculate 48 = .ok (.aload_n 0, 1) := by decide +kernel
theorem dX0_calculate_49 : decode cX0_calculate 49 = .ok (.dload_n 2, 1) := by decide +kernel
theorem dX0_calculate_50 : decode cX0_calculate 50 = .ok (.dload 4, 2) := by decide +kernel
theorem dX0_calculate_52 : decode cX0_calculate 52 = .ok (.dadd, 1) := by decide +kernel
theorem dX0_calculate_53 : decode cX0_calculate 53 = .ok (.aload_n 1, 1) := by decide +kernel
theorem dX0_calculate_54 : decode cX0_calculate 54 = .ok (.invokevirtual 65, 3) := by decide +kernel
theorem dX0_calculate_57 : decode cX0_calculate 57 = .ok (.ireturn, 1) := by decide +kernel
theorem dX0_calculate_58 : decode cX0_calculate 58 = .ok (.aload_n 0, 1) := by decide +kernel
theorem dX0_calculate_59 : decode cX0_calculate 59 = .ok (.dload_n 2, 1) := by decide +kernel
theorem dX0_calculate_60 : decode cX0_calculate 60 = .ok (.dload 4, 2) := by decide +kernel
theorem dX0_calculate_62 : decode cX0_calculate 62 = .ok (.dsub, 1) := by decide +kernel
theorem dX0_calculate_63 : decode cX0_calculate 63 = .ok (.aload_n 1, 1) := by decide +kernel
theorem dX0_calculate_64 : decode cX0_calculate 64 = .ok (.invokevirtual 65, 3) := by decide +kernel
theorem dX0_calculate_67 : decode cX0_calculate 67 = .ok (.ireturn, 1) := by decide +kernel
theorem dX0_calculate_68 : decode cX0_calculate 68 = .ok (.aload_n 0, 1) := by decide +kernel
theorem dX0_calculate_69 : decode cX0_calculate 69 = .ok (.dload_n 2, 1) := by decide +kernel
theorem dX0_calculate_70 : decode cX0_calculate 70 = .ok (.dload 4, 2) := by decide +kernel
theorem dX0_calculate_72 : decode cX0_calculate 72 = .ok (.dmul, 1) := by decide +kernel
theorem dX0_calculate_73 : decode cX0_calculate 73 = .ok (.aload_n 1, 1) := by decide +kernel
theorem dX0_calculate_74 : decode cX0_calculate 74 = .ok (.invokevirtual 65, 3) := by decide +kernel
theorem dX0_calculate_77 : decode cX0_calculate 77 = .ok (.ireturn, 1) := by decide +kernel
theorem dX0_calculate_78 : decode cX0_calculate 78 = .ok (.dload 4, 2) := by decide +kernel
theorem dX0_calculate_80 : decode cX0_calculate 80 = .ok (.dconst 0, 1) := by decide +kernel
theorem dX0_calculate_81 : decode cX0_calculate 81 = .ok (.dcmp .l, 1) := by decide +kernel
theorem dX0_calculate_82 : decode cX0_calculate 82 = .ok (.ifCond .eq 19, 3) := by decide +kernel
theorem dX0_calculate_85 : decode cX0_calculate 85 = .ok (.aload_n 0, 1) := by decide +kernel
theorem dX0_calculate_86 : decode cX0_calculate 86 = .ok (.dload_n 2, 1) := by decide +kernel
theorem dX0_calculate_87 : decode cX0_calculate 87 = .ok (.dload 4, 2) := by decide +kernel
theorem dX0_calculate_89 : decode cX0_calculate 89 = .ok (.ddiv, 1) := by decide +kernel
theorem dX0_calculate_90 : decode cX0_calculate 90 = .ok (.aload_n 1, 1) := by decide +kernel
theorem dX0_calculate_91 : decode cX0_calculate 91 = .ok (.invokevirtual 65, 3) := by decide +kernel
theorem dX0_calculate_94 : decode cX0_calculate 94 = .ok (.ifCond .eq 7, 3) := by decide +kernel
theorem dX0_calculate_97 : decode cX0_calculate 97 = .ok (.iconst 1, 1) := by decide +kernel
theorem dX0_calculate_98 : decode cX0_calculate 98 = .ok (.goto 4, 3) := by decide +kernel
theorem dX0_calculate_101 : decode cX0_calculate 101 = .ok (.iconst 0, 1) := by decide +kernel
theorem dX0_calculate_102 : decode cX0_calculate 102 = .ok (.ireturn, 1) := by decide +kernel
theorem dX0_calculate_103 : decode cX0_calculate 103 = .ok (.dload 4, 2) := by decide +kernel
theorem dX0_calculate_105 : decode cX0_calculate 105 = .ok (.aload_n 0, 1) := by decide +kernel
theorem dX0_calculate_106 : decode cX0_calculate 106 = .ok (.getfield 24, 3) := by decide +kernel
theorem dX0_calculate_109 : decode cX0_calculate 109 = .ok (.dcmp .g, 1) := by decide +kernel
theorem dX0_calculate_110 : decode cX0_calculate 110 = .ok (.ifCond .gt 25, 3) := by decide +kernel
theorem dX0_calculate_113 : decode cX0_calculate 113 = .ok (.aload_n 0, 1) := by decide +kernel
theorem dX0_calculate_114 : decode cX0_calculate 114 = .ok (.dload_n 2, 1) := by decide +kernel
theorem dX0_calculate_115 : decode cX0_calculate 115 = .ok (.dload 4, 2) := by decide +kernel
theorem dX0_calculate_117 : decode cX0_calculate 117 = .ok (.aload_n 0, 1) := by decide +kernel
theorem dX0_calculate_118 : decode cX0_calculate 118 = .ok (.getfield 24, 3) := by decide +kernel
theorem dX0_calculate_121 : decode cX0_calculate 121 = .ok (.invokestatic 69, 3) := by decide +kernel
theorem dX0_calculate_124 : decode cX0_calculate 124 = .ok (.aload_n 1, 1) := by decide +kernel
theorem dX0_calculate_125 : decode cX0_calculate 125 = .ok (.invokevirtual 65, 3) := by decide +kernel
theorem dX0_calculate_128 : decode cX0_calculate 128 = .ok (.ifCond .eq 7, 3) := by decide +kernel
theorem dX0_calculate_131 : decode cX0_calculate 131 = .ok (.iconst 1, 1) := by decide +kernel
theorem dX0_calculate_132 : decode cX0_calculate 132 = .ok (.goto 4, 3) := by decide +kernel
theorem dX0_calculate_135 : decode cX0_calculate 135 = .ok (.iconst 0, 1) := by decide +kernel
theorem dX0_calculate_136 : decode cX0_calculate 136 = .ok (.ireturn, 1) := by decide +kernel
theorem dX2_takeFault_0 : decode cX2_takeFault 0 = .ok (.aload_n 0, 1) := by decide +kernel
theorem dX2_takeFault_1 : decode cX2_takeFault 1 = .ok (.dup, 1) := by decide +kernel
theorem dX2_takeFault_2 : decode cX2_takeFault 2 = .ok (.getfield 120, 3) := by decide +kernel
theorem dX2_takeFault_5 : decode cX2_takeFault 5 = .ok (.iconst 1, 1) := by decide +kernel
theorem dX2_takeFault_6 : decode cX2_takeFault 6 = .ok (.iadd, 1) := by decide +kernel
theorem dX2_takeFault_7 : decode cX2_takeFault 7 = .ok (.putfield 120, 3) := by decide +kernel
theorem dX2_takeFault_10 : decode cX2_takeFault 10 = .ok (.aload_n 0, 1) := by decide +kernel
theorem dX2_takeFault_11 : decode cX2_takeFault 11 = .ok (.getfield 26, 3) := by decide +kernel
theorem dX2_takeFault_14 : decode cX2_takeFault 14 = .ok (.iload_n 1, 1) := by decide +kernel
theorem dX2_takeFault_15 : decode cX2_takeFault 15 = .ok (.aaload, 1) := by decide +kernel
theorem dX2_takeFault_16 : decode cX2_takeFault 16 = .ok (.getfield 75, 3) := by decide +kernel
theorem dX2_takeFault_19 : decode cX2_takeFault 19 = .ok (.ifCond .eq 12, 3) := by decide +kernel
theorem dX2_takeFault_22 : decode cX2_takeFault 22 = .ok (.aload_n 0, 1) := by decide +kernel
theorem dX2_takeFault_23 : decode cX2_takeFault 23 = .ok (.getfield 9, 3) := by decide +kernel
theorem dX2_takeFault_26 : decode cX2_takeFault 26 = .ok (.bipush 23, 2) := by decide +kernel
theorem dX2_takeFault_28 : decode cX2_takeFault 28 = .ok (.iconst 1, 1) := by decide +kernel
theorem dX2_takeFault_29 : decode cX2_takeFault 29 = .ok (.bastore, 1) := by decide +kernel
theorem dX2_takeFault_30 : decode cX2_takeFault 30 = .ok (.return_, 1) := by decide +kernel
theorem dX2_takeFault_31 : decode cX2_takeFault 31 = .ok (.bipush 8, 2) := by decide +kernel
theorem dX2_takeFault_33 : decode cX2_takeFault 33 = .ok (.istore_n 2, 1) := by decide +kernel
theorem dX2_takeFault_34 : decode cX2_takeFault 34 = .ok (.iload_n 2, 1) := by decide +kernel
theorem dX2_takeFault_35 : decode cX2_takeFault 35 = .ok (.bipush 15, 2) := by decide +kernel
theorem dX2_takeFault_37 : decode cX2_takeFault 37 = .ok (.if_icmp .gt 16, 3) := by decide +kernel
theorem dX2_takeFault_40 : decode cX2_takeFault 40 = .ok (.aload_n 0, 1) := by decide +kernel
theorem dX2_takeFault_41 : decode cX2_takeFault 41 = .ok (.getfield 9, 3) := by decide +kernel
theorem dX2_takeFault_44 : decode cX2_takeFault 44 = .ok (.iload_n 2, 1) := by decide +kernel
theorem dX2_takeFault_45 : decode cX2_takeFault 45 = .ok (.iconst 0, 1) := by decide +kernel
theorem dX2_takeFault_46 : decode cX2_takeFault 46 = .ok (.bastore, 1) := by decide +kernel
theorem dX2_takeFault_47 : decode cX2_takeFault 47 = .ok (.iinc 2 1, 3) := by decide +kernel
theorem dX2_takeFault_50 : decode cX2_takeFault 50 = .ok (.goto (-16), 3) := by decide +kernel
theorem dX2_takeFault_53 : decode cX2_takeFault 53 = .ok (.aload_n 0, 1) := by decide +kernel
theorem dX2_takeFault_54 : decode cX2_takeFault 54 = .ok (.iload_n 1, 1) := by decide +kernel
theorem dX2_takeFault_55 : decode cX2_takeFault 55 = .ok (.putfield 31, 3) := by decide +kernel
theorem dX2_takeFault_58 : decode cX2_takeFault 58 = .ok (.return_, 1) := by decide +kernel
theorem dL_bit_0 : decode cL_bit 0 = .ok (.aload_n 2, 1) := by decide +kernel
theorem dL_bit_1 : decode cL_bit 1 = .ok (.iconst 0, 1) := by decide +kernel
theorem dL_bit_2 : decode cL_bit 2 = .ok (.aload_n 0, 1) := by decide +kernel
theorem dL_bit_3 : decode cL_bit 3 = .ok (.iload_n 1, 1) := by decide +kernel
theorem dL_bit_4 : decode cL_bit 4 = .ok (.invokevirtual 48, 3) := by decide +kernel
theorem dL_bit_7 : decode cL_bit 7 = .ok (.ifCond .eq 7, 3) := by decide +kernel
theorem dL_bit_10 : decode cL_bit 10 = .ok (.lconst 1, 1) := by decide +kernel
theorem dL_bit_11 : decode cL_bit 11 = .ok (.goto 4, 3) := by decide +kernel
theorem dL_bit_14 : decode cL_bit 14 = .ok (.lconst 0, 1) := by decide +kernel
theorem dL_bit_15 : decode cL_bit 15 = .ok (.lastore, 1) := by decide +kernel
theorem dL_bit_16 : decode cL_bit 16 = .ok (.goto 6, 3) := by decide +kernel
theorem dL_bit_19 : decode cL_bit 19 = .ok (.astore_n 3, 1) := by decide +kernel
theorem dL_bit_20 : decode cL_bit 20 = .ok (.iconst 1, 1) := by decide +kernel
theorem dL_bit_21 : decode cL_bit 21 = .ok (.ireturn, 1) := by decide +kernel
theorem dL_bit_22 : decode cL_bit 22 = .ok (.iconst 0, 1) := by decide +kernel
theorem dL_bit_23 : decode cL_bit 23 = .ok (.ireturn, 1) := by decide +kernel
theorem dX2_bit_0 : decode cX2_bit 0 = .ok (.iload_n 1, 1) := by decide +kernel
theorem dX2_bit_1 : decode cX2_bit 1 = .ok (.bipush 24, 2) := by decide +kernel
theorem dX2_bit_3 : decode cX2_bit 3 = .ok (.invokestatic 46, 3) := by decide +kernel
theorem dX2_bit_6 : decode cX2_bit 6 = .ok (.invokestatic 49, 3) := by decide +kernel
theorem dX2_bit_9 : decode cX2_bit 9 = .ok (.aload_n 0, 1) := by decide +kernel
theorem dX2_bit_10 : decode cX2_bit 10 = .ok (.getfield 9, 3) := by decide +kernel
theorem dX2_bit_13 : decode cX2_bit 13 = .ok (.iload_n 1, 1) := by decide +kernel
theorem dX2_bit_14 : decode cX2_bit 14 = .ok (.baload, 1) := by decide +kernel
theorem dX2_bit_15 : decode cX2_bit 15 = .ok (.ireturn, 1) := by decide +kernel
theorem dL_register_0 : decode cL_register 0 = .ok (.aload_n 2, 1) := by decide +kernel
theorem dL_register_1 : decode cL_register 1 = .ok (.iconst 0, 1) := by decide +kernel
theorem dL_register_2 : decode cL_register 2 = .ok (.aload_n 0, 1) := by decide +kernel
theorem dL_register_3 : decode cL_register 3 = .ok (.iload_n 1, 1) := by decide +kernel
theorem dL_register_4 : decode cL_register 4 = .ok (.invokevirtual 52, 3) := by decide +kernel
theorem dL_register_7 : decode cL_register 7 = .ok (.dastore, 1) := by decide +kernel
theorem dL_register_8 : decode cL_register 8 = .ok (.goto 6, 3) := by decide +kernel
theorem dL_register_11 : decode cL_register 11 = .ok (.astore_n 3, 1) := by decide +kernel
theorem dL_register_12 : decode cL_register 12 = .ok (.iconst 1, 1) := by decide +kernel
theorem dL_register_13 : decode cL_register 13 = .ok (.ireturn, 1) := by decide +kernel
theorem dL_register_14 : decode cL_register 14 = .ok (.iconst 0, 1) := by decide +kernel
theorem dL_register_15 : decode cL_register 15 = .ok (.ireturn, 1) := by decide +kernel
theorem dX2_register_0 : decode cX2_register 0 = .ok (.iload_n 1, 1) := by decide +kernel
theorem dX2_register_1 : decode cX2_register 1 = .ok (.bipush 8, 2) := by decide +kernel
theorem dX2_register_3 : decode cX2_register 3 = .ok (.invokestatic 46, 3) := by decide +kernel
theorem dX2_register_6 : decode cX2_register 6 = .ok (.invokestatic 49, 3) := by decide +kernel
theorem dX2_register_9 : decode cX2_register 9 = .ok (.aload_n 0, 1) := by decide +kernel
theorem dX2_register_10 : decode cX2_register 10 = .ok (.getfield 13, 3) := by decide +kernel
theorem dX2_register_13 : decode cX2_register 13 = .ok (.iload_n 1, 1) := by decide +kernel
theorem dX2_register_14 : decode cX2_register 14 = .ok (.daload, 1) := by decide +kernel
theorem dX2_register_15 : decode cX2_register 15 = .ok (.dreturn, 1) := by decide +kernel
theorem dL_power_0 : decode cL_power 0 = .ok (.aload 4, 2) := by decide +kernel
theorem dL_power_2 : decode cL_power 2 = .ok (.iconst 0, 1) := by decide +kernel
theorem dL_power_3 : decode cL_power 3 = .ok (.aload_n 0, 1) := by decide +kernel
theorem dL_power_4 : decode cL_power 4 = .ok (.iload_n 1, 1) := by decide +kernel
theorem dL_power_5 : decode cL_power 5 = .ok (.iload_n 2, 1) := by decide +kernel
theorem dL_power_6 : decode cL_power 6 = .ok (.iload_n 3, 1) := by decide +kernel
theorem dL_power_7 : decode cL_power 7 = .ok (.invokevirtual 56, 3) := by decide +kernel
theorem dL_power_10 : decode cL_power 10 = .ok (.ifCond .eq 7, 3) := by decide +kernel
theorem dL_power_13 : decode cL_power 13 = .ok (.lconst 1, 1) := by decide +kernel
theorem dL_power_14 : decode cL_power 14 = .ok (.goto 4, 3) := by decide +kernel
theorem dL_power_17 : decode cL_power 17 = .ok (.lconst 0, 1) := by decide +kernel
theorem dL_power_18 : decode cL_power 18 = .ok (.lastore, 1) := by decide +kernel
theorem dL_power_19 : decode cL_power 19 = .ok (.goto 7, 3) := by decide +kernel
theorem dL_power_22 : decode cL_power 22 = .ok (.astore 5, 2) := by decide +kernel
theorem dL_power_24 : decode cL_power 24 = .ok (.iconst 1, 1) := by decide +kernel
theorem dL_power_25 : decode cL_power 25 = .ok (.ireturn, 1) := by decide +kernel
theorem dL_power_26 : decode cL_power 26 = .ok (.iconst 0, 1) := by decide +kernel
theorem dL_power_27 : decode cL_power 27 = .ok (.ireturn, 1) := by decide +kernel
theorem dX2_power_0 : decode cX2_power 0 = .ok (.iload_n 1, 1) := by decide +kernel
theorem dX2_power_1 : decode cX2_power 1 = .ok (.iload_n 2, 1) := by decide +kernel
theorem dX2_power_2 : decode cX2_power 2 = .ok (.invokestatic 43, 3) := by decide +kernel
theorem dX2_power_5 : decode cX2_power 5 = .ok (.ifCond .eq 16, 3) := by decide +kernel
theorem dX2_power_8 : decode cX2_power 8 = .ok (.iload_n 3, 1) := by decide +kernel
theorem dX2_power_9 : decode cX2_power 9 = .ok (.iconst (-1), 1) := by decide +kernel
theorem dX2_power_10 : decode cX2_power 10 = .ok (.iconst 3, 1) := by decide +kernel
theorem dX2_power_11 : decode cX2_power 11 = .ok (.invokestatic 83, 3) := by decide +kernel
theorem dX2_power_14 : decode cX2_power 14 = .ok (.ifCond .eq 7, 3) := by decide +kernel
theorem dX2_power_17 : decode cX2_power 17 = .ok (.iconst 1, 1) := by decide +kernel
theorem dX2_power_18 : decode cX2_power 18 = .ok (.goto 4, 3) := by decide +kernel
theorem dX2_power_21 : decode cX2_power 21 = .ok (.iconst 0, 1) := by decide +kernel
theorem dX2_power_22 : decode cX2_power 22 = .ok (.invokestatic 49, 3) := by decide +kernel
theorem dX2_power_25 : decode cX2_power 25 = .ok (.aload_n 0, 1) := by decide +kernel
theorem dX2_power_26 : decode cX2_power 26 = .ok (.getfield 19, 3) := by decide +kernel
theorem dX2_power_29 : decode cX2_power 29 = .ok (.iload_n 1, 1) := by decide +kernel
theorem dX2_power_30 : decode cX2_power 30 = .ok (.aaload, 1) := by decide +kernel
theorem dX2_power_31 : decode cX2_power 31 = .ok (.iload_n 2, 1) := by decide +kernel
theorem dX2_power_32 : decode cX2_power 32 = .ok (.iload_n 3, 1) := by decide +kernel
theorem dX2_power_33 : decode cX2_power 33 = .ok (.invokevirtual 109, 3) := by decide +kernel
theorem dX2_power_36 : decode cX2_power 36 = .ok (.ireturn, 1) := by decide +kernel
theorem dL_told_0 : decode cL_told 0 = .ok (.aload_n 3, 1) := by decide +kernel
theorem dL_told_1 : decode cL_told 1 = .ok (.iconst 0, 1) := by decide +kernel
theorem dL_told_2 : decode cL_told 2 = .ok (.aload_n 0, 1) := by decide +kernel
theorem dL_told_3 : decode cL_told 3 = .ok (.iload_n 1, 1) := by decide +kernel
theorem dL_told_4 : decode cL_told 4 = .ok (.iload_n 2, 1) := by decide +kernel
theorem dL_told_5 : decode cL_told 5 = .ok (.invokevirtual 60, 3) := by decide +kernel
theorem dL_told_8 : decode cL_told 8 = .ok (.i2l, 1) := by decide +kernel
theorem dL_told_9 : decode cL_told 9 = .ok (.lastore, 1) := by decide +kernel
theorem dL_told_10 : decode cL_told 10 = .ok (.goto 11, 3) := by decide +kernel
theorem dL_told_13 : decode cL_told 13 = .ok (.astore 4, 2) := by decide +kernel
theorem dL_told_15 : decode cL_told 15 = .ok (.iconst 1, 1) := by decide +kernel
theorem dL_told_16 : decode cL_told 16 = .ok (.ireturn, 1) := by decide +kernel
theorem dL_told_17 : decode cL_told 17 = .ok (.astore 4, 2) := by decide +kernel
theorem dL_told_19 : decode cL_told 19 = .ok (.iconst 2, 1) := by decide +kernel
theorem dL_told_20 : decode cL_told 20 = .ok (.ireturn, 1) := by decide +kernel
theorem dL_told_21 : decode cL_told 21 = .ok (.iconst 0, 1) := by decide +kernel
theorem dL_told_22 : decode cL_told 22 = .ok (.ireturn, 1) := by decide +kernel
theorem dX2_told_0 : decode cX2_told 0 = .ok (.iload_n 2, 1) := by decide +kernel
theorem dX2_told_1 : decode cX2_told 1 = .ok (.iconst 0, 1) := by decide +kernel
theorem dX2_told_2 : decode cX2_told 2 = .ok (.iconst 4, 1) := by decide +kernel
theorem dX2_told_3 : decode cX2_told 3 = .ok (.invokestatic 83, 3) := by decide +kernel
theorem dX2_told_6 : decode cX2_told 6 = .ok (.invokestatic 39, 3) := by decide +kernel
theorem dX2_told_9 : decode cX2_told 9 = .ok (.iload_n 1, 1) := by decide +kernel
theorem dX2_told_10 : decode cX2_told 10 = .ok (.bipush 8, 2) := by decide +kernel
theorem dX2_told_12 : decode cX2_told 12 = .ok (.invokestatic 46, 3) := by decide +kernel
theorem dX2_told_15 : decode cX2_told 15 = .ok (.invokestatic 49, 3) := by decide +kernel
theorem dX2_told_18 : decode cX2_told 18 = .ok (.aload_n 0, 1) := by decide +kernel
theorem dX2_told_19 : decode cX2_told 19 = .ok (.getfield 26, 3) := by decide +kernel
theorem dX2_told_22 : decode cX2_told 22 = .ok (.iload_n 1, 1) := by decide +kernel
theorem dX2_told_23 : decode cX2_told 23 = .ok (.aaload, 1) := by decide +kernel
theorem dX2_told_24 : decode cX2_told 24 = .ok (.iload_n 2, 1) := by decide +kernel
theorem dX2_told_25 : decode cX2_told 25 = .ok (.invokevirtual 112, 3) := by decide +kernel
theorem dX2_told_28 : decode cX2_told 28 = .ok (.ireturn, 1) := by decide +kernel
theorem dX0_tell_0 : decode cX0_tell 0 = .ok (.iload_n 1, 1) := by decide +kernel
theorem dX0_tell_1 : decode cX0_tell 1 = .ok (.tableswitch 59 0 3 #[31, 36, 41, 54], 31) := by decide +kernel
theorem dX0_tell_32 : decode cX0_tell 32 = .ok (.aload_n 0, 1) := by decide +kernel
theorem dX0_tell_33 : decode cX0_tell 33 = .ok (.getfield 9, 3) := by decide +kernel
theorem dX0_tell_36 : decode cX0_tell 36 = .ok (.ireturn, 1) := by decide +kernel
theorem dX0_tell_37 : decode cX0_tell 37 = .ok (.aload_n 0, 1) := by decide +kernel
theorem dX0_tell_38 : decode cX0_tell 38 = .ok (.getfield 28, 3) := by decide +kernel
theorem dX0_tell_41 : decode cX0_tell 41 = .ok (.ireturn, 1) := by decide +kernel
theorem dX0_tell_42 : decode cX0_tell 42 = .ok (.aload_n 0, 1) := by decide +kernel
theorem dX0_tell_43 : decode cX0_tell 43 = .ok (.getfield 47, 3) := by decide +kernel
theorem dX0_tell_46 : decode cX0_tell 46 = .ok (.ifCond .eq 7, 3) := by decide +kernel
theorem dX0_tell_49 : decode cX0_tell 49 = .ok (.iconst 1, 1) := by decide +kernel
theorem dX0_tell_50 : decode cX0_tell 50 = .ok (.goto 4, 3) := by decide +kernel
theorem dX0_tell_53 : decode cX0_tell 53 = .ok (.iconst 0, 1) := by decide +kernel
theorem dX0_tell_54 : decode cX0_tell 54 = .ok (.ireturn, 1) := by decide +kernel
theorem dX0_tell_55 : decode cX0_tell 55 = .ok (.aload_n 0, 1) := by decide +kernel
theorem dX0_tell_56 : decode cX0_tell 56 = .ok (.getfield 41, 3) := by decide +kernel
theorem dX0_tell_59 : decode cX0_tell 59 = .ok (.ireturn, 1) := by decide +kernel
theorem dX0_tell_60 : decode cX0_tell 60 = .ok (.aload_n 0, 1) := by decide +kernel
theorem dX0_tell_61 : decode cX0_tell 61 = .ok (.getfield 44, 3) := by decide +kernel
theorem dX0_tell_64 : decode cX0_tell 64 = .ok (.ireturn, 1) := by decide +kernel
theorem dL_count_0 : decode cL_count 0 = .ok (.aload_n 2, 1) := by decide +kernel
theorem dL_count_1 : decode cL_count 1 = .ok (.iconst 0, 1) := by decide +kernel
theorem dL_count_2 : decode cL_count 2 = .ok (.aload_n 0, 1) := by decide +kernel
theorem dL_count_3 : decode cL_count 3 = .ok (.iload_n 1, 1) := by decide +kernel
theorem dL_count_4 : decode cL_count 4 = .ok (.invokevirtual 64, 3) := by decide +kernel
theorem dL_count_7 : decode cL_count 7 = .ok (.i2l, 1) := by decide +kernel
theorem dL_count_8 : decode cL_count 8 = .ok (.lastore, 1) := by decide +kernel
theorem dL_count_9 : decode cL_count 9 = .ok (.goto 6, 3) := by decide +kernel
theorem dL_count_12 : decode cL_count 12 = .ok (.astore_n 3, 1) := by decide +kernel
theorem dL_count_13 : decode cL_count 13 = .ok (.iconst 1, 1) := by decide +kernel
theorem dL_count_14 : decode cL_count 14 = .ok (.ireturn, 1) := by decide +kernel
theorem dL_count_15 : decode cL_count 15 = .ok (.iconst 0, 1) := by decide +kernel
