/-! decode rows -/
theorem dL_count_16 : decode cL_count 16 = .ok (.ireturn, 1) := by decide +kernel
theorem dX2_count_0 : decode cX2_count 0 = .ok (.iload_n 1, 1) := by decide +kernel
theorem dX2_count_1 : decode cX2_count 1 = .ok (.iconst 0, 1) := by decide +kernel
theorem dX2_count_2 : decode cX2_count 2 = .ok (.iconst 3, 1) := by decide +kernel
theorem dX2_count_3 : decode cX2_count 3 = .ok (.invokestatic 83, 3) := by decide +kernel
theorem dX2_count_6 : decode cX2_count 6 = .ok (.invokestatic 39, 3) := by decide +kernel
theorem dX2_count_9 : decode cX2_count 9 = .ok (.iload_n 1, 1) := by decide +kernel
theorem dX2_count_10 : decode cX2_count 10 = .ok (.tableswitch 49 0 2 #[26, 31, 44], 26) := by decide +kernel
theorem dX2_count_36 : decode cX2_count 36 = .ok (.aload_n 0, 1) := by decide +kernel
theorem dX2_count_37 : decode cX2_count 37 = .ok (.getfield 106, 3) := by decide +kernel
theorem dX2_count_40 : decode cX2_count 40 = .ok (.ireturn, 1) := by decide +kernel
theorem dX2_count_41 : decode cX2_count 41 = .ok (.aload_n 0, 1) := by decide +kernel
theorem dX2_count_42 : decode cX2_count 42 = .ok (.invokevirtual 87, 3) := by decide +kernel
theorem dX2_count_45 : decode cX2_count 45 = .ok (.ifCond .eq 7, 3) := by decide +kernel
theorem dX2_count_48 : decode cX2_count 48 = .ok (.iconst 1, 1) := by decide +kernel
theorem dX2_count_49 : decode cX2_count 49 = .ok (.goto 4, 3) := by decide +kernel
theorem dX2_count_52 : decode cX2_count 52 = .ok (.iconst 0, 1) := by decide +kernel
theorem dX2_count_53 : decode cX2_count 53 = .ok (.ireturn, 1) := by decide +kernel
theorem dX2_count_54 : decode cX2_count 54 = .ok (.aload_n 0, 1) := by decide +kernel
theorem dX2_count_55 : decode cX2_count 55 = .ok (.invokevirtual 116, 3) := by decide +kernel
theorem dX2_count_58 : decode cX2_count 58 = .ok (.ireturn, 1) := by decide +kernel
theorem dX2_count_59 : decode cX2_count 59 = .ok (.aload_n 0, 1) := by decide +kernel
theorem dX2_count_60 : decode cX2_count 60 = .ok (.getfield 120, 3) := by decide +kernel
theorem dX2_count_63 : decode cX2_count 63 = .ok (.ireturn, 1) := by decide +kernel
theorem dX2_bitsOn_0 : decode cX2_bitsOn 0 = .ok (.iconst 0, 1) := by decide +kernel
theorem dX2_bitsOn_1 : decode cX2_bitsOn 1 = .ok (.istore_n 1, 1) := by decide +kernel
theorem dX2_bitsOn_2 : decode cX2_bitsOn 2 = .ok (.iconst 0, 1) := by decide +kernel
theorem dX2_bitsOn_3 : decode cX2_bitsOn 3 = .ok (.istore_n 2, 1) := by decide +kernel
theorem dX2_bitsOn_4 : decode cX2_bitsOn 4 = .ok (.iload_n 2, 1) := by decide +kernel
theorem dX2_bitsOn_5 : decode cX2_bitsOn 5 = .ok (.bipush 24, 2) := by decide +kernel
theorem dX2_bitsOn_7 : decode cX2_bitsOn 7 = .ok (.if_icmp .ge 21, 3) := by decide +kernel
theorem dX2_bitsOn_10 : decode cX2_bitsOn 10 = .ok (.aload_n 0, 1) := by decide +kernel
theorem dX2_bitsOn_11 : decode cX2_bitsOn 11 = .ok (.getfield 9, 3) := by decide +kernel
theorem dX2_bitsOn_14 : decode cX2_bitsOn 14 = .ok (.iload_n 2, 1) := by decide +kernel
theorem dX2_bitsOn_15 : decode cX2_bitsOn 15 = .ok (.baload, 1) := by decide +kernel
theorem dX2_bitsOn_16 : decode cX2_bitsOn 16 = .ok (.ifCond .eq 6, 3) := by decide +kernel
theorem dX2_bitsOn_19 : decode cX2_bitsOn 19 = .ok (.iinc 1 1, 3) := by decide +kernel
theorem dX2_bitsOn_22 : decode cX2_bitsOn 22 = .ok (.iinc 2 1, 3) := by decide +kernel
theorem dX2_bitsOn_25 : decode cX2_bitsOn 25 = .ok (.goto (-21), 3) := by decide +kernel
theorem dX2_bitsOn_28 : decode cX2_bitsOn 28 = .ok (.iload_n 1, 1) := by decide +kernel
theorem dX2_bitsOn_29 : decode cX2_bitsOn 29 = .ok (.ireturn, 1) := by decide +kernel
theorem dX3_init_0 : decode cX3_init 0 = .ok (.aload_n 0, 1) := by decide +kernel
theorem dX3_init_1 : decode cX3_init 1 = .ok (.invokespecial 1, 3) := by decide +kernel
theorem dX3_init_4 : decode cX3_init 4 = .ok (.aload_n 0, 1) := by decide +kernel
theorem dX3_init_5 : decode cX3_init 5 = .ok (.bipush 24, 2) := by decide +kernel
theorem dX3_init_7 : decode cX3_init 7 = .ok (.newarray .boolean, 2) := by decide +kernel
theorem dX3_init_9 : decode cX3_init 9 = .ok (.putfield 7, 3) := by decide +kernel
theorem dX3_init_12 : decode cX3_init 12 = .ok (.aload_n 0, 1) := by decide +kernel
theorem dX3_init_13 : decode cX3_init 13 = .ok (.bipush 60, 2) := by decide +kernel
theorem dX3_init_15 : decode cX3_init 15 = .ok (.newarray .boolean, 2) := by decide +kernel
theorem dX3_init_17 : decode cX3_init 17 = .ok (.putfield 13, 3) := by decide +kernel
theorem dX3_init_20 : decode cX3_init 20 = .ok (.aload_n 0, 1) := by decide +kernel
theorem dX3_init_21 : decode cX3_init 21 = .ok (.bipush 40, 2) := by decide +kernel
theorem dX3_init_23 : decode cX3_init 23 = .ok (.newarray .boolean, 2) := by decide +kernel
theorem dX3_init_25 : decode cX3_init 25 = .ok (.putfield 16, 3) := by decide +kernel
theorem dX3_init_28 : decode cX3_init 28 = .ok (.aload_n 0, 1) := by decide +kernel
theorem dX3_init_29 : decode cX3_init 29 = .ok (.bipush 60, 2) := by decide +kernel
theorem dX3_init_31 : decode cX3_init 31 = .ok (.newarray .boolean, 2) := by decide +kernel
theorem dX3_init_33 : decode cX3_init 33 = .ok (.putfield 19, 3) := by decide +kernel
theorem dX3_init_36 : decode cX3_init 36 = .ok (.aload_n 0, 1) := by decide +kernel
theorem dX3_init_37 : decode cX3_init 37 = .ok (.iconst 5, 1) := by decide +kernel
theorem dX3_init_38 : decode cX3_init 38 = .ok (.newarray .boolean, 2) := by decide +kernel
theorem dX3_init_40 : decode cX3_init 40 = .ok (.putfield 22, 3) := by decide +kernel
theorem dX3_init_43 : decode cX3_init 43 = .ok (.aload_n 0, 1) := by decide +kernel
theorem dX3_init_44 : decode cX3_init 44 = .ok (.bipush 8, 2) := by decide +kernel
theorem dX3_init_46 : decode cX3_init 46 = .ok (.newarray .boolean, 2) := by decide +kernel
theorem dX3_init_48 : decode cX3_init 48 = .ok (.putfield 25, 3) := by decide +kernel
theorem dX3_init_51 : decode cX3_init 51 = .ok (.aload_n 0, 1) := by decide +kernel
theorem dX3_init_52 : decode cX3_init 52 = .ok (.bipush 8, 2) := by decide +kernel
theorem dX3_init_54 : decode cX3_init 54 = .ok (.newarray .boolean, 2) := by decide +kernel
theorem dX3_init_56 : decode cX3_init 56 = .ok (.putfield 28, 3) := by decide +kernel
theorem dX3_init_59 : decode cX3_init 59 = .ok (.aload_n 0, 1) := by decide +kernel
theorem dX3_init_60 : decode cX3_init 60 = .ok (.iconst 3, 1) := by decide +kernel
theorem dX3_init_61 : decode cX3_init 61 = .ok (.newarray .boolean, 2) := by decide +kernel
theorem dX3_init_63 : decode cX3_init 63 = .ok (.putfield 31, 3) := by decide +kernel
theorem dX3_init_66 : decode cX3_init 66 = .ok (.aload_n 0, 1) := by decide +kernel
theorem dX3_init_67 : decode cX3_init 67 = .ok (.bipush 8, 2) := by decide +kernel
theorem dX3_init_69 : decode cX3_init 69 = .ok (.newarray .double, 2) := by decide +kernel
theorem dX3_init_71 : decode cX3_init 71 = .ok (.putfield 34, 3) := by decide +kernel
theorem dX3_init_74 : decode cX3_init 74 = .ok (.aload_n 0, 1) := by decide +kernel
theorem dX3_init_75 : decode cX3_init 75 = .ok (.bipush 8, 2) := by decide +kernel
theorem dX3_init_77 : decode cX3_init 77 = .ok (.newarray .double, 2) := by decide +kernel
theorem dX3_init_79 : decode cX3_init 79 = .ok (.putfield 38, 3) := by decide +kernel
theorem dX3_init_82 : decode cX3_init 82 = .ok (.aload_n 0, 1) := by decide +kernel
theorem dX3_init_83 : decode cX3_init 83 = .ok (.bipush 8, 2) := by decide +kernel
theorem dX3_init_85 : decode cX3_init 85 = .ok (.newarray .double, 2) := by decide +kernel
theorem dX3_init_87 : decode cX3_init 87 = .ok (.putfield 41, 3) := by decide +kernel
theorem dX3_init_90 : decode cX3_init 90 = .ok (.aload_n 0, 1) := by decide +kernel
theorem dX3_init_91 : decode cX3_init 91 = .ok (.bipush 8, 2) := by decide +kernel
theorem dX3_init_93 : decode cX3_init 93 = .ok (.newarray .double, 2) := by decide +kernel
theorem dX3_init_95 : decode cX3_init 95 = .ok (.putfield 44, 3) := by decide +kernel
theorem dX3_init_98 : decode cX3_init 98 = .ok (.aload_n 0, 1) := by decide +kernel
theorem dX3_init_99 : decode cX3_init 99 = .ok (.bipush 60, 2) := by decide +kernel
theorem dX3_init_101 : decode cX3_init 101 = .ok (.newarray .int, 2) := by decide +kernel
theorem dX3_init_103 : decode cX3_init 103 = .ok (.putfield 47, 3) := by decide +kernel
theorem dX3_init_106 : decode cX3_init 106 = .ok (.aload_n 0, 1) := by decide +kernel
theorem dX3_init_107 : decode cX3_init 107 = .ok (.bipush 60, 2) := by decide +kernel
theorem dX3_init_109 : decode cX3_init 109 = .ok (.newarray .int, 2) := by decide +kernel
theorem dX3_init_111 : decode cX3_init 111 = .ok (.putfield 51, 3) := by decide +kernel
theorem dX3_init_114 : decode cX3_init 114 = .ok (.aload_n 0, 1) := by decide +kernel
theorem dX3_init_115 : decode cX3_init 115 = .ok (.bipush 15, 2) := by decide +kernel
theorem dX3_init_117 : decode cX3_init 117 = .ok (.newarray .int, 2) := by decide +kernel
theorem dX3_init_119 : decode cX3_init 119 = .ok (.putfield 54, 3) := by decide +kernel
theorem dX3_init_122 : decode cX3_init 122 = .ok (.aload_n 0, 1) := by decide +kernel
theorem dX3_init_123 : decode cX3_init 123 = .ok (.bipush 15, 2) := by decide +kernel
theorem dX3_init_125 : decode cX3_init 125 = .ok (.newarray .int, 2) := by decide +kernel
theorem dX3_init_127 : decode cX3_init 127 = .ok (.putfield 57, 3) := by decide +kernel
theorem dX3_init_130 : decode cX3_init 130 = .ok (.aload_n 0, 1) := by decide +kernel
theorem dX3_init_131 : decode cX3_init 131 = .ok (.bipush 8, 2) := by decide +kernel
theorem dX3_init_133 : decode cX3_init 133 = .ok (.newarray .int, 2) := by decide +kernel
theorem dX3_init_135 : decode cX3_init 135 = .ok (.putfield 60, 3) := by decide +kernel
theorem dX3_init_138 : decode cX3_init 138 = .ok (.aload_n 0, 1) := by decide +kernel
theorem dX3_init_139 : decode cX3_init 139 = .ok (.bipush 8, 2) := by decide +kernel
theorem dX3_init_141 : decode cX3_init 141 = .ok (.newarray .int, 2) := by decide +kernel
theorem dX3_init_143 : decode cX3_init 143 = .ok (.putfield 63, 3) := by decide +kernel
theorem dX3_init_146 : decode cX3_init 146 = .ok (.aload_n 0, 1) := by decide +kernel
theorem dX3_init_147 : decode cX3_init 147 = .ok (.bipush 8, 2) := by decide +kernel
theorem dX3_init_149 : decode cX3_init 149 = .ok (.newarray .int, 2) := by decide +kernel
theorem dX3_init_151 : decode cX3_init 151 = .ok (.putfield 66, 3) := by decide +kernel
theorem dX3_init_154 : decode cX3_init 154 = .ok (.aload_n 0, 1) := by decide +kernel
theorem dX3_init_155 : decode cX3_init 155 = .ok (.bipush 8, 2) := by decide +kernel
theorem dX3_init_157 : decode cX3_init 157 = .ok (.newarray .int, 2) := by decide +kernel
theorem dX3_init_159 : decode cX3_init 159 = .ok (.putfield 69, 3) := by decide +kernel
theorem dX3_init_162 : decode cX3_init 162 = .ok (.aload_n 0, 1) := by decide +kernel
theorem dX3_init_163 : decode cX3_init 163 = .ok (.bipush 8, 2) := by decide +kernel
theorem dX3_init_165 : decode cX3_init 165 = .ok (.newarray .int, 2) := by decide +kernel
theorem dX3_init_167 : decode cX3_init 167 = .ok (.putfield 72, 3) := by decide +kernel
theorem dX3_init_170 : decode cX3_init 170 = .ok (.aload_n 0, 1) := by decide +kernel
theorem dX3_init_171 : decode cX3_init 171 = .ok (.bipush 8, 2) := by decide +kernel
theorem dX3_init_173 : decode cX3_init 173 = .ok (.newarray .int, 2) := by decide +kernel
theorem dX3_init_175 : decode cX3_init 175 = .ok (.putfield 75, 3) := by decide +kernel
theorem dX3_init_178 : decode cX3_init 178 = .ok (.aload_n 0, 1) := by decide +kernel
theorem dX3_init_179 : decode cX3_init 179 = .ok (.bipush 8, 2) := by decide +kernel
theorem dX3_init_181 : decode cX3_init 181 = .ok (.newarray .int, 2) := by decide +kernel
theorem dX3_init_183 : decode cX3_init 183 = .ok (.putfield 78, 3) := by decide +kernel
theorem dX3_init_186 : decode cX3_init 186 = .ok (.aload_n 0, 1) := by decide +kernel
theorem dX3_init_187 : decode cX3_init 187 = .ok (.iconst (-1), 1) := by decide +kernel
theorem dX3_init_188 : decode cX3_init 188 = .ok (.putfield 81, 3) := by decide +kernel
theorem dX3_init_191 : decode cX3_init 191 = .ok (.return_, 1) := by decide +kernel
theorem dX3_thrown_0 : decode cX3_thrown 0 = .ok (.aload_n 0, 1) := by decide +kernel
theorem dX3_thrown_1 : decode cX3_thrown 1 = .ok (.getfield 85, 3) := by decide +kernel
theorem dX3_thrown_4 : decode cX3_thrown 4 = .ok (.ireturn, 1) := by decide +kernel
theorem dX3_cell_0 : decode cX3_cell 0 = .ok (.iload 4, 2) := by decide +kernel
theorem dX3_cell_2 : decode cX3_cell 2 = .ok (.iconst 0, 1) := by decide +kernel
theorem dX3_cell_3 : decode cX3_cell 3 = .ok (.iconst 5, 1) := by decide +kernel
theorem dX3_cell_4 : decode cX3_cell 4 = .ok (.invokestatic 88, 3) := by decide +kernel
theorem dX3_cell_7 : decode cX3_cell 7 = .ok (.ifCond .eq 20, 3) := by decide +kernel
theorem dX3_cell_10 : decode cX3_cell 10 = .ok (.iload 4, 2) := by decide +kernel
theorem dX3_cell_12 : decode cX3_cell 12 = .ok (.iconst 1, 1) := by decide +kernel
theorem dX3_cell_13 : decode cX3_cell 13 = .ok (.if_icmp .le 20, 3) := by decide +kernel
theorem dX3_cell_16 : decode cX3_cell 16 = .ok (.iload 5, 2) := by decide +kernel
theorem dX3_cell_18 : decode cX3_cell 18 = .ok (.iconst 0, 1) := by decide +kernel
theorem dX3_cell_19 : decode cX3_cell 19 = .ok (.bipush 23, 2) := by decide +kernel
theorem dX3_cell_21 : decode cX3_cell 21 = .ok (.invokestatic 88, 3) := by decide +kernel
theorem dX3_cell_24 : decode cX3_cell 24 = .ok (.ifCond .ne 9, 3) := by decide +kernel
theorem dX3_cell_27 : decode cX3_cell 27 = .ok (.aload_n 0, 1) := by decide +kernel
theorem dX3_cell_28 : decode cX3_cell 28 = .ok (.iconst 1, 1) := by decide +kernel
theorem dX3_cell_29 : decode cX3_cell 29 = .ok (.invokevirtual 92, 3) := by decide +kernel
theorem dX3_cell_32 : decode cX3_cell 32 = .ok (.ireturn, 1) := by decide +kernel
theorem dX3_cell_33 : decode cX3_cell 33 = .ok (.iload_n 1, 1) := by decide +kernel
theorem dX3_cell_34 : decode cX3_cell 34 = .ok (.iconst 0, 1) := by decide +kernel
theorem dX3_cell_35 : decode cX3_cell 35 = .ok (.iconst 4, 1) := by decide +kernel
theorem dX3_cell_36 : decode cX3_cell 36 = .ok (.invokestatic 88, 3) := by decide +kernel
theorem dX3_cell_39 : decode cX3_cell 39 = .ok (.ifCond .eq 21, 3) := by decide +kernel
theorem dX3_cell_42 : decode cX3_cell 42 = .ok (.iload_n 2, 1) := by decide +kernel
theorem dX3_cell_43 : decode cX3_cell 43 = .ok (.iconst 0, 1) := by decide +kernel
theorem dX3_cell_44 : decode cX3_cell 44 = .ok (.iconst 2, 1) := by decide +kernel
theorem dX3_cell_45 : decode cX3_cell 45 = .ok (.invokestatic 88, 3) := by decide +kernel
theorem dX3_cell_48 : decode cX3_cell 48 = .ok (.ifCond .eq 12, 3) := by decide +kernel
theorem dX3_cell_51 : decode cX3_cell 51 = .ok (.iload_n 3, 1) := by decide +kernel
theorem dX3_cell_52 : decode cX3_cell 52 = .ok (.iconst 0, 1) := by decide +kernel
theorem dX3_cell_53 : decode cX3_cell 53 = .ok (.iconst 3, 1) := by decide +kernel
theorem dX3_cell_54 : decode cX3_cell 54 = .ok (.invokestatic 88, 3) := by decide +kernel
theorem dX3_cell_57 : decode cX3_cell 57 = .ok (.ifCond .ne 9, 3) := by decide +kernel
theorem dX3_cell_60 : decode cX3_cell 60 = .ok (.aload_n 0, 1) := by decide +kernel
theorem dX3_cell_61 : decode cX3_cell 61 = .ok (.iconst 2, 1) := by decide +kernel
theorem dX3_cell_62 : decode cX3_cell 62 = .ok (.invokevirtual 92, 3) := by decide +kernel
theorem dX3_cell_65 : decode cX3_cell 65 = .ok (.ireturn, 1) := by decide +kernel
theorem dX3_cell_66 : decode cX3_cell 66 = .ok (.aload_n 0, 1) := by decide +kernel
theorem dX3_cell_67 : decode cX3_cell 67 = .ok (.iconst 0, 1) := by decide +kernel
theorem dX3_cell_68 : decode cX3_cell 68 = .ok (.putfield 85, 3) := by decide +kernel
theorem dX3_cell_71 : decode cX3_cell 71 = .ok (.iload_n 1, 1) := by decide +kernel
theorem dX3_cell_72 : decode cX3_cell 72 = .ok (.iload_n 2, 1) := by decide +kernel
theorem dX3_cell_73 : decode cX3_cell 73 = .ok (.iload_n 3, 1) := by decide +kernel
theorem dX3_cell_74 : decode cX3_cell 74 = .ok (.invokestatic 96, 3) := by decide +kernel
theorem dX3_cell_77 : decode cX3_cell 77 = .ok (.istore 6, 2) := by decide +kernel
theorem dX3_cell_79 : decode cX3_cell 79 = .ok (.aload_n 0, 1) := by decide +kernel
theorem dX3_cell_80 : decode cX3_cell 80 = .ok (.getfield 47, 3) := by decide +kernel
theorem dX3_cell_83 : decode cX3_cell 83 = .ok (.iload 6, 2) := by decide +kernel
theorem dX3_cell_85 : decode cX3_cell 85 = .ok (.iaload, 1) := by decide +kernel
theorem dX3_cell_86 : decode cX3_cell 86 = .ok (.istore 7, 2) := by decide +kernel
theorem dX3_cell_88 : decode cX3_cell 88 = .ok (.aload_n 0, 1) := by decide +kernel
theorem dX3_cell_89 : decode cX3_cell 89 = .ok (.getfield 47, 3) := by decide +kernel
theorem dX3_cell_92 : decode cX3_cell 92 = .ok (.iload 6, 2) := by decide +kernel
theorem dX3_cell_94 : decode cX3_cell 94 = .ok (.iload 4, 2) := by decide +kernel
theorem dX3_cell_96 : decode cX3_cell 96 = .ok (.iastore, 1) := by decide +kernel
theorem dX3_cell_97 : decode cX3_cell 97 = .ok (.aload_n 0, 1) := by decide +kernel
theorem dX3_cell_98 : decode cX3_cell 98 = .ok (.getfield 51, 3) := by decide +kernel
theorem dX3_cell_101 : decode cX3_cell 101 = .ok (.iload 6, 2) := by decide +kernel
theorem dX3_cell_103 : decode cX3_cell 103 = .ok (.iload 4, 2) := by decide +kernel
theorem dX3_cell_105 : decode cX3_cell 105 = .ok (.iconst 1, 1) := by decide +kernel
theorem dX3_cell_106 : decode cX3_cell 106 = .ok (.if_icmp .le 8, 3) := by decide +kernel
theorem dX3_cell_109 : decode cX3_cell 109 = .ok (.iload 5, 2) := by decide +kernel
theorem dX3_cell_111 : decode cX3_cell 111 = .ok (.goto 4, 3) := by decide +kernel
theorem dX3_cell_114 : decode cX3_cell 114 = .ok (.iconst 0, 1) := by decide +kernel
theorem dX3_cell_115 : decode cX3_cell 115 = .ok (.iastore, 1) := by decide +kernel
theorem dX3_cell_116 : decode cX3_cell 116 = .ok (.aload_n 0, 1) := by decide +kernel
theorem dX3_cell_117 : decode cX3_cell 117 = .ok (.getfield 13, 3) := by decide +kernel
theorem dX3_cell_120 : decode cX3_cell 120 = .ok (.iload 6, 2) := by decide +kernel
theorem dX3_cell_122 : decode cX3_cell 122 = .ok (.iconst 0, 1) := by decide +kernel
theorem dX3_cell_123 : decode cX3_cell 123 = .ok (.bastore, 1) := by decide +kernel
theorem dX3_cell_124 : decode cX3_cell 124 = .ok (.iload 7, 2) := by decide +kernel
theorem dX3_cell_126 : decode cX3_cell 126 = .ok (.ireturn, 1) := by decide +kernel
theorem dX3_in_0 : decode cX3_in 0 = .ok (.iload_n 0, 1) := by decide +kernel
theorem dX3_in_1 : decode cX3_in 1 = .ok (.iload_n 1, 1) := by decide +kernel
theorem dX3_in_2 : decode cX3_in 2 = .ok (.if_icmp .lt 12, 3) := by decide +kernel
theorem dX3_in_5 : decode cX3_in 5 = .ok (.iload_n 0, 1) := by decide +kernel
theorem dX3_in_6 : decode cX3_in 6 = .ok (.iload_n 2, 1) := by decide +kernel
theorem dX3_in_7 : decode cX3_in 7 = .ok (.if_icmp .gt 7, 3) := by decide +kernel
theorem dX3_in_10 : decode cX3_in 10 = .ok (.iconst 1, 1) := by decide +kernel
theorem dX3_in_11 : decode cX3_in 11 = .ok (.goto 4, 3) := by decide +kernel
theorem dX3_in_14 : decode cX3_in 14 = .ok (.iconst 0, 1) := by decide +kernel
theorem dX3_in_15 : decode cX3_in 15 = .ok (.ireturn, 1) := by decide +kernel
theorem dX3_fail_0 : decode cX3_fail 0 = .ok (.aload_n 0, 1) := by decide +kernel
theorem dX3_fail_1 : decode cX3_fail 1 = .ok (.iload_n 1, 1) := by decide +kernel
theorem dX3_fail_2 : decode cX3_fail 2 = .ok (.putfield 85, 3) := by decide +kernel
theorem dX3_fail_5 : decode cX3_fail 5 = .ok (.iconst 0, 1) := by decide +kernel
theorem dX3_fail_6 : decode cX3_fail 6 = .ok (.ireturn, 1) := by decide +kernel
theorem dX3_at_0 : decode cX3_at 0 = .ok (.bipush 12, 2) := by decide +kernel
theorem dX3_at_2 : decode cX3_at 2 = .ok (.iload_n 0, 1) := by decide +kernel
theorem dX3_at_3 : decode cX3_at 3 = .ok (.imul, 1) := by decide +kernel
theorem dX3_at_4 : decode cX3_at 4 = .ok (.iconst 4, 1) := by decide +kernel
theorem dX3_at_5 : decode cX3_at 5 = .ok (.iload_n 1, 1) := by decide +kernel
theorem dX3_at_6 : decode cX3_at 6 = .ok (.imul, 1) := by decide +kernel
theorem dX3_at_7 : decode cX3_at 7 = .ok (.iadd, 1) := by decide +kernel
theorem dX3_at_8 : decode cX3_at 8 = .ok (.iload_n 2, 1) := by decide +kernel
theorem dX3_at_9 : decode cX3_at 9 = .ok (.iadd, 1) := by decide +kernel
theorem dX3_at_10 : decode cX3_at 10 = .ok (.ireturn, 1) := by decide +kernel
theorem dX3_link_0 : decode cX3_link 0 = .ok (.aload_n 0, 1) := by decide +kernel
theorem dX3_link_1 : decode cX3_link 1 = .ok (.iload_n 1, 1) := by decide +kernel
theorem dX3_link_2 : decode cX3_link 2 = .ok (.iconst 0, 1) := by decide +kernel
theorem dX3_link_3 : decode cX3_link 3 = .ok (.iconst 4, 1) := by decide +kernel
theorem dX3_link_4 : decode cX3_link 4 = .ok (.invokestatic 88, 3) := by decide +kernel
theorem dX3_link_7 : decode cX3_link 7 = .ok (.ifCond .eq 25, 3) := by decide +kernel
theorem dX3_link_10 : decode cX3_link 10 = .ok (.iload_n 2, 1) := by decide +kernel
theorem dX3_link_11 : decode cX3_link 11 = .ok (.iconst 0, 1) := by decide +kernel
theorem dX3_link_12 : decode cX3_link 12 = .ok (.iconst 1, 1) := by decide +kernel
theorem dX3_link_13 : decode cX3_link 13 = .ok (.invokestatic 88, 3) := by decide +kernel
theorem dX3_link_16 : decode cX3_link 16 = .ok (.ifCond .eq 16, 3) := by decide +kernel
theorem dX3_link_19 : decode cX3_link 19 = .ok (.iload_n 3, 1) := by decide +kernel
theorem dX3_link_20 : decode cX3_link 20 = .ok (.iconst 0, 1) := by decide +kernel
theorem dX3_link_21 : decode cX3_link 21 = .ok (.iconst 3, 1) := by decide +kernel
theorem dX3_link_22 : decode cX3_link 22 = .ok (.invokestatic 88, 3) := by decide +kernel
theorem dX3_link_25 : decode cX3_link 25 = .ok (.ifCond .eq 7, 3) := by decide +kernel
theorem dX3_link_28 : decode cX3_link 28 = .ok (.iconst 0, 1) := by decide +kernel
theorem dX3_link_29 : decode cX3_link 29 = .ok (.goto 4, 3) := by decide +kernel
theorem dX3_link_32 : decode cX3_link 32 = .ok (.iconst 1, 1) := by decide +kernel
theorem dX3_link_33 : decode cX3_link 33 = .ok (.putfield 85, 3) := by decide +kernel
theorem dX3_link_36 : decode cX3_link 36 = .ok (.aload_n 0, 1) := by decide +kernel
theorem dX3_link_37 : decode cX3_link 37 = .ok (.getfield 85, 3) := by decide +kernel
theorem dX3_link_40 : decode cX3_link 40 = .ok (.ifCond .le 5, 3) := by decide +kernel
theorem dX3_link_43 : decode cX3_link 43 = .ok (.iconst 0, 1) := by decide +kernel
theorem dX3_link_44 : decode cX3_link 44 = .ok (.ireturn, 1) := by decide +kernel
theorem dX3_link_45 : decode cX3_link 45 = .ok (.bipush 8, 2) := by decide +kernel
theorem dX3_link_47 : decode cX3_link 47 = .ok (.iload_n 1, 1) := by decide +kernel
theorem dX3_link_48 : decode cX3_link 48 = .ok (.imul, 1) := by decide +kernel
theorem dX3_link_49 : decode cX3_link 49 = .ok (.iconst 4, 1) := by decide +kernel
theorem dX3_link_50 : decode cX3_link 50 = .ok (.iload_n 2, 1) := by decide +kernel
theorem dX3_link_51 : decode cX3_link 51 = .ok (.imul, 1) := by decide +kernel
theorem dX3_link_52 : decode cX3_link 52 = .ok (.iadd, 1) := by decide +kernel
theorem dX3_link_53 : decode cX3_link 53 = .ok (.iload_n 3, 1) := by decide +kernel
theorem dX3_link_54 : decode cX3_link 54 = .ok (.iadd, 1) := by decide +kernel
theorem dX3_link_55 : decode cX3_link 55 = .ok (.istore 5, 2) := by decide +kernel
theorem dX3_link_57 : decode cX3_link 57 = .ok (.aload_n 0, 1) := by decide +kernel
theorem dX3_link_58 : decode cX3_link 58 = .ok (.getfield 16, 3) := by decide +kernel
theorem dX3_link_61 : decode cX3_link 61 = .ok (.iload 5, 2) := by decide +kernel
theorem dX3_link_63 : decode cX3_link 63 = .ok (.baload, 1) := by decide +kernel
theorem dX3_link_64 : decode cX3_link 64 = .ok (.istore 6, 2) := by decide +kernel
theorem dX3_link_66 : decode cX3_link 66 = .ok (.aload_n 0, 1) := by decide +kernel
theorem dX3_link_67 : decode cX3_link 67 = .ok (.getfield 16, 3) := by decide +kernel
theorem dX3_link_70 : decode cX3_link 70 = .ok (.iload 5, 2) := by decide +kernel
theorem dX3_link_72 : decode cX3_link 72 = .ok (.iload 4, 2) := by decide +kernel
theorem dX3_link_74 : decode cX3_link 74 = .ok (.bastore, 1) := by decide +kernel
theorem dX3_link_75 : decode cX3_link 75 = .ok (.iload 6, 2) := by decide +kernel
theorem dX3_link_77 : decode cX3_link 77 = .ok (.ireturn, 1) := by decide +kernel
theorem dX3_coil_0 : decode cX3_coil 0 = .ok (.iload_n 3, 1) := by decide +kernel
theorem dX3_coil_1 : decode cX3_coil 1 = .ok (.iconst 0, 1) := by decide +kernel
theorem dX3_coil_2 : decode cX3_coil 2 = .ok (.iconst 4, 1) := by decide +kernel
theorem dX3_coil_3 : decode cX3_coil 3 = .ok (.invokestatic 88, 3) := by decide +kernel
theorem dX3_coil_6 : decode cX3_coil 6 = .ok (.ifCond .eq 40, 3) := by decide +kernel
theorem dX3_coil_9 : decode cX3_coil 9 = .ok (.iload_n 3, 1) := by decide +kernel
theorem dX3_coil_10 : decode cX3_coil 10 = .ok (.iconst 4, 1) := by decide +kernel
theorem dX3_coil_11 : decode cX3_coil 11 = .ok (.if_icmp .ne 14, 3) := by decide +kernel
theorem dX3_coil_14 : decode cX3_coil 14 = .ok (.iload 4, 2) := by decide +kernel
theorem dX3_coil_16 : decode cX3_coil 16 = .ok (.iconst 0, 1) := by decide +kernel
theorem dX3_coil_17 : decode cX3_coil 17 = .ok (.bipush 7, 2) := by decide +kernel
theorem dX3_coil_19 : decode cX3_coil 19 = .ok (.invokestatic 88, 3) := by decide +kernel
theorem dX3_coil_22 : decode cX3_coil 22 = .ok (.ifCond .eq 24, 3) := by decide +kernel
theorem dX3_coil_25 : decode cX3_coil 25 = .ok (.iload_n 3, 1) := by decide +kernel
theorem dX3_coil_26 : decode cX3_coil 26 = .ok (.iconst 1, 1) := by decide +kernel
theorem dX3_coil_27 : decode cX3_coil 27 = .ok (.iconst 3, 1) := by decide +kernel
theorem dX3_coil_28 : decode cX3_coil 28 = .ok (.invokestatic 88, 3) := by decide +kernel
theorem dX3_coil_31 : decode cX3_coil 31 = .ok (.ifCond .eq 21, 3) := by decide +kernel
theorem dX3_coil_34 : decode cX3_coil 34 = .ok (.iload 4, 2) := by decide +kernel
theorem dX3_coil_36 : decode cX3_coil 36 = .ok (.bipush 8, 2) := by decide +kernel
theorem dX3_coil_38 : decode cX3_coil 38 = .ok (.bipush 23, 2) := by decide +kernel
theorem dX3_coil_40 : decode cX3_coil 40 = .ok (.invokestatic 88, 3) := by decide +kernel
theorem dX3_coil_43 : decode cX3_coil 43 = .ok (.ifCond .ne 9, 3) := by decide +kernel
theorem dX3_coil_46 : decode cX3_coil 46 = .ok (.aload_n 0, 1) := by decide +kernel
theorem dX3_coil_47 : decode cX3_coil 47 = .ok (.iconst 1, 1) := by decide +kernel
theorem dX3_coil_48 : decode cX3_coil 48 = .ok (.invokevirtual 92, 3) := by decide +kernel
theorem dX3_coil_51 : decode cX3_coil 51 = .ok (.ireturn, 1) := by decide +kernel
theorem dX3_coil_52 : decode cX3_coil 52 = .ok (.iload_n 1, 1) := by decide +kernel
theorem dX3_coil_53 : decode cX3_coil 53 = .ok (.iconst 0, 1) := by decide +kernel
theorem dX3_coil_54 : decode cX3_coil 54 = .ok (.iconst 4, 1) := by decide +kernel
theorem dX3_coil_55 : decode cX3_coil 55 = .ok (.invokestatic 88, 3) := by decide +kernel
theorem dX3_coil_58 : decode cX3_coil 58 = .ok (.ifCond .eq 12, 3) := by decide +kernel
theorem dX3_coil_61 : decode cX3_coil 61 = .ok (.iload_n 2, 1) := by decide +kernel
theorem dX3_coil_62 : decode cX3_coil 62 = .ok (.iconst 0, 1) := by decide +kernel
theorem dX3_coil_63 : decode cX3_coil 63 = .ok (.iconst 2, 1) := by decide +kernel
theorem dX3_coil_64 : decode cX3_coil 64 = .ok (.invokestatic 88, 3) := by decide +kernel
theorem dX3_coil_67 : decode cX3_coil 67 = .ok (.ifCond .ne 9, 3) := by decide +kernel
theorem dX3_coil_70 : decode cX3_coil 70 = .ok (.aload_n 0, 1) := by decide +kernel
theorem dX3_coil_71 : decode cX3_coil 71 = .ok (.iconst 2, 1) := by decide +kernel
theorem dX3_coil_72 : decode cX3_coil 72 = .ok (.invokevirtual 92, 3) := by decide +kernel
theorem dX3_coil_75 : decode cX3_coil 75 = .ok (.ireturn, 1) := by decide +kernel
theorem dX3_coil_76 : decode cX3_coil 76 = .ok (.aload_n 0, 1) := by decide +kernel
theorem dX3_coil_77 : decode cX3_coil 77 = .ok (.iconst 0, 1) := by decide +kernel
theorem dX3_coil_78 : decode cX3_coil 78 = .ok (.putfield 85, 3) := by decide +kernel
theorem dX3_coil_81 : decode cX3_coil 81 = .ok (.aload_n 0, 1) := by decide +kernel
theorem dX3_coil_82 : decode cX3_coil 82 = .ok (.getfield 54, 3) := by decide +kernel
theorem dX3_coil_85 : decode cX3_coil 85 = .ok (.iconst 3, 1) := by decide +kernel
theorem dX3_coil_86 : decode cX3_coil 86 = .ok (.iload_n 1, 1) := by decide +kernel
theorem dX3_coil_87 : decode cX3_coil 87 = .ok (.imul, 1) := by decide +kernel
theorem dX3_coil_88 : decode cX3_coil 88 = .ok (.iload_n 2, 1) := by decide +kernel
theorem dX3_coil_89 : decode cX3_coil 89 = .ok (.iadd, 1) := by decide +kernel
theorem dX3_coil_90 : decode cX3_coil 90 = .ok (.iaload, 1) := by decide +kernel
theorem dX3_coil_91 : decode cX3_coil 91 = .ok (.istore 5, 2) := by decide +kernel
theorem dX3_coil_93 : decode cX3_coil 93 = .ok (.aload_n 0, 1) := by decide +kernel
theorem dX3_coil_94 : decode cX3_coil 94 = .ok (.getfield 54, 3) := by decide +kernel
theorem dX3_coil_97 : decode cX3_coil 97 = .ok (.iconst 3, 1) := by decide +kernel
theorem dX3_coil_98 : decode cX3_coil 98 = .ok (.iload_n 1, 1) := by decide +kernel
theorem dX3_coil_99 : decode cX3_coil 99 = .ok (.imul, 1) := by decide +kernel
theorem dX3_coil_100 : decode cX3_coil 100 = .ok (.iload_n 2, 1) := by decide +kernel
theorem dX3_coil_101 : decode cX3_coil 101 = .ok (.iadd, 1) := by decide +kernel
theorem dX3_coil_102 : decode cX3_coil 102 = .ok (.iload_n 3, 1) := by decide +kernel
theorem dX3_coil_103 : decode cX3_coil 103 = .ok (.iastore, 1) := by decide +kernel
theorem dX3_coil_104 : decode cX3_coil 104 = .ok (.aload_n 0, 1) := by decide +kernel
theorem dX3_coil_105 : decode cX3_coil 105 = .ok (.getfield 57, 3) := by decide +kernel
theorem dX3_coil_108 : decode cX3_coil 108 = .ok (.iconst 3, 1) := by decide +kernel
theorem dX3_coil_109 : decode cX3_coil 109 = .ok (.iload_n 1, 1) := by decide +kernel
theorem dX3_coil_110 : decode cX3_coil 110 = .ok (.imul, 1) := by decide +kernel
theorem dX3_coil_111 : decode cX3_coil 111 = .ok (.iload_n 2, 1) := by decide +kernel
theorem dX3_coil_112 : decode cX3_coil 112 = .ok (.iadd, 1) := by decide +kernel
theorem dX3_coil_113 : decode cX3_coil 113 = .ok (.iload 4, 2) := by decide +kernel
theorem dX3_coil_115 : decode cX3_coil 115 = .ok (.iastore, 1) := by decide +kernel
theorem dX3_coil_116 : decode cX3_coil 116 = .ok (.iload 5, 2) := by decide +kernel
theorem dX3_coil_118 : decode cX3_coil 118 = .ok (.ireturn, 1) := by decide +kernel
theorem dX3_block_0 : decode cX3_block 0 = .ok (.iload_n 2, 1) := by decide +kernel
theorem dX3_block_1 : decode cX3_block 1 = .ok (.iload_n 3, 1) := by decide +kernel
theorem dX3_block_2 : decode cX3_block 2 = .ok (.iload 4, 2) := by decide +kernel
theorem dX3_block_4 : decode cX3_block 4 = .ok (.iload 5, 2) := by decide +kernel
theorem dX3_block_6 : decode cX3_block 6 = .ok (.dload 6, 2) := by decide +kernel
theorem dX3_block_8 : decode cX3_block 8 = .ok (.invokestatic 108, 3) := by decide +kernel
theorem dX3_block_11 : decode cX3_block 11 = .ok (.istore 8, 2) := by decide +kernel
theorem dX3_block_13 : decode cX3_block 13 = .ok (.iload 8, 2) := by decide +kernel
theorem dX3_block_15 : decode cX3_block 15 = .ok (.ifCond .ne 9, 3) := by decide +kernel
theorem dX3_block_18 : decode cX3_block 18 = .ok (.aload_n 0, 1) := by decide +kernel
theorem dX3_block_19 : decode cX3_block 19 = .ok (.iconst 1, 1) := by decide +kernel
theorem dX3_block_20 : decode cX3_block 20 = .ok (.invokevirtual 92, 3) := by decide +kernel
theorem dX3_block_23 : decode cX3_block 23 = .ok (.ireturn, 1) := by decide +kernel
theorem dX3_block_24 : decode cX3_block 24 = .ok (.iload_n 1, 1) := by decide +kernel
theorem dX3_block_25 : decode cX3_block 25 = .ok (.iconst 0, 1) := by decide +kernel
theorem dX3_block_26 : decode cX3_block 26 = .ok (.bipush 7, 2) := by decide +kernel
theorem dX3_block_28 : decode cX3_block 28 = .ok (.invokestatic 88, 3) := by decide +kernel
theorem dX3_block_31 : decode cX3_block 31 = .ok (.ifCond .ne 9, 3) := by decide +kernel
theorem dX3_block_34 : decode cX3_block 34 = .ok (.aload_n 0, 1) := by decide +kernel
theorem dX3_block_35 : decode cX3_block 35 = .ok (.iconst 2, 1) := by decide +kernel
theorem dX3_block_36 : decode cX3_block 36 = .ok (.invokevirtual 92, 3) := by decide +kernel
theorem dX3_block_39 : decode cX3_block 39 = .ok (.ireturn, 1) := by decide +kernel
theorem dX3_block_40 : decode cX3_block 40 = .ok (.aload_n 0, 1) := by decide +kernel
theorem dX3_block_41 : decode cX3_block 41 = .ok (.iconst 0, 1) := by decide +kernel
theorem dX3_block_42 : decode cX3_block 42 = .ok (.putfield 85, 3) := by decide +kernel
theorem dX3_block_45 : decode cX3_block 45 = .ok (.aload_n 0, 1) := by decide +kernel
theorem dX3_block_46 : decode cX3_block 46 = .ok (.getfield 60, 3) := by decide +kernel
theorem dX3_block_49 : decode cX3_block 49 = .ok (.iload_n 1, 1) := by decide +kernel
theorem dX3_block_50 : decode cX3_block 50 = .ok (.iaload, 1) := by decide +kernel
theorem dX3_block_51 : decode cX3_block 51 = .ok (.istore 9, 2) := by decide +kernel
theorem dX3_block_53 : decode cX3_block 53 = .ok (.aload_n 0, 1) := by decide +kernel
theorem dX3_block_54 : decode cX3_block 54 = .ok (.getfield 60, 3) := by decide +kernel
theorem dX3_block_57 : decode cX3_block 57 = .ok (.iload_n 1, 1) := by decide +kernel
theorem dX3_block_58 : decode cX3_block 58 = .ok (.iload_n 2, 1) := by decide +kernel
theorem dX3_block_59 : decode cX3_block 59 = .ok (.iastore, 1) := by decide +kernel
theorem dX3_block_60 : decode cX3_block 60 = .ok (.aload_n 0, 1) := by decide +kernel
theorem dX3_block_61 : decode cX3_block 61 = .ok (.getfield 63, 3) := by decide +kernel
theorem dX3_block_64 : decode cX3_block 64 = .ok (.iload_n 1, 1) := by decide +kernel
theorem dX3_block_65 : decode cX3_block 65 = .ok (.iload_n 3, 1) := by decide +kernel
theorem dX3_block_66 : decode cX3_block 66 = .ok (.iastore, 1) := by decide +kernel
theorem dX3_block_67 : decode cX3_block 67 = .ok (.aload_n 0, 1) := by decide +kernel
theorem dX3_block_68 : decode cX3_block 68 = .ok (.getfield 66, 3) := by decide +kernel
theorem dX3_block_71 : decode cX3_block 71 = .ok (.iload_n 1, 1) := by decide +kernel
theorem dX3_block_72 : decode cX3_block 72 = .ok (.iload 4, 2) := by decide +kernel
theorem dX3_block_74 : decode cX3_block 74 = .ok (.iastore, 1) := by decide +kernel
theorem dX3_block_75 : decode cX3_block 75 = .ok (.aload_n 0, 1) := by decide +kernel
theorem dX3_block_76 : decode cX3_block 76 = .ok (.getfield 69, 3) := by decide +kernel
theorem dX3_block_79 : decode cX3_block 79 = .ok (.iload_n 1, 1) := by decide +kernel
theorem dX3_block_80 : decode cX3_block 80 = .ok (.iload 5, 2) := by decide +kernel
theorem dX3_block_82 : decode cX3_block 82 = .ok (.iastore, 1) := by decide +kernel
theorem dX3_block_83 : decode cX3_block 83 = .ok (.aload_n 0, 1) := by decide +kernel
theorem dX3_block_84 : decode cX3_block 84 = .ok (.getfield 38, 3) := by decide +kernel
theorem dX3_block_87 : decode cX3_block 87 = .ok (.iload_n 1, 1) := by decide +kernel
theorem dX3_block_88 : decode cX3_block 88 = .ok (.dload 6, 2) := by decide +kernel
theorem dX3_block_90 : decode cX3_block 90 = .ok (.dastore, 1) := by decide +kernel
theorem dX3_block_91 : decode cX3_block 91 = .ok (.aload_n 0, 1) := by decide +kernel
theorem dX3_block_92 : decode cX3_block 92 = .ok (.getfield 72, 3) := by decide +kernel
theorem dX3_block_95 : decode cX3_block 95 = .ok (.iload_n 1, 1) := by decide +kernel
theorem dX3_block_96 : decode cX3_block 96 = .ok (.iconst 0, 1) := by decide +kernel
theorem dX3_block_97 : decode cX3_block 97 = .ok (.iastore, 1) := by decide +kernel
theorem dX3_block_98 : decode cX3_block 98 = .ok (.aload_n 0, 1) := by decide +kernel
theorem dX3_block_99 : decode cX3_block 99 = .ok (.getfield 75, 3) := by decide +kernel
theorem dX3_block_102 : decode cX3_block 102 = .ok (.iload_n 1, 1) := by decide +kernel
theorem dX3_block_103 : decode cX3_block 103 = .ok (.iconst 0, 1) := by decide +kernel
theorem dX3_block_104 : decode cX3_block 104 = .ok (.iastore, 1) := by decide +kernel
theorem dX3_block_105 : decode cX3_block 105 = .ok (.aload_n 0, 1) := by decide +kernel
theorem dX3_block_106 : decode cX3_block 106 = .ok (.getfield 78, 3) := by decide +kernel
theorem dX3_block_109 : decode cX3_block 109 = .ok (.iload_n 1, 1) := by decide +kernel
theorem dX3_block_110 : decode cX3_block 110 = .ok (.iconst 0, 1) := by decide +kernel
theorem dX3_block_111 : decode cX3_block 111 = .ok (.iastore, 1) := by decide +kernel
theorem dX3_block_112 : decode cX3_block 112 = .ok (.aload_n 0, 1) := by decide +kernel
theorem dX3_block_113 : decode cX3_block 113 = .ok (.getfield 28, 3) := by decide +kernel
theorem dX3_block_116 : decode cX3_block 116 = .ok (.iload_n 1, 1) := by decide +kernel
theorem dX3_block_117 : decode cX3_block 117 = .ok (.iconst 0, 1) := by decide +kernel
theorem dX3_block_118 : decode cX3_block 118 = .ok (.bastore, 1) := by decide +kernel
theorem dX3_block_119 : decode cX3_block 119 = .ok (.aload_n 0, 1) := by decide +kernel
theorem dX3_block_120 : decode cX3_block 120 = .ok (.getfield 41, 3) := by decide +kernel
theorem dX3_block_123 : decode cX3_block 123 = .ok (.iload_n 1, 1) := by decide +kernel
theorem dX3_block_124 : decode cX3_block 124 = .ok (.dconst 0, 1) := by decide +kernel
theorem dX3_block_125 : decode cX3_block 125 = .ok (.dastore, 1) := by decide +kernel
theorem dX3_block_126 : decode cX3_block 126 = .ok (.aload_n 0, 1) := by decide +kernel
theorem dX3_block_127 : decode cX3_block 127 = .ok (.getfield 44, 3) := by decide +kernel
theorem dX3_block_130 : decode cX3_block 130 = .ok (.iload_n 1, 1) := by decide +kernel
theorem dX3_block_131 : decode cX3_block 131 = .ok (.dconst 0, 1) := by decide +kernel
theorem dX3_block_132 : decode cX3_block 132 = .ok (.dastore, 1) := by decide +kernel
theorem dX3_block_133 : decode cX3_block 133 = .ok (.iload 9, 2) := by decide +kernel
theorem dX3_block_135 : decode cX3_block 135 = .ok (.ireturn, 1) := by decide +kernel
theorem dX3_fits_0 : decode cX3_fits 0 = .ok (.iload_n 0, 1) := by decide +kernel
theorem dX3_fits_1 : decode cX3_fits 1 = .ok (.iconst 0, 1) := by decide +kernel
theorem dX3_fits_2 : decode cX3_fits 2 = .ok (.bipush 9, 2) := by decide +kernel
theorem dX3_fits_4 : decode cX3_fits 4 = .ok (.invokestatic 88, 3) := by decide +kernel
theorem dX3_fits_7 : decode cX3_fits 7 = .ok (.ifCond .ne 5, 3) := by decide +kernel
theorem dX3_fits_10 : decode cX3_fits 10 = .ok (.iconst 0, 1) := by decide +kernel
theorem dX3_fits_11 : decode cX3_fits 11 = .ok (.ireturn, 1) := by decide +kernel
theorem dX3_fits_12 : decode cX3_fits 12 = .ok (.iload_n 0, 1) := by decide +kernel
theorem dX3_fits_13 : decode cX3_fits 13 = .ok (.ifCond .ne 5, 3) := by decide +kernel
theorem dX3_fits_16 : decode cX3_fits 16 = .ok (.iconst 1, 1) := by decide +kernel
theorem dX3_fits_17 : decode cX3_fits 17 = .ok (.ireturn, 1) := by decide +kernel
theorem dX3_fits_18 : decode cX3_fits 18 = .ok (.iload_n 0, 1) := by decide +kernel
theorem dX3_fits_19 : decode cX3_fits 19 = .ok (.iconst 3, 1) := by decide +kernel
theorem dX3_fits_20 : decode cX3_fits 20 = .ok (.if_icmp .ge 46, 3) := by decide +kernel
theorem dX3_fits_23 : decode cX3_fits 23 = .ok (.iload_n 3, 1) := by decide +kernel
theorem dX3_fits_24 : decode cX3_fits 24 = .ok (.bipush 8, 2) := by decide +kernel
theorem dX3_fits_26 : decode cX3_fits 26 = .ok (.bipush 21, 2) := by decide +kernel
theorem dX3_fits_28 : decode cX3_fits 28 = .ok (.invokestatic 88, 3) := by decide +kernel
theorem dX3_fits_31 : decode cX3_fits 31 = .ok (.ifCond .eq 33, 3) := by decide +kernel
theorem dX3_fits_34 : decode cX3_fits 34 = .ok (.dload 4, 2) := by decide +kernel
theorem dX3_fits_36 : decode cX3_fits 36 = .ok (.dconst 1, 1) := by decide +kernel
theorem dX3_fits_37 : decode cX3_fits 37 = .ok (.dcmp .l, 1) := by decide +kernel
theorem dX3_fits_38 : decode cX3_fits 38 = .ok (.ifCond .lt 26, 3) := by decide +kernel
theorem dX3_fits_41 : decode cX3_fits 41 = .ok (.dload 4, 2) := by decide +kernel
theorem dX3_fits_43 : decode cX3_fits 43 = .ok (.ldc2_w 100, 3) := by decide +kernel
theorem dX3_fits_46 : decode cX3_fits 46 = .ok (.dcmp .g, 1) := by decide +kernel
theorem dX3_fits_47 : decode cX3_fits 47 = .ok (.ifCond .gt 17, 3) := by decide +kernel
theorem dX3_fits_50 : decode cX3_fits 50 = .ok (.dload 4, 2) := by decide +kernel
theorem dX3_fits_52 : decode cX3_fits 52 = .ok (.dload 4, 2) := by decide +kernel
theorem dX3_fits_54 : decode cX3_fits 54 = .ok (.d2i, 1) := by decide +kernel
theorem dX3_fits_55 : decode cX3_fits 55 = .ok (.i2d, 1) := by decide +kernel
theorem dX3_fits_56 : decode cX3_fits 56 = .ok (.dcmp .l, 1) := by decide +kernel
theorem dX3_fits_57 : decode cX3_fits 57 = .ok (.ifCond .ne 7, 3) := by decide +kernel
theorem dX3_fits_60 : decode cX3_fits 60 = .ok (.iconst 1, 1) := by decide +kernel
theorem dX3_fits_61 : decode cX3_fits 61 = .ok (.goto 4, 3) := by decide +kernel
theorem dX3_fits_64 : decode cX3_fits 64 = .ok (.iconst 0, 1) := by decide +kernel
theorem dX3_fits_65 : decode cX3_fits 65 = .ok (.ireturn, 1) := by decide +kernel
theorem dX3_fits_66 : decode cX3_fits 66 = .ok (.iload_n 1, 1) := by decide +kernel
theorem dX3_fits_67 : decode cX3_fits 67 = .ok (.invokestatic 102, 3) := by decide +kernel
theorem dX3_fits_70 : decode cX3_fits 70 = .ok (.ifCond .eq 10, 3) := by decide +kernel
theorem dX3_fits_73 : decode cX3_fits 73 = .ok (.iload_n 2, 1) := by decide +kernel
theorem dX3_fits_74 : decode cX3_fits 74 = .ok (.invokestatic 102, 3) := by decide +kernel
theorem dX3_fits_77 : decode cX3_fits 77 = .ok (.ifCond .ne 5, 3) := by decide +kernel
theorem dX3_fits_80 : decode cX3_fits 80 = .ok (.iconst 0, 1) := by decide +kernel
theorem dX3_fits_81 : decode cX3_fits 81 = .ok (.ireturn, 1) := by decide +kernel
theorem dX3_fits_82 : decode cX3_fits 82 = .ok (.iload_n 0, 1) := by decide +kernel
theorem dX3_fits_83 : decode cX3_fits 83 = .ok (.iconst 3, 1) := by decide +kernel
theorem dX3_fits_84 : decode cX3_fits 84 = .ok (.if_icmp .ne 12, 3) := by decide +kernel
theorem dX3_fits_87 : decode cX3_fits 87 = .ok (.iload_n 3, 1) := by decide +kernel
theorem dX3_fits_88 : decode cX3_fits 88 = .ok (.bipush 8, 2) := by decide +kernel
theorem dX3_fits_90 : decode cX3_fits 90 = .ok (.bipush 21, 2) := by decide +kernel
theorem dX3_fits_92 : decode cX3_fits 92 = .ok (.invokestatic 88, 3) := by decide +kernel
theorem dX3_fits_95 : decode cX3_fits 95 = .ok (.ireturn, 1) := by decide +kernel
theorem dX3_fits_96 : decode cX3_fits 96 = .ok (.iload_n 3, 1) := by decide +kernel
theorem dX3_fits_97 : decode cX3_fits 97 = .ok (.invokestatic 102, 3) := by decide +kernel
