/-! decode rows -/
theorem dX3_perform_109 : decode cX3_perform 109 = .ok (.aload_n 0, 1) := by decide +kernel
theorem dX3_perform_110 : decode cX3_perform 110 = .ok (.iload_n 1, 1) := by decide +kernel
theorem dX3_perform_111 : decode cX3_perform 111 = .ok (.invokevirtual 124, 3) := by decide +kernel
theorem dX3_perform_114 : decode cX3_perform 114 = .ok (.istore 4, 2) := by decide +kernel
theorem dX3_perform_116 : decode cX3_perform 116 = .ok (.iload 4, 2) := by decide +kernel
theorem dX3_perform_118 : decode cX3_perform 118 = .ok (.ifCond .ne 5, 3) := by decide +kernel
theorem dX3_perform_121 : decode cX3_perform 121 = .ok (.iconst 0, 1) := by decide +kernel
theorem dX3_perform_122 : decode cX3_perform 122 = .ok (.ireturn, 1) := by decide +kernel
theorem dX3_perform_123 : decode cX3_perform 123 = .ok (.aload_n 0, 1) := by decide +kernel
theorem dX3_perform_124 : decode cX3_perform 124 = .ok (.getfield 78, 3) := by decide +kernel
theorem dX3_perform_127 : decode cX3_perform 127 = .ok (.iload_n 1, 1) := by decide +kernel
theorem dX3_perform_128 : decode cX3_perform 128 = .ok (.dup2, 1) := by decide +kernel
theorem dX3_perform_129 : decode cX3_perform 129 = .ok (.iaload, 1) := by decide +kernel
theorem dX3_perform_130 : decode cX3_perform 130 = .ok (.iconst 1, 1) := by decide +kernel
theorem dX3_perform_131 : decode cX3_perform 131 = .ok (.iadd, 1) := by decide +kernel
theorem dX3_perform_132 : decode cX3_perform 132 = .ok (.iastore, 1) := by decide +kernel
theorem dX3_perform_133 : decode cX3_perform 133 = .ok (.aload_n 0, 1) := by decide +kernel
theorem dX3_perform_134 : decode cX3_perform 134 = .ok (.dup, 1) := by decide +kernel
theorem dX3_perform_135 : decode cX3_perform 135 = .ok (.getfield 127, 3) := by decide +kernel
theorem dX3_perform_138 : decode cX3_perform 138 = .ok (.iconst 1, 1) := by decide +kernel
theorem dX3_perform_139 : decode cX3_perform 139 = .ok (.iadd, 1) := by decide +kernel
theorem dX3_perform_140 : decode cX3_perform 140 = .ok (.putfield 127, 3) := by decide +kernel
theorem dX3_perform_143 : decode cX3_perform 143 = .ok (.aload_n 0, 1) := by decide +kernel
theorem dX3_perform_144 : decode cX3_perform 144 = .ok (.getfield 25, 3) := by decide +kernel
theorem dX3_perform_147 : decode cX3_perform 147 = .ok (.iload_n 1, 1) := by decide +kernel
theorem dX3_perform_148 : decode cX3_perform 148 = .ok (.baload, 1) := by decide +kernel
theorem dX3_perform_149 : decode cX3_perform 149 = .ok (.ifCond .eq 13, 3) := by decide +kernel
theorem dX3_perform_152 : decode cX3_perform 152 = .ok (.aload_n 0, 1) := by decide +kernel
theorem dX3_perform_153 : decode cX3_perform 153 = .ok (.getfield 7, 3) := by decide +kernel
theorem dX3_perform_156 : decode cX3_perform 156 = .ok (.bipush 23, 2) := by decide +kernel
theorem dX3_perform_158 : decode cX3_perform 158 = .ok (.iconst 1, 1) := by decide +kernel
theorem dX3_perform_159 : decode cX3_perform 159 = .ok (.bastore, 1) := by decide +kernel
theorem dX3_perform_160 : decode cX3_perform 160 = .ok (.iconst 0, 1) := by decide +kernel
theorem dX3_perform_161 : decode cX3_perform 161 = .ok (.ireturn, 1) := by decide +kernel
theorem dX3_perform_162 : decode cX3_perform 162 = .ok (.bipush 8, 2) := by decide +kernel
theorem dX3_perform_164 : decode cX3_perform 164 = .ok (.istore 5, 2) := by decide +kernel
theorem dX3_perform_166 : decode cX3_perform 166 = .ok (.iload 5, 2) := by decide +kernel
theorem dX3_perform_168 : decode cX3_perform 168 = .ok (.bipush 16, 2) := by decide +kernel
theorem dX3_perform_170 : decode cX3_perform 170 = .ok (.if_icmp .ge 17, 3) := by decide +kernel
theorem dX3_perform_173 : decode cX3_perform 173 = .ok (.aload_n 0, 1) := by decide +kernel
theorem dX3_perform_174 : decode cX3_perform 174 = .ok (.getfield 7, 3) := by decide +kernel
theorem dX3_perform_177 : decode cX3_perform 177 = .ok (.iload 5, 2) := by decide +kernel
theorem dX3_perform_179 : decode cX3_perform 179 = .ok (.iconst 0, 1) := by decide +kernel
theorem dX3_perform_180 : decode cX3_perform 180 = .ok (.bastore, 1) := by decide +kernel
theorem dX3_perform_181 : decode cX3_perform 181 = .ok (.iinc 5 1, 3) := by decide +kernel
theorem dX3_perform_184 : decode cX3_perform 184 = .ok (.goto (-18), 3) := by decide +kernel
theorem dX3_perform_187 : decode cX3_perform 187 = .ok (.aload_n 0, 1) := by decide +kernel
theorem dX3_perform_188 : decode cX3_perform 188 = .ok (.iconst 1, 1) := by decide +kernel
theorem dX3_perform_189 : decode cX3_perform 189 = .ok (.putfield 130, 3) := by decide +kernel
theorem dX3_perform_192 : decode cX3_perform 192 = .ok (.aload_n 0, 1) := by decide +kernel
theorem dX3_perform_193 : decode cX3_perform 193 = .ok (.iload_n 1, 1) := by decide +kernel
theorem dX3_perform_194 : decode cX3_perform 194 = .ok (.putfield 81, 3) := by decide +kernel
theorem dX3_perform_197 : decode cX3_perform 197 = .ok (.iconst 1, 1) := by decide +kernel
theorem dX3_perform_198 : decode cX3_perform 198 = .ok (.ireturn, 1) := by decide +kernel
theorem dX3_tally_0 : decode cX3_tally 0 = .ok (.aload_n 0, 1) := by decide +kernel
theorem dX3_tally_1 : decode cX3_tally 1 = .ok (.getfield 60, 3) := by decide +kernel
theorem dX3_tally_4 : decode cX3_tally 4 = .ok (.iload_n 1, 1) := by decide +kernel
theorem dX3_tally_5 : decode cX3_tally 5 = .ok (.iaload, 1) := by decide +kernel
theorem dX3_tally_6 : decode cX3_tally 6 = .ok (.iconst 1, 1) := by decide +kernel
theorem dX3_tally_7 : decode cX3_tally 7 = .ok (.if_icmp .ne 54, 3) := by decide +kernel
theorem dX3_tally_10 : decode cX3_tally 10 = .ok (.aload_n 0, 1) := by decide +kernel
theorem dX3_tally_11 : decode cX3_tally 11 = .ok (.getfield 72, 3) := by decide +kernel
theorem dX3_tally_14 : decode cX3_tally 14 = .ok (.iload_n 1, 1) := by decide +kernel
theorem dX3_tally_15 : decode cX3_tally 15 = .ok (.iload_n 2, 1) := by decide +kernel
theorem dX3_tally_16 : decode cX3_tally 16 = .ok (.ifCond .ne 7, 3) := by decide +kernel
theorem dX3_tally_19 : decode cX3_tally 19 = .ok (.iconst 0, 1) := by decide +kernel
theorem dX3_tally_20 : decode cX3_tally 20 = .ok (.goto 37, 3) := by decide +kernel
theorem dX3_tally_23 : decode cX3_tally 23 = .ok (.aload_n 0, 1) := by decide +kernel
theorem dX3_tally_24 : decode cX3_tally 24 = .ok (.getfield 72, 3) := by decide +kernel
theorem dX3_tally_27 : decode cX3_tally 27 = .ok (.iload_n 1, 1) := by decide +kernel
theorem dX3_tally_28 : decode cX3_tally 28 = .ok (.iaload, 1) := by decide +kernel
theorem dX3_tally_29 : decode cX3_tally 29 = .ok (.i2d, 1) := by decide +kernel
theorem dX3_tally_30 : decode cX3_tally 30 = .ok (.aload_n 0, 1) := by decide +kernel
theorem dX3_tally_31 : decode cX3_tally 31 = .ok (.getfield 38, 3) := by decide +kernel
theorem dX3_tally_34 : decode cX3_tally 34 = .ok (.iload_n 1, 1) := by decide +kernel
theorem dX3_tally_35 : decode cX3_tally 35 = .ok (.daload, 1) := by decide +kernel
theorem dX3_tally_36 : decode cX3_tally 36 = .ok (.dcmp .g, 1) := by decide +kernel
theorem dX3_tally_37 : decode cX3_tally 37 = .ok (.ifCond .ge 14, 3) := by decide +kernel
theorem dX3_tally_40 : decode cX3_tally 40 = .ok (.aload_n 0, 1) := by decide +kernel
theorem dX3_tally_41 : decode cX3_tally 41 = .ok (.getfield 72, 3) := by decide +kernel
theorem dX3_tally_44 : decode cX3_tally 44 = .ok (.iload_n 1, 1) := by decide +kernel
theorem dX3_tally_45 : decode cX3_tally 45 = .ok (.iaload, 1) := by decide +kernel
theorem dX3_tally_46 : decode cX3_tally 46 = .ok (.iconst 1, 1) := by decide +kernel
theorem dX3_tally_47 : decode cX3_tally 47 = .ok (.iadd, 1) := by decide +kernel
theorem dX3_tally_48 : decode cX3_tally 48 = .ok (.goto 9, 3) := by decide +kernel
theorem dX3_tally_51 : decode cX3_tally 51 = .ok (.aload_n 0, 1) := by decide +kernel
theorem dX3_tally_52 : decode cX3_tally 52 = .ok (.getfield 72, 3) := by decide +kernel
theorem dX3_tally_55 : decode cX3_tally 55 = .ok (.iload_n 1, 1) := by decide +kernel
theorem dX3_tally_56 : decode cX3_tally 56 = .ok (.iaload, 1) := by decide +kernel
theorem dX3_tally_57 : decode cX3_tally 57 = .ok (.iastore, 1) := by decide +kernel
theorem dX3_tally_58 : decode cX3_tally 58 = .ok (.goto 63, 3) := by decide +kernel
theorem dX3_tally_61 : decode cX3_tally 61 = .ok (.aload_n 0, 1) := by decide +kernel
theorem dX3_tally_62 : decode cX3_tally 62 = .ok (.getfield 7, 3) := by decide +kernel
theorem dX3_tally_65 : decode cX3_tally 65 = .ok (.bipush 22, 2) := by decide +kernel
theorem dX3_tally_67 : decode cX3_tally 67 = .ok (.baload, 1) := by decide +kernel
theorem dX3_tally_68 : decode cX3_tally 68 = .ok (.ifCond .eq 13, 3) := by decide +kernel
theorem dX3_tally_71 : decode cX3_tally 71 = .ok (.aload_n 0, 1) := by decide +kernel
theorem dX3_tally_72 : decode cX3_tally 72 = .ok (.getfield 72, 3) := by decide +kernel
theorem dX3_tally_75 : decode cX3_tally 75 = .ok (.iload_n 1, 1) := by decide +kernel
theorem dX3_tally_76 : decode cX3_tally 76 = .ok (.iconst 0, 1) := by decide +kernel
theorem dX3_tally_77 : decode cX3_tally 77 = .ok (.iastore, 1) := by decide +kernel
theorem dX3_tally_78 : decode cX3_tally 78 = .ok (.goto 43, 3) := by decide +kernel
theorem dX3_tally_81 : decode cX3_tally 81 = .ok (.iload_n 2, 1) := by decide +kernel
theorem dX3_tally_82 : decode cX3_tally 82 = .ok (.ifCond .eq 39, 3) := by decide +kernel
theorem dX3_tally_85 : decode cX3_tally 85 = .ok (.aload_n 0, 1) := by decide +kernel
theorem dX3_tally_86 : decode cX3_tally 86 = .ok (.getfield 28, 3) := by decide +kernel
theorem dX3_tally_89 : decode cX3_tally 89 = .ok (.iload_n 1, 1) := by decide +kernel
theorem dX3_tally_90 : decode cX3_tally 90 = .ok (.baload, 1) := by decide +kernel
theorem dX3_tally_91 : decode cX3_tally 91 = .ok (.ifCond .ne 30, 3) := by decide +kernel
theorem dX3_tally_94 : decode cX3_tally 94 = .ok (.aload_n 0, 1) := by decide +kernel
theorem dX3_tally_95 : decode cX3_tally 95 = .ok (.getfield 72, 3) := by decide +kernel
theorem dX3_tally_98 : decode cX3_tally 98 = .ok (.iload_n 1, 1) := by decide +kernel
theorem dX3_tally_99 : decode cX3_tally 99 = .ok (.iaload, 1) := by decide +kernel
theorem dX3_tally_100 : decode cX3_tally 100 = .ok (.i2d, 1) := by decide +kernel
theorem dX3_tally_101 : decode cX3_tally 101 = .ok (.aload_n 0, 1) := by decide +kernel
theorem dX3_tally_102 : decode cX3_tally 102 = .ok (.getfield 38, 3) := by decide +kernel
theorem dX3_tally_105 : decode cX3_tally 105 = .ok (.iload_n 1, 1) := by decide +kernel
theorem dX3_tally_106 : decode cX3_tally 106 = .ok (.daload, 1) := by decide +kernel
theorem dX3_tally_107 : decode cX3_tally 107 = .ok (.dcmp .g, 1) := by decide +kernel
theorem dX3_tally_108 : decode cX3_tally 108 = .ok (.ifCond .ge 13, 3) := by decide +kernel
theorem dX3_tally_111 : decode cX3_tally 111 = .ok (.aload_n 0, 1) := by decide +kernel
theorem dX3_tally_112 : decode cX3_tally 112 = .ok (.getfield 72, 3) := by decide +kernel
theorem dX3_tally_115 : decode cX3_tally 115 = .ok (.iload_n 1, 1) := by decide +kernel
theorem dX3_tally_116 : decode cX3_tally 116 = .ok (.dup2, 1) := by decide +kernel
theorem dX3_tally_117 : decode cX3_tally 117 = .ok (.iaload, 1) := by decide +kernel
theorem dX3_tally_118 : decode cX3_tally 118 = .ok (.iconst 1, 1) := by decide +kernel
theorem dX3_tally_119 : decode cX3_tally 119 = .ok (.iadd, 1) := by decide +kernel
theorem dX3_tally_120 : decode cX3_tally 120 = .ok (.iastore, 1) := by decide +kernel
theorem dX3_tally_121 : decode cX3_tally 121 = .ok (.aload_n 0, 1) := by decide +kernel
theorem dX3_tally_122 : decode cX3_tally 122 = .ok (.getfield 28, 3) := by decide +kernel
theorem dX3_tally_125 : decode cX3_tally 125 = .ok (.iload_n 1, 1) := by decide +kernel
theorem dX3_tally_126 : decode cX3_tally 126 = .ok (.iload_n 2, 1) := by decide +kernel
theorem dX3_tally_127 : decode cX3_tally 127 = .ok (.bastore, 1) := by decide +kernel
theorem dX3_tally_128 : decode cX3_tally 128 = .ok (.aload_n 0, 1) := by decide +kernel
theorem dX3_tally_129 : decode cX3_tally 129 = .ok (.getfield 7, 3) := by decide +kernel
theorem dX3_tally_132 : decode cX3_tally 132 = .ok (.aload_n 0, 1) := by decide +kernel
theorem dX3_tally_133 : decode cX3_tally 133 = .ok (.getfield 69, 3) := by decide +kernel
theorem dX3_tally_136 : decode cX3_tally 136 = .ok (.iload_n 1, 1) := by decide +kernel
theorem dX3_tally_137 : decode cX3_tally 137 = .ok (.iaload, 1) := by decide +kernel
theorem dX3_tally_138 : decode cX3_tally 138 = .ok (.aload_n 0, 1) := by decide +kernel
theorem dX3_tally_139 : decode cX3_tally 139 = .ok (.getfield 72, 3) := by decide +kernel
theorem dX3_tally_142 : decode cX3_tally 142 = .ok (.iload_n 1, 1) := by decide +kernel
theorem dX3_tally_143 : decode cX3_tally 143 = .ok (.iaload, 1) := by decide +kernel
theorem dX3_tally_144 : decode cX3_tally 144 = .ok (.i2d, 1) := by decide +kernel
theorem dX3_tally_145 : decode cX3_tally 145 = .ok (.aload_n 0, 1) := by decide +kernel
theorem dX3_tally_146 : decode cX3_tally 146 = .ok (.getfield 38, 3) := by decide +kernel
theorem dX3_tally_149 : decode cX3_tally 149 = .ok (.iload_n 1, 1) := by decide +kernel
theorem dX3_tally_150 : decode cX3_tally 150 = .ok (.daload, 1) := by decide +kernel
theorem dX3_tally_151 : decode cX3_tally 151 = .ok (.dcmp .l, 1) := by decide +kernel
theorem dX3_tally_152 : decode cX3_tally 152 = .ok (.ifCond .ne 7, 3) := by decide +kernel
theorem dX3_tally_155 : decode cX3_tally 155 = .ok (.iconst 1, 1) := by decide +kernel
theorem dX3_tally_156 : decode cX3_tally 156 = .ok (.goto 4, 3) := by decide +kernel
theorem dX3_tally_159 : decode cX3_tally 159 = .ok (.iconst 0, 1) := by decide +kernel
theorem dX3_tally_160 : decode cX3_tally 160 = .ok (.bastore, 1) := by decide +kernel
theorem dX3_tally_161 : decode cX3_tally 161 = .ok (.return_, 1) := by decide +kernel
theorem dX3_reckon_0 : decode cX3_reckon 0 = .ok (.aload_n 0, 1) := by decide +kernel
theorem dX3_reckon_1 : decode cX3_reckon 1 = .ok (.getfield 34, 3) := by decide +kernel
theorem dX3_reckon_4 : decode cX3_reckon 4 = .ok (.aload_n 0, 1) := by decide +kernel
theorem dX3_reckon_5 : decode cX3_reckon 5 = .ok (.getfield 63, 3) := by decide +kernel
theorem dX3_reckon_8 : decode cX3_reckon 8 = .ok (.iload_n 1, 1) := by decide +kernel
theorem dX3_reckon_9 : decode cX3_reckon 9 = .ok (.iaload, 1) := by decide +kernel
theorem dX3_reckon_10 : decode cX3_reckon 10 = .ok (.daload, 1) := by decide +kernel
theorem dX3_reckon_11 : decode cX3_reckon 11 = .ok (.dstore_n 2, 1) := by decide +kernel
theorem dX3_reckon_12 : decode cX3_reckon 12 = .ok (.aload_n 0, 1) := by decide +kernel
theorem dX3_reckon_13 : decode cX3_reckon 13 = .ok (.getfield 34, 3) := by decide +kernel
theorem dX3_reckon_16 : decode cX3_reckon 16 = .ok (.aload_n 0, 1) := by decide +kernel
theorem dX3_reckon_17 : decode cX3_reckon 17 = .ok (.getfield 66, 3) := by decide +kernel
theorem dX3_reckon_20 : decode cX3_reckon 20 = .ok (.iload_n 1, 1) := by decide +kernel
theorem dX3_reckon_21 : decode cX3_reckon 21 = .ok (.iaload, 1) := by decide +kernel
theorem dX3_reckon_22 : decode cX3_reckon 22 = .ok (.daload, 1) := by decide +kernel
theorem dX3_reckon_23 : decode cX3_reckon 23 = .ok (.dstore 4, 2) := by decide +kernel
theorem dX3_reckon_25 : decode cX3_reckon 25 = .ok (.dconst 0, 1) := by decide +kernel
theorem dX3_reckon_26 : decode cX3_reckon 26 = .ok (.dstore 6, 2) := by decide +kernel
theorem dX3_reckon_28 : decode cX3_reckon 28 = .ok (.aload_n 0, 1) := by decide +kernel
theorem dX3_reckon_29 : decode cX3_reckon 29 = .ok (.getfield 60, 3) := by decide +kernel
theorem dX3_reckon_32 : decode cX3_reckon 32 = .ok (.iload_n 1, 1) := by decide +kernel
theorem dX3_reckon_33 : decode cX3_reckon 33 = .ok (.iaload, 1) := by decide +kernel
theorem dX3_reckon_34 : decode cX3_reckon 34 = .ok (.tableswitch 136 4 8 #[34, 43, 52, 61, 79], 34) := by decide +kernel
theorem dX3_reckon_68 : decode cX3_reckon 68 = .ok (.dload_n 2, 1) := by decide +kernel
theorem dX3_reckon_69 : decode cX3_reckon 69 = .ok (.dload 4, 2) := by decide +kernel
theorem dX3_reckon_71 : decode cX3_reckon 71 = .ok (.dadd, 1) := by decide +kernel
theorem dX3_reckon_72 : decode cX3_reckon 72 = .ok (.dstore 6, 2) := by decide +kernel
theorem dX3_reckon_74 : decode cX3_reckon 74 = .ok (.goto 195, 3) := by decide +kernel
theorem dX3_reckon_77 : decode cX3_reckon 77 = .ok (.dload_n 2, 1) := by decide +kernel
theorem dX3_reckon_78 : decode cX3_reckon 78 = .ok (.dload 4, 2) := by decide +kernel
theorem dX3_reckon_80 : decode cX3_reckon 80 = .ok (.dsub, 1) := by decide +kernel
theorem dX3_reckon_81 : decode cX3_reckon 81 = .ok (.dstore 6, 2) := by decide +kernel
theorem dX3_reckon_83 : decode cX3_reckon 83 = .ok (.goto 186, 3) := by decide +kernel
theorem dX3_reckon_86 : decode cX3_reckon 86 = .ok (.dload_n 2, 1) := by decide +kernel
theorem dX3_reckon_87 : decode cX3_reckon 87 = .ok (.dload 4, 2) := by decide +kernel
theorem dX3_reckon_89 : decode cX3_reckon 89 = .ok (.dmul, 1) := by decide +kernel
theorem dX3_reckon_90 : decode cX3_reckon 90 = .ok (.dstore 6, 2) := by decide +kernel
theorem dX3_reckon_92 : decode cX3_reckon 92 = .ok (.goto 177, 3) := by decide +kernel
theorem dX3_reckon_95 : decode cX3_reckon 95 = .ok (.dload 4, 2) := by decide +kernel
theorem dX3_reckon_97 : decode cX3_reckon 97 = .ok (.dconst 0, 1) := by decide +kernel
theorem dX3_reckon_98 : decode cX3_reckon 98 = .ok (.dcmp .l, 1) := by decide +kernel
theorem dX3_reckon_99 : decode cX3_reckon 99 = .ok (.ifCond .ne 5, 3) := by decide +kernel
theorem dX3_reckon_102 : decode cX3_reckon 102 = .ok (.iconst 1, 1) := by decide +kernel
theorem dX3_reckon_103 : decode cX3_reckon 103 = .ok (.ireturn, 1) := by decide +kernel
theorem dX3_reckon_104 : decode cX3_reckon 104 = .ok (.dload_n 2, 1) := by decide +kernel
theorem dX3_reckon_105 : decode cX3_reckon 105 = .ok (.dload 4, 2) := by decide +kernel
theorem dX3_reckon_107 : decode cX3_reckon 107 = .ok (.ddiv, 1) := by decide +kernel
theorem dX3_reckon_108 : decode cX3_reckon 108 = .ok (.dstore 6, 2) := by decide +kernel
theorem dX3_reckon_110 : decode cX3_reckon 110 = .ok (.goto 159, 3) := by decide +kernel
theorem dX3_reckon_113 : decode cX3_reckon 113 = .ok (.dload 4, 2) := by decide +kernel
theorem dX3_reckon_115 : decode cX3_reckon 115 = .ok (.aload_n 0, 1) := by decide +kernel
theorem dX3_reckon_116 : decode cX3_reckon 116 = .ok (.getfield 38, 3) := by decide +kernel
theorem dX3_reckon_119 : decode cX3_reckon 119 = .ok (.iload_n 1, 1) := by decide +kernel
theorem dX3_reckon_120 : decode cX3_reckon 120 = .ok (.daload, 1) := by decide +kernel
theorem dX3_reckon_121 : decode cX3_reckon 121 = .ok (.dcmp .l, 1) := by decide +kernel
theorem dX3_reckon_122 : decode cX3_reckon 122 = .ok (.ifCond .le 5, 3) := by decide +kernel
theorem dX3_reckon_125 : decode cX3_reckon 125 = .ok (.iconst 1, 1) := by decide +kernel
theorem dX3_reckon_126 : decode cX3_reckon 126 = .ok (.ireturn, 1) := by decide +kernel
theorem dX3_reckon_127 : decode cX3_reckon 127 = .ok (.dload_n 2, 1) := by decide +kernel
theorem dX3_reckon_128 : decode cX3_reckon 128 = .ok (.dload 4, 2) := by decide +kernel
theorem dX3_reckon_130 : decode cX3_reckon 130 = .ok (.dcmp .g, 1) := by decide +kernel
theorem dX3_reckon_131 : decode cX3_reckon 131 = .ok (.ifCond .ge 8, 3) := by decide +kernel
theorem dX3_reckon_134 : decode cX3_reckon 134 = .ok (.dload 4, 2) := by decide +kernel
theorem dX3_reckon_136 : decode cX3_reckon 136 = .ok (.goto 4, 3) := by decide +kernel
theorem dX3_reckon_139 : decode cX3_reckon 139 = .ok (.dload_n 2, 1) := by decide +kernel
theorem dX3_reckon_140 : decode cX3_reckon 140 = .ok (.dstore 6, 2) := by decide +kernel
theorem dX3_reckon_142 : decode cX3_reckon 142 = .ok (.dload 6, 2) := by decide +kernel
theorem dX3_reckon_144 : decode cX3_reckon 144 = .ok (.aload_n 0, 1) := by decide +kernel
theorem dX3_reckon_145 : decode cX3_reckon 145 = .ok (.getfield 38, 3) := by decide +kernel
theorem dX3_reckon_148 : decode cX3_reckon 148 = .ok (.iload_n 1, 1) := by decide +kernel
theorem dX3_reckon_149 : decode cX3_reckon 149 = .ok (.daload, 1) := by decide +kernel
theorem dX3_reckon_150 : decode cX3_reckon 150 = .ok (.dcmp .l, 1) := by decide +kernel
theorem dX3_reckon_151 : decode cX3_reckon 151 = .ok (.ifCond .le 12, 3) := by decide +kernel
theorem dX3_reckon_154 : decode cX3_reckon 154 = .ok (.aload_n 0, 1) := by decide +kernel
theorem dX3_reckon_155 : decode cX3_reckon 155 = .ok (.getfield 38, 3) := by decide +kernel
theorem dX3_reckon_158 : decode cX3_reckon 158 = .ok (.iload_n 1, 1) := by decide +kernel
theorem dX3_reckon_159 : decode cX3_reckon 159 = .ok (.daload, 1) := by decide +kernel
theorem dX3_reckon_160 : decode cX3_reckon 160 = .ok (.goto 5, 3) := by decide +kernel
theorem dX3_reckon_163 : decode cX3_reckon 163 = .ok (.dload 6, 2) := by decide +kernel
theorem dX3_reckon_165 : decode cX3_reckon 165 = .ok (.dstore 6, 2) := by decide +kernel
theorem dX3_reckon_167 : decode cX3_reckon 167 = .ok (.goto 102, 3) := by decide +kernel
theorem dX3_reckon_170 : decode cX3_reckon 170 = .ok (.dload 4, 2) := by decide +kernel
theorem dX3_reckon_172 : decode cX3_reckon 172 = .ok (.dload_n 2, 1) := by decide +kernel
theorem dX3_reckon_173 : decode cX3_reckon 173 = .ok (.dsub, 1) := by decide +kernel
theorem dX3_reckon_174 : decode cX3_reckon 174 = .ok (.dstore 8, 2) := by decide +kernel
theorem dX3_reckon_176 : decode cX3_reckon 176 = .ok (.aload_n 0, 1) := by decide +kernel
theorem dX3_reckon_177 : decode cX3_reckon 177 = .ok (.getfield 41, 3) := by decide +kernel
theorem dX3_reckon_180 : decode cX3_reckon 180 = .ok (.iload_n 1, 1) := by decide +kernel
theorem dX3_reckon_181 : decode cX3_reckon 181 = .ok (.daload, 1) := by decide +kernel
theorem dX3_reckon_182 : decode cX3_reckon 182 = .ok (.dload 8, 2) := by decide +kernel
theorem dX3_reckon_184 : decode cX3_reckon 184 = .ok (.ldc2_w 116, 3) := by decide +kernel
theorem dX3_reckon_187 : decode cX3_reckon 187 = .ok (.dmul, 1) := by decide +kernel
theorem dX3_reckon_188 : decode cX3_reckon 188 = .ok (.dadd, 1) := by decide +kernel
theorem dX3_reckon_189 : decode cX3_reckon 189 = .ok (.dstore 10, 2) := by decide +kernel
theorem dX3_reckon_191 : decode cX3_reckon 191 = .ok (.aload_n 0, 1) := by decide +kernel
theorem dX3_reckon_192 : decode cX3_reckon 192 = .ok (.getfield 41, 3) := by decide +kernel
theorem dX3_reckon_195 : decode cX3_reckon 195 = .ok (.iload_n 1, 1) := by decide +kernel
theorem dX3_reckon_196 : decode cX3_reckon 196 = .ok (.dload 10, 2) := by decide +kernel
theorem dX3_reckon_198 : decode cX3_reckon 198 = .ok (.ldc2_w 106, 3) := by decide +kernel
theorem dX3_reckon_201 : decode cX3_reckon 201 = .ok (.dcmp .g, 1) := by decide +kernel
theorem dX3_reckon_202 : decode cX3_reckon 202 = .ok (.ifCond .ge 9, 3) := by decide +kernel
theorem dX3_reckon_205 : decode cX3_reckon 205 = .ok (.ldc2_w 106, 3) := by decide +kernel
theorem dX3_reckon_208 : decode cX3_reckon 208 = .ok (.goto 20, 3) := by decide +kernel
theorem dX3_reckon_211 : decode cX3_reckon 211 = .ok (.dload 10, 2) := by decide +kernel
theorem dX3_reckon_213 : decode cX3_reckon 213 = .ok (.ldc2_w 100, 3) := by decide +kernel
theorem dX3_reckon_216 : decode cX3_reckon 216 = .ok (.dcmp .l, 1) := by decide +kernel
theorem dX3_reckon_217 : decode cX3_reckon 217 = .ok (.ifCond .le 9, 3) := by decide +kernel
theorem dX3_reckon_220 : decode cX3_reckon 220 = .ok (.ldc2_w 100, 3) := by decide +kernel
theorem dX3_reckon_223 : decode cX3_reckon 223 = .ok (.goto 5, 3) := by decide +kernel
theorem dX3_reckon_226 : decode cX3_reckon 226 = .ok (.dload 10, 2) := by decide +kernel
theorem dX3_reckon_228 : decode cX3_reckon 228 = .ok (.dastore, 1) := by decide +kernel
theorem dX3_reckon_229 : decode cX3_reckon 229 = .ok (.aload_n 0, 1) := by decide +kernel
theorem dX3_reckon_230 : decode cX3_reckon 230 = .ok (.getfield 38, 3) := by decide +kernel
theorem dX3_reckon_233 : decode cX3_reckon 233 = .ok (.iload_n 1, 1) := by decide +kernel
theorem dX3_reckon_234 : decode cX3_reckon 234 = .ok (.daload, 1) := by decide +kernel
theorem dX3_reckon_235 : decode cX3_reckon 235 = .ok (.dload 8, 2) := by decide +kernel
theorem dX3_reckon_237 : decode cX3_reckon 237 = .ok (.aload_n 0, 1) := by decide +kernel
theorem dX3_reckon_238 : decode cX3_reckon 238 = .ok (.getfield 41, 3) := by decide +kernel
theorem dX3_reckon_241 : decode cX3_reckon 241 = .ok (.iload_n 1, 1) := by decide +kernel
theorem dX3_reckon_242 : decode cX3_reckon 242 = .ok (.daload, 1) := by decide +kernel
theorem dX3_reckon_243 : decode cX3_reckon 243 = .ok (.dadd, 1) := by decide +kernel
theorem dX3_reckon_244 : decode cX3_reckon 244 = .ok (.dload 8, 2) := by decide +kernel
theorem dX3_reckon_246 : decode cX3_reckon 246 = .ok (.aload_n 0, 1) := by decide +kernel
theorem dX3_reckon_247 : decode cX3_reckon 247 = .ok (.getfield 44, 3) := by decide +kernel
theorem dX3_reckon_250 : decode cX3_reckon 250 = .ok (.iload_n 1, 1) := by decide +kernel
theorem dX3_reckon_251 : decode cX3_reckon 251 = .ok (.daload, 1) := by decide +kernel
theorem dX3_reckon_252 : decode cX3_reckon 252 = .ok (.dsub, 1) := by decide +kernel
theorem dX3_reckon_253 : decode cX3_reckon 253 = .ok (.ldc2_w 118, 3) := by decide +kernel
theorem dX3_reckon_256 : decode cX3_reckon 256 = .ok (.dmul, 1) := by decide +kernel
theorem dX3_reckon_257 : decode cX3_reckon 257 = .ok (.dadd, 1) := by decide +kernel
theorem dX3_reckon_258 : decode cX3_reckon 258 = .ok (.dmul, 1) := by decide +kernel
theorem dX3_reckon_259 : decode cX3_reckon 259 = .ok (.dstore 6, 2) := by decide +kernel
theorem dX3_reckon_261 : decode cX3_reckon 261 = .ok (.aload_n 0, 1) := by decide +kernel
theorem dX3_reckon_262 : decode cX3_reckon 262 = .ok (.getfield 44, 3) := by decide +kernel
theorem dX3_reckon_265 : decode cX3_reckon 265 = .ok (.iload_n 1, 1) := by decide +kernel
theorem dX3_reckon_266 : decode cX3_reckon 266 = .ok (.dload 8, 2) := by decide +kernel
theorem dX3_reckon_268 : decode cX3_reckon 268 = .ok (.dastore, 1) := by decide +kernel
theorem dX3_reckon_269 : decode cX3_reckon 269 = .ok (.dload 6, 2) := by decide +kernel
theorem dX3_reckon_271 : decode cX3_reckon 271 = .ok (.ldc2_w 112, 3) := by decide +kernel
theorem dX3_reckon_274 : decode cX3_reckon 274 = .ok (.dcmp .l, 1) := by decide +kernel
theorem dX3_reckon_275 : decode cX3_reckon 275 = .ok (.ifCond .gt 12, 3) := by decide +kernel
theorem dX3_reckon_278 : decode cX3_reckon 278 = .ok (.dload 6, 2) := by decide +kernel
theorem dX3_reckon_280 : decode cX3_reckon 280 = .ok (.ldc2_w 114, 3) := by decide +kernel
theorem dX3_reckon_283 : decode cX3_reckon 283 = .ok (.dcmp .g, 1) := by decide +kernel
theorem dX3_reckon_284 : decode cX3_reckon 284 = .ok (.ifCond .ge 5, 3) := by decide +kernel
theorem dX3_reckon_287 : decode cX3_reckon 287 = .ok (.iconst 1, 1) := by decide +kernel
theorem dX3_reckon_288 : decode cX3_reckon 288 = .ok (.ireturn, 1) := by decide +kernel
theorem dX3_reckon_289 : decode cX3_reckon 289 = .ok (.aload_n 0, 1) := by decide +kernel
theorem dX3_reckon_290 : decode cX3_reckon 290 = .ok (.getfield 34, 3) := by decide +kernel
theorem dX3_reckon_293 : decode cX3_reckon 293 = .ok (.aload_n 0, 1) := by decide +kernel
theorem dX3_reckon_294 : decode cX3_reckon 294 = .ok (.getfield 69, 3) := by decide +kernel
theorem dX3_reckon_297 : decode cX3_reckon 297 = .ok (.iload_n 1, 1) := by decide +kernel
theorem dX3_reckon_298 : decode cX3_reckon 298 = .ok (.iaload, 1) := by decide +kernel
theorem dX3_reckon_299 : decode cX3_reckon 299 = .ok (.dload 6, 2) := by decide +kernel
theorem dX3_reckon_301 : decode cX3_reckon 301 = .ok (.dastore, 1) := by decide +kernel
theorem dX3_reckon_302 : decode cX3_reckon 302 = .ok (.iconst 0, 1) := by decide +kernel
theorem dX3_reckon_303 : decode cX3_reckon 303 = .ok (.ireturn, 1) := by decide +kernel
theorem dX3_resume_0 : decode cX3_resume 0 = .ok (.aload_n 0, 1) := by decide +kernel
theorem dX3_resume_1 : decode cX3_resume 1 = .ok (.iconst 0, 1) := by decide +kernel
theorem dX3_resume_2 : decode cX3_resume 2 = .ok (.putfield 85, 3) := by decide +kernel
theorem dX3_resume_5 : decode cX3_resume 5 = .ok (.aload_n 0, 1) := by decide +kernel
theorem dX3_resume_6 : decode cX3_resume 6 = .ok (.getfield 130, 3) := by decide +kernel
theorem dX3_resume_9 : decode cX3_resume 9 = .ok (.ifCond .eq 10, 3) := by decide +kernel
theorem dX3_resume_12 : decode cX3_resume 12 = .ok (.aload_n 0, 1) := by decide +kernel
theorem dX3_resume_13 : decode cX3_resume 13 = .ok (.getfield 81, 3) := by decide +kernel
theorem dX3_resume_16 : decode cX3_resume 16 = .ok (.goto 4, 3) := by decide +kernel
theorem dX3_resume_19 : decode cX3_resume 19 = .ok (.iconst (-1), 1) := by decide +kernel
theorem dX3_resume_20 : decode cX3_resume 20 = .ok (.istore_n 1, 1) := by decide +kernel
theorem dX3_resume_21 : decode cX3_resume 21 = .ok (.aload_n 0, 1) := by decide +kernel
theorem dX3_resume_22 : decode cX3_resume 22 = .ok (.iconst 0, 1) := by decide +kernel
theorem dX3_resume_23 : decode cX3_resume 23 = .ok (.putfield 130, 3) := by decide +kernel
theorem dX3_resume_26 : decode cX3_resume 26 = .ok (.iload_n 1, 1) := by decide +kernel
theorem dX3_resume_27 : decode cX3_resume 27 = .ok (.ireturn, 1) := by decide +kernel
theorem dX3_bit_0 : decode cX3_bit 0 = .ok (.aload_n 0, 1) := by decide +kernel
theorem dX3_bit_1 : decode cX3_bit 1 = .ok (.iload_n 1, 1) := by decide +kernel
theorem dX3_bit_2 : decode cX3_bit 2 = .ok (.iconst 0, 1) := by decide +kernel
theorem dX3_bit_3 : decode cX3_bit 3 = .ok (.bipush 23, 2) := by decide +kernel
theorem dX3_bit_5 : decode cX3_bit 5 = .ok (.invokestatic 88, 3) := by decide +kernel
theorem dX3_bit_8 : decode cX3_bit 8 = .ok (.ifCond .eq 7, 3) := by decide +kernel
theorem dX3_bit_11 : decode cX3_bit 11 = .ok (.iconst 0, 1) := by decide +kernel
theorem dX3_bit_12 : decode cX3_bit 12 = .ok (.goto 4, 3) := by decide +kernel
theorem dX3_bit_15 : decode cX3_bit 15 = .ok (.iconst 1, 1) := by decide +kernel
theorem dX3_bit_16 : decode cX3_bit 16 = .ok (.putfield 85, 3) := by decide +kernel
theorem dX3_bit_19 : decode cX3_bit 19 = .ok (.aload_n 0, 1) := by decide +kernel
theorem dX3_bit_20 : decode cX3_bit 20 = .ok (.getfield 85, 3) := by decide +kernel
theorem dX3_bit_23 : decode cX3_bit 23 = .ok (.ifCond .ne 16, 3) := by decide +kernel
theorem dX3_bit_26 : decode cX3_bit 26 = .ok (.aload_n 0, 1) := by decide +kernel
theorem dX3_bit_27 : decode cX3_bit 27 = .ok (.getfield 7, 3) := by decide +kernel
theorem dX3_bit_30 : decode cX3_bit 30 = .ok (.iload_n 1, 1) := by decide +kernel
theorem dX3_bit_31 : decode cX3_bit 31 = .ok (.baload, 1) := by decide +kernel
theorem dX3_bit_32 : decode cX3_bit 32 = .ok (.ifCond .eq 7, 3) := by decide +kernel
theorem dX3_bit_35 : decode cX3_bit 35 = .ok (.iconst 1, 1) := by decide +kernel
theorem dX3_bit_36 : decode cX3_bit 36 = .ok (.goto 4, 3) := by decide +kernel
theorem dX3_bit_39 : decode cX3_bit 39 = .ok (.iconst 0, 1) := by decide +kernel
theorem dX3_bit_40 : decode cX3_bit 40 = .ok (.ireturn, 1) := by decide +kernel
theorem dX3_register_0 : decode cX3_register 0 = .ok (.aload_n 0, 1) := by decide +kernel
theorem dX3_register_1 : decode cX3_register 1 = .ok (.iload_n 1, 1) := by decide +kernel
theorem dX3_register_2 : decode cX3_register 2 = .ok (.invokestatic 102, 3) := by decide +kernel
theorem dX3_register_5 : decode cX3_register 5 = .ok (.ifCond .eq 7, 3) := by decide +kernel
theorem dX3_register_8 : decode cX3_register 8 = .ok (.iconst 0, 1) := by decide +kernel
theorem dX3_register_9 : decode cX3_register 9 = .ok (.goto 4, 3) := by decide +kernel
theorem dX3_register_12 : decode cX3_register 12 = .ok (.iconst 1, 1) := by decide +kernel
theorem dX3_register_13 : decode cX3_register 13 = .ok (.putfield 85, 3) := by decide +kernel
theorem dX3_register_16 : decode cX3_register 16 = .ok (.aload_n 0, 1) := by decide +kernel
theorem dX3_register_17 : decode cX3_register 17 = .ok (.getfield 85, 3) := by decide +kernel
theorem dX3_register_20 : decode cX3_register 20 = .ok (.ifCond .le 7, 3) := by decide +kernel
theorem dX3_register_23 : decode cX3_register 23 = .ok (.dconst 0, 1) := by decide +kernel
theorem dX3_register_24 : decode cX3_register 24 = .ok (.goto 9, 3) := by decide +kernel
theorem dX3_register_27 : decode cX3_register 27 = .ok (.aload_n 0, 1) := by decide +kernel
theorem dX3_register_28 : decode cX3_register 28 = .ok (.getfield 34, 3) := by decide +kernel
theorem dX3_register_31 : decode cX3_register 31 = .ok (.iload_n 1, 1) := by decide +kernel
theorem dX3_register_32 : decode cX3_register 32 = .ok (.daload, 1) := by decide +kernel
theorem dX3_register_33 : decode cX3_register 33 = .ok (.dreturn, 1) := by decide +kernel
theorem dX3_power_0 : decode cX3_power 0 = .ok (.aload_n 0, 1) := by decide +kernel
theorem dX3_power_1 : decode cX3_power 1 = .ok (.iload_n 1, 1) := by decide +kernel
theorem dX3_power_2 : decode cX3_power 2 = .ok (.iconst 0, 1) := by decide +kernel
theorem dX3_power_3 : decode cX3_power 3 = .ok (.iconst 4, 1) := by decide +kernel
theorem dX3_power_4 : decode cX3_power 4 = .ok (.invokestatic 88, 3) := by decide +kernel
theorem dX3_power_7 : decode cX3_power 7 = .ok (.ifCond .eq 25, 3) := by decide +kernel
theorem dX3_power_10 : decode cX3_power 10 = .ok (.iload_n 2, 1) := by decide +kernel
theorem dX3_power_11 : decode cX3_power 11 = .ok (.iconst 0, 1) := by decide +kernel
theorem dX3_power_12 : decode cX3_power 12 = .ok (.iconst 2, 1) := by decide +kernel
theorem dX3_power_13 : decode cX3_power 13 = .ok (.invokestatic 88, 3) := by decide +kernel
theorem dX3_power_16 : decode cX3_power 16 = .ok (.ifCond .eq 16, 3) := by decide +kernel
theorem dX3_power_19 : decode cX3_power 19 = .ok (.iload_n 3, 1) := by decide +kernel
theorem dX3_power_20 : decode cX3_power 20 = .ok (.iconst (-1), 1) := by decide +kernel
theorem dX3_power_21 : decode cX3_power 21 = .ok (.iconst 3, 1) := by decide +kernel
theorem dX3_power_22 : decode cX3_power 22 = .ok (.invokestatic 88, 3) := by decide +kernel
theorem dX3_power_25 : decode cX3_power 25 = .ok (.ifCond .eq 7, 3) := by decide +kernel
theorem dX3_power_28 : decode cX3_power 28 = .ok (.iconst 0, 1) := by decide +kernel
theorem dX3_power_29 : decode cX3_power 29 = .ok (.goto 4, 3) := by decide +kernel
theorem dX3_power_32 : decode cX3_power 32 = .ok (.iconst 1, 1) := by decide +kernel
theorem dX3_power_33 : decode cX3_power 33 = .ok (.putfield 85, 3) := by decide +kernel
theorem dX3_power_36 : decode cX3_power 36 = .ok (.aload_n 0, 1) := by decide +kernel
theorem dX3_power_37 : decode cX3_power 37 = .ok (.getfield 85, 3) := by decide +kernel
theorem dX3_power_40 : decode cX3_power 40 = .ok (.ifCond .gt 12, 3) := by decide +kernel
theorem dX3_power_43 : decode cX3_power 43 = .ok (.aload_n 0, 1) := by decide +kernel
theorem dX3_power_44 : decode cX3_power 44 = .ok (.getfield 22, 3) := by decide +kernel
theorem dX3_power_47 : decode cX3_power 47 = .ok (.iload_n 1, 1) := by decide +kernel
theorem dX3_power_48 : decode cX3_power 48 = .ok (.baload, 1) := by decide +kernel
theorem dX3_power_49 : decode cX3_power 49 = .ok (.ifCond .ne 5, 3) := by decide +kernel
theorem dX3_power_52 : decode cX3_power 52 = .ok (.iconst 0, 1) := by decide +kernel
theorem dX3_power_53 : decode cX3_power 53 = .ok (.ireturn, 1) := by decide +kernel
theorem dX3_power_54 : decode cX3_power 54 = .ok (.iload_n 3, 1) := by decide +kernel
theorem dX3_power_55 : decode cX3_power 55 = .ok (.ifCond .lt 17, 3) := by decide +kernel
theorem dX3_power_58 : decode cX3_power 58 = .ok (.aload_n 0, 1) := by decide +kernel
theorem dX3_power_59 : decode cX3_power 59 = .ok (.getfield 19, 3) := by decide +kernel
theorem dX3_power_62 : decode cX3_power 62 = .ok (.iload_n 1, 1) := by decide +kernel
theorem dX3_power_63 : decode cX3_power 63 = .ok (.iload_n 2, 1) := by decide +kernel
theorem dX3_power_64 : decode cX3_power 64 = .ok (.iload_n 3, 1) := by decide +kernel
theorem dX3_power_65 : decode cX3_power 65 = .ok (.invokestatic 96, 3) := by decide +kernel
theorem dX3_power_68 : decode cX3_power 68 = .ok (.baload, 1) := by decide +kernel
theorem dX3_power_69 : decode cX3_power 69 = .ok (.ifCond .eq 7, 3) := by decide +kernel
theorem dX3_power_72 : decode cX3_power 72 = .ok (.iconst 1, 1) := by decide +kernel
theorem dX3_power_73 : decode cX3_power 73 = .ok (.goto 4, 3) := by decide +kernel
theorem dX3_power_76 : decode cX3_power 76 = .ok (.iconst 0, 1) := by decide +kernel
theorem dX3_power_77 : decode cX3_power 77 = .ok (.ireturn, 1) := by decide +kernel
theorem dX3_told_0 : decode cX3_told 0 = .ok (.iload_n 2, 1) := by decide +kernel
theorem dX3_told_1 : decode cX3_told 1 = .ok (.iconst 0, 1) := by decide +kernel
theorem dX3_told_2 : decode cX3_told 2 = .ok (.iconst 4, 1) := by decide +kernel
theorem dX3_told_3 : decode cX3_told 3 = .ok (.invokestatic 88, 3) := by decide +kernel
theorem dX3_told_6 : decode cX3_told 6 = .ok (.ifCond .ne 9, 3) := by decide +kernel
theorem dX3_told_9 : decode cX3_told 9 = .ok (.aload_n 0, 1) := by decide +kernel
theorem dX3_told_10 : decode cX3_told 10 = .ok (.iconst 1, 1) := by decide +kernel
theorem dX3_told_11 : decode cX3_told 11 = .ok (.invokevirtual 92, 3) := by decide +kernel
theorem dX3_told_14 : decode cX3_told 14 = .ok (.ireturn, 1) := by decide +kernel
theorem dX3_told_15 : decode cX3_told 15 = .ok (.iload_n 1, 1) := by decide +kernel
theorem dX3_told_16 : decode cX3_told 16 = .ok (.iconst 0, 1) := by decide +kernel
theorem dX3_told_17 : decode cX3_told 17 = .ok (.bipush 7, 2) := by decide +kernel
theorem dX3_told_19 : decode cX3_told 19 = .ok (.invokestatic 88, 3) := by decide +kernel
theorem dX3_told_22 : decode cX3_told 22 = .ok (.ifCond .ne 9, 3) := by decide +kernel
theorem dX3_told_25 : decode cX3_told 25 = .ok (.aload_n 0, 1) := by decide +kernel
theorem dX3_told_26 : decode cX3_told 26 = .ok (.iconst 2, 1) := by decide +kernel
theorem dX3_told_27 : decode cX3_told 27 = .ok (.invokevirtual 92, 3) := by decide +kernel
theorem dX3_told_30 : decode cX3_told 30 = .ok (.ireturn, 1) := by decide +kernel
theorem dX3_told_31 : decode cX3_told 31 = .ok (.aload_n 0, 1) := by decide +kernel
theorem dX3_told_32 : decode cX3_told 32 = .ok (.iconst 0, 1) := by decide +kernel
theorem dX3_told_33 : decode cX3_told 33 = .ok (.putfield 85, 3) := by decide +kernel
theorem dX3_told_36 : decode cX3_told 36 = .ok (.iload_n 2, 1) := by decide +kernel
theorem dX3_told_37 : decode cX3_told 37 = .ok (.ifCond .ne 12, 3) := by decide +kernel
theorem dX3_told_40 : decode cX3_told 40 = .ok (.aload_n 0, 1) := by decide +kernel
theorem dX3_told_41 : decode cX3_told 41 = .ok (.getfield 60, 3) := by decide +kernel
theorem dX3_told_44 : decode cX3_told 44 = .ok (.iload_n 1, 1) := by decide +kernel
theorem dX3_told_45 : decode cX3_told 45 = .ok (.iaload, 1) := by decide +kernel
theorem dX3_told_46 : decode cX3_told 46 = .ok (.goto 59, 3) := by decide +kernel
theorem dX3_told_49 : decode cX3_told 49 = .ok (.iload_n 2, 1) := by decide +kernel
theorem dX3_told_50 : decode cX3_told 50 = .ok (.iconst 1, 1) := by decide +kernel
theorem dX3_told_51 : decode cX3_told 51 = .ok (.if_icmp .ne 12, 3) := by decide +kernel
theorem dX3_told_54 : decode cX3_told 54 = .ok (.aload_n 0, 1) := by decide +kernel
theorem dX3_told_55 : decode cX3_told 55 = .ok (.getfield 72, 3) := by decide +kernel
theorem dX3_told_58 : decode cX3_told 58 = .ok (.iload_n 1, 1) := by decide +kernel
theorem dX3_told_59 : decode cX3_told 59 = .ok (.iaload, 1) := by decide +kernel
theorem dX3_told_60 : decode cX3_told 60 = .ok (.goto 45, 3) := by decide +kernel
theorem dX3_told_63 : decode cX3_told 63 = .ok (.iload_n 2, 1) := by decide +kernel
theorem dX3_told_64 : decode cX3_told 64 = .ok (.iconst 2, 1) := by decide +kernel
theorem dX3_told_65 : decode cX3_told 65 = .ok (.if_icmp .ne 20, 3) := by decide +kernel
theorem dX3_told_68 : decode cX3_told 68 = .ok (.aload_n 0, 1) := by decide +kernel
theorem dX3_told_69 : decode cX3_told 69 = .ok (.getfield 25, 3) := by decide +kernel
theorem dX3_told_72 : decode cX3_told 72 = .ok (.iload_n 1, 1) := by decide +kernel
theorem dX3_told_73 : decode cX3_told 73 = .ok (.baload, 1) := by decide +kernel
theorem dX3_told_74 : decode cX3_told 74 = .ok (.ifCond .eq 7, 3) := by decide +kernel
theorem dX3_told_77 : decode cX3_told 77 = .ok (.iconst 1, 1) := by decide +kernel
theorem dX3_told_78 : decode cX3_told 78 = .ok (.goto 27, 3) := by decide +kernel
theorem dX3_told_81 : decode cX3_told 81 = .ok (.iconst 0, 1) := by decide +kernel
theorem dX3_told_82 : decode cX3_told 82 = .ok (.goto 23, 3) := by decide +kernel
theorem dX3_told_85 : decode cX3_told 85 = .ok (.iload_n 2, 1) := by decide +kernel
theorem dX3_told_86 : decode cX3_told 86 = .ok (.iconst 3, 1) := by decide +kernel
theorem dX3_told_87 : decode cX3_told 87 = .ok (.if_icmp .ne 12, 3) := by decide +kernel
theorem dX3_told_90 : decode cX3_told 90 = .ok (.aload_n 0, 1) := by decide +kernel
theorem dX3_told_91 : decode cX3_told 91 = .ok (.getfield 75, 3) := by decide +kernel
theorem dX3_told_94 : decode cX3_told 94 = .ok (.iload_n 1, 1) := by decide +kernel
theorem dX3_told_95 : decode cX3_told 95 = .ok (.iaload, 1) := by decide +kernel
theorem dX3_told_96 : decode cX3_told 96 = .ok (.goto 9, 3) := by decide +kernel
theorem dX3_told_99 : decode cX3_told 99 = .ok (.aload_n 0, 1) := by decide +kernel
theorem dX3_told_100 : decode cX3_told 100 = .ok (.getfield 78, 3) := by decide +kernel
theorem dX3_told_103 : decode cX3_told 103 = .ok (.iload_n 1, 1) := by decide +kernel
theorem dX3_told_104 : decode cX3_told 104 = .ok (.iaload, 1) := by decide +kernel
theorem dX3_told_105 : decode cX3_told 105 = .ok (.ireturn, 1) := by decide +kernel
theorem dX3_count_0 : decode cX3_count 0 = .ok (.iload_n 1, 1) := by decide +kernel
theorem dX3_count_1 : decode cX3_count 1 = .ok (.iconst 0, 1) := by decide +kernel
theorem dX3_count_2 : decode cX3_count 2 = .ok (.iconst 3, 1) := by decide +kernel
theorem dX3_count_3 : decode cX3_count 3 = .ok (.invokestatic 88, 3) := by decide +kernel
theorem dX3_count_6 : decode cX3_count 6 = .ok (.ifCond .ne 9, 3) := by decide +kernel
theorem dX3_count_9 : decode cX3_count 9 = .ok (.aload_n 0, 1) := by decide +kernel
theorem dX3_count_10 : decode cX3_count 10 = .ok (.iconst 1, 1) := by decide +kernel
theorem dX3_count_11 : decode cX3_count 11 = .ok (.invokevirtual 92, 3) := by decide +kernel
theorem dX3_count_14 : decode cX3_count 14 = .ok (.ireturn, 1) := by decide +kernel
theorem dX3_count_15 : decode cX3_count 15 = .ok (.aload_n 0, 1) := by decide +kernel
theorem dX3_count_16 : decode cX3_count 16 = .ok (.iconst 0, 1) := by decide +kernel
theorem dX3_count_17 : decode cX3_count 17 = .ok (.putfield 85, 3) := by decide +kernel
theorem dX3_count_20 : decode cX3_count 20 = .ok (.iconst 0, 1) := by decide +kernel
theorem dX3_count_21 : decode cX3_count 21 = .ok (.istore_n 2, 1) := by decide +kernel
theorem dX3_count_22 : decode cX3_count 22 = .ok (.iconst 0, 1) := by decide +kernel
theorem dX3_count_23 : decode cX3_count 23 = .ok (.istore_n 3, 1) := by decide +kernel
theorem dX3_count_24 : decode cX3_count 24 = .ok (.iload_n 3, 1) := by decide +kernel
theorem dX3_count_25 : decode cX3_count 25 = .ok (.bipush 24, 2) := by decide +kernel
theorem dX3_count_27 : decode cX3_count 27 = .ok (.if_icmp .ge 21, 3) := by decide +kernel
theorem dX3_count_30 : decode cX3_count 30 = .ok (.aload_n 0, 1) := by decide +kernel
theorem dX3_count_31 : decode cX3_count 31 = .ok (.getfield 7, 3) := by decide +kernel
theorem dX3_count_34 : decode cX3_count 34 = .ok (.iload_n 3, 1) := by decide +kernel
theorem dX3_count_35 : decode cX3_count 35 = .ok (.baload, 1) := by decide +kernel
theorem dX3_count_36 : decode cX3_count 36 = .ok (.ifCond .eq 6, 3) := by decide +kernel
theorem dX3_count_39 : decode cX3_count 39 = .ok (.iinc 2 1, 3) := by decide +kernel
theorem dX3_count_42 : decode cX3_count 42 = .ok (.iinc 3 1, 3) := by decide +kernel
theorem dX3_count_45 : decode cX3_count 45 = .ok (.goto (-21), 3) := by decide +kernel
