/-! the words, by their places -/
set_option maxRecDepth 20000 in
theorem mw_20 : Cond.initialized RL ∈ gw_all := gw_in (k := 20) (by decide +kernel) (by decide +kernel)
set_option maxRecDepth 20000 in
theorem mw_21 : Cond.initialized RX2 ∈ gw_all := gw_in (k := 21) (by decide +kernel) (by decide +kernel)
set_option maxRecDepth 20000 in
theorem mw_22 : Cond.initialized RX1 ∈ gw_all := gw_in (k := 22) (by decide +kernel) (by decide +kernel)
set_option maxRecDepth 20000 in
theorem mw_23 : Cond.initialized RX0 ∈ gw_all := gw_in (k := 23) (by decide +kernel) (by decide +kernel)
set_option maxRecDepth 20000 in
theorem mw_24 : Cond.initialized RX3 ∈ gw_all := gw_in (k := 24) (by decide +kernel) (by decide +kernel)
set_option maxRecDepth 20000 in
theorem mw_25 : Cond.initialized "java/lang/Throwable" ∈ gw_all := gw_in (k := 25) (by decide +kernel) (by decide +kernel)
set_option maxRecDepth 20000 in
theorem mw_26 : Cond.initialized "java/lang/Exception" ∈ gw_all := gw_in (k := 26) (by decide +kernel) (by decide +kernel)
set_option maxRecDepth 20000 in
theorem mw_27 : Cond.initialized "java/lang/RuntimeException" ∈ gw_all := gw_in (k := 27) (by decide +kernel) (by decide +kernel)
set_option maxRecDepth 20000 in
theorem mw_28 : Cond.initialized "java/lang/IllegalArgumentException" ∈ gw_all := gw_in (k := 28) (by decide +kernel) (by decide +kernel)
set_option maxRecDepth 20000 in
theorem mw_29 : Cond.initialized "java/lang/IndexOutOfBoundsException" ∈ gw_all := gw_in (k := 29) (by decide +kernel) (by decide +kernel)
set_option maxRecDepth 20000 in
theorem mw_30 : Cond.initialized "java/lang/IllegalStateException" ∈ gw_all := gw_in (k := 30) (by decide +kernel) (by decide +kernel)
set_option maxRecDepth 20000 in
theorem mw_31 : Cond.initialized "java/lang/ArithmeticException" ∈ gw_all := gw_in (k := 31) (by decide +kernel) (by decide +kernel)
set_option maxRecDepth 20000 in
theorem mw_32 : Cond.classLink RL 8 RX2 ∈ gw_all := gw_in (k := 32) (by decide +kernel) (by decide +kernel)
set_option maxRecDepth 20000 in
theorem mw_33 : Cond.instantiable RX2 7 ∈ gw_all := gw_in (k := 33) (by decide +kernel) (by decide +kernel)
set_option maxRecDepth 20000 in
theorem mw_34 : Cond.methodLink RL 67 yX2_init ∈ gw_all := gw_in (k := 34) (by decide +kernel) (by decide +kernel)
set_option maxRecDepth 20000 in
theorem mw_35 : Cond.instanceMethod yX2_init ∈ gw_all := gw_in (k := 35) (by decide +kernel) (by decide +kernel)
set_option maxRecDepth 20000 in
theorem mw_36 : Cond.code yX2_init prog_1_method_1_code 2 none ∈ gw_all := gw_in (k := 36) (by decide +kernel) (by decide +kernel)
set_option maxRecDepth 20000 in
theorem mw_37 : Cond.methodLink RX2 1 objectInit ∈ gw_all := gw_in (k := 37) (by decide +kernel) (by decide +kernel)
set_option maxRecDepth 20000 in
theorem mw_38 : Cond.instanceMethod objectInit ∈ gw_all := gw_in (k := 38) (by decide +kernel) (by decide +kernel)
set_option maxRecDepth 20000 in
theorem mw_39 : Cond.code objectInit object_method_1_code 1 none ∈ gw_all := gw_in (k := 39) (by decide +kernel) (by decide +kernel)
set_option maxRecDepth 20000 in
theorem mw_40 : Cond.classLink RX2 17 RX1 ∈ gw_all := gw_in (k := 40) (by decide +kernel) (by decide +kernel)
set_option maxRecDepth 20000 in
theorem mw_42 : Cond.instantiable RX1 7 ∈ gw_all := gw_in (k := 42) (by decide +kernel) (by decide +kernel)
set_option maxRecDepth 20000 in
theorem mw_44 : Cond.instanceMethod yX1_init ∈ gw_all := gw_in (k := 44) (by decide +kernel) (by decide +kernel)
set_option maxRecDepth 20000 in
theorem mw_45 : Cond.code yX1_init prog_3_method_1_code 1 none ∈ gw_all := gw_in (k := 45) (by decide +kernel) (by decide +kernel)
set_option maxRecDepth 20000 in
theorem mw_46 : Cond.methodLink RX1 3 objectInit ∈ gw_all := gw_in (k := 46) (by decide +kernel) (by decide +kernel)
set_option maxRecDepth 20000 in
theorem mw_47 : Cond.fieldLink RX1 9 "ScanForge$Rung" "cellKinds" "[I" ∈ gw_all := gw_in (k := 47) (by decide +kernel) (by decide +kernel)
set_option maxRecDepth 20000 in
theorem mw_48 : Cond.fieldLink RX1 15 "ScanForge$Rung" "cellBits" "[I" ∈ gw_all := gw_in (k := 48) (by decide +kernel) (by decide +kernel)
set_option maxRecDepth 20000 in
theorem mw_49 : Cond.fieldLink RX1 18 "ScanForge$Rung" "wasOn" "[Z" ∈ gw_all := gw_in (k := 49) (by decide +kernel) (by decide +kernel)
set_option maxRecDepth 20000 in
theorem mw_50 : Cond.fieldLink RX1 22 "ScanForge$Rung" "links" "[Z" ∈ gw_all := gw_in (k := 50) (by decide +kernel) (by decide +kernel)
set_option maxRecDepth 20000 in
theorem mw_51 : Cond.fieldLink RX1 25 "ScanForge$Rung" "powers" "[Z" ∈ gw_all := gw_in (k := 51) (by decide +kernel) (by decide +kernel)
set_option maxRecDepth 20000 in
theorem mw_52 : Cond.fieldLink RX1 28 "ScanForge$Rung" "coilKinds" "[I" ∈ gw_all := gw_in (k := 52) (by decide +kernel) (by decide +kernel)
set_option maxRecDepth 20000 in
theorem mw_54 : Cond.fieldLink RX1 31 "ScanForge$Rung" "coilNumbers" "[I" ∈ gw_all := gw_in (k := 54) (by decide +kernel) (by decide +kernel)
set_option maxRecDepth 20000 in
theorem mw_71 : Cond.arrayClass .boolean ∈ gw_all := gw_in (k := 71) (by decide +kernel) (by decide +kernel)
set_option maxRecDepth 20000 in
theorem mw_72 : Cond.arrayClass .double ∈ gw_all := gw_in (k := 72) (by decide +kernel) (by decide +kernel)
set_option maxRecDepth 20000 in
theorem mw_73 : Cond.arrayClass .int ∈ gw_all := gw_in (k := 73) (by decide +kernel) (by decide +kernel)
set_option maxRecDepth 20000 in
theorem mw_74 : Cond.classLink RX2 24 RX0 ∈ gw_all := gw_in (k := 74) (by decide +kernel) (by decide +kernel)
set_option maxRecDepth 20000 in
theorem mw_76 : Cond.instantiable RX0 12 ∈ gw_all := gw_in (k := 76) (by decide +kernel) (by decide +kernel)
set_option maxRecDepth 20000 in
theorem mw_78 : Cond.instanceMethod yX0_init ∈ gw_all := gw_in (k := 78) (by decide +kernel) (by decide +kernel)
set_option maxRecDepth 20000 in
theorem mw_79 : Cond.code yX0_init prog_2_method_1_code 1 none ∈ gw_all := gw_in (k := 79) (by decide +kernel) (by decide +kernel)
set_option maxRecDepth 20000 in
theorem mw_80 : Cond.methodLink RX0 3 objectInit ∈ gw_all := gw_in (k := 80) (by decide +kernel) (by decide +kernel)
set_option maxRecDepth 20000 in
theorem mw_81 : Cond.fieldLink RX0 9 "ScanForge$Block" "kind" "I" ∈ gw_all := gw_in (k := 81) (by decide +kernel) (by decide +kernel)
set_option maxRecDepth 20000 in
theorem mw_82 : Cond.fieldLink RX0 15 "ScanForge$Block" "a" "I" ∈ gw_all := gw_in (k := 82) (by decide +kernel) (by decide +kernel)
set_option maxRecDepth 20000 in
theorem mw_83 : Cond.fieldLink RX0 18 "ScanForge$Block" "b" "I" ∈ gw_all := gw_in (k := 83) (by decide +kernel) (by decide +kernel)
set_option maxRecDepth 20000 in
theorem mw_84 : Cond.fieldLink RX0 21 "ScanForge$Block" "c" "I" ∈ gw_all := gw_in (k := 84) (by decide +kernel) (by decide +kernel)
set_option maxRecDepth 20000 in
theorem mw_85 : Cond.fieldLink RX0 24 "ScanForge$Block" "n" "D" ∈ gw_all := gw_in (k := 85) (by decide +kernel) (by decide +kernel)
set_option maxRecDepth 20000 in
theorem mw_86 : Cond.fieldLink RX0 47 "ScanForge$Block" "guarded" "Z" ∈ gw_all := gw_in (k := 86) (by decide +kernel) (by decide +kernel)
set_option maxRecDepth 20000 in
theorem mw_88 : Cond.fieldLink RX0 28 "ScanForge$Block" "counted" "I" ∈ gw_all := gw_in (k := 88) (by decide +kernel) (by decide +kernel)
set_option maxRecDepth 20000 in
theorem mw_89 : Cond.fieldLink RX0 31 "ScanForge$Block" "hadPower" "Z" ∈ gw_all := gw_in (k := 89) (by decide +kernel) (by decide +kernel)
set_option maxRecDepth 20000 in
theorem mw_90 : Cond.fieldLink RX0 35 "ScanForge$Block" "sum" "D" ∈ gw_all := gw_in (k := 90) (by decide +kernel) (by decide +kernel)
set_option maxRecDepth 20000 in
theorem mw_91 : Cond.fieldLink RX0 38 "ScanForge$Block" "errorBefore" "D" ∈ gw_all := gw_in (k := 91) (by decide +kernel) (by decide +kernel)
set_option maxRecDepth 20000 in
theorem mw_92 : Cond.fieldLink RX0 41 "ScanForge$Block" "runs" "I" ∈ gw_all := gw_in (k := 92) (by decide +kernel) (by decide +kernel)
set_option maxRecDepth 20000 in
theorem mw_93 : Cond.fieldLink RX0 44 "ScanForge$Block" "faults" "I" ∈ gw_all := gw_in (k := 93) (by decide +kernel) (by decide +kernel)
set_option maxRecDepth 20000 in
theorem mw_119 : Cond.fieldLink RX2 9 "ScanForge" "bits" "[Z" ∈ gw_all := gw_in (k := 119) (by decide +kernel) (by decide +kernel)
set_option maxRecDepth 20000 in
theorem mw_120 : Cond.fieldLink RX2 13 "ScanForge" "registers" "[D" ∈ gw_all := gw_in (k := 120) (by decide +kernel) (by decide +kernel)
set_option maxRecDepth 20000 in
theorem mw_121 : Cond.fieldLink RX2 19 "ScanForge" "rungs" "[LScanForge$Rung;" ∈ gw_all := gw_in (k := 121) (by decide +kernel) (by decide +kernel)
set_option maxRecDepth 20000 in
theorem mw_122 : Cond.fieldLink RX2 26 "ScanForge" "blocks" "[LScanForge$Block;" ∈ gw_all := gw_in (k := 122) (by decide +kernel) (by decide +kernel)
set_option maxRecDepth 20000 in
theorem mw_123 : Cond.fieldLink RX2 106 "ScanForge" "scans" "I" ∈ gw_all := gw_in (k := 123) (by decide +kernel) (by decide +kernel)
set_option maxRecDepth 20000 in
theorem mw_124 : Cond.fieldLink RX2 120 "ScanForge" "faults" "I" ∈ gw_all := gw_in (k := 124) (by decide +kernel) (by decide +kernel)
set_option maxRecDepth 20000 in
theorem mw_125 : Cond.fieldLink RX2 31 "ScanForge" "haltedBy" "I" ∈ gw_all := gw_in (k := 125) (by decide +kernel) (by decide +kernel)
set_option maxRecDepth 20000 in
theorem mw_141 : Cond.methodLink RL 110 yX2_resume ∈ gw_all := gw_in (k := 141) (by decide +kernel) (by decide +kernel)
set_option maxRecDepth 20000 in
theorem mw_142 : Cond.instanceMethod yX2_resume ∈ gw_all := gw_in (k := 142) (by decide +kernel) (by decide +kernel)
set_option maxRecDepth 20000 in
theorem mw_143 : Cond.selects RX2 yX2_resume yX2_resume ∈ gw_all := gw_in (k := 143) (by decide +kernel) (by decide +kernel)
set_option maxRecDepth 20000 in
theorem mw_144 : Cond.code yX2_resume prog_1_method_10_code 2 (some .int) ∈ gw_all := gw_in (k := 144) (by decide +kernel) (by decide +kernel)
set_option maxRecDepth 20000 in
theorem mw_145 : Cond.methodLink RL 71 yL_cell ∈ gw_all := gw_in (k := 145) (by decide +kernel) (by decide +kernel)
set_option maxRecDepth 20000 in
theorem mw_146 : Cond.static yL_cell ∈ gw_all := gw_in (k := 146) (by decide +kernel) (by decide +kernel)
set_option maxRecDepth 20000 in
theorem mw_147 : Cond.codeWith yL_cell method_3_code 8 (some .int) [(0, 16, 19, 13), (0, 16, 23, 15)] ∈ gw_all := gw_in (k := 147) (by decide +kernel) (by decide +kernel)
set_option maxRecDepth 20000 in
theorem mw_148 : Cond.classLink RL 13 "java/lang/IllegalArgumentException" ∈ gw_all := gw_in (k := 148) (by decide +kernel) (by decide +kernel)
set_option maxRecDepth 20000 in
theorem mw_149 : Cond.classLink RL 15 "java/lang/IndexOutOfBoundsException" ∈ gw_all := gw_in (k := 149) (by decide +kernel) (by decide +kernel)
set_option maxRecDepth 20000 in
theorem mw_150 : Cond.methodLink RL 7 yX2_cell ∈ gw_all := gw_in (k := 150) (by decide +kernel) (by decide +kernel)
set_option maxRecDepth 20000 in
theorem mw_151 : Cond.instanceMethod yX2_cell ∈ gw_all := gw_in (k := 151) (by decide +kernel) (by decide +kernel)
set_option maxRecDepth 20000 in
theorem mw_152 : Cond.selects RX2 yX2_cell yX2_cell ∈ gw_all := gw_in (k := 152) (by decide +kernel) (by decide +kernel)
set_option maxRecDepth 20000 in
theorem mw_153 : Cond.code yX2_cell prog_1_method_2_code 6 (some .int) ∈ gw_all := gw_in (k := 153) (by decide +kernel) (by decide +kernel)
set_option maxRecDepth 20000 in
theorem mw_154 : Cond.methodLink RX2 35 yX2_isCell ∈ gw_all := gw_in (k := 154) (by decide +kernel) (by decide +kernel)
set_option maxRecDepth 20000 in
theorem mw_155 : Cond.static yX2_isCell ∈ gw_all := gw_in (k := 155) (by decide +kernel) (by decide +kernel)
set_option maxRecDepth 20000 in
theorem mw_156 : Cond.code yX2_isCell prog_1_method_22_code 2 (some .boolean) ∈ gw_all := gw_in (k := 156) (by decide +kernel) (by decide +kernel)
set_option maxRecDepth 20000 in
theorem mw_157 : Cond.methodLink RX2 83 yX2_isBetween ∈ gw_all := gw_in (k := 157) (by decide +kernel) (by decide +kernel)
set_option maxRecDepth 20000 in
theorem mw_158 : Cond.static yX2_isBetween ∈ gw_all := gw_in (k := 158) (by decide +kernel) (by decide +kernel)
set_option maxRecDepth 20000 in
theorem mw_159 : Cond.code yX2_isBetween prog_1_method_18_code 3 (some .boolean) ∈ gw_all := gw_in (k := 159) (by decide +kernel) (by decide +kernel)
set_option maxRecDepth 20000 in
theorem mw_160 : Cond.methodLink RX2 133 yX2_looksAtBit ∈ gw_all := gw_in (k := 160) (by decide +kernel) (by decide +kernel)
set_option maxRecDepth 20000 in
theorem mw_161 : Cond.static yX2_looksAtBit ∈ gw_all := gw_in (k := 161) (by decide +kernel) (by decide +kernel)
set_option maxRecDepth 20000 in
theorem mw_162 : Cond.code yX2_looksAtBit prog_1_method_21_code 1 (some .boolean) ∈ gw_all := gw_in (k := 162) (by decide +kernel) (by decide +kernel)
set_option maxRecDepth 20000 in
theorem mw_163 : Cond.methodLink RX2 46 yX2_isIndex ∈ gw_all := gw_in (k := 163) (by decide +kernel) (by decide +kernel)
set_option maxRecDepth 20000 in
theorem mw_164 : Cond.static yX2_isIndex ∈ gw_all := gw_in (k := 164) (by decide +kernel) (by decide +kernel)
set_option maxRecDepth 20000 in
theorem mw_165 : Cond.code yX2_isIndex prog_1_method_19_code 2 (some .boolean) ∈ gw_all := gw_in (k := 165) (by decide +kernel) (by decide +kernel)
set_option maxRecDepth 20000 in
theorem mw_166 : Cond.methodLink RX2 39 yX2_demandNumbers ∈ gw_all := gw_in (k := 166) (by decide +kernel) (by decide +kernel)
set_option maxRecDepth 20000 in
theorem mw_167 : Cond.static yX2_demandNumbers ∈ gw_all := gw_in (k := 167) (by decide +kernel) (by decide +kernel)
set_option maxRecDepth 20000 in
theorem mw_168 : Cond.code yX2_demandNumbers prog_1_method_16_code 1 none ∈ gw_all := gw_in (k := 168) (by decide +kernel) (by decide +kernel)
set_option maxRecDepth 20000 in
theorem mw_169 : Cond.classLink RX2 123 "java/lang/IllegalArgumentException" ∈ gw_all := gw_in (k := 169) (by decide +kernel) (by decide +kernel)
set_option maxRecDepth 20000 in
theorem mw_170 : Cond.instantiable "java/lang/IllegalArgumentException" 6 ∈ gw_all := gw_in (k := 170) (by decide +kernel) (by decide +kernel)
set_option maxRecDepth 20000 in
theorem mw_209 : Cond.instantiable "java/lang/Throwable" 6 ∈ gw_all := gw_in (k := 209) (by decide +kernel) (by decide +kernel)
set_option maxRecDepth 20000 in
theorem mw_237 : Cond.arrayClass .byte ∈ gw_all := gw_in (k := 237) (by decide +kernel) (by decide +kernel)
set_option maxRecDepth 20000 in
theorem mw_238 : Cond.methodLink RX2 43 yX2_isRow ∈ gw_all := gw_in (k := 238) (by decide +kernel) (by decide +kernel)
set_option maxRecDepth 20000 in
theorem mw_239 : Cond.static yX2_isRow ∈ gw_all := gw_in (k := 239) (by decide +kernel) (by decide +kernel)
set_option maxRecDepth 20000 in
theorem mw_240 : Cond.code yX2_isRow prog_1_method_20_code 2 (some .boolean) ∈ gw_all := gw_in (k := 240) (by decide +kernel) (by decide +kernel)
set_option maxRecDepth 20000 in
theorem mw_241 : Cond.methodLink RX2 49 yX2_demandPlace ∈ gw_all := gw_in (k := 241) (by decide +kernel) (by decide +kernel)
set_option maxRecDepth 20000 in
theorem mw_242 : Cond.static yX2_demandPlace ∈ gw_all := gw_in (k := 242) (by decide +kernel) (by decide +kernel)
set_option maxRecDepth 20000 in
theorem mw_243 : Cond.code yX2_demandPlace prog_1_method_17_code 1 none ∈ gw_all := gw_in (k := 243) (by decide +kernel) (by decide +kernel)
set_option maxRecDepth 20000 in
theorem mw_244 : Cond.classLink RX2 128 "java/lang/IndexOutOfBoundsException" ∈ gw_all := gw_in (k := 244) (by decide +kernel) (by decide +kernel)
set_option maxRecDepth 20000 in
theorem mw_245 : Cond.instantiable "java/lang/IndexOutOfBoundsException" 6 ∈ gw_all := gw_in (k := 245) (by decide +kernel) (by decide +kernel)
set_option maxRecDepth 20000 in
theorem mw_260 : Cond.methodLink RX2 52 yX1_changeCell ∈ gw_all := gw_in (k := 260) (by decide +kernel) (by decide +kernel)
set_option maxRecDepth 20000 in
theorem mw_261 : Cond.instanceMethod yX1_changeCell ∈ gw_all := gw_in (k := 261) (by decide +kernel) (by decide +kernel)
set_option maxRecDepth 20000 in
theorem mw_262 : Cond.selects RX1 yX1_changeCell yX1_changeCell ∈ gw_all := gw_in (k := 262) (by decide +kernel) (by decide +kernel)
set_option maxRecDepth 20000 in
theorem mw_263 : Cond.code yX1_changeCell prog_3_method_2_code 7 (some .int) ∈ gw_all := gw_in (k := 263) (by decide +kernel) (by decide +kernel)
set_option maxRecDepth 20000 in
theorem mw_265 : Cond.methodLink RL 81 yL_link ∈ gw_all := gw_in (k := 265) (by decide +kernel) (by decide +kernel)
set_option maxRecDepth 20000 in
theorem mw_266 : Cond.static yL_link ∈ gw_all := gw_in (k := 266) (by decide +kernel) (by decide +kernel)
set_option maxRecDepth 20000 in
theorem mw_267 : Cond.codeWith yL_link method_4_code 7 (some .int) [(0, 21, 24, 15)] ∈ gw_all := gw_in (k := 267) (by decide +kernel) (by decide +kernel)
set_option maxRecDepth 20000 in
theorem mw_268 : Cond.methodLink RL 17 yX2_link ∈ gw_all := gw_in (k := 268) (by decide +kernel) (by decide +kernel)
set_option maxRecDepth 20000 in
theorem mw_269 : Cond.instanceMethod yX2_link ∈ gw_all := gw_in (k := 269) (by decide +kernel) (by decide +kernel)
set_option maxRecDepth 20000 in
theorem mw_270 : Cond.selects RX2 yX2_link yX2_link ∈ gw_all := gw_in (k := 270) (by decide +kernel) (by decide +kernel)
set_option maxRecDepth 20000 in
theorem mw_271 : Cond.code yX2_link prog_1_method_3_code 5 (some .boolean) ∈ gw_all := gw_in (k := 271) (by decide +kernel) (by decide +kernel)
set_option maxRecDepth 20000 in
theorem mw_272 : Cond.methodLink RX2 56 yX1_changeLink ∈ gw_all := gw_in (k := 272) (by decide +kernel) (by decide +kernel)
set_option maxRecDepth 20000 in
theorem mw_273 : Cond.instanceMethod yX1_changeLink ∈ gw_all := gw_in (k := 273) (by decide +kernel) (by decide +kernel)
set_option maxRecDepth 20000 in
theorem mw_274 : Cond.selects RX1 yX1_changeLink yX1_changeLink ∈ gw_all := gw_in (k := 274) (by decide +kernel) (by decide +kernel)
set_option maxRecDepth 20000 in
theorem mw_275 : Cond.code yX1_changeLink prog_3_method_3_code 6 (some .boolean) ∈ gw_all := gw_in (k := 275) (by decide +kernel) (by decide +kernel)
set_option maxRecDepth 20000 in
theorem mw_276 : Cond.methodLink RL 85 yL_coil ∈ gw_all := gw_in (k := 276) (by decide +kernel) (by decide +kernel)
set_option maxRecDepth 20000 in
theorem mw_277 : Cond.static yL_coil ∈ gw_all := gw_in (k := 277) (by decide +kernel) (by decide +kernel)
set_option maxRecDepth 20000 in
theorem mw_278 : Cond.codeWith yL_coil method_5_code 7 (some .int) [(0, 14, 17, 13), (0, 14, 21, 15)] ∈ gw_all := gw_in (k := 278) (by decide +kernel) (by decide +kernel)
set_option maxRecDepth 20000 in
theorem mw_279 : Cond.methodLink RL 21 yX2_coil ∈ gw_all := gw_in (k := 279) (by decide +kernel) (by decide +kernel)
set_option maxRecDepth 20000 in
theorem mw_280 : Cond.instanceMethod yX2_coil ∈ gw_all := gw_in (k := 280) (by decide +kernel) (by decide +kernel)
set_option maxRecDepth 20000 in
theorem mw_281 : Cond.selects RX2 yX2_coil yX2_coil ∈ gw_all := gw_in (k := 281) (by decide +kernel) (by decide +kernel)
set_option maxRecDepth 20000 in
theorem mw_282 : Cond.code yX2_coil prog_1_method_4_code 5 (some .int) ∈ gw_all := gw_in (k := 282) (by decide +kernel) (by decide +kernel)
set_option maxRecDepth 20000 in
theorem mw_283 : Cond.methodLink RX2 60 yX2_isCoil ∈ gw_all := gw_in (k := 283) (by decide +kernel) (by decide +kernel)
set_option maxRecDepth 20000 in
theorem mw_284 : Cond.static yX2_isCoil ∈ gw_all := gw_in (k := 284) (by decide +kernel) (by decide +kernel)
set_option maxRecDepth 20000 in
theorem mw_285 : Cond.code yX2_isCoil prog_1_method_23_code 2 (some .boolean) ∈ gw_all := gw_in (k := 285) (by decide +kernel) (by decide +kernel)
set_option maxRecDepth 20000 in
theorem mw_286 : Cond.methodLink RX2 63 yX1_changeCoil ∈ gw_all := gw_in (k := 286) (by decide +kernel) (by decide +kernel)
set_option maxRecDepth 20000 in
theorem mw_287 : Cond.instanceMethod yX1_changeCoil ∈ gw_all := gw_in (k := 287) (by decide +kernel) (by decide +kernel)
set_option maxRecDepth 20000 in
theorem mw_288 : Cond.selects RX1 yX1_changeCoil yX1_changeCoil ∈ gw_all := gw_in (k := 288) (by decide +kernel) (by decide +kernel)
set_option maxRecDepth 20000 in
theorem mw_289 : Cond.code yX1_changeCoil prog_3_method_4_code 5 (some .int) ∈ gw_all := gw_in (k := 289) (by decide +kernel) (by decide +kernel)
set_option maxRecDepth 20000 in
theorem mw_290 : Cond.methodLink RL 91 yL_block ∈ gw_all := gw_in (k := 290) (by decide +kernel) (by decide +kernel)
set_option maxRecDepth 20000 in
theorem mw_291 : Cond.static yL_block ∈ gw_all := gw_in (k := 291) (by decide +kernel) (by decide +kernel)
set_option maxRecDepth 20000 in
theorem mw_292 : Cond.codeWith yL_block method_6_code 10 (some .int) [(0, 18, 21, 13), (0, 18, 25, 15)] ∈ gw_all := gw_in (k := 292) (by decide +kernel) (by decide +kernel)
set_option maxRecDepth 20000 in
theorem mw_293 : Cond.methodLink RL 25 yX2_block ∈ gw_all := gw_in (k := 293) (by decide +kernel) (by decide +kernel)
set_option maxRecDepth 20000 in
theorem mw_294 : Cond.instanceMethod yX2_block ∈ gw_all := gw_in (k := 294) (by decide +kernel) (by decide +kernel)
set_option maxRecDepth 20000 in
theorem mw_295 : Cond.selects RX2 yX2_block yX2_block ∈ gw_all := gw_in (k := 295) (by decide +kernel) (by decide +kernel)
set_option maxRecDepth 20000 in
theorem mw_296 : Cond.code yX2_block prog_1_method_5_code 8 (some .int) ∈ gw_all := gw_in (k := 296) (by decide +kernel) (by decide +kernel)
set_option maxRecDepth 20000 in
theorem mw_297 : Cond.methodLink RX2 67 yX2_isBlock ∈ gw_all := gw_in (k := 297) (by decide +kernel) (by decide +kernel)
set_option maxRecDepth 20000 in
theorem mw_298 : Cond.static yX2_isBlock ∈ gw_all := gw_in (k := 298) (by decide +kernel) (by decide +kernel)
set_option maxRecDepth 20000 in
theorem mw_299 : Cond.code yX2_isBlock prog_1_method_24_code 6 (some .boolean) ∈ gw_all := gw_in (k := 299) (by decide +kernel) (by decide +kernel)
set_option maxRecDepth 20000 in
theorem mw_300 : Cond.methodLink RX2 137 yX2_isBlockBit ∈ gw_all := gw_in (k := 300) (by decide +kernel) (by decide +kernel)
set_option maxRecDepth 20000 in
theorem mw_301 : Cond.static yX2_isBlockBit ∈ gw_all := gw_in (k := 301) (by decide +kernel) (by decide +kernel)
set_option maxRecDepth 20000 in
theorem mw_302 : Cond.code yX2_isBlockBit prog_1_method_26_code 1 (some .boolean) ∈ gw_all := gw_in (k := 302) (by decide +kernel) (by decide +kernel)
set_option maxRecDepth 20000 in
theorem mw_303 : Cond.methodLink RX2 140 yX2_isCountable ∈ gw_all := gw_in (k := 303) (by decide +kernel) (by decide +kernel)
set_option maxRecDepth 20000 in
theorem mw_304 : Cond.static yX2_isCountable ∈ gw_all := gw_in (k := 304) (by decide +kernel) (by decide +kernel)
set_option maxRecDepth 20000 in
theorem mw_305 : Cond.code yX2_isCountable prog_1_method_27_code 2 (some .boolean) ∈ gw_all := gw_in (k := 305) (by decide +kernel) (by decide +kernel)
set_option maxRecDepth 20000 in
theorem mw_306 : Cond.constantDouble RX2 149 4652007308841189376 ∈ gw_all := gw_in (k := 306) (by decide +kernel) (by decide +kernel)
set_option maxRecDepth 20000 in
theorem mw_307 : Cond.methodLink RX2 143 yX2_areRegisters ∈ gw_all := gw_in (k := 307) (by decide +kernel) (by decide +kernel)
set_option maxRecDepth 20000 in
theorem mw_308 : Cond.static yX2_areRegisters ∈ gw_all := gw_in (k := 308) (by decide +kernel) (by decide +kernel)
set_option maxRecDepth 20000 in
theorem mw_309 : Cond.code yX2_areRegisters prog_1_method_25_code 2 (some .boolean) ∈ gw_all := gw_in (k := 309) (by decide +kernel) (by decide +kernel)
set_option maxRecDepth 20000 in
theorem mw_310 : Cond.methodLink RX2 146 yX2_isSetting ∈ gw_all := gw_in (k := 310) (by decide +kernel) (by decide +kernel)
set_option maxRecDepth 20000 in
theorem mw_311 : Cond.static yX2_isSetting ∈ gw_all := gw_in (k := 311) (by decide +kernel) (by decide +kernel)
