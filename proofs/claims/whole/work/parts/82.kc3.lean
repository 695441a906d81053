/-! THE CONSTRUCTORS, 3: the reference's -/
section Kc3
theorem kd_mod_0 : decode prog_9_method_1_code 0 = .ok (.aload_n 0, 1) := by decide +kernel
theorem kd_mod_1 : decode prog_9_method_1_code 1 = .ok (.invokespecial 1, 3) := by decide +kernel
theorem kd_mod_4 : decode prog_9_method_1_code 4 = .ok (.aload_n 0, 1) := by decide +kernel
theorem kd_mod_5 : decode prog_9_method_1_code 5 = .ok (.bipush 6, 2) := by decide +kernel
theorem kd_mod_7 : decode prog_9_method_1_code 7 = .ok (.newarray .int, 2) := by decide +kernel
theorem kd_mod_9 : decode prog_9_method_1_code 9 = .ok (.putfield 7, 3) := by decide +kernel
theorem kd_mod_12 : decode prog_9_method_1_code 12 = .ok (.aload_n 0, 1) := by decide +kernel
theorem kd_mod_13 : decode prog_9_method_1_code 13 = .ok (.bipush 6, 2) := by decide +kernel
theorem kd_mod_15 : decode prog_9_method_1_code 15 = .ok (.newarray .int, 2) := by decide +kernel
theorem kd_mod_17 : decode prog_9_method_1_code 17 = .ok (.putfield 13, 3) := by decide +kernel
theorem kd_mod_20 : decode prog_9_method_1_code 20 = .ok (.aload_n 0, 1) := by decide +kernel
theorem kd_mod_21 : decode prog_9_method_1_code 21 = .ok (.bipush 6, 2) := by decide +kernel
theorem kd_mod_23 : decode prog_9_method_1_code 23 = .ok (.newarray .int, 2) := by decide +kernel
theorem kd_mod_25 : decode prog_9_method_1_code 25 = .ok (.putfield 16, 3) := by decide +kernel
theorem kd_mod_28 : decode prog_9_method_1_code 28 = .ok (.aload_n 0, 1) := by decide +kernel
theorem kd_mod_29 : decode prog_9_method_1_code 29 = .ok (.bipush 6, 2) := by decide +kernel
theorem kd_mod_31 : decode prog_9_method_1_code 31 = .ok (.newarray .boolean, 2) := by decide +kernel
theorem kd_mod_33 : decode prog_9_method_1_code 33 = .ok (.putfield 19, 3) := by decide +kernel
theorem kd_mod_36 : decode prog_9_method_1_code 36 = .ok (.aload_n 0, 1) := by decide +kernel
theorem kd_mod_37 : decode prog_9_method_1_code 37 = .ok (.bipush 6, 2) := by decide +kernel
theorem kd_mod_39 : decode prog_9_method_1_code 39 = .ok (.newarray .boolean, 2) := by decide +kernel
theorem kd_mod_41 : decode prog_9_method_1_code 41 = .ok (.putfield 23, 3) := by decide +kernel
theorem kd_mod_44 : decode prog_9_method_1_code 44 = .ok (.aload_n 0, 1) := by decide +kernel
theorem kd_mod_45 : decode prog_9_method_1_code 45 = .ok (.bipush 6, 2) := by decide +kernel
theorem kd_mod_47 : decode prog_9_method_1_code 47 = .ok (.newarray .int, 2) := by decide +kernel
theorem kd_mod_49 : decode prog_9_method_1_code 49 = .ok (.putfield 26, 3) := by decide +kernel
theorem kd_mod_52 : decode prog_9_method_1_code 52 = .ok (.aload_n 0, 1) := by decide +kernel
theorem kd_mod_53 : decode prog_9_method_1_code 53 = .ok (.bipush 6, 2) := by decide +kernel
theorem kd_mod_55 : decode prog_9_method_1_code 55 = .ok (.newarray .int, 2) := by decide +kernel
theorem kd_mod_57 : decode prog_9_method_1_code 57 = .ok (.putfield 29, 3) := by decide +kernel
theorem kd_mod_60 : decode prog_9_method_1_code 60 = .ok (.aload_n 0, 1) := by decide +kernel
theorem kd_mod_61 : decode prog_9_method_1_code 61 = .ok (.bipush 6, 2) := by decide +kernel
theorem kd_mod_63 : decode prog_9_method_1_code 63 = .ok (.newarray .boolean, 2) := by decide +kernel
theorem kd_mod_65 : decode prog_9_method_1_code 65 = .ok (.putfield 32, 3) := by decide +kernel
theorem kd_mod_68 : decode prog_9_method_1_code 68 = .ok (.aload_n 0, 1) := by decide +kernel
theorem kd_mod_69 : decode prog_9_method_1_code 69 = .ok (.bipush 6, 2) := by decide +kernel
theorem kd_mod_71 : decode prog_9_method_1_code 71 = .ok (.newarray .int, 2) := by decide +kernel
theorem kd_mod_73 : decode prog_9_method_1_code 73 = .ok (.putfield 35, 3) := by decide +kernel
theorem kd_mod_76 : decode prog_9_method_1_code 76 = .ok (.aload_n 0, 1) := by decide +kernel
theorem kd_mod_77 : decode prog_9_method_1_code 77 = .ok (.bipush 6, 2) := by decide +kernel
theorem kd_mod_79 : decode prog_9_method_1_code 79 = .ok (.newarray .int, 2) := by decide +kernel
theorem kd_mod_81 : decode prog_9_method_1_code 81 = .ok (.putfield 38, 3) := by decide +kernel
theorem kd_mod_84 : decode prog_9_method_1_code 84 = .ok (.aload_n 0, 1) := by decide +kernel
theorem kd_mod_85 : decode prog_9_method_1_code 85 = .ok (.bipush 6, 2) := by decide +kernel
theorem kd_mod_87 : decode prog_9_method_1_code 87 = .ok (.newarray .int, 2) := by decide +kernel
theorem kd_mod_89 : decode prog_9_method_1_code 89 = .ok (.putfield 41, 3) := by decide +kernel
theorem kd_mod_92 : decode prog_9_method_1_code 92 = .ok (.aload_n 0, 1) := by decide +kernel
theorem kd_mod_93 : decode prog_9_method_1_code 93 = .ok (.bipush 6, 2) := by decide +kernel
theorem kd_mod_95 : decode prog_9_method_1_code 95 = .ok (.newarray .boolean, 2) := by decide +kernel
theorem kd_mod_97 : decode prog_9_method_1_code 97 = .ok (.putfield 44, 3) := by decide +kernel
theorem kd_mod_100 : decode prog_9_method_1_code 100 = .ok (.aload_n 0, 1) := by decide +kernel
theorem kd_mod_101 : decode prog_9_method_1_code 101 = .ok (.bipush 6, 2) := by decide +kernel
theorem kd_mod_103 : decode prog_9_method_1_code 103 = .ok (.newarray .int, 2) := by decide +kernel
theorem kd_mod_105 : decode prog_9_method_1_code 105 = .ok (.putfield 47, 3) := by decide +kernel
theorem kd_mod_108 : decode prog_9_method_1_code 108 = .ok (.aload_n 0, 1) := by decide +kernel
theorem kd_mod_109 : decode prog_9_method_1_code 109 = .ok (.bipush 6, 2) := by decide +kernel
theorem kd_mod_111 : decode prog_9_method_1_code 111 = .ok (.newarray .int, 2) := by decide +kernel
theorem kd_mod_113 : decode prog_9_method_1_code 113 = .ok (.putfield 50, 3) := by decide +kernel
theorem kd_mod_116 : decode prog_9_method_1_code 116 = .ok (.aload_n 0, 1) := by decide +kernel
theorem kd_mod_117 : decode prog_9_method_1_code 117 = .ok (.bipush 6, 2) := by decide +kernel
theorem kd_mod_119 : decode prog_9_method_1_code 119 = .ok (.newarray .int, 2) := by decide +kernel
theorem kd_mod_121 : decode prog_9_method_1_code 121 = .ok (.putfield 53, 3) := by decide +kernel
theorem kd_mod_124 : decode prog_9_method_1_code 124 = .ok (.aload_n 0, 1) := by decide +kernel
theorem kd_mod_125 : decode prog_9_method_1_code 125 = .ok (.bipush 6, 2) := by decide +kernel
theorem kd_mod_127 : decode prog_9_method_1_code 127 = .ok (.newarray .int, 2) := by decide +kernel
theorem kd_mod_129 : decode prog_9_method_1_code 129 = .ok (.putfield 56, 3) := by decide +kernel
theorem kd_mod_132 : decode prog_9_method_1_code 132 = .ok (.aload_n 0, 1) := by decide +kernel
theorem kd_mod_133 : decode prog_9_method_1_code 133 = .ok (.bipush 48, 2) := by decide +kernel
theorem kd_mod_135 : decode prog_9_method_1_code 135 = .ok (.newarray .int, 2) := by decide +kernel
theorem kd_mod_137 : decode prog_9_method_1_code 137 = .ok (.putfield 59, 3) := by decide +kernel
theorem kd_mod_140 : decode prog_9_method_1_code 140 = .ok (.aload_n 0, 1) := by decide +kernel
theorem kd_mod_141 : decode prog_9_method_1_code 141 = .ok (.bipush 6, 2) := by decide +kernel
theorem kd_mod_143 : decode prog_9_method_1_code 143 = .ok (.newarray .int, 2) := by decide +kernel
theorem kd_mod_145 : decode prog_9_method_1_code 145 = .ok (.putfield 62, 3) := by decide +kernel
theorem kd_mod_148 : decode prog_9_method_1_code 148 = .ok (.aload_n 0, 1) := by decide +kernel
theorem kd_mod_149 : decode prog_9_method_1_code 149 = .ok (.bipush 24, 2) := by decide +kernel
theorem kd_mod_151 : decode prog_9_method_1_code 151 = .ok (.newarray .int, 2) := by decide +kernel
theorem kd_mod_153 : decode prog_9_method_1_code 153 = .ok (.putfield 65, 3) := by decide +kernel
theorem kd_mod_156 : decode prog_9_method_1_code 156 = .ok (.aload_n 0, 1) := by decide +kernel
theorem kd_mod_157 : decode prog_9_method_1_code 157 = .ok (.bipush 6, 2) := by decide +kernel
theorem kd_mod_159 : decode prog_9_method_1_code 159 = .ok (.newarray .int, 2) := by decide +kernel
theorem kd_mod_161 : decode prog_9_method_1_code 161 = .ok (.putfield 68, 3) := by decide +kernel
theorem kd_mod_164 : decode prog_9_method_1_code 164 = .ok (.aload_n 0, 1) := by decide +kernel
theorem kd_mod_165 : decode prog_9_method_1_code 165 = .ok (.bipush 6, 2) := by decide +kernel
theorem kd_mod_167 : decode prog_9_method_1_code 167 = .ok (.newarray .int, 2) := by decide +kernel
theorem kd_mod_169 : decode prog_9_method_1_code 169 = .ok (.putfield 71, 3) := by decide +kernel
theorem kd_mod_172 : decode prog_9_method_1_code 172 = .ok (.aload_n 0, 1) := by decide +kernel
theorem kd_mod_173 : decode prog_9_method_1_code 173 = .ok (.bipush 6, 2) := by decide +kernel
theorem kd_mod_175 : decode prog_9_method_1_code 175 = .ok (.newarray .int, 2) := by decide +kernel
theorem kd_mod_177 : decode prog_9_method_1_code 177 = .ok (.putfield 74, 3) := by decide +kernel
theorem kd_mod_180 : decode prog_9_method_1_code 180 = .ok (.aload_n 0, 1) := by decide +kernel
theorem kd_mod_181 : decode prog_9_method_1_code 181 = .ok (.bipush 6, 2) := by decide +kernel
theorem kd_mod_183 : decode prog_9_method_1_code 183 = .ok (.newarray .int, 2) := by decide +kernel
theorem kd_mod_185 : decode prog_9_method_1_code 185 = .ok (.putfield 77, 3) := by decide +kernel
theorem kd_mod_188 : decode prog_9_method_1_code 188 = .ok (.aload_n 0, 1) := by decide +kernel
theorem kd_mod_189 : decode prog_9_method_1_code 189 = .ok (.bipush 6, 2) := by decide +kernel
theorem kd_mod_191 : decode prog_9_method_1_code 191 = .ok (.newarray .int, 2) := by decide +kernel
theorem kd_mod_193 : decode prog_9_method_1_code 193 = .ok (.putfield 80, 3) := by decide +kernel
theorem kd_mod_196 : decode prog_9_method_1_code 196 = .ok (.aload_n 0, 1) := by decide +kernel
theorem kd_mod_197 : decode prog_9_method_1_code 197 = .ok (.bipush 6, 2) := by decide +kernel
theorem kd_mod_199 : decode prog_9_method_1_code 199 = .ok (.newarray .int, 2) := by decide +kernel
theorem kd_mod_201 : decode prog_9_method_1_code 201 = .ok (.putfield 83, 3) := by decide +kernel
theorem kd_mod_204 : decode prog_9_method_1_code 204 = .ok (.aload_n 0, 1) := by decide +kernel
theorem kd_mod_205 : decode prog_9_method_1_code 205 = .ok (.bipush 6, 2) := by decide +kernel
theorem kd_mod_207 : decode prog_9_method_1_code 207 = .ok (.newarray .int, 2) := by decide +kernel
theorem kd_mod_209 : decode prog_9_method_1_code 209 = .ok (.putfield 86, 3) := by decide +kernel
theorem kd_mod_212 : decode prog_9_method_1_code 212 = .ok (.aload_n 0, 1) := by decide +kernel
theorem kd_mod_213 : decode prog_9_method_1_code 213 = .ok (.bipush 6, 2) := by decide +kernel
theorem kd_mod_215 : decode prog_9_method_1_code 215 = .ok (.newarray .int, 2) := by decide +kernel
theorem kd_mod_217 : decode prog_9_method_1_code 217 = .ok (.putfield 89, 3) := by decide +kernel
theorem kd_mod_220 : decode prog_9_method_1_code 220 = .ok (.aload_n 0, 1) := by decide +kernel
theorem kd_mod_221 : decode prog_9_method_1_code 221 = .ok (.bipush 6, 2) := by decide +kernel
theorem kd_mod_223 : decode prog_9_method_1_code 223 = .ok (.newarray .int, 2) := by decide +kernel
theorem kd_mod_225 : decode prog_9_method_1_code 225 = .ok (.putfield 92, 3) := by decide +kernel
theorem kd_mod_228 : decode prog_9_method_1_code 228 = .ok (.aload_n 0, 1) := by decide +kernel
theorem kd_mod_229 : decode prog_9_method_1_code 229 = .ok (.iconst 5, 1) := by decide +kernel
theorem kd_mod_230 : decode prog_9_method_1_code 230 = .ok (.putfield 95, 3) := by decide +kernel
theorem kd_mod_233 : decode prog_9_method_1_code 233 = .ok (.aload_n 0, 1) := by decide +kernel
theorem kd_mod_234 : decode prog_9_method_1_code 234 = .ok (.bipush 16, 2) := by decide +kernel
theorem kd_mod_236 : decode prog_9_method_1_code 236 = .ok (.newarray .int, 2) := by decide +kernel
theorem kd_mod_238 : decode prog_9_method_1_code 238 = .ok (.putfield 99, 3) := by decide +kernel
theorem kd_mod_241 : decode prog_9_method_1_code 241 = .ok (.aload_n 0, 1) := by decide +kernel
theorem kd_mod_242 : decode prog_9_method_1_code 242 = .ok (.bipush 16, 2) := by decide +kernel
theorem kd_mod_244 : decode prog_9_method_1_code 244 = .ok (.newarray .boolean, 2) := by decide +kernel
theorem kd_mod_246 : decode prog_9_method_1_code 246 = .ok (.putfield 102, 3) := by decide +kernel
theorem kd_mod_249 : decode prog_9_method_1_code 249 = .ok (.aload_n 0, 1) := by decide +kernel
theorem kd_mod_250 : decode prog_9_method_1_code 250 = .ok (.bipush 16, 2) := by decide +kernel
theorem kd_mod_252 : decode prog_9_method_1_code 252 = .ok (.newarray .int, 2) := by decide +kernel
theorem kd_mod_254 : decode prog_9_method_1_code 254 = .ok (.putfield 105, 3) := by decide +kernel
theorem kd_mod_257 : decode prog_9_method_1_code 257 = .ok (.aload_n 0, 1) := by decide +kernel
theorem kd_mod_258 : decode prog_9_method_1_code 258 = .ok (.bipush 16, 2) := by decide +kernel
theorem kd_mod_260 : decode prog_9_method_1_code 260 = .ok (.newarray .int, 2) := by decide +kernel
theorem kd_mod_262 : decode prog_9_method_1_code 262 = .ok (.putfield 108, 3) := by decide +kernel
theorem kd_mod_265 : decode prog_9_method_1_code 265 = .ok (.aload_n 0, 1) := by decide +kernel
theorem kd_mod_266 : decode prog_9_method_1_code 266 = .ok (.bipush 16, 2) := by decide +kernel
theorem kd_mod_268 : decode prog_9_method_1_code 268 = .ok (.newarray .int, 2) := by decide +kernel
theorem kd_mod_270 : decode prog_9_method_1_code 270 = .ok (.putfield 111, 3) := by decide +kernel
theorem kd_mod_273 : decode prog_9_method_1_code 273 = .ok (.aload_n 0, 1) := by decide +kernel
theorem kd_mod_274 : decode prog_9_method_1_code 274 = .ok (.bipush 16, 2) := by decide +kernel
theorem kd_mod_276 : decode prog_9_method_1_code 276 = .ok (.newarray .int, 2) := by decide +kernel
theorem kd_mod_278 : decode prog_9_method_1_code 278 = .ok (.putfield 114, 3) := by decide +kernel
theorem kd_mod_281 : decode prog_9_method_1_code 281 = .ok (.aload_n 0, 1) := by decide +kernel
theorem kd_mod_282 : decode prog_9_method_1_code 282 = .ok (.bipush 16, 2) := by decide +kernel
theorem kd_mod_284 : decode prog_9_method_1_code 284 = .ok (.newarray .int, 2) := by decide +kernel
theorem kd_mod_286 : decode prog_9_method_1_code 286 = .ok (.putfield 117, 3) := by decide +kernel
theorem kd_mod_289 : decode prog_9_method_1_code 289 = .ok (.aload_n 0, 1) := by decide +kernel
theorem kd_mod_290 : decode prog_9_method_1_code 290 = .ok (.bipush 16, 2) := by decide +kernel
theorem kd_mod_292 : decode prog_9_method_1_code 292 = .ok (.newarray .int, 2) := by decide +kernel
theorem kd_mod_294 : decode prog_9_method_1_code 294 = .ok (.putfield 120, 3) := by decide +kernel
theorem kd_mod_297 : decode prog_9_method_1_code 297 = .ok (.aload_n 0, 1) := by decide +kernel
theorem kd_mod_298 : decode prog_9_method_1_code 298 = .ok (.bipush 64, 2) := by decide +kernel
theorem kd_mod_300 : decode prog_9_method_1_code 300 = .ok (.newarray .int, 2) := by decide +kernel
theorem kd_mod_302 : decode prog_9_method_1_code 302 = .ok (.putfield 123, 3) := by decide +kernel
theorem kd_mod_305 : decode prog_9_method_1_code 305 = .ok (.aload_n 0, 1) := by decide +kernel
theorem kd_mod_306 : decode prog_9_method_1_code 306 = .ok (.bipush 8, 2) := by decide +kernel
theorem kd_mod_308 : decode prog_9_method_1_code 308 = .ok (.newarray .int, 2) := by decide +kernel
theorem kd_mod_310 : decode prog_9_method_1_code 310 = .ok (.putfield 126, 3) := by decide +kernel
theorem kd_mod_313 : decode prog_9_method_1_code 313 = .ok (.aload_n 0, 1) := by decide +kernel
theorem kd_mod_314 : decode prog_9_method_1_code 314 = .ok (.bipush 64, 2) := by decide +kernel
theorem kd_mod_316 : decode prog_9_method_1_code 316 = .ok (.newarray .int, 2) := by decide +kernel
theorem kd_mod_318 : decode prog_9_method_1_code 318 = .ok (.putfield 129, 3) := by decide +kernel
theorem kd_mod_321 : decode prog_9_method_1_code 321 = .ok (.return_, 1) := by decide +kernel
theorem kf_mod_kind : Cond.fieldLink "PluggedBusModel" 7 (en_Ft 7 0).1 (en_Ft 7 0).2.1 (en_Ft 7 0).2.2.1 ∈ en_all := en_all_m 666 (by decide +kernel) (by decide +kernel)
theorem kf_mod_first : Cond.fieldLink "PluggedBusModel" 13 (en_Ft 7 1).1 (en_Ft 7 1).2.1 (en_Ft 7 1).2.2.1 ∈ en_all := en_all_m 667 (by decide +kernel) (by decide +kernel)
theorem kf_mod_second : Cond.fieldLink "PluggedBusModel" 16 (en_Ft 7 2).1 (en_Ft 7 2).2.1 (en_Ft 7 2).2.2.1 ∈ en_all := en_all_m 668 (by decide +kernel) (by decide +kernel)
theorem kf_mod_open : Cond.fieldLink "PluggedBusModel" 19 (en_Ft 7 3).1 (en_Ft 7 3).2.1 (en_Ft 7 3).2.2.1 ∈ en_all := en_all_m 669 (by decide +kernel) (by decide +kernel)
theorem kf_mod_changed : Cond.fieldLink "PluggedBusModel" 23 (en_Ft 7 4).1 (en_Ft 7 4).2.1 (en_Ft 7 4).2.2.1 ∈ en_all := en_all_m 670 (by decide +kernel) (by decide +kernel)
theorem kf_mod_listens : Cond.fieldLink "PluggedBusModel" 26 (en_Ft 7 5).1 (en_Ft 7 5).2.1 (en_Ft 7 5).2.2.1 ∈ en_all := en_all_m 671 (by decide +kernel) (by decide +kernel)
theorem kf_mod_setupAt : Cond.fieldLink "PluggedBusModel" 29 (en_Ft 7 6).1 (en_Ft 7 6).2.1 (en_Ft 7 6).2.2.1 ∈ en_all := en_all_m 672 (by decide +kernel) (by decide +kernel)
theorem kf_mod_configured : Cond.fieldLink "PluggedBusModel" 32 (en_Ft 7 7).1 (en_Ft 7 7).2.1 (en_Ft 7 7).2.2.1 ∈ en_all := en_all_m 673 (by decide +kernel) (by decide +kernel)
theorem kf_mod_inSide : Cond.fieldLink "PluggedBusModel" 35 (en_Ft 7 8).1 (en_Ft 7 8).2.1 (en_Ft 7 8).2.2.1 ∈ en_all := en_all_m 674 (by decide +kernel) (by decide +kernel)
theorem kf_mod_outSide : Cond.fieldLink "PluggedBusModel" 38 (en_Ft 7 9).1 (en_Ft 7 9).2.1 (en_Ft 7 9).2.2.1 ∈ en_all := en_all_m 675 (by decide +kernel) (by decide +kernel)
theorem kf_mod_busy : Cond.fieldLink "PluggedBusModel" 41 (en_Ft 7 10).1 (en_Ft 7 10).2.1 (en_Ft 7 10).2.2.1 ∈ en_all := en_all_m 676 (by decide +kernel) (by decide +kernel)
theorem kf_mod_holds : Cond.fieldLink "PluggedBusModel" 44 (en_Ft 7 11).1 (en_Ft 7 11).2.1 (en_Ft 7 11).2.2.1 ∈ en_all := en_all_m 677 (by decide +kernel) (by decide +kernel)
theorem kf_mod_held : Cond.fieldLink "PluggedBusModel" 47 (en_Ft 7 12).1 (en_Ft 7 12).2.1 (en_Ft 7 12).2.2.1 ∈ en_all := en_all_m 678 (by decide +kernel) (by decide +kernel)
theorem kf_mod_doing : Cond.fieldLink "PluggedBusModel" 50 (en_Ft 7 13).1 (en_Ft 7 13).2.1 (en_Ft 7 13).2.2.1 ∈ en_all := en_all_m 679 (by decide +kernel) (by decide +kernel)
theorem kf_mod_next : Cond.fieldLink "PluggedBusModel" 53 (en_Ft 7 14).1 (en_Ft 7 14).2.1 (en_Ft 7 14).2.2.1 ∈ en_all := en_all_m 680 (by decide +kernel) (by decide +kernel)
theorem kf_mod_left : Cond.fieldLink "PluggedBusModel" 56 (en_Ft 7 15).1 (en_Ft 7 15).2.1 (en_Ft 7 15).2.2.1 ∈ en_all := en_all_m 681 (by decide +kernel) (by decide +kernel)
theorem kf_mod_block : Cond.fieldLink "PluggedBusModel" 59 (en_Ft 7 16).1 (en_Ft 7 16).2.1 (en_Ft 7 16).2.2.1 ∈ en_all := en_all_m 682 (by decide +kernel) (by decide +kernel)
theorem kf_mod_codes : Cond.fieldLink "PluggedBusModel" 62 (en_Ft 7 17).1 (en_Ft 7 17).2.1 (en_Ft 7 17).2.2.1 ∈ en_all := en_all_m 683 (by decide +kernel) (by decide +kernel)
theorem kf_mod_code : Cond.fieldLink "PluggedBusModel" 65 (en_Ft 7 18).1 (en_Ft 7 18).2.1 (en_Ft 7 18).2.2.1 ∈ en_all := en_all_m 684 (by decide +kernel) (by decide +kernel)
theorem kf_mod_view : Cond.fieldLink "PluggedBusModel" 68 (en_Ft 7 19).1 (en_Ft 7 19).2.1 (en_Ft 7 19).2.2.1 ∈ en_all := en_all_m 685 (by decide +kernel) (by decide +kernel)
theorem kf_mod_number : Cond.fieldLink "PluggedBusModel" 71 (en_Ft 7 20).1 (en_Ft 7 20).2.1 (en_Ft 7 20).2.2.1 ∈ en_all := en_all_m 686 (by decide +kernel) (by decide +kernel)
theorem kf_mod_known : Cond.fieldLink "PluggedBusModel" 74 (en_Ft 7 21).1 (en_Ft 7 21).2.1 (en_Ft 7 21).2.2.1 ∈ en_all := en_all_m 687 (by decide +kernel) (by decide +kernel)
theorem kf_mod_blocks : Cond.fieldLink "PluggedBusModel" 77 (en_Ft 7 22).1 (en_Ft 7 22).2.1 (en_Ft 7 22).2.2.1 ∈ en_all := en_all_m 688 (by decide +kernel) (by decide +kernel)
theorem kf_mod_interval : Cond.fieldLink "PluggedBusModel" 80 (en_Ft 7 23).1 (en_Ft 7 23).2.1 (en_Ft 7 23).2.2.1 ∈ en_all := en_all_m 689 (by decide +kernel) (by decide +kernel)
theorem kf_mod_cost : Cond.fieldLink "PluggedBusModel" 83 (en_Ft 7 24).1 (en_Ft 7 24).2.1 (en_Ft 7 24).2.2.1 ∈ en_all := en_all_m 690 (by decide +kernel) (by decide +kernel)
theorem kf_mod_hostIn : Cond.fieldLink "PluggedBusModel" 86 (en_Ft 7 25).1 (en_Ft 7 25).2.1 (en_Ft 7 25).2.2.1 ∈ en_all := en_all_m 691 (by decide +kernel) (by decide +kernel)
theorem kf_mod_hostOut : Cond.fieldLink "PluggedBusModel" 89 (en_Ft 7 26).1 (en_Ft 7 26).2.1 (en_Ft 7 26).2.2.1 ∈ en_all := en_all_m 692 (by decide +kernel) (by decide +kernel)
theorem kf_mod_faults : Cond.fieldLink "PluggedBusModel" 92 (en_Ft 7 27).1 (en_Ft 7 27).2.1 (en_Ft 7 27).2.2.1 ∈ en_all := en_all_m 693 (by decide +kernel) (by decide +kernel)
theorem kf_mod_served : Cond.fieldLink "PluggedBusModel" 95 (en_Ft 7 29).1 (en_Ft 7 29).2.1 (en_Ft 7 29).2.2.1 ∈ en_all := en_all_m 695 (by decide +kernel) (by decide +kernel)
theorem kf_mod_orderPort : Cond.fieldLink "PluggedBusModel" 99 (en_Ft 7 32).1 (en_Ft 7 32).2.1 (en_Ft 7 32).2.2.1 ∈ en_all := en_all_m 698 (by decide +kernel) (by decide +kernel)
theorem kf_mod_writes : Cond.fieldLink "PluggedBusModel" 102 (en_Ft 7 33).1 (en_Ft 7 33).2.1 (en_Ft 7 33).2.2.1 ∈ en_all := en_all_m 699 (by decide +kernel) (by decide +kernel)
theorem kf_mod_orderBlock : Cond.fieldLink "PluggedBusModel" 105 (en_Ft 7 34).1 (en_Ft 7 34).2.1 (en_Ft 7 34).2.2.1 ∈ en_all := en_all_m 700 (by decide +kernel) (by decide +kernel)
theorem kf_mod_orderCount : Cond.fieldLink "PluggedBusModel" 108 (en_Ft 7 35).1 (en_Ft 7 35).2.1 (en_Ft 7 35).2.2.1 ∈ en_all := en_all_m 701 (by decide +kernel) (by decide +kernel)
theorem kf_mod_orderValue : Cond.fieldLink "PluggedBusModel" 111 (en_Ft 7 36).1 (en_Ft 7 36).2.1 (en_Ft 7 36).2.2.1 ∈ en_all := en_all_m 702 (by decide +kernel) (by decide +kernel)
theorem kf_mod_orderEnd : Cond.fieldLink "PluggedBusModel" 114 (en_Ft 7 37).1 (en_Ft 7 37).2.1 (en_Ft 7 37).2.2.1 ∈ en_all := en_all_m 703 (by decide +kernel) (by decide +kernel)
theorem kf_mod_orderStep : Cond.fieldLink "PluggedBusModel" 117 (en_Ft 7 38).1 (en_Ft 7 38).2.1 (en_Ft 7 38).2.2.1 ∈ en_all := en_all_m 704 (by decide +kernel) (by decide +kernel)
theorem kf_mod_taken : Cond.fieldLink "PluggedBusModel" 120 (en_Ft 7 39).1 (en_Ft 7 39).2.1 (en_Ft 7 39).2.2.1 ∈ en_all := en_all_m 705 (by decide +kernel) (by decide +kernel)
theorem kf_mod_numbers : Cond.fieldLink "PluggedBusModel" 123 (en_Ft 7 40).1 (en_Ft 7 40).2.1 (en_Ft 7 40).2.2.1 ∈ en_all := en_all_m 706 (by decide +kernel) (by decide +kernel)
theorem kf_mod_latest : Cond.fieldLink "PluggedBusModel" 126 (en_Ft 7 42).1 (en_Ft 7 42).2.1 (en_Ft 7 42).2.2.1 ∈ en_all := en_all_m 708 (by decide +kernel) (by decide +kernel)
theorem kf_mod_losses : Cond.fieldLink "PluggedBusModel" 129 (en_Ft 7 43).1 (en_Ft 7 43).2.1 (en_Ft 7 43).2.2.1 ∈ en_all := en_all_m 709 (by decide +kernel) (by decide +kernel)
variable {p : Program} {l : Launch} {e : Env} {R : Room} {s : State} {m : MethodId} {args : Array Value} {below : List Frame} {meth : Method} {c : Code} {Q : State → Prop} {H0 H : Heap} {locs : List Loc} {cells slots : Nat} {A : Nat → Prop} {D : va_G} {Rw : va_W} {cA : ClassId} {ls : Array Slot}
/-- an array is made and laid into a final field -/
theorem km_arr {pc j idx N' h0 : Nat} {n : Int} {nv : Int32} {at0 : ArrayType} {ty : FieldType} {fs : List Value} (hx : p.tables.exec = Jvm.exec) (hb : c.code = prog_9_method_1_code) (hts : ∀ w ∈ kw (ky "PluggedBusModel") prog_9_method_1_code 1, w.before args s = true) (hown : s.vm.findClass "PluggedBusModel" = some m.cls) (hin : meth.name = "<init>") (hl : ls[0]? = some (.val (.ref h0))) (hA : ∀ q, H0.size ≤ q → A q) (hK : va_K D en_cl [] s)
    (d0 : decode prog_9_method_1_code pc = .ok (.aload_n 0, 1)) (d1 : decode prog_9_method_1_code (pc + 1) = .ok (.bipush n, 2)) (hv : (Int8.ofInt n).toInt32 = nv) (hn0 : ¬ nv < 0) (hN : nv.toNatClampNeg = N') (d2 : decode prog_9_method_1_code (pc + 3) = .ok (.newarray at0, 2)) (hty : newarray.typeOf at0 = ty) (harr : Cond.arrayClass (newarray.typeOf at0) ∈ en_all) (h2 : (ty = .int ∨ ty = .boolean) ∧ N' ≤ 64) (hfc : s.vm.findClass ("[" ++ ty.toString) = some cA)
    (d3 : decode prog_9_method_1_code (pc + 5) = .ok (.putfield idx, 3)) (hlink : Cond.fieldLink "PluggedBusModel" idx (en_Ft 7 j).1 (en_Ft 7 j).2.1 (en_Ft 7 j).2.2.1 ∈ en_all) (hj : j < 47) (hfin : (en_Ft 7 j).2.2.2 = true) (hdc : (en_Ft 7 j).1 = "PluggedBusModel") (hpd : parseFieldDescriptor (en_Ft 7 j).2.2.1 = some (.array ty)) (hlen : fs.length = 47) (hcells : cells + 1 ≤ R.cells) (hslots : slots + N' ≤ R.slots)
    (hP : va_P D en_cl ((h0, .inr (7, fs)) :: Rw) H) (hD : va_D A ((h0, .inr (7, fs)) :: Rw)) (hS : va_S A H0 H locs)
    (kk : ∀ (q : Nat) (H : Heap) (locs : List Loc), va_K D en_cl [(cA, ty)] s → va_P D en_cl ((h0, .inr (7, fs.set j (.ref q))) :: (Rw ++ [(q, .inl (cA, N', .inl (fun _ => 0)))])) H → va_D A ((h0, .inr (7, fs.set j (.ref q))) :: (Rw ++ [(q, .inl (cA, N', .inl (fun _ => 0)))])) → va_S A H0 H locs → W p l e R s m args below meth c H locs (cells + 1) (slots + N') Q (F0 m (pc + 8) ls [])) : W p l e R s m args below meth c H locs cells slots Q (F0 m pc ls []) := by
  have hall : ∀ w ∈ en_all, w.before args s = true := fun w hw => hts w (List.mem_cons_of_mem _ hw)
  refine lv_aload_n hx hb d0 rfl hl ?_
  refine lv_bipush (v := nv) hx hb d1 hv ?_
  refine va_newa (atype := at0) (ty := ty) (N' := N') (a0 := (N', .inl (fun _ => 0))) hx hb (hall _ harr) hty hK hP hD hS hA (fun _ => by rcases h2.1 with rfl | rfl <;> rfl) hn0 hN (by rcases h2.1 with rfl | rfl <;> (have h3 := h2.2; show N' * _ ≤ 536870912; exact Nat.le_trans (Nat.mul_le_mul_right _ h3) (by decide))) hcells hslots d2 (fun q cB H hK2 hP hD hS => ?_)
  have ec : cA = cB := Option.some.inj (hfc.symm.trans (by rcases h2.1 with rfl | rfl <;> exact (hK2.2 0 _ rfl).2))
  subst ec
  refine va_putF (D := D) (ci := 7) (v := .ref q) (ty := .array ty) (C := en_cn 7) (T := en_Ft 7) (N := en_N 7) hx hb hts (fun w hw => List.mem_cons_of_mem _ (ko_mod_l w hw)) (en_ty 7) (en_ty_all 7 (by omega)) (en_nm_all 7 (by omega)) hown hK hP hD hS 0 rfl rfl j hj (hall _ hlink) (fun _ h9 => h9) hfin hin hdc hpd rfl rfl (by rw [hlen]; exact hj) d3 (fun H locs hP hD hS => ?_)
  exact kk q H locs hK2 hP hD hS
abbrev km_E : Type := Nat × Nat × Nat × Bool × Nat × Nat
abbrev km_ty (b : Bool) : FieldType := if b then .boolean else .int
abbrev km_at (b : Bool) : ArrayType := if b then .boolean else .int
/-- what the tables say of a place where an array is made: place, field, length, boolean or int, link, word -/
abbrev km_f (q : km_E) : Prop := decode prog_9_method_1_code q.1 = .ok (.aload_n 0, 1) ∧ decode prog_9_method_1_code (q.1 + 1) = .ok (.bipush (q.2.2.1 : Int), 2) ∧ decode prog_9_method_1_code (q.1 + 3) = .ok (.newarray (km_at q.2.2.2.1), 2) ∧ decode prog_9_method_1_code (q.1 + 5) = .ok (.putfield q.2.2.2.2.1, 3) ∧ lw_tbl[q.2.2.2.2.2]? = some (.fieldLink "PluggedBusModel" q.2.2.2.2.1 (en_Ft 7 q.2.1).1 (en_Ft 7 q.2.1).2.1 (en_Ft 7 q.2.1).2.2.1) ∧ goodWord (.fieldLink "PluggedBusModel" q.2.2.2.2.1 (en_Ft 7 q.2.1).1 (en_Ft 7 q.2.1).2.1 (en_Ft 7 q.2.1).2.2.1) = true ∧ q.2.1 < 47 ∧ (en_Ft 7 q.2.1).2.2.2 = true ∧ (en_Ft 7 q.2.1).1 = "PluggedBusModel" ∧ parseFieldDescriptor (en_Ft 7 q.2.1).2.2.1 = some (.array (km_ty q.2.2.2.1)) ∧ q.2.2.1 ≤ 64 ∧ (Int8.ofInt (q.2.2.1 : Int)).toInt32 = nI q.2.2.1
def km_ch : Nat → List km_E → Bool
  | _, [] => true
  | pc, q :: T => q.1 == pc && km_ch (pc + 8) T
def km_sl : List km_E → Nat
  | [] => 0
  | q :: T => q.2.2.1 + km_sl T
def km_fs : List Value → List km_E → List Nat → List Value
  | fs, q :: T, a :: qs => km_fs (fs.set q.2.1 (.ref a)) T qs
  | fs, _, _ => fs
def km_rw (cI cZ : ClassId) : List km_E → List Nat → va_W
  | q :: T, a :: qs => (a, .inl (if q.2.2.2.1 then cZ else cI, q.2.2.1, .inl (fun _ => 0))) :: km_rw cI cZ T qs
  | _, _ => []
def km_t1 : List km_E := [(4, 0, 6, false, 7, 666), (12, 1, 6, false, 13, 667), (20, 2, 6, false, 16, 668), (28, 3, 6, true, 19, 669), (36, 4, 6, true, 23, 670), (44, 5, 6, false, 26, 671), (52, 6, 6, false, 29, 672), (60, 7, 6, true, 32, 673), (68, 8, 6, false, 35, 674), (76, 9, 6, false, 38, 675), (84, 10, 6, false, 41, 676), (92, 11, 6, true, 44, 677), (100, 12, 6, false, 47, 678), (108, 13, 6, false, 50, 679), (116, 14, 6, false, 53, 680), (124, 15, 6, false, 56, 681), (132, 16, 48, false, 59, 682), (140, 17, 6, false, 62, 683), (148, 18, 24, false, 65, 684), (156, 19, 6, false, 68, 685), (164, 20, 6, false, 71, 686), (172, 21, 6, false, 74, 687), (180, 22, 6, false, 77, 688), (188, 23, 6, false, 80, 689), (196, 24, 6, false, 83, 690), (204, 25, 6, false, 86, 691), (212, 26, 6, false, 89, 692), (220, 27, 6, false, 92, 693)]
def km_t2 : List km_E := [(233, 32, 16, false, 99, 698), (241, 33, 16, true, 102, 699), (249, 34, 16, false, 105, 700), (257, 35, 16, false, 108, 701), (265, 36, 16, false, 111, 702), (273, 37, 16, false, 114, 703), (281, 38, 16, false, 117, 704), (289, 39, 16, false, 120, 705), (297, 40, 64, false, 123, 706), (305, 42, 8, false, 126, 708), (313, 43, 64, false, 129, 709)]
theorem km_t1_f : ∀ q ∈ km_t1, km_f q := by decide +kernel
theorem km_t2_f : ∀ q ∈ km_t2, km_f q := by decide +kernel
theorem km_seg {h0 : Nat} {cI cZ : ClassId} (hx : p.tables.exec = Jvm.exec) (hb : c.code = prog_9_method_1_code) (hts : ∀ w ∈ kw (ky "PluggedBusModel") prog_9_method_1_code 1, w.before args s = true) (hown : s.vm.findClass "PluggedBusModel" = some m.cls) (hin : meth.name = "<init>") (hl : ls[0]? = some (.val (.ref h0))) (hA : ∀ q, H0.size ≤ q → A q) (hK : va_K D en_cl [] s) (hI : s.vm.findClass ("[" ++ FieldType.int.toString) = some cI) (hZ : s.vm.findClass ("[" ++ FieldType.boolean.toString) = some cZ) :
    ∀ (T : List km_E) (pc cells slots : Nat) (fs : List Value) (Rw : va_W) (H : Heap) (locs : List Loc), (∀ q ∈ T, km_f q) → km_ch pc T = true → fs.length = 47 → cells + T.length ≤ R.cells → slots + km_sl T ≤ R.slots → va_P D en_cl ((h0, .inr (7, fs)) :: Rw) H → va_D A ((h0, .inr (7, fs)) :: Rw) → va_S A H0 H locs →
    (∀ (qs : List Nat) (H : Heap) (locs : List Loc), qs.length = T.length → (km_fs fs T qs).length = 47 → ((∃ q ∈ T, q.2.2.2.1 = false) → va_K D en_cl [(cI, .int)] s) → ((∃ q ∈ T, q.2.2.2.1 = true) → va_K D en_cl [(cZ, .boolean)] s) → va_P D en_cl ((h0, .inr (7, km_fs fs T qs)) :: (Rw ++ km_rw cI cZ T qs)) H → va_D A ((h0, .inr (7, km_fs fs T qs)) :: (Rw ++ km_rw cI cZ T qs)) → va_S A H0 H locs → W p l e R s m args below meth c H locs (cells + T.length) (slots + km_sl T) Q (F0 m (pc + 8 * T.length) ls [])) → W p l e R s m args below meth c H locs cells slots Q (F0 m pc ls []) := by
  intro T
  induction T with
  | nil =>
    intro pc cells slots fs Rw H locs _ _ hlen _ _ hP hD hS kk
    have k1 := kk [] H locs rfl hlen (fun ⟨q, hq, _⟩ => nomatch hq) (fun ⟨q, hq, _⟩ => nomatch hq) (by rw [show Rw ++ km_rw cI cZ [] [] = Rw from List.append_nil Rw]; exact hP) (by rw [show Rw ++ km_rw cI cZ [] [] = Rw from List.append_nil Rw]; exact hD) hS
    exact k1
  | cons q T ih =>
    intro pc cells slots fs Rw H locs hf hch hlen hc hs hP hD hS kk
    obtain ⟨d0, d1, d2, d3, hw, hg, hj, hfin, hdc, hpd, h64, hv⟩ := hf q List.mem_cons_self
    have hch2 : q.1 = pc ∧ km_ch (pc + 8) T = true := by
      have : (q.1 == pc && km_ch (pc + 8) T) = true := hch
      simpa using this
    obtain ⟨rfl, hch3⟩ := hch2
    have hl1 : (q :: T).length = T.length + 1 := rfl
    have hs1 : km_sl (q :: T) = q.2.2.1 + km_sl T := rfl
    have hcl : (nI q.2.2.1).toNatClampNeg = q.2.2.1 := nI_clamp (by omega)
    have hn0 : ¬ nI q.2.2.1 < 0 := by
      rw [show (0 : Int32) = nI 0 from rfl, cb_lt (by omega) (by omega)]
      omega
    have hty : newarray.typeOf (km_at q.2.2.2.1) = km_ty q.2.2.2.1 := by cases q.2.2.2.1 <;> rfl
    refine km_arr (cA := if q.2.2.2.1 then cZ else cI) (pc := q.1) (j := q.2.1) (nv := nI q.2.2.1) (N' := q.2.2.1) (at0 := km_at q.2.2.2.1) (ty := km_ty q.2.2.2.1) hx hb hts hown hin hl hA hK d0 d1 hv hn0 hcl d2 hty (by rw [hty]; cases q.2.2.2.1; exact ko_ai; exact ko_az) ⟨by cases q.2.2.2.1; exact Or.inl rfl; exact Or.inr rfl, h64⟩ (by cases q.2.2.2.1; exact hI; exact hZ) d3 (en_all_m _ hw hg) hj hfin hdc hpd hlen (by omega) (by omega) hP hD hS (fun a H locs hKa hP hD hS => ?_)
    refine ih (q.1 + 8) (cells + 1) (slots + q.2.2.1) (fs.set q.2.1 (.ref a)) (Rw ++ [(a, .inl (if q.2.2.2.1 then cZ else cI, q.2.2.1, .inl (fun _ => 0)))]) H locs (fun r hr => hf r (List.mem_cons_of_mem _ hr)) hch3 (by rw [List.length_set]; exact hlen) (by omega) (by omega) hP hD hS (fun qs H locs hql hfl hKI hKZ hP hD hS => ?_)
    rw [List.append_assoc] at hP hD
    have k1 := kk (a :: qs) H locs (by rw [List.length_cons, hql]; rfl) hfl (fun hx => by
        obtain ⟨r, hr, hb⟩ := hx
        rcases List.mem_cons.mp hr with rfl | hr
        · rw [hb] at hKa; exact hKa
        · exact hKI ⟨r, hr, hb⟩) (fun hx => by
        obtain ⟨r, hr, hb⟩ := hx
        rcases List.mem_cons.mp hr with rfl | hr
        · rw [hb] at hKa; exact hKa
        · exact hKZ ⟨r, hr, hb⟩) hP hD hS
    rw [hl1, hs1] at k1
    rw [show cells + 1 + T.length = cells + (T.length + 1) by omega, show slots + q.2.2.1 + km_sl T = slots + (q.2.2.1 + km_sl T) by omega, show q.1 + 8 + 8 * T.length = q.1 + 8 * (T.length + 1) by omega]
    exact k1
def km_0 : List Value := [.null, .null, .null, .null, .null, .null, .null, .null, .null, .null, .null, .null, .null, .null, .null, .null, .null, .null, .null, .null, .null, .null, .null, .null, .null, .null, .null, .null, .int 0, .int 0, .int 0, .int 0, .null, .null, .null, .null, .null, .null, .null, .null, .null, .int 0, .null, .null, .int 0, .int 0, .int 0]
def km_l (cI cZ : ClassId) (h0 : Nat) (v : List Nat × List Nat) : va_W := (h0, .inr (7, km_fs ((km_fs km_0 km_t1 v.1).set 29 (.int 5)) km_t2 v.2)) :: (([] ++ km_rw cI cZ km_t1 v.1) ++ km_rw cI cZ km_t2 v.2)
set_option maxRecDepth 100000 in
theorem k_mod (l : Launch) (D : va_G) (cI cZ : ClassId) (h0 sz : Nat) : Met l (ky "PluggedBusModel") (kw (ky "PluggedBusModel") prog_9_method_1_code 1) ({ frames := 1, cells := 39, slots := 492, locals := 12 }) (va_Pc [.ref h0] (fun U => U.heap.size = sz ∧ va_P D en_cl [(h0, .inr (7, km_0))] U.heap ∧ va_K D en_cl [] U ∧ va_D (fun _ => True) [(h0, .inr (7, km_0))] ∧ U.vm.findClass ("[" ++ FieldType.int.toString) = some cI ∧ U.vm.findClass ("[" ++ FieldType.boolean.toString) = some cZ)) (va_Qv (fun v : List Nat × List Nat => v.1.length = 28 ∧ v.2.length = 11) (fun v t => va_P D en_cl (km_l cI cZ h0 v) t.heap ∧ va_K D en_cl [(cI, .int), (cZ, .boolean)] t ∧ va_D (va_A [(h0, .inr (7, km_0))] sz) (km_l cI cZ h0 v)) (va_A [(h0, .inr (7, km_0))] sz)) 39 492 (va_A [(h0, .inr (7, km_0))] sz) := by
  refine Met.ofW (cc := prog_9_method_1_code) (maxL := 1) (ret := none) (by decide) rfl ?_
  intro p e s m args below meth c s₁ B hml hv
  obtain ⟨rfl, hsz, hP, hK, hD0, hI, hZ⟩ := hv
  have hx := B.exec
  have hb := B.bytes
  have hr := B.returns
  have hts := atoms_spec (ws := kw (ky "PluggedBusModel") prog_9_method_1_code 1) B.pre
  have hall : ∀ w ∈ en_all, w.before ([Value.ref h0]).toArray s = true := fun w hw => hts w (List.mem_cons_of_mem _ hw)
  have hown : s.vm.findClass "PluggedBusModel" = some m.cls := findClass_of_methodNamed B.named
  have hin : meth.name = "<init>" := (name_of_methodNamed B.named B.method).1
  subst hsz
  have hD := hD0.self (sz := s.heap.size)
  generalize hAe : va_A [(h0, .inr (7, km_0))] s.heap.size = A at hD ⊢
  have hA : ∀ q : Nat, s.heap.size ≤ q → A q := fun q h => by rw [← hAe]; exact Or.inr h
  have hS : va_S A s.heap s.heap [] := va_S.rf
  have hl := lv_entry ([.ref h0]) (n := 1) (Nat.le_of_ble_eq_true rfl)
  rw [lg_entry_eq]
  generalize (lg_sl ([.ref h0]) ++ List.replicate (1 - (lg_sl ([.ref h0])).length) Slot.unset).toArray = ls at hl ⊢
  have hl : lv_has ls 1 [(0, .ref h0)] := hl
  have hl0 : ls[0]? = some (.val (.ref h0)) := lv_at hl 0 rfl
  refine lv_aload_n hx hb kd_mod_0 rfl (lv_at hl 0 rfl) ?_
  refine W.objInit hx hb hown (hall _ ko_mod_o) (hall _ ko_i) (hall _ ko_c) rfl (by rw [hml]; exact hl.1) rfl kd_mod_1 (Nat.le_of_ble_eq_true rfl) (Nat.le_of_ble_eq_true rfl) ?_
  refine W.eq (g2 := F0 m 4 ls []) rfl ?_
  refine km_seg (cI := cI) (cZ := cZ) hx hb hts hown hin hl0 hA hK hI hZ km_t1 4 0 0 km_0 [] s.heap [] km_t1_f (by decide) rfl (show 0 + 28 ≤ 39 by decide) (show 0 + 228 ≤ 492 by decide) hP hD hS (fun v1 H locs hv1 hf1 hKI hKZ hP hD hS => ?_)
  refine W.widen (k := 28) (n := 228) (by decide) (by decide) ?_
  refine W.eq (g2 := F0 m 228 ls []) rfl ?_
  refine lv_aload_n hx hb kd_mod_228 rfl hl0 ?_
  refine lv_iconst (v := 5) hx hb kd_mod_229 (by decide) ?_
  refine va_put (D := D) (ci := 7) (v := .int 5) (ty := .int) (C := en_cn 7) (T := en_Ft 7) (N := en_N 7) hx hb hts (fun w hw => List.mem_cons_of_mem _ (ko_mod_l w hw)) (en_ty 7) (en_ty_all 7 (by omega)) (en_nm_all 7 (by omega)) hown hK hP hD hS 0 rfl rfl 29 (by decide) (hall _ kf_mod_served) (fun _ h9 => h9) rfl (by decide +kernel) rfl rfl (by rw [hf1]; decide) kd_mod_230 (fun H locs hP hD hS => ?_)
  refine W.eq (g2 := F0 m 233 ls []) rfl ?_
  refine km_seg (cI := cI) (cZ := cZ) hx hb hts hown hin hl0 hA hK hI hZ km_t2 233 28 228 ((km_fs km_0 km_t1 v1).set 29 (.int 5)) _ H locs km_t2_f (by decide) (by rw [List.length_set]; exact hf1) (show 28 + 11 ≤ 39 by decide) (show 228 + 264 ≤ 492 by decide) hP hD hS (fun v2 H locs hv2 hf2 _ _ hP hD hS => ?_)
  refine W.widen (k := 39) (n := 492) (by decide) (by decide) ?_
  refine W.eq (g2 := F0 m 321 ls []) rfl ?_
  have hK9 : va_K D en_cl [(cI, .int), (cZ, .boolean)] s := va_K.app (hKI (by decide)) (hKZ (by decide))
  exact W.vret hx hb hr (fun t ht hW => ⟨⟨(v1, v2), rfl, ⟨hv1, hv2⟩, by rw [ht]; exact hP, va_K.moved hW.alike hK9, hD⟩, hS.F ht⟩) hS.2.2 kd_mod_321
end Kc3
