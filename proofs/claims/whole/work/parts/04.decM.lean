theorem dX8_init_0 : decode cX8_init 0 = .ok (.aload_n 0, 1) := by decide +kernel
theorem dX8_init_1 : decode cX8_init 1 = .ok (.invokespecial 1, 3) := by decide +kernel
theorem dX8_init_4 : decode cX8_init 4 = .ok (.aload_n 0, 1) := by decide +kernel
theorem dX8_init_5 : decode cX8_init 5 = .ok (.bipush 8, 2) := by decide +kernel
theorem dX8_init_7 : decode cX8_init 7 = .ok (.newarray .int, 2) := by decide +kernel
theorem dX8_init_9 : decode cX8_init 9 = .ok (.dup, 1) := by decide +kernel
theorem dX8_init_10 : decode cX8_init 10 = .ok (.iconst 0, 1) := by decide +kernel
theorem dX8_init_11 : decode cX8_init 11 = .ok (.iconst (-1), 1) := by decide +kernel
theorem dX8_init_12 : decode cX8_init 12 = .ok (.iastore, 1) := by decide +kernel
theorem dX8_init_13 : decode cX8_init 13 = .ok (.dup, 1) := by decide +kernel
theorem dX8_init_14 : decode cX8_init 14 = .ok (.iconst 1, 1) := by decide +kernel
theorem dX8_init_15 : decode cX8_init 15 = .ok (.iconst (-1), 1) := by decide +kernel
theorem dX8_init_16 : decode cX8_init 16 = .ok (.iastore, 1) := by decide +kernel
theorem dX8_init_17 : decode cX8_init 17 = .ok (.dup, 1) := by decide +kernel
theorem dX8_init_18 : decode cX8_init 18 = .ok (.iconst 2, 1) := by decide +kernel
theorem dX8_init_19 : decode cX8_init 19 = .ok (.iconst (-1), 1) := by decide +kernel
theorem dX8_init_20 : decode cX8_init 20 = .ok (.iastore, 1) := by decide +kernel
theorem dX8_init_21 : decode cX8_init 21 = .ok (.dup, 1) := by decide +kernel
theorem dX8_init_22 : decode cX8_init 22 = .ok (.iconst 3, 1) := by decide +kernel
theorem dX8_init_23 : decode cX8_init 23 = .ok (.iconst (-1), 1) := by decide +kernel
theorem dX8_init_24 : decode cX8_init 24 = .ok (.iastore, 1) := by decide +kernel
theorem dX8_init_25 : decode cX8_init 25 = .ok (.dup, 1) := by decide +kernel
theorem dX8_init_26 : decode cX8_init 26 = .ok (.iconst 4, 1) := by decide +kernel
theorem dX8_init_27 : decode cX8_init 27 = .ok (.iconst (-1), 1) := by decide +kernel
theorem dX8_init_28 : decode cX8_init 28 = .ok (.iastore, 1) := by decide +kernel
theorem dX8_init_29 : decode cX8_init 29 = .ok (.dup, 1) := by decide +kernel
theorem dX8_init_30 : decode cX8_init 30 = .ok (.iconst 5, 1) := by decide +kernel
theorem dX8_init_31 : decode cX8_init 31 = .ok (.iconst (-1), 1) := by decide +kernel
theorem dX8_init_32 : decode cX8_init 32 = .ok (.iastore, 1) := by decide +kernel
theorem dX8_init_33 : decode cX8_init 33 = .ok (.dup, 1) := by decide +kernel
theorem dX8_init_34 : decode cX8_init 34 = .ok (.bipush 6, 2) := by decide +kernel
theorem dX8_init_36 : decode cX8_init 36 = .ok (.iconst (-1), 1) := by decide +kernel
theorem dX8_init_37 : decode cX8_init 37 = .ok (.iastore, 1) := by decide +kernel
theorem dX8_init_38 : decode cX8_init 38 = .ok (.dup, 1) := by decide +kernel
theorem dX8_init_39 : decode cX8_init 39 = .ok (.bipush 7, 2) := by decide +kernel
theorem dX8_init_41 : decode cX8_init 41 = .ok (.iconst (-1), 1) := by decide +kernel
theorem dX8_init_42 : decode cX8_init 42 = .ok (.iastore, 1) := by decide +kernel
theorem dX8_init_43 : decode cX8_init 43 = .ok (.putfield 7, 3) := by decide +kernel
theorem dX8_init_46 : decode cX8_init 46 = .ok (.aload_n 0, 1) := by decide +kernel
theorem dX8_init_47 : decode cX8_init 47 = .ok (.bipush 8, 2) := by decide +kernel
theorem dX8_init_49 : decode cX8_init 49 = .ok (.newarray .int, 2) := by decide +kernel
theorem dX8_init_51 : decode cX8_init 51 = .ok (.putfield 13, 3) := by decide +kernel
theorem dX8_init_54 : decode cX8_init 54 = .ok (.aload_n 0, 1) := by decide +kernel
theorem dX8_init_55 : decode cX8_init 55 = .ok (.sipush 800, 3) := by decide +kernel
theorem dX8_init_58 : decode cX8_init 58 = .ok (.newarray .int, 2) := by decide +kernel
theorem dX8_init_60 : decode cX8_init 60 = .ok (.putfield 16, 3) := by decide +kernel
theorem dX8_init_63 : decode cX8_init 63 = .ok (.aload_n 0, 1) := by decide +kernel
theorem dX8_init_64 : decode cX8_init 64 = .ok (.sipush 400, 3) := by decide +kernel
theorem dX8_init_67 : decode cX8_init 67 = .ok (.newarray .int, 2) := by decide +kernel
theorem dX8_init_69 : decode cX8_init 69 = .ok (.putfield 19, 3) := by decide +kernel
theorem dX8_init_72 : decode cX8_init 72 = .ok (.aload_n 0, 1) := by decide +kernel
theorem dX8_init_73 : decode cX8_init 73 = .ok (.iconst 2, 1) := by decide +kernel
theorem dX8_init_74 : decode cX8_init 74 = .ok (.newarray .int, 2) := by decide +kernel
theorem dX8_init_76 : decode cX8_init 76 = .ok (.putfield 22, 3) := by decide +kernel
theorem dX8_init_79 : decode cX8_init 79 = .ok (.aload_n 0, 1) := by decide +kernel
theorem dX8_init_80 : decode cX8_init 80 = .ok (.iconst 2, 1) := by decide +kernel
theorem dX8_init_81 : decode cX8_init 81 = .ok (.newarray .int, 2) := by decide +kernel
theorem dX8_init_83 : decode cX8_init 83 = .ok (.putfield 25, 3) := by decide +kernel
theorem dX8_init_86 : decode cX8_init 86 = .ok (.aload_n 0, 1) := by decide +kernel
theorem dX8_init_87 : decode cX8_init 87 = .ok (.iconst 2, 1) := by decide +kernel
theorem dX8_init_88 : decode cX8_init 88 = .ok (.newarray .int, 2) := by decide +kernel
theorem dX8_init_90 : decode cX8_init 90 = .ok (.putfield 28, 3) := by decide +kernel
theorem dX8_init_93 : decode cX8_init 93 = .ok (.aload_n 0, 1) := by decide +kernel
theorem dX8_init_94 : decode cX8_init 94 = .ok (.sipush 3200, 3) := by decide +kernel
theorem dX8_init_97 : decode cX8_init 97 = .ok (.newarray .int, 2) := by decide +kernel
theorem dX8_init_99 : decode cX8_init 99 = .ok (.putfield 31, 3) := by decide +kernel
theorem dX8_init_102 : decode cX8_init 102 = .ok (.aload_n 0, 1) := by decide +kernel
theorem dX8_init_103 : decode cX8_init 103 = .ok (.ldc 34, 2) := by decide +kernel
theorem dX8_init_105 : decode cX8_init 105 = .ok (.newarray .int, 2) := by decide +kernel
theorem dX8_init_107 : decode cX8_init 107 = .ok (.putfield 35, 3) := by decide +kernel
theorem dX8_init_110 : decode cX8_init 110 = .ok (.aload_n 0, 1) := by decide +kernel
theorem dX8_init_111 : decode cX8_init 111 = .ok (.bipush 7, 2) := by decide +kernel
theorem dX8_init_113 : decode cX8_init 113 = .ok (.newarray .int, 2) := by decide +kernel
theorem dX8_init_115 : decode cX8_init 115 = .ok (.putfield 38, 3) := by decide +kernel
theorem dX8_init_118 : decode cX8_init 118 = .ok (.aload_n 0, 1) := by decide +kernel
theorem dX8_init_119 : decode cX8_init 119 = .ok (.bipush 7, 2) := by decide +kernel
theorem dX8_init_121 : decode cX8_init 121 = .ok (.newarray .int, 2) := by decide +kernel
theorem dX8_init_123 : decode cX8_init 123 = .ok (.putfield 41, 3) := by decide +kernel
theorem dX8_init_126 : decode cX8_init 126 = .ok (.aload_n 0, 1) := by decide +kernel
theorem dX8_init_127 : decode cX8_init 127 = .ok (.bipush 7, 2) := by decide +kernel
theorem dX8_init_129 : decode cX8_init 129 = .ok (.newarray .int, 2) := by decide +kernel
theorem dX8_init_131 : decode cX8_init 131 = .ok (.putfield 44, 3) := by decide +kernel
theorem dX8_init_134 : decode cX8_init 134 = .ok (.aload_n 0, 1) := by decide +kernel
theorem dX8_init_135 : decode cX8_init 135 = .ok (.bipush 10, 2) := by decide +kernel
theorem dX8_init_137 : decode cX8_init 137 = .ok (.newarray .int, 2) := by decide +kernel
theorem dX8_init_139 : decode cX8_init 139 = .ok (.putfield 47, 3) := by decide +kernel
theorem dX8_init_142 : decode cX8_init 142 = .ok (.aload_n 0, 1) := by decide +kernel
theorem dX8_init_143 : decode cX8_init 143 = .ok (.bipush 10, 2) := by decide +kernel
theorem dX8_init_145 : decode cX8_init 145 = .ok (.newarray .int, 2) := by decide +kernel
theorem dX8_init_147 : decode cX8_init 147 = .ok (.putfield 50, 3) := by decide +kernel
theorem dX8_init_150 : decode cX8_init 150 = .ok (.aload_n 0, 1) := by decide +kernel
theorem dX8_init_151 : decode cX8_init 151 = .ok (.bipush 10, 2) := by decide +kernel
theorem dX8_init_153 : decode cX8_init 153 = .ok (.newarray .int, 2) := by decide +kernel
theorem dX8_init_155 : decode cX8_init 155 = .ok (.putfield 53, 3) := by decide +kernel
theorem dX8_init_158 : decode cX8_init 158 = .ok (.aload_n 0, 1) := by decide +kernel
theorem dX8_init_159 : decode cX8_init 159 = .ok (.bipush 10, 2) := by decide +kernel
theorem dX8_init_161 : decode cX8_init 161 = .ok (.newarray .int, 2) := by decide +kernel
theorem dX8_init_163 : decode cX8_init 163 = .ok (.putfield 56, 3) := by decide +kernel
theorem dX8_init_166 : decode cX8_init 166 = .ok (.aload_n 0, 1) := by decide +kernel
theorem dX8_init_167 : decode cX8_init 167 = .ok (.bipush 10, 2) := by decide +kernel
theorem dX8_init_169 : decode cX8_init 169 = .ok (.newarray .int, 2) := by decide +kernel
theorem dX8_init_171 : decode cX8_init 171 = .ok (.putfield 59, 3) := by decide +kernel
theorem dX8_init_174 : decode cX8_init 174 = .ok (.aload_n 0, 1) := by decide +kernel
theorem dX8_init_175 : decode cX8_init 175 = .ok (.bipush 10, 2) := by decide +kernel
theorem dX8_init_177 : decode cX8_init 177 = .ok (.newarray .int, 2) := by decide +kernel
theorem dX8_init_179 : decode cX8_init 179 = .ok (.putfield 62, 3) := by decide +kernel
theorem dX8_init_182 : decode cX8_init 182 = .ok (.aload_n 0, 1) := by decide +kernel
theorem dX8_init_183 : decode cX8_init 183 = .ok (.bipush 16, 2) := by decide +kernel
theorem dX8_init_185 : decode cX8_init 185 = .ok (.newarray .int, 2) := by decide +kernel
theorem dX8_init_187 : decode cX8_init 187 = .ok (.putfield 65, 3) := by decide +kernel
theorem dX8_init_190 : decode cX8_init 190 = .ok (.aload_n 0, 1) := by decide +kernel
theorem dX8_init_191 : decode cX8_init 191 = .ok (.bipush 8, 2) := by decide +kernel
theorem dX8_init_193 : decode cX8_init 193 = .ok (.newarray .int, 2) := by decide +kernel
theorem dX8_init_195 : decode cX8_init 195 = .ok (.putfield 68, 3) := by decide +kernel
theorem dX8_init_198 : decode cX8_init 198 = .ok (.aload_n 0, 1) := by decide +kernel
theorem dX8_init_199 : decode cX8_init 199 = .ok (.bipush 8, 2) := by decide +kernel
theorem dX8_init_201 : decode cX8_init 201 = .ok (.newarray .boolean, 2) := by decide +kernel
theorem dX8_init_203 : decode cX8_init 203 = .ok (.putfield 71, 3) := by decide +kernel
theorem dX8_init_206 : decode cX8_init 206 = .ok (.aload_n 0, 1) := by decide +kernel
theorem dX8_init_207 : decode cX8_init 207 = .ok (.iconst 1, 1) := by decide +kernel
theorem dX8_init_208 : decode cX8_init 208 = .ok (.putfield 75, 3) := by decide +kernel
theorem dX8_init_211 : decode cX8_init 211 = .ok (.aload_n 0, 1) := by decide +kernel
theorem dX8_init_212 : decode cX8_init 212 = .ok (.sipush 200, 3) := by decide +kernel
theorem dX8_init_215 : decode cX8_init 215 = .ok (.newarray .int, 2) := by decide +kernel
theorem dX8_init_217 : decode cX8_init 217 = .ok (.putfield 79, 3) := by decide +kernel
theorem dX8_init_220 : decode cX8_init 220 = .ok (.aload_n 0, 1) := by decide +kernel
theorem dX8_init_221 : decode cX8_init 221 = .ok (.sipush 200, 3) := by decide +kernel
theorem dX8_init_224 : decode cX8_init 224 = .ok (.newarray .int, 2) := by decide +kernel
theorem dX8_init_226 : decode cX8_init 226 = .ok (.putfield 82, 3) := by decide +kernel
theorem dX8_init_229 : decode cX8_init 229 = .ok (.aload_n 0, 1) := by decide +kernel
theorem dX8_init_230 : decode cX8_init 230 = .ok (.sipush 200, 3) := by decide +kernel
theorem dX8_init_233 : decode cX8_init 233 = .ok (.newarray .int, 2) := by decide +kernel
theorem dX8_init_235 : decode cX8_init 235 = .ok (.putfield 85, 3) := by decide +kernel
theorem dX8_init_238 : decode cX8_init 238 = .ok (.aload_n 0, 1) := by decide +kernel
theorem dX8_init_239 : decode cX8_init 239 = .ok (.sipush 200, 3) := by decide +kernel
theorem dX8_init_242 : decode cX8_init 242 = .ok (.newarray .int, 2) := by decide +kernel
theorem dX8_init_244 : decode cX8_init 244 = .ok (.putfield 88, 3) := by decide +kernel
theorem dX8_init_247 : decode cX8_init 247 = .ok (.aload_n 0, 1) := by decide +kernel
theorem dX8_init_248 : decode cX8_init 248 = .ok (.sipush 200, 3) := by decide +kernel
theorem dX8_init_251 : decode cX8_init 251 = .ok (.newarray .int, 2) := by decide +kernel
theorem dX8_init_253 : decode cX8_init 253 = .ok (.putfield 91, 3) := by decide +kernel
theorem dX8_init_256 : decode cX8_init 256 = .ok (.aload_n 0, 1) := by decide +kernel
theorem dX8_init_257 : decode cX8_init 257 = .ok (.sipush 200, 3) := by decide +kernel
theorem dX8_init_260 : decode cX8_init 260 = .ok (.newarray .int, 2) := by decide +kernel
theorem dX8_init_262 : decode cX8_init 262 = .ok (.putfield 94, 3) := by decide +kernel
theorem dX8_init_265 : decode cX8_init 265 = .ok (.aload_n 0, 1) := by decide +kernel
theorem dX8_init_266 : decode cX8_init 266 = .ok (.sipush 1024, 3) := by decide +kernel
theorem dX8_init_269 : decode cX8_init 269 = .ok (.newarray .long, 2) := by decide +kernel
theorem dX8_init_271 : decode cX8_init 271 = .ok (.putfield 97, 3) := by decide +kernel
theorem dX8_init_274 : decode cX8_init 274 = .ok (.aload_n 0, 1) := by decide +kernel
theorem dX8_init_275 : decode cX8_init 275 = .ok (.sipush 288, 3) := by decide +kernel
theorem dX8_init_278 : decode cX8_init 278 = .ok (.newarray .int, 2) := by decide +kernel
theorem dX8_init_280 : decode cX8_init 280 = .ok (.putfield 101, 3) := by decide +kernel
theorem dX8_init_283 : decode cX8_init 283 = .ok (.aload_n 0, 1) := by decide +kernel
theorem dX8_init_284 : decode cX8_init 284 = .ok (.iconst 4, 1) := by decide +kernel
theorem dX8_init_285 : decode cX8_init 285 = .ok (.newarray .int, 2) := by decide +kernel
theorem dX8_init_287 : decode cX8_init 287 = .ok (.putfield 104, 3) := by decide +kernel
theorem dX8_init_290 : decode cX8_init 290 = .ok (.return_, 1) := by decide +kernel
theorem dX8_in_0 : decode cX8_in 0 = .ok (.lload_n 0, 1) := by decide +kernel
theorem dX8_in_1 : decode cX8_in 1 = .ok (.lload_n 2, 1) := by decide +kernel
theorem dX8_in_2 : decode cX8_in 2 = .ok (.lcmp, 1) := by decide +kernel
theorem dX8_in_3 : decode cX8_in 3 = .ok (.ifCond .lt 14, 3) := by decide +kernel
theorem dX8_in_6 : decode cX8_in 6 = .ok (.lload_n 0, 1) := by decide +kernel
theorem dX8_in_7 : decode cX8_in 7 = .ok (.lload 4, 2) := by decide +kernel
theorem dX8_in_9 : decode cX8_in 9 = .ok (.lcmp, 1) := by decide +kernel
theorem dX8_in_10 : decode cX8_in 10 = .ok (.ifCond .gt 7, 3) := by decide +kernel
theorem dX8_in_13 : decode cX8_in 13 = .ok (.iconst 1, 1) := by decide +kernel
theorem dX8_in_14 : decode cX8_in 14 = .ok (.goto 4, 3) := by decide +kernel
theorem dX8_in_17 : decode cX8_in 17 = .ok (.iconst 0, 1) := by decide +kernel
theorem dX8_in_18 : decode cX8_in 18 = .ok (.ireturn, 1) := by decide +kernel
theorem dX8_found_0 : decode cX8_found 0 = .ok (.aload_n 0, 1) := by decide +kernel
theorem dX8_found_1 : decode cX8_found 1 = .ok (.iload_n 1, 1) := by decide +kernel
theorem dX8_found_2 : decode cX8_found 2 = .ok (.putfield 110, 3) := by decide +kernel
theorem dX8_found_5 : decode cX8_found 5 = .ok (.ldc 113, 2) := by decide +kernel
theorem dX8_found_7 : decode cX8_found 7 = .ok (.iload_n 1, 1) := by decide +kernel
theorem dX8_found_8 : decode cX8_found 8 = .ok (.isub, 1) := by decide +kernel
theorem dX8_found_9 : decode cX8_found 9 = .ok (.ireturn, 1) := by decide +kernel
theorem dX8_isSheet_0 : decode cX8_isSheet 0 = .ok (.iload_n 0, 1) := by decide +kernel
theorem dX8_isSheet_1 : decode cX8_isSheet 1 = .ok (.i2l, 1) := by decide +kernel
theorem dX8_isSheet_2 : decode cX8_isSheet 2 = .ok (.lconst 0, 1) := by decide +kernel
theorem dX8_isSheet_3 : decode cX8_isSheet 3 = .ok (.ldc2_w 114, 3) := by decide +kernel
theorem dX8_isSheet_6 : decode cX8_isSheet 6 = .ok (.invokestatic 116, 3) := by decide +kernel
theorem dX8_isSheet_9 : decode cX8_isSheet 9 = .ok (.ireturn, 1) := by decide +kernel
theorem dX8_sheet_0 : decode cX8_sheet 0 = .ok (.aload_n 0, 1) := by decide +kernel
theorem dX8_sheet_1 : decode cX8_sheet 1 = .ok (.iconst 0, 1) := by decide +kernel
theorem dX8_sheet_2 : decode cX8_sheet 2 = .ok (.putfield 107, 3) := by decide +kernel
theorem dX8_sheet_5 : decode cX8_sheet 5 = .ok (.iload_n 1, 1) := by decide +kernel
theorem dX8_sheet_6 : decode cX8_sheet 6 = .ok (.invokestatic 120, 3) := by decide +kernel
theorem dX8_sheet_9 : decode cX8_sheet 9 = .ok (.ifCond .eq 21, 3) := by decide +kernel
theorem dX8_sheet_12 : decode cX8_sheet 12 = .ok (.iload_n 2, 1) := by decide +kernel
theorem dX8_sheet_13 : decode cX8_sheet 13 = .ok (.i2l, 1) := by decide +kernel
theorem dX8_sheet_14 : decode cX8_sheet 14 = .ok (.lconst 0, 1) := by decide +kernel
theorem dX8_sheet_15 : decode cX8_sheet 15 = .ok (.ldc2_w 124, 3) := by decide +kernel
theorem dX8_sheet_18 : decode cX8_sheet 18 = .ok (.invokestatic 116, 3) := by decide +kernel
theorem dX8_sheet_21 : decode cX8_sheet 21 = .ok (.ifCond .eq 9, 3) := by decide +kernel
theorem dX8_sheet_24 : decode cX8_sheet 24 = .ok (.iload_n 3, 1) := by decide +kernel
theorem dX8_sheet_25 : decode cX8_sheet 25 = .ok (.bipush 100, 2) := by decide +kernel
theorem dX8_sheet_27 : decode cX8_sheet 27 = .ok (.if_icmp .le 6, 3) := by decide +kernel
theorem dX8_sheet_30 : decode cX8_sheet 30 = .ok (.ldc 126, 2) := by decide +kernel
theorem dX8_sheet_32 : decode cX8_sheet 32 = .ok (.ireturn, 1) := by decide +kernel
theorem dX8_sheet_33 : decode cX8_sheet 33 = .ok (.aload_n 0, 1) := by decide +kernel
theorem dX8_sheet_34 : decode cX8_sheet 34 = .ok (.iconst 0, 1) := by decide +kernel
theorem dX8_sheet_35 : decode cX8_sheet 35 = .ok (.putfield 110, 3) := by decide +kernel
theorem dX8_sheet_38 : decode cX8_sheet 38 = .ok (.iload_n 3, 1) := by decide +kernel
theorem dX8_sheet_39 : decode cX8_sheet 39 = .ok (.ifCond .ge 9, 3) := by decide +kernel
theorem dX8_sheet_42 : decode cX8_sheet 42 = .ok (.aload_n 0, 1) := by decide +kernel
theorem dX8_sheet_43 : decode cX8_sheet 43 = .ok (.iconst 4, 1) := by decide +kernel
theorem dX8_sheet_44 : decode cX8_sheet 44 = .ok (.invokevirtual 127, 3) := by decide +kernel
theorem dX8_sheet_47 : decode cX8_sheet 47 = .ok (.ireturn, 1) := by decide +kernel
theorem dX8_sheet_48 : decode cX8_sheet 48 = .ok (.aload_n 0, 1) := by decide +kernel
theorem dX8_sheet_49 : decode cX8_sheet 49 = .ok (.getfield 7, 3) := by decide +kernel
theorem dX8_sheet_52 : decode cX8_sheet 52 = .ok (.iload_n 1, 1) := by decide +kernel
theorem dX8_sheet_53 : decode cX8_sheet 53 = .ok (.iload_n 2, 1) := by decide +kernel
theorem dX8_sheet_54 : decode cX8_sheet 54 = .ok (.iastore, 1) := by decide +kernel
theorem dX8_sheet_55 : decode cX8_sheet 55 = .ok (.aload_n 0, 1) := by decide +kernel
theorem dX8_sheet_56 : decode cX8_sheet 56 = .ok (.getfield 13, 3) := by decide +kernel
theorem dX8_sheet_59 : decode cX8_sheet 59 = .ok (.iload_n 1, 1) := by decide +kernel
theorem dX8_sheet_60 : decode cX8_sheet 60 = .ok (.iload_n 3, 1) := by decide +kernel
theorem dX8_sheet_61 : decode cX8_sheet 61 = .ok (.iastore, 1) := by decide +kernel
theorem dX8_sheet_62 : decode cX8_sheet 62 = .ok (.iconst 0, 1) := by decide +kernel
theorem dX8_sheet_63 : decode cX8_sheet 63 = .ok (.istore 4, 2) := by decide +kernel
theorem dX8_sheet_65 : decode cX8_sheet 65 = .ok (.iload 4, 2) := by decide +kernel
theorem dX8_sheet_67 : decode cX8_sheet 67 = .ok (.bipush 100, 2) := by decide +kernel
theorem dX8_sheet_69 : decode cX8_sheet 69 = .ok (.if_icmp .ge 22, 3) := by decide +kernel
theorem dX8_sheet_72 : decode cX8_sheet 72 = .ok (.aload_n 0, 1) := by decide +kernel
theorem dX8_sheet_73 : decode cX8_sheet 73 = .ok (.getfield 16, 3) := by decide +kernel
theorem dX8_sheet_76 : decode cX8_sheet 76 = .ok (.bipush 100, 2) := by decide +kernel
theorem dX8_sheet_78 : decode cX8_sheet 78 = .ok (.iload_n 1, 1) := by decide +kernel
theorem dX8_sheet_79 : decode cX8_sheet 79 = .ok (.imul, 1) := by decide +kernel
theorem dX8_sheet_80 : decode cX8_sheet 80 = .ok (.iload 4, 2) := by decide +kernel
theorem dX8_sheet_82 : decode cX8_sheet 82 = .ok (.iadd, 1) := by decide +kernel
theorem dX8_sheet_83 : decode cX8_sheet 83 = .ok (.iconst 0, 1) := by decide +kernel
theorem dX8_sheet_84 : decode cX8_sheet 84 = .ok (.iastore, 1) := by decide +kernel
theorem dX8_sheet_85 : decode cX8_sheet 85 = .ok (.iinc 4 1, 3) := by decide +kernel
theorem dX8_sheet_88 : decode cX8_sheet 88 = .ok (.goto (-23), 3) := by decide +kernel
theorem dX8_sheet_91 : decode cX8_sheet 91 = .ok (.iload_n 3, 1) := by decide +kernel
theorem dX8_sheet_92 : decode cX8_sheet 92 = .ok (.ireturn, 1) := by decide +kernel
theorem dX8_set_0 : decode cX8_set 0 = .ok (.aload_n 0, 1) := by decide +kernel
theorem dX8_set_1 : decode cX8_set 1 = .ok (.iconst 0, 1) := by decide +kernel
theorem dX8_set_2 : decode cX8_set 2 = .ok (.putfield 107, 3) := by decide +kernel
theorem dX8_set_5 : decode cX8_set 5 = .ok (.iload_n 1, 1) := by decide +kernel
theorem dX8_set_6 : decode cX8_set 6 = .ok (.invokestatic 120, 3) := by decide +kernel
theorem dX8_set_9 : decode cX8_set 9 = .ok (.ifCond .ne 6, 3) := by decide +kernel
theorem dX8_set_12 : decode cX8_set 12 = .ok (.ldc 126, 2) := by decide +kernel
theorem dX8_set_14 : decode cX8_set 14 = .ok (.ireturn, 1) := by decide +kernel
theorem dX8_set_15 : decode cX8_set 15 = .ok (.aload_n 0, 1) := by decide +kernel
theorem dX8_set_16 : decode cX8_set 16 = .ok (.iconst 0, 1) := by decide +kernel
theorem dX8_set_17 : decode cX8_set 17 = .ok (.putfield 110, 3) := by decide +kernel
theorem dX8_set_20 : decode cX8_set 20 = .ok (.aload_n 0, 1) := by decide +kernel
theorem dX8_set_21 : decode cX8_set 21 = .ok (.getfield 7, 3) := by decide +kernel
theorem dX8_set_24 : decode cX8_set 24 = .ok (.iload_n 1, 1) := by decide +kernel
theorem dX8_set_25 : decode cX8_set 25 = .ok (.iaload, 1) := by decide +kernel
theorem dX8_set_26 : decode cX8_set 26 = .ok (.ifCond .ge 9, 3) := by decide +kernel
theorem dX8_set_29 : decode cX8_set 29 = .ok (.aload_n 0, 1) := by decide +kernel
theorem dX8_set_30 : decode cX8_set 30 = .ok (.iconst 1, 1) := by decide +kernel
theorem dX8_set_31 : decode cX8_set 31 = .ok (.invokevirtual 127, 3) := by decide +kernel
theorem dX8_set_34 : decode cX8_set 34 = .ok (.ireturn, 1) := by decide +kernel
theorem dX8_set_35 : decode cX8_set 35 = .ok (.iload_n 2, 1) := by decide +kernel
theorem dX8_set_36 : decode cX8_set 36 = .ok (.i2l, 1) := by decide +kernel
theorem dX8_set_37 : decode cX8_set 37 = .ok (.lconst 0, 1) := by decide +kernel
theorem dX8_set_38 : decode cX8_set 38 = .ok (.aload_n 0, 1) := by decide +kernel
theorem dX8_set_39 : decode cX8_set 39 = .ok (.getfield 13, 3) := by decide +kernel
theorem dX8_set_42 : decode cX8_set 42 = .ok (.iload_n 1, 1) := by decide +kernel
theorem dX8_set_43 : decode cX8_set 43 = .ok (.iaload, 1) := by decide +kernel
theorem dX8_set_44 : decode cX8_set 44 = .ok (.iconst 1, 1) := by decide +kernel
theorem dX8_set_45 : decode cX8_set 45 = .ok (.isub, 1) := by decide +kernel
theorem dX8_set_46 : decode cX8_set 46 = .ok (.i2l, 1) := by decide +kernel
theorem dX8_set_47 : decode cX8_set 47 = .ok (.invokestatic 116, 3) := by decide +kernel
theorem dX8_set_50 : decode cX8_set 50 = .ok (.ifCond .ne 9, 3) := by decide +kernel
theorem dX8_set_53 : decode cX8_set 53 = .ok (.aload_n 0, 1) := by decide +kernel
theorem dX8_set_54 : decode cX8_set 54 = .ok (.iconst 2, 1) := by decide +kernel
theorem dX8_set_55 : decode cX8_set 55 = .ok (.invokevirtual 127, 3) := by decide +kernel
theorem dX8_set_58 : decode cX8_set 58 = .ok (.ireturn, 1) := by decide +kernel
theorem dX8_set_59 : decode cX8_set 59 = .ok (.aload_n 0, 1) := by decide +kernel
theorem dX8_set_60 : decode cX8_set 60 = .ok (.getfield 16, 3) := by decide +kernel
theorem dX8_set_63 : decode cX8_set 63 = .ok (.bipush 100, 2) := by decide +kernel
theorem dX8_set_65 : decode cX8_set 65 = .ok (.iload_n 1, 1) := by decide +kernel
theorem dX8_set_66 : decode cX8_set 66 = .ok (.imul, 1) := by decide +kernel
theorem dX8_set_67 : decode cX8_set 67 = .ok (.iload_n 2, 1) := by decide +kernel
theorem dX8_set_68 : decode cX8_set 68 = .ok (.iadd, 1) := by decide +kernel
theorem dX8_set_69 : decode cX8_set 69 = .ok (.aload_n 0, 1) := by decide +kernel
theorem dX8_set_70 : decode cX8_set 70 = .ok (.getfield 7, 3) := by decide +kernel
theorem dX8_set_73 : decode cX8_set 73 = .ok (.iload_n 1, 1) := by decide +kernel
theorem dX8_set_74 : decode cX8_set 74 = .ok (.iaload, 1) := by decide +kernel
theorem dX8_set_75 : decode cX8_set 75 = .ok (.ifCond .ne 8, 3) := by decide +kernel
theorem dX8_set_78 : decode cX8_set 78 = .ok (.iload_n 3, 1) := by decide +kernel
theorem dX8_set_79 : decode cX8_set 79 = .ok (.i2b, 1) := by decide +kernel
theorem dX8_set_80 : decode cX8_set 80 = .ok (.goto 19, 3) := by decide +kernel
theorem dX8_set_83 : decode cX8_set 83 = .ok (.aload_n 0, 1) := by decide +kernel
theorem dX8_set_84 : decode cX8_set 84 = .ok (.getfield 7, 3) := by decide +kernel
theorem dX8_set_87 : decode cX8_set 87 = .ok (.iload_n 1, 1) := by decide +kernel
theorem dX8_set_88 : decode cX8_set 88 = .ok (.iaload, 1) := by decide +kernel
theorem dX8_set_89 : decode cX8_set 89 = .ok (.iconst 1, 1) := by decide +kernel
theorem dX8_set_90 : decode cX8_set 90 = .ok (.if_icmp .ne 8, 3) := by decide +kernel
theorem dX8_set_93 : decode cX8_set 93 = .ok (.iload_n 3, 1) := by decide +kernel
theorem dX8_set_94 : decode cX8_set 94 = .ok (.i2s, 1) := by decide +kernel
theorem dX8_set_95 : decode cX8_set 95 = .ok (.goto 4, 3) := by decide +kernel
theorem dX8_set_98 : decode cX8_set 98 = .ok (.iload_n 3, 1) := by decide +kernel
theorem dX8_set_99 : decode cX8_set 99 = .ok (.iastore, 1) := by decide +kernel
theorem dX8_set_100 : decode cX8_set 100 = .ok (.aload_n 0, 1) := by decide +kernel
theorem dX8_set_101 : decode cX8_set 101 = .ok (.getfield 16, 3) := by decide +kernel
theorem dX8_set_104 : decode cX8_set 104 = .ok (.bipush 100, 2) := by decide +kernel
theorem dX8_set_106 : decode cX8_set 106 = .ok (.iload_n 1, 1) := by decide +kernel
theorem dX8_set_107 : decode cX8_set 107 = .ok (.imul, 1) := by decide +kernel
theorem dX8_set_108 : decode cX8_set 108 = .ok (.iload_n 2, 1) := by decide +kernel
theorem dX8_set_109 : decode cX8_set 109 = .ok (.iadd, 1) := by decide +kernel
theorem dX8_set_110 : decode cX8_set 110 = .ok (.iaload, 1) := by decide +kernel
theorem dX8_set_111 : decode cX8_set 111 = .ok (.ireturn, 1) := by decide +kernel
theorem dX8_copy_0 : decode cX8_copy 0 = .ok (.aload_n 0, 1) := by decide +kernel
theorem dX8_copy_1 : decode cX8_copy 1 = .ok (.iconst 0, 1) := by decide +kernel
theorem dX8_copy_2 : decode cX8_copy 2 = .ok (.putfield 107, 3) := by decide +kernel
theorem dX8_copy_5 : decode cX8_copy 5 = .ok (.iload_n 1, 1) := by decide +kernel
theorem dX8_copy_6 : decode cX8_copy 6 = .ok (.invokestatic 120, 3) := by decide +kernel
theorem dX8_copy_9 : decode cX8_copy 9 = .ok (.ifCond .eq 10, 3) := by decide +kernel
theorem dX8_copy_12 : decode cX8_copy 12 = .ok (.iload_n 3, 1) := by decide +kernel
theorem dX8_copy_13 : decode cX8_copy 13 = .ok (.invokestatic 120, 3) := by decide +kernel
theorem dX8_copy_16 : decode cX8_copy 16 = .ok (.ifCond .ne 6, 3) := by decide +kernel
theorem dX8_copy_19 : decode cX8_copy 19 = .ok (.ldc 126, 2) := by decide +kernel
theorem dX8_copy_21 : decode cX8_copy 21 = .ok (.ireturn, 1) := by decide +kernel
theorem dX8_copy_22 : decode cX8_copy 22 = .ok (.aload_n 0, 1) := by decide +kernel
theorem dX8_copy_23 : decode cX8_copy 23 = .ok (.iconst 0, 1) := by decide +kernel
theorem dX8_copy_24 : decode cX8_copy 24 = .ok (.putfield 110, 3) := by decide +kernel
theorem dX8_copy_27 : decode cX8_copy 27 = .ok (.aload_n 0, 1) := by decide +kernel
theorem dX8_copy_28 : decode cX8_copy 28 = .ok (.getfield 7, 3) := by decide +kernel
theorem dX8_copy_31 : decode cX8_copy 31 = .ok (.iload_n 1, 1) := by decide +kernel
theorem dX8_copy_32 : decode cX8_copy 32 = .ok (.iaload, 1) := by decide +kernel
theorem dX8_copy_33 : decode cX8_copy 33 = .ok (.ifCond .lt 12, 3) := by decide +kernel
theorem dX8_copy_36 : decode cX8_copy 36 = .ok (.aload_n 0, 1) := by decide +kernel
theorem dX8_copy_37 : decode cX8_copy 37 = .ok (.getfield 7, 3) := by decide +kernel
theorem dX8_copy_40 : decode cX8_copy 40 = .ok (.iload_n 3, 1) := by decide +kernel
theorem dX8_copy_41 : decode cX8_copy 41 = .ok (.iaload, 1) := by decide +kernel
theorem dX8_copy_42 : decode cX8_copy 42 = .ok (.ifCond .ge 9, 3) := by decide +kernel
theorem dX8_copy_45 : decode cX8_copy 45 = .ok (.aload_n 0, 1) := by decide +kernel
theorem dX8_copy_46 : decode cX8_copy 46 = .ok (.iconst 1, 1) := by decide +kernel
theorem dX8_copy_47 : decode cX8_copy 47 = .ok (.invokevirtual 127, 3) := by decide +kernel
theorem dX8_copy_50 : decode cX8_copy 50 = .ok (.ireturn, 1) := by decide +kernel
theorem dX8_copy_51 : decode cX8_copy 51 = .ok (.aload_n 0, 1) := by decide +kernel
theorem dX8_copy_52 : decode cX8_copy 52 = .ok (.getfield 7, 3) := by decide +kernel
theorem dX8_copy_55 : decode cX8_copy 55 = .ok (.iload_n 1, 1) := by decide +kernel
theorem dX8_copy_56 : decode cX8_copy 56 = .ok (.iaload, 1) := by decide +kernel
theorem dX8_copy_57 : decode cX8_copy 57 = .ok (.aload_n 0, 1) := by decide +kernel
theorem dX8_copy_58 : decode cX8_copy 58 = .ok (.getfield 7, 3) := by decide +kernel
theorem dX8_copy_61 : decode cX8_copy 61 = .ok (.iload_n 3, 1) := by decide +kernel
theorem dX8_copy_62 : decode cX8_copy 62 = .ok (.iaload, 1) := by decide +kernel
theorem dX8_copy_63 : decode cX8_copy 63 = .ok (.if_icmp .eq 9, 3) := by decide +kernel
theorem dX8_copy_66 : decode cX8_copy 66 = .ok (.aload_n 0, 1) := by decide +kernel
theorem dX8_copy_67 : decode cX8_copy 67 = .ok (.iconst 5, 1) := by decide +kernel
theorem dX8_copy_68 : decode cX8_copy 68 = .ok (.invokevirtual 127, 3) := by decide +kernel
theorem dX8_copy_71 : decode cX8_copy 71 = .ok (.ireturn, 1) := by decide +kernel
theorem dX8_copy_72 : decode cX8_copy 72 = .ok (.iload_n 2, 1) := by decide +kernel
theorem dX8_copy_73 : decode cX8_copy 73 = .ok (.ifCond .lt 48, 3) := by decide +kernel
theorem dX8_copy_76 : decode cX8_copy 76 = .ok (.iload 4, 2) := by decide +kernel
theorem dX8_copy_78 : decode cX8_copy 78 = .ok (.ifCond .lt 43, 3) := by decide +kernel
theorem dX8_copy_81 : decode cX8_copy 81 = .ok (.iload 5, 2) := by decide +kernel
theorem dX8_copy_83 : decode cX8_copy 83 = .ok (.ifCond .lt 38, 3) := by decide +kernel
theorem dX8_copy_86 : decode cX8_copy 86 = .ok (.iload_n 2, 1) := by decide +kernel
theorem dX8_copy_87 : decode cX8_copy 87 = .ok (.i2l, 1) := by decide +kernel
theorem dX8_copy_88 : decode cX8_copy 88 = .ok (.iload 5, 2) := by decide +kernel
theorem dX8_copy_90 : decode cX8_copy 90 = .ok (.i2l, 1) := by decide +kernel
theorem dX8_copy_91 : decode cX8_copy 91 = .ok (.ladd, 1) := by decide +kernel
theorem dX8_copy_92 : decode cX8_copy 92 = .ok (.aload_n 0, 1) := by decide +kernel
theorem dX8_copy_93 : decode cX8_copy 93 = .ok (.getfield 13, 3) := by decide +kernel
theorem dX8_copy_96 : decode cX8_copy 96 = .ok (.iload_n 1, 1) := by decide +kernel
theorem dX8_copy_97 : decode cX8_copy 97 = .ok (.iaload, 1) := by decide +kernel
theorem dX8_copy_98 : decode cX8_copy 98 = .ok (.i2l, 1) := by decide +kernel
theorem dX8_copy_99 : decode cX8_copy 99 = .ok (.lcmp, 1) := by decide +kernel
theorem dX8_copy_100 : decode cX8_copy 100 = .ok (.ifCond .gt 21, 3) := by decide +kernel
theorem dX8_copy_103 : decode cX8_copy 103 = .ok (.iload 4, 2) := by decide +kernel
theorem dX8_copy_105 : decode cX8_copy 105 = .ok (.i2l, 1) := by decide +kernel
theorem dX8_copy_106 : decode cX8_copy 106 = .ok (.iload 5, 2) := by decide +kernel
theorem dX8_copy_108 : decode cX8_copy 108 = .ok (.i2l, 1) := by decide +kernel
theorem dX8_copy_109 : decode cX8_copy 109 = .ok (.ladd, 1) := by decide +kernel
theorem dX8_copy_110 : decode cX8_copy 110 = .ok (.aload_n 0, 1) := by decide +kernel
theorem dX8_copy_111 : decode cX8_copy 111 = .ok (.getfield 13, 3) := by decide +kernel
theorem dX8_copy_114 : decode cX8_copy 114 = .ok (.iload_n 3, 1) := by decide +kernel
theorem dX8_copy_115 : decode cX8_copy 115 = .ok (.iaload, 1) := by decide +kernel
theorem dX8_copy_116 : decode cX8_copy 116 = .ok (.i2l, 1) := by decide +kernel
theorem dX8_copy_117 : decode cX8_copy 117 = .ok (.lcmp, 1) := by decide +kernel
theorem dX8_copy_118 : decode cX8_copy 118 = .ok (.ifCond .le 9, 3) := by decide +kernel
theorem dX8_copy_121 : decode cX8_copy 121 = .ok (.aload_n 0, 1) := by decide +kernel
theorem dX8_copy_122 : decode cX8_copy 122 = .ok (.iconst 2, 1) := by decide +kernel
theorem dX8_copy_123 : decode cX8_copy 123 = .ok (.invokevirtual 127, 3) := by decide +kernel
theorem dX8_copy_126 : decode cX8_copy 126 = .ok (.ireturn, 1) := by decide +kernel
theorem dX8_copy_127 : decode cX8_copy 127 = .ok (.iload_n 2, 1) := by decide +kernel
theorem dX8_copy_128 : decode cX8_copy 128 = .ok (.iload 4, 2) := by decide +kernel
theorem dX8_copy_130 : decode cX8_copy 130 = .ok (.if_icmp .lt 7, 3) := by decide +kernel
theorem dX8_copy_133 : decode cX8_copy 133 = .ok (.iconst 1, 1) := by decide +kernel
theorem dX8_copy_134 : decode cX8_copy 134 = .ok (.goto 4, 3) := by decide +kernel
theorem dX8_copy_137 : decode cX8_copy 137 = .ok (.iconst 0, 1) := by decide +kernel
theorem dX8_copy_138 : decode cX8_copy 138 = .ok (.istore 6, 2) := by decide +kernel
theorem dX8_copy_140 : decode cX8_copy 140 = .ok (.iconst 0, 1) := by decide +kernel
theorem dX8_copy_141 : decode cX8_copy 141 = .ok (.istore 7, 2) := by decide +kernel
theorem dX8_copy_143 : decode cX8_copy 143 = .ok (.iload 7, 2) := by decide +kernel
theorem dX8_copy_145 : decode cX8_copy 145 = .ok (.iload 5, 2) := by decide +kernel
theorem dX8_copy_147 : decode cX8_copy 147 = .ok (.if_icmp .ge 57, 3) := by decide +kernel
theorem dX8_copy_150 : decode cX8_copy 150 = .ok (.iload 6, 2) := by decide +kernel
theorem dX8_copy_152 : decode cX8_copy 152 = .ok (.ifCond .eq 8, 3) := by decide +kernel
theorem dX8_copy_155 : decode cX8_copy 155 = .ok (.iload 7, 2) := by decide +kernel
theorem dX8_copy_157 : decode cX8_copy 157 = .ok (.goto 10, 3) := by decide +kernel
theorem dX8_copy_160 : decode cX8_copy 160 = .ok (.iload 5, 2) := by decide +kernel
theorem dX8_copy_162 : decode cX8_copy 162 = .ok (.iconst 1, 1) := by decide +kernel
theorem dX8_copy_163 : decode cX8_copy 163 = .ok (.isub, 1) := by decide +kernel
theorem dX8_copy_164 : decode cX8_copy 164 = .ok (.iload 7, 2) := by decide +kernel
theorem dX8_copy_166 : decode cX8_copy 166 = .ok (.isub, 1) := by decide +kernel
theorem dX8_copy_167 : decode cX8_copy 167 = .ok (.istore 8, 2) := by decide +kernel
theorem dX8_copy_169 : decode cX8_copy 169 = .ok (.aload_n 0, 1) := by decide +kernel
theorem dX8_copy_170 : decode cX8_copy 170 = .ok (.getfield 16, 3) := by decide +kernel
theorem dX8_copy_173 : decode cX8_copy 173 = .ok (.bipush 100, 2) := by decide +kernel
theorem dX8_copy_175 : decode cX8_copy 175 = .ok (.iload_n 3, 1) := by decide +kernel
theorem dX8_copy_176 : decode cX8_copy 176 = .ok (.imul, 1) := by decide +kernel
theorem dX8_copy_177 : decode cX8_copy 177 = .ok (.iload 4, 2) := by decide +kernel
theorem dX8_copy_179 : decode cX8_copy 179 = .ok (.iadd, 1) := by decide +kernel
theorem dX8_copy_180 : decode cX8_copy 180 = .ok (.iload 8, 2) := by decide +kernel
theorem dX8_copy_182 : decode cX8_copy 182 = .ok (.iadd, 1) := by decide +kernel
theorem dX8_copy_183 : decode cX8_copy 183 = .ok (.aload_n 0, 1) := by decide +kernel
theorem dX8_copy_184 : decode cX8_copy 184 = .ok (.getfield 16, 3) := by decide +kernel
theorem dX8_copy_187 : decode cX8_copy 187 = .ok (.bipush 100, 2) := by decide +kernel
theorem dX8_copy_189 : decode cX8_copy 189 = .ok (.iload_n 1, 1) := by decide +kernel
theorem dX8_copy_190 : decode cX8_copy 190 = .ok (.imul, 1) := by decide +kernel
theorem dX8_copy_191 : decode cX8_copy 191 = .ok (.iload_n 2, 1) := by decide +kernel
theorem dX8_copy_192 : decode cX8_copy 192 = .ok (.iadd, 1) := by decide +kernel
theorem dX8_copy_193 : decode cX8_copy 193 = .ok (.iload 8, 2) := by decide +kernel
theorem dX8_copy_195 : decode cX8_copy 195 = .ok (.iadd, 1) := by decide +kernel
theorem dX8_copy_196 : decode cX8_copy 196 = .ok (.iaload, 1) := by decide +kernel
theorem dX8_copy_197 : decode cX8_copy 197 = .ok (.iastore, 1) := by decide +kernel
theorem dX8_copy_198 : decode cX8_copy 198 = .ok (.iinc 7 1, 3) := by decide +kernel
theorem dX8_copy_201 : decode cX8_copy 201 = .ok (.goto (-58), 3) := by decide +kernel
theorem dX8_copy_204 : decode cX8_copy 204 = .ok (.iload 5, 2) := by decide +kernel
theorem dX8_copy_206 : decode cX8_copy 206 = .ok (.ireturn, 1) := by decide +kernel
theorem dX8_drop_0 : decode cX8_drop 0 = .ok (.aload_n 0, 1) := by decide +kernel
theorem dX8_drop_1 : decode cX8_drop 1 = .ok (.iconst 0, 1) := by decide +kernel
theorem dX8_drop_2 : decode cX8_drop 2 = .ok (.putfield 107, 3) := by decide +kernel
theorem dX8_drop_5 : decode cX8_drop 5 = .ok (.iload_n 1, 1) := by decide +kernel
theorem dX8_drop_6 : decode cX8_drop 6 = .ok (.invokestatic 120, 3) := by decide +kernel
theorem dX8_drop_9 : decode cX8_drop 9 = .ok (.ifCond .ne 6, 3) := by decide +kernel
theorem dX8_drop_12 : decode cX8_drop 12 = .ok (.ldc 126, 2) := by decide +kernel
theorem dX8_drop_14 : decode cX8_drop 14 = .ok (.ireturn, 1) := by decide +kernel
theorem dX8_drop_15 : decode cX8_drop 15 = .ok (.aload_n 0, 1) := by decide +kernel
theorem dX8_drop_16 : decode cX8_drop 16 = .ok (.iconst 0, 1) := by decide +kernel
theorem dX8_drop_17 : decode cX8_drop 17 = .ok (.putfield 110, 3) := by decide +kernel
theorem dX8_drop_20 : decode cX8_drop 20 = .ok (.aload_n 0, 1) := by decide +kernel
theorem dX8_drop_21 : decode cX8_drop 21 = .ok (.getfield 7, 3) := by decide +kernel
theorem dX8_drop_24 : decode cX8_drop 24 = .ok (.iload_n 1, 1) := by decide +kernel
theorem dX8_drop_25 : decode cX8_drop 25 = .ok (.iaload, 1) := by decide +kernel
theorem dX8_drop_26 : decode cX8_drop 26 = .ok (.ifCond .ge 9, 3) := by decide +kernel
theorem dX8_drop_29 : decode cX8_drop 29 = .ok (.aload_n 0, 1) := by decide +kernel
theorem dX8_drop_30 : decode cX8_drop 30 = .ok (.iconst 1, 1) := by decide +kernel
theorem dX8_drop_31 : decode cX8_drop 31 = .ok (.invokevirtual 127, 3) := by decide +kernel
theorem dX8_drop_34 : decode cX8_drop 34 = .ok (.ireturn, 1) := by decide +kernel
theorem dX8_drop_35 : decode cX8_drop 35 = .ok (.aload_n 0, 1) := by decide +kernel
theorem dX8_drop_36 : decode cX8_drop 36 = .ok (.getfield 7, 3) := by decide +kernel
theorem dX8_drop_39 : decode cX8_drop 39 = .ok (.iload_n 1, 1) := by decide +kernel
theorem dX8_drop_40 : decode cX8_drop 40 = .ok (.iconst (-1), 1) := by decide +kernel
theorem dX8_drop_41 : decode cX8_drop 41 = .ok (.iastore, 1) := by decide +kernel
theorem dX8_drop_42 : decode cX8_drop 42 = .ok (.aload_n 0, 1) := by decide +kernel
theorem dX8_drop_43 : decode cX8_drop 43 = .ok (.getfield 13, 3) := by decide +kernel
theorem dX8_drop_46 : decode cX8_drop 46 = .ok (.iload_n 1, 1) := by decide +kernel
theorem dX8_drop_47 : decode cX8_drop 47 = .ok (.iaload, 1) := by decide +kernel
theorem dX8_drop_48 : decode cX8_drop 48 = .ok (.ireturn, 1) := by decide +kernel
theorem dX8_feed_0 : decode cX8_feed 0 = .ok (.aload_n 0, 1) := by decide +kernel
theorem dX8_feed_1 : decode cX8_feed 1 = .ok (.iconst 0, 1) := by decide +kernel
theorem dX8_feed_2 : decode cX8_feed 2 = .ok (.putfield 107, 3) := by decide +kernel
theorem dX8_feed_5 : decode cX8_feed 5 = .ok (.iload_n 3, 1) := by decide +kernel
theorem dX8_feed_6 : decode cX8_feed 6 = .ok (.i2l, 1) := by decide +kernel
theorem dX8_feed_7 : decode cX8_feed 7 = .ok (.lconst 1, 1) := by decide +kernel
theorem dX8_feed_8 : decode cX8_feed 8 = .ok (.ldc2_w 131, 3) := by decide +kernel
theorem dX8_feed_11 : decode cX8_feed 11 = .ok (.invokestatic 116, 3) := by decide +kernel
theorem dX8_feed_14 : decode cX8_feed 14 = .ok (.ifCond .ne 6, 3) := by decide +kernel
theorem dX8_feed_17 : decode cX8_feed 17 = .ok (.ldc 126, 2) := by decide +kernel
theorem dX8_feed_19 : decode cX8_feed 19 = .ok (.ireturn, 1) := by decide +kernel
theorem dX8_feed_20 : decode cX8_feed 20 = .ok (.aload_n 0, 1) := by decide +kernel
theorem dX8_feed_21 : decode cX8_feed 21 = .ok (.getfield 133, 3) := by decide +kernel
theorem dX8_feed_24 : decode cX8_feed 24 = .ok (.iload_n 3, 1) := by decide +kernel
theorem dX8_feed_25 : decode cX8_feed 25 = .ok (.iadd, 1) := by decide +kernel
theorem dX8_feed_26 : decode cX8_feed 26 = .ok (.sipush 400, 3) := by decide +kernel
theorem dX8_feed_29 : decode cX8_feed 29 = .ok (.if_icmp .le 6, 3) := by decide +kernel
theorem dX8_feed_32 : decode cX8_feed 32 = .ok (.ldc 136, 2) := by decide +kernel
theorem dX8_feed_34 : decode cX8_feed 34 = .ok (.ireturn, 1) := by decide +kernel
theorem dX8_feed_35 : decode cX8_feed 35 = .ok (.iload_n 3, 1) := by decide +kernel
theorem dX8_feed_36 : decode cX8_feed 36 = .ok (.iconst 1, 1) := by decide +kernel
theorem dX8_feed_37 : decode cX8_feed 37 = .ok (.isub, 1) := by decide +kernel
theorem dX8_feed_38 : decode cX8_feed 38 = .ok (.istore 4, 2) := by decide +kernel
theorem dX8_feed_40 : decode cX8_feed 40 = .ok (.iload 4, 2) := by decide +kernel
theorem dX8_feed_42 : decode cX8_feed 42 = .ok (.ifCond .lt 40, 3) := by decide +kernel
theorem dX8_feed_45 : decode cX8_feed 45 = .ok (.aload_n 0, 1) := by decide +kernel
theorem dX8_feed_46 : decode cX8_feed 46 = .ok (.getfield 19, 3) := by decide +kernel
theorem dX8_feed_49 : decode cX8_feed 49 = .ok (.aload_n 0, 1) := by decide +kernel
theorem dX8_feed_50 : decode cX8_feed 50 = .ok (.getfield 133, 3) := by decide +kernel
theorem dX8_feed_53 : decode cX8_feed 53 = .ok (.lload_n 1, 1) := by decide +kernel
theorem dX8_feed_54 : decode cX8_feed 54 = .ok (.bipush 8, 2) := by decide +kernel
theorem dX8_feed_56 : decode cX8_feed 56 = .ok (.iload 4, 2) := by decide +kernel
theorem dX8_feed_58 : decode cX8_feed 58 = .ok (.imul, 1) := by decide +kernel
theorem dX8_feed_59 : decode cX8_feed 59 = .ok (.lshr, 1) := by decide +kernel
theorem dX8_feed_60 : decode cX8_feed 60 = .ok (.ldc2_w 137, 3) := by decide +kernel
theorem dX8_feed_63 : decode cX8_feed 63 = .ok (.land, 1) := by decide +kernel
theorem dX8_feed_64 : decode cX8_feed 64 = .ok (.l2i, 1) := by decide +kernel
theorem dX8_feed_65 : decode cX8_feed 65 = .ok (.iastore, 1) := by decide +kernel
theorem dX8_feed_66 : decode cX8_feed 66 = .ok (.aload_n 0, 1) := by decide +kernel
theorem dX8_feed_67 : decode cX8_feed 67 = .ok (.dup, 1) := by decide +kernel
theorem dX8_feed_68 : decode cX8_feed 68 = .ok (.getfield 133, 3) := by decide +kernel
theorem dX8_feed_71 : decode cX8_feed 71 = .ok (.iconst 1, 1) := by decide +kernel
theorem dX8_feed_72 : decode cX8_feed 72 = .ok (.iadd, 1) := by decide +kernel
theorem dX8_feed_73 : decode cX8_feed 73 = .ok (.putfield 133, 3) := by decide +kernel
theorem dX8_feed_76 : decode cX8_feed 76 = .ok (.iinc 4 (-1), 3) := by decide +kernel
theorem dX8_feed_79 : decode cX8_feed 79 = .ok (.goto (-39), 3) := by decide +kernel
theorem dX8_feed_82 : decode cX8_feed 82 = .ok (.aload_n 0, 1) := by decide +kernel
theorem dX8_feed_83 : decode cX8_feed 83 = .ok (.getfield 133, 3) := by decide +kernel
theorem dX8_feed_86 : decode cX8_feed 86 = .ok (.ireturn, 1) := by decide +kernel
theorem dX8_byteAt_0 : decode cX8_byteAt 0 = .ok (.iload_n 1, 1) := by decide +kernel
theorem dX8_byteAt_1 : decode cX8_byteAt 1 = .ok (.aload_n 0, 1) := by decide +kernel
theorem dX8_byteAt_2 : decode cX8_byteAt 2 = .ok (.getfield 139, 3) := by decide +kernel
theorem dX8_byteAt_5 : decode cX8_byteAt 5 = .ok (.if_icmp .ge 12, 3) := by decide +kernel
theorem dX8_byteAt_8 : decode cX8_byteAt 8 = .ok (.aload_n 0, 1) := by decide +kernel
theorem dX8_byteAt_9 : decode cX8_byteAt 9 = .ok (.getfield 19, 3) := by decide +kernel
theorem dX8_byteAt_12 : decode cX8_byteAt 12 = .ok (.iload_n 1, 1) := by decide +kernel
theorem dX8_byteAt_13 : decode cX8_byteAt 13 = .ok (.iaload, 1) := by decide +kernel
theorem dX8_byteAt_14 : decode cX8_byteAt 14 = .ok (.goto 5, 3) := by decide +kernel
theorem dX8_byteAt_17 : decode cX8_byteAt 17 = .ok (.ldc 142, 2) := by decide +kernel
theorem dX8_byteAt_19 : decode cX8_byteAt 19 = .ok (.ireturn, 1) := by decide +kernel
theorem dX8_bad_0 : decode cX8_bad 0 = .ok (.aload_n 0, 1) := by decide +kernel
theorem dX8_bad_1 : decode cX8_bad 1 = .ok (.getfield 143, 3) := by decide +kernel
theorem dX8_bad_4 : decode cX8_bad 4 = .ok (.ifCond .ne 13, 3) := by decide +kernel
theorem dX8_bad_7 : decode cX8_bad 7 = .ok (.aload_n 0, 1) := by decide +kernel
theorem dX8_bad_8 : decode cX8_bad 8 = .ok (.iload_n 1, 1) := by decide +kernel
theorem dX8_bad_9 : decode cX8_bad 9 = .ok (.putfield 143, 3) := by decide +kernel
theorem dX8_bad_12 : decode cX8_bad 12 = .ok (.aload_n 0, 1) := by decide +kernel
theorem dX8_bad_13 : decode cX8_bad 13 = .ok (.iload_n 2, 1) := by decide +kernel
theorem dX8_bad_14 : decode cX8_bad 14 = .ok (.putfield 146, 3) := by decide +kernel
theorem dX8_bad_17 : decode cX8_bad 17 = .ok (.return_, 1) := by decide +kernel
theorem dX8_skip_0 : decode cX8_skip 0 = .ok (.aload_n 0, 1) := by decide +kernel
theorem dX8_skip_1 : decode cX8_skip 1 = .ok (.aload_n 0, 1) := by decide +kernel
theorem dX8_skip_2 : decode cX8_skip 2 = .ok (.getfield 149, 3) := by decide +kernel
theorem dX8_skip_5 : decode cX8_skip 5 = .ok (.invokevirtual 152, 3) := by decide +kernel
theorem dX8_skip_8 : decode cX8_skip 8 = .ok (.bipush 32, 2) := by decide +kernel
theorem dX8_skip_10 : decode cX8_skip 10 = .ok (.if_icmp .eq 16, 3) := by decide +kernel
theorem dX8_skip_13 : decode cX8_skip 13 = .ok (.aload_n 0, 1) := by decide +kernel
theorem dX8_skip_14 : decode cX8_skip 14 = .ok (.aload_n 0, 1) := by decide +kernel
theorem dX8_skip_15 : decode cX8_skip 15 = .ok (.getfield 149, 3) := by decide +kernel
theorem dX8_skip_18 : decode cX8_skip 18 = .ok (.invokevirtual 152, 3) := by decide +kernel
theorem dX8_skip_21 : decode cX8_skip 21 = .ok (.bipush 10, 2) := by decide +kernel
theorem dX8_skip_23 : decode cX8_skip 23 = .ok (.if_icmp .ne 16, 3) := by decide +kernel
theorem dX8_skip_26 : decode cX8_skip 26 = .ok (.aload_n 0, 1) := by decide +kernel
theorem dX8_skip_27 : decode cX8_skip 27 = .ok (.dup, 1) := by decide +kernel
theorem dX8_skip_28 : decode cX8_skip 28 = .ok (.getfield 149, 3) := by decide +kernel
theorem dX8_skip_31 : decode cX8_skip 31 = .ok (.iconst 1, 1) := by decide +kernel
theorem dX8_skip_32 : decode cX8_skip 32 = .ok (.iadd, 1) := by decide +kernel
theorem dX8_skip_33 : decode cX8_skip 33 = .ok (.putfield 149, 3) := by decide +kernel
theorem dX8_skip_36 : decode cX8_skip 36 = .ok (.goto (-36), 3) := by decide +kernel
theorem dX8_skip_39 : decode cX8_skip 39 = .ok (.return_, 1) := by decide +kernel
theorem dX8_isFigure_0 : decode cX8_isFigure 0 = .ok (.iload_n 0, 1) := by decide +kernel
theorem dX8_isFigure_1 : decode cX8_isFigure 1 = .ok (.bipush 48, 2) := by decide +kernel
theorem dX8_isFigure_3 : decode cX8_isFigure 3 = .ok (.if_icmp .lt 13, 3) := by decide +kernel
theorem dX8_isFigure_6 : decode cX8_isFigure 6 = .ok (.iload_n 0, 1) := by decide +kernel
theorem dX8_isFigure_7 : decode cX8_isFigure 7 = .ok (.bipush 57, 2) := by decide +kernel
theorem dX8_isFigure_9 : decode cX8_isFigure 9 = .ok (.if_icmp .gt 7, 3) := by decide +kernel
theorem dX8_isFigure_12 : decode cX8_isFigure 12 = .ok (.iconst 1, 1) := by decide +kernel
theorem dX8_isFigure_13 : decode cX8_isFigure 13 = .ok (.goto 4, 3) := by decide +kernel
theorem dX8_isFigure_16 : decode cX8_isFigure 16 = .ok (.iconst 0, 1) := by decide +kernel
theorem dX8_isFigure_17 : decode cX8_isFigure 17 = .ok (.ireturn, 1) := by decide +kernel
theorem dX8_isSign_0 : decode cX8_isSign 0 = .ok (.iload_n 0, 1) := by decide +kernel
theorem dX8_isSign_1 : decode cX8_isSign 1 = .ok (.bipush 48, 2) := by decide +kernel
theorem dX8_isSign_3 : decode cX8_isSign 3 = .ok (.if_icmp .eq 27, 3) := by decide +kernel
theorem dX8_isSign_6 : decode cX8_isSign 6 = .ok (.iload_n 0, 1) := by decide +kernel
theorem dX8_isSign_7 : decode cX8_isSign 7 = .ok (.bipush 49, 2) := by decide +kernel
theorem dX8_isSign_9 : decode cX8_isSign 9 = .ok (.if_icmp .eq 21, 3) := by decide +kernel
theorem dX8_isSign_12 : decode cX8_isSign 12 = .ok (.iload_n 0, 1) := by decide +kernel
theorem dX8_isSign_13 : decode cX8_isSign 13 = .ok (.bipush 76, 2) := by decide +kernel
theorem dX8_isSign_15 : decode cX8_isSign 15 = .ok (.if_icmp .eq 15, 3) := by decide +kernel
theorem dX8_isSign_18 : decode cX8_isSign 18 = .ok (.iload_n 0, 1) := by decide +kernel
theorem dX8_isSign_19 : decode cX8_isSign 19 = .ok (.bipush 72, 2) := by decide +kernel
theorem dX8_isSign_21 : decode cX8_isSign 21 = .ok (.if_icmp .eq 9, 3) := by decide +kernel
theorem dX8_isSign_24 : decode cX8_isSign 24 = .ok (.iload_n 0, 1) := by decide +kernel
theorem dX8_isSign_25 : decode cX8_isSign 25 = .ok (.bipush 88, 2) := by decide +kernel
theorem dX8_isSign_27 : decode cX8_isSign 27 = .ok (.if_icmp .ne 7, 3) := by decide +kernel
theorem dX8_isSign_30 : decode cX8_isSign 30 = .ok (.iconst 1, 1) := by decide +kernel
theorem dX8_isSign_31 : decode cX8_isSign 31 = .ok (.goto 4, 3) := by decide +kernel
theorem dX8_isSign_34 : decode cX8_isSign 34 = .ok (.iconst 0, 1) := by decide +kernel
theorem dX8_isSign_35 : decode cX8_isSign 35 = .ok (.ireturn, 1) := by decide +kernel
theorem dX8_readLine_0 : decode cX8_readLine 0 = .ok (.iload_n 3, 1) := by decide +kernel
theorem dX8_readLine_1 : decode cX8_readLine 1 = .ok (.iload_n 2, 1) := by decide +kernel
theorem dX8_readLine_2 : decode cX8_readLine 2 = .ok (.isub, 1) := by decide +kernel
theorem dX8_readLine_3 : decode cX8_readLine 3 = .ok (.bipush 8, 2) := by decide +kernel
theorem dX8_readLine_5 : decode cX8_readLine 5 = .ok (.if_icmp .gt 17, 3) := by decide +kernel
theorem dX8_readLine_8 : decode cX8_readLine 8 = .ok (.aload_n 0, 1) := by decide +kernel
theorem dX8_readLine_9 : decode cX8_readLine 9 = .ok (.iload_n 3, 1) := by decide +kernel
theorem dX8_readLine_10 : decode cX8_readLine 10 = .ok (.invokevirtual 152, 3) := by decide +kernel
theorem dX8_readLine_13 : decode cX8_readLine 13 = .ok (.bipush 59, 2) := by decide +kernel
theorem dX8_readLine_15 : decode cX8_readLine 15 = .ok (.if_icmp .ne 7, 3) := by decide +kernel
theorem dX8_readLine_18 : decode cX8_readLine 18 = .ok (.iconst 1, 1) := by decide +kernel
theorem dX8_readLine_19 : decode cX8_readLine 19 = .ok (.goto 4, 3) := by decide +kernel
theorem dX8_readLine_22 : decode cX8_readLine 22 = .ok (.iconst 0, 1) := by decide +kernel
theorem dX8_readLine_23 : decode cX8_readLine 23 = .ok (.istore 4, 2) := by decide +kernel
theorem dX8_readLine_25 : decode cX8_readLine 25 = .ok (.iload_n 2, 1) := by decide +kernel
theorem dX8_readLine_26 : decode cX8_readLine 26 = .ok (.istore 5, 2) := by decide +kernel
theorem dX8_readLine_28 : decode cX8_readLine 28 = .ok (.iload 5, 2) := by decide +kernel
theorem dX8_readLine_30 : decode cX8_readLine 30 = .ok (.iload_n 3, 1) := by decide +kernel
theorem dX8_readLine_31 : decode cX8_readLine 31 = .ok (.if_icmp .ge 34, 3) := by decide +kernel
theorem dX8_readLine_34 : decode cX8_readLine 34 = .ok (.iload 4, 2) := by decide +kernel
theorem dX8_readLine_36 : decode cX8_readLine 36 = .ok (.ifCond .eq 20, 3) := by decide +kernel
theorem dX8_readLine_39 : decode cX8_readLine 39 = .ok (.aload_n 0, 1) := by decide +kernel
theorem dX8_readLine_40 : decode cX8_readLine 40 = .ok (.getfield 19, 3) := by decide +kernel
theorem dX8_readLine_43 : decode cX8_readLine 43 = .ok (.iload 5, 2) := by decide +kernel
theorem dX8_readLine_45 : decode cX8_readLine 45 = .ok (.iaload, 1) := by decide +kernel
theorem dX8_readLine_46 : decode cX8_readLine 46 = .ok (.invokestatic 155, 3) := by decide +kernel
theorem dX8_readLine_49 : decode cX8_readLine 49 = .ok (.ifCond .eq 7, 3) := by decide +kernel
theorem dX8_readLine_52 : decode cX8_readLine 52 = .ok (.iconst 1, 1) := by decide +kernel
theorem dX8_readLine_53 : decode cX8_readLine 53 = .ok (.goto 4, 3) := by decide +kernel
theorem dX8_readLine_56 : decode cX8_readLine 56 = .ok (.iconst 0, 1) := by decide +kernel
theorem dX8_readLine_57 : decode cX8_readLine 57 = .ok (.istore 4, 2) := by decide +kernel
theorem dX8_readLine_59 : decode cX8_readLine 59 = .ok (.iinc 5 1, 3) := by decide +kernel
theorem dX8_readLine_62 : decode cX8_readLine 62 = .ok (.goto (-34), 3) := by decide +kernel
theorem dX8_readLine_65 : decode cX8_readLine 65 = .ok (.iload 4, 2) := by decide +kernel
theorem dX8_readLine_67 : decode cX8_readLine 67 = .ok (.ifCond .ne 10, 3) := by decide +kernel
theorem dX8_readLine_70 : decode cX8_readLine 70 = .ok (.aload_n 0, 1) := by decide +kernel
theorem dX8_readLine_71 : decode cX8_readLine 71 = .ok (.iconst 1, 1) := by decide +kernel
theorem dX8_readLine_72 : decode cX8_readLine 72 = .ok (.iload_n 2, 1) := by decide +kernel
theorem dX8_readLine_73 : decode cX8_readLine 73 = .ok (.invokevirtual 158, 3) := by decide +kernel
theorem dX8_readLine_76 : decode cX8_readLine 76 = .ok (.return_, 1) := by decide +kernel
theorem dX8_readLine_77 : decode cX8_readLine 77 = .ok (.aload_n 0, 1) := by decide +kernel
theorem dX8_readLine_78 : decode cX8_readLine 78 = .ok (.getfield 22, 3) := by decide +kernel
theorem dX8_readLine_81 : decode cX8_readLine 81 = .ok (.iload_n 1, 1) := by decide +kernel
theorem dX8_readLine_82 : decode cX8_readLine 82 = .ok (.iaload, 1) := by decide +kernel
theorem dX8_readLine_83 : decode cX8_readLine 83 = .ok (.ifCond .le 22, 3) := by decide +kernel
theorem dX8_readLine_86 : decode cX8_readLine 86 = .ok (.iload_n 3, 1) := by decide +kernel
theorem dX8_readLine_87 : decode cX8_readLine 87 = .ok (.iload_n 2, 1) := by decide +kernel
theorem dX8_readLine_88 : decode cX8_readLine 88 = .ok (.isub, 1) := by decide +kernel
theorem dX8_readLine_89 : decode cX8_readLine 89 = .ok (.aload_n 0, 1) := by decide +kernel
theorem dX8_readLine_90 : decode cX8_readLine 90 = .ok (.getfield 25, 3) := by decide +kernel
theorem dX8_readLine_93 : decode cX8_readLine 93 = .ok (.iload_n 1, 1) := by decide +kernel
theorem dX8_readLine_94 : decode cX8_readLine 94 = .ok (.iaload, 1) := by decide +kernel
theorem dX8_readLine_95 : decode cX8_readLine 95 = .ok (.if_icmp .eq 10, 3) := by decide +kernel
theorem dX8_readLine_98 : decode cX8_readLine 98 = .ok (.aload_n 0, 1) := by decide +kernel
theorem dX8_readLine_99 : decode cX8_readLine 99 = .ok (.iconst 2, 1) := by decide +kernel
theorem dX8_readLine_100 : decode cX8_readLine 100 = .ok (.iload_n 2, 1) := by decide +kernel
theorem dX8_readLine_101 : decode cX8_readLine 101 = .ok (.invokevirtual 158, 3) := by decide +kernel
theorem dX8_readLine_104 : decode cX8_readLine 104 = .ok (.return_, 1) := by decide +kernel
theorem dX8_readLine_105 : decode cX8_readLine 105 = .ok (.aload_n 0, 1) := by decide +kernel
theorem dX8_readLine_106 : decode cX8_readLine 106 = .ok (.getfield 25, 3) := by decide +kernel
theorem dX8_readLine_109 : decode cX8_readLine 109 = .ok (.iload_n 1, 1) := by decide +kernel
theorem dX8_readLine_110 : decode cX8_readLine 110 = .ok (.iload_n 3, 1) := by decide +kernel
theorem dX8_readLine_111 : decode cX8_readLine 111 = .ok (.iload_n 2, 1) := by decide +kernel
theorem dX8_readLine_112 : decode cX8_readLine 112 = .ok (.isub, 1) := by decide +kernel
theorem dX8_readLine_113 : decode cX8_readLine 113 = .ok (.iastore, 1) := by decide +kernel
theorem dX8_readLine_114 : decode cX8_readLine 114 = .ok (.aload_n 0, 1) := by decide +kernel
theorem dX8_readLine_115 : decode cX8_readLine 115 = .ok (.getfield 44, 3) := by decide +kernel
theorem dX8_readLine_118 : decode cX8_readLine 118 = .ok (.aload_n 0, 1) := by decide +kernel
theorem dX8_readLine_119 : decode cX8_readLine 119 = .ok (.getfield 162, 3) := by decide +kernel
theorem dX8_readLine_122 : decode cX8_readLine 122 = .ok (.iaload, 1) := by decide +kernel
theorem dX8_readLine_123 : decode cX8_readLine 123 = .ok (.ldc 165, 2) := by decide +kernel
theorem dX8_readLine_125 : decode cX8_readLine 125 = .ok (.if_icmp .ne 10, 3) := by decide +kernel
theorem dX8_readLine_128 : decode cX8_readLine 128 = .ok (.aload_n 0, 1) := by decide +kernel
theorem dX8_readLine_129 : decode cX8_readLine 129 = .ok (.iconst 4, 1) := by decide +kernel
theorem dX8_readLine_130 : decode cX8_readLine 130 = .ok (.iload_n 2, 1) := by decide +kernel
theorem dX8_readLine_131 : decode cX8_readLine 131 = .ok (.invokevirtual 158, 3) := by decide +kernel
theorem dX8_readLine_134 : decode cX8_readLine 134 = .ok (.return_, 1) := by decide +kernel
theorem dX8_readLine_135 : decode cX8_readLine 135 = .ok (.aload_n 0, 1) := by decide +kernel
theorem dX8_readLine_136 : decode cX8_readLine 136 = .ok (.getfield 22, 3) := by decide +kernel
theorem dX8_readLine_139 : decode cX8_readLine 139 = .ok (.iload_n 1, 1) := by decide +kernel
theorem dX8_readLine_140 : decode cX8_readLine 140 = .ok (.iaload, 1) := by decide +kernel
theorem dX8_readLine_141 : decode cX8_readLine 141 = .ok (.istore 5, 2) := by decide +kernel
theorem dX8_readLine_143 : decode cX8_readLine 143 = .ok (.iload_n 2, 1) := by decide +kernel
theorem dX8_readLine_144 : decode cX8_readLine 144 = .ok (.istore 6, 2) := by decide +kernel
theorem dX8_readLine_146 : decode cX8_readLine 146 = .ok (.iload 6, 2) := by decide +kernel
theorem dX8_readLine_148 : decode cX8_readLine 148 = .ok (.iload_n 3, 1) := by decide +kernel
theorem dX8_readLine_149 : decode cX8_readLine 149 = .ok (.if_icmp .ge 37, 3) := by decide +kernel
theorem dX8_readLine_152 : decode cX8_readLine 152 = .ok (.aload_n 0, 1) := by decide +kernel
theorem dX8_readLine_153 : decode cX8_readLine 153 = .ok (.getfield 31, 3) := by decide +kernel
theorem dX8_readLine_156 : decode cX8_readLine 156 = .ok (.sipush 1600, 3) := by decide +kernel
theorem dX8_readLine_159 : decode cX8_readLine 159 = .ok (.iload_n 1, 1) := by decide +kernel
theorem dX8_readLine_160 : decode cX8_readLine 160 = .ok (.imul, 1) := by decide +kernel
theorem dX8_readLine_161 : decode cX8_readLine 161 = .ok (.bipush 8, 2) := by decide +kernel
theorem dX8_readLine_163 : decode cX8_readLine 163 = .ok (.iload 5, 2) := by decide +kernel
theorem dX8_readLine_165 : decode cX8_readLine 165 = .ok (.imul, 1) := by decide +kernel
theorem dX8_readLine_166 : decode cX8_readLine 166 = .ok (.iadd, 1) := by decide +kernel
theorem dX8_readLine_167 : decode cX8_readLine 167 = .ok (.iload 6, 2) := by decide +kernel
theorem dX8_readLine_169 : decode cX8_readLine 169 = .ok (.iadd, 1) := by decide +kernel
theorem dX8_readLine_170 : decode cX8_readLine 170 = .ok (.iload_n 2, 1) := by decide +kernel
theorem dX8_readLine_171 : decode cX8_readLine 171 = .ok (.isub, 1) := by decide +kernel
theorem dX8_readLine_172 : decode cX8_readLine 172 = .ok (.aload_n 0, 1) := by decide +kernel
theorem dX8_readLine_173 : decode cX8_readLine 173 = .ok (.getfield 19, 3) := by decide +kernel
theorem dX8_readLine_176 : decode cX8_readLine 176 = .ok (.iload 6, 2) := by decide +kernel
theorem dX8_readLine_178 : decode cX8_readLine 178 = .ok (.iaload, 1) := by decide +kernel
theorem dX8_readLine_179 : decode cX8_readLine 179 = .ok (.iastore, 1) := by decide +kernel
theorem dX8_readLine_180 : decode cX8_readLine 180 = .ok (.iinc 6 1, 3) := by decide +kernel
theorem dX8_readLine_183 : decode cX8_readLine 183 = .ok (.goto (-37), 3) := by decide +kernel
theorem dX8_readLine_186 : decode cX8_readLine 186 = .ok (.aload_n 0, 1) := by decide +kernel
theorem dX8_readLine_187 : decode cX8_readLine 187 = .ok (.getfield 22, 3) := by decide +kernel
theorem dX8_readLine_190 : decode cX8_readLine 190 = .ok (.iload_n 1, 1) := by decide +kernel
theorem dX8_readLine_191 : decode cX8_readLine 191 = .ok (.dup2, 1) := by decide +kernel
theorem dX8_readLine_192 : decode cX8_readLine 192 = .ok (.iaload, 1) := by decide +kernel
theorem dX8_readLine_193 : decode cX8_readLine 193 = .ok (.iconst 1, 1) := by decide +kernel
theorem dX8_readLine_194 : decode cX8_readLine 194 = .ok (.iadd, 1) := by decide +kernel
theorem dX8_readLine_195 : decode cX8_readLine 195 = .ok (.iastore, 1) := by decide +kernel
theorem dX8_readLine_196 : decode cX8_readLine 196 = .ok (.aload_n 0, 1) := by decide +kernel
theorem dX8_readLine_197 : decode cX8_readLine 197 = .ok (.getfield 28, 3) := by decide +kernel
theorem dX8_readLine_200 : decode cX8_readLine 200 = .ok (.iload_n 1, 1) := by decide +kernel
theorem dX8_readLine_201 : decode cX8_readLine 201 = .ok (.iaload, 1) := by decide +kernel
theorem dX8_readLine_202 : decode cX8_readLine 202 = .ok (.ldc 165, 2) := by decide +kernel
theorem dX8_readLine_204 : decode cX8_readLine 204 = .ok (.if_icmp .ge 21, 3) := by decide +kernel
theorem dX8_readLine_207 : decode cX8_readLine 207 = .ok (.aload_n 0, 1) := by decide +kernel
theorem dX8_readLine_208 : decode cX8_readLine 208 = .ok (.getfield 35, 3) := by decide +kernel
theorem dX8_readLine_211 : decode cX8_readLine 211 = .ok (.ldc 165, 2) := by decide +kernel
theorem dX8_readLine_213 : decode cX8_readLine 213 = .ok (.iload_n 1, 1) := by decide +kernel
theorem dX8_readLine_214 : decode cX8_readLine 214 = .ok (.imul, 1) := by decide +kernel
theorem dX8_readLine_215 : decode cX8_readLine 215 = .ok (.aload_n 0, 1) := by decide +kernel
theorem dX8_readLine_216 : decode cX8_readLine 216 = .ok (.getfield 28, 3) := by decide +kernel
theorem dX8_readLine_219 : decode cX8_readLine 219 = .ok (.iload_n 1, 1) := by decide +kernel
theorem dX8_readLine_220 : decode cX8_readLine 220 = .ok (.iaload, 1) := by decide +kernel
theorem dX8_readLine_221 : decode cX8_readLine 221 = .ok (.iadd, 1) := by decide +kernel
theorem dX8_readLine_222 : decode cX8_readLine 222 = .ok (.iload 5, 2) := by decide +kernel
theorem dX8_readLine_224 : decode cX8_readLine 224 = .ok (.iastore, 1) := by decide +kernel
theorem dX8_readLine_225 : decode cX8_readLine 225 = .ok (.aload_n 0, 1) := by decide +kernel
theorem dX8_readLine_226 : decode cX8_readLine 226 = .ok (.getfield 28, 3) := by decide +kernel
theorem dX8_readLine_229 : decode cX8_readLine 229 = .ok (.iload_n 1, 1) := by decide +kernel
theorem dX8_readLine_230 : decode cX8_readLine 230 = .ok (.dup2, 1) := by decide +kernel
theorem dX8_readLine_231 : decode cX8_readLine 231 = .ok (.iaload, 1) := by decide +kernel
theorem dX8_readLine_232 : decode cX8_readLine 232 = .ok (.iconst 1, 1) := by decide +kernel
theorem dX8_readLine_233 : decode cX8_readLine 233 = .ok (.iadd, 1) := by decide +kernel
theorem dX8_readLine_234 : decode cX8_readLine 234 = .ok (.iastore, 1) := by decide +kernel
theorem dX8_readLine_235 : decode cX8_readLine 235 = .ok (.aload_n 0, 1) := by decide +kernel
theorem dX8_readLine_236 : decode cX8_readLine 236 = .ok (.getfield 44, 3) := by decide +kernel
theorem dX8_readLine_239 : decode cX8_readLine 239 = .ok (.aload_n 0, 1) := by decide +kernel
theorem dX8_readLine_240 : decode cX8_readLine 240 = .ok (.getfield 162, 3) := by decide +kernel
theorem dX8_readLine_243 : decode cX8_readLine 243 = .ok (.dup2, 1) := by decide +kernel
theorem dX8_readLine_244 : decode cX8_readLine 244 = .ok (.iaload, 1) := by decide +kernel
theorem dX8_readLine_245 : decode cX8_readLine 245 = .ok (.iconst 1, 1) := by decide +kernel
theorem dX8_readLine_246 : decode cX8_readLine 246 = .ok (.iadd, 1) := by decide +kernel
theorem dX8_readLine_247 : decode cX8_readLine 247 = .ok (.iastore, 1) := by decide +kernel
theorem dX8_readLine_248 : decode cX8_readLine 248 = .ok (.aload_n 0, 1) := by decide +kernel
theorem dX8_readLine_249 : decode cX8_readLine 249 = .ok (.iload_n 3, 1) := by decide +kernel
theorem dX8_readLine_250 : decode cX8_readLine 250 = .ok (.iconst 1, 1) := by decide +kernel
theorem dX8_readLine_251 : decode cX8_readLine 251 = .ok (.iadd, 1) := by decide +kernel
theorem dX8_readLine_252 : decode cX8_readLine 252 = .ok (.putfield 149, 3) := by decide +kernel
theorem dX8_readLine_255 : decode cX8_readLine 255 = .ok (.return_, 1) := by decide +kernel
theorem dX8_readNumber_0 : decode cX8_readNumber 0 = .ok (.iconst 0, 1) := by decide +kernel
theorem dX8_readNumber_1 : decode cX8_readNumber 1 = .ok (.istore 4, 2) := by decide +kernel
theorem dX8_readNumber_3 : decode cX8_readNumber 3 = .ok (.iload_n 2, 1) := by decide +kernel
theorem dX8_readNumber_4 : decode cX8_readNumber 4 = .ok (.istore 5, 2) := by decide +kernel
theorem dX8_readNumber_6 : decode cX8_readNumber 6 = .ok (.iload 5, 2) := by decide +kernel
theorem dX8_readNumber_8 : decode cX8_readNumber 8 = .ok (.iload_n 3, 1) := by decide +kernel
theorem dX8_readNumber_9 : decode cX8_readNumber 9 = .ok (.if_icmp .ge 34, 3) := by decide +kernel
theorem dX8_readNumber_12 : decode cX8_readNumber 12 = .ok (.iload_n 3, 1) := by decide +kernel
theorem dX8_readNumber_13 : decode cX8_readNumber 13 = .ok (.iload_n 2, 1) := by decide +kernel
theorem dX8_readNumber_14 : decode cX8_readNumber 14 = .ok (.isub, 1) := by decide +kernel
theorem dX8_readNumber_15 : decode cX8_readNumber 15 = .ok (.iconst 3, 1) := by decide +kernel
theorem dX8_readNumber_16 : decode cX8_readNumber 16 = .ok (.if_icmp .gt 27, 3) := by decide +kernel
theorem dX8_readNumber_19 : decode cX8_readNumber 19 = .ok (.bipush 10, 2) := by decide +kernel
theorem dX8_readNumber_21 : decode cX8_readNumber 21 = .ok (.iload 4, 2) := by decide +kernel
theorem dX8_readNumber_23 : decode cX8_readNumber 23 = .ok (.imul, 1) := by decide +kernel
theorem dX8_readNumber_24 : decode cX8_readNumber 24 = .ok (.aload_n 0, 1) := by decide +kernel
theorem dX8_readNumber_25 : decode cX8_readNumber 25 = .ok (.getfield 19, 3) := by decide +kernel
theorem dX8_readNumber_28 : decode cX8_readNumber 28 = .ok (.iload 5, 2) := by decide +kernel
theorem dX8_readNumber_30 : decode cX8_readNumber 30 = .ok (.iaload, 1) := by decide +kernel
theorem dX8_readNumber_31 : decode cX8_readNumber 31 = .ok (.iadd, 1) := by decide +kernel
theorem dX8_readNumber_32 : decode cX8_readNumber 32 = .ok (.bipush 48, 2) := by decide +kernel
theorem dX8_readNumber_34 : decode cX8_readNumber 34 = .ok (.isub, 1) := by decide +kernel
theorem dX8_readNumber_35 : decode cX8_readNumber 35 = .ok (.istore 4, 2) := by decide +kernel
theorem dX8_readNumber_37 : decode cX8_readNumber 37 = .ok (.iinc 5 1, 3) := by decide +kernel
theorem dX8_readNumber_40 : decode cX8_readNumber 40 = .ok (.goto (-34), 3) := by decide +kernel
theorem dX8_readNumber_43 : decode cX8_readNumber 43 = .ok (.aload_n 0, 1) := by decide +kernel
theorem dX8_readNumber_44 : decode cX8_readNumber 44 = .ok (.iload_n 3, 1) := by decide +kernel
theorem dX8_readNumber_45 : decode cX8_readNumber 45 = .ok (.putfield 149, 3) := by decide +kernel
theorem dX8_readNumber_48 : decode cX8_readNumber 48 = .ok (.aload_n 0, 1) := by decide +kernel
theorem dX8_readNumber_49 : decode cX8_readNumber 49 = .ok (.invokevirtual 166, 3) := by decide +kernel
theorem dX8_readNumber_52 : decode cX8_readNumber 52 = .ok (.iload_n 3, 1) := by decide +kernel
theorem dX8_readNumber_53 : decode cX8_readNumber 53 = .ok (.iload_n 2, 1) := by decide +kernel
theorem dX8_readNumber_54 : decode cX8_readNumber 54 = .ok (.isub, 1) := by decide +kernel
theorem dX8_readNumber_55 : decode cX8_readNumber 55 = .ok (.iconst 3, 1) := by decide +kernel
theorem dX8_readNumber_56 : decode cX8_readNumber 56 = .ok (.if_icmp .gt 16, 3) := by decide +kernel
theorem dX8_readNumber_59 : decode cX8_readNumber 59 = .ok (.aload_n 0, 1) := by decide +kernel
theorem dX8_readNumber_60 : decode cX8_readNumber 60 = .ok (.aload_n 0, 1) := by decide +kernel
theorem dX8_readNumber_61 : decode cX8_readNumber 61 = .ok (.getfield 149, 3) := by decide +kernel
theorem dX8_readNumber_64 : decode cX8_readNumber 64 = .ok (.invokevirtual 152, 3) := by decide +kernel
theorem dX8_readNumber_67 : decode cX8_readNumber 67 = .ok (.bipush 40, 2) := by decide +kernel
theorem dX8_readNumber_69 : decode cX8_readNumber 69 = .ok (.if_icmp .eq 12, 3) := by decide +kernel
theorem dX8_readNumber_72 : decode cX8_readNumber 72 = .ok (.aload_n 0, 1) := by decide +kernel
theorem dX8_readNumber_73 : decode cX8_readNumber 73 = .ok (.iconst 1, 1) := by decide +kernel
theorem dX8_readNumber_74 : decode cX8_readNumber 74 = .ok (.iload_n 2, 1) := by decide +kernel
theorem dX8_readNumber_75 : decode cX8_readNumber 75 = .ok (.invokevirtual 158, 3) := by decide +kernel
theorem dX8_readNumber_78 : decode cX8_readNumber 78 = .ok (.goto 32, 3) := by decide +kernel
theorem dX8_readNumber_81 : decode cX8_readNumber 81 = .ok (.iload 4, 2) := by decide +kernel
theorem dX8_readNumber_83 : decode cX8_readNumber 83 = .ok (.ifCond .ne 12, 3) := by decide +kernel
theorem dX8_readNumber_86 : decode cX8_readNumber 86 = .ok (.aload_n 0, 1) := by decide +kernel
theorem dX8_readNumber_87 : decode cX8_readNumber 87 = .ok (.iconst 3, 1) := by decide +kernel
theorem dX8_readNumber_88 : decode cX8_readNumber 88 = .ok (.iload_n 2, 1) := by decide +kernel
theorem dX8_readNumber_89 : decode cX8_readNumber 89 = .ok (.invokevirtual 158, 3) := by decide +kernel
theorem dX8_readNumber_92 : decode cX8_readNumber 92 = .ok (.goto 18, 3) := by decide +kernel
theorem dX8_readNumber_95 : decode cX8_readNumber 95 = .ok (.aload_n 0, 1) := by decide +kernel
theorem dX8_readNumber_96 : decode cX8_readNumber 96 = .ok (.getfield 162, 3) := by decide +kernel
theorem dX8_readNumber_99 : decode cX8_readNumber 99 = .ok (.bipush 6, 2) := by decide +kernel
theorem dX8_readNumber_101 : decode cX8_readNumber 101 = .ok (.if_icmp .ne 9, 3) := by decide +kernel
theorem dX8_readNumber_104 : decode cX8_readNumber 104 = .ok (.aload_n 0, 1) := by decide +kernel
theorem dX8_readNumber_105 : decode cX8_readNumber 105 = .ok (.iconst 4, 1) := by decide +kernel
theorem dX8_readNumber_106 : decode cX8_readNumber 106 = .ok (.iload_n 2, 1) := by decide +kernel
theorem dX8_readNumber_107 : decode cX8_readNumber 107 = .ok (.invokevirtual 158, 3) := by decide +kernel
theorem dX8_readNumber_110 : decode cX8_readNumber 110 = .ok (.aload_n 0, 1) := by decide +kernel
theorem dX8_readNumber_111 : decode cX8_readNumber 111 = .ok (.getfield 143, 3) := by decide +kernel
theorem dX8_readNumber_114 : decode cX8_readNumber 114 = .ok (.ifCond .le 4, 3) := by decide +kernel
theorem dX8_readNumber_117 : decode cX8_readNumber 117 = .ok (.return_, 1) := by decide +kernel
theorem dX8_readNumber_118 : decode cX8_readNumber 118 = .ok (.aload_n 0, 1) := by decide +kernel
theorem dX8_readNumber_119 : decode cX8_readNumber 119 = .ok (.dup, 1) := by decide +kernel
theorem dX8_readNumber_120 : decode cX8_readNumber 120 = .ok (.getfield 149, 3) := by decide +kernel
theorem dX8_readNumber_123 : decode cX8_readNumber 123 = .ok (.iconst 1, 1) := by decide +kernel
theorem dX8_readNumber_124 : decode cX8_readNumber 124 = .ok (.iadd, 1) := by decide +kernel
theorem dX8_readNumber_125 : decode cX8_readNumber 125 = .ok (.putfield 149, 3) := by decide +kernel
theorem dX8_readNumber_128 : decode cX8_readNumber 128 = .ok (.aload_n 0, 1) := by decide +kernel
theorem dX8_readNumber_129 : decode cX8_readNumber 129 = .ok (.dup, 1) := by decide +kernel
theorem dX8_readNumber_130 : decode cX8_readNumber 130 = .ok (.getfield 162, 3) := by decide +kernel
theorem dX8_readNumber_133 : decode cX8_readNumber 133 = .ok (.iconst 1, 1) := by decide +kernel
theorem dX8_readNumber_134 : decode cX8_readNumber 134 = .ok (.iadd, 1) := by decide +kernel
theorem dX8_readNumber_135 : decode cX8_readNumber 135 = .ok (.putfield 162, 3) := by decide +kernel
theorem dX8_readNumber_138 : decode cX8_readNumber 138 = .ok (.aload_n 0, 1) := by decide +kernel
theorem dX8_readNumber_139 : decode cX8_readNumber 139 = .ok (.getfield 38, 3) := by decide +kernel
theorem dX8_readNumber_142 : decode cX8_readNumber 142 = .ok (.aload_n 0, 1) := by decide +kernel
theorem dX8_readNumber_143 : decode cX8_readNumber 143 = .ok (.getfield 162, 3) := by decide +kernel
theorem dX8_readNumber_146 : decode cX8_readNumber 146 = .ok (.aload_n 0, 1) := by decide +kernel
theorem dX8_readNumber_147 : decode cX8_readNumber 147 = .ok (.getfield 28, 3) := by decide +kernel
theorem dX8_readNumber_150 : decode cX8_readNumber 150 = .ok (.iload_n 1, 1) := by decide +kernel
theorem dX8_readNumber_151 : decode cX8_readNumber 151 = .ok (.iaload, 1) := by decide +kernel
theorem dX8_readNumber_152 : decode cX8_readNumber 152 = .ok (.iastore, 1) := by decide +kernel
theorem dX8_readNumber_153 : decode cX8_readNumber 153 = .ok (.aload_n 0, 1) := by decide +kernel
theorem dX8_readNumber_154 : decode cX8_readNumber 154 = .ok (.getfield 41, 3) := by decide +kernel
theorem dX8_readNumber_157 : decode cX8_readNumber 157 = .ok (.aload_n 0, 1) := by decide +kernel
theorem dX8_readNumber_158 : decode cX8_readNumber 158 = .ok (.getfield 162, 3) := by decide +kernel
theorem dX8_readNumber_161 : decode cX8_readNumber 161 = .ok (.iload 4, 2) := by decide +kernel
theorem dX8_readNumber_163 : decode cX8_readNumber 163 = .ok (.iastore, 1) := by decide +kernel
theorem dX8_readNumber_164 : decode cX8_readNumber 164 = .ok (.aload_n 0, 1) := by decide +kernel
theorem dX8_readNumber_165 : decode cX8_readNumber 165 = .ok (.getfield 44, 3) := by decide +kernel
theorem dX8_readNumber_168 : decode cX8_readNumber 168 = .ok (.aload_n 0, 1) := by decide +kernel
theorem dX8_readNumber_169 : decode cX8_readNumber 169 = .ok (.getfield 162, 3) := by decide +kernel
theorem dX8_readNumber_172 : decode cX8_readNumber 172 = .ok (.iconst 0, 1) := by decide +kernel
theorem dX8_readNumber_173 : decode cX8_readNumber 173 = .ok (.iastore, 1) := by decide +kernel
theorem dX8_readNumber_174 : decode cX8_readNumber 174 = .ok (.return_, 1) := by decide +kernel
theorem dX8_close_0 : decode cX8_close 0 = .ok (.aload_n 0, 1) := by decide +kernel
theorem dX8_close_1 : decode cX8_close 1 = .ok (.getfield 162, 3) := by decide +kernel
theorem dX8_close_4 : decode cX8_close 4 = .ok (.ifCond .ne 13, 3) := by decide +kernel
theorem dX8_close_7 : decode cX8_close 7 = .ok (.aload_n 0, 1) := by decide +kernel
theorem dX8_close_8 : decode cX8_close 8 = .ok (.iconst 1, 1) := by decide +kernel
theorem dX8_close_9 : decode cX8_close 9 = .ok (.aload_n 0, 1) := by decide +kernel
theorem dX8_close_10 : decode cX8_close 10 = .ok (.getfield 149, 3) := by decide +kernel
theorem dX8_close_13 : decode cX8_close 13 = .ok (.invokevirtual 158, 3) := by decide +kernel
theorem dX8_close_16 : decode cX8_close 16 = .ok (.return_, 1) := by decide +kernel
theorem dX8_close_17 : decode cX8_close 17 = .ok (.aload_n 0, 1) := by decide +kernel
theorem dX8_close_18 : decode cX8_close 18 = .ok (.getfield 44, 3) := by decide +kernel
theorem dX8_close_21 : decode cX8_close 21 = .ok (.aload_n 0, 1) := by decide +kernel
theorem dX8_close_22 : decode cX8_close 22 = .ok (.getfield 162, 3) := by decide +kernel
theorem dX8_close_25 : decode cX8_close 25 = .ok (.iconst 1, 1) := by decide +kernel
theorem dX8_close_26 : decode cX8_close 26 = .ok (.isub, 1) := by decide +kernel
theorem dX8_close_27 : decode cX8_close 27 = .ok (.iaload, 1) := by decide +kernel
theorem dX8_close_28 : decode cX8_close 28 = .ok (.i2l, 1) := by decide +kernel
theorem dX8_close_29 : decode cX8_close 29 = .ok (.aload_n 0, 1) := by decide +kernel
theorem dX8_close_30 : decode cX8_close 30 = .ok (.getfield 44, 3) := by decide +kernel
theorem dX8_close_33 : decode cX8_close 33 = .ok (.aload_n 0, 1) := by decide +kernel
theorem dX8_close_34 : decode cX8_close 34 = .ok (.getfield 162, 3) := by decide +kernel
theorem dX8_close_37 : decode cX8_close 37 = .ok (.iaload, 1) := by decide +kernel
theorem dX8_close_38 : decode cX8_close 38 = .ok (.i2l, 1) := by decide +kernel
theorem dX8_close_39 : decode cX8_close 39 = .ok (.aload_n 0, 1) := by decide +kernel
theorem dX8_close_40 : decode cX8_close 40 = .ok (.getfield 41, 3) := by decide +kernel
theorem dX8_close_43 : decode cX8_close 43 = .ok (.aload_n 0, 1) := by decide +kernel
theorem dX8_close_44 : decode cX8_close 44 = .ok (.getfield 162, 3) := by decide +kernel
theorem dX8_close_47 : decode cX8_close 47 = .ok (.iaload, 1) := by decide +kernel
theorem dX8_close_48 : decode cX8_close 48 = .ok (.i2l, 1) := by decide +kernel
theorem dX8_close_49 : decode cX8_close 49 = .ok (.lmul, 1) := by decide +kernel
theorem dX8_close_50 : decode cX8_close 50 = .ok (.ladd, 1) := by decide +kernel
theorem dX8_close_51 : decode cX8_close 51 = .ok (.lstore_n 2, 1) := by decide +kernel
theorem dX8_close_52 : decode cX8_close 52 = .ok (.lload_n 2, 1) := by decide +kernel
theorem dX8_close_53 : decode cX8_close 53 = .ok (.ldc2_w 169, 3) := by decide +kernel
theorem dX8_close_56 : decode cX8_close 56 = .ok (.lcmp, 1) := by decide +kernel
theorem dX8_close_57 : decode cX8_close 57 = .ok (.ifCond .le 13, 3) := by decide +kernel
theorem dX8_close_60 : decode cX8_close 60 = .ok (.aload_n 0, 1) := by decide +kernel
theorem dX8_close_61 : decode cX8_close 61 = .ok (.iconst 4, 1) := by decide +kernel
theorem dX8_close_62 : decode cX8_close 62 = .ok (.aload_n 0, 1) := by decide +kernel
theorem dX8_close_63 : decode cX8_close 63 = .ok (.getfield 149, 3) := by decide +kernel
theorem dX8_close_66 : decode cX8_close 66 = .ok (.invokevirtual 158, 3) := by decide +kernel
theorem dX8_close_69 : decode cX8_close 69 = .ok (.return_, 1) := by decide +kernel
theorem dX8_close_70 : decode cX8_close 70 = .ok (.aload_n 0, 1) := by decide +kernel
theorem dX8_close_71 : decode cX8_close 71 = .ok (.getfield 44, 3) := by decide +kernel
theorem dX8_close_74 : decode cX8_close 74 = .ok (.aload_n 0, 1) := by decide +kernel
theorem dX8_close_75 : decode cX8_close 75 = .ok (.getfield 162, 3) := by decide +kernel
theorem dX8_close_78 : decode cX8_close 78 = .ok (.iaload, 1) := by decide +kernel
theorem dX8_close_79 : decode cX8_close 79 = .ok (.istore 4, 2) := by decide +kernel
theorem dX8_close_81 : decode cX8_close 81 = .ok (.iconst 1, 1) := by decide +kernel
theorem dX8_close_82 : decode cX8_close 82 = .ok (.istore 5, 2) := by decide +kernel
theorem dX8_close_84 : decode cX8_close 84 = .ok (.iload 5, 2) := by decide +kernel
theorem dX8_close_86 : decode cX8_close 86 = .ok (.aload_n 0, 1) := by decide +kernel
theorem dX8_close_87 : decode cX8_close 87 = .ok (.getfield 41, 3) := by decide +kernel
theorem dX8_close_90 : decode cX8_close 90 = .ok (.aload_n 0, 1) := by decide +kernel
theorem dX8_close_91 : decode cX8_close 91 = .ok (.getfield 162, 3) := by decide +kernel
theorem dX8_close_94 : decode cX8_close 94 = .ok (.iaload, 1) := by decide +kernel
theorem dX8_close_95 : decode cX8_close 95 = .ok (.if_icmp .ge 84, 3) := by decide +kernel
theorem dX8_close_98 : decode cX8_close 98 = .ok (.iconst 0, 1) := by decide +kernel
theorem dX8_close_99 : decode cX8_close 99 = .ok (.istore 6, 2) := by decide +kernel
theorem dX8_close_101 : decode cX8_close 101 = .ok (.iload 6, 2) := by decide +kernel
theorem dX8_close_103 : decode cX8_close 103 = .ok (.iload 4, 2) := by decide +kernel
theorem dX8_close_105 : decode cX8_close 105 = .ok (.if_icmp .ge 68, 3) := by decide +kernel
theorem dX8_close_108 : decode cX8_close 108 = .ok (.aload_n 0, 1) := by decide +kernel
theorem dX8_close_109 : decode cX8_close 109 = .ok (.getfield 28, 3) := by decide +kernel
theorem dX8_close_112 : decode cX8_close 112 = .ok (.iload_n 1, 1) := by decide +kernel
theorem dX8_close_113 : decode cX8_close 113 = .ok (.iaload, 1) := by decide +kernel
theorem dX8_close_114 : decode cX8_close 114 = .ok (.ldc 165, 2) := by decide +kernel
theorem dX8_close_116 : decode cX8_close 116 = .ok (.if_icmp .ge 41, 3) := by decide +kernel
theorem dX8_close_119 : decode cX8_close 119 = .ok (.aload_n 0, 1) := by decide +kernel
theorem dX8_close_120 : decode cX8_close 120 = .ok (.getfield 35, 3) := by decide +kernel
theorem dX8_close_123 : decode cX8_close 123 = .ok (.ldc 165, 2) := by decide +kernel
theorem dX8_close_125 : decode cX8_close 125 = .ok (.iload_n 1, 1) := by decide +kernel
theorem dX8_close_126 : decode cX8_close 126 = .ok (.imul, 1) := by decide +kernel
theorem dX8_close_127 : decode cX8_close 127 = .ok (.aload_n 0, 1) := by decide +kernel
theorem dX8_close_128 : decode cX8_close 128 = .ok (.getfield 28, 3) := by decide +kernel
theorem dX8_close_131 : decode cX8_close 131 = .ok (.iload_n 1, 1) := by decide +kernel
theorem dX8_close_132 : decode cX8_close 132 = .ok (.iaload, 1) := by decide +kernel
theorem dX8_close_133 : decode cX8_close 133 = .ok (.iadd, 1) := by decide +kernel
theorem dX8_close_134 : decode cX8_close 134 = .ok (.aload_n 0, 1) := by decide +kernel
theorem dX8_close_135 : decode cX8_close 135 = .ok (.getfield 35, 3) := by decide +kernel
theorem dX8_close_138 : decode cX8_close 138 = .ok (.ldc 165, 2) := by decide +kernel
theorem dX8_close_140 : decode cX8_close 140 = .ok (.iload_n 1, 1) := by decide +kernel
theorem dX8_close_141 : decode cX8_close 141 = .ok (.imul, 1) := by decide +kernel
theorem dX8_close_142 : decode cX8_close 142 = .ok (.aload_n 0, 1) := by decide +kernel
theorem dX8_close_143 : decode cX8_close 143 = .ok (.getfield 38, 3) := by decide +kernel
theorem dX8_close_146 : decode cX8_close 146 = .ok (.aload_n 0, 1) := by decide +kernel
theorem dX8_close_147 : decode cX8_close 147 = .ok (.getfield 162, 3) := by decide +kernel
theorem dX8_close_150 : decode cX8_close 150 = .ok (.iaload, 1) := by decide +kernel
theorem dX8_close_151 : decode cX8_close 151 = .ok (.iadd, 1) := by decide +kernel
theorem dX8_close_152 : decode cX8_close 152 = .ok (.iload 6, 2) := by decide +kernel
theorem dX8_close_154 : decode cX8_close 154 = .ok (.iadd, 1) := by decide +kernel
theorem dX8_close_155 : decode cX8_close 155 = .ok (.iaload, 1) := by decide +kernel
theorem dX8_close_156 : decode cX8_close 156 = .ok (.iastore, 1) := by decide +kernel
theorem dX8_close_157 : decode cX8_close 157 = .ok (.aload_n 0, 1) := by decide +kernel
theorem dX8_close_158 : decode cX8_close 158 = .ok (.getfield 28, 3) := by decide +kernel
theorem dX8_close_161 : decode cX8_close 161 = .ok (.iload_n 1, 1) := by decide +kernel
theorem dX8_close_162 : decode cX8_close 162 = .ok (.dup2, 1) := by decide +kernel
theorem dX8_close_163 : decode cX8_close 163 = .ok (.iaload, 1) := by decide +kernel
theorem dX8_close_164 : decode cX8_close 164 = .ok (.iconst 1, 1) := by decide +kernel
theorem dX8_close_165 : decode cX8_close 165 = .ok (.iadd, 1) := by decide +kernel
theorem dX8_close_166 : decode cX8_close 166 = .ok (.iastore, 1) := by decide +kernel
theorem dX8_close_167 : decode cX8_close 167 = .ok (.iinc 6 1, 3) := by decide +kernel
theorem dX8_close_170 : decode cX8_close 170 = .ok (.goto (-69), 3) := by decide +kernel
theorem dX8_close_173 : decode cX8_close 173 = .ok (.iinc 5 1, 3) := by decide +kernel
theorem dX8_close_176 : decode cX8_close 176 = .ok (.goto (-92), 3) := by decide +kernel
theorem dX8_close_179 : decode cX8_close 179 = .ok (.aload_n 0, 1) := by decide +kernel
theorem dX8_close_180 : decode cX8_close 180 = .ok (.dup, 1) := by decide +kernel
theorem dX8_close_181 : decode cX8_close 181 = .ok (.getfield 162, 3) := by decide +kernel
theorem dX8_close_184 : decode cX8_close 184 = .ok (.iconst 1, 1) := by decide +kernel
theorem dX8_close_185 : decode cX8_close 185 = .ok (.isub, 1) := by decide +kernel
theorem dX8_close_186 : decode cX8_close 186 = .ok (.putfield 162, 3) := by decide +kernel
theorem dX8_close_189 : decode cX8_close 189 = .ok (.aload_n 0, 1) := by decide +kernel
theorem dX8_close_190 : decode cX8_close 190 = .ok (.getfield 44, 3) := by decide +kernel
theorem dX8_close_193 : decode cX8_close 193 = .ok (.aload_n 0, 1) := by decide +kernel
theorem dX8_close_194 : decode cX8_close 194 = .ok (.getfield 162, 3) := by decide +kernel
theorem dX8_close_197 : decode cX8_close 197 = .ok (.lload_n 2, 1) := by decide +kernel
theorem dX8_close_198 : decode cX8_close 198 = .ok (.l2i, 1) := by decide +kernel
theorem dX8_close_199 : decode cX8_close 199 = .ok (.iastore, 1) := by decide +kernel
theorem dX8_close_200 : decode cX8_close 200 = .ok (.aload_n 0, 1) := by decide +kernel
theorem dX8_close_201 : decode cX8_close 201 = .ok (.dup, 1) := by decide +kernel
theorem dX8_close_202 : decode cX8_close 202 = .ok (.getfield 149, 3) := by decide +kernel
theorem dX8_close_205 : decode cX8_close 205 = .ok (.iconst 1, 1) := by decide +kernel
theorem dX8_close_206 : decode cX8_close 206 = .ok (.iadd, 1) := by decide +kernel
theorem dX8_close_207 : decode cX8_close 207 = .ok (.putfield 149, 3) := by decide +kernel
theorem dX8_close_210 : decode cX8_close 210 = .ok (.return_, 1) := by decide +kernel
theorem dX8_pattern_0 : decode cX8_pattern 0 = .ok (.aload_n 0, 1) := by decide +kernel
theorem dX8_pattern_1 : decode cX8_pattern 1 = .ok (.iconst 0, 1) := by decide +kernel
theorem dX8_pattern_2 : decode cX8_pattern 2 = .ok (.putfield 107, 3) := by decide +kernel
theorem dX8_pattern_5 : decode cX8_pattern 5 = .ok (.aload_n 0, 1) := by decide +kernel
theorem dX8_pattern_6 : decode cX8_pattern 6 = .ok (.aload_n 0, 1) := by decide +kernel
theorem dX8_pattern_7 : decode cX8_pattern 7 = .ok (.getfield 133, 3) := by decide +kernel
theorem dX8_pattern_10 : decode cX8_pattern 10 = .ok (.putfield 139, 3) := by decide +kernel
theorem dX8_pattern_13 : decode cX8_pattern 13 = .ok (.aload_n 0, 1) := by decide +kernel
theorem dX8_pattern_14 : decode cX8_pattern 14 = .ok (.iconst 0, 1) := by decide +kernel
theorem dX8_pattern_15 : decode cX8_pattern 15 = .ok (.putfield 133, 3) := by decide +kernel
theorem dX8_pattern_18 : decode cX8_pattern 18 = .ok (.aload_n 0, 1) := by decide +kernel
theorem dX8_pattern_19 : decode cX8_pattern 19 = .ok (.iconst 0, 1) := by decide +kernel
theorem dX8_pattern_20 : decode cX8_pattern 20 = .ok (.putfield 149, 3) := by decide +kernel
theorem dX8_pattern_23 : decode cX8_pattern 23 = .ok (.aload_n 0, 1) := by decide +kernel
theorem dX8_pattern_24 : decode cX8_pattern 24 = .ok (.iconst 0, 1) := by decide +kernel
theorem dX8_pattern_25 : decode cX8_pattern 25 = .ok (.putfield 143, 3) := by decide +kernel
theorem dX8_pattern_28 : decode cX8_pattern 28 = .ok (.aload_n 0, 1) := by decide +kernel
theorem dX8_pattern_29 : decode cX8_pattern 29 = .ok (.iconst 0, 1) := by decide +kernel
theorem dX8_pattern_30 : decode cX8_pattern 30 = .ok (.putfield 162, 3) := by decide +kernel
theorem dX8_pattern_33 : decode cX8_pattern 33 = .ok (.aload_n 0, 1) := by decide +kernel
theorem dX8_pattern_34 : decode cX8_pattern 34 = .ok (.getfield 44, 3) := by decide +kernel
theorem dX8_pattern_37 : decode cX8_pattern 37 = .ok (.iconst 0, 1) := by decide +kernel
theorem dX8_pattern_38 : decode cX8_pattern 38 = .ok (.iconst 0, 1) := by decide +kernel
theorem dX8_pattern_39 : decode cX8_pattern 39 = .ok (.iastore, 1) := by decide +kernel
theorem dX8_pattern_40 : decode cX8_pattern 40 = .ok (.iconst 1, 1) := by decide +kernel
theorem dX8_pattern_41 : decode cX8_pattern 41 = .ok (.aload_n 0, 1) := by decide +kernel
theorem dX8_pattern_42 : decode cX8_pattern 42 = .ok (.getfield 171, 3) := by decide +kernel
theorem dX8_pattern_45 : decode cX8_pattern 45 = .ok (.isub, 1) := by decide +kernel
theorem dX8_pattern_46 : decode cX8_pattern 46 = .ok (.istore_n 1, 1) := by decide +kernel
theorem dX8_pattern_47 : decode cX8_pattern 47 = .ok (.aload_n 0, 1) := by decide +kernel
theorem dX8_pattern_48 : decode cX8_pattern 48 = .ok (.getfield 22, 3) := by decide +kernel
theorem dX8_pattern_51 : decode cX8_pattern 51 = .ok (.iload_n 1, 1) := by decide +kernel
theorem dX8_pattern_52 : decode cX8_pattern 52 = .ok (.iconst 0, 1) := by decide +kernel
theorem dX8_pattern_53 : decode cX8_pattern 53 = .ok (.iastore, 1) := by decide +kernel
theorem dX8_pattern_54 : decode cX8_pattern 54 = .ok (.aload_n 0, 1) := by decide +kernel
theorem dX8_pattern_55 : decode cX8_pattern 55 = .ok (.getfield 25, 3) := by decide +kernel
theorem dX8_pattern_58 : decode cX8_pattern 58 = .ok (.iload_n 1, 1) := by decide +kernel
theorem dX8_pattern_59 : decode cX8_pattern 59 = .ok (.iconst 0, 1) := by decide +kernel
theorem dX8_pattern_60 : decode cX8_pattern 60 = .ok (.iastore, 1) := by decide +kernel
theorem dX8_pattern_61 : decode cX8_pattern 61 = .ok (.aload_n 0, 1) := by decide +kernel
theorem dX8_pattern_62 : decode cX8_pattern 62 = .ok (.getfield 28, 3) := by decide +kernel
theorem dX8_pattern_65 : decode cX8_pattern 65 = .ok (.iload_n 1, 1) := by decide +kernel
theorem dX8_pattern_66 : decode cX8_pattern 66 = .ok (.iconst 0, 1) := by decide +kernel
theorem dX8_pattern_67 : decode cX8_pattern 67 = .ok (.iastore, 1) := by decide +kernel
theorem dX8_pattern_68 : decode cX8_pattern 68 = .ok (.aload_n 0, 1) := by decide +kernel
theorem dX8_pattern_69 : decode cX8_pattern 69 = .ok (.invokevirtual 166, 3) := by decide +kernel
theorem dX8_pattern_72 : decode cX8_pattern 72 = .ok (.aload_n 0, 1) := by decide +kernel
theorem dX8_pattern_73 : decode cX8_pattern 73 = .ok (.getfield 143, 3) := by decide +kernel
theorem dX8_pattern_76 : decode cX8_pattern 76 = .ok (.ifCond .ne 186, 3) := by decide +kernel
theorem dX8_pattern_79 : decode cX8_pattern 79 = .ok (.aload_n 0, 1) := by decide +kernel
theorem dX8_pattern_80 : decode cX8_pattern 80 = .ok (.getfield 149, 3) := by decide +kernel
theorem dX8_pattern_83 : decode cX8_pattern 83 = .ok (.aload_n 0, 1) := by decide +kernel
theorem dX8_pattern_84 : decode cX8_pattern 84 = .ok (.getfield 139, 3) := by decide +kernel
theorem dX8_pattern_87 : decode cX8_pattern 87 = .ok (.if_icmp .ge 175, 3) := by decide +kernel
theorem dX8_pattern_90 : decode cX8_pattern 90 = .ok (.aload_n 0, 1) := by decide +kernel
theorem dX8_pattern_91 : decode cX8_pattern 91 = .ok (.getfield 149, 3) := by decide +kernel
theorem dX8_pattern_94 : decode cX8_pattern 94 = .ok (.istore_n 2, 1) := by decide +kernel
theorem dX8_pattern_95 : decode cX8_pattern 95 = .ok (.aload_n 0, 1) := by decide +kernel
theorem dX8_pattern_96 : decode cX8_pattern 96 = .ok (.getfield 149, 3) := by decide +kernel
theorem dX8_pattern_99 : decode cX8_pattern 99 = .ok (.istore_n 3, 1) := by decide +kernel
theorem dX8_pattern_100 : decode cX8_pattern 100 = .ok (.iconst 1, 1) := by decide +kernel
theorem dX8_pattern_101 : decode cX8_pattern 101 = .ok (.istore 4, 2) := by decide +kernel
theorem dX8_pattern_103 : decode cX8_pattern 103 = .ok (.aload_n 0, 1) := by decide +kernel
theorem dX8_pattern_104 : decode cX8_pattern 104 = .ok (.iload_n 3, 1) := by decide +kernel
theorem dX8_pattern_105 : decode cX8_pattern 105 = .ok (.invokevirtual 152, 3) := by decide +kernel
theorem dX8_pattern_108 : decode cX8_pattern 108 = .ok (.invokestatic 174, 3) := by decide +kernel
theorem dX8_pattern_111 : decode cX8_pattern 111 = .ok (.ifCond .ne 33, 3) := by decide +kernel
theorem dX8_pattern_114 : decode cX8_pattern 114 = .ok (.aload_n 0, 1) := by decide +kernel
theorem dX8_pattern_115 : decode cX8_pattern 115 = .ok (.iload_n 3, 1) := by decide +kernel
theorem dX8_pattern_116 : decode cX8_pattern 116 = .ok (.invokevirtual 152, 3) := by decide +kernel
theorem dX8_pattern_119 : decode cX8_pattern 119 = .ok (.bipush 76, 2) := by decide +kernel
theorem dX8_pattern_121 : decode cX8_pattern 121 = .ok (.if_icmp .eq 23, 3) := by decide +kernel
theorem dX8_pattern_124 : decode cX8_pattern 124 = .ok (.aload_n 0, 1) := by decide +kernel
theorem dX8_pattern_125 : decode cX8_pattern 125 = .ok (.iload_n 3, 1) := by decide +kernel
theorem dX8_pattern_126 : decode cX8_pattern 126 = .ok (.invokevirtual 152, 3) := by decide +kernel
theorem dX8_pattern_129 : decode cX8_pattern 129 = .ok (.bipush 72, 2) := by decide +kernel
theorem dX8_pattern_131 : decode cX8_pattern 131 = .ok (.if_icmp .eq 13, 3) := by decide +kernel
theorem dX8_pattern_134 : decode cX8_pattern 134 = .ok (.aload_n 0, 1) := by decide +kernel
theorem dX8_pattern_135 : decode cX8_pattern 135 = .ok (.iload_n 3, 1) := by decide +kernel
theorem dX8_pattern_136 : decode cX8_pattern 136 = .ok (.invokevirtual 152, 3) := by decide +kernel
theorem dX8_pattern_139 : decode cX8_pattern 139 = .ok (.bipush 88, 2) := by decide +kernel
theorem dX8_pattern_141 : decode cX8_pattern 141 = .ok (.if_icmp .ne 32, 3) := by decide +kernel
theorem dX8_pattern_144 : decode cX8_pattern 144 = .ok (.iload 4, 2) := by decide +kernel
theorem dX8_pattern_146 : decode cX8_pattern 146 = .ok (.ifCond .eq 18, 3) := by decide +kernel
theorem dX8_pattern_149 : decode cX8_pattern 149 = .ok (.aload_n 0, 1) := by decide +kernel
theorem dX8_pattern_150 : decode cX8_pattern 150 = .ok (.iload_n 3, 1) := by decide +kernel
theorem dX8_pattern_151 : decode cX8_pattern 151 = .ok (.invokevirtual 152, 3) := by decide +kernel
theorem dX8_pattern_154 : decode cX8_pattern 154 = .ok (.invokestatic 174, 3) := by decide +kernel
theorem dX8_pattern_157 : decode cX8_pattern 157 = .ok (.ifCond .eq 7, 3) := by decide +kernel
theorem dX8_pattern_160 : decode cX8_pattern 160 = .ok (.iconst 1, 1) := by decide +kernel
theorem dX8_pattern_161 : decode cX8_pattern 161 = .ok (.goto 4, 3) := by decide +kernel
theorem dX8_pattern_164 : decode cX8_pattern 164 = .ok (.iconst 0, 1) := by decide +kernel
theorem dX8_pattern_165 : decode cX8_pattern 165 = .ok (.istore 4, 2) := by decide +kernel
theorem dX8_pattern_167 : decode cX8_pattern 167 = .ok (.iinc 3 1, 3) := by decide +kernel
theorem dX8_pattern_170 : decode cX8_pattern 170 = .ok (.goto (-67), 3) := by decide +kernel
theorem dX8_pattern_173 : decode cX8_pattern 173 = .ok (.iload_n 3, 1) := by decide +kernel
theorem dX8_pattern_174 : decode cX8_pattern 174 = .ok (.iload_n 2, 1) := by decide +kernel
theorem dX8_pattern_175 : decode cX8_pattern 175 = .ok (.if_icmp .le 28, 3) := by decide +kernel
theorem dX8_pattern_178 : decode cX8_pattern 178 = .ok (.iload 4, 2) := by decide +kernel
theorem dX8_pattern_180 : decode cX8_pattern 180 = .ok (.ifCond .eq 23, 3) := by decide +kernel
theorem dX8_pattern_183 : decode cX8_pattern 183 = .ok (.aload_n 0, 1) := by decide +kernel
theorem dX8_pattern_184 : decode cX8_pattern 184 = .ok (.iload_n 3, 1) := by decide +kernel
theorem dX8_pattern_185 : decode cX8_pattern 185 = .ok (.invokevirtual 152, 3) := by decide +kernel
theorem dX8_pattern_188 : decode cX8_pattern 188 = .ok (.bipush 59, 2) := by decide +kernel
theorem dX8_pattern_190 : decode cX8_pattern 190 = .ok (.if_icmp .eq 13, 3) := by decide +kernel
theorem dX8_pattern_193 : decode cX8_pattern 193 = .ok (.aload_n 0, 1) := by decide +kernel
theorem dX8_pattern_194 : decode cX8_pattern 194 = .ok (.iload_n 1, 1) := by decide +kernel
theorem dX8_pattern_195 : decode cX8_pattern 195 = .ok (.iload_n 2, 1) := by decide +kernel
theorem dX8_pattern_196 : decode cX8_pattern 196 = .ok (.iload_n 3, 1) := by decide +kernel
theorem dX8_pattern_197 : decode cX8_pattern 197 = .ok (.invokevirtual 177, 3) := by decide +kernel
theorem dX8_pattern_200 : decode cX8_pattern 200 = .ok (.goto 48, 3) := by decide +kernel
theorem dX8_pattern_203 : decode cX8_pattern 203 = .ok (.iload_n 3, 1) := by decide +kernel
theorem dX8_pattern_204 : decode cX8_pattern 204 = .ok (.iload_n 2, 1) := by decide +kernel
theorem dX8_pattern_205 : decode cX8_pattern 205 = .ok (.if_icmp .le 13, 3) := by decide +kernel
theorem dX8_pattern_208 : decode cX8_pattern 208 = .ok (.aload_n 0, 1) := by decide +kernel
theorem dX8_pattern_209 : decode cX8_pattern 209 = .ok (.iload_n 1, 1) := by decide +kernel
theorem dX8_pattern_210 : decode cX8_pattern 210 = .ok (.iload_n 2, 1) := by decide +kernel
theorem dX8_pattern_211 : decode cX8_pattern 211 = .ok (.iload_n 3, 1) := by decide +kernel
theorem dX8_pattern_212 : decode cX8_pattern 212 = .ok (.invokevirtual 181, 3) := by decide +kernel
theorem dX8_pattern_215 : decode cX8_pattern 215 = .ok (.goto 33, 3) := by decide +kernel
theorem dX8_pattern_218 : decode cX8_pattern 218 = .ok (.aload_n 0, 1) := by decide +kernel
theorem dX8_pattern_219 : decode cX8_pattern 219 = .ok (.aload_n 0, 1) := by decide +kernel
theorem dX8_pattern_220 : decode cX8_pattern 220 = .ok (.getfield 149, 3) := by decide +kernel
theorem dX8_pattern_223 : decode cX8_pattern 223 = .ok (.invokevirtual 152, 3) := by decide +kernel
theorem dX8_pattern_226 : decode cX8_pattern 226 = .ok (.bipush 41, 2) := by decide +kernel
theorem dX8_pattern_228 : decode cX8_pattern 228 = .ok (.if_icmp .ne 11, 3) := by decide +kernel
theorem dX8_pattern_231 : decode cX8_pattern 231 = .ok (.aload_n 0, 1) := by decide +kernel
theorem dX8_pattern_232 : decode cX8_pattern 232 = .ok (.iload_n 1, 1) := by decide +kernel
theorem dX8_pattern_233 : decode cX8_pattern 233 = .ok (.invokevirtual 184, 3) := by decide +kernel
theorem dX8_pattern_236 : decode cX8_pattern 236 = .ok (.goto 12, 3) := by decide +kernel
theorem dX8_pattern_239 : decode cX8_pattern 239 = .ok (.aload_n 0, 1) := by decide +kernel
theorem dX8_pattern_240 : decode cX8_pattern 240 = .ok (.iconst 1, 1) := by decide +kernel
theorem dX8_pattern_241 : decode cX8_pattern 241 = .ok (.aload_n 0, 1) := by decide +kernel
theorem dX8_pattern_242 : decode cX8_pattern 242 = .ok (.getfield 149, 3) := by decide +kernel
theorem dX8_pattern_245 : decode cX8_pattern 245 = .ok (.invokevirtual 158, 3) := by decide +kernel
theorem dX8_pattern_248 : decode cX8_pattern 248 = .ok (.aload_n 0, 1) := by decide +kernel
theorem dX8_pattern_249 : decode cX8_pattern 249 = .ok (.getfield 143, 3) := by decide +kernel
theorem dX8_pattern_252 : decode cX8_pattern 252 = .ok (.ifCond .ne 7, 3) := by decide +kernel
theorem dX8_pattern_255 : decode cX8_pattern 255 = .ok (.aload_n 0, 1) := by decide +kernel
theorem dX8_pattern_256 : decode cX8_pattern 256 = .ok (.invokevirtual 166, 3) := by decide +kernel
theorem dX8_pattern_259 : decode cX8_pattern 259 = .ok (.goto (-187), 3) := by decide +kernel
theorem dX8_pattern_262 : decode cX8_pattern 262 = .ok (.aload_n 0, 1) := by decide +kernel
theorem dX8_pattern_263 : decode cX8_pattern 263 = .ok (.getfield 143, 3) := by decide +kernel
theorem dX8_pattern_266 : decode cX8_pattern 266 = .ok (.ifCond .ne 19, 3) := by decide +kernel
theorem dX8_pattern_269 : decode cX8_pattern 269 = .ok (.aload_n 0, 1) := by decide +kernel
theorem dX8_pattern_270 : decode cX8_pattern 270 = .ok (.getfield 162, 3) := by decide +kernel
theorem dX8_pattern_273 : decode cX8_pattern 273 = .ok (.ifCond .le 12, 3) := by decide +kernel
theorem dX8_pattern_276 : decode cX8_pattern 276 = .ok (.aload_n 0, 1) := by decide +kernel
theorem dX8_pattern_277 : decode cX8_pattern 277 = .ok (.iconst 1, 1) := by decide +kernel
theorem dX8_pattern_278 : decode cX8_pattern 278 = .ok (.aload_n 0, 1) := by decide +kernel
theorem dX8_pattern_279 : decode cX8_pattern 279 = .ok (.getfield 139, 3) := by decide +kernel
theorem dX8_pattern_282 : decode cX8_pattern 282 = .ok (.invokevirtual 158, 3) := by decide +kernel
theorem dX8_pattern_285 : decode cX8_pattern 285 = .ok (.aload_n 0, 1) := by decide +kernel
theorem dX8_pattern_286 : decode cX8_pattern 286 = .ok (.getfield 143, 3) := by decide +kernel
theorem dX8_pattern_289 : decode cX8_pattern 289 = .ok (.ifCond .le 19, 3) := by decide +kernel
theorem dX8_pattern_292 : decode cX8_pattern 292 = .ok (.aload_n 0, 1) := by decide +kernel
theorem dX8_pattern_293 : decode cX8_pattern 293 = .ok (.aload_n 0, 1) := by decide +kernel
theorem dX8_pattern_294 : decode cX8_pattern 294 = .ok (.getfield 143, 3) := by decide +kernel
theorem dX8_pattern_297 : decode cX8_pattern 297 = .ok (.putfield 188, 3) := by decide +kernel
theorem dX8_pattern_300 : decode cX8_pattern 300 = .ok (.ldc 191, 2) := by decide +kernel
theorem dX8_pattern_302 : decode cX8_pattern 302 = .ok (.aload_n 0, 1) := by decide +kernel
theorem dX8_pattern_303 : decode cX8_pattern 303 = .ok (.getfield 146, 3) := by decide +kernel
theorem dX8_pattern_306 : decode cX8_pattern 306 = .ok (.isub, 1) := by decide +kernel
theorem dX8_pattern_307 : decode cX8_pattern 307 = .ok (.ireturn, 1) := by decide +kernel
theorem dX8_pattern_308 : decode cX8_pattern 308 = .ok (.aload_n 0, 1) := by decide +kernel
theorem dX8_pattern_309 : decode cX8_pattern 309 = .ok (.iload_n 1, 1) := by decide +kernel
theorem dX8_pattern_310 : decode cX8_pattern 310 = .ok (.putfield 171, 3) := by decide +kernel
theorem dX8_pattern_313 : decode cX8_pattern 313 = .ok (.aload_n 0, 1) := by decide +kernel
theorem dX8_pattern_314 : decode cX8_pattern 314 = .ok (.iconst 1, 1) := by decide +kernel
theorem dX8_pattern_315 : decode cX8_pattern 315 = .ok (.putfield 192, 3) := by decide +kernel
theorem dX8_pattern_318 : decode cX8_pattern 318 = .ok (.aload_n 0, 1) := by decide +kernel
theorem dX8_pattern_319 : decode cX8_pattern 319 = .ok (.getfield 28, 3) := by decide +kernel
theorem dX8_pattern_322 : decode cX8_pattern 322 = .ok (.iload_n 1, 1) := by decide +kernel
theorem dX8_pattern_323 : decode cX8_pattern 323 = .ok (.iaload, 1) := by decide +kernel
theorem dX8_pattern_324 : decode cX8_pattern 324 = .ok (.ireturn, 1) := by decide +kernel
theorem dX8_fault_0 : decode cX8_fault 0 = .ok (.aload_n 0, 1) := by decide +kernel
theorem dX8_fault_1 : decode cX8_fault 1 = .ok (.iconst 0, 1) := by decide +kernel
theorem dX8_fault_2 : decode cX8_fault 2 = .ok (.putfield 107, 3) := by decide +kernel
theorem dX8_fault_5 : decode cX8_fault 5 = .ok (.aload_n 0, 1) := by decide +kernel
theorem dX8_fault_6 : decode cX8_fault 6 = .ok (.getfield 188, 3) := by decide +kernel
theorem dX8_fault_9 : decode cX8_fault 9 = .ok (.ireturn, 1) := by decide +kernel
theorem dX8_sign_0 : decode cX8_sign 0 = .ok (.aload_n 0, 1) := by decide +kernel
theorem dX8_sign_1 : decode cX8_sign 1 = .ok (.iconst 0, 1) := by decide +kernel
theorem dX8_sign_2 : decode cX8_sign 2 = .ok (.putfield 107, 3) := by decide +kernel
theorem dX8_sign_5 : decode cX8_sign 5 = .ok (.aload_n 0, 1) := by decide +kernel
theorem dX8_sign_6 : decode cX8_sign 6 = .ok (.getfield 192, 3) := by decide +kernel
theorem dX8_sign_9 : decode cX8_sign 9 = .ok (.ifCond .eq 45, 3) := by decide +kernel
theorem dX8_sign_12 : decode cX8_sign 12 = .ok (.iload_n 1, 1) := by decide +kernel
theorem dX8_sign_13 : decode cX8_sign 13 = .ok (.i2l, 1) := by decide +kernel
theorem dX8_sign_14 : decode cX8_sign 14 = .ok (.lconst 0, 1) := by decide +kernel
theorem dX8_sign_15 : decode cX8_sign 15 = .ok (.aload_n 0, 1) := by decide +kernel
theorem dX8_sign_16 : decode cX8_sign 16 = .ok (.getfield 28, 3) := by decide +kernel
theorem dX8_sign_19 : decode cX8_sign 19 = .ok (.aload_n 0, 1) := by decide +kernel
theorem dX8_sign_20 : decode cX8_sign 20 = .ok (.getfield 171, 3) := by decide +kernel
theorem dX8_sign_23 : decode cX8_sign 23 = .ok (.iaload, 1) := by decide +kernel
theorem dX8_sign_24 : decode cX8_sign 24 = .ok (.iconst 1, 1) := by decide +kernel
theorem dX8_sign_25 : decode cX8_sign 25 = .ok (.isub, 1) := by decide +kernel
theorem dX8_sign_26 : decode cX8_sign 26 = .ok (.i2l, 1) := by decide +kernel
theorem dX8_sign_27 : decode cX8_sign 27 = .ok (.invokestatic 116, 3) := by decide +kernel
theorem dX8_sign_30 : decode cX8_sign 30 = .ok (.ifCond .eq 24, 3) := by decide +kernel
theorem dX8_sign_33 : decode cX8_sign 33 = .ok (.iload_n 2, 1) := by decide +kernel
theorem dX8_sign_34 : decode cX8_sign 34 = .ok (.i2l, 1) := by decide +kernel
theorem dX8_sign_35 : decode cX8_sign 35 = .ok (.lconst 0, 1) := by decide +kernel
theorem dX8_sign_36 : decode cX8_sign 36 = .ok (.aload_n 0, 1) := by decide +kernel
theorem dX8_sign_37 : decode cX8_sign 37 = .ok (.getfield 25, 3) := by decide +kernel
theorem dX8_sign_40 : decode cX8_sign 40 = .ok (.aload_n 0, 1) := by decide +kernel
theorem dX8_sign_41 : decode cX8_sign 41 = .ok (.getfield 171, 3) := by decide +kernel
theorem dX8_sign_44 : decode cX8_sign 44 = .ok (.iaload, 1) := by decide +kernel
theorem dX8_sign_45 : decode cX8_sign 45 = .ok (.iconst 1, 1) := by decide +kernel
theorem dX8_sign_46 : decode cX8_sign 46 = .ok (.isub, 1) := by decide +kernel
theorem dX8_sign_47 : decode cX8_sign 47 = .ok (.i2l, 1) := by decide +kernel
theorem dX8_sign_48 : decode cX8_sign 48 = .ok (.invokestatic 116, 3) := by decide +kernel
theorem dX8_sign_51 : decode cX8_sign 51 = .ok (.ifCond .ne 6, 3) := by decide +kernel
theorem dX8_sign_54 : decode cX8_sign 54 = .ok (.ldc 142, 2) := by decide +kernel
theorem dX8_sign_56 : decode cX8_sign 56 = .ok (.ireturn, 1) := by decide +kernel
theorem dX8_sign_57 : decode cX8_sign 57 = .ok (.aload_n 0, 1) := by decide +kernel
theorem dX8_sign_58 : decode cX8_sign 58 = .ok (.getfield 31, 3) := by decide +kernel
theorem dX8_sign_61 : decode cX8_sign 61 = .ok (.sipush 1600, 3) := by decide +kernel
theorem dX8_sign_64 : decode cX8_sign 64 = .ok (.aload_n 0, 1) := by decide +kernel
theorem dX8_sign_65 : decode cX8_sign 65 = .ok (.getfield 171, 3) := by decide +kernel
theorem dX8_sign_68 : decode cX8_sign 68 = .ok (.imul, 1) := by decide +kernel
theorem dX8_sign_69 : decode cX8_sign 69 = .ok (.bipush 8, 2) := by decide +kernel
theorem dX8_sign_71 : decode cX8_sign 71 = .ok (.aload_n 0, 1) := by decide +kernel
theorem dX8_sign_72 : decode cX8_sign 72 = .ok (.getfield 35, 3) := by decide +kernel
theorem dX8_sign_75 : decode cX8_sign 75 = .ok (.ldc 165, 2) := by decide +kernel
theorem dX8_sign_77 : decode cX8_sign 77 = .ok (.aload_n 0, 1) := by decide +kernel
theorem dX8_sign_78 : decode cX8_sign 78 = .ok (.getfield 171, 3) := by decide +kernel
theorem dX8_sign_81 : decode cX8_sign 81 = .ok (.imul, 1) := by decide +kernel
theorem dX8_sign_82 : decode cX8_sign 82 = .ok (.iload_n 1, 1) := by decide +kernel
theorem dX8_sign_83 : decode cX8_sign 83 = .ok (.iadd, 1) := by decide +kernel
theorem dX8_sign_84 : decode cX8_sign 84 = .ok (.iaload, 1) := by decide +kernel
theorem dX8_sign_85 : decode cX8_sign 85 = .ok (.imul, 1) := by decide +kernel
theorem dX8_sign_86 : decode cX8_sign 86 = .ok (.iadd, 1) := by decide +kernel
theorem dX8_sign_87 : decode cX8_sign 87 = .ok (.iload_n 2, 1) := by decide +kernel
theorem dX8_sign_88 : decode cX8_sign 88 = .ok (.iadd, 1) := by decide +kernel
theorem dX8_sign_89 : decode cX8_sign 89 = .ok (.iaload, 1) := by decide +kernel
theorem dX8_sign_90 : decode cX8_sign 90 = .ok (.ireturn, 1) := by decide +kernel
theorem dX8_compare_0 : decode cX8_compare 0 = .ok (.aload_n 0, 1) := by decide +kernel
theorem dX8_compare_1 : decode cX8_compare 1 = .ok (.iconst 0, 1) := by decide +kernel
theorem dX8_compare_2 : decode cX8_compare 2 = .ok (.putfield 107, 3) := by decide +kernel
theorem dX8_compare_5 : decode cX8_compare 5 = .ok (.iload_n 1, 1) := by decide +kernel
theorem dX8_compare_6 : decode cX8_compare 6 = .ok (.invokestatic 120, 3) := by decide +kernel
theorem dX8_compare_9 : decode cX8_compare 9 = .ok (.ifCond .eq 15, 3) := by decide +kernel
theorem dX8_compare_12 : decode cX8_compare 12 = .ok (.iload_n 2, 1) := by decide +kernel
theorem dX8_compare_13 : decode cX8_compare 13 = .ok (.i2l, 1) := by decide +kernel
theorem dX8_compare_14 : decode cX8_compare 14 = .ok (.lconst 0, 1) := by decide +kernel
theorem dX8_compare_15 : decode cX8_compare 15 = .ok (.ldc2_w 124, 3) := by decide +kernel
theorem dX8_compare_18 : decode cX8_compare 18 = .ok (.invokestatic 116, 3) := by decide +kernel
theorem dX8_compare_21 : decode cX8_compare 21 = .ok (.ifCond .ne 6, 3) := by decide +kernel
theorem dX8_compare_24 : decode cX8_compare 24 = .ok (.ldc 126, 2) := by decide +kernel
theorem dX8_compare_26 : decode cX8_compare 26 = .ok (.ireturn, 1) := by decide +kernel
theorem dX8_compare_27 : decode cX8_compare 27 = .ok (.aload_n 0, 1) := by decide +kernel
theorem dX8_compare_28 : decode cX8_compare 28 = .ok (.getfield 192, 3) := by decide +kernel
theorem dX8_compare_31 : decode cX8_compare 31 = .ok (.ifCond .eq 15, 3) := by decide +kernel
theorem dX8_compare_34 : decode cX8_compare 34 = .ok (.aload_n 0, 1) := by decide +kernel
theorem dX8_compare_35 : decode cX8_compare 35 = .ok (.getfield 28, 3) := by decide +kernel
theorem dX8_compare_38 : decode cX8_compare 38 = .ok (.aload_n 0, 1) := by decide +kernel
theorem dX8_compare_39 : decode cX8_compare 39 = .ok (.getfield 171, 3) := by decide +kernel
theorem dX8_compare_42 : decode cX8_compare 42 = .ok (.iaload, 1) := by decide +kernel
theorem dX8_compare_43 : decode cX8_compare 43 = .ok (.ifCond .ne 6, 3) := by decide +kernel
theorem dX8_compare_46 : decode cX8_compare 46 = .ok (.ldc 196, 2) := by decide +kernel
theorem dX8_compare_48 : decode cX8_compare 48 = .ok (.ireturn, 1) := by decide +kernel
theorem dX8_compare_49 : decode cX8_compare 49 = .ok (.aload_n 0, 1) := by decide +kernel
theorem dX8_compare_50 : decode cX8_compare 50 = .ok (.iconst 0, 1) := by decide +kernel
theorem dX8_compare_51 : decode cX8_compare 51 = .ok (.putfield 110, 3) := by decide +kernel
theorem dX8_compare_54 : decode cX8_compare 54 = .ok (.aload_n 0, 1) := by decide +kernel
theorem dX8_compare_55 : decode cX8_compare 55 = .ok (.getfield 7, 3) := by decide +kernel
theorem dX8_compare_58 : decode cX8_compare 58 = .ok (.iload_n 1, 1) := by decide +kernel
theorem dX8_compare_59 : decode cX8_compare 59 = .ok (.iaload, 1) := by decide +kernel
theorem dX8_compare_60 : decode cX8_compare 60 = .ok (.ifCond .ge 9, 3) := by decide +kernel
theorem dX8_compare_63 : decode cX8_compare 63 = .ok (.aload_n 0, 1) := by decide +kernel
theorem dX8_compare_64 : decode cX8_compare 64 = .ok (.iconst 1, 1) := by decide +kernel
theorem dX8_compare_65 : decode cX8_compare 65 = .ok (.invokevirtual 127, 3) := by decide +kernel
theorem dX8_compare_68 : decode cX8_compare 68 = .ok (.ireturn, 1) := by decide +kernel
theorem dX8_compare_69 : decode cX8_compare 69 = .ok (.aload_n 0, 1) := by decide +kernel
theorem dX8_compare_70 : decode cX8_compare 70 = .ok (.getfield 13, 3) := by decide +kernel
theorem dX8_compare_73 : decode cX8_compare 73 = .ok (.iload_n 1, 1) := by decide +kernel
theorem dX8_compare_74 : decode cX8_compare 74 = .ok (.iaload, 1) := by decide +kernel
theorem dX8_compare_75 : decode cX8_compare 75 = .ok (.ifCond .ne 9, 3) := by decide +kernel
theorem dX8_compare_78 : decode cX8_compare 78 = .ok (.aload_n 0, 1) := by decide +kernel
theorem dX8_compare_79 : decode cX8_compare 79 = .ok (.iconst 2, 1) := by decide +kernel
theorem dX8_compare_80 : decode cX8_compare 80 = .ok (.invokevirtual 127, 3) := by decide +kernel
theorem dX8_compare_83 : decode cX8_compare 83 = .ok (.ireturn, 1) := by decide +kernel
theorem dX8_compare_84 : decode cX8_compare 84 = .ok (.ldc 142, 2) := by decide +kernel
theorem dX8_compare_86 : decode cX8_compare 86 = .ok (.istore_n 3, 1) := by decide +kernel
theorem dX8_compare_87 : decode cX8_compare 87 = .ok (.ldc 142, 2) := by decide +kernel
theorem dX8_compare_89 : decode cX8_compare 89 = .ok (.istore 4, 2) := by decide +kernel
theorem dX8_compare_91 : decode cX8_compare 91 = .ok (.iconst 0, 1) := by decide +kernel
theorem dX8_compare_92 : decode cX8_compare 92 = .ok (.istore 5, 2) := by decide +kernel
theorem dX8_compare_94 : decode cX8_compare 94 = .ok (.iconst 0, 1) := by decide +kernel
theorem dX8_compare_95 : decode cX8_compare 95 = .ok (.istore 6, 2) := by decide +kernel
theorem dX8_compare_97 : decode cX8_compare 97 = .ok (.iload 6, 2) := by decide +kernel
theorem dX8_compare_99 : decode cX8_compare 99 = .ok (.aload_n 0, 1) := by decide +kernel
theorem dX8_compare_100 : decode cX8_compare 100 = .ok (.getfield 28, 3) := by decide +kernel
theorem dX8_compare_103 : decode cX8_compare 103 = .ok (.aload_n 0, 1) := by decide +kernel
theorem dX8_compare_104 : decode cX8_compare 104 = .ok (.getfield 171, 3) := by decide +kernel
theorem dX8_compare_107 : decode cX8_compare 107 = .ok (.iaload, 1) := by decide +kernel
theorem dX8_compare_108 : decode cX8_compare 108 = .ok (.if_icmp .ge 135, 3) := by decide +kernel
theorem dX8_compare_111 : decode cX8_compare 111 = .ok (.iconst 0, 1) := by decide +kernel
theorem dX8_compare_112 : decode cX8_compare 112 = .ok (.istore 7, 2) := by decide +kernel
theorem dX8_compare_114 : decode cX8_compare 114 = .ok (.iload 7, 2) := by decide +kernel
theorem dX8_compare_116 : decode cX8_compare 116 = .ok (.aload_n 0, 1) := by decide +kernel
theorem dX8_compare_117 : decode cX8_compare 117 = .ok (.getfield 25, 3) := by decide +kernel
theorem dX8_compare_120 : decode cX8_compare 120 = .ok (.aload_n 0, 1) := by decide +kernel
theorem dX8_compare_121 : decode cX8_compare 121 = .ok (.getfield 171, 3) := by decide +kernel
theorem dX8_compare_124 : decode cX8_compare 124 = .ok (.iaload, 1) := by decide +kernel
theorem dX8_compare_125 : decode cX8_compare 125 = .ok (.if_icmp .ge 112, 3) := by decide +kernel
theorem dX8_compare_128 : decode cX8_compare 128 = .ok (.aload_n 0, 1) := by decide +kernel
theorem dX8_compare_129 : decode cX8_compare 129 = .ok (.getfield 31, 3) := by decide +kernel
theorem dX8_compare_132 : decode cX8_compare 132 = .ok (.sipush 1600, 3) := by decide +kernel
theorem dX8_compare_135 : decode cX8_compare 135 = .ok (.aload_n 0, 1) := by decide +kernel
theorem dX8_compare_136 : decode cX8_compare 136 = .ok (.getfield 171, 3) := by decide +kernel
theorem dX8_compare_139 : decode cX8_compare 139 = .ok (.imul, 1) := by decide +kernel
theorem dX8_compare_140 : decode cX8_compare 140 = .ok (.bipush 8, 2) := by decide +kernel
theorem dX8_compare_142 : decode cX8_compare 142 = .ok (.aload_n 0, 1) := by decide +kernel
theorem dX8_compare_143 : decode cX8_compare 143 = .ok (.getfield 35, 3) := by decide +kernel
theorem dX8_compare_146 : decode cX8_compare 146 = .ok (.ldc 165, 2) := by decide +kernel
theorem dX8_compare_148 : decode cX8_compare 148 = .ok (.aload_n 0, 1) := by decide +kernel
theorem dX8_compare_149 : decode cX8_compare 149 = .ok (.getfield 171, 3) := by decide +kernel
theorem dX8_compare_152 : decode cX8_compare 152 = .ok (.imul, 1) := by decide +kernel
theorem dX8_compare_153 : decode cX8_compare 153 = .ok (.iload 6, 2) := by decide +kernel
theorem dX8_compare_155 : decode cX8_compare 155 = .ok (.iadd, 1) := by decide +kernel
theorem dX8_compare_156 : decode cX8_compare 156 = .ok (.iaload, 1) := by decide +kernel
theorem dX8_compare_157 : decode cX8_compare 157 = .ok (.imul, 1) := by decide +kernel
theorem dX8_compare_158 : decode cX8_compare 158 = .ok (.iadd, 1) := by decide +kernel
theorem dX8_compare_159 : decode cX8_compare 159 = .ok (.iload 7, 2) := by decide +kernel
theorem dX8_compare_161 : decode cX8_compare 161 = .ok (.iadd, 1) := by decide +kernel
theorem dX8_compare_162 : decode cX8_compare 162 = .ok (.iaload, 1) := by decide +kernel
theorem dX8_compare_163 : decode cX8_compare 163 = .ok (.istore 8, 2) := by decide +kernel
theorem dX8_compare_165 : decode cX8_compare 165 = .ok (.aload_n 0, 1) := by decide +kernel
theorem dX8_compare_166 : decode cX8_compare 166 = .ok (.getfield 16, 3) := by decide +kernel
theorem dX8_compare_169 : decode cX8_compare 169 = .ok (.bipush 100, 2) := by decide +kernel
theorem dX8_compare_171 : decode cX8_compare 171 = .ok (.iload_n 1, 1) := by decide +kernel
theorem dX8_compare_172 : decode cX8_compare 172 = .ok (.imul, 1) := by decide +kernel
theorem dX8_compare_173 : decode cX8_compare 173 = .ok (.iload 6, 2) := by decide +kernel
theorem dX8_compare_175 : decode cX8_compare 175 = .ok (.aload_n 0, 1) := by decide +kernel
theorem dX8_compare_176 : decode cX8_compare 176 = .ok (.getfield 13, 3) := by decide +kernel
theorem dX8_compare_179 : decode cX8_compare 179 = .ok (.iload_n 1, 1) := by decide +kernel
theorem dX8_compare_180 : decode cX8_compare 180 = .ok (.iaload, 1) := by decide +kernel
theorem dX8_compare_181 : decode cX8_compare 181 = .ok (.irem, 1) := by decide +kernel
theorem dX8_compare_182 : decode cX8_compare 182 = .ok (.iadd, 1) := by decide +kernel
theorem dX8_compare_183 : decode cX8_compare 183 = .ok (.iaload, 1) := by decide +kernel
theorem dX8_compare_184 : decode cX8_compare 184 = .ok (.iload 7, 2) := by decide +kernel
theorem dX8_compare_186 : decode cX8_compare 186 = .ok (.ishr, 1) := by decide +kernel
theorem dX8_compare_187 : decode cX8_compare 187 = .ok (.iconst 1, 1) := by decide +kernel
theorem dX8_compare_188 : decode cX8_compare 188 = .ok (.iand, 1) := by decide +kernel
theorem dX8_compare_189 : decode cX8_compare 189 = .ok (.istore 9, 2) := by decide +kernel
theorem dX8_compare_191 : decode cX8_compare 191 = .ok (.iload 8, 2) := by decide +kernel
theorem dX8_compare_193 : decode cX8_compare 193 = .ok (.bipush 76, 2) := by decide +kernel
theorem dX8_compare_195 : decode cX8_compare 195 = .ok (.if_icmp .ne 9, 3) := by decide +kernel
theorem dX8_compare_198 : decode cX8_compare 198 = .ok (.iload 9, 2) := by decide +kernel
theorem dX8_compare_200 : decode cX8_compare 200 = .ok (.iconst 1, 1) := by decide +kernel
theorem dX8_compare_201 : decode cX8_compare 201 = .ok (.if_icmp .eq 15, 3) := by decide +kernel
theorem dX8_compare_204 : decode cX8_compare 204 = .ok (.iload 8, 2) := by decide +kernel
theorem dX8_compare_206 : decode cX8_compare 206 = .ok (.bipush 72, 2) := by decide +kernel
theorem dX8_compare_208 : decode cX8_compare 208 = .ok (.if_icmp .ne 23, 3) := by decide +kernel
theorem dX8_compare_211 : decode cX8_compare 211 = .ok (.iload 9, 2) := by decide +kernel
theorem dX8_compare_213 : decode cX8_compare 213 = .ok (.ifCond .ne 18, 3) := by decide +kernel
theorem dX8_compare_216 : decode cX8_compare 216 = .ok (.iload 5, 2) := by decide +kernel
theorem dX8_compare_218 : decode cX8_compare 218 = .ok (.ifCond .ne 10, 3) := by decide +kernel
theorem dX8_compare_221 : decode cX8_compare 221 = .ok (.iload 6, 2) := by decide +kernel
theorem dX8_compare_223 : decode cX8_compare 223 = .ok (.istore_n 3, 1) := by decide +kernel
theorem dX8_compare_224 : decode cX8_compare 224 = .ok (.iload 7, 2) := by decide +kernel
theorem dX8_compare_226 : decode cX8_compare 226 = .ok (.istore 4, 2) := by decide +kernel
theorem dX8_compare_228 : decode cX8_compare 228 = .ok (.iinc 5 1, 3) := by decide +kernel
theorem dX8_compare_231 : decode cX8_compare 231 = .ok (.iinc 7 1, 3) := by decide +kernel
theorem dX8_compare_234 : decode cX8_compare 234 = .ok (.goto (-120), 3) := by decide +kernel
theorem dX8_compare_237 : decode cX8_compare 237 = .ok (.iinc 6 1, 3) := by decide +kernel
theorem dX8_compare_240 : decode cX8_compare 240 = .ok (.goto (-143), 3) := by decide +kernel
theorem dX8_compare_243 : decode cX8_compare 243 = .ok (.iload_n 2, 1) := by decide +kernel
theorem dX8_compare_244 : decode cX8_compare 244 = .ok (.ifCond .ne 7, 3) := by decide +kernel
theorem dX8_compare_247 : decode cX8_compare 247 = .ok (.iload_n 3, 1) := by decide +kernel
theorem dX8_compare_248 : decode cX8_compare 248 = .ok (.goto 15, 3) := by decide +kernel
theorem dX8_compare_251 : decode cX8_compare 251 = .ok (.iload_n 2, 1) := by decide +kernel
theorem dX8_compare_252 : decode cX8_compare 252 = .ok (.iconst 1, 1) := by decide +kernel
theorem dX8_compare_253 : decode cX8_compare 253 = .ok (.if_icmp .ne 8, 3) := by decide +kernel
theorem dX8_compare_256 : decode cX8_compare 256 = .ok (.iload 4, 2) := by decide +kernel
theorem dX8_compare_258 : decode cX8_compare 258 = .ok (.goto 5, 3) := by decide +kernel
theorem dX8_compare_261 : decode cX8_compare 261 = .ok (.iload 5, 2) := by decide +kernel
theorem dX8_compare_263 : decode cX8_compare 263 = .ok (.ireturn, 1) := by decide +kernel
theorem dX8_isTest_0 : decode cX8_isTest 0 = .ok (.iload_n 1, 1) := by decide +kernel
theorem dX8_isTest_1 : decode cX8_isTest 1 = .ok (.i2l, 1) := by decide +kernel
theorem dX8_isTest_2 : decode cX8_isTest 2 = .ok (.lconst 0, 1) := by decide +kernel
theorem dX8_isTest_3 : decode cX8_isTest 3 = .ok (.aload_n 0, 1) := by decide +kernel
theorem dX8_isTest_4 : decode cX8_isTest 4 = .ok (.getfield 197, 3) := by decide +kernel
theorem dX8_isTest_7 : decode cX8_isTest 7 = .ok (.iconst 1, 1) := by decide +kernel
theorem dX8_isTest_8 : decode cX8_isTest 8 = .ok (.isub, 1) := by decide +kernel
theorem dX8_isTest_9 : decode cX8_isTest 9 = .ok (.i2l, 1) := by decide +kernel
theorem dX8_isTest_10 : decode cX8_isTest 10 = .ok (.invokestatic 116, 3) := by decide +kernel
theorem dX8_isTest_13 : decode cX8_isTest 13 = .ok (.ireturn, 1) := by decide +kernel
theorem dX8_test_0 : decode cX8_test 0 = .ok (.aload_n 0, 1) := by decide +kernel
theorem dX8_test_1 : decode cX8_test 1 = .ok (.iconst 0, 1) := by decide +kernel
theorem dX8_test_2 : decode cX8_test 2 = .ok (.putfield 107, 3) := by decide +kernel
theorem dX8_test_5 : decode cX8_test 5 = .ok (.iload_n 3, 1) := by decide +kernel
theorem dX8_test_6 : decode cX8_test 6 = .ok (.i2l, 1) := by decide +kernel
theorem dX8_test_7 : decode cX8_test 7 = .ok (.lconst 1, 1) := by decide +kernel
theorem dX8_test_8 : decode cX8_test 8 = .ok (.ldc2_w 200, 3) := by decide +kernel
theorem dX8_test_11 : decode cX8_test 11 = .ok (.invokestatic 116, 3) := by decide +kernel
theorem dX8_test_14 : decode cX8_test 14 = .ok (.ifCond .eq 16, 3) := by decide +kernel
theorem dX8_test_17 : decode cX8_test 17 = .ok (.iload 4, 2) := by decide +kernel
theorem dX8_test_19 : decode cX8_test 19 = .ok (.i2l, 1) := by decide +kernel
theorem dX8_test_20 : decode cX8_test 20 = .ok (.lconst 1, 1) := by decide +kernel
theorem dX8_test_21 : decode cX8_test 21 = .ok (.ldc2_w 202, 3) := by decide +kernel
theorem dX8_test_24 : decode cX8_test 24 = .ok (.invokestatic 116, 3) := by decide +kernel
theorem dX8_test_27 : decode cX8_test 27 = .ok (.ifCond .ne 6, 3) := by decide +kernel
theorem dX8_test_30 : decode cX8_test 30 = .ok (.ldc 126, 2) := by decide +kernel
theorem dX8_test_32 : decode cX8_test 32 = .ok (.ireturn, 1) := by decide +kernel
theorem dX8_test_33 : decode cX8_test 33 = .ok (.aload_n 0, 1) := by decide +kernel
theorem dX8_test_34 : decode cX8_test 34 = .ok (.getfield 197, 3) := by decide +kernel
theorem dX8_test_37 : decode cX8_test 37 = .ok (.bipush 10, 2) := by decide +kernel
theorem dX8_test_39 : decode cX8_test 39 = .ok (.if_icmp .ne 6, 3) := by decide +kernel
theorem dX8_test_42 : decode cX8_test 42 = .ok (.ldc 136, 2) := by decide +kernel
theorem dX8_test_44 : decode cX8_test 44 = .ok (.ireturn, 1) := by decide +kernel
theorem dX8_test_45 : decode cX8_test 45 = .ok (.aload_n 0, 1) := by decide +kernel
theorem dX8_test_46 : decode cX8_test 46 = .ok (.getfield 47, 3) := by decide +kernel
theorem dX8_test_49 : decode cX8_test 49 = .ok (.aload_n 0, 1) := by decide +kernel
theorem dX8_test_50 : decode cX8_test 50 = .ok (.getfield 197, 3) := by decide +kernel
theorem dX8_test_53 : decode cX8_test 53 = .ok (.iload_n 1, 1) := by decide +kernel
theorem dX8_test_54 : decode cX8_test 54 = .ok (.iastore, 1) := by decide +kernel
theorem dX8_test_55 : decode cX8_test 55 = .ok (.aload_n 0, 1) := by decide +kernel
theorem dX8_test_56 : decode cX8_test 56 = .ok (.getfield 50, 3) := by decide +kernel
theorem dX8_test_59 : decode cX8_test 59 = .ok (.aload_n 0, 1) := by decide +kernel
theorem dX8_test_60 : decode cX8_test 60 = .ok (.getfield 197, 3) := by decide +kernel
theorem dX8_test_63 : decode cX8_test 63 = .ok (.iload_n 2, 1) := by decide +kernel
theorem dX8_test_64 : decode cX8_test 64 = .ok (.iastore, 1) := by decide +kernel
theorem dX8_test_65 : decode cX8_test 65 = .ok (.aload_n 0, 1) := by decide +kernel
theorem dX8_test_66 : decode cX8_test 66 = .ok (.getfield 53, 3) := by decide +kernel
theorem dX8_test_69 : decode cX8_test 69 = .ok (.aload_n 0, 1) := by decide +kernel
theorem dX8_test_70 : decode cX8_test 70 = .ok (.getfield 197, 3) := by decide +kernel
theorem dX8_test_73 : decode cX8_test 73 = .ok (.iload_n 3, 1) := by decide +kernel
theorem dX8_test_74 : decode cX8_test 74 = .ok (.iastore, 1) := by decide +kernel
theorem dX8_test_75 : decode cX8_test 75 = .ok (.aload_n 0, 1) := by decide +kernel
theorem dX8_test_76 : decode cX8_test 76 = .ok (.getfield 56, 3) := by decide +kernel
theorem dX8_test_79 : decode cX8_test 79 = .ok (.aload_n 0, 1) := by decide +kernel
theorem dX8_test_80 : decode cX8_test 80 = .ok (.getfield 197, 3) := by decide +kernel
theorem dX8_test_83 : decode cX8_test 83 = .ok (.iload 4, 2) := by decide +kernel
theorem dX8_test_85 : decode cX8_test 85 = .ok (.iastore, 1) := by decide +kernel
theorem dX8_test_86 : decode cX8_test 86 = .ok (.aload_n 0, 1) := by decide +kernel
theorem dX8_test_87 : decode cX8_test 87 = .ok (.getfield 59, 3) := by decide +kernel
theorem dX8_test_90 : decode cX8_test 90 = .ok (.aload_n 0, 1) := by decide +kernel
theorem dX8_test_91 : decode cX8_test 91 = .ok (.getfield 197, 3) := by decide +kernel
theorem dX8_test_94 : decode cX8_test 94 = .ok (.iconst 0, 1) := by decide +kernel
theorem dX8_test_95 : decode cX8_test 95 = .ok (.iastore, 1) := by decide +kernel
theorem dX8_test_96 : decode cX8_test 96 = .ok (.aload_n 0, 1) := by decide +kernel
theorem dX8_test_97 : decode cX8_test 97 = .ok (.getfield 62, 3) := by decide +kernel
theorem dX8_test_100 : decode cX8_test 100 = .ok (.aload_n 0, 1) := by decide +kernel
theorem dX8_test_101 : decode cX8_test 101 = .ok (.getfield 197, 3) := by decide +kernel
theorem dX8_test_104 : decode cX8_test 104 = .ok (.aload_n 0, 1) := by decide +kernel
theorem dX8_test_105 : decode cX8_test 105 = .ok (.getfield 197, 3) := by decide +kernel
theorem dX8_test_108 : decode cX8_test 108 = .ok (.iastore, 1) := by decide +kernel
theorem dX8_test_109 : decode cX8_test 109 = .ok (.aload_n 0, 1) := by decide +kernel
theorem dX8_test_110 : decode cX8_test 110 = .ok (.dup, 1) := by decide +kernel
theorem dX8_test_111 : decode cX8_test 111 = .ok (.getfield 197, 3) := by decide +kernel
theorem dX8_test_114 : decode cX8_test 114 = .ok (.iconst 1, 1) := by decide +kernel
theorem dX8_test_115 : decode cX8_test 115 = .ok (.iadd, 1) := by decide +kernel
theorem dX8_test_116 : decode cX8_test 116 = .ok (.putfield 197, 3) := by decide +kernel
theorem dX8_test_119 : decode cX8_test 119 = .ok (.aload_n 0, 1) := by decide +kernel
theorem dX8_test_120 : decode cX8_test 120 = .ok (.getfield 197, 3) := by decide +kernel
theorem dX8_test_123 : decode cX8_test 123 = .ok (.iconst 1, 1) := by decide +kernel
theorem dX8_test_124 : decode cX8_test 124 = .ok (.isub, 1) := by decide +kernel
theorem dX8_test_125 : decode cX8_test 125 = .ok (.ireturn, 1) := by decide +kernel
theorem dX8_move_0 : decode cX8_move 0 = .ok (.aload_n 0, 1) := by decide +kernel
theorem dX8_move_1 : decode cX8_move 1 = .ok (.iconst 0, 1) := by decide +kernel
theorem dX8_move_2 : decode cX8_move 2 = .ok (.putfield 107, 3) := by decide +kernel
theorem dX8_move_5 : decode cX8_move 5 = .ok (.aload_n 0, 1) := by decide +kernel
theorem dX8_move_6 : decode cX8_move 6 = .ok (.iload_n 1, 1) := by decide +kernel
theorem dX8_move_7 : decode cX8_move 7 = .ok (.invokevirtual 204, 3) := by decide +kernel
theorem dX8_move_10 : decode cX8_move 10 = .ok (.ifCond .eq 19, 3) := by decide +kernel
theorem dX8_move_13 : decode cX8_move 13 = .ok (.iload_n 2, 1) := by decide +kernel
theorem dX8_move_14 : decode cX8_move 14 = .ok (.i2l, 1) := by decide +kernel
theorem dX8_move_15 : decode cX8_move 15 = .ok (.lconst 0, 1) := by decide +kernel
theorem dX8_move_16 : decode cX8_move 16 = .ok (.aload_n 0, 1) := by decide +kernel
theorem dX8_move_17 : decode cX8_move 17 = .ok (.getfield 197, 3) := by decide +kernel
theorem dX8_move_20 : decode cX8_move 20 = .ok (.iconst 1, 1) := by decide +kernel
theorem dX8_move_21 : decode cX8_move 21 = .ok (.isub, 1) := by decide +kernel
theorem dX8_move_22 : decode cX8_move 22 = .ok (.i2l, 1) := by decide +kernel
theorem dX8_move_23 : decode cX8_move 23 = .ok (.invokestatic 116, 3) := by decide +kernel
theorem dX8_move_26 : decode cX8_move 26 = .ok (.ifCond .ne 6, 3) := by decide +kernel
theorem dX8_move_29 : decode cX8_move 29 = .ok (.ldc 126, 2) := by decide +kernel
theorem dX8_move_31 : decode cX8_move 31 = .ok (.ireturn, 1) := by decide +kernel
theorem dX8_move_32 : decode cX8_move 32 = .ok (.iconst 0, 1) := by decide +kernel
theorem dX8_move_33 : decode cX8_move 33 = .ok (.istore_n 3, 1) := by decide +kernel
theorem dX8_move_34 : decode cX8_move 34 = .ok (.aload_n 0, 1) := by decide +kernel
theorem dX8_move_35 : decode cX8_move 35 = .ok (.getfield 62, 3) := by decide +kernel
theorem dX8_move_38 : decode cX8_move 38 = .ok (.iload_n 3, 1) := by decide +kernel
theorem dX8_move_39 : decode cX8_move 39 = .ok (.iaload, 1) := by decide +kernel
theorem dX8_move_40 : decode cX8_move 40 = .ok (.iload_n 1, 1) := by decide +kernel
theorem dX8_move_41 : decode cX8_move 41 = .ok (.if_icmp .eq 9, 3) := by decide +kernel
theorem dX8_move_44 : decode cX8_move 44 = .ok (.iinc 3 1, 3) := by decide +kernel
theorem dX8_move_47 : decode cX8_move 47 = .ok (.goto (-13), 3) := by decide +kernel
theorem dX8_move_50 : decode cX8_move 50 = .ok (.iload_n 3, 1) := by decide +kernel
theorem dX8_move_51 : decode cX8_move 51 = .ok (.istore 4, 2) := by decide +kernel
theorem dX8_move_53 : decode cX8_move 53 = .ok (.iload 4, 2) := by decide +kernel
theorem dX8_move_55 : decode cX8_move 55 = .ok (.iload_n 2, 1) := by decide +kernel
theorem dX8_move_56 : decode cX8_move 56 = .ok (.if_icmp .ge 25, 3) := by decide +kernel
theorem dX8_move_59 : decode cX8_move 59 = .ok (.aload_n 0, 1) := by decide +kernel
theorem dX8_move_60 : decode cX8_move 60 = .ok (.getfield 62, 3) := by decide +kernel
theorem dX8_move_63 : decode cX8_move 63 = .ok (.iload 4, 2) := by decide +kernel
theorem dX8_move_65 : decode cX8_move 65 = .ok (.aload_n 0, 1) := by decide +kernel
theorem dX8_move_66 : decode cX8_move 66 = .ok (.getfield 62, 3) := by decide +kernel
theorem dX8_move_69 : decode cX8_move 69 = .ok (.iload 4, 2) := by decide +kernel
theorem dX8_move_71 : decode cX8_move 71 = .ok (.iconst 1, 1) := by decide +kernel
theorem dX8_move_72 : decode cX8_move 72 = .ok (.iadd, 1) := by decide +kernel
theorem dX8_move_73 : decode cX8_move 73 = .ok (.iaload, 1) := by decide +kernel
theorem dX8_move_74 : decode cX8_move 74 = .ok (.iastore, 1) := by decide +kernel
theorem dX8_move_75 : decode cX8_move 75 = .ok (.iinc 4 1, 3) := by decide +kernel
theorem dX8_move_78 : decode cX8_move 78 = .ok (.goto (-25), 3) := by decide +kernel
theorem dX8_move_81 : decode cX8_move 81 = .ok (.iload_n 3, 1) := by decide +kernel
theorem dX8_move_82 : decode cX8_move 82 = .ok (.istore 4, 2) := by decide +kernel
theorem dX8_move_84 : decode cX8_move 84 = .ok (.iload 4, 2) := by decide +kernel
theorem dX8_move_86 : decode cX8_move 86 = .ok (.iload_n 2, 1) := by decide +kernel
theorem dX8_move_87 : decode cX8_move 87 = .ok (.if_icmp .le 25, 3) := by decide +kernel
theorem dX8_move_90 : decode cX8_move 90 = .ok (.aload_n 0, 1) := by decide +kernel
theorem dX8_move_91 : decode cX8_move 91 = .ok (.getfield 62, 3) := by decide +kernel
theorem dX8_move_94 : decode cX8_move 94 = .ok (.iload 4, 2) := by decide +kernel
theorem dX8_move_96 : decode cX8_move 96 = .ok (.aload_n 0, 1) := by decide +kernel
theorem dX8_move_97 : decode cX8_move 97 = .ok (.getfield 62, 3) := by decide +kernel
theorem dX8_move_100 : decode cX8_move 100 = .ok (.iload 4, 2) := by decide +kernel
theorem dX8_move_102 : decode cX8_move 102 = .ok (.iconst 1, 1) := by decide +kernel
theorem dX8_move_103 : decode cX8_move 103 = .ok (.isub, 1) := by decide +kernel
theorem dX8_move_104 : decode cX8_move 104 = .ok (.iaload, 1) := by decide +kernel
theorem dX8_move_105 : decode cX8_move 105 = .ok (.iastore, 1) := by decide +kernel
theorem dX8_move_106 : decode cX8_move 106 = .ok (.iinc 4 (-1), 3) := by decide +kernel
theorem dX8_move_109 : decode cX8_move 109 = .ok (.goto (-25), 3) := by decide +kernel
theorem dX8_move_112 : decode cX8_move 112 = .ok (.aload_n 0, 1) := by decide +kernel
theorem dX8_move_113 : decode cX8_move 113 = .ok (.getfield 62, 3) := by decide +kernel
theorem dX8_move_116 : decode cX8_move 116 = .ok (.iload_n 2, 1) := by decide +kernel
theorem dX8_move_117 : decode cX8_move 117 = .ok (.iload_n 1, 1) := by decide +kernel
theorem dX8_move_118 : decode cX8_move 118 = .ok (.iastore, 1) := by decide +kernel
theorem dX8_move_119 : decode cX8_move 119 = .ok (.iload_n 3, 1) := by decide +kernel
theorem dX8_move_120 : decode cX8_move 120 = .ok (.ireturn, 1) := by decide +kernel
theorem dX8_flow_0 : decode cX8_flow 0 = .ok (.aload_n 0, 1) := by decide +kernel
theorem dX8_flow_1 : decode cX8_flow 1 = .ok (.iconst 0, 1) := by decide +kernel
theorem dX8_flow_2 : decode cX8_flow 2 = .ok (.putfield 107, 3) := by decide +kernel
theorem dX8_flow_5 : decode cX8_flow 5 = .ok (.iload_n 1, 1) := by decide +kernel
theorem dX8_flow_6 : decode cX8_flow 6 = .ok (.i2l, 1) := by decide +kernel
theorem dX8_flow_7 : decode cX8_flow 7 = .ok (.lconst 0, 1) := by decide +kernel
theorem dX8_flow_8 : decode cX8_flow 8 = .ok (.aload_n 0, 1) := by decide +kernel
theorem dX8_flow_9 : decode cX8_flow 9 = .ok (.getfield 197, 3) := by decide +kernel
theorem dX8_flow_12 : decode cX8_flow 12 = .ok (.iconst 1, 1) := by decide +kernel
theorem dX8_flow_13 : decode cX8_flow 13 = .ok (.isub, 1) := by decide +kernel
theorem dX8_flow_14 : decode cX8_flow 14 = .ok (.i2l, 1) := by decide +kernel
theorem dX8_flow_15 : decode cX8_flow 15 = .ok (.invokestatic 116, 3) := by decide +kernel
theorem dX8_flow_18 : decode cX8_flow 18 = .ok (.ifCond .eq 12, 3) := by decide +kernel
theorem dX8_flow_21 : decode cX8_flow 21 = .ok (.aload_n 0, 1) := by decide +kernel
theorem dX8_flow_22 : decode cX8_flow 22 = .ok (.getfield 62, 3) := by decide +kernel
theorem dX8_flow_25 : decode cX8_flow 25 = .ok (.iload_n 1, 1) := by decide +kernel
theorem dX8_flow_26 : decode cX8_flow 26 = .ok (.iaload, 1) := by decide +kernel
theorem dX8_flow_27 : decode cX8_flow 27 = .ok (.goto 5, 3) := by decide +kernel
theorem dX8_flow_30 : decode cX8_flow 30 = .ok (.ldc 142, 2) := by decide +kernel
theorem dX8_flow_32 : decode cX8_flow 32 = .ok (.ireturn, 1) := by decide +kernel
theorem dX8_kindOf_0 : decode cX8_kindOf 0 = .ok (.aload_n 0, 1) := by decide +kernel
theorem dX8_kindOf_1 : decode cX8_kindOf 1 = .ok (.getfield 47, 3) := by decide +kernel
theorem dX8_kindOf_4 : decode cX8_kindOf 4 = .ok (.iload_n 1, 1) := by decide +kernel
theorem dX8_kindOf_5 : decode cX8_kindOf 5 = .ok (.iaload, 1) := by decide +kernel
theorem dX8_kindOf_6 : decode cX8_kindOf 6 = .ok (.aload_n 0, 1) := by decide +kernel
theorem dX8_kindOf_7 : decode cX8_kindOf 7 = .ok (.getfield 50, 3) := by decide +kernel
theorem dX8_kindOf_10 : decode cX8_kindOf 10 = .ok (.iload_n 1, 1) := by decide +kernel
theorem dX8_kindOf_11 : decode cX8_kindOf 11 = .ok (.iaload, 1) := by decide +kernel
theorem dX8_kindOf_12 : decode cX8_kindOf 12 = .ok (.if_icmp .le 7, 3) := by decide +kernel
theorem dX8_kindOf_15 : decode cX8_kindOf 15 = .ok (.iconst 3, 1) := by decide +kernel
theorem dX8_kindOf_16 : decode cX8_kindOf 16 = .ok (.goto 38, 3) := by decide +kernel
theorem dX8_kindOf_19 : decode cX8_kindOf 19 = .ok (.aload_n 0, 1) := by decide +kernel
theorem dX8_kindOf_20 : decode cX8_kindOf 20 = .ok (.getfield 53, 3) := by decide +kernel
theorem dX8_kindOf_23 : decode cX8_kindOf 23 = .ok (.iload_n 1, 1) := by decide +kernel
theorem dX8_kindOf_24 : decode cX8_kindOf 24 = .ok (.iaload, 1) := by decide +kernel
theorem dX8_kindOf_25 : decode cX8_kindOf 25 = .ok (.bipush 9, 2) := by decide +kernel
theorem dX8_kindOf_27 : decode cX8_kindOf 27 = .ok (.if_icmp .le 7, 3) := by decide +kernel
theorem dX8_kindOf_30 : decode cX8_kindOf 30 = .ok (.iconst 0, 1) := by decide +kernel
theorem dX8_kindOf_31 : decode cX8_kindOf 31 = .ok (.goto 23, 3) := by decide +kernel
theorem dX8_kindOf_34 : decode cX8_kindOf 34 = .ok (.aload_n 0, 1) := by decide +kernel
theorem dX8_kindOf_35 : decode cX8_kindOf 35 = .ok (.getfield 47, 3) := by decide +kernel
theorem dX8_kindOf_38 : decode cX8_kindOf 38 = .ok (.iload_n 1, 1) := by decide +kernel
theorem dX8_kindOf_39 : decode cX8_kindOf 39 = .ok (.iaload, 1) := by decide +kernel
theorem dX8_kindOf_40 : decode cX8_kindOf 40 = .ok (.aload_n 0, 1) := by decide +kernel
theorem dX8_kindOf_41 : decode cX8_kindOf 41 = .ok (.getfield 50, 3) := by decide +kernel
theorem dX8_kindOf_44 : decode cX8_kindOf 44 = .ok (.iload_n 1, 1) := by decide +kernel
theorem dX8_kindOf_45 : decode cX8_kindOf 45 = .ok (.iaload, 1) := by decide +kernel
theorem dX8_kindOf_46 : decode cX8_kindOf 46 = .ok (.if_icmp .ne 7, 3) := by decide +kernel
theorem dX8_kindOf_49 : decode cX8_kindOf 49 = .ok (.iconst 2, 1) := by decide +kernel
theorem dX8_kindOf_50 : decode cX8_kindOf 50 = .ok (.goto 4, 3) := by decide +kernel
theorem dX8_kindOf_53 : decode cX8_kindOf 53 = .ok (.iconst 1, 1) := by decide +kernel
theorem dX8_kindOf_54 : decode cX8_kindOf 54 = .ok (.ireturn, 1) := by decide +kernel
theorem dX8_kind_0 : decode cX8_kind 0 = .ok (.aload_n 0, 1) := by decide +kernel
theorem dX8_kind_1 : decode cX8_kind 1 = .ok (.iconst 0, 1) := by decide +kernel
theorem dX8_kind_2 : decode cX8_kind 2 = .ok (.putfield 107, 3) := by decide +kernel
theorem dX8_kind_5 : decode cX8_kind 5 = .ok (.aload_n 0, 1) := by decide +kernel
theorem dX8_kind_6 : decode cX8_kind 6 = .ok (.iload_n 1, 1) := by decide +kernel
theorem dX8_kind_7 : decode cX8_kind 7 = .ok (.invokevirtual 204, 3) := by decide +kernel
theorem dX8_kind_10 : decode cX8_kind 10 = .ok (.ifCond .eq 11, 3) := by decide +kernel
theorem dX8_kind_13 : decode cX8_kind 13 = .ok (.aload_n 0, 1) := by decide +kernel
theorem dX8_kind_14 : decode cX8_kind 14 = .ok (.iload_n 1, 1) := by decide +kernel
theorem dX8_kind_15 : decode cX8_kind 15 = .ok (.invokevirtual 207, 3) := by decide +kernel
theorem dX8_kind_18 : decode cX8_kind 18 = .ok (.goto 5, 3) := by decide +kernel
theorem dX8_kind_21 : decode cX8_kind 21 = .ok (.ldc 126, 2) := by decide +kernel
theorem dX8_kind_23 : decode cX8_kind 23 = .ok (.ireturn, 1) := by decide +kernel
theorem dX8_as_0 : decode cX8_as 0 = .ok (.aload_n 0, 1) := by decide +kernel
theorem dX8_as_1 : decode cX8_as 1 = .ok (.iconst 0, 1) := by decide +kernel
theorem dX8_as_2 : decode cX8_as 2 = .ok (.putfield 107, 3) := by decide +kernel
theorem dX8_as_5 : decode cX8_as 5 = .ok (.aload_n 0, 1) := by decide +kernel
theorem dX8_as_6 : decode cX8_as 6 = .ok (.iload_n 1, 1) := by decide +kernel
theorem dX8_as_7 : decode cX8_as 7 = .ok (.invokevirtual 204, 3) := by decide +kernel
theorem dX8_as_10 : decode cX8_as 10 = .ok (.ifCond .eq 15, 3) := by decide +kernel
theorem dX8_as_13 : decode cX8_as 13 = .ok (.iload_n 2, 1) := by decide +kernel
theorem dX8_as_14 : decode cX8_as 14 = .ok (.i2l, 1) := by decide +kernel
theorem dX8_as_15 : decode cX8_as 15 = .ok (.lconst 0, 1) := by decide +kernel
theorem dX8_as_16 : decode cX8_as 16 = .ok (.ldc2_w 210, 3) := by decide +kernel
theorem dX8_as_19 : decode cX8_as 19 = .ok (.invokestatic 116, 3) := by decide +kernel
theorem dX8_as_22 : decode cX8_as 22 = .ok (.ifCond .ne 6, 3) := by decide +kernel
theorem dX8_as_25 : decode cX8_as 25 = .ok (.ldc 126, 2) := by decide +kernel
theorem dX8_as_27 : decode cX8_as 27 = .ok (.ireturn, 1) := by decide +kernel
theorem dX8_as_28 : decode cX8_as 28 = .ok (.aload_n 0, 1) := by decide +kernel
theorem dX8_as_29 : decode cX8_as 29 = .ok (.iconst 0, 1) := by decide +kernel
theorem dX8_as_30 : decode cX8_as 30 = .ok (.putfield 110, 3) := by decide +kernel
theorem dX8_as_33 : decode cX8_as 33 = .ok (.aload_n 0, 1) := by decide +kernel
theorem dX8_as_34 : decode cX8_as 34 = .ok (.iload_n 1, 1) := by decide +kernel
theorem dX8_as_35 : decode cX8_as 35 = .ok (.invokevirtual 207, 3) := by decide +kernel
theorem dX8_as_38 : decode cX8_as 38 = .ok (.istore_n 3, 1) := by decide +kernel
theorem dX8_as_39 : decode cX8_as 39 = .ok (.iload_n 2, 1) := by decide +kernel
theorem dX8_as_40 : decode cX8_as 40 = .ok (.ifCond .eq 18, 3) := by decide +kernel
theorem dX8_as_43 : decode cX8_as 43 = .ok (.iload_n 3, 1) := by decide +kernel
theorem dX8_as_44 : decode cX8_as 44 = .ok (.iload_n 2, 1) := by decide +kernel
theorem dX8_as_45 : decode cX8_as 45 = .ok (.if_icmp .eq 13, 3) := by decide +kernel
theorem dX8_as_48 : decode cX8_as 48 = .ok (.iload_n 2, 1) := by decide +kernel
theorem dX8_as_49 : decode cX8_as 49 = .ok (.iconst 1, 1) := by decide +kernel
theorem dX8_as_50 : decode cX8_as 50 = .ok (.if_icmp .ne 17, 3) := by decide +kernel
theorem dX8_as_53 : decode cX8_as 53 = .ok (.iload_n 3, 1) := by decide +kernel
theorem dX8_as_54 : decode cX8_as 54 = .ok (.iconst 2, 1) := by decide +kernel
theorem dX8_as_55 : decode cX8_as 55 = .ok (.if_icmp .ne 12, 3) := by decide +kernel
theorem dX8_as_58 : decode cX8_as 58 = .ok (.aload_n 0, 1) := by decide +kernel
theorem dX8_as_59 : decode cX8_as 59 = .ok (.getfield 53, 3) := by decide +kernel
theorem dX8_as_62 : decode cX8_as 62 = .ok (.iload_n 1, 1) := by decide +kernel
theorem dX8_as_63 : decode cX8_as 63 = .ok (.iaload, 1) := by decide +kernel
theorem dX8_as_64 : decode cX8_as 64 = .ok (.goto 8, 3) := by decide +kernel
theorem dX8_as_67 : decode cX8_as 67 = .ok (.aload_n 0, 1) := by decide +kernel
theorem dX8_as_68 : decode cX8_as 68 = .ok (.iconst 3, 1) := by decide +kernel
theorem dX8_as_69 : decode cX8_as 69 = .ok (.invokevirtual 127, 3) := by decide +kernel
theorem dX8_as_72 : decode cX8_as 72 = .ok (.ireturn, 1) := by decide +kernel
theorem dX8_began_0 : decode cX8_began 0 = .ok (.aload_n 0, 1) := by decide +kernel
theorem dX8_began_1 : decode cX8_began 1 = .ok (.getfield 212, 3) := by decide +kernel
theorem dX8_began_4 : decode cX8_began 4 = .ok (.bipush 16, 2) := by decide +kernel
theorem dX8_began_6 : decode cX8_began 6 = .ok (.if_icmp .ge 23, 3) := by decide +kernel
theorem dX8_began_9 : decode cX8_began 9 = .ok (.aload_n 0, 1) := by decide +kernel
theorem dX8_began_10 : decode cX8_began 10 = .ok (.getfield 65, 3) := by decide +kernel
theorem dX8_began_13 : decode cX8_began 13 = .ok (.aload_n 0, 1) := by decide +kernel
theorem dX8_began_14 : decode cX8_began 14 = .ok (.getfield 212, 3) := by decide +kernel
theorem dX8_began_17 : decode cX8_began 17 = .ok (.iload_n 1, 1) := by decide +kernel
theorem dX8_began_18 : decode cX8_began 18 = .ok (.iastore, 1) := by decide +kernel
theorem dX8_began_19 : decode cX8_began 19 = .ok (.aload_n 0, 1) := by decide +kernel
theorem dX8_began_20 : decode cX8_began 20 = .ok (.dup, 1) := by decide +kernel
theorem dX8_began_21 : decode cX8_began 21 = .ok (.getfield 212, 3) := by decide +kernel
theorem dX8_began_24 : decode cX8_began 24 = .ok (.iconst 1, 1) := by decide +kernel
theorem dX8_began_25 : decode cX8_began 25 = .ok (.iadd, 1) := by decide +kernel
theorem dX8_began_26 : decode cX8_began 26 = .ok (.putfield 212, 3) := by decide +kernel
theorem dX8_began_29 : decode cX8_began 29 = .ok (.return_, 1) := by decide +kernel
theorem dX8_cost_0 : decode cX8_cost 0 = .ok (.aload_n 0, 1) := by decide +kernel
theorem dX8_cost_1 : decode cX8_cost 1 = .ok (.iload_n 1, 1) := by decide +kernel
theorem dX8_cost_2 : decode cX8_cost 2 = .ok (.invokevirtual 207, 3) := by decide +kernel
theorem dX8_cost_5 : decode cX8_cost 5 = .ok (.istore_n 2, 1) := by decide +kernel
theorem dX8_cost_6 : decode cX8_cost 6 = .ok (.iload_n 2, 1) := by decide +kernel
theorem dX8_cost_7 : decode cX8_cost 7 = .ok (.iconst 3, 1) := by decide +kernel
theorem dX8_cost_8 : decode cX8_cost 8 = .ok (.if_icmp .ne 11, 3) := by decide +kernel
theorem dX8_cost_11 : decode cX8_cost 11 = .ok (.aload_n 0, 1) := by decide +kernel
theorem dX8_cost_12 : decode cX8_cost 12 = .ok (.bipush 13, 2) := by decide +kernel
theorem dX8_cost_14 : decode cX8_cost 14 = .ok (.invokevirtual 215, 3) := by decide +kernel
theorem dX8_cost_17 : decode cX8_cost 17 = .ok (.iconst 0, 1) := by decide +kernel
theorem dX8_cost_18 : decode cX8_cost 18 = .ok (.ireturn, 1) := by decide +kernel
theorem dX8_cost_19 : decode cX8_cost 19 = .ok (.iload_n 2, 1) := by decide +kernel
theorem dX8_cost_20 : decode cX8_cost 20 = .ok (.iconst 2, 1) := by decide +kernel
theorem dX8_cost_21 : decode cX8_cost 21 = .ok (.if_icmp .ne 9, 3) := by decide +kernel
theorem dX8_cost_24 : decode cX8_cost 24 = .ok (.aload_n 0, 1) := by decide +kernel
theorem dX8_cost_25 : decode cX8_cost 25 = .ok (.bipush 12, 2) := by decide +kernel
theorem dX8_cost_27 : decode cX8_cost 27 = .ok (.invokevirtual 215, 3) := by decide +kernel
theorem dX8_cost_30 : decode cX8_cost 30 = .ok (.iload_n 2, 1) := by decide +kernel
theorem dX8_cost_31 : decode cX8_cost 31 = .ok (.ifCond .eq 9, 3) := by decide +kernel
theorem dX8_cost_34 : decode cX8_cost 34 = .ok (.aload_n 0, 1) := by decide +kernel
theorem dX8_cost_35 : decode cX8_cost 35 = .ok (.bipush 11, 2) := by decide +kernel
theorem dX8_cost_37 : decode cX8_cost 37 = .ok (.invokevirtual 215, 3) := by decide +kernel
theorem dX8_cost_40 : decode cX8_cost 40 = .ok (.aload_n 0, 1) := by decide +kernel
theorem dX8_cost_41 : decode cX8_cost 41 = .ok (.bipush 10, 2) := by decide +kernel
theorem dX8_cost_43 : decode cX8_cost 43 = .ok (.invokevirtual 215, 3) := by decide +kernel
theorem dX8_cost_46 : decode cX8_cost 46 = .ok (.iload_n 2, 1) := by decide +kernel
theorem dX8_cost_47 : decode cX8_cost 47 = .ok (.ifCond .ne 12, 3) := by decide +kernel
theorem dX8_cost_50 : decode cX8_cost 50 = .ok (.aload_n 0, 1) := by decide +kernel
theorem dX8_cost_51 : decode cX8_cost 51 = .ok (.getfield 53, 3) := by decide +kernel
theorem dX8_cost_54 : decode cX8_cost 54 = .ok (.iload_n 1, 1) := by decide +kernel
theorem dX8_cost_55 : decode cX8_cost 55 = .ok (.iaload, 1) := by decide +kernel
theorem dX8_cost_56 : decode cX8_cost 56 = .ok (.goto 11, 3) := by decide +kernel
theorem dX8_cost_59 : decode cX8_cost 59 = .ok (.iconst 2, 1) := by decide +kernel
theorem dX8_cost_60 : decode cX8_cost 60 = .ok (.aload_n 0, 1) := by decide +kernel
theorem dX8_cost_61 : decode cX8_cost 61 = .ok (.getfield 53, 3) := by decide +kernel
theorem dX8_cost_64 : decode cX8_cost 64 = .ok (.iload_n 1, 1) := by decide +kernel
theorem dX8_cost_65 : decode cX8_cost 65 = .ok (.iaload, 1) := by decide +kernel
theorem dX8_cost_66 : decode cX8_cost 66 = .ok (.imul, 1) := by decide +kernel
theorem dX8_cost_67 : decode cX8_cost 67 = .ok (.istore_n 3, 1) := by decide +kernel
theorem dX8_cost_68 : decode cX8_cost 68 = .ok (.iload_n 2, 1) := by decide +kernel
theorem dX8_cost_69 : decode cX8_cost 69 = .ok (.iconst 2, 1) := by decide +kernel
theorem dX8_cost_70 : decode cX8_cost 70 = .ok (.if_icmp .ne 27, 3) := by decide +kernel
theorem dX8_cost_73 : decode cX8_cost 73 = .ok (.aload_n 0, 1) := by decide +kernel
theorem dX8_cost_74 : decode cX8_cost 74 = .ok (.bipush 21, 2) := by decide +kernel
theorem dX8_cost_76 : decode cX8_cost 76 = .ok (.invokevirtual 215, 3) := by decide +kernel
theorem dX8_cost_79 : decode cX8_cost 79 = .ok (.aload_n 0, 1) := by decide +kernel
theorem dX8_cost_80 : decode cX8_cost 80 = .ok (.bipush 20, 2) := by decide +kernel
theorem dX8_cost_82 : decode cX8_cost 82 = .ok (.invokevirtual 215, 3) := by decide +kernel
theorem dX8_cost_85 : decode cX8_cost 85 = .ok (.iload_n 3, 1) := by decide +kernel
theorem dX8_cost_86 : decode cX8_cost 86 = .ok (.aload_n 0, 1) := by decide +kernel
theorem dX8_cost_87 : decode cX8_cost 87 = .ok (.getfield 56, 3) := by decide +kernel
theorem dX8_cost_90 : decode cX8_cost 90 = .ok (.iload_n 1, 1) := by decide +kernel
theorem dX8_cost_91 : decode cX8_cost 91 = .ok (.iaload, 1) := by decide +kernel
theorem dX8_cost_92 : decode cX8_cost 92 = .ok (.bipush 100, 2) := by decide +kernel
theorem dX8_cost_94 : decode cX8_cost 94 = .ok (.iadd, 1) := by decide +kernel
theorem dX8_cost_95 : decode cX8_cost 95 = .ok (.iadd, 1) := by decide +kernel
theorem dX8_cost_96 : decode cX8_cost 96 = .ok (.istore_n 3, 1) := by decide +kernel
theorem dX8_cost_97 : decode cX8_cost 97 = .ok (.iload_n 3, 1) := by decide +kernel
theorem dX8_cost_98 : decode cX8_cost 98 = .ok (.ireturn, 1) := by decide +kernel
theorem dX8_mark_0 : decode cX8_mark 0 = .ok (.aload_n 0, 1) := by decide +kernel
theorem dX8_mark_1 : decode cX8_mark 1 = .ok (.iload_n 1, 1) := by decide +kernel
theorem dX8_mark_2 : decode cX8_mark 2 = .ok (.invokevirtual 207, 3) := by decide +kernel
theorem dX8_mark_5 : decode cX8_mark 5 = .ok (.istore_n 2, 1) := by decide +kernel
theorem dX8_mark_6 : decode cX8_mark 6 = .ok (.iload_n 2, 1) := by decide +kernel
theorem dX8_mark_7 : decode cX8_mark 7 = .ok (.iconst 3, 1) := by decide +kernel
theorem dX8_mark_8 : decode cX8_mark 8 = .ok (.if_icmp .ne 12, 3) := by decide +kernel
theorem dX8_mark_11 : decode cX8_mark 11 = .ok (.aload_n 0, 1) := by decide +kernel
theorem dX8_mark_12 : decode cX8_mark 12 = .ok (.bipush 22, 2) := by decide +kernel
theorem dX8_mark_14 : decode cX8_mark 14 = .ok (.invokevirtual 215, 3) := by decide +kernel
theorem dX8_mark_17 : decode cX8_mark 17 = .ok (.goto 13, 3) := by decide +kernel
theorem dX8_mark_20 : decode cX8_mark 20 = .ok (.iload_n 2, 1) := by decide +kernel
theorem dX8_mark_21 : decode cX8_mark 21 = .ok (.ifCond .eq 9, 3) := by decide +kernel
theorem dX8_mark_24 : decode cX8_mark 24 = .ok (.aload_n 0, 1) := by decide +kernel
theorem dX8_mark_25 : decode cX8_mark 25 = .ok (.bipush 21, 2) := by decide +kernel
theorem dX8_mark_27 : decode cX8_mark 27 = .ok (.invokevirtual 215, 3) := by decide +kernel
theorem dX8_mark_30 : decode cX8_mark 30 = .ok (.aload_n 0, 1) := by decide +kernel
theorem dX8_mark_31 : decode cX8_mark 31 = .ok (.bipush 20, 2) := by decide +kernel
theorem dX8_mark_33 : decode cX8_mark 33 = .ok (.invokevirtual 215, 3) := by decide +kernel
theorem dX8_mark_36 : decode cX8_mark 36 = .ok (.aload_n 0, 1) := by decide +kernel
theorem dX8_mark_37 : decode cX8_mark 37 = .ok (.getfield 56, 3) := by decide +kernel
theorem dX8_mark_40 : decode cX8_mark 40 = .ok (.iload_n 1, 1) := by decide +kernel
theorem dX8_mark_41 : decode cX8_mark 41 = .ok (.iaload, 1) := by decide +kernel
theorem dX8_mark_42 : decode cX8_mark 42 = .ok (.iload_n 2, 1) := by decide +kernel
theorem dX8_mark_43 : decode cX8_mark 43 = .ok (.iconst 3, 1) := by decide +kernel
theorem dX8_mark_44 : decode cX8_mark 44 = .ok (.if_icmp .ne 13, 3) := by decide +kernel
theorem dX8_mark_47 : decode cX8_mark 47 = .ok (.aload_n 0, 1) := by decide +kernel
theorem dX8_mark_48 : decode cX8_mark 48 = .ok (.iload_n 1, 1) := by decide +kernel
theorem dX8_mark_49 : decode cX8_mark 49 = .ok (.invokevirtual 218, 3) := by decide +kernel
theorem dX8_mark_52 : decode cX8_mark 52 = .ok (.iconst 1, 1) := by decide +kernel
theorem dX8_mark_53 : decode cX8_mark 53 = .ok (.iadd, 1) := by decide +kernel
theorem dX8_mark_54 : decode cX8_mark 54 = .ok (.goto 13, 3) := by decide +kernel
theorem dX8_mark_57 : decode cX8_mark 57 = .ok (.iload_n 2, 1) := by decide +kernel
theorem dX8_mark_58 : decode cX8_mark 58 = .ok (.ifCond .ne 7, 3) := by decide +kernel
theorem dX8_mark_61 : decode cX8_mark 61 = .ok (.iconst 0, 1) := by decide +kernel
theorem dX8_mark_62 : decode cX8_mark 62 = .ok (.goto 5, 3) := by decide +kernel
theorem dX8_mark_65 : decode cX8_mark 65 = .ok (.bipush 100, 2) := by decide +kernel
theorem dX8_mark_67 : decode cX8_mark 67 = .ok (.iadd, 1) := by decide +kernel
theorem dX8_mark_68 : decode cX8_mark 68 = .ok (.ireturn, 1) := by decide +kernel
theorem dX8_ask_0 : decode cX8_ask 0 = .ok (.aload_n 0, 1) := by decide +kernel
theorem dX8_ask_1 : decode cX8_ask 1 = .ok (.iconst 0, 1) := by decide +kernel
theorem dX8_ask_2 : decode cX8_ask 2 = .ok (.putfield 107, 3) := by decide +kernel
theorem dX8_ask_5 : decode cX8_ask 5 = .ok (.aload_n 0, 1) := by decide +kernel
theorem dX8_ask_6 : decode cX8_ask 6 = .ok (.iload_n 1, 1) := by decide +kernel
theorem dX8_ask_7 : decode cX8_ask 7 = .ok (.invokevirtual 204, 3) := by decide +kernel
theorem dX8_ask_10 : decode cX8_ask 10 = .ok (.ifCond .eq 13, 3) := by decide +kernel
theorem dX8_ask_13 : decode cX8_ask 13 = .ok (.iload_n 2, 1) := by decide +kernel
theorem dX8_ask_14 : decode cX8_ask 14 = .ok (.i2l, 1) := by decide +kernel
theorem dX8_ask_15 : decode cX8_ask 15 = .ok (.lconst 0, 1) := by decide +kernel
theorem dX8_ask_16 : decode cX8_ask 16 = .ok (.lconst 1, 1) := by decide +kernel
theorem dX8_ask_17 : decode cX8_ask 17 = .ok (.invokestatic 116, 3) := by decide +kernel
theorem dX8_ask_20 : decode cX8_ask 20 = .ok (.ifCond .ne 6, 3) := by decide +kernel
theorem dX8_ask_23 : decode cX8_ask 23 = .ok (.ldc 126, 2) := by decide +kernel
theorem dX8_ask_25 : decode cX8_ask 25 = .ok (.ireturn, 1) := by decide +kernel
theorem dX8_ask_26 : decode cX8_ask 26 = .ok (.aload_n 0, 1) := by decide +kernel
theorem dX8_ask_27 : decode cX8_ask 27 = .ok (.iconst 0, 1) := by decide +kernel
theorem dX8_ask_28 : decode cX8_ask 28 = .ok (.putfield 212, 3) := by decide +kernel
theorem dX8_ask_31 : decode cX8_ask 31 = .ok (.iload_n 2, 1) := by decide +kernel
theorem dX8_ask_32 : decode cX8_ask 32 = .ok (.ifCond .ne 11, 3) := by decide +kernel
theorem dX8_ask_35 : decode cX8_ask 35 = .ok (.aload_n 0, 1) := by decide +kernel
theorem dX8_ask_36 : decode cX8_ask 36 = .ok (.iload_n 1, 1) := by decide +kernel
theorem dX8_ask_37 : decode cX8_ask 37 = .ok (.invokevirtual 218, 3) := by decide +kernel
theorem dX8_ask_40 : decode cX8_ask 40 = .ok (.goto 8, 3) := by decide +kernel
theorem dX8_ask_43 : decode cX8_ask 43 = .ok (.aload_n 0, 1) := by decide +kernel
theorem dX8_ask_44 : decode cX8_ask 44 = .ok (.iload_n 1, 1) := by decide +kernel
theorem dX8_ask_45 : decode cX8_ask 45 = .ok (.invokevirtual 221, 3) := by decide +kernel
theorem dX8_ask_48 : decode cX8_ask 48 = .ok (.ireturn, 1) := by decide +kernel
theorem dX8_trace_0 : decode cX8_trace 0 = .ok (.aload_n 0, 1) := by decide +kernel
theorem dX8_trace_1 : decode cX8_trace 1 = .ok (.iconst 0, 1) := by decide +kernel
theorem dX8_trace_2 : decode cX8_trace 2 = .ok (.putfield 107, 3) := by decide +kernel
theorem dX8_trace_5 : decode cX8_trace 5 = .ok (.iload_n 1, 1) := by decide +kernel
theorem dX8_trace_6 : decode cX8_trace 6 = .ok (.i2l, 1) := by decide +kernel
theorem dX8_trace_7 : decode cX8_trace 7 = .ok (.lconst 0, 1) := by decide +kernel
theorem dX8_trace_8 : decode cX8_trace 8 = .ok (.aload_n 0, 1) := by decide +kernel
theorem dX8_trace_9 : decode cX8_trace 9 = .ok (.getfield 212, 3) := by decide +kernel
theorem dX8_trace_12 : decode cX8_trace 12 = .ok (.iconst 1, 1) := by decide +kernel
theorem dX8_trace_13 : decode cX8_trace 13 = .ok (.isub, 1) := by decide +kernel
theorem dX8_trace_14 : decode cX8_trace 14 = .ok (.i2l, 1) := by decide +kernel
theorem dX8_trace_15 : decode cX8_trace 15 = .ok (.invokestatic 116, 3) := by decide +kernel
theorem dX8_trace_18 : decode cX8_trace 18 = .ok (.ifCond .eq 12, 3) := by decide +kernel
theorem dX8_trace_21 : decode cX8_trace 21 = .ok (.aload_n 0, 1) := by decide +kernel
theorem dX8_trace_22 : decode cX8_trace 22 = .ok (.getfield 65, 3) := by decide +kernel
theorem dX8_trace_25 : decode cX8_trace 25 = .ok (.iload_n 1, 1) := by decide +kernel
theorem dX8_trace_26 : decode cX8_trace 26 = .ok (.iaload, 1) := by decide +kernel
theorem dX8_trace_27 : decode cX8_trace 27 = .ok (.goto 5, 3) := by decide +kernel
theorem dX8_trace_30 : decode cX8_trace 30 = .ok (.ldc 142, 2) := by decide +kernel
theorem dX8_trace_32 : decode cX8_trace 32 = .ok (.ireturn, 1) := by decide +kernel
theorem dX8_isSeat_0 : decode cX8_isSeat 0 = .ok (.iload_n 0, 1) := by decide +kernel
theorem dX8_isSeat_1 : decode cX8_isSeat 1 = .ok (.i2l, 1) := by decide +kernel
theorem dX8_isSeat_2 : decode cX8_isSeat 2 = .ok (.lconst 0, 1) := by decide +kernel
theorem dX8_isSeat_3 : decode cX8_isSeat 3 = .ok (.ldc2_w 114, 3) := by decide +kernel
theorem dX8_isSeat_6 : decode cX8_isSeat 6 = .ok (.invokestatic 116, 3) := by decide +kernel
theorem dX8_isSeat_9 : decode cX8_isSeat 9 = .ok (.ireturn, 1) := by decide +kernel
theorem dX8_seat_0 : decode cX8_seat 0 = .ok (.aload_n 0, 1) := by decide +kernel
theorem dX8_seat_1 : decode cX8_seat 1 = .ok (.iconst 0, 1) := by decide +kernel
theorem dX8_seat_2 : decode cX8_seat 2 = .ok (.putfield 107, 3) := by decide +kernel
theorem dX8_seat_5 : decode cX8_seat 5 = .ok (.iload_n 1, 1) := by decide +kernel
theorem dX8_seat_6 : decode cX8_seat 6 = .ok (.invokestatic 224, 3) := by decide +kernel
theorem dX8_seat_9 : decode cX8_seat 9 = .ok (.ifCond .eq 17, 3) := by decide +kernel
theorem dX8_seat_12 : decode cX8_seat 12 = .ok (.iload_n 2, 1) := by decide +kernel
theorem dX8_seat_13 : decode cX8_seat 13 = .ok (.i2l, 1) := by decide +kernel
theorem dX8_seat_14 : decode cX8_seat 14 = .ok (.ldc2_w 227, 3) := by decide +kernel
theorem dX8_seat_17 : decode cX8_seat 17 = .ok (.ldc2_w 229, 3) := by decide +kernel
theorem dX8_seat_20 : decode cX8_seat 20 = .ok (.invokestatic 116, 3) := by decide +kernel
theorem dX8_seat_23 : decode cX8_seat 23 = .ok (.ifCond .ne 6, 3) := by decide +kernel
theorem dX8_seat_26 : decode cX8_seat 26 = .ok (.ldc 126, 2) := by decide +kernel
theorem dX8_seat_28 : decode cX8_seat 28 = .ok (.ireturn, 1) := by decide +kernel
theorem dX8_seat_29 : decode cX8_seat 29 = .ok (.aload_n 0, 1) := by decide +kernel
theorem dX8_seat_30 : decode cX8_seat 30 = .ok (.getfield 71, 3) := by decide +kernel
theorem dX8_seat_33 : decode cX8_seat 33 = .ok (.iload_n 1, 1) := by decide +kernel
theorem dX8_seat_34 : decode cX8_seat 34 = .ok (.baload, 1) := by decide +kernel
theorem dX8_seat_35 : decode cX8_seat 35 = .ok (.ifCond .eq 8, 3) := by decide +kernel
theorem dX8_seat_38 : decode cX8_seat 38 = .ok (.ldc 142, 2) := by decide +kernel
theorem dX8_seat_40 : decode cX8_seat 40 = .ok (.goto 9, 3) := by decide +kernel
theorem dX8_seat_43 : decode cX8_seat 43 = .ok (.aload_n 0, 1) := by decide +kernel
theorem dX8_seat_44 : decode cX8_seat 44 = .ok (.getfield 68, 3) := by decide +kernel
theorem dX8_seat_47 : decode cX8_seat 47 = .ok (.iload_n 1, 1) := by decide +kernel
theorem dX8_seat_48 : decode cX8_seat 48 = .ok (.iaload, 1) := by decide +kernel
theorem dX8_seat_49 : decode cX8_seat 49 = .ok (.istore_n 3, 1) := by decide +kernel
theorem dX8_seat_50 : decode cX8_seat 50 = .ok (.aload_n 0, 1) := by decide +kernel
theorem dX8_seat_51 : decode cX8_seat 51 = .ok (.getfield 71, 3) := by decide +kernel
theorem dX8_seat_54 : decode cX8_seat 54 = .ok (.iload_n 1, 1) := by decide +kernel
theorem dX8_seat_55 : decode cX8_seat 55 = .ok (.iconst 0, 1) := by decide +kernel
theorem dX8_seat_56 : decode cX8_seat 56 = .ok (.bastore, 1) := by decide +kernel
theorem dX8_seat_57 : decode cX8_seat 57 = .ok (.aload_n 0, 1) := by decide +kernel
theorem dX8_seat_58 : decode cX8_seat 58 = .ok (.getfield 68, 3) := by decide +kernel
theorem dX8_seat_61 : decode cX8_seat 61 = .ok (.iload_n 1, 1) := by decide +kernel
theorem dX8_seat_62 : decode cX8_seat 62 = .ok (.iload_n 2, 1) := by decide +kernel
theorem dX8_seat_63 : decode cX8_seat 63 = .ok (.iastore, 1) := by decide +kernel
theorem dX8_seat_64 : decode cX8_seat 64 = .ok (.iload_n 3, 1) := by decide +kernel
theorem dX8_seat_65 : decode cX8_seat 65 = .ok (.ireturn, 1) := by decide +kernel
theorem dX8_dead_0 : decode cX8_dead 0 = .ok (.aload_n 0, 1) := by decide +kernel
theorem dX8_dead_1 : decode cX8_dead 1 = .ok (.iconst 0, 1) := by decide +kernel
theorem dX8_dead_2 : decode cX8_dead 2 = .ok (.putfield 107, 3) := by decide +kernel
theorem dX8_dead_5 : decode cX8_dead 5 = .ok (.iload_n 1, 1) := by decide +kernel
theorem dX8_dead_6 : decode cX8_dead 6 = .ok (.invokestatic 224, 3) := by decide +kernel
theorem dX8_dead_9 : decode cX8_dead 9 = .ok (.ifCond .ne 6, 3) := by decide +kernel
theorem dX8_dead_12 : decode cX8_dead 12 = .ok (.ldc 126, 2) := by decide +kernel
theorem dX8_dead_14 : decode cX8_dead 14 = .ok (.ireturn, 1) := by decide +kernel
theorem dX8_dead_15 : decode cX8_dead 15 = .ok (.aload_n 0, 1) := by decide +kernel
theorem dX8_dead_16 : decode cX8_dead 16 = .ok (.getfield 71, 3) := by decide +kernel
theorem dX8_dead_19 : decode cX8_dead 19 = .ok (.iload_n 1, 1) := by decide +kernel
theorem dX8_dead_20 : decode cX8_dead 20 = .ok (.baload, 1) := by decide +kernel
theorem dX8_dead_21 : decode cX8_dead 21 = .ok (.istore_n 2, 1) := by decide +kernel
theorem dX8_dead_22 : decode cX8_dead 22 = .ok (.aload_n 0, 1) := by decide +kernel
theorem dX8_dead_23 : decode cX8_dead 23 = .ok (.getfield 71, 3) := by decide +kernel
theorem dX8_dead_26 : decode cX8_dead 26 = .ok (.iload_n 1, 1) := by decide +kernel
theorem dX8_dead_27 : decode cX8_dead 27 = .ok (.iconst 1, 1) := by decide +kernel
theorem dX8_dead_28 : decode cX8_dead 28 = .ok (.bastore, 1) := by decide +kernel
theorem dX8_dead_29 : decode cX8_dead 29 = .ok (.iload_n 2, 1) := by decide +kernel
theorem dX8_dead_30 : decode cX8_dead 30 = .ok (.ifCond .eq 7, 3) := by decide +kernel
theorem dX8_dead_33 : decode cX8_dead 33 = .ok (.iconst 0, 1) := by decide +kernel
theorem dX8_dead_34 : decode cX8_dead 34 = .ok (.goto 4, 3) := by decide +kernel
theorem dX8_dead_37 : decode cX8_dead 37 = .ok (.iconst 1, 1) := by decide +kernel
theorem dX8_dead_38 : decode cX8_dead 38 = .ok (.ireturn, 1) := by decide +kernel
theorem dX8_law_0 : decode cX8_law 0 = .ok (.aload_n 0, 1) := by decide +kernel
theorem dX8_law_1 : decode cX8_law 1 = .ok (.iconst 0, 1) := by decide +kernel
theorem dX8_law_2 : decode cX8_law 2 = .ok (.putfield 107, 3) := by decide +kernel
theorem dX8_law_5 : decode cX8_law 5 = .ok (.iload_n 1, 1) := by decide +kernel
theorem dX8_law_6 : decode cX8_law 6 = .ok (.ldc 231, 2) := by decide +kernel
theorem dX8_law_8 : decode cX8_law 8 = .ok (.iand, 1) := by decide +kernel
theorem dX8_law_9 : decode cX8_law 9 = .ok (.ifCond .ne 15, 3) := by decide +kernel
theorem dX8_law_12 : decode cX8_law 12 = .ok (.iload_n 2, 1) := by decide +kernel
theorem dX8_law_13 : decode cX8_law 13 = .ok (.i2l, 1) := by decide +kernel
theorem dX8_law_14 : decode cX8_law 14 = .ok (.lconst 1, 1) := by decide +kernel
theorem dX8_law_15 : decode cX8_law 15 = .ok (.ldc2_w 232, 3) := by decide +kernel
theorem dX8_law_18 : decode cX8_law 18 = .ok (.invokestatic 116, 3) := by decide +kernel
theorem dX8_law_21 : decode cX8_law 21 = .ok (.ifCond .ne 6, 3) := by decide +kernel
theorem dX8_law_24 : decode cX8_law 24 = .ok (.ldc 126, 2) := by decide +kernel
theorem dX8_law_26 : decode cX8_law 26 = .ok (.ireturn, 1) := by decide +kernel
theorem dX8_law_27 : decode cX8_law 27 = .ok (.aload_n 0, 1) := by decide +kernel
theorem dX8_law_28 : decode cX8_law 28 = .ok (.iload_n 1, 1) := by decide +kernel
theorem dX8_law_29 : decode cX8_law 29 = .ok (.putfield 234, 3) := by decide +kernel
theorem dX8_law_32 : decode cX8_law 32 = .ok (.aload_n 0, 1) := by decide +kernel
theorem dX8_law_33 : decode cX8_law 33 = .ok (.iload_n 2, 1) := by decide +kernel
theorem dX8_law_34 : decode cX8_law 34 = .ok (.putfield 75, 3) := by decide +kernel
theorem dX8_law_37 : decode cX8_law 37 = .ok (.iconst 1, 1) := by decide +kernel
theorem dX8_law_38 : decode cX8_law 38 = .ok (.ireturn, 1) := by decide +kernel
theorem dX8_tried_0 : decode cX8_tried 0 = .ok (.aload_n 0, 1) := by decide +kernel
theorem dX8_tried_1 : decode cX8_tried 1 = .ok (.getfield 71, 3) := by decide +kernel
theorem dX8_tried_4 : decode cX8_tried 4 = .ok (.iload_n 2, 1) := by decide +kernel
theorem dX8_tried_5 : decode cX8_tried 5 = .ok (.baload, 1) := by decide +kernel
theorem dX8_tried_6 : decode cX8_tried 6 = .ok (.ifCond .eq 6, 3) := by decide +kernel
theorem dX8_tried_9 : decode cX8_tried 9 = .ok (.bipush 15, 2) := by decide +kernel
theorem dX8_tried_11 : decode cX8_tried 11 = .ok (.ireturn, 1) := by decide +kernel
theorem dX8_tried_12 : decode cX8_tried 12 = .ok (.iconst 0, 1) := by decide +kernel
theorem dX8_tried_13 : decode cX8_tried 13 = .ok (.istore_n 3, 1) := by decide +kernel
theorem dX8_tried_14 : decode cX8_tried 14 = .ok (.iload_n 3, 1) := by decide +kernel
theorem dX8_tried_15 : decode cX8_tried 15 = .ok (.aload_n 0, 1) := by decide +kernel
theorem dX8_tried_16 : decode cX8_tried 16 = .ok (.getfield 197, 3) := by decide +kernel
theorem dX8_tried_19 : decode cX8_tried 19 = .ok (.if_icmp .ge 106, 3) := by decide +kernel
theorem dX8_tried_22 : decode cX8_tried 22 = .ok (.aload_n 0, 1) := by decide +kernel
theorem dX8_tried_23 : decode cX8_tried 23 = .ok (.getfield 62, 3) := by decide +kernel
theorem dX8_tried_26 : decode cX8_tried 26 = .ok (.iload_n 3, 1) := by decide +kernel
theorem dX8_tried_27 : decode cX8_tried 27 = .ok (.iaload, 1) := by decide +kernel
theorem dX8_tried_28 : decode cX8_tried 28 = .ok (.istore 4, 2) := by decide +kernel
theorem dX8_tried_30 : decode cX8_tried 30 = .ok (.iload 4, 2) := by decide +kernel
theorem dX8_tried_32 : decode cX8_tried 32 = .ok (.aload_n 0, 1) := by decide +kernel
theorem dX8_tried_33 : decode cX8_tried 33 = .ok (.getfield 13, 3) := by decide +kernel
theorem dX8_tried_36 : decode cX8_tried 36 = .ok (.iload_n 1, 1) := by decide +kernel
theorem dX8_tried_37 : decode cX8_tried 37 = .ok (.iaload, 1) := by decide +kernel
theorem dX8_tried_38 : decode cX8_tried 38 = .ok (.if_icmp .lt 6, 3) := by decide +kernel
theorem dX8_tried_41 : decode cX8_tried 41 = .ok (.ldc 142, 2) := by decide +kernel
theorem dX8_tried_43 : decode cX8_tried 43 = .ok (.ireturn, 1) := by decide +kernel
theorem dX8_tried_44 : decode cX8_tried 44 = .ok (.aload_n 0, 1) := by decide +kernel
theorem dX8_tried_45 : decode cX8_tried 45 = .ok (.dup, 1) := by decide +kernel
theorem dX8_tried_46 : decode cX8_tried 46 = .ok (.getfield 237, 3) := by decide +kernel
theorem dX8_tried_49 : decode cX8_tried 49 = .ok (.aload_n 0, 1) := by decide +kernel
theorem dX8_tried_50 : decode cX8_tried 50 = .ok (.getfield 53, 3) := by decide +kernel
theorem dX8_tried_53 : decode cX8_tried 53 = .ok (.iload 4, 2) := by decide +kernel
theorem dX8_tried_55 : decode cX8_tried 55 = .ok (.iaload, 1) := by decide +kernel
theorem dX8_tried_56 : decode cX8_tried 56 = .ok (.iadd, 1) := by decide +kernel
theorem dX8_tried_57 : decode cX8_tried 57 = .ok (.putfield 237, 3) := by decide +kernel
theorem dX8_tried_60 : decode cX8_tried 60 = .ok (.aload_n 0, 1) := by decide +kernel
theorem dX8_tried_61 : decode cX8_tried 61 = .ok (.getfield 16, 3) := by decide +kernel
theorem dX8_tried_64 : decode cX8_tried 64 = .ok (.bipush 100, 2) := by decide +kernel
theorem dX8_tried_66 : decode cX8_tried 66 = .ok (.iload_n 1, 1) := by decide +kernel
theorem dX8_tried_67 : decode cX8_tried 67 = .ok (.imul, 1) := by decide +kernel
theorem dX8_tried_68 : decode cX8_tried 68 = .ok (.iload 4, 2) := by decide +kernel
theorem dX8_tried_70 : decode cX8_tried 70 = .ok (.iadd, 1) := by decide +kernel
theorem dX8_tried_71 : decode cX8_tried 71 = .ok (.iaload, 1) := by decide +kernel
theorem dX8_tried_72 : decode cX8_tried 72 = .ok (.i2l, 1) := by decide +kernel
theorem dX8_tried_73 : decode cX8_tried 73 = .ok (.aload_n 0, 1) := by decide +kernel
theorem dX8_tried_74 : decode cX8_tried 74 = .ok (.getfield 68, 3) := by decide +kernel
theorem dX8_tried_77 : decode cX8_tried 77 = .ok (.iload_n 2, 1) := by decide +kernel
theorem dX8_tried_78 : decode cX8_tried 78 = .ok (.iaload, 1) := by decide +kernel
theorem dX8_tried_79 : decode cX8_tried 79 = .ok (.i2l, 1) := by decide +kernel
theorem dX8_tried_80 : decode cX8_tried 80 = .ok (.ladd, 1) := by decide +kernel
theorem dX8_tried_81 : decode cX8_tried 81 = .ok (.lstore 5, 2) := by decide +kernel
theorem dX8_tried_83 : decode cX8_tried 83 = .ok (.lload 5, 2) := by decide +kernel
theorem dX8_tried_85 : decode cX8_tried 85 = .ok (.aload_n 0, 1) := by decide +kernel
theorem dX8_tried_86 : decode cX8_tried 86 = .ok (.getfield 47, 3) := by decide +kernel
theorem dX8_tried_89 : decode cX8_tried 89 = .ok (.iload 4, 2) := by decide +kernel
theorem dX8_tried_91 : decode cX8_tried 91 = .ok (.iaload, 1) := by decide +kernel
theorem dX8_tried_92 : decode cX8_tried 92 = .ok (.i2l, 1) := by decide +kernel
theorem dX8_tried_93 : decode cX8_tried 93 = .ok (.lcmp, 1) := by decide +kernel
theorem dX8_tried_94 : decode cX8_tried 94 = .ok (.ifCond .lt 17, 3) := by decide +kernel
theorem dX8_tried_97 : decode cX8_tried 97 = .ok (.lload 5, 2) := by decide +kernel
theorem dX8_tried_99 : decode cX8_tried 99 = .ok (.aload_n 0, 1) := by decide +kernel
theorem dX8_tried_100 : decode cX8_tried 100 = .ok (.getfield 50, 3) := by decide +kernel
theorem dX8_tried_103 : decode cX8_tried 103 = .ok (.iload 4, 2) := by decide +kernel
theorem dX8_tried_105 : decode cX8_tried 105 = .ok (.iaload, 1) := by decide +kernel
theorem dX8_tried_106 : decode cX8_tried 106 = .ok (.i2l, 1) := by decide +kernel
theorem dX8_tried_107 : decode cX8_tried 107 = .ok (.lcmp, 1) := by decide +kernel
theorem dX8_tried_108 : decode cX8_tried 108 = .ok (.ifCond .le 11, 3) := by decide +kernel
theorem dX8_tried_111 : decode cX8_tried 111 = .ok (.aload_n 0, 1) := by decide +kernel
theorem dX8_tried_112 : decode cX8_tried 112 = .ok (.getfield 56, 3) := by decide +kernel
theorem dX8_tried_115 : decode cX8_tried 115 = .ok (.iload 4, 2) := by decide +kernel
theorem dX8_tried_117 : decode cX8_tried 117 = .ok (.iaload, 1) := by decide +kernel
theorem dX8_tried_118 : decode cX8_tried 118 = .ok (.ireturn, 1) := by decide +kernel
theorem dX8_tried_119 : decode cX8_tried 119 = .ok (.iinc 3 1, 3) := by decide +kernel
theorem dX8_tried_122 : decode cX8_tried 122 = .ok (.goto (-108), 3) := by decide +kernel
theorem dX8_tried_125 : decode cX8_tried 125 = .ok (.iconst 0, 1) := by decide +kernel
theorem dX8_tried_126 : decode cX8_tried 126 = .ok (.ireturn, 1) := by decide +kernel
theorem dX8_chip_0 : decode cX8_chip 0 = .ok (.aload_n 0, 1) := by decide +kernel
theorem dX8_chip_1 : decode cX8_chip 1 = .ok (.iconst 0, 1) := by decide +kernel
theorem dX8_chip_2 : decode cX8_chip 2 = .ok (.putfield 107, 3) := by decide +kernel
theorem dX8_chip_5 : decode cX8_chip 5 = .ok (.iload_n 1, 1) := by decide +kernel
theorem dX8_chip_6 : decode cX8_chip 6 = .ok (.invokestatic 120, 3) := by decide +kernel
theorem dX8_chip_9 : decode cX8_chip 9 = .ok (.ifCond .eq 10, 3) := by decide +kernel
theorem dX8_chip_12 : decode cX8_chip 12 = .ok (.iload_n 2, 1) := by decide +kernel
theorem dX8_chip_13 : decode cX8_chip 13 = .ok (.invokestatic 224, 3) := by decide +kernel
theorem dX8_chip_16 : decode cX8_chip 16 = .ok (.ifCond .ne 6, 3) := by decide +kernel
theorem dX8_chip_19 : decode cX8_chip 19 = .ok (.ldc 126, 2) := by decide +kernel
theorem dX8_chip_21 : decode cX8_chip 21 = .ok (.ireturn, 1) := by decide +kernel
theorem dX8_chip_22 : decode cX8_chip 22 = .ok (.aload_n 0, 1) := by decide +kernel
theorem dX8_chip_23 : decode cX8_chip 23 = .ok (.getfield 197, 3) := by decide +kernel
theorem dX8_chip_26 : decode cX8_chip 26 = .ok (.ifCond .ne 6, 3) := by decide +kernel
theorem dX8_chip_29 : decode cX8_chip 29 = .ok (.ldc 196, 2) := by decide +kernel
theorem dX8_chip_31 : decode cX8_chip 31 = .ok (.ireturn, 1) := by decide +kernel
theorem dX8_chip_32 : decode cX8_chip 32 = .ok (.aload_n 0, 1) := by decide +kernel
theorem dX8_chip_33 : decode cX8_chip 33 = .ok (.getfield 240, 3) := by decide +kernel
theorem dX8_chip_36 : decode cX8_chip 36 = .ok (.sipush 200, 3) := by decide +kernel
theorem dX8_chip_39 : decode cX8_chip 39 = .ok (.if_icmp .ne 6, 3) := by decide +kernel
theorem dX8_chip_42 : decode cX8_chip 42 = .ok (.ldc 136, 2) := by decide +kernel
theorem dX8_chip_44 : decode cX8_chip 44 = .ok (.ireturn, 1) := by decide +kernel
theorem dX8_chip_45 : decode cX8_chip 45 = .ok (.aload_n 0, 1) := by decide +kernel
theorem dX8_chip_46 : decode cX8_chip 46 = .ok (.getfield 7, 3) := by decide +kernel
theorem dX8_chip_49 : decode cX8_chip 49 = .ok (.iload_n 1, 1) := by decide +kernel
theorem dX8_chip_50 : decode cX8_chip 50 = .ok (.iaload, 1) := by decide +kernel
theorem dX8_chip_51 : decode cX8_chip 51 = .ok (.ifCond .ge 9, 3) := by decide +kernel
theorem dX8_chip_54 : decode cX8_chip 54 = .ok (.aload_n 0, 1) := by decide +kernel
theorem dX8_chip_55 : decode cX8_chip 55 = .ok (.iconst 1, 1) := by decide +kernel
theorem dX8_chip_56 : decode cX8_chip 56 = .ok (.invokevirtual 127, 3) := by decide +kernel
theorem dX8_chip_59 : decode cX8_chip 59 = .ok (.ireturn, 1) := by decide +kernel
theorem dX8_chip_60 : decode cX8_chip 60 = .ok (.aload_n 0, 1) := by decide +kernel
theorem dX8_chip_61 : decode cX8_chip 61 = .ok (.iconst 0, 1) := by decide +kernel
theorem dX8_chip_62 : decode cX8_chip 62 = .ok (.putfield 237, 3) := by decide +kernel
theorem dX8_chip_65 : decode cX8_chip 65 = .ok (.iload_n 2, 1) := by decide +kernel
theorem dX8_chip_66 : decode cX8_chip 66 = .ok (.istore_n 3, 1) := by decide +kernel
theorem dX8_chip_67 : decode cX8_chip 67 = .ok (.iconst 1, 1) := by decide +kernel
theorem dX8_chip_68 : decode cX8_chip 68 = .ok (.istore 4, 2) := by decide +kernel
theorem dX8_chip_70 : decode cX8_chip 70 = .ok (.aload_n 0, 1) := by decide +kernel
theorem dX8_chip_71 : decode cX8_chip 71 = .ok (.iload_n 1, 1) := by decide +kernel
theorem dX8_chip_72 : decode cX8_chip 72 = .ok (.iload_n 3, 1) := by decide +kernel
theorem dX8_chip_73 : decode cX8_chip 73 = .ok (.invokevirtual 243, 3) := by decide +kernel
theorem dX8_chip_76 : decode cX8_chip 76 = .ok (.istore 5, 2) := by decide +kernel
theorem dX8_chip_78 : decode cX8_chip 78 = .ok (.iload 5, 2) := by decide +kernel
theorem dX8_chip_80 : decode cX8_chip 80 = .ok (.istore 6, 2) := by decide +kernel
theorem dX8_chip_82 : decode cX8_chip 82 = .ok (.iload 5, 2) := by decide +kernel
theorem dX8_chip_84 : decode cX8_chip 84 = .ok (.ldc 142, 2) := by decide +kernel
theorem dX8_chip_86 : decode cX8_chip 86 = .ok (.if_icmp .eq 46, 3) := by decide +kernel
theorem dX8_chip_89 : decode cX8_chip 89 = .ok (.aload_n 0, 1) := by decide +kernel
theorem dX8_chip_90 : decode cX8_chip 90 = .ok (.getfield 234, 3) := by decide +kernel
theorem dX8_chip_93 : decode cX8_chip 93 = .ok (.iload 5, 2) := by decide +kernel
theorem dX8_chip_95 : decode cX8_chip 95 = .ok (.ishr, 1) := by decide +kernel
theorem dX8_chip_96 : decode cX8_chip 96 = .ok (.iconst 1, 1) := by decide +kernel
theorem dX8_chip_97 : decode cX8_chip 97 = .ok (.iand, 1) := by decide +kernel
theorem dX8_chip_98 : decode cX8_chip 98 = .ok (.iconst 1, 1) := by decide +kernel
theorem dX8_chip_99 : decode cX8_chip 99 = .ok (.if_icmp .ne 33, 3) := by decide +kernel
theorem dX8_chip_102 : decode cX8_chip 102 = .ok (.iload 4, 2) := by decide +kernel
theorem dX8_chip_104 : decode cX8_chip 104 = .ok (.aload_n 0, 1) := by decide +kernel
theorem dX8_chip_105 : decode cX8_chip 105 = .ok (.getfield 75, 3) := by decide +kernel
theorem dX8_chip_108 : decode cX8_chip 108 = .ok (.if_icmp .ge 24, 3) := by decide +kernel
theorem dX8_chip_111 : decode cX8_chip 111 = .ok (.iload_n 3, 1) := by decide +kernel
theorem dX8_chip_112 : decode cX8_chip 112 = .ok (.iconst 1, 1) := by decide +kernel
theorem dX8_chip_113 : decode cX8_chip 113 = .ok (.iadd, 1) := by decide +kernel
theorem dX8_chip_114 : decode cX8_chip 114 = .ok (.bipush 8, 2) := by decide +kernel
theorem dX8_chip_116 : decode cX8_chip 116 = .ok (.irem, 1) := by decide +kernel
theorem dX8_chip_117 : decode cX8_chip 117 = .ok (.istore_n 3, 1) := by decide +kernel
theorem dX8_chip_118 : decode cX8_chip 118 = .ok (.aload_n 0, 1) := by decide +kernel
theorem dX8_chip_119 : decode cX8_chip 119 = .ok (.iload_n 1, 1) := by decide +kernel
theorem dX8_chip_120 : decode cX8_chip 120 = .ok (.iload_n 3, 1) := by decide +kernel
theorem dX8_chip_121 : decode cX8_chip 121 = .ok (.invokevirtual 243, 3) := by decide +kernel
theorem dX8_chip_124 : decode cX8_chip 124 = .ok (.istore 5, 2) := by decide +kernel
theorem dX8_chip_126 : decode cX8_chip 126 = .ok (.iinc 4 1, 3) := by decide +kernel
theorem dX8_chip_129 : decode cX8_chip 129 = .ok (.goto (-47), 3) := by decide +kernel
theorem dX8_chip_132 : decode cX8_chip 132 = .ok (.iload 5, 2) := by decide +kernel
theorem dX8_chip_134 : decode cX8_chip 134 = .ok (.ldc 142, 2) := by decide +kernel
theorem dX8_chip_136 : decode cX8_chip 136 = .ok (.if_icmp .ne 9, 3) := by decide +kernel
theorem dX8_chip_139 : decode cX8_chip 139 = .ok (.aload_n 0, 1) := by decide +kernel
theorem dX8_chip_140 : decode cX8_chip 140 = .ok (.iconst 2, 1) := by decide +kernel
theorem dX8_chip_141 : decode cX8_chip 141 = .ok (.invokevirtual 127, 3) := by decide +kernel
theorem dX8_chip_144 : decode cX8_chip 144 = .ok (.ireturn, 1) := by decide +kernel
theorem dX8_chip_145 : decode cX8_chip 145 = .ok (.aload_n 0, 1) := by decide +kernel
theorem dX8_chip_146 : decode cX8_chip 146 = .ok (.iconst 0, 1) := by decide +kernel
theorem dX8_chip_147 : decode cX8_chip 147 = .ok (.putfield 110, 3) := by decide +kernel
theorem dX8_chip_150 : decode cX8_chip 150 = .ok (.aload_n 0, 1) := by decide +kernel
theorem dX8_chip_151 : decode cX8_chip 151 = .ok (.getfield 79, 3) := by decide +kernel
theorem dX8_chip_154 : decode cX8_chip 154 = .ok (.aload_n 0, 1) := by decide +kernel
theorem dX8_chip_155 : decode cX8_chip 155 = .ok (.getfield 240, 3) := by decide +kernel
theorem dX8_chip_158 : decode cX8_chip 158 = .ok (.iload 5, 2) := by decide +kernel
theorem dX8_chip_160 : decode cX8_chip 160 = .ok (.iastore, 1) := by decide +kernel
theorem dX8_chip_161 : decode cX8_chip 161 = .ok (.aload_n 0, 1) := by decide +kernel
theorem dX8_chip_162 : decode cX8_chip 162 = .ok (.getfield 82, 3) := by decide +kernel
theorem dX8_chip_165 : decode cX8_chip 165 = .ok (.aload_n 0, 1) := by decide +kernel
theorem dX8_chip_166 : decode cX8_chip 166 = .ok (.getfield 240, 3) := by decide +kernel
theorem dX8_chip_169 : decode cX8_chip 169 = .ok (.iload 4, 2) := by decide +kernel
theorem dX8_chip_171 : decode cX8_chip 171 = .ok (.iastore, 1) := by decide +kernel
theorem dX8_chip_172 : decode cX8_chip 172 = .ok (.aload_n 0, 1) := by decide +kernel
theorem dX8_chip_173 : decode cX8_chip 173 = .ok (.getfield 85, 3) := by decide +kernel
theorem dX8_chip_176 : decode cX8_chip 176 = .ok (.aload_n 0, 1) := by decide +kernel
theorem dX8_chip_177 : decode cX8_chip 177 = .ok (.getfield 240, 3) := by decide +kernel
theorem dX8_chip_180 : decode cX8_chip 180 = .ok (.aload_n 0, 1) := by decide +kernel
theorem dX8_chip_181 : decode cX8_chip 181 = .ok (.getfield 237, 3) := by decide +kernel
theorem dX8_chip_184 : decode cX8_chip 184 = .ok (.iastore, 1) := by decide +kernel
theorem dX8_chip_185 : decode cX8_chip 185 = .ok (.aload_n 0, 1) := by decide +kernel
theorem dX8_chip_186 : decode cX8_chip 186 = .ok (.getfield 88, 3) := by decide +kernel
theorem dX8_chip_189 : decode cX8_chip 189 = .ok (.aload_n 0, 1) := by decide +kernel
theorem dX8_chip_190 : decode cX8_chip 190 = .ok (.getfield 240, 3) := by decide +kernel
theorem dX8_chip_193 : decode cX8_chip 193 = .ok (.iload_n 3, 1) := by decide +kernel
theorem dX8_chip_194 : decode cX8_chip 194 = .ok (.iastore, 1) := by decide +kernel
theorem dX8_chip_195 : decode cX8_chip 195 = .ok (.aload_n 0, 1) := by decide +kernel
theorem dX8_chip_196 : decode cX8_chip 196 = .ok (.getfield 91, 3) := by decide +kernel
theorem dX8_chip_199 : decode cX8_chip 199 = .ok (.aload_n 0, 1) := by decide +kernel
theorem dX8_chip_200 : decode cX8_chip 200 = .ok (.getfield 240, 3) := by decide +kernel
theorem dX8_chip_203 : decode cX8_chip 203 = .ok (.iload_n 2, 1) := by decide +kernel
theorem dX8_chip_204 : decode cX8_chip 204 = .ok (.iastore, 1) := by decide +kernel
theorem dX8_chip_205 : decode cX8_chip 205 = .ok (.aload_n 0, 1) := by decide +kernel
theorem dX8_chip_206 : decode cX8_chip 206 = .ok (.getfield 94, 3) := by decide +kernel
theorem dX8_chip_209 : decode cX8_chip 209 = .ok (.aload_n 0, 1) := by decide +kernel
theorem dX8_chip_210 : decode cX8_chip 210 = .ok (.getfield 240, 3) := by decide +kernel
theorem dX8_chip_213 : decode cX8_chip 213 = .ok (.iload 6, 2) := by decide +kernel
theorem dX8_chip_215 : decode cX8_chip 215 = .ok (.iastore, 1) := by decide +kernel
theorem dX8_chip_216 : decode cX8_chip 216 = .ok (.aload_n 0, 1) := by decide +kernel
theorem dX8_chip_217 : decode cX8_chip 217 = .ok (.dup, 1) := by decide +kernel
theorem dX8_chip_218 : decode cX8_chip 218 = .ok (.getfield 240, 3) := by decide +kernel
theorem dX8_chip_221 : decode cX8_chip 221 = .ok (.iconst 1, 1) := by decide +kernel
theorem dX8_chip_222 : decode cX8_chip 222 = .ok (.iadd, 1) := by decide +kernel
theorem dX8_chip_223 : decode cX8_chip 223 = .ok (.putfield 240, 3) := by decide +kernel
theorem dX8_chip_226 : decode cX8_chip 226 = .ok (.aload_n 0, 1) := by decide +kernel
theorem dX8_chip_227 : decode cX8_chip 227 = .ok (.getfield 240, 3) := by decide +kernel
theorem dX8_chip_230 : decode cX8_chip 230 = .ok (.iconst 1, 1) := by decide +kernel
theorem dX8_chip_231 : decode cX8_chip 231 = .ok (.isub, 1) := by decide +kernel
theorem dX8_chip_232 : decode cX8_chip 232 = .ok (.ireturn, 1) := by decide +kernel
theorem dX8_told_0 : decode cX8_told 0 = .ok (.aload_n 0, 1) := by decide +kernel
theorem dX8_told_1 : decode cX8_told 1 = .ok (.iconst 0, 1) := by decide +kernel
theorem dX8_told_2 : decode cX8_told 2 = .ok (.putfield 107, 3) := by decide +kernel
theorem dX8_told_5 : decode cX8_told 5 = .ok (.iload_n 1, 1) := by decide +kernel
theorem dX8_told_6 : decode cX8_told 6 = .ok (.i2l, 1) := by decide +kernel
theorem dX8_told_7 : decode cX8_told 7 = .ok (.lconst 0, 1) := by decide +kernel
theorem dX8_told_8 : decode cX8_told 8 = .ok (.aload_n 0, 1) := by decide +kernel
theorem dX8_told_9 : decode cX8_told 9 = .ok (.getfield 240, 3) := by decide +kernel
theorem dX8_told_12 : decode cX8_told 12 = .ok (.iconst 1, 1) := by decide +kernel
theorem dX8_told_13 : decode cX8_told 13 = .ok (.isub, 1) := by decide +kernel
theorem dX8_told_14 : decode cX8_told 14 = .ok (.i2l, 1) := by decide +kernel
theorem dX8_told_15 : decode cX8_told 15 = .ok (.invokestatic 116, 3) := by decide +kernel
theorem dX8_told_18 : decode cX8_told 18 = .ok (.ifCond .eq 15, 3) := by decide +kernel
theorem dX8_told_21 : decode cX8_told 21 = .ok (.iload_n 2, 1) := by decide +kernel
theorem dX8_told_22 : decode cX8_told 22 = .ok (.i2l, 1) := by decide +kernel
theorem dX8_told_23 : decode cX8_told 23 = .ok (.lconst 0, 1) := by decide +kernel
theorem dX8_told_24 : decode cX8_told 24 = .ok (.ldc2_w 247, 3) := by decide +kernel
theorem dX8_told_27 : decode cX8_told 27 = .ok (.invokestatic 116, 3) := by decide +kernel
theorem dX8_told_30 : decode cX8_told 30 = .ok (.ifCond .ne 6, 3) := by decide +kernel
theorem dX8_told_33 : decode cX8_told 33 = .ok (.ldc 126, 2) := by decide +kernel
theorem dX8_told_35 : decode cX8_told 35 = .ok (.ireturn, 1) := by decide +kernel
theorem dX8_told_36 : decode cX8_told 36 = .ok (.iload_n 2, 1) := by decide +kernel
theorem dX8_told_37 : decode cX8_told 37 = .ok (.ifCond .ne 12, 3) := by decide +kernel
theorem dX8_told_40 : decode cX8_told 40 = .ok (.aload_n 0, 1) := by decide +kernel
theorem dX8_told_41 : decode cX8_told 41 = .ok (.getfield 79, 3) := by decide +kernel
theorem dX8_told_44 : decode cX8_told 44 = .ok (.iload_n 1, 1) := by decide +kernel
theorem dX8_told_45 : decode cX8_told 45 = .ok (.iaload, 1) := by decide +kernel
theorem dX8_told_46 : decode cX8_told 46 = .ok (.goto 65, 3) := by decide +kernel
theorem dX8_told_49 : decode cX8_told 49 = .ok (.iload_n 2, 1) := by decide +kernel
theorem dX8_told_50 : decode cX8_told 50 = .ok (.iconst 1, 1) := by decide +kernel
theorem dX8_told_51 : decode cX8_told 51 = .ok (.if_icmp .ne 12, 3) := by decide +kernel
theorem dX8_told_54 : decode cX8_told 54 = .ok (.aload_n 0, 1) := by decide +kernel
theorem dX8_told_55 : decode cX8_told 55 = .ok (.getfield 82, 3) := by decide +kernel
theorem dX8_told_58 : decode cX8_told 58 = .ok (.iload_n 1, 1) := by decide +kernel
theorem dX8_told_59 : decode cX8_told 59 = .ok (.iaload, 1) := by decide +kernel
theorem dX8_told_60 : decode cX8_told 60 = .ok (.goto 51, 3) := by decide +kernel
theorem dX8_told_63 : decode cX8_told 63 = .ok (.iload_n 2, 1) := by decide +kernel
theorem dX8_told_64 : decode cX8_told 64 = .ok (.iconst 2, 1) := by decide +kernel
theorem dX8_told_65 : decode cX8_told 65 = .ok (.if_icmp .ne 12, 3) := by decide +kernel
theorem dX8_told_68 : decode cX8_told 68 = .ok (.aload_n 0, 1) := by decide +kernel
theorem dX8_told_69 : decode cX8_told 69 = .ok (.getfield 85, 3) := by decide +kernel
theorem dX8_told_72 : decode cX8_told 72 = .ok (.iload_n 1, 1) := by decide +kernel
theorem dX8_told_73 : decode cX8_told 73 = .ok (.iaload, 1) := by decide +kernel
theorem dX8_told_74 : decode cX8_told 74 = .ok (.goto 37, 3) := by decide +kernel
theorem dX8_told_77 : decode cX8_told 77 = .ok (.iload_n 2, 1) := by decide +kernel
theorem dX8_told_78 : decode cX8_told 78 = .ok (.iconst 3, 1) := by decide +kernel
theorem dX8_told_79 : decode cX8_told 79 = .ok (.if_icmp .ne 12, 3) := by decide +kernel
theorem dX8_told_82 : decode cX8_told 82 = .ok (.aload_n 0, 1) := by decide +kernel
theorem dX8_told_83 : decode cX8_told 83 = .ok (.getfield 88, 3) := by decide +kernel
theorem dX8_told_86 : decode cX8_told 86 = .ok (.iload_n 1, 1) := by decide +kernel
theorem dX8_told_87 : decode cX8_told 87 = .ok (.iaload, 1) := by decide +kernel
theorem dX8_told_88 : decode cX8_told 88 = .ok (.goto 23, 3) := by decide +kernel
theorem dX8_told_91 : decode cX8_told 91 = .ok (.iload_n 2, 1) := by decide +kernel
theorem dX8_told_92 : decode cX8_told 92 = .ok (.iconst 4, 1) := by decide +kernel
theorem dX8_told_93 : decode cX8_told 93 = .ok (.if_icmp .ne 12, 3) := by decide +kernel
theorem dX8_told_96 : decode cX8_told 96 = .ok (.aload_n 0, 1) := by decide +kernel
theorem dX8_told_97 : decode cX8_told 97 = .ok (.getfield 91, 3) := by decide +kernel
theorem dX8_told_100 : decode cX8_told 100 = .ok (.iload_n 1, 1) := by decide +kernel
theorem dX8_told_101 : decode cX8_told 101 = .ok (.iaload, 1) := by decide +kernel
theorem dX8_told_102 : decode cX8_told 102 = .ok (.goto 9, 3) := by decide +kernel
theorem dX8_told_105 : decode cX8_told 105 = .ok (.aload_n 0, 1) := by decide +kernel
theorem dX8_told_106 : decode cX8_told 106 = .ok (.getfield 94, 3) := by decide +kernel
theorem dX8_told_109 : decode cX8_told 109 = .ok (.iload_n 1, 1) := by decide +kernel
theorem dX8_told_110 : decode cX8_told 110 = .ok (.iaload, 1) := by decide +kernel
theorem dX8_told_111 : decode cX8_told 111 = .ok (.ireturn, 1) := by decide +kernel
theorem dX8_share_0 : decode cX8_share 0 = .ok (.aload_n 0, 1) := by decide +kernel
theorem dX8_share_1 : decode cX8_share 1 = .ok (.iconst 0, 1) := by decide +kernel
theorem dX8_share_2 : decode cX8_share 2 = .ok (.putfield 107, 3) := by decide +kernel
theorem dX8_share_5 : decode cX8_share 5 = .ok (.aload_n 0, 1) := by decide +kernel
theorem dX8_share_6 : decode cX8_share 6 = .ok (.iload_n 1, 1) := by decide +kernel
theorem dX8_share_7 : decode cX8_share 7 = .ok (.invokevirtual 204, 3) := by decide +kernel
theorem dX8_share_10 : decode cX8_share 10 = .ok (.ifCond .eq 15, 3) := by decide +kernel
theorem dX8_share_13 : decode cX8_share 13 = .ok (.iload_n 2, 1) := by decide +kernel
theorem dX8_share_14 : decode cX8_share 14 = .ok (.i2l, 1) := by decide +kernel
theorem dX8_share_15 : decode cX8_share 15 = .ok (.lconst 0, 1) := by decide +kernel
theorem dX8_share_16 : decode cX8_share 16 = .ok (.ldc2_w 249, 3) := by decide +kernel
theorem dX8_share_19 : decode cX8_share 19 = .ok (.invokestatic 116, 3) := by decide +kernel
theorem dX8_share_22 : decode cX8_share 22 = .ok (.ifCond .ne 6, 3) := by decide +kernel
theorem dX8_share_25 : decode cX8_share 25 = .ok (.ldc 126, 2) := by decide +kernel
theorem dX8_share_27 : decode cX8_share 27 = .ok (.ireturn, 1) := by decide +kernel
theorem dX8_share_28 : decode cX8_share 28 = .ok (.aload_n 0, 1) := by decide +kernel
theorem dX8_share_29 : decode cX8_share 29 = .ok (.getfield 59, 3) := by decide +kernel
theorem dX8_share_32 : decode cX8_share 32 = .ok (.iload_n 1, 1) := by decide +kernel
theorem dX8_share_33 : decode cX8_share 33 = .ok (.iaload, 1) := by decide +kernel
theorem dX8_share_34 : decode cX8_share 34 = .ok (.istore_n 3, 1) := by decide +kernel
theorem dX8_share_35 : decode cX8_share 35 = .ok (.aload_n 0, 1) := by decide +kernel
theorem dX8_share_36 : decode cX8_share 36 = .ok (.getfield 59, 3) := by decide +kernel
theorem dX8_share_39 : decode cX8_share 39 = .ok (.iload_n 1, 1) := by decide +kernel
theorem dX8_share_40 : decode cX8_share 40 = .ok (.iload_n 2, 1) := by decide +kernel
theorem dX8_share_41 : decode cX8_share 41 = .ok (.iastore, 1) := by decide +kernel
theorem dX8_share_42 : decode cX8_share 42 = .ok (.iload_n 3, 1) := by decide +kernel
theorem dX8_share_43 : decode cX8_share 43 = .ok (.ireturn, 1) := by decide +kernel
theorem dX8_meanFrom_0 : decode cX8_meanFrom 0 = .ok (.lconst 0, 1) := by decide +kernel
theorem dX8_meanFrom_1 : decode cX8_meanFrom 1 = .ok (.lstore_n 2, 1) := by decide +kernel
theorem dX8_meanFrom_2 : decode cX8_meanFrom 2 = .ok (.lconst 1, 1) := by decide +kernel
theorem dX8_meanFrom_3 : decode cX8_meanFrom 3 = .ok (.lstore 4, 2) := by decide +kernel
theorem dX8_meanFrom_5 : decode cX8_meanFrom 5 = .ok (.aload_n 0, 1) := by decide +kernel
theorem dX8_meanFrom_6 : decode cX8_meanFrom 6 = .ok (.getfield 197, 3) := by decide +kernel
theorem dX8_meanFrom_9 : decode cX8_meanFrom 9 = .ok (.iconst 1, 1) := by decide +kernel
theorem dX8_meanFrom_10 : decode cX8_meanFrom 10 = .ok (.isub, 1) := by decide +kernel
theorem dX8_meanFrom_11 : decode cX8_meanFrom 11 = .ok (.istore 6, 2) := by decide +kernel
theorem dX8_meanFrom_13 : decode cX8_meanFrom 13 = .ok (.iload 6, 2) := by decide +kernel
theorem dX8_meanFrom_15 : decode cX8_meanFrom 15 = .ok (.iload_n 1, 1) := by decide +kernel
theorem dX8_meanFrom_16 : decode cX8_meanFrom 16 = .ok (.if_icmp .lt 53, 3) := by decide +kernel
theorem dX8_meanFrom_19 : decode cX8_meanFrom 19 = .ok (.lload 4, 2) := by decide +kernel
theorem dX8_meanFrom_21 : decode cX8_meanFrom 21 = .ok (.ldc2_w 249, 3) := by decide +kernel
theorem dX8_meanFrom_24 : decode cX8_meanFrom 24 = .ok (.lmul, 1) := by decide +kernel
theorem dX8_meanFrom_25 : decode cX8_meanFrom 25 = .ok (.lstore 4, 2) := by decide +kernel
theorem dX8_meanFrom_27 : decode cX8_meanFrom 27 = .ok (.aload_n 0, 1) := by decide +kernel
theorem dX8_meanFrom_28 : decode cX8_meanFrom 28 = .ok (.getfield 53, 3) := by decide +kernel
theorem dX8_meanFrom_31 : decode cX8_meanFrom 31 = .ok (.aload_n 0, 1) := by decide +kernel
theorem dX8_meanFrom_32 : decode cX8_meanFrom 32 = .ok (.getfield 62, 3) := by decide +kernel
theorem dX8_meanFrom_35 : decode cX8_meanFrom 35 = .ok (.iload 6, 2) := by decide +kernel
theorem dX8_meanFrom_37 : decode cX8_meanFrom 37 = .ok (.iaload, 1) := by decide +kernel
theorem dX8_meanFrom_38 : decode cX8_meanFrom 38 = .ok (.iaload, 1) := by decide +kernel
theorem dX8_meanFrom_39 : decode cX8_meanFrom 39 = .ok (.i2l, 1) := by decide +kernel
theorem dX8_meanFrom_40 : decode cX8_meanFrom 40 = .ok (.lload 4, 2) := by decide +kernel
theorem dX8_meanFrom_42 : decode cX8_meanFrom 42 = .ok (.lmul, 1) := by decide +kernel
theorem dX8_meanFrom_43 : decode cX8_meanFrom 43 = .ok (.bipush 10, 2) := by decide +kernel
theorem dX8_meanFrom_45 : decode cX8_meanFrom 45 = .ok (.aload_n 0, 1) := by decide +kernel
theorem dX8_meanFrom_46 : decode cX8_meanFrom 46 = .ok (.getfield 59, 3) := by decide +kernel
theorem dX8_meanFrom_49 : decode cX8_meanFrom 49 = .ok (.aload_n 0, 1) := by decide +kernel
theorem dX8_meanFrom_50 : decode cX8_meanFrom 50 = .ok (.getfield 62, 3) := by decide +kernel
theorem dX8_meanFrom_53 : decode cX8_meanFrom 53 = .ok (.iload 6, 2) := by decide +kernel
theorem dX8_meanFrom_55 : decode cX8_meanFrom 55 = .ok (.iaload, 1) := by decide +kernel
theorem dX8_meanFrom_56 : decode cX8_meanFrom 56 = .ok (.iaload, 1) := by decide +kernel
theorem dX8_meanFrom_57 : decode cX8_meanFrom 57 = .ok (.isub, 1) := by decide +kernel
theorem dX8_meanFrom_58 : decode cX8_meanFrom 58 = .ok (.i2l, 1) := by decide +kernel
theorem dX8_meanFrom_59 : decode cX8_meanFrom 59 = .ok (.lload_n 2, 1) := by decide +kernel
theorem dX8_meanFrom_60 : decode cX8_meanFrom 60 = .ok (.lmul, 1) := by decide +kernel
theorem dX8_meanFrom_61 : decode cX8_meanFrom 61 = .ok (.ladd, 1) := by decide +kernel
theorem dX8_meanFrom_62 : decode cX8_meanFrom 62 = .ok (.lstore_n 2, 1) := by decide +kernel
theorem dX8_meanFrom_63 : decode cX8_meanFrom 63 = .ok (.iinc 6 (-1), 3) := by decide +kernel
theorem dX8_meanFrom_66 : decode cX8_meanFrom 66 = .ok (.goto (-53), 3) := by decide +kernel
theorem dX8_meanFrom_69 : decode cX8_meanFrom 69 = .ok (.lload_n 2, 1) := by decide +kernel
theorem dX8_meanFrom_70 : decode cX8_meanFrom 70 = .ok (.lreturn, 1) := by decide +kernel
theorem dX8_mean_0 : decode cX8_mean 0 = .ok (.aload_n 0, 1) := by decide +kernel
theorem dX8_mean_1 : decode cX8_mean 1 = .ok (.iconst 0, 1) := by decide +kernel
theorem dX8_mean_2 : decode cX8_mean 2 = .ok (.putfield 107, 3) := by decide +kernel
theorem dX8_mean_5 : decode cX8_mean 5 = .ok (.aload_n 0, 1) := by decide +kernel
theorem dX8_mean_6 : decode cX8_mean 6 = .ok (.iconst 0, 1) := by decide +kernel
theorem dX8_mean_7 : decode cX8_mean 7 = .ok (.invokevirtual 251, 3) := by decide +kernel
theorem dX8_mean_10 : decode cX8_mean 10 = .ok (.lreturn, 1) := by decide +kernel
theorem dX8_tens_0 : decode cX8_tens 0 = .ok (.lconst 1, 1) := by decide +kernel
theorem dX8_tens_1 : decode cX8_tens 1 = .ok (.lstore_n 1, 1) := by decide +kernel
theorem dX8_tens_2 : decode cX8_tens 2 = .ok (.iconst 0, 1) := by decide +kernel
theorem dX8_tens_3 : decode cX8_tens 3 = .ok (.istore_n 3, 1) := by decide +kernel
theorem dX8_tens_4 : decode cX8_tens 4 = .ok (.iload_n 3, 1) := by decide +kernel
theorem dX8_tens_5 : decode cX8_tens 5 = .ok (.bipush 10, 2) := by decide +kernel
theorem dX8_tens_7 : decode cX8_tens 7 = .ok (.if_icmp .ge 28, 3) := by decide +kernel
theorem dX8_tens_10 : decode cX8_tens 10 = .ok (.lload_n 1, 1) := by decide +kernel
theorem dX8_tens_11 : decode cX8_tens 11 = .ok (.iload_n 0, 1) := by decide +kernel
theorem dX8_tens_12 : decode cX8_tens 12 = .ok (.iload_n 3, 1) := by decide +kernel
theorem dX8_tens_13 : decode cX8_tens 13 = .ok (.ishr, 1) := by decide +kernel
theorem dX8_tens_14 : decode cX8_tens 14 = .ok (.iconst 1, 1) := by decide +kernel
theorem dX8_tens_15 : decode cX8_tens 15 = .ok (.iand, 1) := by decide +kernel
theorem dX8_tens_16 : decode cX8_tens 16 = .ok (.iconst 1, 1) := by decide +kernel
theorem dX8_tens_17 : decode cX8_tens 17 = .ok (.if_icmp .ne 9, 3) := by decide +kernel
theorem dX8_tens_20 : decode cX8_tens 20 = .ok (.ldc2_w 249, 3) := by decide +kernel
theorem dX8_tens_23 : decode cX8_tens 23 = .ok (.goto 4, 3) := by decide +kernel
theorem dX8_tens_26 : decode cX8_tens 26 = .ok (.lconst 1, 1) := by decide +kernel
theorem dX8_tens_27 : decode cX8_tens 27 = .ok (.lmul, 1) := by decide +kernel
theorem dX8_tens_28 : decode cX8_tens 28 = .ok (.lstore_n 1, 1) := by decide +kernel
theorem dX8_tens_29 : decode cX8_tens 29 = .ok (.iinc 3 1, 3) := by decide +kernel
theorem dX8_tens_32 : decode cX8_tens 32 = .ok (.goto (-28), 3) := by decide +kernel
theorem dX8_tens_35 : decode cX8_tens 35 = .ok (.lload_n 1, 1) := by decide +kernel
theorem dX8_tens_36 : decode cX8_tens 36 = .ok (.lreturn, 1) := by decide +kernel
theorem dX8_withFirst_0 : decode cX8_withFirst 0 = .ok (.aload_n 0, 1) := by decide +kernel
theorem dX8_withFirst_1 : decode cX8_withFirst 1 = .ok (.getfield 53, 3) := by decide +kernel
theorem dX8_withFirst_4 : decode cX8_withFirst 4 = .ok (.iload_n 2, 1) := by decide +kernel
theorem dX8_withFirst_5 : decode cX8_withFirst 5 = .ok (.iaload, 1) := by decide +kernel
theorem dX8_withFirst_6 : decode cX8_withFirst 6 = .ok (.i2l, 1) := by decide +kernel
theorem dX8_withFirst_7 : decode cX8_withFirst 7 = .ok (.iload_n 1, 1) := by decide +kernel
theorem dX8_withFirst_8 : decode cX8_withFirst 8 = .ok (.invokestatic 255, 3) := by decide +kernel
theorem dX8_withFirst_11 : decode cX8_withFirst 11 = .ok (.lmul, 1) := by decide +kernel
theorem dX8_withFirst_12 : decode cX8_withFirst 12 = .ok (.bipush 10, 2) := by decide +kernel
theorem dX8_withFirst_14 : decode cX8_withFirst 14 = .ok (.aload_n 0, 1) := by decide +kernel
theorem dX8_withFirst_15 : decode cX8_withFirst 15 = .ok (.getfield 59, 3) := by decide +kernel
theorem dX8_withFirst_18 : decode cX8_withFirst 18 = .ok (.iload_n 2, 1) := by decide +kernel
theorem dX8_withFirst_19 : decode cX8_withFirst 19 = .ok (.iaload, 1) := by decide +kernel
theorem dX8_withFirst_20 : decode cX8_withFirst 20 = .ok (.isub, 1) := by decide +kernel
theorem dX8_withFirst_21 : decode cX8_withFirst 21 = .ok (.i2l, 1) := by decide +kernel
theorem dX8_withFirst_22 : decode cX8_withFirst 22 = .ok (.aload_n 0, 1) := by decide +kernel
theorem dX8_withFirst_23 : decode cX8_withFirst 23 = .ok (.getfield 97, 3) := by decide +kernel
theorem dX8_withFirst_26 : decode cX8_withFirst 26 = .ok (.iload_n 1, 1) := by decide +kernel
theorem dX8_withFirst_27 : decode cX8_withFirst 27 = .ok (.iconst 1, 1) := by decide +kernel
theorem dX8_withFirst_28 : decode cX8_withFirst 28 = .ok (.iload_n 2, 1) := by decide +kernel
theorem dX8_withFirst_29 : decode cX8_withFirst 29 = .ok (.ishl, 1) := by decide +kernel
theorem dX8_withFirst_30 : decode cX8_withFirst 30 = .ok (.iconst (-1), 1) := by decide +kernel
theorem dX8_withFirst_31 : decode cX8_withFirst 31 = .ok (.ixor, 1) := by decide +kernel
theorem dX8_withFirst_32 : decode cX8_withFirst 32 = .ok (.iand, 1) := by decide +kernel
theorem dX8_withFirst_33 : decode cX8_withFirst 33 = .ok (.laload, 1) := by decide +kernel
theorem dX8_withFirst_34 : decode cX8_withFirst 34 = .ok (.lmul, 1) := by decide +kernel
theorem dX8_withFirst_35 : decode cX8_withFirst 35 = .ok (.ladd, 1) := by decide +kernel
theorem dX8_withFirst_36 : decode cX8_withFirst 36 = .ok (.lreturn, 1) := by decide +kernel
theorem dX8_order_0 : decode cX8_order 0 = .ok (.aload_n 0, 1) := by decide +kernel
theorem dX8_order_1 : decode cX8_order 1 = .ok (.iconst 0, 1) := by decide +kernel
theorem dX8_order_2 : decode cX8_order 2 = .ok (.putfield 107, 3) := by decide +kernel
theorem dX8_order_5 : decode cX8_order 5 = .ok (.iconst 1, 1) := by decide +kernel
theorem dX8_order_6 : decode cX8_order 6 = .ok (.istore_n 1, 1) := by decide +kernel
theorem dX8_order_7 : decode cX8_order 7 = .ok (.iload_n 1, 1) := by decide +kernel
theorem dX8_order_8 : decode cX8_order 8 = .ok (.iconst 1, 1) := by decide +kernel
theorem dX8_order_9 : decode cX8_order 9 = .ok (.aload_n 0, 1) := by decide +kernel
theorem dX8_order_10 : decode cX8_order 10 = .ok (.getfield 197, 3) := by decide +kernel
theorem dX8_order_13 : decode cX8_order 13 = .ok (.ishl, 1) := by decide +kernel
theorem dX8_order_14 : decode cX8_order 14 = .ok (.if_icmp .ge 77, 3) := by decide +kernel
theorem dX8_order_17 : decode cX8_order 17 = .ok (.ldc2_w 258, 3) := by decide +kernel
theorem dX8_order_20 : decode cX8_order 20 = .ok (.lstore_n 2, 1) := by decide +kernel
theorem dX8_order_21 : decode cX8_order 21 = .ok (.iconst 0, 1) := by decide +kernel
theorem dX8_order_22 : decode cX8_order 22 = .ok (.istore 4, 2) := by decide +kernel
theorem dX8_order_24 : decode cX8_order 24 = .ok (.iload 4, 2) := by decide +kernel
theorem dX8_order_26 : decode cX8_order 26 = .ok (.aload_n 0, 1) := by decide +kernel
theorem dX8_order_27 : decode cX8_order 27 = .ok (.getfield 197, 3) := by decide +kernel
theorem dX8_order_30 : decode cX8_order 30 = .ok (.if_icmp .ge 48, 3) := by decide +kernel
theorem dX8_order_33 : decode cX8_order 33 = .ok (.iload_n 1, 1) := by decide +kernel
theorem dX8_order_34 : decode cX8_order 34 = .ok (.iload 4, 2) := by decide +kernel
theorem dX8_order_36 : decode cX8_order 36 = .ok (.ishr, 1) := by decide +kernel
theorem dX8_order_37 : decode cX8_order 37 = .ok (.iconst 1, 1) := by decide +kernel
theorem dX8_order_38 : decode cX8_order 38 = .ok (.iand, 1) := by decide +kernel
theorem dX8_order_39 : decode cX8_order 39 = .ok (.iconst 1, 1) := by decide +kernel
theorem dX8_order_40 : decode cX8_order 40 = .ok (.if_icmp .ne 32, 3) := by decide +kernel
theorem dX8_order_43 : decode cX8_order 43 = .ok (.aload_n 0, 1) := by decide +kernel
theorem dX8_order_44 : decode cX8_order 44 = .ok (.iload_n 1, 1) := by decide +kernel
theorem dX8_order_45 : decode cX8_order 45 = .ok (.iload 4, 2) := by decide +kernel
theorem dX8_order_47 : decode cX8_order 47 = .ok (.invokevirtual 260, 3) := by decide +kernel
theorem dX8_order_50 : decode cX8_order 50 = .ok (.lstore 5, 2) := by decide +kernel
theorem dX8_order_52 : decode cX8_order 52 = .ok (.lload_n 2, 1) := by decide +kernel
theorem dX8_order_53 : decode cX8_order 53 = .ok (.lconst 0, 1) := by decide +kernel
theorem dX8_order_54 : decode cX8_order 54 = .ok (.lcmp, 1) := by decide +kernel
theorem dX8_order_55 : decode cX8_order 55 = .ok (.ifCond .lt 10, 3) := by decide +kernel
theorem dX8_order_58 : decode cX8_order 58 = .ok (.lload 5, 2) := by decide +kernel
theorem dX8_order_60 : decode cX8_order 60 = .ok (.lload_n 2, 1) := by decide +kernel
theorem dX8_order_61 : decode cX8_order 61 = .ok (.lcmp, 1) := by decide +kernel
theorem dX8_order_62 : decode cX8_order 62 = .ok (.ifCond .ge 8, 3) := by decide +kernel
theorem dX8_order_65 : decode cX8_order 65 = .ok (.lload 5, 2) := by decide +kernel
theorem dX8_order_67 : decode cX8_order 67 = .ok (.goto 4, 3) := by decide +kernel
theorem dX8_order_70 : decode cX8_order 70 = .ok (.lload_n 2, 1) := by decide +kernel
theorem dX8_order_71 : decode cX8_order 71 = .ok (.lstore_n 2, 1) := by decide +kernel
theorem dX8_order_72 : decode cX8_order 72 = .ok (.iinc 4 1, 3) := by decide +kernel
theorem dX8_order_75 : decode cX8_order 75 = .ok (.goto (-51), 3) := by decide +kernel
theorem dX8_order_78 : decode cX8_order 78 = .ok (.aload_n 0, 1) := by decide +kernel
theorem dX8_order_79 : decode cX8_order 79 = .ok (.getfield 97, 3) := by decide +kernel
theorem dX8_order_82 : decode cX8_order 82 = .ok (.iload_n 1, 1) := by decide +kernel
theorem dX8_order_83 : decode cX8_order 83 = .ok (.lload_n 2, 1) := by decide +kernel
theorem dX8_order_84 : decode cX8_order 84 = .ok (.lastore, 1) := by decide +kernel
theorem dX8_order_85 : decode cX8_order 85 = .ok (.iinc 1 1, 3) := by decide +kernel
theorem dX8_order_88 : decode cX8_order 88 = .ok (.goto (-81), 3) := by decide +kernel
theorem dX8_order_91 : decode cX8_order 91 = .ok (.iconst 1, 1) := by decide +kernel
theorem dX8_order_92 : decode cX8_order 92 = .ok (.aload_n 0, 1) := by decide +kernel
theorem dX8_order_93 : decode cX8_order 93 = .ok (.getfield 197, 3) := by decide +kernel
theorem dX8_order_96 : decode cX8_order 96 = .ok (.ishl, 1) := by decide +kernel
theorem dX8_order_97 : decode cX8_order 97 = .ok (.iconst 1, 1) := by decide +kernel
theorem dX8_order_98 : decode cX8_order 98 = .ok (.isub, 1) := by decide +kernel
theorem dX8_order_99 : decode cX8_order 99 = .ok (.istore_n 1, 1) := by decide +kernel
theorem dX8_order_100 : decode cX8_order 100 = .ok (.iconst 1, 1) := by decide +kernel
theorem dX8_order_101 : decode cX8_order 101 = .ok (.istore_n 2, 1) := by decide +kernel
theorem dX8_order_102 : decode cX8_order 102 = .ok (.iconst 0, 1) := by decide +kernel
theorem dX8_order_103 : decode cX8_order 103 = .ok (.istore_n 3, 1) := by decide +kernel
theorem dX8_order_104 : decode cX8_order 104 = .ok (.iload_n 3, 1) := by decide +kernel
theorem dX8_order_105 : decode cX8_order 105 = .ok (.aload_n 0, 1) := by decide +kernel
theorem dX8_order_106 : decode cX8_order 106 = .ok (.getfield 197, 3) := by decide +kernel
theorem dX8_order_109 : decode cX8_order 109 = .ok (.if_icmp .ge 87, 3) := by decide +kernel
theorem dX8_order_112 : decode cX8_order 112 = .ok (.iconst 0, 1) := by decide +kernel
theorem dX8_order_113 : decode cX8_order 113 = .ok (.istore 4, 2) := by decide +kernel
theorem dX8_order_115 : decode cX8_order 115 = .ok (.iload_n 1, 1) := by decide +kernel
theorem dX8_order_116 : decode cX8_order 116 = .ok (.iload 4, 2) := by decide +kernel
theorem dX8_order_118 : decode cX8_order 118 = .ok (.ishr, 1) := by decide +kernel
theorem dX8_order_119 : decode cX8_order 119 = .ok (.iconst 1, 1) := by decide +kernel
theorem dX8_order_120 : decode cX8_order 120 = .ok (.iand, 1) := by decide +kernel
theorem dX8_order_121 : decode cX8_order 121 = .ok (.ifCond .eq 24, 3) := by decide +kernel
theorem dX8_order_124 : decode cX8_order 124 = .ok (.iload_n 2, 1) := by decide +kernel
theorem dX8_order_125 : decode cX8_order 125 = .ok (.ifCond .eq 26, 3) := by decide +kernel
theorem dX8_order_128 : decode cX8_order 128 = .ok (.aload_n 0, 1) := by decide +kernel
theorem dX8_order_129 : decode cX8_order 129 = .ok (.iload_n 1, 1) := by decide +kernel
theorem dX8_order_130 : decode cX8_order 130 = .ok (.iload 4, 2) := by decide +kernel
theorem dX8_order_132 : decode cX8_order 132 = .ok (.invokevirtual 260, 3) := by decide +kernel
theorem dX8_order_135 : decode cX8_order 135 = .ok (.aload_n 0, 1) := by decide +kernel
theorem dX8_order_136 : decode cX8_order 136 = .ok (.getfield 97, 3) := by decide +kernel
theorem dX8_order_139 : decode cX8_order 139 = .ok (.iload_n 1, 1) := by decide +kernel
theorem dX8_order_140 : decode cX8_order 140 = .ok (.laload, 1) := by decide +kernel
theorem dX8_order_141 : decode cX8_order 141 = .ok (.lcmp, 1) := by decide +kernel
theorem dX8_order_142 : decode cX8_order 142 = .ok (.ifCond .eq 9, 3) := by decide +kernel
theorem dX8_order_145 : decode cX8_order 145 = .ok (.iinc 4 1, 3) := by decide +kernel
theorem dX8_order_148 : decode cX8_order 148 = .ok (.goto (-33), 3) := by decide +kernel
theorem dX8_order_151 : decode cX8_order 151 = .ok (.aload_n 0, 1) := by decide +kernel
theorem dX8_order_152 : decode cX8_order 152 = .ok (.getfield 62, 3) := by decide +kernel
theorem dX8_order_155 : decode cX8_order 155 = .ok (.iload_n 3, 1) := by decide +kernel
theorem dX8_order_156 : decode cX8_order 156 = .ok (.iload 4, 2) := by decide +kernel
theorem dX8_order_158 : decode cX8_order 158 = .ok (.iastore, 1) := by decide +kernel
theorem dX8_order_159 : decode cX8_order 159 = .ok (.iload_n 1, 1) := by decide +kernel
theorem dX8_order_160 : decode cX8_order 160 = .ok (.iconst 1, 1) := by decide +kernel
theorem dX8_order_161 : decode cX8_order 161 = .ok (.iload 4, 2) := by decide +kernel
theorem dX8_order_163 : decode cX8_order 163 = .ok (.ishl, 1) := by decide +kernel
theorem dX8_order_164 : decode cX8_order 164 = .ok (.iconst (-1), 1) := by decide +kernel
theorem dX8_order_165 : decode cX8_order 165 = .ok (.ixor, 1) := by decide +kernel
theorem dX8_order_166 : decode cX8_order 166 = .ok (.iand, 1) := by decide +kernel
theorem dX8_order_167 : decode cX8_order 167 = .ok (.istore_n 1, 1) := by decide +kernel
theorem dX8_order_168 : decode cX8_order 168 = .ok (.iload_n 2, 1) := by decide +kernel
theorem dX8_order_169 : decode cX8_order 169 = .ok (.ifCond .eq 19, 3) := by decide +kernel
theorem dX8_order_172 : decode cX8_order 172 = .ok (.aload_n 0, 1) := by decide +kernel
theorem dX8_order_173 : decode cX8_order 173 = .ok (.getfield 59, 3) := by decide +kernel
theorem dX8_order_176 : decode cX8_order 176 = .ok (.iload 4, 2) := by decide +kernel
theorem dX8_order_178 : decode cX8_order 178 = .ok (.iaload, 1) := by decide +kernel
theorem dX8_order_179 : decode cX8_order 179 = .ok (.bipush 10, 2) := by decide +kernel
theorem dX8_order_181 : decode cX8_order 181 = .ok (.if_icmp .ge 7, 3) := by decide +kernel
theorem dX8_order_184 : decode cX8_order 184 = .ok (.iconst 1, 1) := by decide +kernel
theorem dX8_order_185 : decode cX8_order 185 = .ok (.goto 4, 3) := by decide +kernel
theorem dX8_order_188 : decode cX8_order 188 = .ok (.iconst 0, 1) := by decide +kernel
theorem dX8_order_189 : decode cX8_order 189 = .ok (.istore_n 2, 1) := by decide +kernel
theorem dX8_order_190 : decode cX8_order 190 = .ok (.iinc 3 1, 3) := by decide +kernel
theorem dX8_order_193 : decode cX8_order 193 = .ok (.goto (-89), 3) := by decide +kernel
theorem dX8_order_196 : decode cX8_order 196 = .ok (.aload_n 0, 1) := by decide +kernel
theorem dX8_order_197 : decode cX8_order 197 = .ok (.iconst 0, 1) := by decide +kernel
theorem dX8_order_198 : decode cX8_order 198 = .ok (.invokevirtual 251, 3) := by decide +kernel
theorem dX8_order_201 : decode cX8_order 201 = .ok (.lreturn, 1) := by decide +kernel
theorem dX8_edge_0 : decode cX8_edge 0 = .ok (.aload_n 0, 1) := by decide +kernel
theorem dX8_edge_1 : decode cX8_edge 1 = .ok (.iconst 0, 1) := by decide +kernel
theorem dX8_edge_2 : decode cX8_edge 2 = .ok (.putfield 107, 3) := by decide +kernel
theorem dX8_edge_5 : decode cX8_edge 5 = .ok (.iload_n 1, 1) := by decide +kernel
theorem dX8_edge_6 : decode cX8_edge 6 = .ok (.invokestatic 120, 3) := by decide +kernel
theorem dX8_edge_9 : decode cX8_edge 9 = .ok (.ifCond .eq 28, 3) := by decide +kernel
theorem dX8_edge_12 : decode cX8_edge 12 = .ok (.iload_n 3, 1) := by decide +kernel
theorem dX8_edge_13 : decode cX8_edge 13 = .ok (.i2l, 1) := by decide +kernel
theorem dX8_edge_14 : decode cX8_edge 14 = .ok (.lconst 1, 1) := by decide +kernel
theorem dX8_edge_15 : decode cX8_edge 15 = .ok (.ldc2_w 264, 3) := by decide +kernel
theorem dX8_edge_18 : decode cX8_edge 18 = .ok (.invokestatic 116, 3) := by decide +kernel
theorem dX8_edge_21 : decode cX8_edge 21 = .ok (.ifCond .eq 16, 3) := by decide +kernel
theorem dX8_edge_24 : decode cX8_edge 24 = .ok (.iload 4, 2) := by decide +kernel
theorem dX8_edge_26 : decode cX8_edge 26 = .ok (.i2l, 1) := by decide +kernel
theorem dX8_edge_27 : decode cX8_edge 27 = .ok (.lconst 0, 1) := by decide +kernel
theorem dX8_edge_28 : decode cX8_edge 28 = .ok (.ldc2_w 124, 3) := by decide +kernel
theorem dX8_edge_31 : decode cX8_edge 31 = .ok (.invokestatic 116, 3) := by decide +kernel
theorem dX8_edge_34 : decode cX8_edge 34 = .ok (.ifCond .ne 6, 3) := by decide +kernel
theorem dX8_edge_37 : decode cX8_edge 37 = .ok (.ldc 126, 2) := by decide +kernel
theorem dX8_edge_39 : decode cX8_edge 39 = .ok (.ireturn, 1) := by decide +kernel
theorem dX8_edge_40 : decode cX8_edge 40 = .ok (.aload_n 0, 1) := by decide +kernel
theorem dX8_edge_41 : decode cX8_edge 41 = .ok (.iconst 0, 1) := by decide +kernel
theorem dX8_edge_42 : decode cX8_edge 42 = .ok (.putfield 110, 3) := by decide +kernel
theorem dX8_edge_45 : decode cX8_edge 45 = .ok (.aload_n 0, 1) := by decide +kernel
theorem dX8_edge_46 : decode cX8_edge 46 = .ok (.getfield 7, 3) := by decide +kernel
theorem dX8_edge_49 : decode cX8_edge 49 = .ok (.iload_n 1, 1) := by decide +kernel
theorem dX8_edge_50 : decode cX8_edge 50 = .ok (.iaload, 1) := by decide +kernel
theorem dX8_edge_51 : decode cX8_edge 51 = .ok (.ifCond .ge 9, 3) := by decide +kernel
theorem dX8_edge_54 : decode cX8_edge 54 = .ok (.aload_n 0, 1) := by decide +kernel
theorem dX8_edge_55 : decode cX8_edge 55 = .ok (.iconst 1, 1) := by decide +kernel
theorem dX8_edge_56 : decode cX8_edge 56 = .ok (.invokevirtual 127, 3) := by decide +kernel
theorem dX8_edge_59 : decode cX8_edge 59 = .ok (.ireturn, 1) := by decide +kernel
theorem dX8_edge_60 : decode cX8_edge 60 = .ok (.iload_n 2, 1) := by decide +kernel
theorem dX8_edge_61 : decode cX8_edge 61 = .ok (.ifCond .lt 19, 3) := by decide +kernel
theorem dX8_edge_64 : decode cX8_edge 64 = .ok (.iload_n 2, 1) := by decide +kernel
theorem dX8_edge_65 : decode cX8_edge 65 = .ok (.i2l, 1) := by decide +kernel
theorem dX8_edge_66 : decode cX8_edge 66 = .ok (.iload_n 3, 1) := by decide +kernel
theorem dX8_edge_67 : decode cX8_edge 67 = .ok (.i2l, 1) := by decide +kernel
theorem dX8_edge_68 : decode cX8_edge 68 = .ok (.ladd, 1) := by decide +kernel
theorem dX8_edge_69 : decode cX8_edge 69 = .ok (.aload_n 0, 1) := by decide +kernel
theorem dX8_edge_70 : decode cX8_edge 70 = .ok (.getfield 13, 3) := by decide +kernel
theorem dX8_edge_73 : decode cX8_edge 73 = .ok (.iload_n 1, 1) := by decide +kernel
theorem dX8_edge_74 : decode cX8_edge 74 = .ok (.iaload, 1) := by decide +kernel
theorem dX8_edge_75 : decode cX8_edge 75 = .ok (.i2l, 1) := by decide +kernel
theorem dX8_edge_76 : decode cX8_edge 76 = .ok (.lcmp, 1) := by decide +kernel
theorem dX8_edge_77 : decode cX8_edge 77 = .ok (.ifCond .le 9, 3) := by decide +kernel
theorem dX8_edge_80 : decode cX8_edge 80 = .ok (.aload_n 0, 1) := by decide +kernel
theorem dX8_edge_81 : decode cX8_edge 81 = .ok (.iconst 2, 1) := by decide +kernel
theorem dX8_edge_82 : decode cX8_edge 82 = .ok (.invokevirtual 127, 3) := by decide +kernel
theorem dX8_edge_85 : decode cX8_edge 85 = .ok (.ireturn, 1) := by decide +kernel
theorem dX8_edge_86 : decode cX8_edge 86 = .ok (.iload_n 2, 1) := by decide +kernel
theorem dX8_edge_87 : decode cX8_edge 87 = .ok (.istore 5, 2) := by decide +kernel
theorem dX8_edge_89 : decode cX8_edge 89 = .ok (.iload_n 2, 1) := by decide +kernel
theorem dX8_edge_90 : decode cX8_edge 90 = .ok (.iload_n 3, 1) := by decide +kernel
theorem dX8_edge_91 : decode cX8_edge 91 = .ok (.iadd, 1) := by decide +kernel
theorem dX8_edge_92 : decode cX8_edge 92 = .ok (.istore 6, 2) := by decide +kernel
theorem dX8_edge_94 : decode cX8_edge 94 = .ok (.iconst 0, 1) := by decide +kernel
theorem dX8_edge_95 : decode cX8_edge 95 = .ok (.istore 7, 2) := by decide +kernel
theorem dX8_edge_97 : decode cX8_edge 97 = .ok (.iload 5, 2) := by decide +kernel
theorem dX8_edge_99 : decode cX8_edge 99 = .ok (.iload 6, 2) := by decide +kernel
theorem dX8_edge_101 : decode cX8_edge 101 = .ok (.if_icmp .eq 46, 3) := by decide +kernel
theorem dX8_edge_104 : decode cX8_edge 104 = .ok (.iload 5, 2) := by decide +kernel
theorem dX8_edge_106 : decode cX8_edge 106 = .ok (.iload 6, 2) := by decide +kernel
theorem dX8_edge_108 : decode cX8_edge 108 = .ok (.iadd, 1) := by decide +kernel
theorem dX8_edge_109 : decode cX8_edge 109 = .ok (.iconst 2, 1) := by decide +kernel
theorem dX8_edge_110 : decode cX8_edge 110 = .ok (.idiv, 1) := by decide +kernel
theorem dX8_edge_111 : decode cX8_edge 111 = .ok (.istore 8, 2) := by decide +kernel
theorem dX8_edge_113 : decode cX8_edge 113 = .ok (.iinc 7 1, 3) := by decide +kernel
theorem dX8_edge_116 : decode cX8_edge 116 = .ok (.aload_n 0, 1) := by decide +kernel
theorem dX8_edge_117 : decode cX8_edge 117 = .ok (.getfield 16, 3) := by decide +kernel
theorem dX8_edge_120 : decode cX8_edge 120 = .ok (.bipush 100, 2) := by decide +kernel
theorem dX8_edge_122 : decode cX8_edge 122 = .ok (.iload_n 1, 1) := by decide +kernel
theorem dX8_edge_123 : decode cX8_edge 123 = .ok (.imul, 1) := by decide +kernel
theorem dX8_edge_124 : decode cX8_edge 124 = .ok (.iload 8, 2) := by decide +kernel
theorem dX8_edge_126 : decode cX8_edge 126 = .ok (.iadd, 1) := by decide +kernel
theorem dX8_edge_127 : decode cX8_edge 127 = .ok (.iaload, 1) := by decide +kernel
theorem dX8_edge_128 : decode cX8_edge 128 = .ok (.ifCond .eq 10, 3) := by decide +kernel
theorem dX8_edge_131 : decode cX8_edge 131 = .ok (.iload 8, 2) := by decide +kernel
theorem dX8_edge_133 : decode cX8_edge 133 = .ok (.istore 6, 2) := by decide +kernel
theorem dX8_edge_135 : decode cX8_edge 135 = .ok (.goto 9, 3) := by decide +kernel
theorem dX8_edge_138 : decode cX8_edge 138 = .ok (.iload 8, 2) := by decide +kernel
theorem dX8_edge_140 : decode cX8_edge 140 = .ok (.iconst 1, 1) := by decide +kernel
theorem dX8_edge_141 : decode cX8_edge 141 = .ok (.iadd, 1) := by decide +kernel
theorem dX8_edge_142 : decode cX8_edge 142 = .ok (.istore 5, 2) := by decide +kernel
theorem dX8_edge_144 : decode cX8_edge 144 = .ok (.goto (-47), 3) := by decide +kernel
theorem dX8_edge_147 : decode cX8_edge 147 = .ok (.iconst 1, 1) := by decide +kernel
theorem dX8_edge_148 : decode cX8_edge 148 = .ok (.istore 8, 2) := by decide +kernel
theorem dX8_edge_150 : decode cX8_edge 150 = .ok (.iload_n 2, 1) := by decide +kernel
theorem dX8_edge_151 : decode cX8_edge 151 = .ok (.istore 9, 2) := by decide +kernel
theorem dX8_edge_153 : decode cX8_edge 153 = .ok (.iload 9, 2) := by decide +kernel
theorem dX8_edge_155 : decode cX8_edge 155 = .ok (.iload_n 2, 1) := by decide +kernel
theorem dX8_edge_156 : decode cX8_edge 156 = .ok (.iload_n 3, 1) := by decide +kernel
theorem dX8_edge_157 : decode cX8_edge 157 = .ok (.iadd, 1) := by decide +kernel
theorem dX8_edge_158 : decode cX8_edge 158 = .ok (.if_icmp .ge 56, 3) := by decide +kernel
theorem dX8_edge_161 : decode cX8_edge 161 = .ok (.iload 8, 2) := by decide +kernel
theorem dX8_edge_163 : decode cX8_edge 163 = .ok (.ifCond .eq 42, 3) := by decide +kernel
theorem dX8_edge_166 : decode cX8_edge 166 = .ok (.aload_n 0, 1) := by decide +kernel
theorem dX8_edge_167 : decode cX8_edge 167 = .ok (.getfield 16, 3) := by decide +kernel
theorem dX8_edge_170 : decode cX8_edge 170 = .ok (.bipush 100, 2) := by decide +kernel
theorem dX8_edge_172 : decode cX8_edge 172 = .ok (.iload_n 1, 1) := by decide +kernel
theorem dX8_edge_173 : decode cX8_edge 173 = .ok (.imul, 1) := by decide +kernel
theorem dX8_edge_174 : decode cX8_edge 174 = .ok (.iload 9, 2) := by decide +kernel
theorem dX8_edge_176 : decode cX8_edge 176 = .ok (.iadd, 1) := by decide +kernel
theorem dX8_edge_177 : decode cX8_edge 177 = .ok (.iaload, 1) := by decide +kernel
theorem dX8_edge_178 : decode cX8_edge 178 = .ok (.ifCond .eq 7, 3) := by decide +kernel
theorem dX8_edge_181 : decode cX8_edge 181 = .ok (.iconst 1, 1) := by decide +kernel
theorem dX8_edge_182 : decode cX8_edge 182 = .ok (.goto 4, 3) := by decide +kernel
theorem dX8_edge_185 : decode cX8_edge 185 = .ok (.iconst 0, 1) := by decide +kernel
theorem dX8_edge_186 : decode cX8_edge 186 = .ok (.iload 9, 2) := by decide +kernel
theorem dX8_edge_188 : decode cX8_edge 188 = .ok (.iload 5, 2) := by decide +kernel
theorem dX8_edge_190 : decode cX8_edge 190 = .ok (.if_icmp .lt 7, 3) := by decide +kernel
theorem dX8_edge_193 : decode cX8_edge 193 = .ok (.iconst 1, 1) := by decide +kernel
theorem dX8_edge_194 : decode cX8_edge 194 = .ok (.goto 4, 3) := by decide +kernel
theorem dX8_edge_197 : decode cX8_edge 197 = .ok (.iconst 0, 1) := by decide +kernel
theorem dX8_edge_198 : decode cX8_edge 198 = .ok (.if_icmp .ne 7, 3) := by decide +kernel
theorem dX8_edge_201 : decode cX8_edge 201 = .ok (.iconst 1, 1) := by decide +kernel
theorem dX8_edge_202 : decode cX8_edge 202 = .ok (.goto 4, 3) := by decide +kernel
theorem dX8_edge_205 : decode cX8_edge 205 = .ok (.iconst 0, 1) := by decide +kernel
theorem dX8_edge_206 : decode cX8_edge 206 = .ok (.istore 8, 2) := by decide +kernel
theorem dX8_edge_208 : decode cX8_edge 208 = .ok (.iinc 9 1, 3) := by decide +kernel
theorem dX8_edge_211 : decode cX8_edge 211 = .ok (.goto (-58), 3) := by decide +kernel
theorem dX8_edge_214 : decode cX8_edge 214 = .ok (.iload 4, 2) := by decide +kernel
theorem dX8_edge_216 : decode cX8_edge 216 = .ok (.ifCond .ne 10, 3) := by decide +kernel
theorem dX8_edge_219 : decode cX8_edge 219 = .ok (.iload 5, 2) := by decide +kernel
theorem dX8_edge_221 : decode cX8_edge 221 = .ok (.iload_n 2, 1) := by decide +kernel
theorem dX8_edge_222 : decode cX8_edge 222 = .ok (.isub, 1) := by decide +kernel
theorem dX8_edge_223 : decode cX8_edge 223 = .ok (.goto 24, 3) := by decide +kernel
theorem dX8_edge_226 : decode cX8_edge 226 = .ok (.iload 4, 2) := by decide +kernel
theorem dX8_edge_228 : decode cX8_edge 228 = .ok (.iconst 1, 1) := by decide +kernel
theorem dX8_edge_229 : decode cX8_edge 229 = .ok (.if_icmp .ne 8, 3) := by decide +kernel
theorem dX8_edge_232 : decode cX8_edge 232 = .ok (.iload 7, 2) := by decide +kernel
theorem dX8_edge_234 : decode cX8_edge 234 = .ok (.goto 13, 3) := by decide +kernel
theorem dX8_edge_237 : decode cX8_edge 237 = .ok (.iload 8, 2) := by decide +kernel
theorem dX8_edge_239 : decode cX8_edge 239 = .ok (.ifCond .eq 7, 3) := by decide +kernel
theorem dX8_edge_242 : decode cX8_edge 242 = .ok (.iconst 1, 1) := by decide +kernel
theorem dX8_edge_243 : decode cX8_edge 243 = .ok (.goto 4, 3) := by decide +kernel
theorem dX8_edge_246 : decode cX8_edge 246 = .ok (.iconst 0, 1) := by decide +kernel
theorem dX8_edge_247 : decode cX8_edge 247 = .ok (.ireturn, 1) := by decide +kernel
theorem dX8_isOn_0 : decode cX8_isOn 0 = .ok (.iload_n 0, 1) := by decide +kernel
theorem dX8_isOn_1 : decode cX8_isOn 1 = .ok (.i2l, 1) := by decide +kernel
theorem dX8_isOn_2 : decode cX8_isOn 2 = .ok (.lconst 0, 1) := by decide +kernel
theorem dX8_isOn_3 : decode cX8_isOn 3 = .ok (.ldc2_w 266, 3) := by decide +kernel
theorem dX8_isOn_6 : decode cX8_isOn 6 = .ok (.invokestatic 116, 3) := by decide +kernel
theorem dX8_isOn_9 : decode cX8_isOn 9 = .ok (.ifCond .eq 19, 3) := by decide +kernel
theorem dX8_isOn_12 : decode cX8_isOn 12 = .ok (.iload_n 1, 1) := by decide +kernel
theorem dX8_isOn_13 : decode cX8_isOn 13 = .ok (.i2l, 1) := by decide +kernel
theorem dX8_isOn_14 : decode cX8_isOn 14 = .ok (.lconst 0, 1) := by decide +kernel
theorem dX8_isOn_15 : decode cX8_isOn 15 = .ok (.ldc2_w 266, 3) := by decide +kernel
theorem dX8_isOn_18 : decode cX8_isOn 18 = .ok (.invokestatic 116, 3) := by decide +kernel
theorem dX8_isOn_21 : decode cX8_isOn 21 = .ok (.ifCond .eq 7, 3) := by decide +kernel
theorem dX8_isOn_24 : decode cX8_isOn 24 = .ok (.iconst 1, 1) := by decide +kernel
theorem dX8_isOn_25 : decode cX8_isOn 25 = .ok (.goto 4, 3) := by decide +kernel
theorem dX8_isOn_28 : decode cX8_isOn 28 = .ok (.iconst 0, 1) := by decide +kernel
theorem dX8_isOn_29 : decode cX8_isOn 29 = .ok (.ireturn, 1) := by decide +kernel
theorem dX8_dieAt_0 : decode cX8_dieAt 0 = .ok (.iload_n 2, 1) := by decide +kernel
theorem dX8_dieAt_1 : decode cX8_dieAt 1 = .ok (.iload_n 3, 1) := by decide +kernel
theorem dX8_dieAt_2 : decode cX8_dieAt 2 = .ok (.invokestatic 268, 3) := by decide +kernel
theorem dX8_dieAt_5 : decode cX8_dieAt 5 = .ok (.ifCond .eq 23, 3) := by decide +kernel
theorem dX8_dieAt_8 : decode cX8_dieAt 8 = .ok (.aload_n 0, 1) := by decide +kernel
theorem dX8_dieAt_9 : decode cX8_dieAt 9 = .ok (.getfield 101, 3) := by decide +kernel
theorem dX8_dieAt_12 : decode cX8_dieAt 12 = .ok (.sipush 144, 3) := by decide +kernel
theorem dX8_dieAt_15 : decode cX8_dieAt 15 = .ok (.iload_n 1, 1) := by decide +kernel
theorem dX8_dieAt_16 : decode cX8_dieAt 16 = .ok (.imul, 1) := by decide +kernel
theorem dX8_dieAt_17 : decode cX8_dieAt 17 = .ok (.bipush 12, 2) := by decide +kernel
theorem dX8_dieAt_19 : decode cX8_dieAt 19 = .ok (.iload_n 3, 1) := by decide +kernel
theorem dX8_dieAt_20 : decode cX8_dieAt 20 = .ok (.imul, 1) := by decide +kernel
theorem dX8_dieAt_21 : decode cX8_dieAt 21 = .ok (.iadd, 1) := by decide +kernel
theorem dX8_dieAt_22 : decode cX8_dieAt 22 = .ok (.iload_n 2, 1) := by decide +kernel
theorem dX8_dieAt_23 : decode cX8_dieAt 23 = .ok (.iadd, 1) := by decide +kernel
theorem dX8_dieAt_24 : decode cX8_dieAt 24 = .ok (.iaload, 1) := by decide +kernel
theorem dX8_dieAt_25 : decode cX8_dieAt 25 = .ok (.goto 4, 3) := by decide +kernel
theorem dX8_dieAt_28 : decode cX8_dieAt 28 = .ok (.iconst 0, 1) := by decide +kernel
theorem dX8_dieAt_29 : decode cX8_dieAt 29 = .ok (.ireturn, 1) := by decide +kernel
theorem dX8_die_0 : decode cX8_die 0 = .ok (.aload_n 0, 1) := by decide +kernel
theorem dX8_die_1 : decode cX8_die 1 = .ok (.iconst 0, 1) := by decide +kernel
theorem dX8_die_2 : decode cX8_die 2 = .ok (.putfield 107, 3) := by decide +kernel
theorem dX8_die_5 : decode cX8_die 5 = .ok (.iload_n 1, 1) := by decide +kernel
theorem dX8_die_6 : decode cX8_die 6 = .ok (.i2l, 1) := by decide +kernel
theorem dX8_die_7 : decode cX8_die 7 = .ok (.lconst 0, 1) := by decide +kernel
theorem dX8_die_8 : decode cX8_die 8 = .ok (.lconst 1, 1) := by decide +kernel
theorem dX8_die_9 : decode cX8_die 9 = .ok (.invokestatic 116, 3) := by decide +kernel
theorem dX8_die_12 : decode cX8_die 12 = .ok (.ifCond .eq 31, 3) := by decide +kernel
theorem dX8_die_15 : decode cX8_die 15 = .ok (.iload_n 2, 1) := by decide +kernel
theorem dX8_die_16 : decode cX8_die 16 = .ok (.iload_n 3, 1) := by decide +kernel
theorem dX8_die_17 : decode cX8_die 17 = .ok (.invokestatic 268, 3) := by decide +kernel
theorem dX8_die_20 : decode cX8_die 20 = .ok (.ifCond .eq 23, 3) := by decide +kernel
theorem dX8_die_23 : decode cX8_die 23 = .ok (.iload 4, 2) := by decide +kernel
theorem dX8_die_25 : decode cX8_die 25 = .ok (.ldc 142, 2) := by decide +kernel
theorem dX8_die_27 : decode cX8_die 27 = .ok (.if_icmp .eq 19, 3) := by decide +kernel
theorem dX8_die_30 : decode cX8_die 30 = .ok (.iload 4, 2) := by decide +kernel
theorem dX8_die_32 : decode cX8_die 32 = .ok (.i2l, 1) := by decide +kernel
theorem dX8_die_33 : decode cX8_die 33 = .ok (.lconst 0, 1) := by decide +kernel
theorem dX8_die_34 : decode cX8_die 34 = .ok (.ldc2_w 202, 3) := by decide +kernel
theorem dX8_die_37 : decode cX8_die 37 = .ok (.invokestatic 116, 3) := by decide +kernel
theorem dX8_die_40 : decode cX8_die 40 = .ok (.ifCond .ne 6, 3) := by decide +kernel
theorem dX8_die_43 : decode cX8_die 43 = .ok (.ldc 126, 2) := by decide +kernel
theorem dX8_die_45 : decode cX8_die 45 = .ok (.ireturn, 1) := by decide +kernel
theorem dX8_die_46 : decode cX8_die 46 = .ok (.aload_n 0, 1) := by decide +kernel
theorem dX8_die_47 : decode cX8_die 47 = .ok (.iload_n 1, 1) := by decide +kernel
theorem dX8_die_48 : decode cX8_die 48 = .ok (.iload_n 2, 1) := by decide +kernel
theorem dX8_die_49 : decode cX8_die 49 = .ok (.iload_n 3, 1) := by decide +kernel
theorem dX8_die_50 : decode cX8_die 50 = .ok (.invokevirtual 272, 3) := by decide +kernel
theorem dX8_die_53 : decode cX8_die 53 = .ok (.istore 5, 2) := by decide +kernel
theorem dX8_die_55 : decode cX8_die 55 = .ok (.aload_n 0, 1) := by decide +kernel
theorem dX8_die_56 : decode cX8_die 56 = .ok (.getfield 101, 3) := by decide +kernel
theorem dX8_die_59 : decode cX8_die 59 = .ok (.sipush 144, 3) := by decide +kernel
theorem dX8_die_62 : decode cX8_die 62 = .ok (.iload_n 1, 1) := by decide +kernel
theorem dX8_die_63 : decode cX8_die 63 = .ok (.imul, 1) := by decide +kernel
theorem dX8_die_64 : decode cX8_die 64 = .ok (.bipush 12, 2) := by decide +kernel
theorem dX8_die_66 : decode cX8_die 66 = .ok (.iload_n 3, 1) := by decide +kernel
theorem dX8_die_67 : decode cX8_die 67 = .ok (.imul, 1) := by decide +kernel
theorem dX8_die_68 : decode cX8_die 68 = .ok (.iadd, 1) := by decide +kernel
theorem dX8_die_69 : decode cX8_die 69 = .ok (.iload_n 2, 1) := by decide +kernel
theorem dX8_die_70 : decode cX8_die 70 = .ok (.iadd, 1) := by decide +kernel
theorem dX8_die_71 : decode cX8_die 71 = .ok (.iload 4, 2) := by decide +kernel
theorem dX8_die_73 : decode cX8_die 73 = .ok (.ldc 142, 2) := by decide +kernel
theorem dX8_die_75 : decode cX8_die 75 = .ok (.if_icmp .ne 7, 3) := by decide +kernel
theorem dX8_die_78 : decode cX8_die 78 = .ok (.iconst 0, 1) := by decide +kernel
theorem dX8_die_79 : decode cX8_die 79 = .ok (.goto 7, 3) := by decide +kernel
theorem dX8_die_82 : decode cX8_die 82 = .ok (.iload 4, 2) := by decide +kernel
theorem dX8_die_84 : decode cX8_die 84 = .ok (.iconst 1, 1) := by decide +kernel
theorem dX8_die_85 : decode cX8_die 85 = .ok (.iadd, 1) := by decide +kernel
theorem dX8_die_86 : decode cX8_die 86 = .ok (.iastore, 1) := by decide +kernel
theorem dX8_die_87 : decode cX8_die 87 = .ok (.iload 5, 2) := by decide +kernel
theorem dX8_die_89 : decode cX8_die 89 = .ok (.ifCond .ne 8, 3) := by decide +kernel
theorem dX8_die_92 : decode cX8_die 92 = .ok (.ldc 142, 2) := by decide +kernel
theorem dX8_die_94 : decode cX8_die 94 = .ok (.goto 7, 3) := by decide +kernel
theorem dX8_die_97 : decode cX8_die 97 = .ok (.iload 5, 2) := by decide +kernel
theorem dX8_die_99 : decode cX8_die 99 = .ok (.iconst 1, 1) := by decide +kernel
theorem dX8_die_100 : decode cX8_die 100 = .ok (.isub, 1) := by decide +kernel
theorem dX8_die_101 : decode cX8_die 101 = .ok (.ireturn, 1) := by decide +kernel
theorem dX8_odd_0 : decode cX8_odd 0 = .ok (.aload_n 0, 1) := by decide +kernel
theorem dX8_odd_1 : decode cX8_odd 1 = .ok (.iconst 0, 1) := by decide +kernel
theorem dX8_odd_2 : decode cX8_odd 2 = .ok (.putfield 107, 3) := by decide +kernel
theorem dX8_odd_5 : decode cX8_odd 5 = .ok (.iload_n 1, 1) := by decide +kernel
theorem dX8_odd_6 : decode cX8_odd 6 = .ok (.i2l, 1) := by decide +kernel
theorem dX8_odd_7 : decode cX8_odd 7 = .ok (.lconst 0, 1) := by decide +kernel
theorem dX8_odd_8 : decode cX8_odd 8 = .ok (.lconst 1, 1) := by decide +kernel
theorem dX8_odd_9 : decode cX8_odd 9 = .ok (.invokestatic 116, 3) := by decide +kernel
theorem dX8_odd_12 : decode cX8_odd 12 = .ok (.ifCond .eq 15, 3) := by decide +kernel
theorem dX8_odd_15 : decode cX8_odd 15 = .ok (.iload_n 2, 1) := by decide +kernel
theorem dX8_odd_16 : decode cX8_odd 16 = .ok (.i2l, 1) := by decide +kernel
theorem dX8_odd_17 : decode cX8_odd 17 = .ok (.lconst 1, 1) := by decide +kernel
theorem dX8_odd_18 : decode cX8_odd 18 = .ok (.ldc2_w 131, 3) := by decide +kernel
theorem dX8_odd_21 : decode cX8_odd 21 = .ok (.invokestatic 116, 3) := by decide +kernel
theorem dX8_odd_24 : decode cX8_odd 24 = .ok (.ifCond .ne 6, 3) := by decide +kernel
theorem dX8_odd_27 : decode cX8_odd 27 = .ok (.ldc 126, 2) := by decide +kernel
theorem dX8_odd_29 : decode cX8_odd 29 = .ok (.ireturn, 1) := by decide +kernel
theorem dX8_odd_30 : decode cX8_odd 30 = .ok (.iconst 0, 1) := by decide +kernel
theorem dX8_odd_31 : decode cX8_odd 31 = .ok (.istore 4, 2) := by decide +kernel
theorem dX8_odd_33 : decode cX8_odd 33 = .ok (.iconst 0, 1) := by decide +kernel
theorem dX8_odd_34 : decode cX8_odd 34 = .ok (.istore 5, 2) := by decide +kernel
theorem dX8_odd_36 : decode cX8_odd 36 = .ok (.iload 5, 2) := by decide +kernel
theorem dX8_odd_38 : decode cX8_odd 38 = .ok (.sipush 144, 3) := by decide +kernel
theorem dX8_odd_41 : decode cX8_odd 41 = .ok (.if_icmp .ge 116, 3) := by decide +kernel
theorem dX8_odd_44 : decode cX8_odd 44 = .ok (.iconst 0, 1) := by decide +kernel
theorem dX8_odd_45 : decode cX8_odd 45 = .ok (.istore 6, 2) := by decide +kernel
theorem dX8_odd_47 : decode cX8_odd 47 = .ok (.iconst 0, 1) := by decide +kernel
theorem dX8_odd_48 : decode cX8_odd 48 = .ok (.istore 7, 2) := by decide +kernel
theorem dX8_odd_50 : decode cX8_odd 50 = .ok (.iload 7, 2) := by decide +kernel
theorem dX8_odd_52 : decode cX8_odd 52 = .ok (.bipush 9, 2) := by decide +kernel
theorem dX8_odd_54 : decode cX8_odd 54 = .ok (.if_icmp .ge 62, 3) := by decide +kernel
theorem dX8_odd_57 : decode cX8_odd 57 = .ok (.aload_n 0, 1) := by decide +kernel
theorem dX8_odd_58 : decode cX8_odd 58 = .ok (.iload_n 1, 1) := by decide +kernel
theorem dX8_odd_59 : decode cX8_odd 59 = .ok (.iload 5, 2) := by decide +kernel
theorem dX8_odd_61 : decode cX8_odd 61 = .ok (.bipush 12, 2) := by decide +kernel
theorem dX8_odd_63 : decode cX8_odd 63 = .ok (.irem, 1) := by decide +kernel
theorem dX8_odd_64 : decode cX8_odd 64 = .ok (.iload 7, 2) := by decide +kernel
theorem dX8_odd_66 : decode cX8_odd 66 = .ok (.iconst 3, 1) := by decide +kernel
theorem dX8_odd_67 : decode cX8_odd 67 = .ok (.irem, 1) := by decide +kernel
theorem dX8_odd_68 : decode cX8_odd 68 = .ok (.iadd, 1) := by decide +kernel
theorem dX8_odd_69 : decode cX8_odd 69 = .ok (.iconst 1, 1) := by decide +kernel
theorem dX8_odd_70 : decode cX8_odd 70 = .ok (.isub, 1) := by decide +kernel
theorem dX8_odd_71 : decode cX8_odd 71 = .ok (.iload 5, 2) := by decide +kernel
theorem dX8_odd_73 : decode cX8_odd 73 = .ok (.bipush 12, 2) := by decide +kernel
theorem dX8_odd_75 : decode cX8_odd 75 = .ok (.idiv, 1) := by decide +kernel
theorem dX8_odd_76 : decode cX8_odd 76 = .ok (.iload 7, 2) := by decide +kernel
theorem dX8_odd_78 : decode cX8_odd 78 = .ok (.iconst 3, 1) := by decide +kernel
theorem dX8_odd_79 : decode cX8_odd 79 = .ok (.idiv, 1) := by decide +kernel
theorem dX8_odd_80 : decode cX8_odd 80 = .ok (.iadd, 1) := by decide +kernel
theorem dX8_odd_81 : decode cX8_odd 81 = .ok (.iconst 1, 1) := by decide +kernel
theorem dX8_odd_82 : decode cX8_odd 82 = .ok (.isub, 1) := by decide +kernel
theorem dX8_odd_83 : decode cX8_odd 83 = .ok (.invokevirtual 272, 3) := by decide +kernel
theorem dX8_odd_86 : decode cX8_odd 86 = .ok (.istore 8, 2) := by decide +kernel
theorem dX8_odd_88 : decode cX8_odd 88 = .ok (.iload 6, 2) := by decide +kernel
theorem dX8_odd_90 : decode cX8_odd 90 = .ok (.iload 7, 2) := by decide +kernel
theorem dX8_odd_92 : decode cX8_odd 92 = .ok (.iconst 4, 1) := by decide +kernel
theorem dX8_odd_93 : decode cX8_odd 93 = .ok (.if_icmp .eq 13, 3) := by decide +kernel
theorem dX8_odd_96 : decode cX8_odd 96 = .ok (.iload 8, 2) := by decide +kernel
theorem dX8_odd_98 : decode cX8_odd 98 = .ok (.iconst 1, 1) := by decide +kernel
theorem dX8_odd_99 : decode cX8_odd 99 = .ok (.if_icmp .le 7, 3) := by decide +kernel
theorem dX8_odd_102 : decode cX8_odd 102 = .ok (.iconst 1, 1) := by decide +kernel
theorem dX8_odd_103 : decode cX8_odd 103 = .ok (.goto 4, 3) := by decide +kernel
theorem dX8_odd_106 : decode cX8_odd 106 = .ok (.iconst 0, 1) := by decide +kernel
theorem dX8_odd_107 : decode cX8_odd 107 = .ok (.iadd, 1) := by decide +kernel
theorem dX8_odd_108 : decode cX8_odd 108 = .ok (.istore 6, 2) := by decide +kernel
theorem dX8_odd_110 : decode cX8_odd 110 = .ok (.iinc 7 1, 3) := by decide +kernel
theorem dX8_odd_113 : decode cX8_odd 113 = .ok (.goto (-63), 3) := by decide +kernel
theorem dX8_odd_116 : decode cX8_odd 116 = .ok (.aload_n 0, 1) := by decide +kernel
theorem dX8_odd_117 : decode cX8_odd 117 = .ok (.getfield 101, 3) := by decide +kernel
theorem dX8_odd_120 : decode cX8_odd 120 = .ok (.sipush 144, 3) := by decide +kernel
theorem dX8_odd_123 : decode cX8_odd 123 = .ok (.iload_n 1, 1) := by decide +kernel
theorem dX8_odd_124 : decode cX8_odd 124 = .ok (.imul, 1) := by decide +kernel
theorem dX8_odd_125 : decode cX8_odd 125 = .ok (.iload 5, 2) := by decide +kernel
theorem dX8_odd_127 : decode cX8_odd 127 = .ok (.iadd, 1) := by decide +kernel
theorem dX8_odd_128 : decode cX8_odd 128 = .ok (.iaload, 1) := by decide +kernel
theorem dX8_odd_129 : decode cX8_odd 129 = .ok (.iconst 1, 1) := by decide +kernel
theorem dX8_odd_130 : decode cX8_odd 130 = .ok (.if_icmp .ne 21, 3) := by decide +kernel
theorem dX8_odd_133 : decode cX8_odd 133 = .ok (.iload 6, 2) := by decide +kernel
theorem dX8_odd_135 : decode cX8_odd 135 = .ok (.iload_n 2, 1) := by decide +kernel
theorem dX8_odd_136 : decode cX8_odd 136 = .ok (.if_icmp .lt 15, 3) := by decide +kernel
theorem dX8_odd_139 : decode cX8_odd 139 = .ok (.iload 4, 2) := by decide +kernel
theorem dX8_odd_141 : decode cX8_odd 141 = .ok (.iload_n 3, 1) := by decide +kernel
theorem dX8_odd_142 : decode cX8_odd 142 = .ok (.if_icmp .ne 6, 3) := by decide +kernel
theorem dX8_odd_145 : decode cX8_odd 145 = .ok (.iload 5, 2) := by decide +kernel
theorem dX8_odd_147 : decode cX8_odd 147 = .ok (.ireturn, 1) := by decide +kernel
theorem dX8_odd_148 : decode cX8_odd 148 = .ok (.iinc 4 1, 3) := by decide +kernel
theorem dX8_odd_151 : decode cX8_odd 151 = .ok (.iinc 5 1, 3) := by decide +kernel
theorem dX8_odd_154 : decode cX8_odd 154 = .ok (.goto (-118), 3) := by decide +kernel
theorem dX8_odd_157 : decode cX8_odd 157 = .ok (.iload_n 3, 1) := by decide +kernel
theorem dX8_odd_158 : decode cX8_odd 158 = .ok (.ldc 142, 2) := by decide +kernel
theorem dX8_odd_160 : decode cX8_odd 160 = .ok (.if_icmp .ne 8, 3) := by decide +kernel
theorem dX8_odd_163 : decode cX8_odd 163 = .ok (.iload 4, 2) := by decide +kernel
theorem dX8_odd_165 : decode cX8_odd 165 = .ok (.goto 5, 3) := by decide +kernel
theorem dX8_odd_168 : decode cX8_odd 168 = .ok (.ldc 142, 2) := by decide +kernel
theorem dX8_odd_170 : decode cX8_odd 170 = .ok (.ireturn, 1) := by decide +kernel
theorem dX8_findJoin_0 : decode cX8_findJoin 0 = .ok (.iconst 0, 1) := by decide +kernel
theorem dX8_findJoin_1 : decode cX8_findJoin 1 = .ok (.istore_n 3, 1) := by decide +kernel
theorem dX8_findJoin_2 : decode cX8_findJoin 2 = .ok (.iload_n 3, 1) := by decide +kernel
theorem dX8_findJoin_3 : decode cX8_findJoin 3 = .ok (.iconst 4, 1) := by decide +kernel
theorem dX8_findJoin_4 : decode cX8_findJoin 4 = .ok (.if_icmp .ge 16, 3) := by decide +kernel
theorem dX8_findJoin_7 : decode cX8_findJoin 7 = .ok (.aload_n 0, 1) := by decide +kernel
theorem dX8_findJoin_8 : decode cX8_findJoin 8 = .ok (.getfield 104, 3) := by decide +kernel
theorem dX8_findJoin_11 : decode cX8_findJoin 11 = .ok (.iload_n 3, 1) := by decide +kernel
theorem dX8_findJoin_12 : decode cX8_findJoin 12 = .ok (.iconst 0, 1) := by decide +kernel
theorem dX8_findJoin_13 : decode cX8_findJoin 13 = .ok (.iastore, 1) := by decide +kernel
theorem dX8_findJoin_14 : decode cX8_findJoin 14 = .ok (.iinc 3 1, 3) := by decide +kernel
theorem dX8_findJoin_17 : decode cX8_findJoin 17 = .ok (.goto (-15), 3) := by decide +kernel
theorem dX8_findJoin_20 : decode cX8_findJoin 20 = .ok (.iconst 0, 1) := by decide +kernel
theorem dX8_findJoin_21 : decode cX8_findJoin 21 = .ok (.istore_n 3, 1) := by decide +kernel
theorem dX8_findJoin_22 : decode cX8_findJoin 22 = .ok (.iload_n 3, 1) := by decide +kernel
theorem dX8_findJoin_23 : decode cX8_findJoin 23 = .ok (.sipush 144, 3) := by decide +kernel
theorem dX8_findJoin_26 : decode cX8_findJoin 26 = .ok (.if_icmp .ge 165, 3) := by decide +kernel
theorem dX8_findJoin_29 : decode cX8_findJoin 29 = .ok (.iload_n 3, 1) := by decide +kernel
theorem dX8_findJoin_30 : decode cX8_findJoin 30 = .ok (.bipush 12, 2) := by decide +kernel
theorem dX8_findJoin_32 : decode cX8_findJoin 32 = .ok (.irem, 1) := by decide +kernel
theorem dX8_findJoin_33 : decode cX8_findJoin 33 = .ok (.istore 4, 2) := by decide +kernel
theorem dX8_findJoin_35 : decode cX8_findJoin 35 = .ok (.iload_n 3, 1) := by decide +kernel
theorem dX8_findJoin_36 : decode cX8_findJoin 36 = .ok (.bipush 12, 2) := by decide +kernel
theorem dX8_findJoin_38 : decode cX8_findJoin 38 = .ok (.idiv, 1) := by decide +kernel
theorem dX8_findJoin_39 : decode cX8_findJoin 39 = .ok (.istore 5, 2) := by decide +kernel
theorem dX8_findJoin_41 : decode cX8_findJoin 41 = .ok (.aload_n 0, 1) := by decide +kernel
theorem dX8_findJoin_42 : decode cX8_findJoin 42 = .ok (.getfield 101, 3) := by decide +kernel
theorem dX8_findJoin_45 : decode cX8_findJoin 45 = .ok (.iload_n 3, 1) := by decide +kernel
theorem dX8_findJoin_46 : decode cX8_findJoin 46 = .ok (.iaload, 1) := by decide +kernel
theorem dX8_findJoin_47 : decode cX8_findJoin 47 = .ok (.istore 6, 2) := by decide +kernel
theorem dX8_findJoin_49 : decode cX8_findJoin 49 = .ok (.aload_n 0, 1) := by decide +kernel
theorem dX8_findJoin_50 : decode cX8_findJoin 50 = .ok (.iconst 1, 1) := by decide +kernel
theorem dX8_findJoin_51 : decode cX8_findJoin 51 = .ok (.iload 4, 2) := by decide +kernel
theorem dX8_findJoin_53 : decode cX8_findJoin 53 = .ok (.iload_n 1, 1) := by decide +kernel
theorem dX8_findJoin_54 : decode cX8_findJoin 54 = .ok (.isub, 1) := by decide +kernel
theorem dX8_findJoin_55 : decode cX8_findJoin 55 = .ok (.iload 5, 2) := by decide +kernel
theorem dX8_findJoin_57 : decode cX8_findJoin 57 = .ok (.iload_n 2, 1) := by decide +kernel
theorem dX8_findJoin_58 : decode cX8_findJoin 58 = .ok (.isub, 1) := by decide +kernel
theorem dX8_findJoin_59 : decode cX8_findJoin 59 = .ok (.invokevirtual 272, 3) := by decide +kernel
theorem dX8_findJoin_62 : decode cX8_findJoin 62 = .ok (.istore 7, 2) := by decide +kernel
theorem dX8_findJoin_64 : decode cX8_findJoin 64 = .ok (.aload_n 0, 1) := by decide +kernel
theorem dX8_findJoin_65 : decode cX8_findJoin 65 = .ok (.getfield 104, 3) := by decide +kernel
theorem dX8_findJoin_68 : decode cX8_findJoin 68 = .ok (.iconst 0, 1) := by decide +kernel
theorem dX8_findJoin_69 : decode cX8_findJoin 69 = .ok (.dup2, 1) := by decide +kernel
theorem dX8_findJoin_70 : decode cX8_findJoin 70 = .ok (.iaload, 1) := by decide +kernel
theorem dX8_findJoin_71 : decode cX8_findJoin 71 = .ok (.iload 6, 2) := by decide +kernel
theorem dX8_findJoin_73 : decode cX8_findJoin 73 = .ok (.ifCond .le 12, 3) := by decide +kernel
theorem dX8_findJoin_76 : decode cX8_findJoin 76 = .ok (.iload 7, 2) := by decide +kernel
theorem dX8_findJoin_78 : decode cX8_findJoin 78 = .ok (.ifCond .le 7, 3) := by decide +kernel
theorem dX8_findJoin_81 : decode cX8_findJoin 81 = .ok (.iconst 1, 1) := by decide +kernel
theorem dX8_findJoin_82 : decode cX8_findJoin 82 = .ok (.goto 4, 3) := by decide +kernel
theorem dX8_findJoin_85 : decode cX8_findJoin 85 = .ok (.iconst 0, 1) := by decide +kernel
theorem dX8_findJoin_86 : decode cX8_findJoin 86 = .ok (.iadd, 1) := by decide +kernel
theorem dX8_findJoin_87 : decode cX8_findJoin 87 = .ok (.iastore, 1) := by decide +kernel
theorem dX8_findJoin_88 : decode cX8_findJoin 88 = .ok (.aload_n 0, 1) := by decide +kernel
theorem dX8_findJoin_89 : decode cX8_findJoin 89 = .ok (.getfield 104, 3) := by decide +kernel
theorem dX8_findJoin_92 : decode cX8_findJoin 92 = .ok (.iconst 1, 1) := by decide +kernel
theorem dX8_findJoin_93 : decode cX8_findJoin 93 = .ok (.dup2, 1) := by decide +kernel
theorem dX8_findJoin_94 : decode cX8_findJoin 94 = .ok (.iaload, 1) := by decide +kernel
theorem dX8_findJoin_95 : decode cX8_findJoin 95 = .ok (.iload 6, 2) := by decide +kernel
theorem dX8_findJoin_97 : decode cX8_findJoin 97 = .ok (.ifCond .le 14, 3) := by decide +kernel
theorem dX8_findJoin_100 : decode cX8_findJoin 100 = .ok (.iload 7, 2) := by decide +kernel
theorem dX8_findJoin_102 : decode cX8_findJoin 102 = .ok (.iload 6, 2) := by decide +kernel
theorem dX8_findJoin_104 : decode cX8_findJoin 104 = .ok (.if_icmp .ne 7, 3) := by decide +kernel
theorem dX8_findJoin_107 : decode cX8_findJoin 107 = .ok (.iconst 1, 1) := by decide +kernel
theorem dX8_findJoin_108 : decode cX8_findJoin 108 = .ok (.goto 4, 3) := by decide +kernel
theorem dX8_findJoin_111 : decode cX8_findJoin 111 = .ok (.iconst 0, 1) := by decide +kernel
theorem dX8_findJoin_112 : decode cX8_findJoin 112 = .ok (.iadd, 1) := by decide +kernel
theorem dX8_findJoin_113 : decode cX8_findJoin 113 = .ok (.iastore, 1) := by decide +kernel
theorem dX8_findJoin_114 : decode cX8_findJoin 114 = .ok (.aload_n 0, 1) := by decide +kernel
theorem dX8_findJoin_115 : decode cX8_findJoin 115 = .ok (.getfield 104, 3) := by decide +kernel
theorem dX8_findJoin_118 : decode cX8_findJoin 118 = .ok (.iconst 2, 1) := by decide +kernel
theorem dX8_findJoin_119 : decode cX8_findJoin 119 = .ok (.dup2, 1) := by decide +kernel
theorem dX8_findJoin_120 : decode cX8_findJoin 120 = .ok (.iaload, 1) := by decide +kernel
theorem dX8_findJoin_121 : decode cX8_findJoin 121 = .ok (.iload 6, 2) := by decide +kernel
theorem dX8_findJoin_123 : decode cX8_findJoin 123 = .ok (.ifCond .le 12, 3) := by decide +kernel
theorem dX8_findJoin_126 : decode cX8_findJoin 126 = .ok (.iload 7, 2) := by decide +kernel
theorem dX8_findJoin_128 : decode cX8_findJoin 128 = .ok (.ifCond .ne 7, 3) := by decide +kernel
theorem dX8_findJoin_131 : decode cX8_findJoin 131 = .ok (.iconst 1, 1) := by decide +kernel
theorem dX8_findJoin_132 : decode cX8_findJoin 132 = .ok (.goto 4, 3) := by decide +kernel
theorem dX8_findJoin_135 : decode cX8_findJoin 135 = .ok (.iconst 0, 1) := by decide +kernel
theorem dX8_findJoin_136 : decode cX8_findJoin 136 = .ok (.iadd, 1) := by decide +kernel
theorem dX8_findJoin_137 : decode cX8_findJoin 137 = .ok (.iastore, 1) := by decide +kernel
theorem dX8_findJoin_138 : decode cX8_findJoin 138 = .ok (.aload_n 0, 1) := by decide +kernel
theorem dX8_findJoin_139 : decode cX8_findJoin 139 = .ok (.getfield 101, 3) := by decide +kernel
theorem dX8_findJoin_142 : decode cX8_findJoin 142 = .ok (.sipush 144, 3) := by decide +kernel
theorem dX8_findJoin_145 : decode cX8_findJoin 145 = .ok (.iload_n 3, 1) := by decide +kernel
theorem dX8_findJoin_146 : decode cX8_findJoin 146 = .ok (.iadd, 1) := by decide +kernel
theorem dX8_findJoin_147 : decode cX8_findJoin 147 = .ok (.iaload, 1) := by decide +kernel
theorem dX8_findJoin_148 : decode cX8_findJoin 148 = .ok (.istore 8, 2) := by decide +kernel
theorem dX8_findJoin_150 : decode cX8_findJoin 150 = .ok (.aload_n 0, 1) := by decide +kernel
theorem dX8_findJoin_151 : decode cX8_findJoin 151 = .ok (.getfield 104, 3) := by decide +kernel
theorem dX8_findJoin_154 : decode cX8_findJoin 154 = .ok (.iconst 3, 1) := by decide +kernel
theorem dX8_findJoin_155 : decode cX8_findJoin 155 = .ok (.dup2, 1) := by decide +kernel
theorem dX8_findJoin_156 : decode cX8_findJoin 156 = .ok (.iaload, 1) := by decide +kernel
theorem dX8_findJoin_157 : decode cX8_findJoin 157 = .ok (.iload 8, 2) := by decide +kernel
theorem dX8_findJoin_159 : decode cX8_findJoin 159 = .ok (.ifCond .le 23, 3) := by decide +kernel
theorem dX8_findJoin_162 : decode cX8_findJoin 162 = .ok (.aload_n 0, 1) := by decide +kernel
theorem dX8_findJoin_163 : decode cX8_findJoin 163 = .ok (.iconst 0, 1) := by decide +kernel
theorem dX8_findJoin_164 : decode cX8_findJoin 164 = .ok (.iload 4, 2) := by decide +kernel
theorem dX8_findJoin_166 : decode cX8_findJoin 166 = .ok (.iload_n 1, 1) := by decide +kernel
theorem dX8_findJoin_167 : decode cX8_findJoin 167 = .ok (.iadd, 1) := by decide +kernel
theorem dX8_findJoin_168 : decode cX8_findJoin 168 = .ok (.iload 5, 2) := by decide +kernel
theorem dX8_findJoin_170 : decode cX8_findJoin 170 = .ok (.iload_n 2, 1) := by decide +kernel
theorem dX8_findJoin_171 : decode cX8_findJoin 171 = .ok (.iadd, 1) := by decide +kernel
theorem dX8_findJoin_172 : decode cX8_findJoin 172 = .ok (.invokevirtual 272, 3) := by decide +kernel
theorem dX8_findJoin_175 : decode cX8_findJoin 175 = .ok (.ifCond .ne 7, 3) := by decide +kernel
theorem dX8_findJoin_178 : decode cX8_findJoin 178 = .ok (.iconst 1, 1) := by decide +kernel
theorem dX8_findJoin_179 : decode cX8_findJoin 179 = .ok (.goto 4, 3) := by decide +kernel
theorem dX8_findJoin_182 : decode cX8_findJoin 182 = .ok (.iconst 0, 1) := by decide +kernel
theorem dX8_findJoin_183 : decode cX8_findJoin 183 = .ok (.iadd, 1) := by decide +kernel
theorem dX8_findJoin_184 : decode cX8_findJoin 184 = .ok (.iastore, 1) := by decide +kernel
theorem dX8_findJoin_185 : decode cX8_findJoin 185 = .ok (.iinc 3 1, 3) := by decide +kernel
theorem dX8_findJoin_188 : decode cX8_findJoin 188 = .ok (.goto (-166), 3) := by decide +kernel
theorem dX8_findJoin_191 : decode cX8_findJoin 191 = .ok (.return_, 1) := by decide +kernel
theorem dX8_isMove_0 : decode cX8_isMove 0 = .ok (.iload_n 0, 1) := by decide +kernel
theorem dX8_isMove_1 : decode cX8_isMove 1 = .ok (.i2l, 1) := by decide +kernel
theorem dX8_isMove_2 : decode cX8_isMove 2 = .ok (.ldc2_w 276, 3) := by decide +kernel
theorem dX8_isMove_5 : decode cX8_isMove 5 = .ok (.ldc2_w 210, 3) := by decide +kernel
theorem dX8_isMove_8 : decode cX8_isMove 8 = .ok (.invokestatic 116, 3) := by decide +kernel
theorem dX8_isMove_11 : decode cX8_isMove 11 = .ok (.ireturn, 1) := by decide +kernel
theorem dX8_join_0 : decode cX8_join 0 = .ok (.aload_n 0, 1) := by decide +kernel
theorem dX8_join_1 : decode cX8_join 1 = .ok (.iconst 0, 1) := by decide +kernel
theorem dX8_join_2 : decode cX8_join 2 = .ok (.putfield 107, 3) := by decide +kernel
theorem dX8_join_5 : decode cX8_join 5 = .ok (.iload_n 1, 1) := by decide +kernel
theorem dX8_join_6 : decode cX8_join 6 = .ok (.invokestatic 278, 3) := by decide +kernel
theorem dX8_join_9 : decode cX8_join 9 = .ok (.ifCond .eq 22, 3) := by decide +kernel
theorem dX8_join_12 : decode cX8_join 12 = .ok (.iload_n 2, 1) := by decide +kernel
theorem dX8_join_13 : decode cX8_join 13 = .ok (.invokestatic 278, 3) := by decide +kernel
theorem dX8_join_16 : decode cX8_join 16 = .ok (.ifCond .eq 15, 3) := by decide +kernel
theorem dX8_join_19 : decode cX8_join 19 = .ok (.iload_n 3, 1) := by decide +kernel
theorem dX8_join_20 : decode cX8_join 20 = .ok (.i2l, 1) := by decide +kernel
theorem dX8_join_21 : decode cX8_join 21 = .ok (.lconst 0, 1) := by decide +kernel
theorem dX8_join_22 : decode cX8_join 22 = .ok (.ldc2_w 210, 3) := by decide +kernel
theorem dX8_join_25 : decode cX8_join 25 = .ok (.invokestatic 116, 3) := by decide +kernel
theorem dX8_join_28 : decode cX8_join 28 = .ok (.ifCond .ne 6, 3) := by decide +kernel
theorem dX8_join_31 : decode cX8_join 31 = .ok (.ldc 126, 2) := by decide +kernel
theorem dX8_join_33 : decode cX8_join 33 = .ok (.ireturn, 1) := by decide +kernel
theorem dX8_join_34 : decode cX8_join 34 = .ok (.aload_n 0, 1) := by decide +kernel
theorem dX8_join_35 : decode cX8_join 35 = .ok (.iload_n 1, 1) := by decide +kernel
theorem dX8_join_36 : decode cX8_join 36 = .ok (.iload_n 2, 1) := by decide +kernel
theorem dX8_join_37 : decode cX8_join 37 = .ok (.invokevirtual 281, 3) := by decide +kernel
theorem dX8_join_40 : decode cX8_join 40 = .ok (.aload_n 0, 1) := by decide +kernel
theorem dX8_join_41 : decode cX8_join 41 = .ok (.getfield 104, 3) := by decide +kernel
theorem dX8_join_44 : decode cX8_join 44 = .ok (.iload_n 3, 1) := by decide +kernel
theorem dX8_join_45 : decode cX8_join 45 = .ok (.iaload, 1) := by decide +kernel
theorem dX8_join_46 : decode cX8_join 46 = .ok (.ireturn, 1) := by decide +kernel
theorem dX8_best_0 : decode cX8_best 0 = .ok (.aload_n 0, 1) := by decide +kernel
theorem dX8_best_1 : decode cX8_best 1 = .ok (.iconst 0, 1) := by decide +kernel
theorem dX8_best_2 : decode cX8_best 2 = .ok (.putfield 107, 3) := by decide +kernel
theorem dX8_best_5 : decode cX8_best 5 = .ok (.iload_n 1, 1) := by decide +kernel
theorem dX8_best_6 : decode cX8_best 6 = .ok (.i2l, 1) := by decide +kernel
theorem dX8_best_7 : decode cX8_best 7 = .ok (.lconst 0, 1) := by decide +kernel
theorem dX8_best_8 : decode cX8_best 8 = .ok (.ldc2_w 124, 3) := by decide +kernel
theorem dX8_best_11 : decode cX8_best 11 = .ok (.invokestatic 116, 3) := by decide +kernel
theorem dX8_best_14 : decode cX8_best 14 = .ok (.ifCond .ne 6, 3) := by decide +kernel
theorem dX8_best_17 : decode cX8_best 17 = .ok (.ldc 126, 2) := by decide +kernel
theorem dX8_best_19 : decode cX8_best 19 = .ok (.ireturn, 1) := by decide +kernel
theorem dX8_best_20 : decode cX8_best 20 = .ok (.ldc 142, 2) := by decide +kernel
theorem dX8_best_22 : decode cX8_best 22 = .ok (.istore_n 2, 1) := by decide +kernel
theorem dX8_best_23 : decode cX8_best 23 = .ok (.ldc 142, 2) := by decide +kernel
theorem dX8_best_25 : decode cX8_best 25 = .ok (.istore_n 3, 1) := by decide +kernel
theorem dX8_best_26 : decode cX8_best 26 = .ok (.iconst 0, 1) := by decide +kernel
theorem dX8_best_27 : decode cX8_best 27 = .ok (.istore 4, 2) := by decide +kernel
theorem dX8_best_29 : decode cX8_best 29 = .ok (.iconst 0, 1) := by decide +kernel
theorem dX8_best_30 : decode cX8_best 30 = .ok (.istore 5, 2) := by decide +kernel
theorem dX8_best_32 : decode cX8_best 32 = .ok (.bipush (-3), 2) := by decide +kernel
theorem dX8_best_34 : decode cX8_best 34 = .ok (.istore 6, 2) := by decide +kernel
theorem dX8_best_36 : decode cX8_best 36 = .ok (.iload 6, 2) := by decide +kernel
theorem dX8_best_38 : decode cX8_best 38 = .ok (.iconst 3, 1) := by decide +kernel
theorem dX8_best_39 : decode cX8_best 39 = .ok (.if_icmp .gt 94, 3) := by decide +kernel
theorem dX8_best_42 : decode cX8_best 42 = .ok (.bipush (-3), 2) := by decide +kernel
theorem dX8_best_44 : decode cX8_best 44 = .ok (.istore 7, 2) := by decide +kernel
theorem dX8_best_46 : decode cX8_best 46 = .ok (.iload 7, 2) := by decide +kernel
theorem dX8_best_48 : decode cX8_best 48 = .ok (.iconst 3, 1) := by decide +kernel
theorem dX8_best_49 : decode cX8_best 49 = .ok (.if_icmp .gt 78, 3) := by decide +kernel
theorem dX8_best_52 : decode cX8_best 52 = .ok (.aload_n 0, 1) := by decide +kernel
theorem dX8_best_53 : decode cX8_best 53 = .ok (.iload 6, 2) := by decide +kernel
theorem dX8_best_55 : decode cX8_best 55 = .ok (.iload 7, 2) := by decide +kernel
theorem dX8_best_57 : decode cX8_best 57 = .ok (.invokevirtual 281, 3) := by decide +kernel
theorem dX8_best_60 : decode cX8_best 60 = .ok (.iload_n 2, 1) := by decide +kernel
theorem dX8_best_61 : decode cX8_best 61 = .ok (.ldc 142, 2) := by decide +kernel
theorem dX8_best_63 : decode cX8_best 63 = .ok (.if_icmp .eq 36, 3) := by decide +kernel
theorem dX8_best_66 : decode cX8_best 66 = .ok (.aload_n 0, 1) := by decide +kernel
theorem dX8_best_67 : decode cX8_best 67 = .ok (.getfield 104, 3) := by decide +kernel
theorem dX8_best_70 : decode cX8_best 70 = .ok (.iconst 1, 1) := by decide +kernel
theorem dX8_best_71 : decode cX8_best 71 = .ok (.iaload, 1) := by decide +kernel
theorem dX8_best_72 : decode cX8_best 72 = .ok (.iload 4, 2) := by decide +kernel
theorem dX8_best_74 : decode cX8_best 74 = .ok (.if_icmp .gt 25, 3) := by decide +kernel
theorem dX8_best_77 : decode cX8_best 77 = .ok (.aload_n 0, 1) := by decide +kernel
theorem dX8_best_78 : decode cX8_best 78 = .ok (.getfield 104, 3) := by decide +kernel
theorem dX8_best_81 : decode cX8_best 81 = .ok (.iconst 1, 1) := by decide +kernel
theorem dX8_best_82 : decode cX8_best 82 = .ok (.iaload, 1) := by decide +kernel
theorem dX8_best_83 : decode cX8_best 83 = .ok (.iload 4, 2) := by decide +kernel
theorem dX8_best_85 : decode cX8_best 85 = .ok (.if_icmp .ne 36, 3) := by decide +kernel
theorem dX8_best_88 : decode cX8_best 88 = .ok (.aload_n 0, 1) := by decide +kernel
theorem dX8_best_89 : decode cX8_best 89 = .ok (.getfield 104, 3) := by decide +kernel
theorem dX8_best_92 : decode cX8_best 92 = .ok (.iconst 0, 1) := by decide +kernel
theorem dX8_best_93 : decode cX8_best 93 = .ok (.iaload, 1) := by decide +kernel
theorem dX8_best_94 : decode cX8_best 94 = .ok (.iload 5, 2) := by decide +kernel
theorem dX8_best_96 : decode cX8_best 96 = .ok (.if_icmp .ge 25, 3) := by decide +kernel
theorem dX8_best_99 : decode cX8_best 99 = .ok (.iload 6, 2) := by decide +kernel
theorem dX8_best_101 : decode cX8_best 101 = .ok (.istore_n 2, 1) := by decide +kernel
theorem dX8_best_102 : decode cX8_best 102 = .ok (.iload 7, 2) := by decide +kernel
theorem dX8_best_104 : decode cX8_best 104 = .ok (.istore_n 3, 1) := by decide +kernel
theorem dX8_best_105 : decode cX8_best 105 = .ok (.aload_n 0, 1) := by decide +kernel
theorem dX8_best_106 : decode cX8_best 106 = .ok (.getfield 104, 3) := by decide +kernel
theorem dX8_best_109 : decode cX8_best 109 = .ok (.iconst 1, 1) := by decide +kernel
theorem dX8_best_110 : decode cX8_best 110 = .ok (.iaload, 1) := by decide +kernel
theorem dX8_best_111 : decode cX8_best 111 = .ok (.istore 4, 2) := by decide +kernel
theorem dX8_best_113 : decode cX8_best 113 = .ok (.aload_n 0, 1) := by decide +kernel
theorem dX8_best_114 : decode cX8_best 114 = .ok (.getfield 104, 3) := by decide +kernel
theorem dX8_best_117 : decode cX8_best 117 = .ok (.iconst 0, 1) := by decide +kernel
theorem dX8_best_118 : decode cX8_best 118 = .ok (.iaload, 1) := by decide +kernel
theorem dX8_best_119 : decode cX8_best 119 = .ok (.istore 5, 2) := by decide +kernel
theorem dX8_best_121 : decode cX8_best 121 = .ok (.iinc 7 1, 3) := by decide +kernel
theorem dX8_best_124 : decode cX8_best 124 = .ok (.goto (-78), 3) := by decide +kernel
theorem dX8_best_127 : decode cX8_best 127 = .ok (.iinc 6 1, 3) := by decide +kernel
theorem dX8_best_130 : decode cX8_best 130 = .ok (.goto (-94), 3) := by decide +kernel
theorem dX8_best_133 : decode cX8_best 133 = .ok (.iload_n 1, 1) := by decide +kernel
theorem dX8_best_134 : decode cX8_best 134 = .ok (.ifCond .ne 7, 3) := by decide +kernel
theorem dX8_best_137 : decode cX8_best 137 = .ok (.iload_n 2, 1) := by decide +kernel
theorem dX8_best_138 : decode cX8_best 138 = .ok (.goto 14, 3) := by decide +kernel
theorem dX8_best_141 : decode cX8_best 141 = .ok (.iload_n 1, 1) := by decide +kernel
theorem dX8_best_142 : decode cX8_best 142 = .ok (.iconst 1, 1) := by decide +kernel
theorem dX8_best_143 : decode cX8_best 143 = .ok (.if_icmp .ne 7, 3) := by decide +kernel
theorem dX8_best_146 : decode cX8_best 146 = .ok (.iload_n 3, 1) := by decide +kernel
theorem dX8_best_147 : decode cX8_best 147 = .ok (.goto 5, 3) := by decide +kernel
theorem dX8_best_150 : decode cX8_best 150 = .ok (.iload 4, 2) := by decide +kernel
theorem dX8_best_152 : decode cX8_best 152 = .ok (.ireturn, 1) := by decide +kernel
theorem dX8_lot_0 : decode cX8_lot 0 = .ok (.aload_n 0, 1) := by decide +kernel
theorem dX8_lot_1 : decode cX8_lot 1 = .ok (.iconst 0, 1) := by decide +kernel
theorem dX8_lot_2 : decode cX8_lot 2 = .ok (.putfield 107, 3) := by decide +kernel
theorem dX8_lot_5 : decode cX8_lot 5 = .ok (.aload_n 0, 1) := by decide +kernel
theorem dX8_lot_6 : decode cX8_lot 6 = .ok (.getfield 240, 3) := by decide +kernel
theorem dX8_lot_9 : decode cX8_lot 9 = .ok (.aload_n 0, 1) := by decide +kernel
theorem dX8_lot_10 : decode cX8_lot 10 = .ok (.getfield 284, 3) := by decide +kernel
theorem dX8_lot_13 : decode cX8_lot 13 = .ok (.isub, 1) := by decide +kernel
theorem dX8_lot_14 : decode cX8_lot 14 = .ok (.istore_n 1, 1) := by decide +kernel
theorem dX8_lot_15 : decode cX8_lot 15 = .ok (.aload_n 0, 1) := by decide +kernel
theorem dX8_lot_16 : decode cX8_lot 16 = .ok (.aload_n 0, 1) := by decide +kernel
theorem dX8_lot_17 : decode cX8_lot 17 = .ok (.getfield 240, 3) := by decide +kernel
theorem dX8_lot_20 : decode cX8_lot 20 = .ok (.putfield 284, 3) := by decide +kernel
theorem dX8_lot_23 : decode cX8_lot 23 = .ok (.iload_n 1, 1) := by decide +kernel
theorem dX8_lot_24 : decode cX8_lot 24 = .ok (.ireturn, 1) := by decide +kernel
theorem dX8_binned_0 : decode cX8_binned 0 = .ok (.iconst 0, 1) := by decide +kernel
theorem dX8_binned_1 : decode cX8_binned 1 = .ok (.istore_n 2, 1) := by decide +kernel
theorem dX8_binned_2 : decode cX8_binned 2 = .ok (.aload_n 0, 1) := by decide +kernel
theorem dX8_binned_3 : decode cX8_binned 3 = .ok (.getfield 284, 3) := by decide +kernel
theorem dX8_binned_6 : decode cX8_binned 6 = .ok (.istore_n 3, 1) := by decide +kernel
theorem dX8_binned_7 : decode cX8_binned 7 = .ok (.iload_n 3, 1) := by decide +kernel
theorem dX8_binned_8 : decode cX8_binned 8 = .ok (.aload_n 0, 1) := by decide +kernel
theorem dX8_binned_9 : decode cX8_binned 9 = .ok (.getfield 240, 3) := by decide +kernel
theorem dX8_binned_12 : decode cX8_binned 12 = .ok (.if_icmp .ge 27, 3) := by decide +kernel
theorem dX8_binned_15 : decode cX8_binned 15 = .ok (.iload_n 2, 1) := by decide +kernel
theorem dX8_binned_16 : decode cX8_binned 16 = .ok (.aload_n 0, 1) := by decide +kernel
theorem dX8_binned_17 : decode cX8_binned 17 = .ok (.getfield 79, 3) := by decide +kernel
theorem dX8_binned_20 : decode cX8_binned 20 = .ok (.iload_n 3, 1) := by decide +kernel
theorem dX8_binned_21 : decode cX8_binned 21 = .ok (.iaload, 1) := by decide +kernel
theorem dX8_binned_22 : decode cX8_binned 22 = .ok (.iload_n 1, 1) := by decide +kernel
theorem dX8_binned_23 : decode cX8_binned 23 = .ok (.if_icmp .ne 7, 3) := by decide +kernel
theorem dX8_binned_26 : decode cX8_binned 26 = .ok (.iconst 1, 1) := by decide +kernel
theorem dX8_binned_27 : decode cX8_binned 27 = .ok (.goto 4, 3) := by decide +kernel
theorem dX8_binned_30 : decode cX8_binned 30 = .ok (.iconst 0, 1) := by decide +kernel
theorem dX8_binned_31 : decode cX8_binned 31 = .ok (.iadd, 1) := by decide +kernel
theorem dX8_binned_32 : decode cX8_binned 32 = .ok (.istore_n 2, 1) := by decide +kernel
theorem dX8_binned_33 : decode cX8_binned 33 = .ok (.iinc 3 1, 3) := by decide +kernel
theorem dX8_binned_36 : decode cX8_binned 36 = .ok (.goto (-29), 3) := by decide +kernel
theorem dX8_binned_39 : decode cX8_binned 39 = .ok (.iload_n 2, 1) := by decide +kernel
theorem dX8_binned_40 : decode cX8_binned 40 = .ok (.ireturn, 1) := by decide +kernel
theorem dX8_bins_0 : decode cX8_bins 0 = .ok (.aload_n 0, 1) := by decide +kernel
theorem dX8_bins_1 : decode cX8_bins 1 = .ok (.iconst 0, 1) := by decide +kernel
theorem dX8_bins_2 : decode cX8_bins 2 = .ok (.putfield 107, 3) := by decide +kernel
theorem dX8_bins_5 : decode cX8_bins 5 = .ok (.iload_n 1, 1) := by decide +kernel
theorem dX8_bins_6 : decode cX8_bins 6 = .ok (.i2l, 1) := by decide +kernel
theorem dX8_bins_7 : decode cX8_bins 7 = .ok (.lconst 0, 1) := by decide +kernel
theorem dX8_bins_8 : decode cX8_bins 8 = .ok (.ldc2_w 202, 3) := by decide +kernel
theorem dX8_bins_11 : decode cX8_bins 11 = .ok (.invokestatic 116, 3) := by decide +kernel
theorem dX8_bins_14 : decode cX8_bins 14 = .ok (.ifCond .eq 11, 3) := by decide +kernel
theorem dX8_bins_17 : decode cX8_bins 17 = .ok (.aload_n 0, 1) := by decide +kernel
theorem dX8_bins_18 : decode cX8_bins 18 = .ok (.iload_n 1, 1) := by decide +kernel
theorem dX8_bins_19 : decode cX8_bins 19 = .ok (.invokevirtual 287, 3) := by decide +kernel
theorem dX8_bins_22 : decode cX8_bins 22 = .ok (.goto 5, 3) := by decide +kernel
theorem dX8_bins_25 : decode cX8_bins 25 = .ok (.ldc 126, 2) := by decide +kernel
theorem dX8_bins_27 : decode cX8_bins 27 = .ok (.ireturn, 1) := by decide +kernel
theorem dX8_held_0 : decode cX8_held 0 = .ok (.aload_n 0, 1) := by decide +kernel
theorem dX8_held_1 : decode cX8_held 1 = .ok (.iconst 0, 1) := by decide +kernel
theorem dX8_held_2 : decode cX8_held 2 = .ok (.putfield 107, 3) := by decide +kernel
theorem dX8_held_5 : decode cX8_held 5 = .ok (.iload_n 1, 1) := by decide +kernel
theorem dX8_held_6 : decode cX8_held 6 = .ok (.i2l, 1) := by decide +kernel
theorem dX8_held_7 : decode cX8_held 7 = .ok (.lconst 0, 1) := by decide +kernel
theorem dX8_held_8 : decode cX8_held 8 = .ok (.ldc2_w 290, 3) := by decide +kernel
theorem dX8_held_11 : decode cX8_held 11 = .ok (.invokestatic 116, 3) := by decide +kernel
theorem dX8_held_14 : decode cX8_held 14 = .ok (.ifCond .eq 7, 3) := by decide +kernel
theorem dX8_held_17 : decode cX8_held 17 = .ok (.iload_n 2, 1) := by decide +kernel
theorem dX8_held_18 : decode cX8_held 18 = .ok (.ifCond .ge 6, 3) := by decide +kernel
theorem dX8_held_21 : decode cX8_held 21 = .ok (.ldc 126, 2) := by decide +kernel
theorem dX8_held_23 : decode cX8_held 23 = .ok (.ireturn, 1) := by decide +kernel
theorem dX8_held_24 : decode cX8_held 24 = .ok (.aload_n 0, 1) := by decide +kernel
theorem dX8_held_25 : decode cX8_held 25 = .ok (.getfield 240, 3) := by decide +kernel
theorem dX8_held_28 : decode cX8_held 28 = .ok (.aload_n 0, 1) := by decide +kernel
theorem dX8_held_29 : decode cX8_held 29 = .ok (.getfield 284, 3) := by decide +kernel
theorem dX8_held_32 : decode cX8_held 32 = .ok (.isub, 1) := by decide +kernel
theorem dX8_held_33 : decode cX8_held 33 = .ok (.istore_n 3, 1) := by decide +kernel
theorem dX8_held_34 : decode cX8_held 34 = .ok (.iload_n 3, 1) := by decide +kernel
theorem dX8_held_35 : decode cX8_held 35 = .ok (.ifCond .ne 6, 3) := by decide +kernel
theorem dX8_held_38 : decode cX8_held 38 = .ok (.ldc 196, 2) := by decide +kernel
theorem dX8_held_40 : decode cX8_held 40 = .ok (.ireturn, 1) := by decide +kernel
theorem dX8_held_41 : decode cX8_held 41 = .ok (.bipush 100, 2) := by decide +kernel
theorem dX8_held_43 : decode cX8_held 43 = .ok (.aload_n 0, 1) := by decide +kernel
theorem dX8_held_44 : decode cX8_held 44 = .ok (.iconst 0, 1) := by decide +kernel
theorem dX8_held_45 : decode cX8_held 45 = .ok (.invokevirtual 287, 3) := by decide +kernel
theorem dX8_held_48 : decode cX8_held 48 = .ok (.imul, 1) := by decide +kernel
theorem dX8_held_49 : decode cX8_held 49 = .ok (.iload_n 1, 1) := by decide +kernel
theorem dX8_held_50 : decode cX8_held 50 = .ok (.iload_n 3, 1) := by decide +kernel
theorem dX8_held_51 : decode cX8_held 51 = .ok (.imul, 1) := by decide +kernel
theorem dX8_held_52 : decode cX8_held 52 = .ok (.if_icmp .ge 7, 3) := by decide +kernel
theorem dX8_held_55 : decode cX8_held 55 = .ok (.iconst 1, 1) := by decide +kernel
theorem dX8_held_56 : decode cX8_held 56 = .ok (.goto 4, 3) := by decide +kernel
theorem dX8_held_59 : decode cX8_held 59 = .ok (.iconst 0, 1) := by decide +kernel
theorem dX8_held_60 : decode cX8_held 60 = .ok (.istore 4, 2) := by decide +kernel
theorem dX8_held_62 : decode cX8_held 62 = .ok (.iconst 1, 1) := by decide +kernel
theorem dX8_held_63 : decode cX8_held 63 = .ok (.istore 5, 2) := by decide +kernel
theorem dX8_held_65 : decode cX8_held 65 = .ok (.iload 5, 2) := by decide +kernel
theorem dX8_held_67 : decode cX8_held 67 = .ok (.bipush 16, 2) := by decide +kernel
theorem dX8_held_69 : decode cX8_held 69 = .ok (.if_icmp .ge 31, 3) := by decide +kernel
theorem dX8_held_72 : decode cX8_held 72 = .ok (.iload 4, 2) := by decide +kernel
theorem dX8_held_74 : decode cX8_held 74 = .ok (.ifCond .ne 13, 3) := by decide +kernel
theorem dX8_held_77 : decode cX8_held 77 = .ok (.aload_n 0, 1) := by decide +kernel
theorem dX8_held_78 : decode cX8_held 78 = .ok (.iload 5, 2) := by decide +kernel
theorem dX8_held_80 : decode cX8_held 80 = .ok (.invokevirtual 287, 3) := by decide +kernel
theorem dX8_held_83 : decode cX8_held 83 = .ok (.iload_n 2, 1) := by decide +kernel
theorem dX8_held_84 : decode cX8_held 84 = .ok (.if_icmp .le 7, 3) := by decide +kernel
theorem dX8_held_87 : decode cX8_held 87 = .ok (.iconst 1, 1) := by decide +kernel
theorem dX8_held_88 : decode cX8_held 88 = .ok (.goto 4, 3) := by decide +kernel
theorem dX8_held_91 : decode cX8_held 91 = .ok (.iconst 0, 1) := by decide +kernel
theorem dX8_held_92 : decode cX8_held 92 = .ok (.istore 4, 2) := by decide +kernel
theorem dX8_held_94 : decode cX8_held 94 = .ok (.iinc 5 1, 3) := by decide +kernel
theorem dX8_held_97 : decode cX8_held 97 = .ok (.goto (-32), 3) := by decide +kernel
theorem dX8_held_100 : decode cX8_held 100 = .ok (.iload 4, 2) := by decide +kernel
theorem dX8_held_102 : decode cX8_held 102 = .ok (.ifCond .eq 7, 3) := by decide +kernel
theorem dX8_held_105 : decode cX8_held 105 = .ok (.iconst 1, 1) := by decide +kernel
theorem dX8_held_106 : decode cX8_held 106 = .ok (.goto 4, 3) := by decide +kernel
theorem dX8_held_109 : decode cX8_held 109 = .ok (.iconst 0, 1) := by decide +kernel
theorem dX8_held_110 : decode cX8_held 110 = .ok (.ireturn, 1) := by decide +kernel
theorem dX8_ways_0 : decode cX8_ways 0 = .ok (.iload_n 1, 1) := by decide +kernel
theorem dX8_ways_1 : decode cX8_ways 1 = .ok (.ifCond .lt 8, 3) := by decide +kernel
theorem dX8_ways_4 : decode cX8_ways 4 = .ok (.iload_n 1, 1) := by decide +kernel
theorem dX8_ways_5 : decode cX8_ways 5 = .ok (.iload_n 0, 1) := by decide +kernel
theorem dX8_ways_6 : decode cX8_ways 6 = .ok (.if_icmp .le 7, 3) := by decide +kernel
theorem dX8_ways_9 : decode cX8_ways 9 = .ok (.lconst 0, 1) := by decide +kernel
theorem dX8_ways_10 : decode cX8_ways 10 = .ok (.goto 4, 3) := by decide +kernel
theorem dX8_ways_13 : decode cX8_ways 13 = .ok (.lconst 1, 1) := by decide +kernel
theorem dX8_ways_14 : decode cX8_ways 14 = .ok (.lstore_n 2, 1) := by decide +kernel
theorem dX8_ways_15 : decode cX8_ways 15 = .ok (.iconst 1, 1) := by decide +kernel
theorem dX8_ways_16 : decode cX8_ways 16 = .ok (.istore 4, 2) := by decide +kernel
theorem dX8_ways_18 : decode cX8_ways 18 = .ok (.iload 4, 2) := by decide +kernel
theorem dX8_ways_20 : decode cX8_ways 20 = .ok (.iload_n 1, 1) := by decide +kernel
theorem dX8_ways_21 : decode cX8_ways 21 = .ok (.if_icmp .gt 29, 3) := by decide +kernel
theorem dX8_ways_24 : decode cX8_ways 24 = .ok (.lload_n 2, 1) := by decide +kernel
theorem dX8_ways_25 : decode cX8_ways 25 = .ok (.lconst 0, 1) := by decide +kernel
theorem dX8_ways_26 : decode cX8_ways 26 = .ok (.lcmp, 1) := by decide +kernel
theorem dX8_ways_27 : decode cX8_ways 27 = .ok (.ifCond .le 23, 3) := by decide +kernel
theorem dX8_ways_30 : decode cX8_ways 30 = .ok (.lload_n 2, 1) := by decide +kernel
theorem dX8_ways_31 : decode cX8_ways 31 = .ok (.iload_n 0, 1) := by decide +kernel
theorem dX8_ways_32 : decode cX8_ways 32 = .ok (.iload 4, 2) := by decide +kernel
theorem dX8_ways_34 : decode cX8_ways 34 = .ok (.isub, 1) := by decide +kernel
theorem dX8_ways_35 : decode cX8_ways 35 = .ok (.iconst 1, 1) := by decide +kernel
theorem dX8_ways_36 : decode cX8_ways 36 = .ok (.iadd, 1) := by decide +kernel
theorem dX8_ways_37 : decode cX8_ways 37 = .ok (.i2l, 1) := by decide +kernel
theorem dX8_ways_38 : decode cX8_ways 38 = .ok (.lmul, 1) := by decide +kernel
theorem dX8_ways_39 : decode cX8_ways 39 = .ok (.iload 4, 2) := by decide +kernel
theorem dX8_ways_41 : decode cX8_ways 41 = .ok (.i2l, 1) := by decide +kernel
theorem dX8_ways_42 : decode cX8_ways 42 = .ok (.ldiv, 1) := by decide +kernel
theorem dX8_ways_43 : decode cX8_ways 43 = .ok (.lstore_n 2, 1) := by decide +kernel
theorem dX8_ways_44 : decode cX8_ways 44 = .ok (.iinc 4 1, 3) := by decide +kernel
theorem dX8_ways_47 : decode cX8_ways 47 = .ok (.goto (-29), 3) := by decide +kernel
theorem dX8_ways_50 : decode cX8_ways 50 = .ok (.lload_n 2, 1) := by decide +kernel
theorem dX8_ways_51 : decode cX8_ways 51 = .ok (.lreturn, 1) := by decide +kernel
theorem dX8_chance_0 : decode cX8_chance 0 = .ok (.aload_n 0, 1) := by decide +kernel
theorem dX8_chance_1 : decode cX8_chance 1 = .ok (.iconst 0, 1) := by decide +kernel
theorem dX8_chance_2 : decode cX8_chance 2 = .ok (.putfield 107, 3) := by decide +kernel
theorem dX8_chance_5 : decode cX8_chance 5 = .ok (.iload_n 1, 1) := by decide +kernel
theorem dX8_chance_6 : decode cX8_chance 6 = .ok (.invokestatic 224, 3) := by decide +kernel
theorem dX8_chance_9 : decode cX8_chance 9 = .ok (.ifCond .eq 13, 3) := by decide +kernel
theorem dX8_chance_12 : decode cX8_chance 12 = .ok (.iload_n 2, 1) := by decide +kernel
theorem dX8_chance_13 : decode cX8_chance 13 = .ok (.i2l, 1) := by decide +kernel
theorem dX8_chance_14 : decode cX8_chance 14 = .ok (.lconst 0, 1) := by decide +kernel
theorem dX8_chance_15 : decode cX8_chance 15 = .ok (.lconst 1, 1) := by decide +kernel
theorem dX8_chance_16 : decode cX8_chance 16 = .ok (.invokestatic 116, 3) := by decide +kernel
theorem dX8_chance_19 : decode cX8_chance 19 = .ok (.ifCond .ne 7, 3) := by decide +kernel
theorem dX8_chance_22 : decode cX8_chance 22 = .ok (.ldc2_w 292, 3) := by decide +kernel
theorem dX8_chance_25 : decode cX8_chance 25 = .ok (.lreturn, 1) := by decide +kernel
theorem dX8_chance_26 : decode cX8_chance 26 = .ok (.aload_n 0, 1) := by decide +kernel
theorem dX8_chance_27 : decode cX8_chance 27 = .ok (.getfield 240, 3) := by decide +kernel
theorem dX8_chance_30 : decode cX8_chance 30 = .ok (.aload_n 0, 1) := by decide +kernel
theorem dX8_chance_31 : decode cX8_chance 31 = .ok (.getfield 284, 3) := by decide +kernel
theorem dX8_chance_34 : decode cX8_chance 34 = .ok (.isub, 1) := by decide +kernel
theorem dX8_chance_35 : decode cX8_chance 35 = .ok (.istore_n 3, 1) := by decide +kernel
theorem dX8_chance_36 : decode cX8_chance 36 = .ok (.iconst 0, 1) := by decide +kernel
theorem dX8_chance_37 : decode cX8_chance 37 = .ok (.istore 4, 2) := by decide +kernel
theorem dX8_chance_39 : decode cX8_chance 39 = .ok (.iconst 0, 1) := by decide +kernel
theorem dX8_chance_40 : decode cX8_chance 40 = .ok (.istore 5, 2) := by decide +kernel
theorem dX8_chance_42 : decode cX8_chance 42 = .ok (.aload_n 0, 1) := by decide +kernel
theorem dX8_chance_43 : decode cX8_chance 43 = .ok (.getfield 284, 3) := by decide +kernel
theorem dX8_chance_46 : decode cX8_chance 46 = .ok (.istore 6, 2) := by decide +kernel
theorem dX8_chance_48 : decode cX8_chance 48 = .ok (.iload 6, 2) := by decide +kernel
theorem dX8_chance_50 : decode cX8_chance 50 = .ok (.aload_n 0, 1) := by decide +kernel
theorem dX8_chance_51 : decode cX8_chance 51 = .ok (.getfield 240, 3) := by decide +kernel
theorem dX8_chance_54 : decode cX8_chance 54 = .ok (.if_icmp .ge 61, 3) := by decide +kernel
theorem dX8_chance_57 : decode cX8_chance 57 = .ok (.iload 4, 2) := by decide +kernel
theorem dX8_chance_59 : decode cX8_chance 59 = .ok (.aload_n 0, 1) := by decide +kernel
theorem dX8_chance_60 : decode cX8_chance 60 = .ok (.getfield 91, 3) := by decide +kernel
theorem dX8_chance_63 : decode cX8_chance 63 = .ok (.iload 6, 2) := by decide +kernel
theorem dX8_chance_65 : decode cX8_chance 65 = .ok (.iaload, 1) := by decide +kernel
theorem dX8_chance_66 : decode cX8_chance 66 = .ok (.iload_n 1, 1) := by decide +kernel
theorem dX8_chance_67 : decode cX8_chance 67 = .ok (.if_icmp .ne 7, 3) := by decide +kernel
theorem dX8_chance_70 : decode cX8_chance 70 = .ok (.iconst 1, 1) := by decide +kernel
theorem dX8_chance_71 : decode cX8_chance 71 = .ok (.goto 4, 3) := by decide +kernel
theorem dX8_chance_74 : decode cX8_chance 74 = .ok (.iconst 0, 1) := by decide +kernel
theorem dX8_chance_75 : decode cX8_chance 75 = .ok (.iadd, 1) := by decide +kernel
theorem dX8_chance_76 : decode cX8_chance 76 = .ok (.istore 4, 2) := by decide +kernel
theorem dX8_chance_78 : decode cX8_chance 78 = .ok (.iload 5, 2) := by decide +kernel
theorem dX8_chance_80 : decode cX8_chance 80 = .ok (.aload_n 0, 1) := by decide +kernel
theorem dX8_chance_81 : decode cX8_chance 81 = .ok (.getfield 91, 3) := by decide +kernel
theorem dX8_chance_84 : decode cX8_chance 84 = .ok (.iload 6, 2) := by decide +kernel
theorem dX8_chance_86 : decode cX8_chance 86 = .ok (.iaload, 1) := by decide +kernel
theorem dX8_chance_87 : decode cX8_chance 87 = .ok (.iload_n 1, 1) := by decide +kernel
theorem dX8_chance_88 : decode cX8_chance 88 = .ok (.if_icmp .ne 17, 3) := by decide +kernel
theorem dX8_chance_91 : decode cX8_chance 91 = .ok (.aload_n 0, 1) := by decide +kernel
theorem dX8_chance_92 : decode cX8_chance 92 = .ok (.getfield 79, 3) := by decide +kernel
theorem dX8_chance_95 : decode cX8_chance 95 = .ok (.iload 6, 2) := by decide +kernel
theorem dX8_chance_97 : decode cX8_chance 97 = .ok (.iaload, 1) := by decide +kernel
theorem dX8_chance_98 : decode cX8_chance 98 = .ok (.ifCond .ne 7, 3) := by decide +kernel
theorem dX8_chance_101 : decode cX8_chance 101 = .ok (.iconst 1, 1) := by decide +kernel
theorem dX8_chance_102 : decode cX8_chance 102 = .ok (.goto 4, 3) := by decide +kernel
theorem dX8_chance_105 : decode cX8_chance 105 = .ok (.iconst 0, 1) := by decide +kernel
theorem dX8_chance_106 : decode cX8_chance 106 = .ok (.iadd, 1) := by decide +kernel
theorem dX8_chance_107 : decode cX8_chance 107 = .ok (.istore 5, 2) := by decide +kernel
theorem dX8_chance_109 : decode cX8_chance 109 = .ok (.iinc 6 1, 3) := by decide +kernel
theorem dX8_chance_112 : decode cX8_chance 112 = .ok (.goto (-64), 3) := by decide +kernel
theorem dX8_chance_115 : decode cX8_chance 115 = .ok (.iload 4, 2) := by decide +kernel
theorem dX8_chance_117 : decode cX8_chance 117 = .ok (.ifCond .eq 9, 3) := by decide +kernel
theorem dX8_chance_120 : decode cX8_chance 120 = .ok (.iload_n 3, 1) := by decide +kernel
theorem dX8_chance_121 : decode cX8_chance 121 = .ok (.bipush 40, 2) := by decide +kernel
theorem dX8_chance_123 : decode cX8_chance 123 = .ok (.if_icmp .le 7, 3) := by decide +kernel
theorem dX8_chance_126 : decode cX8_chance 126 = .ok (.ldc2_w 294, 3) := by decide +kernel
theorem dX8_chance_129 : decode cX8_chance 129 = .ok (.lreturn, 1) := by decide +kernel
theorem dX8_chance_130 : decode cX8_chance 130 = .ok (.aload_n 0, 1) := by decide +kernel
theorem dX8_chance_131 : decode cX8_chance 131 = .ok (.iconst 0, 1) := by decide +kernel
theorem dX8_chance_132 : decode cX8_chance 132 = .ok (.invokevirtual 287, 3) := by decide +kernel
theorem dX8_chance_135 : decode cX8_chance 135 = .ok (.istore 6, 2) := by decide +kernel
theorem dX8_chance_137 : decode cX8_chance 137 = .ok (.lconst 0, 1) := by decide +kernel
theorem dX8_chance_138 : decode cX8_chance 138 = .ok (.lstore 7, 2) := by decide +kernel
theorem dX8_chance_140 : decode cX8_chance 140 = .ok (.iconst 0, 1) := by decide +kernel
theorem dX8_chance_141 : decode cX8_chance 141 = .ok (.istore 9, 2) := by decide +kernel
theorem dX8_chance_143 : decode cX8_chance 143 = .ok (.iload 9, 2) := by decide +kernel
theorem dX8_chance_145 : decode cX8_chance 145 = .ok (.iload 5, 2) := by decide +kernel
theorem dX8_chance_147 : decode cX8_chance 147 = .ok (.if_icmp .gt 34, 3) := by decide +kernel
theorem dX8_chance_150 : decode cX8_chance 150 = .ok (.lload 7, 2) := by decide +kernel
theorem dX8_chance_152 : decode cX8_chance 152 = .ok (.iload 6, 2) := by decide +kernel
theorem dX8_chance_154 : decode cX8_chance 154 = .ok (.iload 9, 2) := by decide +kernel
theorem dX8_chance_156 : decode cX8_chance 156 = .ok (.invokestatic 296, 3) := by decide +kernel
theorem dX8_chance_159 : decode cX8_chance 159 = .ok (.iload_n 3, 1) := by decide +kernel
theorem dX8_chance_160 : decode cX8_chance 160 = .ok (.iload 6, 2) := by decide +kernel
theorem dX8_chance_162 : decode cX8_chance 162 = .ok (.isub, 1) := by decide +kernel
theorem dX8_chance_163 : decode cX8_chance 163 = .ok (.iload 4, 2) := by decide +kernel
theorem dX8_chance_165 : decode cX8_chance 165 = .ok (.iload 9, 2) := by decide +kernel
theorem dX8_chance_167 : decode cX8_chance 167 = .ok (.isub, 1) := by decide +kernel
theorem dX8_chance_168 : decode cX8_chance 168 = .ok (.invokestatic 296, 3) := by decide +kernel
theorem dX8_chance_171 : decode cX8_chance 171 = .ok (.lmul, 1) := by decide +kernel
theorem dX8_chance_172 : decode cX8_chance 172 = .ok (.ladd, 1) := by decide +kernel
theorem dX8_chance_173 : decode cX8_chance 173 = .ok (.lstore 7, 2) := by decide +kernel
theorem dX8_chance_175 : decode cX8_chance 175 = .ok (.iinc 9 1, 3) := by decide +kernel
theorem dX8_chance_178 : decode cX8_chance 178 = .ok (.goto (-35), 3) := by decide +kernel
theorem dX8_chance_181 : decode cX8_chance 181 = .ok (.iload_n 2, 1) := by decide +kernel
theorem dX8_chance_182 : decode cX8_chance 182 = .ok (.ifCond .ne 8, 3) := by decide +kernel
theorem dX8_chance_185 : decode cX8_chance 185 = .ok (.lload 7, 2) := by decide +kernel
theorem dX8_chance_187 : decode cX8_chance 187 = .ok (.goto 9, 3) := by decide +kernel
theorem dX8_chance_190 : decode cX8_chance 190 = .ok (.iload_n 3, 1) := by decide +kernel
theorem dX8_chance_191 : decode cX8_chance 191 = .ok (.iload 4, 2) := by decide +kernel
theorem dX8_chance_193 : decode cX8_chance 193 = .ok (.invokestatic 296, 3) := by decide +kernel
theorem dX8_chance_196 : decode cX8_chance 196 = .ok (.lreturn, 1) := by decide +kernel
theorem dX8_count_0 : decode cX8_count 0 = .ok (.aload_n 0, 1) := by decide +kernel
theorem dX8_count_1 : decode cX8_count 1 = .ok (.iconst 0, 1) := by decide +kernel
theorem dX8_count_2 : decode cX8_count 2 = .ok (.putfield 107, 3) := by decide +kernel
theorem dX8_count_5 : decode cX8_count 5 = .ok (.iconst 0, 1) := by decide +kernel
theorem dX8_count_6 : decode cX8_count 6 = .ok (.istore_n 2, 1) := by decide +kernel
theorem dX8_count_7 : decode cX8_count 7 = .ok (.iload_n 1, 1) := by decide +kernel
theorem dX8_count_8 : decode cX8_count 8 = .ok (.tableswitch 181 0 7 #[48, 81, 86, 91, 101, 134, 155, 176], 48) := by decide +kernel
theorem dX8_count_56 : decode cX8_count 56 = .ok (.iconst 0, 1) := by decide +kernel
theorem dX8_count_57 : decode cX8_count 57 = .ok (.istore_n 3, 1) := by decide +kernel
theorem dX8_count_58 : decode cX8_count 58 = .ok (.iload_n 3, 1) := by decide +kernel
theorem dX8_count_59 : decode cX8_count 59 = .ok (.bipush 8, 2) := by decide +kernel
theorem dX8_count_61 : decode cX8_count 61 = .ok (.if_icmp .ge 26, 3) := by decide +kernel
theorem dX8_count_64 : decode cX8_count 64 = .ok (.iload_n 2, 1) := by decide +kernel
theorem dX8_count_65 : decode cX8_count 65 = .ok (.aload_n 0, 1) := by decide +kernel
theorem dX8_count_66 : decode cX8_count 66 = .ok (.getfield 7, 3) := by decide +kernel
theorem dX8_count_69 : decode cX8_count 69 = .ok (.iload_n 3, 1) := by decide +kernel
theorem dX8_count_70 : decode cX8_count 70 = .ok (.iaload, 1) := by decide +kernel
theorem dX8_count_71 : decode cX8_count 71 = .ok (.ifCond .lt 7, 3) := by decide +kernel
theorem dX8_count_74 : decode cX8_count 74 = .ok (.iconst 1, 1) := by decide +kernel
theorem dX8_count_75 : decode cX8_count 75 = .ok (.goto 4, 3) := by decide +kernel
theorem dX8_count_78 : decode cX8_count 78 = .ok (.iconst 0, 1) := by decide +kernel
theorem dX8_count_79 : decode cX8_count 79 = .ok (.iadd, 1) := by decide +kernel
theorem dX8_count_80 : decode cX8_count 80 = .ok (.istore_n 2, 1) := by decide +kernel
theorem dX8_count_81 : decode cX8_count 81 = .ok (.iinc 3 1, 3) := by decide +kernel
theorem dX8_count_84 : decode cX8_count 84 = .ok (.goto (-26), 3) := by decide +kernel
theorem dX8_count_87 : decode cX8_count 87 = .ok (.iload_n 2, 1) := by decide +kernel
theorem dX8_count_88 : decode cX8_count 88 = .ok (.ireturn, 1) := by decide +kernel
theorem dX8_count_89 : decode cX8_count 89 = .ok (.aload_n 0, 1) := by decide +kernel
theorem dX8_count_90 : decode cX8_count 90 = .ok (.getfield 197, 3) := by decide +kernel
theorem dX8_count_93 : decode cX8_count 93 = .ok (.ireturn, 1) := by decide +kernel
theorem dX8_count_94 : decode cX8_count 94 = .ok (.aload_n 0, 1) := by decide +kernel
theorem dX8_count_95 : decode cX8_count 95 = .ok (.getfield 240, 3) := by decide +kernel
theorem dX8_count_98 : decode cX8_count 98 = .ok (.ireturn, 1) := by decide +kernel
theorem dX8_count_99 : decode cX8_count 99 = .ok (.aload_n 0, 1) := by decide +kernel
theorem dX8_count_100 : decode cX8_count 100 = .ok (.getfield 240, 3) := by decide +kernel
theorem dX8_count_103 : decode cX8_count 103 = .ok (.aload_n 0, 1) := by decide +kernel
theorem dX8_count_104 : decode cX8_count 104 = .ok (.getfield 284, 3) := by decide +kernel
theorem dX8_count_107 : decode cX8_count 107 = .ok (.isub, 1) := by decide +kernel
theorem dX8_count_108 : decode cX8_count 108 = .ok (.ireturn, 1) := by decide +kernel
theorem dX8_count_109 : decode cX8_count 109 = .ok (.iconst 0, 1) := by decide +kernel
theorem dX8_count_110 : decode cX8_count 110 = .ok (.istore_n 3, 1) := by decide +kernel
theorem dX8_count_111 : decode cX8_count 111 = .ok (.iload_n 3, 1) := by decide +kernel
theorem dX8_count_112 : decode cX8_count 112 = .ok (.bipush 8, 2) := by decide +kernel
theorem dX8_count_114 : decode cX8_count 114 = .ok (.if_icmp .ge 26, 3) := by decide +kernel
theorem dX8_count_117 : decode cX8_count 117 = .ok (.iload_n 2, 1) := by decide +kernel
theorem dX8_count_118 : decode cX8_count 118 = .ok (.aload_n 0, 1) := by decide +kernel
theorem dX8_count_119 : decode cX8_count 119 = .ok (.getfield 71, 3) := by decide +kernel
theorem dX8_count_122 : decode cX8_count 122 = .ok (.iload_n 3, 1) := by decide +kernel
theorem dX8_count_123 : decode cX8_count 123 = .ok (.baload, 1) := by decide +kernel
theorem dX8_count_124 : decode cX8_count 124 = .ok (.ifCond .eq 7, 3) := by decide +kernel
theorem dX8_count_127 : decode cX8_count 127 = .ok (.iconst 1, 1) := by decide +kernel
theorem dX8_count_128 : decode cX8_count 128 = .ok (.goto 4, 3) := by decide +kernel
theorem dX8_count_131 : decode cX8_count 131 = .ok (.iconst 0, 1) := by decide +kernel
theorem dX8_count_132 : decode cX8_count 132 = .ok (.iadd, 1) := by decide +kernel
theorem dX8_count_133 : decode cX8_count 133 = .ok (.istore_n 2, 1) := by decide +kernel
theorem dX8_count_134 : decode cX8_count 134 = .ok (.iinc 3 1, 3) := by decide +kernel
theorem dX8_count_137 : decode cX8_count 137 = .ok (.goto (-26), 3) := by decide +kernel
theorem dX8_count_140 : decode cX8_count 140 = .ok (.iload_n 2, 1) := by decide +kernel
theorem dX8_count_141 : decode cX8_count 141 = .ok (.ireturn, 1) := by decide +kernel
theorem dX8_count_142 : decode cX8_count 142 = .ok (.aload_n 0, 1) := by decide +kernel
theorem dX8_count_143 : decode cX8_count 143 = .ok (.getfield 192, 3) := by decide +kernel
theorem dX8_count_146 : decode cX8_count 146 = .ok (.ifCond .eq 15, 3) := by decide +kernel
theorem dX8_count_149 : decode cX8_count 149 = .ok (.aload_n 0, 1) := by decide +kernel
theorem dX8_count_150 : decode cX8_count 150 = .ok (.getfield 25, 3) := by decide +kernel
theorem dX8_count_153 : decode cX8_count 153 = .ok (.aload_n 0, 1) := by decide +kernel
theorem dX8_count_154 : decode cX8_count 154 = .ok (.getfield 171, 3) := by decide +kernel
theorem dX8_count_157 : decode cX8_count 157 = .ok (.iaload, 1) := by decide +kernel
theorem dX8_count_158 : decode cX8_count 158 = .ok (.goto 4, 3) := by decide +kernel
theorem dX8_count_161 : decode cX8_count 161 = .ok (.iconst 0, 1) := by decide +kernel
theorem dX8_count_162 : decode cX8_count 162 = .ok (.ireturn, 1) := by decide +kernel
theorem dX8_count_163 : decode cX8_count 163 = .ok (.aload_n 0, 1) := by decide +kernel
theorem dX8_count_164 : decode cX8_count 164 = .ok (.getfield 192, 3) := by decide +kernel
theorem dX8_count_167 : decode cX8_count 167 = .ok (.ifCond .eq 15, 3) := by decide +kernel
theorem dX8_count_170 : decode cX8_count 170 = .ok (.aload_n 0, 1) := by decide +kernel
theorem dX8_count_171 : decode cX8_count 171 = .ok (.getfield 22, 3) := by decide +kernel
theorem dX8_count_174 : decode cX8_count 174 = .ok (.aload_n 0, 1) := by decide +kernel
theorem dX8_count_175 : decode cX8_count 175 = .ok (.getfield 171, 3) := by decide +kernel
theorem dX8_count_178 : decode cX8_count 178 = .ok (.iaload, 1) := by decide +kernel
theorem dX8_count_179 : decode cX8_count 179 = .ok (.goto 4, 3) := by decide +kernel
theorem dX8_count_182 : decode cX8_count 182 = .ok (.iconst 0, 1) := by decide +kernel
theorem dX8_count_183 : decode cX8_count 183 = .ok (.ireturn, 1) := by decide +kernel
theorem dX8_count_184 : decode cX8_count 184 = .ok (.aload_n 0, 1) := by decide +kernel
theorem dX8_count_185 : decode cX8_count 185 = .ok (.getfield 133, 3) := by decide +kernel
theorem dX8_count_188 : decode cX8_count 188 = .ok (.ireturn, 1) := by decide +kernel
theorem dX8_count_189 : decode cX8_count 189 = .ok (.ldc 126, 2) := by decide +kernel
theorem dX8_count_191 : decode cX8_count 191 = .ok (.ireturn, 1) := by decide +kernel
theorem dX8_status_0 : decode cX8_status 0 = .ok (.aload_n 0, 1) := by decide +kernel
theorem dX8_status_1 : decode cX8_status 1 = .ok (.iconst 0, 1) := by decide +kernel
theorem dX8_status_2 : decode cX8_status 2 = .ok (.putfield 107, 3) := by decide +kernel
theorem dX8_status_5 : decode cX8_status 5 = .ok (.aload_n 0, 1) := by decide +kernel
theorem dX8_status_6 : decode cX8_status 6 = .ok (.getfield 110, 3) := by decide +kernel
theorem dX8_status_9 : decode cX8_status 9 = .ok (.ireturn, 1) := by decide +kernel
theorem dL_law_0 : decode cL_law 0 = .ok (.new 7, 3) := by decide +kernel
theorem dL_law_3 : decode cL_law 3 = .ok (.dup, 1) := by decide +kernel
theorem dL_law_4 : decode cL_law 4 = .ok (.invokespecial 9, 3) := by decide +kernel
theorem dL_law_7 : decode cL_law 7 = .ok (.astore_n 1, 1) := by decide +kernel
theorem dL_law_8 : decode cL_law 8 = .ok (.new 10, 3) := by decide +kernel
theorem dL_law_11 : decode cL_law 11 = .ok (.dup, 1) := by decide +kernel
theorem dL_law_12 : decode cL_law 12 = .ok (.invokespecial 12, 3) := by decide +kernel
theorem dL_law_15 : decode cL_law 15 = .ok (.astore_n 2, 1) := by decide +kernel
theorem dL_law_16 : decode cL_law 16 = .ok (.iconst 0, 1) := by decide +kernel
theorem dL_law_17 : decode cL_law 17 = .ok (.istore_n 3, 1) := by decide +kernel
theorem dL_law_18 : decode cL_law 18 = .ok (.iload_n 3, 1) := by decide +kernel
theorem dL_law_19 : decode cL_law 19 = .ok (.aload_n 0, 1) := by decide +kernel
theorem dL_law_20 : decode cL_law 20 = .ok (.arraylength, 1) := by decide +kernel
theorem dL_law_21 : decode cL_law 21 = .ok (.bipush 6, 2) := by decide +kernel
theorem dL_law_23 : decode cL_law 23 = .ok (.isub, 1) := by decide +kernel
theorem dL_law_24 : decode cL_law 24 = .ok (.if_icmp .gt 1288, 3) := by decide +kernel
theorem dL_law_27 : decode cL_law 27 = .ok (.aload_n 0, 1) := by decide +kernel
theorem dL_law_28 : decode cL_law 28 = .ok (.iload_n 3, 1) := by decide +kernel
theorem dL_law_29 : decode cL_law 29 = .ok (.iaload, 1) := by decide +kernel
theorem dL_law_30 : decode cL_law 30 = .ok (.bipush 63, 2) := by decide +kernel
theorem dL_law_32 : decode cL_law 32 = .ok (.iand, 1) := by decide +kernel
theorem dL_law_33 : decode cL_law 33 = .ok (.tableswitch 1273 0 34 #[155, 198, 241, 304, 327, 390, 403, 416, 449, 482, 535, 568, 591, 614, 647, 680, 703, 736, 759, 792, 825, 858, 891, 905, 919, 972, 1025, 1068, 1111, 1134, 1147, 1170, 1203, 1237, 1260], 155) := by decide +kernel
theorem dL_law_188 : decode cL_law 188 = .ok (.aload_n 1, 1) := by decide +kernel
theorem dL_law_189 : decode cL_law 189 = .ok (.aload_n 0, 1) := by decide +kernel
theorem dL_law_190 : decode cL_law 190 = .ok (.iload_n 3, 1) := by decide +kernel
theorem dL_law_191 : decode cL_law 191 = .ok (.iconst 1, 1) := by decide +kernel
theorem dL_law_192 : decode cL_law 192 = .ok (.iadd, 1) := by decide +kernel
theorem dL_law_193 : decode cL_law 193 = .ok (.iaload, 1) := by decide +kernel
theorem dL_law_194 : decode cL_law 194 = .ok (.aload_n 0, 1) := by decide +kernel
theorem dL_law_195 : decode cL_law 195 = .ok (.iload_n 3, 1) := by decide +kernel
theorem dL_law_196 : decode cL_law 196 = .ok (.iconst 2, 1) := by decide +kernel
theorem dL_law_197 : decode cL_law 197 = .ok (.iadd, 1) := by decide +kernel
theorem dL_law_198 : decode cL_law 198 = .ok (.iaload, 1) := by decide +kernel
theorem dL_law_199 : decode cL_law 199 = .ok (.aload_n 0, 1) := by decide +kernel
theorem dL_law_200 : decode cL_law 200 = .ok (.iload_n 3, 1) := by decide +kernel
theorem dL_law_201 : decode cL_law 201 = .ok (.iconst 3, 1) := by decide +kernel
theorem dL_law_202 : decode cL_law 202 = .ok (.iadd, 1) := by decide +kernel
theorem dL_law_203 : decode cL_law 203 = .ok (.iaload, 1) := by decide +kernel
theorem dL_law_204 : decode cL_law 204 = .ok (.invokevirtual 13, 3) := by decide +kernel
theorem dL_law_207 : decode cL_law 207 = .ok (.aload_n 2, 1) := by decide +kernel
theorem dL_law_208 : decode cL_law 208 = .ok (.aload_n 0, 1) := by decide +kernel
theorem dL_law_209 : decode cL_law 209 = .ok (.iload_n 3, 1) := by decide +kernel
theorem dL_law_210 : decode cL_law 210 = .ok (.iconst 1, 1) := by decide +kernel
theorem dL_law_211 : decode cL_law 211 = .ok (.iadd, 1) := by decide +kernel
theorem dL_law_212 : decode cL_law 212 = .ok (.iaload, 1) := by decide +kernel
theorem dL_law_213 : decode cL_law 213 = .ok (.aload_n 0, 1) := by decide +kernel
theorem dL_law_214 : decode cL_law 214 = .ok (.iload_n 3, 1) := by decide +kernel
theorem dL_law_215 : decode cL_law 215 = .ok (.iconst 2, 1) := by decide +kernel
theorem dL_law_216 : decode cL_law 216 = .ok (.iadd, 1) := by decide +kernel
theorem dL_law_217 : decode cL_law 217 = .ok (.iaload, 1) := by decide +kernel
theorem dL_law_218 : decode cL_law 218 = .ok (.aload_n 0, 1) := by decide +kernel
theorem dL_law_219 : decode cL_law 219 = .ok (.iload_n 3, 1) := by decide +kernel
theorem dL_law_220 : decode cL_law 220 = .ok (.iconst 3, 1) := by decide +kernel
theorem dL_law_221 : decode cL_law 221 = .ok (.iadd, 1) := by decide +kernel
theorem dL_law_222 : decode cL_law 222 = .ok (.iaload, 1) := by decide +kernel
theorem dL_law_223 : decode cL_law 223 = .ok (.invokevirtual 17, 3) := by decide +kernel
theorem dL_law_226 : decode cL_law 226 = .ok (.if_icmp .eq 1080, 3) := by decide +kernel
theorem dL_law_229 : decode cL_law 229 = .ok (.iconst 0, 1) := by decide +kernel
theorem dL_law_230 : decode cL_law 230 = .ok (.ireturn, 1) := by decide +kernel
theorem dL_law_231 : decode cL_law 231 = .ok (.aload_n 1, 1) := by decide +kernel
theorem dL_law_232 : decode cL_law 232 = .ok (.aload_n 0, 1) := by decide +kernel
theorem dL_law_233 : decode cL_law 233 = .ok (.iload_n 3, 1) := by decide +kernel
theorem dL_law_234 : decode cL_law 234 = .ok (.iconst 1, 1) := by decide +kernel
theorem dL_law_235 : decode cL_law 235 = .ok (.iadd, 1) := by decide +kernel
theorem dL_law_236 : decode cL_law 236 = .ok (.iaload, 1) := by decide +kernel
theorem dL_law_237 : decode cL_law 237 = .ok (.aload_n 0, 1) := by decide +kernel
theorem dL_law_238 : decode cL_law 238 = .ok (.iload_n 3, 1) := by decide +kernel
theorem dL_law_239 : decode cL_law 239 = .ok (.iconst 2, 1) := by decide +kernel
theorem dL_law_240 : decode cL_law 240 = .ok (.iadd, 1) := by decide +kernel
theorem dL_law_241 : decode cL_law 241 = .ok (.iaload, 1) := by decide +kernel
theorem dL_law_242 : decode cL_law 242 = .ok (.aload_n 0, 1) := by decide +kernel
theorem dL_law_243 : decode cL_law 243 = .ok (.iload_n 3, 1) := by decide +kernel
theorem dL_law_244 : decode cL_law 244 = .ok (.iconst 3, 1) := by decide +kernel
theorem dL_law_245 : decode cL_law 245 = .ok (.iadd, 1) := by decide +kernel
theorem dL_law_246 : decode cL_law 246 = .ok (.iaload, 1) := by decide +kernel
theorem dL_law_247 : decode cL_law 247 = .ok (.invokevirtual 18, 3) := by decide +kernel
theorem dL_law_250 : decode cL_law 250 = .ok (.aload_n 2, 1) := by decide +kernel
theorem dL_law_251 : decode cL_law 251 = .ok (.aload_n 0, 1) := by decide +kernel
theorem dL_law_252 : decode cL_law 252 = .ok (.iload_n 3, 1) := by decide +kernel
theorem dL_law_253 : decode cL_law 253 = .ok (.iconst 1, 1) := by decide +kernel
theorem dL_law_254 : decode cL_law 254 = .ok (.iadd, 1) := by decide +kernel
theorem dL_law_255 : decode cL_law 255 = .ok (.iaload, 1) := by decide +kernel
theorem dL_law_256 : decode cL_law 256 = .ok (.aload_n 0, 1) := by decide +kernel
theorem dL_law_257 : decode cL_law 257 = .ok (.iload_n 3, 1) := by decide +kernel
theorem dL_law_258 : decode cL_law 258 = .ok (.iconst 2, 1) := by decide +kernel
theorem dL_law_259 : decode cL_law 259 = .ok (.iadd, 1) := by decide +kernel
theorem dL_law_260 : decode cL_law 260 = .ok (.iaload, 1) := by decide +kernel
theorem dL_law_261 : decode cL_law 261 = .ok (.aload_n 0, 1) := by decide +kernel
theorem dL_law_262 : decode cL_law 262 = .ok (.iload_n 3, 1) := by decide +kernel
theorem dL_law_263 : decode cL_law 263 = .ok (.iconst 3, 1) := by decide +kernel
theorem dL_law_264 : decode cL_law 264 = .ok (.iadd, 1) := by decide +kernel
theorem dL_law_265 : decode cL_law 265 = .ok (.iaload, 1) := by decide +kernel
theorem dL_law_266 : decode cL_law 266 = .ok (.invokevirtual 21, 3) := by decide +kernel
theorem dL_law_269 : decode cL_law 269 = .ok (.if_icmp .eq 1037, 3) := by decide +kernel
theorem dL_law_272 : decode cL_law 272 = .ok (.iconst 0, 1) := by decide +kernel
theorem dL_law_273 : decode cL_law 273 = .ok (.ireturn, 1) := by decide +kernel
theorem dL_law_274 : decode cL_law 274 = .ok (.aload_n 1, 1) := by decide +kernel
theorem dL_law_275 : decode cL_law 275 = .ok (.aload_n 0, 1) := by decide +kernel
theorem dL_law_276 : decode cL_law 276 = .ok (.iload_n 3, 1) := by decide +kernel
theorem dL_law_277 : decode cL_law 277 = .ok (.iconst 1, 1) := by decide +kernel
theorem dL_law_278 : decode cL_law 278 = .ok (.iadd, 1) := by decide +kernel
theorem dL_law_279 : decode cL_law 279 = .ok (.iaload, 1) := by decide +kernel
theorem dL_law_280 : decode cL_law 280 = .ok (.aload_n 0, 1) := by decide +kernel
theorem dL_law_281 : decode cL_law 281 = .ok (.iload_n 3, 1) := by decide +kernel
theorem dL_law_282 : decode cL_law 282 = .ok (.iconst 2, 1) := by decide +kernel
theorem dL_law_283 : decode cL_law 283 = .ok (.iadd, 1) := by decide +kernel
theorem dL_law_284 : decode cL_law 284 = .ok (.iaload, 1) := by decide +kernel
theorem dL_law_285 : decode cL_law 285 = .ok (.aload_n 0, 1) := by decide +kernel
theorem dL_law_286 : decode cL_law 286 = .ok (.iload_n 3, 1) := by decide +kernel
theorem dL_law_287 : decode cL_law 287 = .ok (.iconst 3, 1) := by decide +kernel
theorem dL_law_288 : decode cL_law 288 = .ok (.iadd, 1) := by decide +kernel
theorem dL_law_289 : decode cL_law 289 = .ok (.iaload, 1) := by decide +kernel
theorem dL_law_290 : decode cL_law 290 = .ok (.aload_n 0, 1) := by decide +kernel
theorem dL_law_291 : decode cL_law 291 = .ok (.iload_n 3, 1) := by decide +kernel
theorem dL_law_292 : decode cL_law 292 = .ok (.iconst 4, 1) := by decide +kernel
theorem dL_law_293 : decode cL_law 293 = .ok (.iadd, 1) := by decide +kernel
theorem dL_law_294 : decode cL_law 294 = .ok (.iaload, 1) := by decide +kernel
theorem dL_law_295 : decode cL_law 295 = .ok (.aload_n 0, 1) := by decide +kernel
theorem dL_law_296 : decode cL_law 296 = .ok (.iload_n 3, 1) := by decide +kernel
theorem dL_law_297 : decode cL_law 297 = .ok (.iconst 5, 1) := by decide +kernel
theorem dL_law_298 : decode cL_law 298 = .ok (.iadd, 1) := by decide +kernel
theorem dL_law_299 : decode cL_law 299 = .ok (.iaload, 1) := by decide +kernel
theorem dL_law_300 : decode cL_law 300 = .ok (.invokevirtual 22, 3) := by decide +kernel
theorem dL_law_303 : decode cL_law 303 = .ok (.aload_n 2, 1) := by decide +kernel
theorem dL_law_304 : decode cL_law 304 = .ok (.aload_n 0, 1) := by decide +kernel
theorem dL_law_305 : decode cL_law 305 = .ok (.iload_n 3, 1) := by decide +kernel
theorem dL_law_306 : decode cL_law 306 = .ok (.iconst 1, 1) := by decide +kernel
theorem dL_law_307 : decode cL_law 307 = .ok (.iadd, 1) := by decide +kernel
theorem dL_law_308 : decode cL_law 308 = .ok (.iaload, 1) := by decide +kernel
theorem dL_law_309 : decode cL_law 309 = .ok (.aload_n 0, 1) := by decide +kernel
theorem dL_law_310 : decode cL_law 310 = .ok (.iload_n 3, 1) := by decide +kernel
theorem dL_law_311 : decode cL_law 311 = .ok (.iconst 2, 1) := by decide +kernel
theorem dL_law_312 : decode cL_law 312 = .ok (.iadd, 1) := by decide +kernel
theorem dL_law_313 : decode cL_law 313 = .ok (.iaload, 1) := by decide +kernel
theorem dL_law_314 : decode cL_law 314 = .ok (.aload_n 0, 1) := by decide +kernel
theorem dL_law_315 : decode cL_law 315 = .ok (.iload_n 3, 1) := by decide +kernel
theorem dL_law_316 : decode cL_law 316 = .ok (.iconst 3, 1) := by decide +kernel
theorem dL_law_317 : decode cL_law 317 = .ok (.iadd, 1) := by decide +kernel
theorem dL_law_318 : decode cL_law 318 = .ok (.iaload, 1) := by decide +kernel
theorem dL_law_319 : decode cL_law 319 = .ok (.aload_n 0, 1) := by decide +kernel
theorem dL_law_320 : decode cL_law 320 = .ok (.iload_n 3, 1) := by decide +kernel
theorem dL_law_321 : decode cL_law 321 = .ok (.iconst 4, 1) := by decide +kernel
theorem dL_law_322 : decode cL_law 322 = .ok (.iadd, 1) := by decide +kernel
theorem dL_law_323 : decode cL_law 323 = .ok (.iaload, 1) := by decide +kernel
theorem dL_law_324 : decode cL_law 324 = .ok (.aload_n 0, 1) := by decide +kernel
theorem dL_law_325 : decode cL_law 325 = .ok (.iload_n 3, 1) := by decide +kernel
theorem dL_law_326 : decode cL_law 326 = .ok (.iconst 5, 1) := by decide +kernel
theorem dL_law_327 : decode cL_law 327 = .ok (.iadd, 1) := by decide +kernel
theorem dL_law_328 : decode cL_law 328 = .ok (.iaload, 1) := by decide +kernel
theorem dL_law_329 : decode cL_law 329 = .ok (.invokevirtual 26, 3) := by decide +kernel
theorem dL_law_332 : decode cL_law 332 = .ok (.if_icmp .eq 974, 3) := by decide +kernel
theorem dL_law_335 : decode cL_law 335 = .ok (.iconst 0, 1) := by decide +kernel
theorem dL_law_336 : decode cL_law 336 = .ok (.ireturn, 1) := by decide +kernel
theorem dL_law_337 : decode cL_law 337 = .ok (.aload_n 1, 1) := by decide +kernel
theorem dL_law_338 : decode cL_law 338 = .ok (.aload_n 0, 1) := by decide +kernel
theorem dL_law_339 : decode cL_law 339 = .ok (.iload_n 3, 1) := by decide +kernel
theorem dL_law_340 : decode cL_law 340 = .ok (.iconst 1, 1) := by decide +kernel
theorem dL_law_341 : decode cL_law 341 = .ok (.iadd, 1) := by decide +kernel
theorem dL_law_342 : decode cL_law 342 = .ok (.iaload, 1) := by decide +kernel
theorem dL_law_343 : decode cL_law 343 = .ok (.invokevirtual 27, 3) := by decide +kernel
theorem dL_law_346 : decode cL_law 346 = .ok (.aload_n 2, 1) := by decide +kernel
theorem dL_law_347 : decode cL_law 347 = .ok (.aload_n 0, 1) := by decide +kernel
theorem dL_law_348 : decode cL_law 348 = .ok (.iload_n 3, 1) := by decide +kernel
theorem dL_law_349 : decode cL_law 349 = .ok (.iconst 1, 1) := by decide +kernel
theorem dL_law_350 : decode cL_law 350 = .ok (.iadd, 1) := by decide +kernel
theorem dL_law_351 : decode cL_law 351 = .ok (.iaload, 1) := by decide +kernel
theorem dL_law_352 : decode cL_law 352 = .ok (.invokevirtual 31, 3) := by decide +kernel
theorem dL_law_355 : decode cL_law 355 = .ok (.if_icmp .eq 951, 3) := by decide +kernel
theorem dL_law_358 : decode cL_law 358 = .ok (.iconst 0, 1) := by decide +kernel
theorem dL_law_359 : decode cL_law 359 = .ok (.ireturn, 1) := by decide +kernel
theorem dL_law_360 : decode cL_law 360 = .ok (.aload_n 1, 1) := by decide +kernel
theorem dL_law_361 : decode cL_law 361 = .ok (.aload_n 0, 1) := by decide +kernel
theorem dL_law_362 : decode cL_law 362 = .ok (.iload_n 3, 1) := by decide +kernel
theorem dL_law_363 : decode cL_law 363 = .ok (.iconst 1, 1) := by decide +kernel
theorem dL_law_364 : decode cL_law 364 = .ok (.iadd, 1) := by decide +kernel
theorem dL_law_365 : decode cL_law 365 = .ok (.iaload, 1) := by decide +kernel
theorem dL_law_366 : decode cL_law 366 = .ok (.i2l, 1) := by decide +kernel
theorem dL_law_367 : decode cL_law 367 = .ok (.bipush 32, 2) := by decide +kernel
theorem dL_law_369 : decode cL_law 369 = .ok (.lshl, 1) := by decide +kernel
theorem dL_law_370 : decode cL_law 370 = .ok (.aload_n 0, 1) := by decide +kernel
theorem dL_law_371 : decode cL_law 371 = .ok (.iload_n 3, 1) := by decide +kernel
theorem dL_law_372 : decode cL_law 372 = .ok (.iconst 2, 1) := by decide +kernel
theorem dL_law_373 : decode cL_law 373 = .ok (.iadd, 1) := by decide +kernel
theorem dL_law_374 : decode cL_law 374 = .ok (.iaload, 1) := by decide +kernel
theorem dL_law_375 : decode cL_law 375 = .ok (.i2l, 1) := by decide +kernel
theorem dL_law_376 : decode cL_law 376 = .ok (.ldc2_w 32, 3) := by decide +kernel
theorem dL_law_379 : decode cL_law 379 = .ok (.land, 1) := by decide +kernel
theorem dL_law_380 : decode cL_law 380 = .ok (.lor, 1) := by decide +kernel
theorem dL_law_381 : decode cL_law 381 = .ok (.aload_n 0, 1) := by decide +kernel
theorem dL_law_382 : decode cL_law 382 = .ok (.iload_n 3, 1) := by decide +kernel
theorem dL_law_383 : decode cL_law 383 = .ok (.iconst 3, 1) := by decide +kernel
theorem dL_law_384 : decode cL_law 384 = .ok (.iadd, 1) := by decide +kernel
theorem dL_law_385 : decode cL_law 385 = .ok (.iaload, 1) := by decide +kernel
theorem dL_law_386 : decode cL_law 386 = .ok (.invokevirtual 34, 3) := by decide +kernel
theorem dL_law_389 : decode cL_law 389 = .ok (.aload_n 2, 1) := by decide +kernel
theorem dL_law_390 : decode cL_law 390 = .ok (.aload_n 0, 1) := by decide +kernel
theorem dL_law_391 : decode cL_law 391 = .ok (.iload_n 3, 1) := by decide +kernel
theorem dL_law_392 : decode cL_law 392 = .ok (.iconst 1, 1) := by decide +kernel
theorem dL_law_393 : decode cL_law 393 = .ok (.iadd, 1) := by decide +kernel
theorem dL_law_394 : decode cL_law 394 = .ok (.iaload, 1) := by decide +kernel
theorem dL_law_395 : decode cL_law 395 = .ok (.i2l, 1) := by decide +kernel
theorem dL_law_396 : decode cL_law 396 = .ok (.bipush 32, 2) := by decide +kernel
theorem dL_law_398 : decode cL_law 398 = .ok (.lshl, 1) := by decide +kernel
theorem dL_law_399 : decode cL_law 399 = .ok (.aload_n 0, 1) := by decide +kernel
theorem dL_law_400 : decode cL_law 400 = .ok (.iload_n 3, 1) := by decide +kernel
theorem dL_law_401 : decode cL_law 401 = .ok (.iconst 2, 1) := by decide +kernel
theorem dL_law_402 : decode cL_law 402 = .ok (.iadd, 1) := by decide +kernel
theorem dL_law_403 : decode cL_law 403 = .ok (.iaload, 1) := by decide +kernel
theorem dL_law_404 : decode cL_law 404 = .ok (.i2l, 1) := by decide +kernel
theorem dL_law_405 : decode cL_law 405 = .ok (.ldc2_w 32, 3) := by decide +kernel
theorem dL_law_408 : decode cL_law 408 = .ok (.land, 1) := by decide +kernel
theorem dL_law_409 : decode cL_law 409 = .ok (.lor, 1) := by decide +kernel
theorem dL_law_410 : decode cL_law 410 = .ok (.aload_n 0, 1) := by decide +kernel
theorem dL_law_411 : decode cL_law 411 = .ok (.iload_n 3, 1) := by decide +kernel
theorem dL_law_412 : decode cL_law 412 = .ok (.iconst 3, 1) := by decide +kernel
theorem dL_law_413 : decode cL_law 413 = .ok (.iadd, 1) := by decide +kernel
theorem dL_law_414 : decode cL_law 414 = .ok (.iaload, 1) := by decide +kernel
theorem dL_law_415 : decode cL_law 415 = .ok (.invokevirtual 38, 3) := by decide +kernel
theorem dL_law_418 : decode cL_law 418 = .ok (.if_icmp .eq 888, 3) := by decide +kernel
theorem dL_law_421 : decode cL_law 421 = .ok (.iconst 0, 1) := by decide +kernel
theorem dL_law_422 : decode cL_law 422 = .ok (.ireturn, 1) := by decide +kernel
theorem dL_law_423 : decode cL_law 423 = .ok (.aload_n 1, 1) := by decide +kernel
theorem dL_law_424 : decode cL_law 424 = .ok (.invokevirtual 39, 3) := by decide +kernel
theorem dL_law_427 : decode cL_law 427 = .ok (.aload_n 2, 1) := by decide +kernel
theorem dL_law_428 : decode cL_law 428 = .ok (.invokevirtual 43, 3) := by decide +kernel
theorem dL_law_431 : decode cL_law 431 = .ok (.if_icmp .eq 875, 3) := by decide +kernel
theorem dL_law_434 : decode cL_law 434 = .ok (.iconst 0, 1) := by decide +kernel
theorem dL_law_435 : decode cL_law 435 = .ok (.ireturn, 1) := by decide +kernel
theorem dL_law_436 : decode cL_law 436 = .ok (.aload_n 1, 1) := by decide +kernel
theorem dL_law_437 : decode cL_law 437 = .ok (.invokevirtual 44, 3) := by decide +kernel
theorem dL_law_440 : decode cL_law 440 = .ok (.aload_n 2, 1) := by decide +kernel
theorem dL_law_441 : decode cL_law 441 = .ok (.invokevirtual 47, 3) := by decide +kernel
theorem dL_law_444 : decode cL_law 444 = .ok (.if_icmp .eq 862, 3) := by decide +kernel
theorem dL_law_447 : decode cL_law 447 = .ok (.iconst 0, 1) := by decide +kernel
theorem dL_law_448 : decode cL_law 448 = .ok (.ireturn, 1) := by decide +kernel
theorem dL_law_449 : decode cL_law 449 = .ok (.aload_n 1, 1) := by decide +kernel
theorem dL_law_450 : decode cL_law 450 = .ok (.aload_n 0, 1) := by decide +kernel
theorem dL_law_451 : decode cL_law 451 = .ok (.iload_n 3, 1) := by decide +kernel
theorem dL_law_452 : decode cL_law 452 = .ok (.iconst 1, 1) := by decide +kernel
theorem dL_law_453 : decode cL_law 453 = .ok (.iadd, 1) := by decide +kernel
theorem dL_law_454 : decode cL_law 454 = .ok (.iaload, 1) := by decide +kernel
theorem dL_law_455 : decode cL_law 455 = .ok (.aload_n 0, 1) := by decide +kernel
theorem dL_law_456 : decode cL_law 456 = .ok (.iload_n 3, 1) := by decide +kernel
theorem dL_law_457 : decode cL_law 457 = .ok (.iconst 2, 1) := by decide +kernel
theorem dL_law_458 : decode cL_law 458 = .ok (.iadd, 1) := by decide +kernel
theorem dL_law_459 : decode cL_law 459 = .ok (.iaload, 1) := by decide +kernel
theorem dL_law_460 : decode cL_law 460 = .ok (.invokevirtual 48, 3) := by decide +kernel
theorem dL_law_463 : decode cL_law 463 = .ok (.aload_n 2, 1) := by decide +kernel
theorem dL_law_464 : decode cL_law 464 = .ok (.aload_n 0, 1) := by decide +kernel
theorem dL_law_465 : decode cL_law 465 = .ok (.iload_n 3, 1) := by decide +kernel
theorem dL_law_466 : decode cL_law 466 = .ok (.iconst 1, 1) := by decide +kernel
theorem dL_law_467 : decode cL_law 467 = .ok (.iadd, 1) := by decide +kernel
theorem dL_law_468 : decode cL_law 468 = .ok (.iaload, 1) := by decide +kernel
theorem dL_law_469 : decode cL_law 469 = .ok (.aload_n 0, 1) := by decide +kernel
theorem dL_law_470 : decode cL_law 470 = .ok (.iload_n 3, 1) := by decide +kernel
theorem dL_law_471 : decode cL_law 471 = .ok (.iconst 2, 1) := by decide +kernel
theorem dL_law_472 : decode cL_law 472 = .ok (.iadd, 1) := by decide +kernel
theorem dL_law_473 : decode cL_law 473 = .ok (.iaload, 1) := by decide +kernel
theorem dL_law_474 : decode cL_law 474 = .ok (.invokevirtual 52, 3) := by decide +kernel
theorem dL_law_477 : decode cL_law 477 = .ok (.if_icmp .eq 829, 3) := by decide +kernel
theorem dL_law_480 : decode cL_law 480 = .ok (.iconst 0, 1) := by decide +kernel
theorem dL_law_481 : decode cL_law 481 = .ok (.ireturn, 1) := by decide +kernel
theorem dL_law_482 : decode cL_law 482 = .ok (.aload_n 1, 1) := by decide +kernel
theorem dL_law_483 : decode cL_law 483 = .ok (.aload_n 0, 1) := by decide +kernel
theorem dL_law_484 : decode cL_law 484 = .ok (.iload_n 3, 1) := by decide +kernel
theorem dL_law_485 : decode cL_law 485 = .ok (.iconst 1, 1) := by decide +kernel
theorem dL_law_486 : decode cL_law 486 = .ok (.iadd, 1) := by decide +kernel
theorem dL_law_487 : decode cL_law 487 = .ok (.iaload, 1) := by decide +kernel
theorem dL_law_488 : decode cL_law 488 = .ok (.aload_n 0, 1) := by decide +kernel
theorem dL_law_489 : decode cL_law 489 = .ok (.iload_n 3, 1) := by decide +kernel
theorem dL_law_490 : decode cL_law 490 = .ok (.iconst 2, 1) := by decide +kernel
theorem dL_law_491 : decode cL_law 491 = .ok (.iadd, 1) := by decide +kernel
theorem dL_law_492 : decode cL_law 492 = .ok (.iaload, 1) := by decide +kernel
theorem dL_law_493 : decode cL_law 493 = .ok (.invokevirtual 53, 3) := by decide +kernel
theorem dL_law_496 : decode cL_law 496 = .ok (.aload_n 2, 1) := by decide +kernel
theorem dL_law_497 : decode cL_law 497 = .ok (.aload_n 0, 1) := by decide +kernel
theorem dL_law_498 : decode cL_law 498 = .ok (.iload_n 3, 1) := by decide +kernel
theorem dL_law_499 : decode cL_law 499 = .ok (.iconst 1, 1) := by decide +kernel
theorem dL_law_500 : decode cL_law 500 = .ok (.iadd, 1) := by decide +kernel
theorem dL_law_501 : decode cL_law 501 = .ok (.iaload, 1) := by decide +kernel
theorem dL_law_502 : decode cL_law 502 = .ok (.aload_n 0, 1) := by decide +kernel
theorem dL_law_503 : decode cL_law 503 = .ok (.iload_n 3, 1) := by decide +kernel
theorem dL_law_504 : decode cL_law 504 = .ok (.iconst 2, 1) := by decide +kernel
theorem dL_law_505 : decode cL_law 505 = .ok (.iadd, 1) := by decide +kernel
theorem dL_law_506 : decode cL_law 506 = .ok (.iaload, 1) := by decide +kernel
theorem dL_law_507 : decode cL_law 507 = .ok (.invokevirtual 56, 3) := by decide +kernel
theorem dL_law_510 : decode cL_law 510 = .ok (.if_icmp .eq 796, 3) := by decide +kernel
theorem dL_law_513 : decode cL_law 513 = .ok (.iconst 0, 1) := by decide +kernel
theorem dL_law_514 : decode cL_law 514 = .ok (.ireturn, 1) := by decide +kernel
theorem dL_law_515 : decode cL_law 515 = .ok (.aload_n 1, 1) := by decide +kernel
theorem dL_law_516 : decode cL_law 516 = .ok (.aload_n 0, 1) := by decide +kernel
theorem dL_law_517 : decode cL_law 517 = .ok (.iload_n 3, 1) := by decide +kernel
theorem dL_law_518 : decode cL_law 518 = .ok (.iconst 1, 1) := by decide +kernel
theorem dL_law_519 : decode cL_law 519 = .ok (.iadd, 1) := by decide +kernel
theorem dL_law_520 : decode cL_law 520 = .ok (.iaload, 1) := by decide +kernel
theorem dL_law_521 : decode cL_law 521 = .ok (.aload_n 0, 1) := by decide +kernel
theorem dL_law_522 : decode cL_law 522 = .ok (.iload_n 3, 1) := by decide +kernel
theorem dL_law_523 : decode cL_law 523 = .ok (.iconst 2, 1) := by decide +kernel
theorem dL_law_524 : decode cL_law 524 = .ok (.iadd, 1) := by decide +kernel
theorem dL_law_525 : decode cL_law 525 = .ok (.iaload, 1) := by decide +kernel
theorem dL_law_526 : decode cL_law 526 = .ok (.aload_n 0, 1) := by decide +kernel
theorem dL_law_527 : decode cL_law 527 = .ok (.iload_n 3, 1) := by decide +kernel
theorem dL_law_528 : decode cL_law 528 = .ok (.iconst 3, 1) := by decide +kernel
theorem dL_law_529 : decode cL_law 529 = .ok (.iadd, 1) := by decide +kernel
theorem dL_law_530 : decode cL_law 530 = .ok (.iaload, 1) := by decide +kernel
theorem dL_law_531 : decode cL_law 531 = .ok (.aload_n 0, 1) := by decide +kernel
theorem dL_law_532 : decode cL_law 532 = .ok (.iload_n 3, 1) := by decide +kernel
theorem dL_law_533 : decode cL_law 533 = .ok (.iconst 4, 1) := by decide +kernel
theorem dL_law_534 : decode cL_law 534 = .ok (.iadd, 1) := by decide +kernel
theorem dL_law_535 : decode cL_law 535 = .ok (.iaload, 1) := by decide +kernel
theorem dL_law_536 : decode cL_law 536 = .ok (.invokevirtual 57, 3) := by decide +kernel
theorem dL_law_539 : decode cL_law 539 = .ok (.aload_n 2, 1) := by decide +kernel
theorem dL_law_540 : decode cL_law 540 = .ok (.aload_n 0, 1) := by decide +kernel
theorem dL_law_541 : decode cL_law 541 = .ok (.iload_n 3, 1) := by decide +kernel
theorem dL_law_542 : decode cL_law 542 = .ok (.iconst 1, 1) := by decide +kernel
theorem dL_law_543 : decode cL_law 543 = .ok (.iadd, 1) := by decide +kernel
theorem dL_law_544 : decode cL_law 544 = .ok (.iaload, 1) := by decide +kernel
theorem dL_law_545 : decode cL_law 545 = .ok (.aload_n 0, 1) := by decide +kernel
theorem dL_law_546 : decode cL_law 546 = .ok (.iload_n 3, 1) := by decide +kernel
theorem dL_law_547 : decode cL_law 547 = .ok (.iconst 2, 1) := by decide +kernel
theorem dL_law_548 : decode cL_law 548 = .ok (.iadd, 1) := by decide +kernel
theorem dL_law_549 : decode cL_law 549 = .ok (.iaload, 1) := by decide +kernel
theorem dL_law_550 : decode cL_law 550 = .ok (.aload_n 0, 1) := by decide +kernel
theorem dL_law_551 : decode cL_law 551 = .ok (.iload_n 3, 1) := by decide +kernel
theorem dL_law_552 : decode cL_law 552 = .ok (.iconst 3, 1) := by decide +kernel
theorem dL_law_553 : decode cL_law 553 = .ok (.iadd, 1) := by decide +kernel
theorem dL_law_554 : decode cL_law 554 = .ok (.iaload, 1) := by decide +kernel
theorem dL_law_555 : decode cL_law 555 = .ok (.aload_n 0, 1) := by decide +kernel
theorem dL_law_556 : decode cL_law 556 = .ok (.iload_n 3, 1) := by decide +kernel
theorem dL_law_557 : decode cL_law 557 = .ok (.iconst 4, 1) := by decide +kernel
theorem dL_law_558 : decode cL_law 558 = .ok (.iadd, 1) := by decide +kernel
theorem dL_law_559 : decode cL_law 559 = .ok (.iaload, 1) := by decide +kernel
theorem dL_law_560 : decode cL_law 560 = .ok (.invokevirtual 61, 3) := by decide +kernel
theorem dL_law_563 : decode cL_law 563 = .ok (.if_icmp .eq 743, 3) := by decide +kernel
theorem dL_law_566 : decode cL_law 566 = .ok (.iconst 0, 1) := by decide +kernel
theorem dL_law_567 : decode cL_law 567 = .ok (.ireturn, 1) := by decide +kernel
theorem dL_law_568 : decode cL_law 568 = .ok (.aload_n 1, 1) := by decide +kernel
theorem dL_law_569 : decode cL_law 569 = .ok (.aload_n 0, 1) := by decide +kernel
theorem dL_law_570 : decode cL_law 570 = .ok (.iload_n 3, 1) := by decide +kernel
theorem dL_law_571 : decode cL_law 571 = .ok (.iconst 1, 1) := by decide +kernel
theorem dL_law_572 : decode cL_law 572 = .ok (.iadd, 1) := by decide +kernel
theorem dL_law_573 : decode cL_law 573 = .ok (.iaload, 1) := by decide +kernel
theorem dL_law_574 : decode cL_law 574 = .ok (.aload_n 0, 1) := by decide +kernel
theorem dL_law_575 : decode cL_law 575 = .ok (.iload_n 3, 1) := by decide +kernel
theorem dL_law_576 : decode cL_law 576 = .ok (.iconst 2, 1) := by decide +kernel
theorem dL_law_577 : decode cL_law 577 = .ok (.iadd, 1) := by decide +kernel
theorem dL_law_578 : decode cL_law 578 = .ok (.iaload, 1) := by decide +kernel
theorem dL_law_579 : decode cL_law 579 = .ok (.invokevirtual 62, 3) := by decide +kernel
theorem dL_law_582 : decode cL_law 582 = .ok (.aload_n 2, 1) := by decide +kernel
theorem dL_law_583 : decode cL_law 583 = .ok (.aload_n 0, 1) := by decide +kernel
theorem dL_law_584 : decode cL_law 584 = .ok (.iload_n 3, 1) := by decide +kernel
theorem dL_law_585 : decode cL_law 585 = .ok (.iconst 1, 1) := by decide +kernel
theorem dL_law_586 : decode cL_law 586 = .ok (.iadd, 1) := by decide +kernel
theorem dL_law_587 : decode cL_law 587 = .ok (.iaload, 1) := by decide +kernel
theorem dL_law_588 : decode cL_law 588 = .ok (.aload_n 0, 1) := by decide +kernel
theorem dL_law_589 : decode cL_law 589 = .ok (.iload_n 3, 1) := by decide +kernel
theorem dL_law_590 : decode cL_law 590 = .ok (.iconst 2, 1) := by decide +kernel
theorem dL_law_591 : decode cL_law 591 = .ok (.iadd, 1) := by decide +kernel
theorem dL_law_592 : decode cL_law 592 = .ok (.iaload, 1) := by decide +kernel
theorem dL_law_593 : decode cL_law 593 = .ok (.invokevirtual 65, 3) := by decide +kernel
theorem dL_law_596 : decode cL_law 596 = .ok (.if_icmp .eq 710, 3) := by decide +kernel
theorem dL_law_599 : decode cL_law 599 = .ok (.iconst 0, 1) := by decide +kernel
theorem dL_law_600 : decode cL_law 600 = .ok (.ireturn, 1) := by decide +kernel
theorem dL_law_601 : decode cL_law 601 = .ok (.aload_n 1, 1) := by decide +kernel
theorem dL_law_602 : decode cL_law 602 = .ok (.aload_n 0, 1) := by decide +kernel
theorem dL_law_603 : decode cL_law 603 = .ok (.iload_n 3, 1) := by decide +kernel
theorem dL_law_604 : decode cL_law 604 = .ok (.iconst 1, 1) := by decide +kernel
theorem dL_law_605 : decode cL_law 605 = .ok (.iadd, 1) := by decide +kernel
theorem dL_law_606 : decode cL_law 606 = .ok (.iaload, 1) := by decide +kernel
theorem dL_law_607 : decode cL_law 607 = .ok (.invokevirtual 66, 3) := by decide +kernel
theorem dL_law_610 : decode cL_law 610 = .ok (.aload_n 2, 1) := by decide +kernel
theorem dL_law_611 : decode cL_law 611 = .ok (.aload_n 0, 1) := by decide +kernel
theorem dL_law_612 : decode cL_law 612 = .ok (.iload_n 3, 1) := by decide +kernel
theorem dL_law_613 : decode cL_law 613 = .ok (.iconst 1, 1) := by decide +kernel
theorem dL_law_614 : decode cL_law 614 = .ok (.iadd, 1) := by decide +kernel
theorem dL_law_615 : decode cL_law 615 = .ok (.iaload, 1) := by decide +kernel
theorem dL_law_616 : decode cL_law 616 = .ok (.invokevirtual 69, 3) := by decide +kernel
theorem dL_law_619 : decode cL_law 619 = .ok (.if_icmp .eq 687, 3) := by decide +kernel
theorem dL_law_622 : decode cL_law 622 = .ok (.iconst 0, 1) := by decide +kernel
theorem dL_law_623 : decode cL_law 623 = .ok (.ireturn, 1) := by decide +kernel
theorem dL_law_624 : decode cL_law 624 = .ok (.aload_n 1, 1) := by decide +kernel
theorem dL_law_625 : decode cL_law 625 = .ok (.aload_n 0, 1) := by decide +kernel
theorem dL_law_626 : decode cL_law 626 = .ok (.iload_n 3, 1) := by decide +kernel
theorem dL_law_627 : decode cL_law 627 = .ok (.iconst 1, 1) := by decide +kernel
theorem dL_law_628 : decode cL_law 628 = .ok (.iadd, 1) := by decide +kernel
theorem dL_law_629 : decode cL_law 629 = .ok (.iaload, 1) := by decide +kernel
theorem dL_law_630 : decode cL_law 630 = .ok (.invokevirtual 70, 3) := by decide +kernel
theorem dL_law_633 : decode cL_law 633 = .ok (.aload_n 2, 1) := by decide +kernel
theorem dL_law_634 : decode cL_law 634 = .ok (.aload_n 0, 1) := by decide +kernel
theorem dL_law_635 : decode cL_law 635 = .ok (.iload_n 3, 1) := by decide +kernel
theorem dL_law_636 : decode cL_law 636 = .ok (.iconst 1, 1) := by decide +kernel
theorem dL_law_637 : decode cL_law 637 = .ok (.iadd, 1) := by decide +kernel
theorem dL_law_638 : decode cL_law 638 = .ok (.iaload, 1) := by decide +kernel
theorem dL_law_639 : decode cL_law 639 = .ok (.invokevirtual 73, 3) := by decide +kernel
theorem dL_law_642 : decode cL_law 642 = .ok (.if_icmp .eq 664, 3) := by decide +kernel
theorem dL_law_645 : decode cL_law 645 = .ok (.iconst 0, 1) := by decide +kernel
theorem dL_law_646 : decode cL_law 646 = .ok (.ireturn, 1) := by decide +kernel
theorem dL_law_647 : decode cL_law 647 = .ok (.aload_n 1, 1) := by decide +kernel
theorem dL_law_648 : decode cL_law 648 = .ok (.aload_n 0, 1) := by decide +kernel
theorem dL_law_649 : decode cL_law 649 = .ok (.iload_n 3, 1) := by decide +kernel
theorem dL_law_650 : decode cL_law 650 = .ok (.iconst 1, 1) := by decide +kernel
theorem dL_law_651 : decode cL_law 651 = .ok (.iadd, 1) := by decide +kernel
theorem dL_law_652 : decode cL_law 652 = .ok (.iaload, 1) := by decide +kernel
theorem dL_law_653 : decode cL_law 653 = .ok (.aload_n 0, 1) := by decide +kernel
theorem dL_law_654 : decode cL_law 654 = .ok (.iload_n 3, 1) := by decide +kernel
theorem dL_law_655 : decode cL_law 655 = .ok (.iconst 2, 1) := by decide +kernel
theorem dL_law_656 : decode cL_law 656 = .ok (.iadd, 1) := by decide +kernel
theorem dL_law_657 : decode cL_law 657 = .ok (.iaload, 1) := by decide +kernel
theorem dL_law_658 : decode cL_law 658 = .ok (.invokevirtual 74, 3) := by decide +kernel
theorem dL_law_661 : decode cL_law 661 = .ok (.aload_n 2, 1) := by decide +kernel
theorem dL_law_662 : decode cL_law 662 = .ok (.aload_n 0, 1) := by decide +kernel
theorem dL_law_663 : decode cL_law 663 = .ok (.iload_n 3, 1) := by decide +kernel
theorem dL_law_664 : decode cL_law 664 = .ok (.iconst 1, 1) := by decide +kernel
theorem dL_law_665 : decode cL_law 665 = .ok (.iadd, 1) := by decide +kernel
theorem dL_law_666 : decode cL_law 666 = .ok (.iaload, 1) := by decide +kernel
theorem dL_law_667 : decode cL_law 667 = .ok (.aload_n 0, 1) := by decide +kernel
theorem dL_law_668 : decode cL_law 668 = .ok (.iload_n 3, 1) := by decide +kernel
theorem dL_law_669 : decode cL_law 669 = .ok (.iconst 2, 1) := by decide +kernel
theorem dL_law_670 : decode cL_law 670 = .ok (.iadd, 1) := by decide +kernel
theorem dL_law_671 : decode cL_law 671 = .ok (.iaload, 1) := by decide +kernel
theorem dL_law_672 : decode cL_law 672 = .ok (.invokevirtual 77, 3) := by decide +kernel
theorem dL_law_675 : decode cL_law 675 = .ok (.if_icmp .eq 631, 3) := by decide +kernel
theorem dL_law_678 : decode cL_law 678 = .ok (.iconst 0, 1) := by decide +kernel
theorem dL_law_679 : decode cL_law 679 = .ok (.ireturn, 1) := by decide +kernel
theorem dL_law_680 : decode cL_law 680 = .ok (.aload_n 1, 1) := by decide +kernel
theorem dL_law_681 : decode cL_law 681 = .ok (.aload_n 0, 1) := by decide +kernel
theorem dL_law_682 : decode cL_law 682 = .ok (.iload_n 3, 1) := by decide +kernel
theorem dL_law_683 : decode cL_law 683 = .ok (.iconst 1, 1) := by decide +kernel
theorem dL_law_684 : decode cL_law 684 = .ok (.iadd, 1) := by decide +kernel
theorem dL_law_685 : decode cL_law 685 = .ok (.iaload, 1) := by decide +kernel
theorem dL_law_686 : decode cL_law 686 = .ok (.aload_n 0, 1) := by decide +kernel
theorem dL_law_687 : decode cL_law 687 = .ok (.iload_n 3, 1) := by decide +kernel
theorem dL_law_688 : decode cL_law 688 = .ok (.iconst 2, 1) := by decide +kernel
theorem dL_law_689 : decode cL_law 689 = .ok (.iadd, 1) := by decide +kernel
theorem dL_law_690 : decode cL_law 690 = .ok (.iaload, 1) := by decide +kernel
theorem dL_law_691 : decode cL_law 691 = .ok (.invokevirtual 78, 3) := by decide +kernel
theorem dL_law_694 : decode cL_law 694 = .ok (.aload_n 2, 1) := by decide +kernel
theorem dL_law_695 : decode cL_law 695 = .ok (.aload_n 0, 1) := by decide +kernel
theorem dL_law_696 : decode cL_law 696 = .ok (.iload_n 3, 1) := by decide +kernel
theorem dL_law_697 : decode cL_law 697 = .ok (.iconst 1, 1) := by decide +kernel
theorem dL_law_698 : decode cL_law 698 = .ok (.iadd, 1) := by decide +kernel
theorem dL_law_699 : decode cL_law 699 = .ok (.iaload, 1) := by decide +kernel
theorem dL_law_700 : decode cL_law 700 = .ok (.aload_n 0, 1) := by decide +kernel
theorem dL_law_701 : decode cL_law 701 = .ok (.iload_n 3, 1) := by decide +kernel
theorem dL_law_702 : decode cL_law 702 = .ok (.iconst 2, 1) := by decide +kernel
theorem dL_law_703 : decode cL_law 703 = .ok (.iadd, 1) := by decide +kernel
theorem dL_law_704 : decode cL_law 704 = .ok (.iaload, 1) := by decide +kernel
theorem dL_law_705 : decode cL_law 705 = .ok (.invokevirtual 81, 3) := by decide +kernel
theorem dL_law_708 : decode cL_law 708 = .ok (.if_icmp .eq 598, 3) := by decide +kernel
theorem dL_law_711 : decode cL_law 711 = .ok (.iconst 0, 1) := by decide +kernel
theorem dL_law_712 : decode cL_law 712 = .ok (.ireturn, 1) := by decide +kernel
theorem dL_law_713 : decode cL_law 713 = .ok (.aload_n 1, 1) := by decide +kernel
theorem dL_law_714 : decode cL_law 714 = .ok (.aload_n 0, 1) := by decide +kernel
theorem dL_law_715 : decode cL_law 715 = .ok (.iload_n 3, 1) := by decide +kernel
theorem dL_law_716 : decode cL_law 716 = .ok (.iconst 1, 1) := by decide +kernel
theorem dL_law_717 : decode cL_law 717 = .ok (.iadd, 1) := by decide +kernel
theorem dL_law_718 : decode cL_law 718 = .ok (.iaload, 1) := by decide +kernel
theorem dL_law_719 : decode cL_law 719 = .ok (.invokevirtual 82, 3) := by decide +kernel
theorem dL_law_722 : decode cL_law 722 = .ok (.aload_n 2, 1) := by decide +kernel
theorem dL_law_723 : decode cL_law 723 = .ok (.aload_n 0, 1) := by decide +kernel
theorem dL_law_724 : decode cL_law 724 = .ok (.iload_n 3, 1) := by decide +kernel
theorem dL_law_725 : decode cL_law 725 = .ok (.iconst 1, 1) := by decide +kernel
theorem dL_law_726 : decode cL_law 726 = .ok (.iadd, 1) := by decide +kernel
theorem dL_law_727 : decode cL_law 727 = .ok (.iaload, 1) := by decide +kernel
theorem dL_law_728 : decode cL_law 728 = .ok (.invokevirtual 85, 3) := by decide +kernel
theorem dL_law_731 : decode cL_law 731 = .ok (.if_icmp .eq 575, 3) := by decide +kernel
theorem dL_law_734 : decode cL_law 734 = .ok (.iconst 0, 1) := by decide +kernel
theorem dL_law_735 : decode cL_law 735 = .ok (.ireturn, 1) := by decide +kernel
theorem dL_law_736 : decode cL_law 736 = .ok (.aload_n 1, 1) := by decide +kernel
theorem dL_law_737 : decode cL_law 737 = .ok (.aload_n 0, 1) := by decide +kernel
theorem dL_law_738 : decode cL_law 738 = .ok (.iload_n 3, 1) := by decide +kernel
theorem dL_law_739 : decode cL_law 739 = .ok (.iconst 1, 1) := by decide +kernel
theorem dL_law_740 : decode cL_law 740 = .ok (.iadd, 1) := by decide +kernel
theorem dL_law_741 : decode cL_law 741 = .ok (.iaload, 1) := by decide +kernel
theorem dL_law_742 : decode cL_law 742 = .ok (.aload_n 0, 1) := by decide +kernel
theorem dL_law_743 : decode cL_law 743 = .ok (.iload_n 3, 1) := by decide +kernel
theorem dL_law_744 : decode cL_law 744 = .ok (.iconst 2, 1) := by decide +kernel
theorem dL_law_745 : decode cL_law 745 = .ok (.iadd, 1) := by decide +kernel
theorem dL_law_746 : decode cL_law 746 = .ok (.iaload, 1) := by decide +kernel
theorem dL_law_747 : decode cL_law 747 = .ok (.invokevirtual 86, 3) := by decide +kernel
theorem dL_law_750 : decode cL_law 750 = .ok (.aload_n 2, 1) := by decide +kernel
theorem dL_law_751 : decode cL_law 751 = .ok (.aload_n 0, 1) := by decide +kernel
theorem dL_law_752 : decode cL_law 752 = .ok (.iload_n 3, 1) := by decide +kernel
theorem dL_law_753 : decode cL_law 753 = .ok (.iconst 1, 1) := by decide +kernel
theorem dL_law_754 : decode cL_law 754 = .ok (.iadd, 1) := by decide +kernel
theorem dL_law_755 : decode cL_law 755 = .ok (.iaload, 1) := by decide +kernel
theorem dL_law_756 : decode cL_law 756 = .ok (.aload_n 0, 1) := by decide +kernel
theorem dL_law_757 : decode cL_law 757 = .ok (.iload_n 3, 1) := by decide +kernel
theorem dL_law_758 : decode cL_law 758 = .ok (.iconst 2, 1) := by decide +kernel
theorem dL_law_759 : decode cL_law 759 = .ok (.iadd, 1) := by decide +kernel
theorem dL_law_760 : decode cL_law 760 = .ok (.iaload, 1) := by decide +kernel
theorem dL_law_761 : decode cL_law 761 = .ok (.invokevirtual 89, 3) := by decide +kernel
theorem dL_law_764 : decode cL_law 764 = .ok (.if_icmp .eq 542, 3) := by decide +kernel
theorem dL_law_767 : decode cL_law 767 = .ok (.iconst 0, 1) := by decide +kernel
theorem dL_law_768 : decode cL_law 768 = .ok (.ireturn, 1) := by decide +kernel
theorem dL_law_769 : decode cL_law 769 = .ok (.aload_n 1, 1) := by decide +kernel
theorem dL_law_770 : decode cL_law 770 = .ok (.aload_n 0, 1) := by decide +kernel
theorem dL_law_771 : decode cL_law 771 = .ok (.iload_n 3, 1) := by decide +kernel
theorem dL_law_772 : decode cL_law 772 = .ok (.iconst 1, 1) := by decide +kernel
theorem dL_law_773 : decode cL_law 773 = .ok (.iadd, 1) := by decide +kernel
theorem dL_law_774 : decode cL_law 774 = .ok (.iaload, 1) := by decide +kernel
theorem dL_law_775 : decode cL_law 775 = .ok (.invokevirtual 90, 3) := by decide +kernel
theorem dL_law_778 : decode cL_law 778 = .ok (.aload_n 2, 1) := by decide +kernel
theorem dL_law_779 : decode cL_law 779 = .ok (.aload_n 0, 1) := by decide +kernel
theorem dL_law_780 : decode cL_law 780 = .ok (.iload_n 3, 1) := by decide +kernel
theorem dL_law_781 : decode cL_law 781 = .ok (.iconst 1, 1) := by decide +kernel
theorem dL_law_782 : decode cL_law 782 = .ok (.iadd, 1) := by decide +kernel
theorem dL_law_783 : decode cL_law 783 = .ok (.iaload, 1) := by decide +kernel
theorem dL_law_784 : decode cL_law 784 = .ok (.invokevirtual 93, 3) := by decide +kernel
theorem dL_law_787 : decode cL_law 787 = .ok (.if_icmp .eq 519, 3) := by decide +kernel
theorem dL_law_790 : decode cL_law 790 = .ok (.iconst 0, 1) := by decide +kernel
theorem dL_law_791 : decode cL_law 791 = .ok (.ireturn, 1) := by decide +kernel
theorem dL_law_792 : decode cL_law 792 = .ok (.aload_n 1, 1) := by decide +kernel
theorem dL_law_793 : decode cL_law 793 = .ok (.aload_n 0, 1) := by decide +kernel
theorem dL_law_794 : decode cL_law 794 = .ok (.iload_n 3, 1) := by decide +kernel
theorem dL_law_795 : decode cL_law 795 = .ok (.iconst 1, 1) := by decide +kernel
theorem dL_law_796 : decode cL_law 796 = .ok (.iadd, 1) := by decide +kernel
theorem dL_law_797 : decode cL_law 797 = .ok (.iaload, 1) := by decide +kernel
theorem dL_law_798 : decode cL_law 798 = .ok (.aload_n 0, 1) := by decide +kernel
theorem dL_law_799 : decode cL_law 799 = .ok (.iload_n 3, 1) := by decide +kernel
theorem dL_law_800 : decode cL_law 800 = .ok (.iconst 2, 1) := by decide +kernel
theorem dL_law_801 : decode cL_law 801 = .ok (.iadd, 1) := by decide +kernel
theorem dL_law_802 : decode cL_law 802 = .ok (.iaload, 1) := by decide +kernel
theorem dL_law_803 : decode cL_law 803 = .ok (.invokevirtual 94, 3) := by decide +kernel
theorem dL_law_806 : decode cL_law 806 = .ok (.aload_n 2, 1) := by decide +kernel
theorem dL_law_807 : decode cL_law 807 = .ok (.aload_n 0, 1) := by decide +kernel
theorem dL_law_808 : decode cL_law 808 = .ok (.iload_n 3, 1) := by decide +kernel
theorem dL_law_809 : decode cL_law 809 = .ok (.iconst 1, 1) := by decide +kernel
theorem dL_law_810 : decode cL_law 810 = .ok (.iadd, 1) := by decide +kernel
theorem dL_law_811 : decode cL_law 811 = .ok (.iaload, 1) := by decide +kernel
theorem dL_law_812 : decode cL_law 812 = .ok (.aload_n 0, 1) := by decide +kernel
theorem dL_law_813 : decode cL_law 813 = .ok (.iload_n 3, 1) := by decide +kernel
theorem dL_law_814 : decode cL_law 814 = .ok (.iconst 2, 1) := by decide +kernel
theorem dL_law_815 : decode cL_law 815 = .ok (.iadd, 1) := by decide +kernel
theorem dL_law_816 : decode cL_law 816 = .ok (.iaload, 1) := by decide +kernel
theorem dL_law_817 : decode cL_law 817 = .ok (.invokevirtual 97, 3) := by decide +kernel
theorem dL_law_820 : decode cL_law 820 = .ok (.if_icmp .eq 486, 3) := by decide +kernel
theorem dL_law_823 : decode cL_law 823 = .ok (.iconst 0, 1) := by decide +kernel
theorem dL_law_824 : decode cL_law 824 = .ok (.ireturn, 1) := by decide +kernel
theorem dL_law_825 : decode cL_law 825 = .ok (.aload_n 1, 1) := by decide +kernel
theorem dL_law_826 : decode cL_law 826 = .ok (.aload_n 0, 1) := by decide +kernel
theorem dL_law_827 : decode cL_law 827 = .ok (.iload_n 3, 1) := by decide +kernel
theorem dL_law_828 : decode cL_law 828 = .ok (.iconst 1, 1) := by decide +kernel
theorem dL_law_829 : decode cL_law 829 = .ok (.iadd, 1) := by decide +kernel
theorem dL_law_830 : decode cL_law 830 = .ok (.iaload, 1) := by decide +kernel
theorem dL_law_831 : decode cL_law 831 = .ok (.aload_n 0, 1) := by decide +kernel
theorem dL_law_832 : decode cL_law 832 = .ok (.iload_n 3, 1) := by decide +kernel
theorem dL_law_833 : decode cL_law 833 = .ok (.iconst 2, 1) := by decide +kernel
theorem dL_law_834 : decode cL_law 834 = .ok (.iadd, 1) := by decide +kernel
theorem dL_law_835 : decode cL_law 835 = .ok (.iaload, 1) := by decide +kernel
theorem dL_law_836 : decode cL_law 836 = .ok (.invokevirtual 98, 3) := by decide +kernel
theorem dL_law_839 : decode cL_law 839 = .ok (.aload_n 2, 1) := by decide +kernel
theorem dL_law_840 : decode cL_law 840 = .ok (.aload_n 0, 1) := by decide +kernel
theorem dL_law_841 : decode cL_law 841 = .ok (.iload_n 3, 1) := by decide +kernel
theorem dL_law_842 : decode cL_law 842 = .ok (.iconst 1, 1) := by decide +kernel
theorem dL_law_843 : decode cL_law 843 = .ok (.iadd, 1) := by decide +kernel
theorem dL_law_844 : decode cL_law 844 = .ok (.iaload, 1) := by decide +kernel
theorem dL_law_845 : decode cL_law 845 = .ok (.aload_n 0, 1) := by decide +kernel
theorem dL_law_846 : decode cL_law 846 = .ok (.iload_n 3, 1) := by decide +kernel
theorem dL_law_847 : decode cL_law 847 = .ok (.iconst 2, 1) := by decide +kernel
theorem dL_law_848 : decode cL_law 848 = .ok (.iadd, 1) := by decide +kernel
theorem dL_law_849 : decode cL_law 849 = .ok (.iaload, 1) := by decide +kernel
theorem dL_law_850 : decode cL_law 850 = .ok (.invokevirtual 101, 3) := by decide +kernel
theorem dL_law_853 : decode cL_law 853 = .ok (.if_icmp .eq 453, 3) := by decide +kernel
theorem dL_law_856 : decode cL_law 856 = .ok (.iconst 0, 1) := by decide +kernel
theorem dL_law_857 : decode cL_law 857 = .ok (.ireturn, 1) := by decide +kernel
theorem dL_law_858 : decode cL_law 858 = .ok (.aload_n 1, 1) := by decide +kernel
theorem dL_law_859 : decode cL_law 859 = .ok (.aload_n 0, 1) := by decide +kernel
theorem dL_law_860 : decode cL_law 860 = .ok (.iload_n 3, 1) := by decide +kernel
theorem dL_law_861 : decode cL_law 861 = .ok (.iconst 1, 1) := by decide +kernel
theorem dL_law_862 : decode cL_law 862 = .ok (.iadd, 1) := by decide +kernel
theorem dL_law_863 : decode cL_law 863 = .ok (.iaload, 1) := by decide +kernel
theorem dL_law_864 : decode cL_law 864 = .ok (.aload_n 0, 1) := by decide +kernel
theorem dL_law_865 : decode cL_law 865 = .ok (.iload_n 3, 1) := by decide +kernel
theorem dL_law_866 : decode cL_law 866 = .ok (.iconst 2, 1) := by decide +kernel
theorem dL_law_867 : decode cL_law 867 = .ok (.iadd, 1) := by decide +kernel
theorem dL_law_868 : decode cL_law 868 = .ok (.iaload, 1) := by decide +kernel
theorem dL_law_869 : decode cL_law 869 = .ok (.invokevirtual 102, 3) := by decide +kernel
theorem dL_law_872 : decode cL_law 872 = .ok (.aload_n 2, 1) := by decide +kernel
theorem dL_law_873 : decode cL_law 873 = .ok (.aload_n 0, 1) := by decide +kernel
theorem dL_law_874 : decode cL_law 874 = .ok (.iload_n 3, 1) := by decide +kernel
theorem dL_law_875 : decode cL_law 875 = .ok (.iconst 1, 1) := by decide +kernel
theorem dL_law_876 : decode cL_law 876 = .ok (.iadd, 1) := by decide +kernel
theorem dL_law_877 : decode cL_law 877 = .ok (.iaload, 1) := by decide +kernel
theorem dL_law_878 : decode cL_law 878 = .ok (.aload_n 0, 1) := by decide +kernel
theorem dL_law_879 : decode cL_law 879 = .ok (.iload_n 3, 1) := by decide +kernel
theorem dL_law_880 : decode cL_law 880 = .ok (.iconst 2, 1) := by decide +kernel
theorem dL_law_881 : decode cL_law 881 = .ok (.iadd, 1) := by decide +kernel
theorem dL_law_882 : decode cL_law 882 = .ok (.iaload, 1) := by decide +kernel
theorem dL_law_883 : decode cL_law 883 = .ok (.invokevirtual 105, 3) := by decide +kernel
theorem dL_law_886 : decode cL_law 886 = .ok (.if_icmp .eq 420, 3) := by decide +kernel
theorem dL_law_889 : decode cL_law 889 = .ok (.iconst 0, 1) := by decide +kernel
theorem dL_law_890 : decode cL_law 890 = .ok (.ireturn, 1) := by decide +kernel
theorem dL_law_891 : decode cL_law 891 = .ok (.aload_n 1, 1) := by decide +kernel
theorem dL_law_892 : decode cL_law 892 = .ok (.aload_n 0, 1) := by decide +kernel
theorem dL_law_893 : decode cL_law 893 = .ok (.iload_n 3, 1) := by decide +kernel
theorem dL_law_894 : decode cL_law 894 = .ok (.iconst 1, 1) := by decide +kernel
theorem dL_law_895 : decode cL_law 895 = .ok (.iadd, 1) := by decide +kernel
theorem dL_law_896 : decode cL_law 896 = .ok (.iaload, 1) := by decide +kernel
theorem dL_law_897 : decode cL_law 897 = .ok (.aload_n 0, 1) := by decide +kernel
theorem dL_law_898 : decode cL_law 898 = .ok (.iload_n 3, 1) := by decide +kernel
theorem dL_law_899 : decode cL_law 899 = .ok (.iconst 2, 1) := by decide +kernel
theorem dL_law_900 : decode cL_law 900 = .ok (.iadd, 1) := by decide +kernel
theorem dL_law_901 : decode cL_law 901 = .ok (.iaload, 1) := by decide +kernel
theorem dL_law_902 : decode cL_law 902 = .ok (.invokevirtual 106, 3) := by decide +kernel
theorem dL_law_905 : decode cL_law 905 = .ok (.aload_n 2, 1) := by decide +kernel
theorem dL_law_906 : decode cL_law 906 = .ok (.aload_n 0, 1) := by decide +kernel
theorem dL_law_907 : decode cL_law 907 = .ok (.iload_n 3, 1) := by decide +kernel
theorem dL_law_908 : decode cL_law 908 = .ok (.iconst 1, 1) := by decide +kernel
theorem dL_law_909 : decode cL_law 909 = .ok (.iadd, 1) := by decide +kernel
theorem dL_law_910 : decode cL_law 910 = .ok (.iaload, 1) := by decide +kernel
theorem dL_law_911 : decode cL_law 911 = .ok (.aload_n 0, 1) := by decide +kernel
theorem dL_law_912 : decode cL_law 912 = .ok (.iload_n 3, 1) := by decide +kernel
theorem dL_law_913 : decode cL_law 913 = .ok (.iconst 2, 1) := by decide +kernel
theorem dL_law_914 : decode cL_law 914 = .ok (.iadd, 1) := by decide +kernel
theorem dL_law_915 : decode cL_law 915 = .ok (.iaload, 1) := by decide +kernel
theorem dL_law_916 : decode cL_law 916 = .ok (.invokevirtual 109, 3) := by decide +kernel
theorem dL_law_919 : decode cL_law 919 = .ok (.if_icmp .eq 387, 3) := by decide +kernel
theorem dL_law_922 : decode cL_law 922 = .ok (.iconst 0, 1) := by decide +kernel
theorem dL_law_923 : decode cL_law 923 = .ok (.ireturn, 1) := by decide +kernel
theorem dL_law_924 : decode cL_law 924 = .ok (.aload_n 1, 1) := by decide +kernel
theorem dL_law_925 : decode cL_law 925 = .ok (.invokevirtual 110, 3) := by decide +kernel
theorem dL_law_928 : decode cL_law 928 = .ok (.aload_n 2, 1) := by decide +kernel
theorem dL_law_929 : decode cL_law 929 = .ok (.invokevirtual 114, 3) := by decide +kernel
theorem dL_law_932 : decode cL_law 932 = .ok (.lcmp, 1) := by decide +kernel
theorem dL_law_933 : decode cL_law 933 = .ok (.ifCond .eq 373, 3) := by decide +kernel
theorem dL_law_936 : decode cL_law 936 = .ok (.iconst 0, 1) := by decide +kernel
theorem dL_law_937 : decode cL_law 937 = .ok (.ireturn, 1) := by decide +kernel
theorem dL_law_938 : decode cL_law 938 = .ok (.aload_n 1, 1) := by decide +kernel
theorem dL_law_939 : decode cL_law 939 = .ok (.invokevirtual 115, 3) := by decide +kernel
theorem dL_law_942 : decode cL_law 942 = .ok (.aload_n 2, 1) := by decide +kernel
theorem dL_law_943 : decode cL_law 943 = .ok (.invokevirtual 118, 3) := by decide +kernel
theorem dL_law_946 : decode cL_law 946 = .ok (.lcmp, 1) := by decide +kernel
theorem dL_law_947 : decode cL_law 947 = .ok (.ifCond .eq 359, 3) := by decide +kernel
theorem dL_law_950 : decode cL_law 950 = .ok (.iconst 0, 1) := by decide +kernel
theorem dL_law_951 : decode cL_law 951 = .ok (.ireturn, 1) := by decide +kernel
theorem dL_law_952 : decode cL_law 952 = .ok (.aload_n 1, 1) := by decide +kernel
theorem dL_law_953 : decode cL_law 953 = .ok (.aload_n 0, 1) := by decide +kernel
theorem dL_law_954 : decode cL_law 954 = .ok (.iload_n 3, 1) := by decide +kernel
theorem dL_law_955 : decode cL_law 955 = .ok (.iconst 1, 1) := by decide +kernel
theorem dL_law_956 : decode cL_law 956 = .ok (.iadd, 1) := by decide +kernel
theorem dL_law_957 : decode cL_law 957 = .ok (.iaload, 1) := by decide +kernel
theorem dL_law_958 : decode cL_law 958 = .ok (.aload_n 0, 1) := by decide +kernel
theorem dL_law_959 : decode cL_law 959 = .ok (.iload_n 3, 1) := by decide +kernel
theorem dL_law_960 : decode cL_law 960 = .ok (.iconst 2, 1) := by decide +kernel
theorem dL_law_961 : decode cL_law 961 = .ok (.iadd, 1) := by decide +kernel
theorem dL_law_962 : decode cL_law 962 = .ok (.iaload, 1) := by decide +kernel
theorem dL_law_963 : decode cL_law 963 = .ok (.aload_n 0, 1) := by decide +kernel
theorem dL_law_964 : decode cL_law 964 = .ok (.iload_n 3, 1) := by decide +kernel
theorem dL_law_965 : decode cL_law 965 = .ok (.iconst 3, 1) := by decide +kernel
theorem dL_law_966 : decode cL_law 966 = .ok (.iadd, 1) := by decide +kernel
theorem dL_law_967 : decode cL_law 967 = .ok (.iaload, 1) := by decide +kernel
theorem dL_law_968 : decode cL_law 968 = .ok (.aload_n 0, 1) := by decide +kernel
theorem dL_law_969 : decode cL_law 969 = .ok (.iload_n 3, 1) := by decide +kernel
theorem dL_law_970 : decode cL_law 970 = .ok (.iconst 4, 1) := by decide +kernel
theorem dL_law_971 : decode cL_law 971 = .ok (.iadd, 1) := by decide +kernel
theorem dL_law_972 : decode cL_law 972 = .ok (.iaload, 1) := by decide +kernel
theorem dL_law_973 : decode cL_law 973 = .ok (.invokevirtual 119, 3) := by decide +kernel
theorem dL_law_976 : decode cL_law 976 = .ok (.aload_n 2, 1) := by decide +kernel
theorem dL_law_977 : decode cL_law 977 = .ok (.aload_n 0, 1) := by decide +kernel
theorem dL_law_978 : decode cL_law 978 = .ok (.iload_n 3, 1) := by decide +kernel
theorem dL_law_979 : decode cL_law 979 = .ok (.iconst 1, 1) := by decide +kernel
theorem dL_law_980 : decode cL_law 980 = .ok (.iadd, 1) := by decide +kernel
theorem dL_law_981 : decode cL_law 981 = .ok (.iaload, 1) := by decide +kernel
theorem dL_law_982 : decode cL_law 982 = .ok (.aload_n 0, 1) := by decide +kernel
theorem dL_law_983 : decode cL_law 983 = .ok (.iload_n 3, 1) := by decide +kernel
theorem dL_law_984 : decode cL_law 984 = .ok (.iconst 2, 1) := by decide +kernel
theorem dL_law_985 : decode cL_law 985 = .ok (.iadd, 1) := by decide +kernel
theorem dL_law_986 : decode cL_law 986 = .ok (.iaload, 1) := by decide +kernel
theorem dL_law_987 : decode cL_law 987 = .ok (.aload_n 0, 1) := by decide +kernel
theorem dL_law_988 : decode cL_law 988 = .ok (.iload_n 3, 1) := by decide +kernel
theorem dL_law_989 : decode cL_law 989 = .ok (.iconst 3, 1) := by decide +kernel
theorem dL_law_990 : decode cL_law 990 = .ok (.iadd, 1) := by decide +kernel
theorem dL_law_991 : decode cL_law 991 = .ok (.iaload, 1) := by decide +kernel
theorem dL_law_992 : decode cL_law 992 = .ok (.aload_n 0, 1) := by decide +kernel
theorem dL_law_993 : decode cL_law 993 = .ok (.iload_n 3, 1) := by decide +kernel
theorem dL_law_994 : decode cL_law 994 = .ok (.iconst 4, 1) := by decide +kernel
theorem dL_law_995 : decode cL_law 995 = .ok (.iadd, 1) := by decide +kernel
theorem dL_law_996 : decode cL_law 996 = .ok (.iaload, 1) := by decide +kernel
theorem dL_law_997 : decode cL_law 997 = .ok (.invokevirtual 122, 3) := by decide +kernel
theorem dL_law_1000 : decode cL_law 1000 = .ok (.if_icmp .eq 306, 3) := by decide +kernel
theorem dL_law_1003 : decode cL_law 1003 = .ok (.iconst 0, 1) := by decide +kernel
theorem dL_law_1004 : decode cL_law 1004 = .ok (.ireturn, 1) := by decide +kernel
theorem dL_law_1005 : decode cL_law 1005 = .ok (.aload_n 1, 1) := by decide +kernel
theorem dL_law_1006 : decode cL_law 1006 = .ok (.aload_n 0, 1) := by decide +kernel
theorem dL_law_1007 : decode cL_law 1007 = .ok (.iload_n 3, 1) := by decide +kernel
theorem dL_law_1008 : decode cL_law 1008 = .ok (.iconst 1, 1) := by decide +kernel
theorem dL_law_1009 : decode cL_law 1009 = .ok (.iadd, 1) := by decide +kernel
theorem dL_law_1010 : decode cL_law 1010 = .ok (.iaload, 1) := by decide +kernel
theorem dL_law_1011 : decode cL_law 1011 = .ok (.aload_n 0, 1) := by decide +kernel
theorem dL_law_1012 : decode cL_law 1012 = .ok (.iload_n 3, 1) := by decide +kernel
theorem dL_law_1013 : decode cL_law 1013 = .ok (.iconst 2, 1) := by decide +kernel
theorem dL_law_1014 : decode cL_law 1014 = .ok (.iadd, 1) := by decide +kernel
theorem dL_law_1015 : decode cL_law 1015 = .ok (.iaload, 1) := by decide +kernel
theorem dL_law_1016 : decode cL_law 1016 = .ok (.aload_n 0, 1) := by decide +kernel
theorem dL_law_1017 : decode cL_law 1017 = .ok (.iload_n 3, 1) := by decide +kernel
theorem dL_law_1018 : decode cL_law 1018 = .ok (.iconst 3, 1) := by decide +kernel
theorem dL_law_1019 : decode cL_law 1019 = .ok (.iadd, 1) := by decide +kernel
theorem dL_law_1020 : decode cL_law 1020 = .ok (.iaload, 1) := by decide +kernel
theorem dL_law_1021 : decode cL_law 1021 = .ok (.aload_n 0, 1) := by decide +kernel
theorem dL_law_1022 : decode cL_law 1022 = .ok (.iload_n 3, 1) := by decide +kernel
theorem dL_law_1023 : decode cL_law 1023 = .ok (.iconst 4, 1) := by decide +kernel
theorem dL_law_1024 : decode cL_law 1024 = .ok (.iadd, 1) := by decide +kernel
theorem dL_law_1025 : decode cL_law 1025 = .ok (.iaload, 1) := by decide +kernel
theorem dL_law_1026 : decode cL_law 1026 = .ok (.invokevirtual 123, 3) := by decide +kernel
theorem dL_law_1029 : decode cL_law 1029 = .ok (.aload_n 2, 1) := by decide +kernel
theorem dL_law_1030 : decode cL_law 1030 = .ok (.aload_n 0, 1) := by decide +kernel
theorem dL_law_1031 : decode cL_law 1031 = .ok (.iload_n 3, 1) := by decide +kernel
theorem dL_law_1032 : decode cL_law 1032 = .ok (.iconst 1, 1) := by decide +kernel
theorem dL_law_1033 : decode cL_law 1033 = .ok (.iadd, 1) := by decide +kernel
theorem dL_law_1034 : decode cL_law 1034 = .ok (.iaload, 1) := by decide +kernel
theorem dL_law_1035 : decode cL_law 1035 = .ok (.aload_n 0, 1) := by decide +kernel
theorem dL_law_1036 : decode cL_law 1036 = .ok (.iload_n 3, 1) := by decide +kernel
theorem dL_law_1037 : decode cL_law 1037 = .ok (.iconst 2, 1) := by decide +kernel
theorem dL_law_1038 : decode cL_law 1038 = .ok (.iadd, 1) := by decide +kernel
theorem dL_law_1039 : decode cL_law 1039 = .ok (.iaload, 1) := by decide +kernel
theorem dL_law_1040 : decode cL_law 1040 = .ok (.aload_n 0, 1) := by decide +kernel
theorem dL_law_1041 : decode cL_law 1041 = .ok (.iload_n 3, 1) := by decide +kernel
theorem dL_law_1042 : decode cL_law 1042 = .ok (.iconst 3, 1) := by decide +kernel
theorem dL_law_1043 : decode cL_law 1043 = .ok (.iadd, 1) := by decide +kernel
theorem dL_law_1044 : decode cL_law 1044 = .ok (.iaload, 1) := by decide +kernel
theorem dL_law_1045 : decode cL_law 1045 = .ok (.aload_n 0, 1) := by decide +kernel
theorem dL_law_1046 : decode cL_law 1046 = .ok (.iload_n 3, 1) := by decide +kernel
theorem dL_law_1047 : decode cL_law 1047 = .ok (.iconst 4, 1) := by decide +kernel
theorem dL_law_1048 : decode cL_law 1048 = .ok (.iadd, 1) := by decide +kernel
theorem dL_law_1049 : decode cL_law 1049 = .ok (.iaload, 1) := by decide +kernel
theorem dL_law_1050 : decode cL_law 1050 = .ok (.invokevirtual 126, 3) := by decide +kernel
theorem dL_law_1053 : decode cL_law 1053 = .ok (.if_icmp .eq 253, 3) := by decide +kernel
theorem dL_law_1056 : decode cL_law 1056 = .ok (.iconst 0, 1) := by decide +kernel
theorem dL_law_1057 : decode cL_law 1057 = .ok (.ireturn, 1) := by decide +kernel
theorem dL_law_1058 : decode cL_law 1058 = .ok (.aload_n 1, 1) := by decide +kernel
theorem dL_law_1059 : decode cL_law 1059 = .ok (.aload_n 0, 1) := by decide +kernel
theorem dL_law_1060 : decode cL_law 1060 = .ok (.iload_n 3, 1) := by decide +kernel
theorem dL_law_1061 : decode cL_law 1061 = .ok (.iconst 1, 1) := by decide +kernel
theorem dL_law_1062 : decode cL_law 1062 = .ok (.iadd, 1) := by decide +kernel
theorem dL_law_1063 : decode cL_law 1063 = .ok (.iaload, 1) := by decide +kernel
theorem dL_law_1064 : decode cL_law 1064 = .ok (.aload_n 0, 1) := by decide +kernel
theorem dL_law_1065 : decode cL_law 1065 = .ok (.iload_n 3, 1) := by decide +kernel
theorem dL_law_1066 : decode cL_law 1066 = .ok (.iconst 2, 1) := by decide +kernel
theorem dL_law_1067 : decode cL_law 1067 = .ok (.iadd, 1) := by decide +kernel
theorem dL_law_1068 : decode cL_law 1068 = .ok (.iaload, 1) := by decide +kernel
theorem dL_law_1069 : decode cL_law 1069 = .ok (.aload_n 0, 1) := by decide +kernel
theorem dL_law_1070 : decode cL_law 1070 = .ok (.iload_n 3, 1) := by decide +kernel
theorem dL_law_1071 : decode cL_law 1071 = .ok (.iconst 3, 1) := by decide +kernel
theorem dL_law_1072 : decode cL_law 1072 = .ok (.iadd, 1) := by decide +kernel
theorem dL_law_1073 : decode cL_law 1073 = .ok (.iaload, 1) := by decide +kernel
theorem dL_law_1074 : decode cL_law 1074 = .ok (.invokevirtual 127, 3) := by decide +kernel
theorem dL_law_1077 : decode cL_law 1077 = .ok (.aload_n 2, 1) := by decide +kernel
theorem dL_law_1078 : decode cL_law 1078 = .ok (.aload_n 0, 1) := by decide +kernel
theorem dL_law_1079 : decode cL_law 1079 = .ok (.iload_n 3, 1) := by decide +kernel
theorem dL_law_1080 : decode cL_law 1080 = .ok (.iconst 1, 1) := by decide +kernel
theorem dL_law_1081 : decode cL_law 1081 = .ok (.iadd, 1) := by decide +kernel
theorem dL_law_1082 : decode cL_law 1082 = .ok (.iaload, 1) := by decide +kernel
theorem dL_law_1083 : decode cL_law 1083 = .ok (.aload_n 0, 1) := by decide +kernel
theorem dL_law_1084 : decode cL_law 1084 = .ok (.iload_n 3, 1) := by decide +kernel
theorem dL_law_1085 : decode cL_law 1085 = .ok (.iconst 2, 1) := by decide +kernel
theorem dL_law_1086 : decode cL_law 1086 = .ok (.iadd, 1) := by decide +kernel
theorem dL_law_1087 : decode cL_law 1087 = .ok (.iaload, 1) := by decide +kernel
theorem dL_law_1088 : decode cL_law 1088 = .ok (.aload_n 0, 1) := by decide +kernel
theorem dL_law_1089 : decode cL_law 1089 = .ok (.iload_n 3, 1) := by decide +kernel
theorem dL_law_1090 : decode cL_law 1090 = .ok (.iconst 3, 1) := by decide +kernel
theorem dL_law_1091 : decode cL_law 1091 = .ok (.iadd, 1) := by decide +kernel
theorem dL_law_1092 : decode cL_law 1092 = .ok (.iaload, 1) := by decide +kernel
theorem dL_law_1093 : decode cL_law 1093 = .ok (.invokevirtual 130, 3) := by decide +kernel
theorem dL_law_1096 : decode cL_law 1096 = .ok (.if_icmp .eq 210, 3) := by decide +kernel
theorem dL_law_1099 : decode cL_law 1099 = .ok (.iconst 0, 1) := by decide +kernel
theorem dL_law_1100 : decode cL_law 1100 = .ok (.ireturn, 1) := by decide +kernel
theorem dL_law_1101 : decode cL_law 1101 = .ok (.aload_n 1, 1) := by decide +kernel
theorem dL_law_1102 : decode cL_law 1102 = .ok (.aload_n 0, 1) := by decide +kernel
theorem dL_law_1103 : decode cL_law 1103 = .ok (.iload_n 3, 1) := by decide +kernel
theorem dL_law_1104 : decode cL_law 1104 = .ok (.iconst 1, 1) := by decide +kernel
theorem dL_law_1105 : decode cL_law 1105 = .ok (.iadd, 1) := by decide +kernel
theorem dL_law_1106 : decode cL_law 1106 = .ok (.iaload, 1) := by decide +kernel
theorem dL_law_1107 : decode cL_law 1107 = .ok (.aload_n 0, 1) := by decide +kernel
theorem dL_law_1108 : decode cL_law 1108 = .ok (.iload_n 3, 1) := by decide +kernel
theorem dL_law_1109 : decode cL_law 1109 = .ok (.iconst 2, 1) := by decide +kernel
theorem dL_law_1110 : decode cL_law 1110 = .ok (.iadd, 1) := by decide +kernel
theorem dL_law_1111 : decode cL_law 1111 = .ok (.iaload, 1) := by decide +kernel
theorem dL_law_1112 : decode cL_law 1112 = .ok (.aload_n 0, 1) := by decide +kernel
theorem dL_law_1113 : decode cL_law 1113 = .ok (.iload_n 3, 1) := by decide +kernel
theorem dL_law_1114 : decode cL_law 1114 = .ok (.iconst 3, 1) := by decide +kernel
theorem dL_law_1115 : decode cL_law 1115 = .ok (.iadd, 1) := by decide +kernel
theorem dL_law_1116 : decode cL_law 1116 = .ok (.iaload, 1) := by decide +kernel
theorem dL_law_1117 : decode cL_law 1117 = .ok (.invokevirtual 131, 3) := by decide +kernel
theorem dL_law_1120 : decode cL_law 1120 = .ok (.aload_n 2, 1) := by decide +kernel
theorem dL_law_1121 : decode cL_law 1121 = .ok (.aload_n 0, 1) := by decide +kernel
theorem dL_law_1122 : decode cL_law 1122 = .ok (.iload_n 3, 1) := by decide +kernel
theorem dL_law_1123 : decode cL_law 1123 = .ok (.iconst 1, 1) := by decide +kernel
theorem dL_law_1124 : decode cL_law 1124 = .ok (.iadd, 1) := by decide +kernel
theorem dL_law_1125 : decode cL_law 1125 = .ok (.iaload, 1) := by decide +kernel
theorem dL_law_1126 : decode cL_law 1126 = .ok (.aload_n 0, 1) := by decide +kernel
theorem dL_law_1127 : decode cL_law 1127 = .ok (.iload_n 3, 1) := by decide +kernel
theorem dL_law_1128 : decode cL_law 1128 = .ok (.iconst 2, 1) := by decide +kernel
theorem dL_law_1129 : decode cL_law 1129 = .ok (.iadd, 1) := by decide +kernel
theorem dL_law_1130 : decode cL_law 1130 = .ok (.iaload, 1) := by decide +kernel
theorem dL_law_1131 : decode cL_law 1131 = .ok (.aload_n 0, 1) := by decide +kernel
theorem dL_law_1132 : decode cL_law 1132 = .ok (.iload_n 3, 1) := by decide +kernel
theorem dL_law_1133 : decode cL_law 1133 = .ok (.iconst 3, 1) := by decide +kernel
theorem dL_law_1134 : decode cL_law 1134 = .ok (.iadd, 1) := by decide +kernel
theorem dL_law_1135 : decode cL_law 1135 = .ok (.iaload, 1) := by decide +kernel
theorem dL_law_1136 : decode cL_law 1136 = .ok (.invokevirtual 134, 3) := by decide +kernel
theorem dL_law_1139 : decode cL_law 1139 = .ok (.if_icmp .eq 167, 3) := by decide +kernel
theorem dL_law_1142 : decode cL_law 1142 = .ok (.iconst 0, 1) := by decide +kernel
theorem dL_law_1143 : decode cL_law 1143 = .ok (.ireturn, 1) := by decide +kernel
theorem dL_law_1144 : decode cL_law 1144 = .ok (.aload_n 1, 1) := by decide +kernel
theorem dL_law_1145 : decode cL_law 1145 = .ok (.aload_n 0, 1) := by decide +kernel
theorem dL_law_1146 : decode cL_law 1146 = .ok (.iload_n 3, 1) := by decide +kernel
theorem dL_law_1147 : decode cL_law 1147 = .ok (.iconst 1, 1) := by decide +kernel
theorem dL_law_1148 : decode cL_law 1148 = .ok (.iadd, 1) := by decide +kernel
theorem dL_law_1149 : decode cL_law 1149 = .ok (.iaload, 1) := by decide +kernel
theorem dL_law_1150 : decode cL_law 1150 = .ok (.invokevirtual 135, 3) := by decide +kernel
theorem dL_law_1153 : decode cL_law 1153 = .ok (.aload_n 2, 1) := by decide +kernel
theorem dL_law_1154 : decode cL_law 1154 = .ok (.aload_n 0, 1) := by decide +kernel
theorem dL_law_1155 : decode cL_law 1155 = .ok (.iload_n 3, 1) := by decide +kernel
theorem dL_law_1156 : decode cL_law 1156 = .ok (.iconst 1, 1) := by decide +kernel
theorem dL_law_1157 : decode cL_law 1157 = .ok (.iadd, 1) := by decide +kernel
theorem dL_law_1158 : decode cL_law 1158 = .ok (.iaload, 1) := by decide +kernel
theorem dL_law_1159 : decode cL_law 1159 = .ok (.invokevirtual 138, 3) := by decide +kernel
theorem dL_law_1162 : decode cL_law 1162 = .ok (.if_icmp .eq 144, 3) := by decide +kernel
theorem dL_law_1165 : decode cL_law 1165 = .ok (.iconst 0, 1) := by decide +kernel
theorem dL_law_1166 : decode cL_law 1166 = .ok (.ireturn, 1) := by decide +kernel
theorem dL_law_1167 : decode cL_law 1167 = .ok (.aload_n 1, 1) := by decide +kernel
theorem dL_law_1168 : decode cL_law 1168 = .ok (.invokevirtual 139, 3) := by decide +kernel
theorem dL_law_1171 : decode cL_law 1171 = .ok (.aload_n 2, 1) := by decide +kernel
theorem dL_law_1172 : decode cL_law 1172 = .ok (.invokevirtual 142, 3) := by decide +kernel
theorem dL_law_1175 : decode cL_law 1175 = .ok (.if_icmp .eq 131, 3) := by decide +kernel
theorem dL_law_1178 : decode cL_law 1178 = .ok (.iconst 0, 1) := by decide +kernel
theorem dL_law_1179 : decode cL_law 1179 = .ok (.ireturn, 1) := by decide +kernel
theorem dL_law_1180 : decode cL_law 1180 = .ok (.aload_n 1, 1) := by decide +kernel
theorem dL_law_1181 : decode cL_law 1181 = .ok (.aload_n 0, 1) := by decide +kernel
theorem dL_law_1182 : decode cL_law 1182 = .ok (.iload_n 3, 1) := by decide +kernel
theorem dL_law_1183 : decode cL_law 1183 = .ok (.iconst 1, 1) := by decide +kernel
theorem dL_law_1184 : decode cL_law 1184 = .ok (.iadd, 1) := by decide +kernel
theorem dL_law_1185 : decode cL_law 1185 = .ok (.iaload, 1) := by decide +kernel
theorem dL_law_1186 : decode cL_law 1186 = .ok (.invokevirtual 143, 3) := by decide +kernel
theorem dL_law_1189 : decode cL_law 1189 = .ok (.aload_n 2, 1) := by decide +kernel
theorem dL_law_1190 : decode cL_law 1190 = .ok (.aload_n 0, 1) := by decide +kernel
theorem dL_law_1191 : decode cL_law 1191 = .ok (.iload_n 3, 1) := by decide +kernel
theorem dL_law_1192 : decode cL_law 1192 = .ok (.iconst 1, 1) := by decide +kernel
theorem dL_law_1193 : decode cL_law 1193 = .ok (.iadd, 1) := by decide +kernel
theorem dL_law_1194 : decode cL_law 1194 = .ok (.iaload, 1) := by decide +kernel
theorem dL_law_1195 : decode cL_law 1195 = .ok (.invokevirtual 146, 3) := by decide +kernel
theorem dL_law_1198 : decode cL_law 1198 = .ok (.if_icmp .eq 108, 3) := by decide +kernel
theorem dL_law_1201 : decode cL_law 1201 = .ok (.iconst 0, 1) := by decide +kernel
theorem dL_law_1202 : decode cL_law 1202 = .ok (.ireturn, 1) := by decide +kernel
theorem dL_law_1203 : decode cL_law 1203 = .ok (.aload_n 1, 1) := by decide +kernel
theorem dL_law_1204 : decode cL_law 1204 = .ok (.aload_n 0, 1) := by decide +kernel
theorem dL_law_1205 : decode cL_law 1205 = .ok (.iload_n 3, 1) := by decide +kernel
theorem dL_law_1206 : decode cL_law 1206 = .ok (.iconst 1, 1) := by decide +kernel
theorem dL_law_1207 : decode cL_law 1207 = .ok (.iadd, 1) := by decide +kernel
theorem dL_law_1208 : decode cL_law 1208 = .ok (.iaload, 1) := by decide +kernel
theorem dL_law_1209 : decode cL_law 1209 = .ok (.aload_n 0, 1) := by decide +kernel
theorem dL_law_1210 : decode cL_law 1210 = .ok (.iload_n 3, 1) := by decide +kernel
theorem dL_law_1211 : decode cL_law 1211 = .ok (.iconst 2, 1) := by decide +kernel
theorem dL_law_1212 : decode cL_law 1212 = .ok (.iadd, 1) := by decide +kernel
theorem dL_law_1213 : decode cL_law 1213 = .ok (.iaload, 1) := by decide +kernel
theorem dL_law_1214 : decode cL_law 1214 = .ok (.invokevirtual 147, 3) := by decide +kernel
theorem dL_law_1217 : decode cL_law 1217 = .ok (.aload_n 2, 1) := by decide +kernel
theorem dL_law_1218 : decode cL_law 1218 = .ok (.aload_n 0, 1) := by decide +kernel
theorem dL_law_1219 : decode cL_law 1219 = .ok (.iload_n 3, 1) := by decide +kernel
theorem dL_law_1220 : decode cL_law 1220 = .ok (.iconst 1, 1) := by decide +kernel
theorem dL_law_1221 : decode cL_law 1221 = .ok (.iadd, 1) := by decide +kernel
theorem dL_law_1222 : decode cL_law 1222 = .ok (.iaload, 1) := by decide +kernel
theorem dL_law_1223 : decode cL_law 1223 = .ok (.aload_n 0, 1) := by decide +kernel
theorem dL_law_1224 : decode cL_law 1224 = .ok (.iload_n 3, 1) := by decide +kernel
theorem dL_law_1225 : decode cL_law 1225 = .ok (.iconst 2, 1) := by decide +kernel
theorem dL_law_1226 : decode cL_law 1226 = .ok (.iadd, 1) := by decide +kernel
theorem dL_law_1227 : decode cL_law 1227 = .ok (.iaload, 1) := by decide +kernel
theorem dL_law_1228 : decode cL_law 1228 = .ok (.invokevirtual 150, 3) := by decide +kernel
theorem dL_law_1231 : decode cL_law 1231 = .ok (.if_icmp .eq 75, 3) := by decide +kernel
theorem dL_law_1234 : decode cL_law 1234 = .ok (.iconst 0, 1) := by decide +kernel
theorem dL_law_1235 : decode cL_law 1235 = .ok (.ireturn, 1) := by decide +kernel
theorem dL_law_1236 : decode cL_law 1236 = .ok (.aload_n 1, 1) := by decide +kernel
theorem dL_law_1237 : decode cL_law 1237 = .ok (.aload_n 0, 1) := by decide +kernel
theorem dL_law_1238 : decode cL_law 1238 = .ok (.iload_n 3, 1) := by decide +kernel
theorem dL_law_1239 : decode cL_law 1239 = .ok (.iconst 1, 1) := by decide +kernel
theorem dL_law_1240 : decode cL_law 1240 = .ok (.iadd, 1) := by decide +kernel
theorem dL_law_1241 : decode cL_law 1241 = .ok (.iaload, 1) := by decide +kernel
theorem dL_law_1242 : decode cL_law 1242 = .ok (.aload_n 0, 1) := by decide +kernel
theorem dL_law_1243 : decode cL_law 1243 = .ok (.iload_n 3, 1) := by decide +kernel
theorem dL_law_1244 : decode cL_law 1244 = .ok (.iconst 2, 1) := by decide +kernel
theorem dL_law_1245 : decode cL_law 1245 = .ok (.iadd, 1) := by decide +kernel
theorem dL_law_1246 : decode cL_law 1246 = .ok (.iaload, 1) := by decide +kernel
theorem dL_law_1247 : decode cL_law 1247 = .ok (.invokevirtual 151, 3) := by decide +kernel
theorem dL_law_1250 : decode cL_law 1250 = .ok (.aload_n 2, 1) := by decide +kernel
theorem dL_law_1251 : decode cL_law 1251 = .ok (.aload_n 0, 1) := by decide +kernel
theorem dL_law_1252 : decode cL_law 1252 = .ok (.iload_n 3, 1) := by decide +kernel
theorem dL_law_1253 : decode cL_law 1253 = .ok (.iconst 1, 1) := by decide +kernel
theorem dL_law_1254 : decode cL_law 1254 = .ok (.iadd, 1) := by decide +kernel
theorem dL_law_1255 : decode cL_law 1255 = .ok (.iaload, 1) := by decide +kernel
theorem dL_law_1256 : decode cL_law 1256 = .ok (.aload_n 0, 1) := by decide +kernel
theorem dL_law_1257 : decode cL_law 1257 = .ok (.iload_n 3, 1) := by decide +kernel
theorem dL_law_1258 : decode cL_law 1258 = .ok (.iconst 2, 1) := by decide +kernel
theorem dL_law_1259 : decode cL_law 1259 = .ok (.iadd, 1) := by decide +kernel
theorem dL_law_1260 : decode cL_law 1260 = .ok (.iaload, 1) := by decide +kernel
theorem dL_law_1261 : decode cL_law 1261 = .ok (.invokevirtual 155, 3) := by decide +kernel
theorem dL_law_1264 : decode cL_law 1264 = .ok (.lcmp, 1) := by decide +kernel
theorem dL_law_1265 : decode cL_law 1265 = .ok (.ifCond .eq 41, 3) := by decide +kernel
theorem dL_law_1268 : decode cL_law 1268 = .ok (.iconst 0, 1) := by decide +kernel
theorem dL_law_1269 : decode cL_law 1269 = .ok (.ireturn, 1) := by decide +kernel
theorem dL_law_1270 : decode cL_law 1270 = .ok (.aload_n 1, 1) := by decide +kernel
theorem dL_law_1271 : decode cL_law 1271 = .ok (.aload_n 0, 1) := by decide +kernel
theorem dL_law_1272 : decode cL_law 1272 = .ok (.iload_n 3, 1) := by decide +kernel
theorem dL_law_1273 : decode cL_law 1273 = .ok (.iconst 1, 1) := by decide +kernel
theorem dL_law_1274 : decode cL_law 1274 = .ok (.iadd, 1) := by decide +kernel
theorem dL_law_1275 : decode cL_law 1275 = .ok (.iaload, 1) := by decide +kernel
theorem dL_law_1276 : decode cL_law 1276 = .ok (.invokevirtual 156, 3) := by decide +kernel
theorem dL_law_1279 : decode cL_law 1279 = .ok (.aload_n 2, 1) := by decide +kernel
theorem dL_law_1280 : decode cL_law 1280 = .ok (.aload_n 0, 1) := by decide +kernel
theorem dL_law_1281 : decode cL_law 1281 = .ok (.iload_n 3, 1) := by decide +kernel
theorem dL_law_1282 : decode cL_law 1282 = .ok (.iconst 1, 1) := by decide +kernel
theorem dL_law_1283 : decode cL_law 1283 = .ok (.iadd, 1) := by decide +kernel
theorem dL_law_1284 : decode cL_law 1284 = .ok (.iaload, 1) := by decide +kernel
theorem dL_law_1285 : decode cL_law 1285 = .ok (.invokevirtual 159, 3) := by decide +kernel
theorem dL_law_1288 : decode cL_law 1288 = .ok (.if_icmp .eq 18, 3) := by decide +kernel
theorem dL_law_1291 : decode cL_law 1291 = .ok (.iconst 0, 1) := by decide +kernel
theorem dL_law_1292 : decode cL_law 1292 = .ok (.ireturn, 1) := by decide +kernel
theorem dL_law_1293 : decode cL_law 1293 = .ok (.aload_n 1, 1) := by decide +kernel
theorem dL_law_1294 : decode cL_law 1294 = .ok (.invokevirtual 160, 3) := by decide +kernel
theorem dL_law_1297 : decode cL_law 1297 = .ok (.aload_n 2, 1) := by decide +kernel
theorem dL_law_1298 : decode cL_law 1298 = .ok (.invokevirtual 163, 3) := by decide +kernel
theorem dL_law_1301 : decode cL_law 1301 = .ok (.if_icmp .eq 5, 3) := by decide +kernel
theorem dL_law_1304 : decode cL_law 1304 = .ok (.iconst 0, 1) := by decide +kernel
theorem dL_law_1305 : decode cL_law 1305 = .ok (.ireturn, 1) := by decide +kernel
theorem dL_law_1306 : decode cL_law 1306 = .ok (.iinc 3 6, 3) := by decide +kernel
theorem dL_law_1309 : decode cL_law 1309 = .ok (.goto (-1291), 3) := by decide +kernel
theorem dL_law_1312 : decode cL_law 1312 = .ok (.iconst 1, 1) := by decide +kernel
theorem dL_law_1313 : decode cL_law 1313 = .ok (.ireturn, 1) := by decide +kernel
