theorem dX9_init_0 : decode cX9_init 0 = .ok (.aload_n 0, 1) := by decide +kernel
theorem dX9_init_1 : decode cX9_init 1 = .ok (.invokespecial 1, 3) := by decide +kernel
theorem dX9_init_4 : decode cX9_init 4 = .ok (.aload_n 0, 1) := by decide +kernel
theorem dX9_init_5 : decode cX9_init 5 = .ok (.bipush 8, 2) := by decide +kernel
theorem dX9_init_7 : decode cX9_init 7 = .ok (.newarray .int, 2) := by decide +kernel
theorem dX9_init_9 : decode cX9_init 9 = .ok (.dup, 1) := by decide +kernel
theorem dX9_init_10 : decode cX9_init 10 = .ok (.iconst 0, 1) := by decide +kernel
theorem dX9_init_11 : decode cX9_init 11 = .ok (.iconst (-1), 1) := by decide +kernel
theorem dX9_init_12 : decode cX9_init 12 = .ok (.iastore, 1) := by decide +kernel
theorem dX9_init_13 : decode cX9_init 13 = .ok (.dup, 1) := by decide +kernel
theorem dX9_init_14 : decode cX9_init 14 = .ok (.iconst 1, 1) := by decide +kernel
theorem dX9_init_15 : decode cX9_init 15 = .ok (.iconst (-1), 1) := by decide +kernel
theorem dX9_init_16 : decode cX9_init 16 = .ok (.iastore, 1) := by decide +kernel
theorem dX9_init_17 : decode cX9_init 17 = .ok (.dup, 1) := by decide +kernel
theorem dX9_init_18 : decode cX9_init 18 = .ok (.iconst 2, 1) := by decide +kernel
theorem dX9_init_19 : decode cX9_init 19 = .ok (.iconst (-1), 1) := by decide +kernel
theorem dX9_init_20 : decode cX9_init 20 = .ok (.iastore, 1) := by decide +kernel
theorem dX9_init_21 : decode cX9_init 21 = .ok (.dup, 1) := by decide +kernel
theorem dX9_init_22 : decode cX9_init 22 = .ok (.iconst 3, 1) := by decide +kernel
theorem dX9_init_23 : decode cX9_init 23 = .ok (.iconst (-1), 1) := by decide +kernel
theorem dX9_init_24 : decode cX9_init 24 = .ok (.iastore, 1) := by decide +kernel
theorem dX9_init_25 : decode cX9_init 25 = .ok (.dup, 1) := by decide +kernel
theorem dX9_init_26 : decode cX9_init 26 = .ok (.iconst 4, 1) := by decide +kernel
theorem dX9_init_27 : decode cX9_init 27 = .ok (.iconst (-1), 1) := by decide +kernel
theorem dX9_init_28 : decode cX9_init 28 = .ok (.iastore, 1) := by decide +kernel
theorem dX9_init_29 : decode cX9_init 29 = .ok (.dup, 1) := by decide +kernel
theorem dX9_init_30 : decode cX9_init 30 = .ok (.iconst 5, 1) := by decide +kernel
theorem dX9_init_31 : decode cX9_init 31 = .ok (.iconst (-1), 1) := by decide +kernel
theorem dX9_init_32 : decode cX9_init 32 = .ok (.iastore, 1) := by decide +kernel
theorem dX9_init_33 : decode cX9_init 33 = .ok (.dup, 1) := by decide +kernel
theorem dX9_init_34 : decode cX9_init 34 = .ok (.bipush 6, 2) := by decide +kernel
theorem dX9_init_36 : decode cX9_init 36 = .ok (.iconst (-1), 1) := by decide +kernel
theorem dX9_init_37 : decode cX9_init 37 = .ok (.iastore, 1) := by decide +kernel
theorem dX9_init_38 : decode cX9_init 38 = .ok (.dup, 1) := by decide +kernel
theorem dX9_init_39 : decode cX9_init 39 = .ok (.bipush 7, 2) := by decide +kernel
theorem dX9_init_41 : decode cX9_init 41 = .ok (.iconst (-1), 1) := by decide +kernel
theorem dX9_init_42 : decode cX9_init 42 = .ok (.iastore, 1) := by decide +kernel
theorem dX9_init_43 : decode cX9_init 43 = .ok (.putfield 7, 3) := by decide +kernel
theorem dX9_init_46 : decode cX9_init 46 = .ok (.aload_n 0, 1) := by decide +kernel
theorem dX9_init_47 : decode cX9_init 47 = .ok (.bipush 8, 2) := by decide +kernel
theorem dX9_init_49 : decode cX9_init 49 = .ok (.newarray .int, 2) := by decide +kernel
theorem dX9_init_51 : decode cX9_init 51 = .ok (.putfield 13, 3) := by decide +kernel
theorem dX9_init_54 : decode cX9_init 54 = .ok (.aload_n 0, 1) := by decide +kernel
theorem dX9_init_55 : decode cX9_init 55 = .ok (.sipush 480, 3) := by decide +kernel
theorem dX9_init_58 : decode cX9_init 58 = .ok (.newarray .int, 2) := by decide +kernel
theorem dX9_init_60 : decode cX9_init 60 = .ok (.putfield 16, 3) := by decide +kernel
theorem dX9_init_63 : decode cX9_init 63 = .ok (.aload_n 0, 1) := by decide +kernel
theorem dX9_init_64 : decode cX9_init 64 = .ok (.bipush 7, 2) := by decide +kernel
theorem dX9_init_66 : decode cX9_init 66 = .ok (.newarray .boolean, 2) := by decide +kernel
theorem dX9_init_68 : decode cX9_init 68 = .ok (.putfield 19, 3) := by decide +kernel
theorem dX9_init_71 : decode cX9_init 71 = .ok (.aload_n 0, 1) := by decide +kernel
theorem dX9_init_72 : decode cX9_init 72 = .ok (.bipush 84, 2) := by decide +kernel
theorem dX9_init_74 : decode cX9_init 74 = .ok (.newarray .int, 2) := by decide +kernel
theorem dX9_init_76 : decode cX9_init 76 = .ok (.putfield 23, 3) := by decide +kernel
theorem dX9_init_79 : decode cX9_init 79 = .ok (.aload_n 0, 1) := by decide +kernel
theorem dX9_init_80 : decode cX9_init 80 = .ok (.bipush 6, 2) := by decide +kernel
theorem dX9_init_82 : decode cX9_init 82 = .ok (.newarray .boolean, 2) := by decide +kernel
theorem dX9_init_84 : decode cX9_init 84 = .ok (.putfield 26, 3) := by decide +kernel
theorem dX9_init_87 : decode cX9_init 87 = .ok (.aload_n 0, 1) := by decide +kernel
theorem dX9_init_88 : decode cX9_init 88 = .ok (.bipush 6, 2) := by decide +kernel
theorem dX9_init_90 : decode cX9_init 90 = .ok (.newarray .int, 2) := by decide +kernel
theorem dX9_init_92 : decode cX9_init 92 = .ok (.putfield 29, 3) := by decide +kernel
theorem dX9_init_95 : decode cX9_init 95 = .ok (.aload_n 0, 1) := by decide +kernel
theorem dX9_init_96 : decode cX9_init 96 = .ok (.bipush 6, 2) := by decide +kernel
theorem dX9_init_98 : decode cX9_init 98 = .ok (.newarray .int, 2) := by decide +kernel
theorem dX9_init_100 : decode cX9_init 100 = .ok (.putfield 32, 3) := by decide +kernel
theorem dX9_init_103 : decode cX9_init 103 = .ok (.aload_n 0, 1) := by decide +kernel
theorem dX9_init_104 : decode cX9_init 104 = .ok (.sipush 288, 3) := by decide +kernel
theorem dX9_init_107 : decode cX9_init 107 = .ok (.newarray .int, 2) := by decide +kernel
theorem dX9_init_109 : decode cX9_init 109 = .ok (.putfield 35, 3) := by decide +kernel
theorem dX9_init_112 : decode cX9_init 112 = .ok (.aload_n 0, 1) := by decide +kernel
theorem dX9_init_113 : decode cX9_init 113 = .ok (.bipush 13, 2) := by decide +kernel
theorem dX9_init_115 : decode cX9_init 115 = .ok (.newarray .int, 2) := by decide +kernel
theorem dX9_init_117 : decode cX9_init 117 = .ok (.dup, 1) := by decide +kernel
theorem dX9_init_118 : decode cX9_init 118 = .ok (.iconst 0, 1) := by decide +kernel
theorem dX9_init_119 : decode cX9_init 119 = .ok (.sipush 10000, 3) := by decide +kernel
theorem dX9_init_122 : decode cX9_init 122 = .ok (.iastore, 1) := by decide +kernel
theorem dX9_init_123 : decode cX9_init 123 = .ok (.dup, 1) := by decide +kernel
theorem dX9_init_124 : decode cX9_init 124 = .ok (.iconst 1, 1) := by decide +kernel
theorem dX9_init_125 : decode cX9_init 125 = .ok (.sipush 9914, 3) := by decide +kernel
theorem dX9_init_128 : decode cX9_init 128 = .ok (.iastore, 1) := by decide +kernel
theorem dX9_init_129 : decode cX9_init 129 = .ok (.dup, 1) := by decide +kernel
theorem dX9_init_130 : decode cX9_init 130 = .ok (.iconst 2, 1) := by decide +kernel
theorem dX9_init_131 : decode cX9_init 131 = .ok (.sipush 9659, 3) := by decide +kernel
theorem dX9_init_134 : decode cX9_init 134 = .ok (.iastore, 1) := by decide +kernel
theorem dX9_init_135 : decode cX9_init 135 = .ok (.dup, 1) := by decide +kernel
theorem dX9_init_136 : decode cX9_init 136 = .ok (.iconst 3, 1) := by decide +kernel
theorem dX9_init_137 : decode cX9_init 137 = .ok (.sipush 9239, 3) := by decide +kernel
theorem dX9_init_140 : decode cX9_init 140 = .ok (.iastore, 1) := by decide +kernel
theorem dX9_init_141 : decode cX9_init 141 = .ok (.dup, 1) := by decide +kernel
theorem dX9_init_142 : decode cX9_init 142 = .ok (.iconst 4, 1) := by decide +kernel
theorem dX9_init_143 : decode cX9_init 143 = .ok (.sipush 8660, 3) := by decide +kernel
theorem dX9_init_146 : decode cX9_init 146 = .ok (.iastore, 1) := by decide +kernel
theorem dX9_init_147 : decode cX9_init 147 = .ok (.dup, 1) := by decide +kernel
theorem dX9_init_148 : decode cX9_init 148 = .ok (.iconst 5, 1) := by decide +kernel
theorem dX9_init_149 : decode cX9_init 149 = .ok (.sipush 7934, 3) := by decide +kernel
theorem dX9_init_152 : decode cX9_init 152 = .ok (.iastore, 1) := by decide +kernel
theorem dX9_init_153 : decode cX9_init 153 = .ok (.dup, 1) := by decide +kernel
theorem dX9_init_154 : decode cX9_init 154 = .ok (.bipush 6, 2) := by decide +kernel
theorem dX9_init_156 : decode cX9_init 156 = .ok (.sipush 7071, 3) := by decide +kernel
theorem dX9_init_159 : decode cX9_init 159 = .ok (.iastore, 1) := by decide +kernel
theorem dX9_init_160 : decode cX9_init 160 = .ok (.dup, 1) := by decide +kernel
theorem dX9_init_161 : decode cX9_init 161 = .ok (.bipush 7, 2) := by decide +kernel
theorem dX9_init_163 : decode cX9_init 163 = .ok (.sipush 6088, 3) := by decide +kernel
theorem dX9_init_166 : decode cX9_init 166 = .ok (.iastore, 1) := by decide +kernel
theorem dX9_init_167 : decode cX9_init 167 = .ok (.dup, 1) := by decide +kernel
theorem dX9_init_168 : decode cX9_init 168 = .ok (.bipush 8, 2) := by decide +kernel
theorem dX9_init_170 : decode cX9_init 170 = .ok (.sipush 5000, 3) := by decide +kernel
theorem dX9_init_173 : decode cX9_init 173 = .ok (.iastore, 1) := by decide +kernel
theorem dX9_init_174 : decode cX9_init 174 = .ok (.dup, 1) := by decide +kernel
theorem dX9_init_175 : decode cX9_init 175 = .ok (.bipush 9, 2) := by decide +kernel
theorem dX9_init_177 : decode cX9_init 177 = .ok (.sipush 3827, 3) := by decide +kernel
theorem dX9_init_180 : decode cX9_init 180 = .ok (.iastore, 1) := by decide +kernel
theorem dX9_init_181 : decode cX9_init 181 = .ok (.dup, 1) := by decide +kernel
theorem dX9_init_182 : decode cX9_init 182 = .ok (.bipush 10, 2) := by decide +kernel
theorem dX9_init_184 : decode cX9_init 184 = .ok (.sipush 2588, 3) := by decide +kernel
theorem dX9_init_187 : decode cX9_init 187 = .ok (.iastore, 1) := by decide +kernel
theorem dX9_init_188 : decode cX9_init 188 = .ok (.dup, 1) := by decide +kernel
theorem dX9_init_189 : decode cX9_init 189 = .ok (.bipush 11, 2) := by decide +kernel
theorem dX9_init_191 : decode cX9_init 191 = .ok (.sipush 1305, 3) := by decide +kernel
theorem dX9_init_194 : decode cX9_init 194 = .ok (.iastore, 1) := by decide +kernel
theorem dX9_init_195 : decode cX9_init 195 = .ok (.dup, 1) := by decide +kernel
theorem dX9_init_196 : decode cX9_init 196 = .ok (.bipush 12, 2) := by decide +kernel
theorem dX9_init_198 : decode cX9_init 198 = .ok (.iconst 0, 1) := by decide +kernel
theorem dX9_init_199 : decode cX9_init 199 = .ok (.iastore, 1) := by decide +kernel
theorem dX9_init_200 : decode cX9_init 200 = .ok (.putfield 38, 3) := by decide +kernel
theorem dX9_init_203 : decode cX9_init 203 = .ok (.aload_n 0, 1) := by decide +kernel
theorem dX9_init_204 : decode cX9_init 204 = .ok (.bipush 48, 2) := by decide +kernel
theorem dX9_init_206 : decode cX9_init 206 = .ok (.newarray .int, 2) := by decide +kernel
theorem dX9_init_208 : decode cX9_init 208 = .ok (.putfield 41, 3) := by decide +kernel
theorem dX9_init_211 : decode cX9_init 211 = .ok (.aload_n 0, 1) := by decide +kernel
theorem dX9_init_212 : decode cX9_init 212 = .ok (.bipush 13, 2) := by decide +kernel
theorem dX9_init_214 : decode cX9_init 214 = .ok (.newarray .int, 2) := by decide +kernel
theorem dX9_init_216 : decode cX9_init 216 = .ok (.putfield 44, 3) := by decide +kernel
theorem dX9_init_219 : decode cX9_init 219 = .ok (.aload_n 0, 1) := by decide +kernel
theorem dX9_init_220 : decode cX9_init 220 = .ok (.bipush 48, 2) := by decide +kernel
theorem dX9_init_222 : decode cX9_init 222 = .ok (.newarray .int, 2) := by decide +kernel
theorem dX9_init_224 : decode cX9_init 224 = .ok (.putfield 47, 3) := by decide +kernel
theorem dX9_init_227 : decode cX9_init 227 = .ok (.aload_n 0, 1) := by decide +kernel
theorem dX9_init_228 : decode cX9_init 228 = .ok (.sipush 240, 3) := by decide +kernel
theorem dX9_init_231 : decode cX9_init 231 = .ok (.newarray .int, 2) := by decide +kernel
theorem dX9_init_233 : decode cX9_init 233 = .ok (.putfield 50, 3) := by decide +kernel
theorem dX9_init_236 : decode cX9_init 236 = .ok (.aload_n 0, 1) := by decide +kernel
theorem dX9_init_237 : decode cX9_init 237 = .ok (.sipush 240, 3) := by decide +kernel
theorem dX9_init_240 : decode cX9_init 240 = .ok (.newarray .int, 2) := by decide +kernel
theorem dX9_init_242 : decode cX9_init 242 = .ok (.putfield 53, 3) := by decide +kernel
theorem dX9_init_245 : decode cX9_init 245 = .ok (.aload_n 0, 1) := by decide +kernel
theorem dX9_init_246 : decode cX9_init 246 = .ok (.sipush 11011, 3) := by decide +kernel
theorem dX9_init_249 : decode cX9_init 249 = .ok (.newarray .int, 2) := by decide +kernel
theorem dX9_init_251 : decode cX9_init 251 = .ok (.putfield 56, 3) := by decide +kernel
theorem dX9_init_254 : decode cX9_init 254 = .ok (.aload_n 0, 1) := by decide +kernel
theorem dX9_init_255 : decode cX9_init 255 = .ok (.bipush 10, 2) := by decide +kernel
theorem dX9_init_257 : decode cX9_init 257 = .ok (.newarray .int, 2) := by decide +kernel
theorem dX9_init_259 : decode cX9_init 259 = .ok (.putfield 59, 3) := by decide +kernel
theorem dX9_init_262 : decode cX9_init 262 = .ok (.aload_n 0, 1) := by decide +kernel
theorem dX9_init_263 : decode cX9_init 263 = .ok (.bipush 10, 2) := by decide +kernel
theorem dX9_init_265 : decode cX9_init 265 = .ok (.newarray .int, 2) := by decide +kernel
theorem dX9_init_267 : decode cX9_init 267 = .ok (.putfield 62, 3) := by decide +kernel
theorem dX9_init_270 : decode cX9_init 270 = .ok (.aload_n 0, 1) := by decide +kernel
theorem dX9_init_271 : decode cX9_init 271 = .ok (.bipush 10, 2) := by decide +kernel
theorem dX9_init_273 : decode cX9_init 273 = .ok (.newarray .int, 2) := by decide +kernel
theorem dX9_init_275 : decode cX9_init 275 = .ok (.putfield 65, 3) := by decide +kernel
theorem dX9_init_278 : decode cX9_init 278 = .ok (.aload_n 0, 1) := by decide +kernel
theorem dX9_init_279 : decode cX9_init 279 = .ok (.bipush 16, 2) := by decide +kernel
theorem dX9_init_281 : decode cX9_init 281 = .ok (.newarray .int, 2) := by decide +kernel
theorem dX9_init_283 : decode cX9_init 283 = .ok (.putfield 68, 3) := by decide +kernel
theorem dX9_init_286 : decode cX9_init 286 = .ok (.return_, 1) := by decide +kernel
theorem dX9_in_0 : decode cX9_in 0 = .ok (.lload_n 0, 1) := by decide +kernel
theorem dX9_in_1 : decode cX9_in 1 = .ok (.lload_n 2, 1) := by decide +kernel
theorem dX9_in_2 : decode cX9_in 2 = .ok (.lcmp, 1) := by decide +kernel
theorem dX9_in_3 : decode cX9_in 3 = .ok (.ifCond .lt 14, 3) := by decide +kernel
theorem dX9_in_6 : decode cX9_in 6 = .ok (.lload_n 0, 1) := by decide +kernel
theorem dX9_in_7 : decode cX9_in 7 = .ok (.lload 4, 2) := by decide +kernel
theorem dX9_in_9 : decode cX9_in 9 = .ok (.lcmp, 1) := by decide +kernel
theorem dX9_in_10 : decode cX9_in 10 = .ok (.ifCond .gt 7, 3) := by decide +kernel
theorem dX9_in_13 : decode cX9_in 13 = .ok (.iconst 1, 1) := by decide +kernel
theorem dX9_in_14 : decode cX9_in 14 = .ok (.goto 4, 3) := by decide +kernel
theorem dX9_in_17 : decode cX9_in 17 = .ok (.iconst 0, 1) := by decide +kernel
theorem dX9_in_18 : decode cX9_in 18 = .ok (.ireturn, 1) := by decide +kernel
theorem dX9_found_0 : decode cX9_found 0 = .ok (.aload_n 0, 1) := by decide +kernel
theorem dX9_found_1 : decode cX9_found 1 = .ok (.iload_n 1, 1) := by decide +kernel
theorem dX9_found_2 : decode cX9_found 2 = .ok (.putfield 75, 3) := by decide +kernel
theorem dX9_found_5 : decode cX9_found 5 = .ok (.ldc 78, 2) := by decide +kernel
theorem dX9_found_7 : decode cX9_found 7 = .ok (.iload_n 1, 1) := by decide +kernel
theorem dX9_found_8 : decode cX9_found 8 = .ok (.isub, 1) := by decide +kernel
theorem dX9_found_9 : decode cX9_found 9 = .ok (.ireturn, 1) := by decide +kernel
theorem dX9_isSheet_0 : decode cX9_isSheet 0 = .ok (.iload_n 0, 1) := by decide +kernel
theorem dX9_isSheet_1 : decode cX9_isSheet 1 = .ok (.i2l, 1) := by decide +kernel
theorem dX9_isSheet_2 : decode cX9_isSheet 2 = .ok (.lconst 0, 1) := by decide +kernel
theorem dX9_isSheet_3 : decode cX9_isSheet 3 = .ok (.ldc2_w 79, 3) := by decide +kernel
theorem dX9_isSheet_6 : decode cX9_isSheet 6 = .ok (.invokestatic 81, 3) := by decide +kernel
theorem dX9_isSheet_9 : decode cX9_isSheet 9 = .ok (.ireturn, 1) := by decide +kernel
theorem dX9_sheet_0 : decode cX9_sheet 0 = .ok (.aload_n 0, 1) := by decide +kernel
theorem dX9_sheet_1 : decode cX9_sheet 1 = .ok (.iconst 0, 1) := by decide +kernel
theorem dX9_sheet_2 : decode cX9_sheet 2 = .ok (.putfield 71, 3) := by decide +kernel
theorem dX9_sheet_5 : decode cX9_sheet 5 = .ok (.iload_n 1, 1) := by decide +kernel
theorem dX9_sheet_6 : decode cX9_sheet 6 = .ok (.invokestatic 85, 3) := by decide +kernel
theorem dX9_sheet_9 : decode cX9_sheet 9 = .ok (.ifCond .eq 21, 3) := by decide +kernel
theorem dX9_sheet_12 : decode cX9_sheet 12 = .ok (.iload_n 2, 1) := by decide +kernel
theorem dX9_sheet_13 : decode cX9_sheet 13 = .ok (.i2l, 1) := by decide +kernel
theorem dX9_sheet_14 : decode cX9_sheet 14 = .ok (.lconst 0, 1) := by decide +kernel
theorem dX9_sheet_15 : decode cX9_sheet 15 = .ok (.ldc2_w 89, 3) := by decide +kernel
theorem dX9_sheet_18 : decode cX9_sheet 18 = .ok (.invokestatic 81, 3) := by decide +kernel
theorem dX9_sheet_21 : decode cX9_sheet 21 = .ok (.ifCond .eq 9, 3) := by decide +kernel
theorem dX9_sheet_24 : decode cX9_sheet 24 = .ok (.iload_n 3, 1) := by decide +kernel
theorem dX9_sheet_25 : decode cX9_sheet 25 = .ok (.bipush 60, 2) := by decide +kernel
theorem dX9_sheet_27 : decode cX9_sheet 27 = .ok (.if_icmp .le 6, 3) := by decide +kernel
theorem dX9_sheet_30 : decode cX9_sheet 30 = .ok (.ldc 91, 2) := by decide +kernel
theorem dX9_sheet_32 : decode cX9_sheet 32 = .ok (.ireturn, 1) := by decide +kernel
theorem dX9_sheet_33 : decode cX9_sheet 33 = .ok (.aload_n 0, 1) := by decide +kernel
theorem dX9_sheet_34 : decode cX9_sheet 34 = .ok (.iconst 0, 1) := by decide +kernel
theorem dX9_sheet_35 : decode cX9_sheet 35 = .ok (.putfield 75, 3) := by decide +kernel
theorem dX9_sheet_38 : decode cX9_sheet 38 = .ok (.iload_n 3, 1) := by decide +kernel
theorem dX9_sheet_39 : decode cX9_sheet 39 = .ok (.ifCond .ge 9, 3) := by decide +kernel
theorem dX9_sheet_42 : decode cX9_sheet 42 = .ok (.aload_n 0, 1) := by decide +kernel
theorem dX9_sheet_43 : decode cX9_sheet 43 = .ok (.iconst 4, 1) := by decide +kernel
theorem dX9_sheet_44 : decode cX9_sheet 44 = .ok (.invokevirtual 92, 3) := by decide +kernel
theorem dX9_sheet_47 : decode cX9_sheet 47 = .ok (.ireturn, 1) := by decide +kernel
theorem dX9_sheet_48 : decode cX9_sheet 48 = .ok (.aload_n 0, 1) := by decide +kernel
theorem dX9_sheet_49 : decode cX9_sheet 49 = .ok (.getfield 7, 3) := by decide +kernel
theorem dX9_sheet_52 : decode cX9_sheet 52 = .ok (.iload_n 1, 1) := by decide +kernel
theorem dX9_sheet_53 : decode cX9_sheet 53 = .ok (.iload_n 2, 1) := by decide +kernel
theorem dX9_sheet_54 : decode cX9_sheet 54 = .ok (.iastore, 1) := by decide +kernel
theorem dX9_sheet_55 : decode cX9_sheet 55 = .ok (.aload_n 0, 1) := by decide +kernel
theorem dX9_sheet_56 : decode cX9_sheet 56 = .ok (.getfield 13, 3) := by decide +kernel
theorem dX9_sheet_59 : decode cX9_sheet 59 = .ok (.iload_n 1, 1) := by decide +kernel
theorem dX9_sheet_60 : decode cX9_sheet 60 = .ok (.iload_n 3, 1) := by decide +kernel
theorem dX9_sheet_61 : decode cX9_sheet 61 = .ok (.iastore, 1) := by decide +kernel
theorem dX9_sheet_62 : decode cX9_sheet 62 = .ok (.iconst 0, 1) := by decide +kernel
theorem dX9_sheet_63 : decode cX9_sheet 63 = .ok (.istore 4, 2) := by decide +kernel
theorem dX9_sheet_65 : decode cX9_sheet 65 = .ok (.iload 4, 2) := by decide +kernel
theorem dX9_sheet_67 : decode cX9_sheet 67 = .ok (.bipush 60, 2) := by decide +kernel
theorem dX9_sheet_69 : decode cX9_sheet 69 = .ok (.if_icmp .ge 22, 3) := by decide +kernel
theorem dX9_sheet_72 : decode cX9_sheet 72 = .ok (.aload_n 0, 1) := by decide +kernel
theorem dX9_sheet_73 : decode cX9_sheet 73 = .ok (.getfield 16, 3) := by decide +kernel
theorem dX9_sheet_76 : decode cX9_sheet 76 = .ok (.bipush 60, 2) := by decide +kernel
theorem dX9_sheet_78 : decode cX9_sheet 78 = .ok (.iload_n 1, 1) := by decide +kernel
theorem dX9_sheet_79 : decode cX9_sheet 79 = .ok (.imul, 1) := by decide +kernel
theorem dX9_sheet_80 : decode cX9_sheet 80 = .ok (.iload 4, 2) := by decide +kernel
theorem dX9_sheet_82 : decode cX9_sheet 82 = .ok (.iadd, 1) := by decide +kernel
theorem dX9_sheet_83 : decode cX9_sheet 83 = .ok (.iconst 0, 1) := by decide +kernel
theorem dX9_sheet_84 : decode cX9_sheet 84 = .ok (.iastore, 1) := by decide +kernel
theorem dX9_sheet_85 : decode cX9_sheet 85 = .ok (.iinc 4 1, 3) := by decide +kernel
theorem dX9_sheet_88 : decode cX9_sheet 88 = .ok (.goto (-23), 3) := by decide +kernel
theorem dX9_sheet_91 : decode cX9_sheet 91 = .ok (.iload_n 3, 1) := by decide +kernel
theorem dX9_sheet_92 : decode cX9_sheet 92 = .ok (.ireturn, 1) := by decide +kernel
theorem dX9_set_0 : decode cX9_set 0 = .ok (.aload_n 0, 1) := by decide +kernel
theorem dX9_set_1 : decode cX9_set 1 = .ok (.iconst 0, 1) := by decide +kernel
theorem dX9_set_2 : decode cX9_set 2 = .ok (.putfield 71, 3) := by decide +kernel
theorem dX9_set_5 : decode cX9_set 5 = .ok (.iload_n 1, 1) := by decide +kernel
theorem dX9_set_6 : decode cX9_set 6 = .ok (.invokestatic 85, 3) := by decide +kernel
theorem dX9_set_9 : decode cX9_set 9 = .ok (.ifCond .ne 6, 3) := by decide +kernel
theorem dX9_set_12 : decode cX9_set 12 = .ok (.ldc 91, 2) := by decide +kernel
theorem dX9_set_14 : decode cX9_set 14 = .ok (.ireturn, 1) := by decide +kernel
theorem dX9_set_15 : decode cX9_set 15 = .ok (.aload_n 0, 1) := by decide +kernel
theorem dX9_set_16 : decode cX9_set 16 = .ok (.iconst 0, 1) := by decide +kernel
theorem dX9_set_17 : decode cX9_set 17 = .ok (.putfield 75, 3) := by decide +kernel
theorem dX9_set_20 : decode cX9_set 20 = .ok (.aload_n 0, 1) := by decide +kernel
theorem dX9_set_21 : decode cX9_set 21 = .ok (.getfield 7, 3) := by decide +kernel
theorem dX9_set_24 : decode cX9_set 24 = .ok (.iload_n 1, 1) := by decide +kernel
theorem dX9_set_25 : decode cX9_set 25 = .ok (.iaload, 1) := by decide +kernel
theorem dX9_set_26 : decode cX9_set 26 = .ok (.ifCond .ge 9, 3) := by decide +kernel
theorem dX9_set_29 : decode cX9_set 29 = .ok (.aload_n 0, 1) := by decide +kernel
theorem dX9_set_30 : decode cX9_set 30 = .ok (.iconst 1, 1) := by decide +kernel
theorem dX9_set_31 : decode cX9_set 31 = .ok (.invokevirtual 92, 3) := by decide +kernel
theorem dX9_set_34 : decode cX9_set 34 = .ok (.ireturn, 1) := by decide +kernel
theorem dX9_set_35 : decode cX9_set 35 = .ok (.iload_n 2, 1) := by decide +kernel
theorem dX9_set_36 : decode cX9_set 36 = .ok (.i2l, 1) := by decide +kernel
theorem dX9_set_37 : decode cX9_set 37 = .ok (.lconst 0, 1) := by decide +kernel
theorem dX9_set_38 : decode cX9_set 38 = .ok (.aload_n 0, 1) := by decide +kernel
theorem dX9_set_39 : decode cX9_set 39 = .ok (.getfield 13, 3) := by decide +kernel
theorem dX9_set_42 : decode cX9_set 42 = .ok (.iload_n 1, 1) := by decide +kernel
theorem dX9_set_43 : decode cX9_set 43 = .ok (.iaload, 1) := by decide +kernel
theorem dX9_set_44 : decode cX9_set 44 = .ok (.iconst 1, 1) := by decide +kernel
theorem dX9_set_45 : decode cX9_set 45 = .ok (.isub, 1) := by decide +kernel
theorem dX9_set_46 : decode cX9_set 46 = .ok (.i2l, 1) := by decide +kernel
theorem dX9_set_47 : decode cX9_set 47 = .ok (.invokestatic 81, 3) := by decide +kernel
theorem dX9_set_50 : decode cX9_set 50 = .ok (.ifCond .ne 9, 3) := by decide +kernel
theorem dX9_set_53 : decode cX9_set 53 = .ok (.aload_n 0, 1) := by decide +kernel
theorem dX9_set_54 : decode cX9_set 54 = .ok (.iconst 2, 1) := by decide +kernel
theorem dX9_set_55 : decode cX9_set 55 = .ok (.invokevirtual 92, 3) := by decide +kernel
theorem dX9_set_58 : decode cX9_set 58 = .ok (.ireturn, 1) := by decide +kernel
theorem dX9_set_59 : decode cX9_set 59 = .ok (.aload_n 0, 1) := by decide +kernel
theorem dX9_set_60 : decode cX9_set 60 = .ok (.getfield 16, 3) := by decide +kernel
theorem dX9_set_63 : decode cX9_set 63 = .ok (.bipush 60, 2) := by decide +kernel
theorem dX9_set_65 : decode cX9_set 65 = .ok (.iload_n 1, 1) := by decide +kernel
theorem dX9_set_66 : decode cX9_set 66 = .ok (.imul, 1) := by decide +kernel
theorem dX9_set_67 : decode cX9_set 67 = .ok (.iload_n 2, 1) := by decide +kernel
theorem dX9_set_68 : decode cX9_set 68 = .ok (.iadd, 1) := by decide +kernel
theorem dX9_set_69 : decode cX9_set 69 = .ok (.aload_n 0, 1) := by decide +kernel
theorem dX9_set_70 : decode cX9_set 70 = .ok (.getfield 7, 3) := by decide +kernel
theorem dX9_set_73 : decode cX9_set 73 = .ok (.iload_n 1, 1) := by decide +kernel
theorem dX9_set_74 : decode cX9_set 74 = .ok (.iaload, 1) := by decide +kernel
theorem dX9_set_75 : decode cX9_set 75 = .ok (.ifCond .ne 8, 3) := by decide +kernel
theorem dX9_set_78 : decode cX9_set 78 = .ok (.iload_n 3, 1) := by decide +kernel
theorem dX9_set_79 : decode cX9_set 79 = .ok (.i2b, 1) := by decide +kernel
theorem dX9_set_80 : decode cX9_set 80 = .ok (.goto 19, 3) := by decide +kernel
theorem dX9_set_83 : decode cX9_set 83 = .ok (.aload_n 0, 1) := by decide +kernel
theorem dX9_set_84 : decode cX9_set 84 = .ok (.getfield 7, 3) := by decide +kernel
theorem dX9_set_87 : decode cX9_set 87 = .ok (.iload_n 1, 1) := by decide +kernel
theorem dX9_set_88 : decode cX9_set 88 = .ok (.iaload, 1) := by decide +kernel
theorem dX9_set_89 : decode cX9_set 89 = .ok (.iconst 1, 1) := by decide +kernel
theorem dX9_set_90 : decode cX9_set 90 = .ok (.if_icmp .ne 8, 3) := by decide +kernel
theorem dX9_set_93 : decode cX9_set 93 = .ok (.iload_n 3, 1) := by decide +kernel
theorem dX9_set_94 : decode cX9_set 94 = .ok (.i2s, 1) := by decide +kernel
theorem dX9_set_95 : decode cX9_set 95 = .ok (.goto 4, 3) := by decide +kernel
theorem dX9_set_98 : decode cX9_set 98 = .ok (.iload_n 3, 1) := by decide +kernel
theorem dX9_set_99 : decode cX9_set 99 = .ok (.iastore, 1) := by decide +kernel
theorem dX9_set_100 : decode cX9_set 100 = .ok (.aload_n 0, 1) := by decide +kernel
theorem dX9_set_101 : decode cX9_set 101 = .ok (.getfield 16, 3) := by decide +kernel
theorem dX9_set_104 : decode cX9_set 104 = .ok (.bipush 60, 2) := by decide +kernel
theorem dX9_set_106 : decode cX9_set 106 = .ok (.iload_n 1, 1) := by decide +kernel
theorem dX9_set_107 : decode cX9_set 107 = .ok (.imul, 1) := by decide +kernel
theorem dX9_set_108 : decode cX9_set 108 = .ok (.iload_n 2, 1) := by decide +kernel
theorem dX9_set_109 : decode cX9_set 109 = .ok (.iadd, 1) := by decide +kernel
theorem dX9_set_110 : decode cX9_set 110 = .ok (.iaload, 1) := by decide +kernel
theorem dX9_set_111 : decode cX9_set 111 = .ok (.ireturn, 1) := by decide +kernel
theorem dX9_copy_0 : decode cX9_copy 0 = .ok (.aload_n 0, 1) := by decide +kernel
theorem dX9_copy_1 : decode cX9_copy 1 = .ok (.iconst 0, 1) := by decide +kernel
theorem dX9_copy_2 : decode cX9_copy 2 = .ok (.putfield 71, 3) := by decide +kernel
theorem dX9_copy_5 : decode cX9_copy 5 = .ok (.iload_n 1, 1) := by decide +kernel
theorem dX9_copy_6 : decode cX9_copy 6 = .ok (.invokestatic 85, 3) := by decide +kernel
theorem dX9_copy_9 : decode cX9_copy 9 = .ok (.ifCond .eq 10, 3) := by decide +kernel
theorem dX9_copy_12 : decode cX9_copy 12 = .ok (.iload_n 3, 1) := by decide +kernel
theorem dX9_copy_13 : decode cX9_copy 13 = .ok (.invokestatic 85, 3) := by decide +kernel
theorem dX9_copy_16 : decode cX9_copy 16 = .ok (.ifCond .ne 6, 3) := by decide +kernel
theorem dX9_copy_19 : decode cX9_copy 19 = .ok (.ldc 91, 2) := by decide +kernel
theorem dX9_copy_21 : decode cX9_copy 21 = .ok (.ireturn, 1) := by decide +kernel
theorem dX9_copy_22 : decode cX9_copy 22 = .ok (.aload_n 0, 1) := by decide +kernel
theorem dX9_copy_23 : decode cX9_copy 23 = .ok (.iconst 0, 1) := by decide +kernel
theorem dX9_copy_24 : decode cX9_copy 24 = .ok (.putfield 75, 3) := by decide +kernel
theorem dX9_copy_27 : decode cX9_copy 27 = .ok (.aload_n 0, 1) := by decide +kernel
theorem dX9_copy_28 : decode cX9_copy 28 = .ok (.getfield 7, 3) := by decide +kernel
theorem dX9_copy_31 : decode cX9_copy 31 = .ok (.iload_n 1, 1) := by decide +kernel
theorem dX9_copy_32 : decode cX9_copy 32 = .ok (.iaload, 1) := by decide +kernel
theorem dX9_copy_33 : decode cX9_copy 33 = .ok (.ifCond .lt 12, 3) := by decide +kernel
theorem dX9_copy_36 : decode cX9_copy 36 = .ok (.aload_n 0, 1) := by decide +kernel
theorem dX9_copy_37 : decode cX9_copy 37 = .ok (.getfield 7, 3) := by decide +kernel
theorem dX9_copy_40 : decode cX9_copy 40 = .ok (.iload_n 3, 1) := by decide +kernel
theorem dX9_copy_41 : decode cX9_copy 41 = .ok (.iaload, 1) := by decide +kernel
theorem dX9_copy_42 : decode cX9_copy 42 = .ok (.ifCond .ge 9, 3) := by decide +kernel
theorem dX9_copy_45 : decode cX9_copy 45 = .ok (.aload_n 0, 1) := by decide +kernel
theorem dX9_copy_46 : decode cX9_copy 46 = .ok (.iconst 1, 1) := by decide +kernel
theorem dX9_copy_47 : decode cX9_copy 47 = .ok (.invokevirtual 92, 3) := by decide +kernel
theorem dX9_copy_50 : decode cX9_copy 50 = .ok (.ireturn, 1) := by decide +kernel
theorem dX9_copy_51 : decode cX9_copy 51 = .ok (.aload_n 0, 1) := by decide +kernel
theorem dX9_copy_52 : decode cX9_copy 52 = .ok (.getfield 7, 3) := by decide +kernel
theorem dX9_copy_55 : decode cX9_copy 55 = .ok (.iload_n 1, 1) := by decide +kernel
theorem dX9_copy_56 : decode cX9_copy 56 = .ok (.iaload, 1) := by decide +kernel
theorem dX9_copy_57 : decode cX9_copy 57 = .ok (.aload_n 0, 1) := by decide +kernel
theorem dX9_copy_58 : decode cX9_copy 58 = .ok (.getfield 7, 3) := by decide +kernel
theorem dX9_copy_61 : decode cX9_copy 61 = .ok (.iload_n 3, 1) := by decide +kernel
theorem dX9_copy_62 : decode cX9_copy 62 = .ok (.iaload, 1) := by decide +kernel
theorem dX9_copy_63 : decode cX9_copy 63 = .ok (.if_icmp .eq 9, 3) := by decide +kernel
theorem dX9_copy_66 : decode cX9_copy 66 = .ok (.aload_n 0, 1) := by decide +kernel
theorem dX9_copy_67 : decode cX9_copy 67 = .ok (.iconst 5, 1) := by decide +kernel
theorem dX9_copy_68 : decode cX9_copy 68 = .ok (.invokevirtual 92, 3) := by decide +kernel
theorem dX9_copy_71 : decode cX9_copy 71 = .ok (.ireturn, 1) := by decide +kernel
theorem dX9_copy_72 : decode cX9_copy 72 = .ok (.iload_n 2, 1) := by decide +kernel
theorem dX9_copy_73 : decode cX9_copy 73 = .ok (.ifCond .lt 48, 3) := by decide +kernel
theorem dX9_copy_76 : decode cX9_copy 76 = .ok (.iload 4, 2) := by decide +kernel
theorem dX9_copy_78 : decode cX9_copy 78 = .ok (.ifCond .lt 43, 3) := by decide +kernel
theorem dX9_copy_81 : decode cX9_copy 81 = .ok (.iload 5, 2) := by decide +kernel
theorem dX9_copy_83 : decode cX9_copy 83 = .ok (.ifCond .lt 38, 3) := by decide +kernel
theorem dX9_copy_86 : decode cX9_copy 86 = .ok (.iload_n 2, 1) := by decide +kernel
theorem dX9_copy_87 : decode cX9_copy 87 = .ok (.i2l, 1) := by decide +kernel
theorem dX9_copy_88 : decode cX9_copy 88 = .ok (.iload 5, 2) := by decide +kernel
theorem dX9_copy_90 : decode cX9_copy 90 = .ok (.i2l, 1) := by decide +kernel
theorem dX9_copy_91 : decode cX9_copy 91 = .ok (.ladd, 1) := by decide +kernel
theorem dX9_copy_92 : decode cX9_copy 92 = .ok (.aload_n 0, 1) := by decide +kernel
theorem dX9_copy_93 : decode cX9_copy 93 = .ok (.getfield 13, 3) := by decide +kernel
theorem dX9_copy_96 : decode cX9_copy 96 = .ok (.iload_n 1, 1) := by decide +kernel
theorem dX9_copy_97 : decode cX9_copy 97 = .ok (.iaload, 1) := by decide +kernel
theorem dX9_copy_98 : decode cX9_copy 98 = .ok (.i2l, 1) := by decide +kernel
theorem dX9_copy_99 : decode cX9_copy 99 = .ok (.lcmp, 1) := by decide +kernel
theorem dX9_copy_100 : decode cX9_copy 100 = .ok (.ifCond .gt 21, 3) := by decide +kernel
theorem dX9_copy_103 : decode cX9_copy 103 = .ok (.iload 4, 2) := by decide +kernel
theorem dX9_copy_105 : decode cX9_copy 105 = .ok (.i2l, 1) := by decide +kernel
theorem dX9_copy_106 : decode cX9_copy 106 = .ok (.iload 5, 2) := by decide +kernel
theorem dX9_copy_108 : decode cX9_copy 108 = .ok (.i2l, 1) := by decide +kernel
theorem dX9_copy_109 : decode cX9_copy 109 = .ok (.ladd, 1) := by decide +kernel
theorem dX9_copy_110 : decode cX9_copy 110 = .ok (.aload_n 0, 1) := by decide +kernel
theorem dX9_copy_111 : decode cX9_copy 111 = .ok (.getfield 13, 3) := by decide +kernel
theorem dX9_copy_114 : decode cX9_copy 114 = .ok (.iload_n 3, 1) := by decide +kernel
theorem dX9_copy_115 : decode cX9_copy 115 = .ok (.iaload, 1) := by decide +kernel
theorem dX9_copy_116 : decode cX9_copy 116 = .ok (.i2l, 1) := by decide +kernel
theorem dX9_copy_117 : decode cX9_copy 117 = .ok (.lcmp, 1) := by decide +kernel
theorem dX9_copy_118 : decode cX9_copy 118 = .ok (.ifCond .le 9, 3) := by decide +kernel
theorem dX9_copy_121 : decode cX9_copy 121 = .ok (.aload_n 0, 1) := by decide +kernel
theorem dX9_copy_122 : decode cX9_copy 122 = .ok (.iconst 2, 1) := by decide +kernel
theorem dX9_copy_123 : decode cX9_copy 123 = .ok (.invokevirtual 92, 3) := by decide +kernel
theorem dX9_copy_126 : decode cX9_copy 126 = .ok (.ireturn, 1) := by decide +kernel
theorem dX9_copy_127 : decode cX9_copy 127 = .ok (.iload_n 2, 1) := by decide +kernel
theorem dX9_copy_128 : decode cX9_copy 128 = .ok (.iload 4, 2) := by decide +kernel
theorem dX9_copy_130 : decode cX9_copy 130 = .ok (.if_icmp .lt 7, 3) := by decide +kernel
theorem dX9_copy_133 : decode cX9_copy 133 = .ok (.iconst 1, 1) := by decide +kernel
theorem dX9_copy_134 : decode cX9_copy 134 = .ok (.goto 4, 3) := by decide +kernel
theorem dX9_copy_137 : decode cX9_copy 137 = .ok (.iconst 0, 1) := by decide +kernel
theorem dX9_copy_138 : decode cX9_copy 138 = .ok (.istore 6, 2) := by decide +kernel
theorem dX9_copy_140 : decode cX9_copy 140 = .ok (.iconst 0, 1) := by decide +kernel
theorem dX9_copy_141 : decode cX9_copy 141 = .ok (.istore 7, 2) := by decide +kernel
theorem dX9_copy_143 : decode cX9_copy 143 = .ok (.iload 7, 2) := by decide +kernel
theorem dX9_copy_145 : decode cX9_copy 145 = .ok (.iload 5, 2) := by decide +kernel
theorem dX9_copy_147 : decode cX9_copy 147 = .ok (.if_icmp .ge 57, 3) := by decide +kernel
theorem dX9_copy_150 : decode cX9_copy 150 = .ok (.iload 6, 2) := by decide +kernel
theorem dX9_copy_152 : decode cX9_copy 152 = .ok (.ifCond .eq 8, 3) := by decide +kernel
theorem dX9_copy_155 : decode cX9_copy 155 = .ok (.iload 7, 2) := by decide +kernel
theorem dX9_copy_157 : decode cX9_copy 157 = .ok (.goto 10, 3) := by decide +kernel
theorem dX9_copy_160 : decode cX9_copy 160 = .ok (.iload 5, 2) := by decide +kernel
theorem dX9_copy_162 : decode cX9_copy 162 = .ok (.iconst 1, 1) := by decide +kernel
theorem dX9_copy_163 : decode cX9_copy 163 = .ok (.isub, 1) := by decide +kernel
theorem dX9_copy_164 : decode cX9_copy 164 = .ok (.iload 7, 2) := by decide +kernel
theorem dX9_copy_166 : decode cX9_copy 166 = .ok (.isub, 1) := by decide +kernel
theorem dX9_copy_167 : decode cX9_copy 167 = .ok (.istore 8, 2) := by decide +kernel
theorem dX9_copy_169 : decode cX9_copy 169 = .ok (.aload_n 0, 1) := by decide +kernel
theorem dX9_copy_170 : decode cX9_copy 170 = .ok (.getfield 16, 3) := by decide +kernel
theorem dX9_copy_173 : decode cX9_copy 173 = .ok (.bipush 60, 2) := by decide +kernel
theorem dX9_copy_175 : decode cX9_copy 175 = .ok (.iload_n 3, 1) := by decide +kernel
theorem dX9_copy_176 : decode cX9_copy 176 = .ok (.imul, 1) := by decide +kernel
theorem dX9_copy_177 : decode cX9_copy 177 = .ok (.iload 4, 2) := by decide +kernel
theorem dX9_copy_179 : decode cX9_copy 179 = .ok (.iadd, 1) := by decide +kernel
theorem dX9_copy_180 : decode cX9_copy 180 = .ok (.iload 8, 2) := by decide +kernel
theorem dX9_copy_182 : decode cX9_copy 182 = .ok (.iadd, 1) := by decide +kernel
theorem dX9_copy_183 : decode cX9_copy 183 = .ok (.aload_n 0, 1) := by decide +kernel
theorem dX9_copy_184 : decode cX9_copy 184 = .ok (.getfield 16, 3) := by decide +kernel
theorem dX9_copy_187 : decode cX9_copy 187 = .ok (.bipush 60, 2) := by decide +kernel
theorem dX9_copy_189 : decode cX9_copy 189 = .ok (.iload_n 1, 1) := by decide +kernel
theorem dX9_copy_190 : decode cX9_copy 190 = .ok (.imul, 1) := by decide +kernel
theorem dX9_copy_191 : decode cX9_copy 191 = .ok (.iload_n 2, 1) := by decide +kernel
theorem dX9_copy_192 : decode cX9_copy 192 = .ok (.iadd, 1) := by decide +kernel
theorem dX9_copy_193 : decode cX9_copy 193 = .ok (.iload 8, 2) := by decide +kernel
theorem dX9_copy_195 : decode cX9_copy 195 = .ok (.iadd, 1) := by decide +kernel
theorem dX9_copy_196 : decode cX9_copy 196 = .ok (.iaload, 1) := by decide +kernel
theorem dX9_copy_197 : decode cX9_copy 197 = .ok (.iastore, 1) := by decide +kernel
theorem dX9_copy_198 : decode cX9_copy 198 = .ok (.iinc 7 1, 3) := by decide +kernel
theorem dX9_copy_201 : decode cX9_copy 201 = .ok (.goto (-58), 3) := by decide +kernel
theorem dX9_copy_204 : decode cX9_copy 204 = .ok (.iload 5, 2) := by decide +kernel
theorem dX9_copy_206 : decode cX9_copy 206 = .ok (.ireturn, 1) := by decide +kernel
theorem dX9_drop_0 : decode cX9_drop 0 = .ok (.aload_n 0, 1) := by decide +kernel
theorem dX9_drop_1 : decode cX9_drop 1 = .ok (.iconst 0, 1) := by decide +kernel
theorem dX9_drop_2 : decode cX9_drop 2 = .ok (.putfield 71, 3) := by decide +kernel
theorem dX9_drop_5 : decode cX9_drop 5 = .ok (.iload_n 1, 1) := by decide +kernel
theorem dX9_drop_6 : decode cX9_drop 6 = .ok (.invokestatic 85, 3) := by decide +kernel
theorem dX9_drop_9 : decode cX9_drop 9 = .ok (.ifCond .ne 6, 3) := by decide +kernel
theorem dX9_drop_12 : decode cX9_drop 12 = .ok (.ldc 91, 2) := by decide +kernel
theorem dX9_drop_14 : decode cX9_drop 14 = .ok (.ireturn, 1) := by decide +kernel
theorem dX9_drop_15 : decode cX9_drop 15 = .ok (.aload_n 0, 1) := by decide +kernel
theorem dX9_drop_16 : decode cX9_drop 16 = .ok (.iconst 0, 1) := by decide +kernel
theorem dX9_drop_17 : decode cX9_drop 17 = .ok (.putfield 75, 3) := by decide +kernel
theorem dX9_drop_20 : decode cX9_drop 20 = .ok (.aload_n 0, 1) := by decide +kernel
theorem dX9_drop_21 : decode cX9_drop 21 = .ok (.getfield 7, 3) := by decide +kernel
theorem dX9_drop_24 : decode cX9_drop 24 = .ok (.iload_n 1, 1) := by decide +kernel
theorem dX9_drop_25 : decode cX9_drop 25 = .ok (.iaload, 1) := by decide +kernel
theorem dX9_drop_26 : decode cX9_drop 26 = .ok (.ifCond .ge 9, 3) := by decide +kernel
theorem dX9_drop_29 : decode cX9_drop 29 = .ok (.aload_n 0, 1) := by decide +kernel
theorem dX9_drop_30 : decode cX9_drop 30 = .ok (.iconst 1, 1) := by decide +kernel
theorem dX9_drop_31 : decode cX9_drop 31 = .ok (.invokevirtual 92, 3) := by decide +kernel
theorem dX9_drop_34 : decode cX9_drop 34 = .ok (.ireturn, 1) := by decide +kernel
theorem dX9_drop_35 : decode cX9_drop 35 = .ok (.aload_n 0, 1) := by decide +kernel
theorem dX9_drop_36 : decode cX9_drop 36 = .ok (.getfield 7, 3) := by decide +kernel
theorem dX9_drop_39 : decode cX9_drop 39 = .ok (.iload_n 1, 1) := by decide +kernel
theorem dX9_drop_40 : decode cX9_drop 40 = .ok (.iconst (-1), 1) := by decide +kernel
theorem dX9_drop_41 : decode cX9_drop 41 = .ok (.iastore, 1) := by decide +kernel
theorem dX9_drop_42 : decode cX9_drop 42 = .ok (.aload_n 0, 1) := by decide +kernel
theorem dX9_drop_43 : decode cX9_drop 43 = .ok (.getfield 13, 3) := by decide +kernel
theorem dX9_drop_46 : decode cX9_drop 46 = .ok (.iload_n 1, 1) := by decide +kernel
theorem dX9_drop_47 : decode cX9_drop 47 = .ok (.iaload, 1) := by decide +kernel
theorem dX9_drop_48 : decode cX9_drop 48 = .ok (.ireturn, 1) := by decide +kernel
theorem dX9_isPlace_0 : decode cX9_isPlace 0 = .ok (.iload_n 0, 1) := by decide +kernel
theorem dX9_isPlace_1 : decode cX9_isPlace 1 = .ok (.i2l, 1) := by decide +kernel
theorem dX9_isPlace_2 : decode cX9_isPlace 2 = .ok (.lconst 0, 1) := by decide +kernel
theorem dX9_isPlace_3 : decode cX9_isPlace 3 = .ok (.ldc2_w 96, 3) := by decide +kernel
theorem dX9_isPlace_6 : decode cX9_isPlace 6 = .ok (.invokestatic 81, 3) := by decide +kernel
theorem dX9_isPlace_9 : decode cX9_isPlace 9 = .ok (.ireturn, 1) := by decide +kernel
theorem dX9_isNumber_0 : decode cX9_isNumber 0 = .ok (.iload_n 0, 1) := by decide +kernel
theorem dX9_isNumber_1 : decode cX9_isNumber 1 = .ok (.tableswitch 171 0 10 #[59, 83, 95, 105, 117, 127, 139, 149, 139, 139, 161], 59) := by decide +kernel
theorem dX9_isNumber_60 : decode cX9_isNumber 60 = .ok (.iload_n 1, 1) := by decide +kernel
theorem dX9_isNumber_61 : decode cX9_isNumber 61 = .ok (.ifCond .eq 17, 3) := by decide +kernel
theorem dX9_isNumber_64 : decode cX9_isNumber 64 = .ok (.iload_n 1, 1) := by decide +kernel
theorem dX9_isNumber_65 : decode cX9_isNumber 65 = .ok (.i2l, 1) := by decide +kernel
theorem dX9_isNumber_66 : decode cX9_isNumber 66 = .ok (.ldc2_w 98, 3) := by decide +kernel
theorem dX9_isNumber_69 : decode cX9_isNumber 69 = .ok (.ldc2_w 100, 3) := by decide +kernel
theorem dX9_isNumber_72 : decode cX9_isNumber 72 = .ok (.invokestatic 81, 3) := by decide +kernel
theorem dX9_isNumber_75 : decode cX9_isNumber 75 = .ok (.ifCond .eq 7, 3) := by decide +kernel
theorem dX9_isNumber_78 : decode cX9_isNumber 78 = .ok (.iconst 1, 1) := by decide +kernel
theorem dX9_isNumber_79 : decode cX9_isNumber 79 = .ok (.goto 4, 3) := by decide +kernel
theorem dX9_isNumber_82 : decode cX9_isNumber 82 = .ok (.iconst 0, 1) := by decide +kernel
theorem dX9_isNumber_83 : decode cX9_isNumber 83 = .ok (.ireturn, 1) := by decide +kernel
theorem dX9_isNumber_84 : decode cX9_isNumber 84 = .ok (.iload_n 1, 1) := by decide +kernel
theorem dX9_isNumber_85 : decode cX9_isNumber 85 = .ok (.i2l, 1) := by decide +kernel
theorem dX9_isNumber_86 : decode cX9_isNumber 86 = .ok (.ldc2_w 102, 3) := by decide +kernel
theorem dX9_isNumber_89 : decode cX9_isNumber 89 = .ok (.ldc2_w 104, 3) := by decide +kernel
theorem dX9_isNumber_92 : decode cX9_isNumber 92 = .ok (.invokestatic 81, 3) := by decide +kernel
theorem dX9_isNumber_95 : decode cX9_isNumber 95 = .ok (.ireturn, 1) := by decide +kernel
theorem dX9_isNumber_96 : decode cX9_isNumber 96 = .ok (.iload_n 1, 1) := by decide +kernel
theorem dX9_isNumber_97 : decode cX9_isNumber 97 = .ok (.i2l, 1) := by decide +kernel
theorem dX9_isNumber_98 : decode cX9_isNumber 98 = .ok (.lconst 0, 1) := by decide +kernel
theorem dX9_isNumber_99 : decode cX9_isNumber 99 = .ok (.ldc2_w 106, 3) := by decide +kernel
theorem dX9_isNumber_102 : decode cX9_isNumber 102 = .ok (.invokestatic 81, 3) := by decide +kernel
theorem dX9_isNumber_105 : decode cX9_isNumber 105 = .ok (.ireturn, 1) := by decide +kernel
theorem dX9_isNumber_106 : decode cX9_isNumber 106 = .ok (.iload_n 1, 1) := by decide +kernel
theorem dX9_isNumber_107 : decode cX9_isNumber 107 = .ok (.i2l, 1) := by decide +kernel
theorem dX9_isNumber_108 : decode cX9_isNumber 108 = .ok (.ldc2_w 108, 3) := by decide +kernel
theorem dX9_isNumber_111 : decode cX9_isNumber 111 = .ok (.ldc2_w 100, 3) := by decide +kernel
theorem dX9_isNumber_114 : decode cX9_isNumber 114 = .ok (.invokestatic 81, 3) := by decide +kernel
theorem dX9_isNumber_117 : decode cX9_isNumber 117 = .ok (.ireturn, 1) := by decide +kernel
theorem dX9_isNumber_118 : decode cX9_isNumber 118 = .ok (.iload_n 1, 1) := by decide +kernel
theorem dX9_isNumber_119 : decode cX9_isNumber 119 = .ok (.i2l, 1) := by decide +kernel
theorem dX9_isNumber_120 : decode cX9_isNumber 120 = .ok (.lconst 0, 1) := by decide +kernel
theorem dX9_isNumber_121 : decode cX9_isNumber 121 = .ok (.ldc2_w 110, 3) := by decide +kernel
theorem dX9_isNumber_124 : decode cX9_isNumber 124 = .ok (.invokestatic 81, 3) := by decide +kernel
theorem dX9_isNumber_127 : decode cX9_isNumber 127 = .ok (.ireturn, 1) := by decide +kernel
theorem dX9_isNumber_128 : decode cX9_isNumber 128 = .ok (.iload_n 1, 1) := by decide +kernel
theorem dX9_isNumber_129 : decode cX9_isNumber 129 = .ok (.i2l, 1) := by decide +kernel
theorem dX9_isNumber_130 : decode cX9_isNumber 130 = .ok (.ldc2_w 108, 3) := by decide +kernel
theorem dX9_isNumber_133 : decode cX9_isNumber 133 = .ok (.ldc2_w 112, 3) := by decide +kernel
theorem dX9_isNumber_136 : decode cX9_isNumber 136 = .ok (.invokestatic 81, 3) := by decide +kernel
theorem dX9_isNumber_139 : decode cX9_isNumber 139 = .ok (.ireturn, 1) := by decide +kernel
theorem dX9_isNumber_140 : decode cX9_isNumber 140 = .ok (.iload_n 1, 1) := by decide +kernel
theorem dX9_isNumber_141 : decode cX9_isNumber 141 = .ok (.i2l, 1) := by decide +kernel
theorem dX9_isNumber_142 : decode cX9_isNumber 142 = .ok (.lconst 1, 1) := by decide +kernel
theorem dX9_isNumber_143 : decode cX9_isNumber 143 = .ok (.ldc2_w 110, 3) := by decide +kernel
theorem dX9_isNumber_146 : decode cX9_isNumber 146 = .ok (.invokestatic 81, 3) := by decide +kernel
theorem dX9_isNumber_149 : decode cX9_isNumber 149 = .ok (.ireturn, 1) := by decide +kernel
theorem dX9_isNumber_150 : decode cX9_isNumber 150 = .ok (.iload_n 1, 1) := by decide +kernel
theorem dX9_isNumber_151 : decode cX9_isNumber 151 = .ok (.i2l, 1) := by decide +kernel
theorem dX9_isNumber_152 : decode cX9_isNumber 152 = .ok (.ldc2_w 100, 3) := by decide +kernel
theorem dX9_isNumber_155 : decode cX9_isNumber 155 = .ok (.ldc2_w 104, 3) := by decide +kernel
theorem dX9_isNumber_158 : decode cX9_isNumber 158 = .ok (.invokestatic 81, 3) := by decide +kernel
theorem dX9_isNumber_161 : decode cX9_isNumber 161 = .ok (.ireturn, 1) := by decide +kernel
theorem dX9_isNumber_162 : decode cX9_isNumber 162 = .ok (.iload_n 1, 1) := by decide +kernel
theorem dX9_isNumber_163 : decode cX9_isNumber 163 = .ok (.i2l, 1) := by decide +kernel
theorem dX9_isNumber_164 : decode cX9_isNumber 164 = .ok (.lconst 0, 1) := by decide +kernel
theorem dX9_isNumber_165 : decode cX9_isNumber 165 = .ok (.ldc2_w 114, 3) := by decide +kernel
theorem dX9_isNumber_168 : decode cX9_isNumber 168 = .ok (.invokestatic 81, 3) := by decide +kernel
theorem dX9_isNumber_171 : decode cX9_isNumber 171 = .ok (.ireturn, 1) := by decide +kernel
theorem dX9_isNumber_172 : decode cX9_isNumber 172 = .ok (.iconst 0, 1) := by decide +kernel
theorem dX9_isNumber_173 : decode cX9_isNumber 173 = .ok (.ireturn, 1) := by decide +kernel
theorem dX9_stands_0 : decode cX9_stands 0 = .ok (.aload_n 0, 1) := by decide +kernel
theorem dX9_stands_1 : decode cX9_stands 1 = .ok (.iconst 0, 1) := by decide +kernel
theorem dX9_stands_2 : decode cX9_stands 2 = .ok (.putfield 75, 3) := by decide +kernel
theorem dX9_stands_5 : decode cX9_stands 5 = .ok (.aload_n 0, 1) := by decide +kernel
theorem dX9_stands_6 : decode cX9_stands 6 = .ok (.getfield 19, 3) := by decide +kernel
theorem dX9_stands_9 : decode cX9_stands 9 = .ok (.iload_n 1, 1) := by decide +kernel
theorem dX9_stands_10 : decode cX9_stands 10 = .ok (.baload, 1) := by decide +kernel
theorem dX9_stands_11 : decode cX9_stands 11 = .ok (.ifCond .eq 7, 3) := by decide +kernel
theorem dX9_stands_14 : decode cX9_stands 14 = .ok (.iconst 0, 1) := by decide +kernel
theorem dX9_stands_15 : decode cX9_stands 15 = .ok (.goto 8, 3) := by decide +kernel
theorem dX9_stands_18 : decode cX9_stands 18 = .ok (.aload_n 0, 1) := by decide +kernel
theorem dX9_stands_19 : decode cX9_stands 19 = .ok (.iconst 1, 1) := by decide +kernel
theorem dX9_stands_20 : decode cX9_stands 20 = .ok (.invokevirtual 92, 3) := by decide +kernel
theorem dX9_stands_23 : decode cX9_stands 23 = .ok (.ireturn, 1) := by decide +kernel
theorem dX9_engine_0 : decode cX9_engine 0 = .ok (.aload_n 0, 1) := by decide +kernel
theorem dX9_engine_1 : decode cX9_engine 1 = .ok (.iconst 0, 1) := by decide +kernel
theorem dX9_engine_2 : decode cX9_engine 2 = .ok (.putfield 71, 3) := by decide +kernel
theorem dX9_engine_5 : decode cX9_engine 5 = .ok (.iload_n 1, 1) := by decide +kernel
theorem dX9_engine_6 : decode cX9_engine 6 = .ok (.invokestatic 116, 3) := by decide +kernel
theorem dX9_engine_9 : decode cX9_engine 9 = .ok (.ifCond .eq 10, 3) := by decide +kernel
theorem dX9_engine_12 : decode cX9_engine 12 = .ok (.iload_n 2, 1) := by decide +kernel
theorem dX9_engine_13 : decode cX9_engine 13 = .ok (.invokestatic 85, 3) := by decide +kernel
theorem dX9_engine_16 : decode cX9_engine 16 = .ok (.ifCond .ne 6, 3) := by decide +kernel
theorem dX9_engine_19 : decode cX9_engine 19 = .ok (.ldc 91, 2) := by decide +kernel
theorem dX9_engine_21 : decode cX9_engine 21 = .ok (.ireturn, 1) := by decide +kernel
theorem dX9_engine_22 : decode cX9_engine 22 = .ok (.aload_n 0, 1) := by decide +kernel
theorem dX9_engine_23 : decode cX9_engine 23 = .ok (.getfield 7, 3) := by decide +kernel
theorem dX9_engine_26 : decode cX9_engine 26 = .ok (.iload_n 2, 1) := by decide +kernel
theorem dX9_engine_27 : decode cX9_engine 27 = .ok (.iaload, 1) := by decide +kernel
theorem dX9_engine_28 : decode cX9_engine 28 = .ok (.ifCond .ge 9, 3) := by decide +kernel
theorem dX9_engine_31 : decode cX9_engine 31 = .ok (.aload_n 0, 1) := by decide +kernel
theorem dX9_engine_32 : decode cX9_engine 32 = .ok (.iconst 1, 1) := by decide +kernel
theorem dX9_engine_33 : decode cX9_engine 33 = .ok (.invokevirtual 92, 3) := by decide +kernel
theorem dX9_engine_36 : decode cX9_engine 36 = .ok (.ireturn, 1) := by decide +kernel
theorem dX9_engine_37 : decode cX9_engine 37 = .ok (.iload_n 3, 1) := by decide +kernel
theorem dX9_engine_38 : decode cX9_engine 38 = .ok (.ifCond .lt 20, 3) := by decide +kernel
theorem dX9_engine_41 : decode cX9_engine 41 = .ok (.iload_n 3, 1) := by decide +kernel
theorem dX9_engine_42 : decode cX9_engine 42 = .ok (.i2l, 1) := by decide +kernel
theorem dX9_engine_43 : decode cX9_engine 43 = .ok (.ldc2_w 106, 3) := by decide +kernel
theorem dX9_engine_46 : decode cX9_engine 46 = .ok (.ladd, 1) := by decide +kernel
theorem dX9_engine_47 : decode cX9_engine 47 = .ok (.aload_n 0, 1) := by decide +kernel
theorem dX9_engine_48 : decode cX9_engine 48 = .ok (.getfield 13, 3) := by decide +kernel
theorem dX9_engine_51 : decode cX9_engine 51 = .ok (.iload_n 2, 1) := by decide +kernel
theorem dX9_engine_52 : decode cX9_engine 52 = .ok (.iaload, 1) := by decide +kernel
theorem dX9_engine_53 : decode cX9_engine 53 = .ok (.i2l, 1) := by decide +kernel
theorem dX9_engine_54 : decode cX9_engine 54 = .ok (.lcmp, 1) := by decide +kernel
theorem dX9_engine_55 : decode cX9_engine 55 = .ok (.ifCond .le 9, 3) := by decide +kernel
theorem dX9_engine_58 : decode cX9_engine 58 = .ok (.aload_n 0, 1) := by decide +kernel
theorem dX9_engine_59 : decode cX9_engine 59 = .ok (.iconst 2, 1) := by decide +kernel
theorem dX9_engine_60 : decode cX9_engine 60 = .ok (.invokevirtual 92, 3) := by decide +kernel
theorem dX9_engine_63 : decode cX9_engine 63 = .ok (.ireturn, 1) := by decide +kernel
theorem dX9_engine_64 : decode cX9_engine 64 = .ok (.iconst 0, 1) := by decide +kernel
theorem dX9_engine_65 : decode cX9_engine 65 = .ok (.istore 4, 2) := by decide +kernel
theorem dX9_engine_67 : decode cX9_engine 67 = .ok (.iload 4, 2) := by decide +kernel
theorem dX9_engine_69 : decode cX9_engine 69 = .ok (.bipush 11, 2) := by decide +kernel
theorem dX9_engine_71 : decode cX9_engine 71 = .ok (.if_icmp .ge 34, 3) := by decide +kernel
theorem dX9_engine_74 : decode cX9_engine 74 = .ok (.iload 4, 2) := by decide +kernel
theorem dX9_engine_76 : decode cX9_engine 76 = .ok (.aload_n 0, 1) := by decide +kernel
theorem dX9_engine_77 : decode cX9_engine 77 = .ok (.getfield 16, 3) := by decide +kernel
theorem dX9_engine_80 : decode cX9_engine 80 = .ok (.bipush 60, 2) := by decide +kernel
theorem dX9_engine_82 : decode cX9_engine 82 = .ok (.iload_n 2, 1) := by decide +kernel
theorem dX9_engine_83 : decode cX9_engine 83 = .ok (.imul, 1) := by decide +kernel
theorem dX9_engine_84 : decode cX9_engine 84 = .ok (.iload_n 3, 1) := by decide +kernel
theorem dX9_engine_85 : decode cX9_engine 85 = .ok (.iadd, 1) := by decide +kernel
theorem dX9_engine_86 : decode cX9_engine 86 = .ok (.iload 4, 2) := by decide +kernel
theorem dX9_engine_88 : decode cX9_engine 88 = .ok (.iadd, 1) := by decide +kernel
theorem dX9_engine_89 : decode cX9_engine 89 = .ok (.iaload, 1) := by decide +kernel
theorem dX9_engine_90 : decode cX9_engine 90 = .ok (.invokestatic 119, 3) := by decide +kernel
theorem dX9_engine_93 : decode cX9_engine 93 = .ok (.ifCond .ne 6, 3) := by decide +kernel
theorem dX9_engine_96 : decode cX9_engine 96 = .ok (.ldc 91, 2) := by decide +kernel
theorem dX9_engine_98 : decode cX9_engine 98 = .ok (.ireturn, 1) := by decide +kernel
theorem dX9_engine_99 : decode cX9_engine 99 = .ok (.iinc 4 1, 3) := by decide +kernel
theorem dX9_engine_102 : decode cX9_engine 102 = .ok (.goto (-35), 3) := by decide +kernel
theorem dX9_engine_105 : decode cX9_engine 105 = .ok (.aload_n 0, 1) := by decide +kernel
theorem dX9_engine_106 : decode cX9_engine 106 = .ok (.iconst 0, 1) := by decide +kernel
theorem dX9_engine_107 : decode cX9_engine 107 = .ok (.putfield 75, 3) := by decide +kernel
theorem dX9_engine_110 : decode cX9_engine 110 = .ok (.aload_n 0, 1) := by decide +kernel
theorem dX9_engine_111 : decode cX9_engine 111 = .ok (.getfield 19, 3) := by decide +kernel
theorem dX9_engine_114 : decode cX9_engine 114 = .ok (.iload_n 1, 1) := by decide +kernel
theorem dX9_engine_115 : decode cX9_engine 115 = .ok (.iconst 1, 1) := by decide +kernel
theorem dX9_engine_116 : decode cX9_engine 116 = .ok (.bastore, 1) := by decide +kernel
theorem dX9_engine_117 : decode cX9_engine 117 = .ok (.aload_n 0, 1) := by decide +kernel
theorem dX9_engine_118 : decode cX9_engine 118 = .ok (.getfield 26, 3) := by decide +kernel
theorem dX9_engine_121 : decode cX9_engine 121 = .ok (.iload_n 1, 1) := by decide +kernel
theorem dX9_engine_122 : decode cX9_engine 122 = .ok (.iconst 0, 1) := by decide +kernel
theorem dX9_engine_123 : decode cX9_engine 123 = .ok (.bastore, 1) := by decide +kernel
theorem dX9_engine_124 : decode cX9_engine 124 = .ok (.iconst 0, 1) := by decide +kernel
theorem dX9_engine_125 : decode cX9_engine 125 = .ok (.istore 4, 2) := by decide +kernel
theorem dX9_engine_127 : decode cX9_engine 127 = .ok (.iload 4, 2) := by decide +kernel
theorem dX9_engine_129 : decode cX9_engine 129 = .ok (.bipush 11, 2) := by decide +kernel
theorem dX9_engine_131 : decode cX9_engine 131 = .ok (.if_icmp .ge 35, 3) := by decide +kernel
theorem dX9_engine_134 : decode cX9_engine 134 = .ok (.aload_n 0, 1) := by decide +kernel
theorem dX9_engine_135 : decode cX9_engine 135 = .ok (.getfield 23, 3) := by decide +kernel
theorem dX9_engine_138 : decode cX9_engine 138 = .ok (.bipush 12, 2) := by decide +kernel
theorem dX9_engine_140 : decode cX9_engine 140 = .ok (.iload_n 1, 1) := by decide +kernel
theorem dX9_engine_141 : decode cX9_engine 141 = .ok (.imul, 1) := by decide +kernel
theorem dX9_engine_142 : decode cX9_engine 142 = .ok (.iload 4, 2) := by decide +kernel
theorem dX9_engine_144 : decode cX9_engine 144 = .ok (.iadd, 1) := by decide +kernel
theorem dX9_engine_145 : decode cX9_engine 145 = .ok (.aload_n 0, 1) := by decide +kernel
theorem dX9_engine_146 : decode cX9_engine 146 = .ok (.getfield 16, 3) := by decide +kernel
theorem dX9_engine_149 : decode cX9_engine 149 = .ok (.bipush 60, 2) := by decide +kernel
theorem dX9_engine_151 : decode cX9_engine 151 = .ok (.iload_n 2, 1) := by decide +kernel
theorem dX9_engine_152 : decode cX9_engine 152 = .ok (.imul, 1) := by decide +kernel
theorem dX9_engine_153 : decode cX9_engine 153 = .ok (.iload_n 3, 1) := by decide +kernel
theorem dX9_engine_154 : decode cX9_engine 154 = .ok (.iadd, 1) := by decide +kernel
theorem dX9_engine_155 : decode cX9_engine 155 = .ok (.iload 4, 2) := by decide +kernel
theorem dX9_engine_157 : decode cX9_engine 157 = .ok (.iadd, 1) := by decide +kernel
theorem dX9_engine_158 : decode cX9_engine 158 = .ok (.iaload, 1) := by decide +kernel
theorem dX9_engine_159 : decode cX9_engine 159 = .ok (.iastore, 1) := by decide +kernel
theorem dX9_engine_160 : decode cX9_engine 160 = .ok (.iinc 4 1, 3) := by decide +kernel
theorem dX9_engine_163 : decode cX9_engine 163 = .ok (.goto (-36), 3) := by decide +kernel
theorem dX9_engine_166 : decode cX9_engine 166 = .ok (.aload_n 0, 1) := by decide +kernel
theorem dX9_engine_167 : decode cX9_engine 167 = .ok (.getfield 23, 3) := by decide +kernel
theorem dX9_engine_170 : decode cX9_engine 170 = .ok (.bipush 12, 2) := by decide +kernel
theorem dX9_engine_172 : decode cX9_engine 172 = .ok (.iload_n 1, 1) := by decide +kernel
theorem dX9_engine_173 : decode cX9_engine 173 = .ok (.imul, 1) := by decide +kernel
theorem dX9_engine_174 : decode cX9_engine 174 = .ok (.bipush 11, 2) := by decide +kernel
theorem dX9_engine_176 : decode cX9_engine 176 = .ok (.iadd, 1) := by decide +kernel
theorem dX9_engine_177 : decode cX9_engine 177 = .ok (.iconst 0, 1) := by decide +kernel
theorem dX9_engine_178 : decode cX9_engine 178 = .ok (.iastore, 1) := by decide +kernel
theorem dX9_engine_179 : decode cX9_engine 179 = .ok (.iconst 1, 1) := by decide +kernel
theorem dX9_engine_180 : decode cX9_engine 180 = .ok (.ireturn, 1) := by decide +kernel
theorem dX9_adjust_0 : decode cX9_adjust 0 = .ok (.aload_n 0, 1) := by decide +kernel
theorem dX9_adjust_1 : decode cX9_adjust 1 = .ok (.iconst 0, 1) := by decide +kernel
theorem dX9_adjust_2 : decode cX9_adjust 2 = .ok (.putfield 71, 3) := by decide +kernel
theorem dX9_adjust_5 : decode cX9_adjust 5 = .ok (.iload_n 1, 1) := by decide +kernel
theorem dX9_adjust_6 : decode cX9_adjust 6 = .ok (.invokestatic 116, 3) := by decide +kernel
theorem dX9_adjust_9 : decode cX9_adjust 9 = .ok (.ifCond .eq 11, 3) := by decide +kernel
theorem dX9_adjust_12 : decode cX9_adjust 12 = .ok (.iload_n 2, 1) := by decide +kernel
theorem dX9_adjust_13 : decode cX9_adjust 13 = .ok (.iload_n 3, 1) := by decide +kernel
theorem dX9_adjust_14 : decode cX9_adjust 14 = .ok (.invokestatic 119, 3) := by decide +kernel
theorem dX9_adjust_17 : decode cX9_adjust 17 = .ok (.ifCond .ne 6, 3) := by decide +kernel
theorem dX9_adjust_20 : decode cX9_adjust 20 = .ok (.ldc 91, 2) := by decide +kernel
theorem dX9_adjust_22 : decode cX9_adjust 22 = .ok (.ireturn, 1) := by decide +kernel
theorem dX9_adjust_23 : decode cX9_adjust 23 = .ok (.aload_n 0, 1) := by decide +kernel
theorem dX9_adjust_24 : decode cX9_adjust 24 = .ok (.iload_n 1, 1) := by decide +kernel
theorem dX9_adjust_25 : decode cX9_adjust 25 = .ok (.invokevirtual 123, 3) := by decide +kernel
theorem dX9_adjust_28 : decode cX9_adjust 28 = .ok (.istore 4, 2) := by decide +kernel
theorem dX9_adjust_30 : decode cX9_adjust 30 = .ok (.iload 4, 2) := by decide +kernel
theorem dX9_adjust_32 : decode cX9_adjust 32 = .ok (.ifCond .ge 6, 3) := by decide +kernel
theorem dX9_adjust_35 : decode cX9_adjust 35 = .ok (.iload 4, 2) := by decide +kernel
theorem dX9_adjust_37 : decode cX9_adjust 37 = .ok (.ireturn, 1) := by decide +kernel
theorem dX9_adjust_38 : decode cX9_adjust 38 = .ok (.aload_n 0, 1) := by decide +kernel
theorem dX9_adjust_39 : decode cX9_adjust 39 = .ok (.getfield 23, 3) := by decide +kernel
theorem dX9_adjust_42 : decode cX9_adjust 42 = .ok (.bipush 12, 2) := by decide +kernel
theorem dX9_adjust_44 : decode cX9_adjust 44 = .ok (.iload_n 1, 1) := by decide +kernel
theorem dX9_adjust_45 : decode cX9_adjust 45 = .ok (.imul, 1) := by decide +kernel
theorem dX9_adjust_46 : decode cX9_adjust 46 = .ok (.iload_n 2, 1) := by decide +kernel
theorem dX9_adjust_47 : decode cX9_adjust 47 = .ok (.iadd, 1) := by decide +kernel
theorem dX9_adjust_48 : decode cX9_adjust 48 = .ok (.iaload, 1) := by decide +kernel
theorem dX9_adjust_49 : decode cX9_adjust 49 = .ok (.istore 5, 2) := by decide +kernel
theorem dX9_adjust_51 : decode cX9_adjust 51 = .ok (.aload_n 0, 1) := by decide +kernel
theorem dX9_adjust_52 : decode cX9_adjust 52 = .ok (.getfield 23, 3) := by decide +kernel
theorem dX9_adjust_55 : decode cX9_adjust 55 = .ok (.bipush 12, 2) := by decide +kernel
theorem dX9_adjust_57 : decode cX9_adjust 57 = .ok (.iload_n 1, 1) := by decide +kernel
theorem dX9_adjust_58 : decode cX9_adjust 58 = .ok (.imul, 1) := by decide +kernel
theorem dX9_adjust_59 : decode cX9_adjust 59 = .ok (.iload_n 2, 1) := by decide +kernel
theorem dX9_adjust_60 : decode cX9_adjust 60 = .ok (.iadd, 1) := by decide +kernel
theorem dX9_adjust_61 : decode cX9_adjust 61 = .ok (.iload_n 3, 1) := by decide +kernel
theorem dX9_adjust_62 : decode cX9_adjust 62 = .ok (.iastore, 1) := by decide +kernel
theorem dX9_adjust_63 : decode cX9_adjust 63 = .ok (.iload 5, 2) := by decide +kernel
theorem dX9_adjust_65 : decode cX9_adjust 65 = .ok (.ireturn, 1) := by decide +kernel
theorem dX9_sicken_0 : decode cX9_sicken 0 = .ok (.aload_n 0, 1) := by decide +kernel
theorem dX9_sicken_1 : decode cX9_sicken 1 = .ok (.iconst 0, 1) := by decide +kernel
theorem dX9_sicken_2 : decode cX9_sicken 2 = .ok (.putfield 71, 3) := by decide +kernel
theorem dX9_sicken_5 : decode cX9_sicken 5 = .ok (.iload_n 1, 1) := by decide +kernel
theorem dX9_sicken_6 : decode cX9_sicken 6 = .ok (.invokestatic 116, 3) := by decide +kernel
theorem dX9_sicken_9 : decode cX9_sicken 9 = .ok (.ifCond .eq 15, 3) := by decide +kernel
theorem dX9_sicken_12 : decode cX9_sicken 12 = .ok (.iload_n 2, 1) := by decide +kernel
theorem dX9_sicken_13 : decode cX9_sicken 13 = .ok (.i2l, 1) := by decide +kernel
theorem dX9_sicken_14 : decode cX9_sicken 14 = .ok (.lconst 0, 1) := by decide +kernel
theorem dX9_sicken_15 : decode cX9_sicken 15 = .ok (.ldc2_w 126, 3) := by decide +kernel
theorem dX9_sicken_18 : decode cX9_sicken 18 = .ok (.invokestatic 81, 3) := by decide +kernel
theorem dX9_sicken_21 : decode cX9_sicken 21 = .ok (.ifCond .ne 6, 3) := by decide +kernel
theorem dX9_sicken_24 : decode cX9_sicken 24 = .ok (.ldc 91, 2) := by decide +kernel
theorem dX9_sicken_26 : decode cX9_sicken 26 = .ok (.ireturn, 1) := by decide +kernel
theorem dX9_sicken_27 : decode cX9_sicken 27 = .ok (.aload_n 0, 1) := by decide +kernel
theorem dX9_sicken_28 : decode cX9_sicken 28 = .ok (.iload_n 1, 1) := by decide +kernel
theorem dX9_sicken_29 : decode cX9_sicken 29 = .ok (.invokevirtual 123, 3) := by decide +kernel
theorem dX9_sicken_32 : decode cX9_sicken 32 = .ok (.istore_n 3, 1) := by decide +kernel
theorem dX9_sicken_33 : decode cX9_sicken 33 = .ok (.iload_n 3, 1) := by decide +kernel
theorem dX9_sicken_34 : decode cX9_sicken 34 = .ok (.ifCond .ge 5, 3) := by decide +kernel
theorem dX9_sicken_37 : decode cX9_sicken 37 = .ok (.iload_n 3, 1) := by decide +kernel
theorem dX9_sicken_38 : decode cX9_sicken 38 = .ok (.ireturn, 1) := by decide +kernel
theorem dX9_sicken_39 : decode cX9_sicken 39 = .ok (.aload_n 0, 1) := by decide +kernel
theorem dX9_sicken_40 : decode cX9_sicken 40 = .ok (.getfield 23, 3) := by decide +kernel
theorem dX9_sicken_43 : decode cX9_sicken 43 = .ok (.bipush 12, 2) := by decide +kernel
theorem dX9_sicken_45 : decode cX9_sicken 45 = .ok (.iload_n 1, 1) := by decide +kernel
theorem dX9_sicken_46 : decode cX9_sicken 46 = .ok (.imul, 1) := by decide +kernel
theorem dX9_sicken_47 : decode cX9_sicken 47 = .ok (.bipush 11, 2) := by decide +kernel
theorem dX9_sicken_49 : decode cX9_sicken 49 = .ok (.iadd, 1) := by decide +kernel
theorem dX9_sicken_50 : decode cX9_sicken 50 = .ok (.iaload, 1) := by decide +kernel
theorem dX9_sicken_51 : decode cX9_sicken 51 = .ok (.istore 4, 2) := by decide +kernel
theorem dX9_sicken_53 : decode cX9_sicken 53 = .ok (.aload_n 0, 1) := by decide +kernel
theorem dX9_sicken_54 : decode cX9_sicken 54 = .ok (.getfield 23, 3) := by decide +kernel
theorem dX9_sicken_57 : decode cX9_sicken 57 = .ok (.bipush 12, 2) := by decide +kernel
theorem dX9_sicken_59 : decode cX9_sicken 59 = .ok (.iload_n 1, 1) := by decide +kernel
theorem dX9_sicken_60 : decode cX9_sicken 60 = .ok (.imul, 1) := by decide +kernel
theorem dX9_sicken_61 : decode cX9_sicken 61 = .ok (.bipush 11, 2) := by decide +kernel
theorem dX9_sicken_63 : decode cX9_sicken 63 = .ok (.iadd, 1) := by decide +kernel
theorem dX9_sicken_64 : decode cX9_sicken 64 = .ok (.iload_n 2, 1) := by decide +kernel
theorem dX9_sicken_65 : decode cX9_sicken 65 = .ok (.iastore, 1) := by decide +kernel
theorem dX9_sicken_66 : decode cX9_sicken 66 = .ok (.iload 4, 2) := by decide +kernel
theorem dX9_sicken_68 : decode cX9_sicken 68 = .ok (.ireturn, 1) := by decide +kernel
theorem dX9_like_0 : decode cX9_like 0 = .ok (.iconst 0, 1) := by decide +kernel
theorem dX9_like_1 : decode cX9_like 1 = .ok (.istore_n 3, 1) := by decide +kernel
theorem dX9_like_2 : decode cX9_like 2 = .ok (.iload_n 3, 1) := by decide +kernel
theorem dX9_like_3 : decode cX9_like 3 = .ok (.bipush 12, 2) := by decide +kernel
theorem dX9_like_5 : decode cX9_like 5 = .ok (.if_icmp .ge 31, 3) := by decide +kernel
theorem dX9_like_8 : decode cX9_like 8 = .ok (.aload_n 0, 1) := by decide +kernel
theorem dX9_like_9 : decode cX9_like 9 = .ok (.getfield 23, 3) := by decide +kernel
theorem dX9_like_12 : decode cX9_like 12 = .ok (.bipush 12, 2) := by decide +kernel
theorem dX9_like_14 : decode cX9_like 14 = .ok (.iload_n 1, 1) := by decide +kernel
theorem dX9_like_15 : decode cX9_like 15 = .ok (.imul, 1) := by decide +kernel
theorem dX9_like_16 : decode cX9_like 16 = .ok (.iload_n 3, 1) := by decide +kernel
theorem dX9_like_17 : decode cX9_like 17 = .ok (.iadd, 1) := by decide +kernel
theorem dX9_like_18 : decode cX9_like 18 = .ok (.aload_n 0, 1) := by decide +kernel
theorem dX9_like_19 : decode cX9_like 19 = .ok (.getfield 23, 3) := by decide +kernel
theorem dX9_like_22 : decode cX9_like 22 = .ok (.bipush 12, 2) := by decide +kernel
theorem dX9_like_24 : decode cX9_like 24 = .ok (.iload_n 2, 1) := by decide +kernel
theorem dX9_like_25 : decode cX9_like 25 = .ok (.imul, 1) := by decide +kernel
theorem dX9_like_26 : decode cX9_like 26 = .ok (.iload_n 3, 1) := by decide +kernel
theorem dX9_like_27 : decode cX9_like 27 = .ok (.iadd, 1) := by decide +kernel
theorem dX9_like_28 : decode cX9_like 28 = .ok (.iaload, 1) := by decide +kernel
theorem dX9_like_29 : decode cX9_like 29 = .ok (.iastore, 1) := by decide +kernel
theorem dX9_like_30 : decode cX9_like 30 = .ok (.iinc 3 1, 3) := by decide +kernel
theorem dX9_like_33 : decode cX9_like 33 = .ok (.goto (-31), 3) := by decide +kernel
theorem dX9_like_36 : decode cX9_like 36 = .ok (.return_, 1) := by decide +kernel
theorem dX9_twin_0 : decode cX9_twin 0 = .ok (.aload_n 0, 1) := by decide +kernel
theorem dX9_twin_1 : decode cX9_twin 1 = .ok (.iconst 0, 1) := by decide +kernel
theorem dX9_twin_2 : decode cX9_twin 2 = .ok (.putfield 71, 3) := by decide +kernel
theorem dX9_twin_5 : decode cX9_twin 5 = .ok (.iload_n 1, 1) := by decide +kernel
theorem dX9_twin_6 : decode cX9_twin 6 = .ok (.invokestatic 116, 3) := by decide +kernel
theorem dX9_twin_9 : decode cX9_twin 9 = .ok (.ifCond .eq 10, 3) := by decide +kernel
theorem dX9_twin_12 : decode cX9_twin 12 = .ok (.iload_n 2, 1) := by decide +kernel
theorem dX9_twin_13 : decode cX9_twin 13 = .ok (.invokestatic 116, 3) := by decide +kernel
theorem dX9_twin_16 : decode cX9_twin 16 = .ok (.ifCond .ne 6, 3) := by decide +kernel
theorem dX9_twin_19 : decode cX9_twin 19 = .ok (.ldc 91, 2) := by decide +kernel
theorem dX9_twin_21 : decode cX9_twin 21 = .ok (.ireturn, 1) := by decide +kernel
theorem dX9_twin_22 : decode cX9_twin 22 = .ok (.aload_n 0, 1) := by decide +kernel
theorem dX9_twin_23 : decode cX9_twin 23 = .ok (.iload_n 2, 1) := by decide +kernel
theorem dX9_twin_24 : decode cX9_twin 24 = .ok (.invokevirtual 123, 3) := by decide +kernel
theorem dX9_twin_27 : decode cX9_twin 27 = .ok (.istore_n 3, 1) := by decide +kernel
theorem dX9_twin_28 : decode cX9_twin 28 = .ok (.iload_n 3, 1) := by decide +kernel
theorem dX9_twin_29 : decode cX9_twin 29 = .ok (.ifCond .ge 5, 3) := by decide +kernel
theorem dX9_twin_32 : decode cX9_twin 32 = .ok (.iload_n 3, 1) := by decide +kernel
theorem dX9_twin_33 : decode cX9_twin 33 = .ok (.ireturn, 1) := by decide +kernel
theorem dX9_twin_34 : decode cX9_twin 34 = .ok (.aload_n 0, 1) := by decide +kernel
theorem dX9_twin_35 : decode cX9_twin 35 = .ok (.iload_n 1, 1) := by decide +kernel
theorem dX9_twin_36 : decode cX9_twin 36 = .ok (.iload_n 2, 1) := by decide +kernel
theorem dX9_twin_37 : decode cX9_twin 37 = .ok (.invokevirtual 128, 3) := by decide +kernel
theorem dX9_twin_40 : decode cX9_twin 40 = .ok (.aload_n 0, 1) := by decide +kernel
theorem dX9_twin_41 : decode cX9_twin 41 = .ok (.getfield 19, 3) := by decide +kernel
theorem dX9_twin_44 : decode cX9_twin 44 = .ok (.iload_n 1, 1) := by decide +kernel
theorem dX9_twin_45 : decode cX9_twin 45 = .ok (.iconst 1, 1) := by decide +kernel
theorem dX9_twin_46 : decode cX9_twin 46 = .ok (.bastore, 1) := by decide +kernel
theorem dX9_twin_47 : decode cX9_twin 47 = .ok (.aload_n 0, 1) := by decide +kernel
theorem dX9_twin_48 : decode cX9_twin 48 = .ok (.getfield 26, 3) := by decide +kernel
theorem dX9_twin_51 : decode cX9_twin 51 = .ok (.iload_n 1, 1) := by decide +kernel
theorem dX9_twin_52 : decode cX9_twin 52 = .ok (.iconst 0, 1) := by decide +kernel
theorem dX9_twin_53 : decode cX9_twin 53 = .ok (.bastore, 1) := by decide +kernel
theorem dX9_twin_54 : decode cX9_twin 54 = .ok (.iconst 1, 1) := by decide +kernel
theorem dX9_twin_55 : decode cX9_twin 55 = .ok (.ireturn, 1) := by decide +kernel
theorem dX9_clear_0 : decode cX9_clear 0 = .ok (.aload_n 0, 1) := by decide +kernel
theorem dX9_clear_1 : decode cX9_clear 1 = .ok (.iconst 0, 1) := by decide +kernel
theorem dX9_clear_2 : decode cX9_clear 2 = .ok (.putfield 71, 3) := by decide +kernel
theorem dX9_clear_5 : decode cX9_clear 5 = .ok (.iload_n 1, 1) := by decide +kernel
theorem dX9_clear_6 : decode cX9_clear 6 = .ok (.invokestatic 116, 3) := by decide +kernel
theorem dX9_clear_9 : decode cX9_clear 9 = .ok (.ifCond .ne 6, 3) := by decide +kernel
theorem dX9_clear_12 : decode cX9_clear 12 = .ok (.ldc 91, 2) := by decide +kernel
theorem dX9_clear_14 : decode cX9_clear 14 = .ok (.ireturn, 1) := by decide +kernel
theorem dX9_clear_15 : decode cX9_clear 15 = .ok (.aload_n 0, 1) := by decide +kernel
theorem dX9_clear_16 : decode cX9_clear 16 = .ok (.getfield 19, 3) := by decide +kernel
theorem dX9_clear_19 : decode cX9_clear 19 = .ok (.iload_n 1, 1) := by decide +kernel
theorem dX9_clear_20 : decode cX9_clear 20 = .ok (.baload, 1) := by decide +kernel
theorem dX9_clear_21 : decode cX9_clear 21 = .ok (.istore_n 2, 1) := by decide +kernel
theorem dX9_clear_22 : decode cX9_clear 22 = .ok (.aload_n 0, 1) := by decide +kernel
theorem dX9_clear_23 : decode cX9_clear 23 = .ok (.getfield 19, 3) := by decide +kernel
theorem dX9_clear_26 : decode cX9_clear 26 = .ok (.iload_n 1, 1) := by decide +kernel
theorem dX9_clear_27 : decode cX9_clear 27 = .ok (.iconst 0, 1) := by decide +kernel
theorem dX9_clear_28 : decode cX9_clear 28 = .ok (.bastore, 1) := by decide +kernel
theorem dX9_clear_29 : decode cX9_clear 29 = .ok (.aload_n 0, 1) := by decide +kernel
theorem dX9_clear_30 : decode cX9_clear 30 = .ok (.getfield 26, 3) := by decide +kernel
theorem dX9_clear_33 : decode cX9_clear 33 = .ok (.iload_n 1, 1) := by decide +kernel
theorem dX9_clear_34 : decode cX9_clear 34 = .ok (.iconst 0, 1) := by decide +kernel
theorem dX9_clear_35 : decode cX9_clear 35 = .ok (.bastore, 1) := by decide +kernel
theorem dX9_clear_36 : decode cX9_clear 36 = .ok (.iload_n 2, 1) := by decide +kernel
theorem dX9_clear_37 : decode cX9_clear 37 = .ok (.ifCond .eq 7, 3) := by decide +kernel
theorem dX9_clear_40 : decode cX9_clear 40 = .ok (.iconst 1, 1) := by decide +kernel
theorem dX9_clear_41 : decode cX9_clear 41 = .ok (.goto 4, 3) := by decide +kernel
theorem dX9_clear_44 : decode cX9_clear 44 = .ok (.iconst 0, 1) := by decide +kernel
theorem dX9_clear_45 : decode cX9_clear 45 = .ok (.ireturn, 1) := by decide +kernel
theorem dX9_number_0 : decode cX9_number 0 = .ok (.aload_n 0, 1) := by decide +kernel
theorem dX9_number_1 : decode cX9_number 1 = .ok (.iconst 0, 1) := by decide +kernel
theorem dX9_number_2 : decode cX9_number 2 = .ok (.putfield 71, 3) := by decide +kernel
theorem dX9_number_5 : decode cX9_number 5 = .ok (.iload_n 1, 1) := by decide +kernel
theorem dX9_number_6 : decode cX9_number 6 = .ok (.invokestatic 116, 3) := by decide +kernel
theorem dX9_number_9 : decode cX9_number 9 = .ok (.ifCond .eq 15, 3) := by decide +kernel
theorem dX9_number_12 : decode cX9_number 12 = .ok (.iload_n 2, 1) := by decide +kernel
theorem dX9_number_13 : decode cX9_number 13 = .ok (.i2l, 1) := by decide +kernel
theorem dX9_number_14 : decode cX9_number 14 = .ok (.lconst 0, 1) := by decide +kernel
theorem dX9_number_15 : decode cX9_number 15 = .ok (.ldc2_w 106, 3) := by decide +kernel
theorem dX9_number_18 : decode cX9_number 18 = .ok (.invokestatic 81, 3) := by decide +kernel
theorem dX9_number_21 : decode cX9_number 21 = .ok (.ifCond .ne 6, 3) := by decide +kernel
theorem dX9_number_24 : decode cX9_number 24 = .ok (.ldc 91, 2) := by decide +kernel
theorem dX9_number_26 : decode cX9_number 26 = .ok (.ireturn, 1) := by decide +kernel
theorem dX9_number_27 : decode cX9_number 27 = .ok (.aload_n 0, 1) := by decide +kernel
theorem dX9_number_28 : decode cX9_number 28 = .ok (.iload_n 1, 1) := by decide +kernel
theorem dX9_number_29 : decode cX9_number 29 = .ok (.invokevirtual 123, 3) := by decide +kernel
theorem dX9_number_32 : decode cX9_number 32 = .ok (.istore_n 3, 1) := by decide +kernel
theorem dX9_number_33 : decode cX9_number 33 = .ok (.iload_n 3, 1) := by decide +kernel
theorem dX9_number_34 : decode cX9_number 34 = .ok (.ifCond .ge 7, 3) := by decide +kernel
theorem dX9_number_37 : decode cX9_number 37 = .ok (.iload_n 3, 1) := by decide +kernel
theorem dX9_number_38 : decode cX9_number 38 = .ok (.goto 14, 3) := by decide +kernel
theorem dX9_number_41 : decode cX9_number 41 = .ok (.aload_n 0, 1) := by decide +kernel
theorem dX9_number_42 : decode cX9_number 42 = .ok (.getfield 23, 3) := by decide +kernel
theorem dX9_number_45 : decode cX9_number 45 = .ok (.bipush 12, 2) := by decide +kernel
theorem dX9_number_47 : decode cX9_number 47 = .ok (.iload_n 1, 1) := by decide +kernel
theorem dX9_number_48 : decode cX9_number 48 = .ok (.imul, 1) := by decide +kernel
theorem dX9_number_49 : decode cX9_number 49 = .ok (.iload_n 2, 1) := by decide +kernel
theorem dX9_number_50 : decode cX9_number 50 = .ok (.iadd, 1) := by decide +kernel
theorem dX9_number_51 : decode cX9_number 51 = .ok (.iaload, 1) := by decide +kernel
theorem dX9_number_52 : decode cX9_number 52 = .ok (.ireturn, 1) := by decide +kernel
theorem dX9_round_0 : decode cX9_round 0 = .ok (.iload_n 0, 1) := by decide +kernel
theorem dX9_round_1 : decode cX9_round 1 = .ok (.bipush 48, 2) := by decide +kernel
theorem dX9_round_3 : decode cX9_round 3 = .ok (.irem, 1) := by decide +kernel
theorem dX9_round_4 : decode cX9_round 4 = .ok (.istore_n 1, 1) := by decide +kernel
theorem dX9_round_5 : decode cX9_round 5 = .ok (.iload_n 1, 1) := by decide +kernel
theorem dX9_round_6 : decode cX9_round 6 = .ok (.ifCond .ge 10, 3) := by decide +kernel
theorem dX9_round_9 : decode cX9_round 9 = .ok (.iload_n 1, 1) := by decide +kernel
theorem dX9_round_10 : decode cX9_round 10 = .ok (.bipush 48, 2) := by decide +kernel
theorem dX9_round_12 : decode cX9_round 12 = .ok (.iadd, 1) := by decide +kernel
theorem dX9_round_13 : decode cX9_round 13 = .ok (.goto 4, 3) := by decide +kernel
theorem dX9_round_16 : decode cX9_round 16 = .ok (.iload_n 1, 1) := by decide +kernel
theorem dX9_round_17 : decode cX9_round 17 = .ok (.ireturn, 1) := by decide +kernel
theorem dX9_along_0 : decode cX9_along 0 = .ok (.iload_n 1, 1) := by decide +kernel
theorem dX9_along_1 : decode cX9_along 1 = .ok (.invokestatic 132, 3) := by decide +kernel
theorem dX9_along_4 : decode cX9_along 4 = .ok (.istore_n 2, 1) := by decide +kernel
theorem dX9_along_5 : decode cX9_along 5 = .ok (.iload_n 2, 1) := by decide +kernel
theorem dX9_along_6 : decode cX9_along 6 = .ok (.bipush 24, 2) := by decide +kernel
theorem dX9_along_8 : decode cX9_along 8 = .ok (.if_icmp .le 10, 3) := by decide +kernel
theorem dX9_along_11 : decode cX9_along 11 = .ok (.bipush 48, 2) := by decide +kernel
theorem dX9_along_13 : decode cX9_along 13 = .ok (.iload_n 2, 1) := by decide +kernel
theorem dX9_along_14 : decode cX9_along 14 = .ok (.isub, 1) := by decide +kernel
theorem dX9_along_15 : decode cX9_along 15 = .ok (.goto 4, 3) := by decide +kernel
theorem dX9_along_18 : decode cX9_along 18 = .ok (.iload_n 2, 1) := by decide +kernel
theorem dX9_along_19 : decode cX9_along 19 = .ok (.istore_n 2, 1) := by decide +kernel
theorem dX9_along_20 : decode cX9_along 20 = .ok (.iload_n 2, 1) := by decide +kernel
theorem dX9_along_21 : decode cX9_along 21 = .ok (.bipush 12, 2) := by decide +kernel
theorem dX9_along_23 : decode cX9_along 23 = .ok (.if_icmp .gt 12, 3) := by decide +kernel
theorem dX9_along_26 : decode cX9_along 26 = .ok (.aload_n 0, 1) := by decide +kernel
theorem dX9_along_27 : decode cX9_along 27 = .ok (.getfield 38, 3) := by decide +kernel
theorem dX9_along_30 : decode cX9_along 30 = .ok (.iload_n 2, 1) := by decide +kernel
theorem dX9_along_31 : decode cX9_along 31 = .ok (.iaload, 1) := by decide +kernel
theorem dX9_along_32 : decode cX9_along 32 = .ok (.goto 13, 3) := by decide +kernel
theorem dX9_along_35 : decode cX9_along 35 = .ok (.aload_n 0, 1) := by decide +kernel
theorem dX9_along_36 : decode cX9_along 36 = .ok (.getfield 38, 3) := by decide +kernel
theorem dX9_along_39 : decode cX9_along 39 = .ok (.bipush 24, 2) := by decide +kernel
theorem dX9_along_41 : decode cX9_along 41 = .ok (.iload_n 2, 1) := by decide +kernel
theorem dX9_along_42 : decode cX9_along 42 = .ok (.isub, 1) := by decide +kernel
theorem dX9_along_43 : decode cX9_along 43 = .ok (.iaload, 1) := by decide +kernel
theorem dX9_along_44 : decode cX9_along 44 = .ok (.ineg, 1) := by decide +kernel
theorem dX9_along_45 : decode cX9_along 45 = .ok (.ireturn, 1) := by decide +kernel
theorem dX9_across_0 : decode cX9_across 0 = .ok (.aload_n 0, 1) := by decide +kernel
theorem dX9_across_1 : decode cX9_across 1 = .ok (.iload_n 1, 1) := by decide +kernel
theorem dX9_across_2 : decode cX9_across 2 = .ok (.bipush 12, 2) := by decide +kernel
theorem dX9_across_4 : decode cX9_across 4 = .ok (.isub, 1) := by decide +kernel
theorem dX9_across_5 : decode cX9_across 5 = .ok (.invokevirtual 135, 3) := by decide +kernel
theorem dX9_across_8 : decode cX9_across 8 = .ok (.ireturn, 1) := by decide +kernel
theorem dX9_pistonAt_0 : decode cX9_pistonAt 0 = .ok (.aload_n 0, 1) := by decide +kernel
theorem dX9_pistonAt_1 : decode cX9_pistonAt 1 = .ok (.getfield 23, 3) := by decide +kernel
theorem dX9_pistonAt_4 : decode cX9_pistonAt 4 = .ok (.bipush 12, 2) := by decide +kernel
theorem dX9_pistonAt_6 : decode cX9_pistonAt 6 = .ok (.iload_n 1, 1) := by decide +kernel
theorem dX9_pistonAt_7 : decode cX9_pistonAt 7 = .ok (.imul, 1) := by decide +kernel
theorem dX9_pistonAt_8 : decode cX9_pistonAt 8 = .ok (.iconst 0, 1) := by decide +kernel
theorem dX9_pistonAt_9 : decode cX9_pistonAt 9 = .ok (.iadd, 1) := by decide +kernel
theorem dX9_pistonAt_10 : decode cX9_pistonAt 10 = .ok (.iaload, 1) := by decide +kernel
theorem dX9_pistonAt_11 : decode cX9_pistonAt 11 = .ok (.istore_n 3, 1) := by decide +kernel
theorem dX9_pistonAt_12 : decode cX9_pistonAt 12 = .ok (.sipush 10000, 3) := by decide +kernel
theorem dX9_pistonAt_15 : decode cX9_pistonAt 15 = .ok (.aload_n 0, 1) := by decide +kernel
theorem dX9_pistonAt_16 : decode cX9_pistonAt 16 = .ok (.iload_n 2, 1) := by decide +kernel
theorem dX9_pistonAt_17 : decode cX9_pistonAt 17 = .ok (.invokevirtual 135, 3) := by decide +kernel
theorem dX9_pistonAt_20 : decode cX9_pistonAt 20 = .ok (.isub, 1) := by decide +kernel
theorem dX9_pistonAt_21 : decode cX9_pistonAt 21 = .ok (.bipush 20, 2) := by decide +kernel
theorem dX9_pistonAt_23 : decode cX9_pistonAt 23 = .ok (.idiv, 1) := by decide +kernel
theorem dX9_pistonAt_24 : decode cX9_pistonAt 24 = .ok (.iload_n 3, 1) := by decide +kernel
theorem dX9_pistonAt_25 : decode cX9_pistonAt 25 = .ok (.ifCond .ne 7, 3) := by decide +kernel
theorem dX9_pistonAt_28 : decode cX9_pistonAt 28 = .ok (.iconst 0, 1) := by decide +kernel
theorem dX9_pistonAt_29 : decode cX9_pistonAt 29 = .ok (.goto 19, 3) := by decide +kernel
theorem dX9_pistonAt_32 : decode cX9_pistonAt 32 = .ok (.aload_n 0, 1) := by decide +kernel
theorem dX9_pistonAt_33 : decode cX9_pistonAt 33 = .ok (.iload_n 2, 1) := by decide +kernel
theorem dX9_pistonAt_34 : decode cX9_pistonAt 34 = .ok (.invokevirtual 138, 3) := by decide +kernel
theorem dX9_pistonAt_37 : decode cX9_pistonAt 37 = .ok (.aload_n 0, 1) := by decide +kernel
theorem dX9_pistonAt_38 : decode cX9_pistonAt 38 = .ok (.iload_n 2, 1) := by decide +kernel
theorem dX9_pistonAt_39 : decode cX9_pistonAt 39 = .ok (.invokevirtual 138, 3) := by decide +kernel
theorem dX9_pistonAt_42 : decode cX9_pistonAt 42 = .ok (.imul, 1) := by decide +kernel
theorem dX9_pistonAt_43 : decode cX9_pistonAt 43 = .ok (.ldc 141, 2) := by decide +kernel
theorem dX9_pistonAt_45 : decode cX9_pistonAt 45 = .ok (.iload_n 3, 1) := by decide +kernel
theorem dX9_pistonAt_46 : decode cX9_pistonAt 46 = .ok (.imul, 1) := by decide +kernel
theorem dX9_pistonAt_47 : decode cX9_pistonAt 47 = .ok (.idiv, 1) := by decide +kernel
theorem dX9_pistonAt_48 : decode cX9_pistonAt 48 = .ok (.iadd, 1) := by decide +kernel
theorem dX9_pistonAt_49 : decode cX9_pistonAt 49 = .ok (.ireturn, 1) := by decide +kernel
theorem dX9_lateOf_0 : decode cX9_lateOf 0 = .ok (.iload_n 0, 1) := by decide +kernel
theorem dX9_lateOf_1 : decode cX9_lateOf 1 = .ok (.iconst 1, 1) := by decide +kernel
theorem dX9_lateOf_2 : decode cX9_lateOf 2 = .ok (.if_icmp .lt 13, 3) := by decide +kernel
theorem dX9_lateOf_5 : decode cX9_lateOf 5 = .ok (.iload_n 0, 1) := by decide +kernel
theorem dX9_lateOf_6 : decode cX9_lateOf 6 = .ok (.iconst 3, 1) := by decide +kernel
theorem dX9_lateOf_7 : decode cX9_lateOf 7 = .ok (.if_icmp .gt 8, 3) := by decide +kernel
theorem dX9_lateOf_10 : decode cX9_lateOf 10 = .ok (.iload_n 0, 1) := by decide +kernel
theorem dX9_lateOf_11 : decode cX9_lateOf 11 = .ok (.ineg, 1) := by decide +kernel
theorem dX9_lateOf_12 : decode cX9_lateOf 12 = .ok (.goto 21, 3) := by decide +kernel
theorem dX9_lateOf_15 : decode cX9_lateOf 15 = .ok (.iload_n 0, 1) := by decide +kernel
theorem dX9_lateOf_16 : decode cX9_lateOf 16 = .ok (.iconst 4, 1) := by decide +kernel
theorem dX9_lateOf_17 : decode cX9_lateOf 17 = .ok (.if_icmp .lt 15, 3) := by decide +kernel
theorem dX9_lateOf_20 : decode cX9_lateOf 20 = .ok (.iload_n 0, 1) := by decide +kernel
theorem dX9_lateOf_21 : decode cX9_lateOf 21 = .ok (.bipush 6, 2) := by decide +kernel
theorem dX9_lateOf_23 : decode cX9_lateOf 23 = .ok (.if_icmp .gt 9, 3) := by decide +kernel
theorem dX9_lateOf_26 : decode cX9_lateOf 26 = .ok (.iload_n 0, 1) := by decide +kernel
theorem dX9_lateOf_27 : decode cX9_lateOf 27 = .ok (.iconst 3, 1) := by decide +kernel
theorem dX9_lateOf_28 : decode cX9_lateOf 28 = .ok (.isub, 1) := by decide +kernel
theorem dX9_lateOf_29 : decode cX9_lateOf 29 = .ok (.goto 4, 3) := by decide +kernel
theorem dX9_lateOf_32 : decode cX9_lateOf 32 = .ok (.iconst 0, 1) := by decide +kernel
theorem dX9_lateOf_33 : decode cX9_lateOf 33 = .ok (.ireturn, 1) := by decide +kernel
theorem dX9_leakOf_0 : decode cX9_leakOf 0 = .ok (.iload_n 0, 1) := by decide +kernel
theorem dX9_leakOf_1 : decode cX9_leakOf 1 = .ok (.bipush 7, 2) := by decide +kernel
theorem dX9_leakOf_3 : decode cX9_leakOf 3 = .ok (.if_icmp .ne 7, 3) := by decide +kernel
theorem dX9_leakOf_6 : decode cX9_leakOf 6 = .ok (.iconst 5, 1) := by decide +kernel
theorem dX9_leakOf_7 : decode cX9_leakOf 7 = .ok (.goto 26, 3) := by decide +kernel
theorem dX9_leakOf_10 : decode cX9_leakOf 10 = .ok (.iload_n 0, 1) := by decide +kernel
theorem dX9_leakOf_11 : decode cX9_leakOf 11 = .ok (.bipush 8, 2) := by decide +kernel
theorem dX9_leakOf_13 : decode cX9_leakOf 13 = .ok (.if_icmp .ne 8, 3) := by decide +kernel
theorem dX9_leakOf_16 : decode cX9_leakOf 16 = .ok (.bipush 10, 2) := by decide +kernel
theorem dX9_leakOf_18 : decode cX9_leakOf 18 = .ok (.goto 15, 3) := by decide +kernel
theorem dX9_leakOf_21 : decode cX9_leakOf 21 = .ok (.iload_n 0, 1) := by decide +kernel
theorem dX9_leakOf_22 : decode cX9_leakOf 22 = .ok (.bipush 9, 2) := by decide +kernel
theorem dX9_leakOf_24 : decode cX9_leakOf 24 = .ok (.if_icmp .ne 8, 3) := by decide +kernel
theorem dX9_leakOf_27 : decode cX9_leakOf 27 = .ok (.bipush 20, 2) := by decide +kernel
theorem dX9_leakOf_29 : decode cX9_leakOf 29 = .ok (.goto 4, 3) := by decide +kernel
theorem dX9_leakOf_32 : decode cX9_leakOf 32 = .ok (.iconst 0, 1) := by decide +kernel
theorem dX9_leakOf_33 : decode cX9_leakOf 33 = .ok (.ireturn, 1) := by decide +kernel
theorem dX9_chokedOf_0 : decode cX9_chokedOf 0 = .ok (.iload_n 0, 1) := by decide +kernel
theorem dX9_chokedOf_1 : decode cX9_chokedOf 1 = .ok (.bipush 10, 2) := by decide +kernel
theorem dX9_chokedOf_3 : decode cX9_chokedOf 3 = .ok (.if_icmp .ne 8, 3) := by decide +kernel
theorem dX9_chokedOf_6 : decode cX9_chokedOf 6 = .ok (.bipush 20, 2) := by decide +kernel
theorem dX9_chokedOf_8 : decode cX9_chokedOf 8 = .ok (.goto 26, 3) := by decide +kernel
theorem dX9_chokedOf_11 : decode cX9_chokedOf 11 = .ok (.iload_n 0, 1) := by decide +kernel
theorem dX9_chokedOf_12 : decode cX9_chokedOf 12 = .ok (.bipush 11, 2) := by decide +kernel
theorem dX9_chokedOf_14 : decode cX9_chokedOf 14 = .ok (.if_icmp .ne 8, 3) := by decide +kernel
theorem dX9_chokedOf_17 : decode cX9_chokedOf 17 = .ok (.bipush 50, 2) := by decide +kernel
theorem dX9_chokedOf_19 : decode cX9_chokedOf 19 = .ok (.goto 15, 3) := by decide +kernel
theorem dX9_chokedOf_22 : decode cX9_chokedOf 22 = .ok (.iload_n 0, 1) := by decide +kernel
theorem dX9_chokedOf_23 : decode cX9_chokedOf 23 = .ok (.bipush 12, 2) := by decide +kernel
theorem dX9_chokedOf_25 : decode cX9_chokedOf 25 = .ok (.if_icmp .ne 8, 3) := by decide +kernel
theorem dX9_chokedOf_28 : decode cX9_chokedOf 28 = .ok (.bipush 100, 2) := by decide +kernel
theorem dX9_chokedOf_30 : decode cX9_chokedOf 30 = .ok (.goto 4, 3) := by decide +kernel
theorem dX9_chokedOf_33 : decode cX9_chokedOf 33 = .ok (.iconst 0, 1) := by decide +kernel
theorem dX9_chokedOf_34 : decode cX9_chokedOf 34 = .ok (.ireturn, 1) := by decide +kernel
theorem dX9_valveAt_0 : decode cX9_valveAt 0 = .ok (.bipush 12, 2) := by decide +kernel
theorem dX9_valveAt_2 : decode cX9_valveAt 2 = .ok (.iload_n 1, 1) := by decide +kernel
theorem dX9_valveAt_3 : decode cX9_valveAt 3 = .ok (.imul, 1) := by decide +kernel
theorem dX9_valveAt_4 : decode cX9_valveAt 4 = .ok (.istore 4, 2) := by decide +kernel
theorem dX9_valveAt_6 : decode cX9_valveAt 6 = .ok (.aload_n 0, 1) := by decide +kernel
theorem dX9_valveAt_7 : decode cX9_valveAt 7 = .ok (.iload_n 3, 1) := by decide +kernel
theorem dX9_valveAt_8 : decode cX9_valveAt 8 = .ok (.aload_n 0, 1) := by decide +kernel
theorem dX9_valveAt_9 : decode cX9_valveAt 9 = .ok (.getfield 23, 3) := by decide +kernel
theorem dX9_valveAt_12 : decode cX9_valveAt 12 = .ok (.iload 4, 2) := by decide +kernel
theorem dX9_valveAt_14 : decode cX9_valveAt 14 = .ok (.iconst 2, 1) := by decide +kernel
theorem dX9_valveAt_15 : decode cX9_valveAt 15 = .ok (.iadd, 1) := by decide +kernel
theorem dX9_valveAt_16 : decode cX9_valveAt 16 = .ok (.iaload, 1) := by decide +kernel
theorem dX9_valveAt_17 : decode cX9_valveAt 17 = .ok (.iadd, 1) := by decide +kernel
theorem dX9_valveAt_18 : decode cX9_valveAt 18 = .ok (.aload_n 0, 1) := by decide +kernel
theorem dX9_valveAt_19 : decode cX9_valveAt 19 = .ok (.getfield 23, 3) := by decide +kernel
theorem dX9_valveAt_22 : decode cX9_valveAt 22 = .ok (.iload 4, 2) := by decide +kernel
theorem dX9_valveAt_24 : decode cX9_valveAt 24 = .ok (.bipush 11, 2) := by decide +kernel
theorem dX9_valveAt_26 : decode cX9_valveAt 26 = .ok (.iadd, 1) := by decide +kernel
theorem dX9_valveAt_27 : decode cX9_valveAt 27 = .ok (.iaload, 1) := by decide +kernel
theorem dX9_valveAt_28 : decode cX9_valveAt 28 = .ok (.invokestatic 142, 3) := by decide +kernel
theorem dX9_valveAt_31 : decode cX9_valveAt 31 = .ok (.iadd, 1) := by decide +kernel
theorem dX9_valveAt_32 : decode cX9_valveAt 32 = .ok (.invokevirtual 138, 3) := by decide +kernel
theorem dX9_valveAt_35 : decode cX9_valveAt 35 = .ok (.istore 5, 2) := by decide +kernel
theorem dX9_valveAt_37 : decode cX9_valveAt 37 = .ok (.aload_n 0, 1) := by decide +kernel
theorem dX9_valveAt_38 : decode cX9_valveAt 38 = .ok (.aload_n 0, 1) := by decide +kernel
theorem dX9_valveAt_39 : decode cX9_valveAt 39 = .ok (.getfield 23, 3) := by decide +kernel
theorem dX9_valveAt_42 : decode cX9_valveAt 42 = .ok (.iload 4, 2) := by decide +kernel
theorem dX9_valveAt_44 : decode cX9_valveAt 44 = .ok (.iconst 2, 1) := by decide +kernel
theorem dX9_valveAt_45 : decode cX9_valveAt 45 = .ok (.iadd, 1) := by decide +kernel
theorem dX9_valveAt_46 : decode cX9_valveAt 46 = .ok (.iaload, 1) := by decide +kernel
theorem dX9_valveAt_47 : decode cX9_valveAt 47 = .ok (.iload_n 3, 1) := by decide +kernel
theorem dX9_valveAt_48 : decode cX9_valveAt 48 = .ok (.isub, 1) := by decide +kernel
theorem dX9_valveAt_49 : decode cX9_valveAt 49 = .ok (.invokevirtual 138, 3) := by decide +kernel
theorem dX9_valveAt_52 : decode cX9_valveAt 52 = .ok (.istore 6, 2) := by decide +kernel
theorem dX9_valveAt_54 : decode cX9_valveAt 54 = .ok (.aload_n 0, 1) := by decide +kernel
theorem dX9_valveAt_55 : decode cX9_valveAt 55 = .ok (.getfield 23, 3) := by decide +kernel
theorem dX9_valveAt_58 : decode cX9_valveAt 58 = .ok (.iload 4, 2) := by decide +kernel
theorem dX9_valveAt_60 : decode cX9_valveAt 60 = .ok (.iconst 1, 1) := by decide +kernel
theorem dX9_valveAt_61 : decode cX9_valveAt 61 = .ok (.iadd, 1) := by decide +kernel
theorem dX9_valveAt_62 : decode cX9_valveAt 62 = .ok (.iaload, 1) := by decide +kernel
theorem dX9_valveAt_63 : decode cX9_valveAt 63 = .ok (.bipush 6, 2) := by decide +kernel
theorem dX9_valveAt_65 : decode cX9_valveAt 65 = .ok (.iload_n 2, 1) := by decide +kernel
theorem dX9_valveAt_66 : decode cX9_valveAt 66 = .ok (.iadd, 1) := by decide +kernel
theorem dX9_valveAt_67 : decode cX9_valveAt 67 = .ok (.iload 5, 2) := by decide +kernel
theorem dX9_valveAt_69 : decode cX9_valveAt 69 = .ok (.imul, 1) := by decide +kernel
theorem dX9_valveAt_70 : decode cX9_valveAt 70 = .ok (.bipush 6, 2) := by decide +kernel
theorem dX9_valveAt_72 : decode cX9_valveAt 72 = .ok (.iload_n 2, 1) := by decide +kernel
theorem dX9_valveAt_73 : decode cX9_valveAt 73 = .ok (.isub, 1) := by decide +kernel
theorem dX9_valveAt_74 : decode cX9_valveAt 74 = .ok (.iload 6, 2) := by decide +kernel
theorem dX9_valveAt_76 : decode cX9_valveAt 76 = .ok (.imul, 1) := by decide +kernel
theorem dX9_valveAt_77 : decode cX9_valveAt 77 = .ok (.iadd, 1) := by decide +kernel
theorem dX9_valveAt_78 : decode cX9_valveAt 78 = .ok (.imul, 1) := by decide +kernel
theorem dX9_valveAt_79 : decode cX9_valveAt 79 = .ok (.ldc 145, 2) := by decide +kernel
theorem dX9_valveAt_81 : decode cX9_valveAt 81 = .ok (.idiv, 1) := by decide +kernel
theorem dX9_valveAt_82 : decode cX9_valveAt 82 = .ok (.aload_n 0, 1) := by decide +kernel
theorem dX9_valveAt_83 : decode cX9_valveAt 83 = .ok (.getfield 23, 3) := by decide +kernel
theorem dX9_valveAt_86 : decode cX9_valveAt 86 = .ok (.iload 4, 2) := by decide +kernel
theorem dX9_valveAt_88 : decode cX9_valveAt 88 = .ok (.iconst 3, 1) := by decide +kernel
theorem dX9_valveAt_89 : decode cX9_valveAt 89 = .ok (.iadd, 1) := by decide +kernel
theorem dX9_valveAt_90 : decode cX9_valveAt 90 = .ok (.iaload, 1) := by decide +kernel
theorem dX9_valveAt_91 : decode cX9_valveAt 91 = .ok (.iload_n 2, 1) := by decide +kernel
theorem dX9_valveAt_92 : decode cX9_valveAt 92 = .ok (.imul, 1) := by decide +kernel
theorem dX9_valveAt_93 : decode cX9_valveAt 93 = .ok (.bipush 6, 2) := by decide +kernel
theorem dX9_valveAt_95 : decode cX9_valveAt 95 = .ok (.idiv, 1) := by decide +kernel
theorem dX9_valveAt_96 : decode cX9_valveAt 96 = .ok (.iadd, 1) := by decide +kernel
theorem dX9_valveAt_97 : decode cX9_valveAt 97 = .ok (.ireturn, 1) := by decide +kernel
theorem dX9_openBy_0 : decode cX9_openBy 0 = .ok (.bipush 12, 2) := by decide +kernel
theorem dX9_openBy_2 : decode cX9_openBy 2 = .ok (.iload_n 1, 1) := by decide +kernel
theorem dX9_openBy_3 : decode cX9_openBy 3 = .ok (.imul, 1) := by decide +kernel
theorem dX9_openBy_4 : decode cX9_openBy 4 = .ok (.istore 5, 2) := by decide +kernel
theorem dX9_openBy_6 : decode cX9_openBy 6 = .ok (.iload 4, 2) := by decide +kernel
theorem dX9_openBy_8 : decode cX9_openBy 8 = .ok (.ifCond .ne 26, 3) := by decide +kernel
theorem dX9_openBy_11 : decode cX9_openBy 11 = .ok (.iload_n 3, 1) := by decide +kernel
theorem dX9_openBy_12 : decode cX9_openBy 12 = .ok (.ifCond .ne 7, 3) := by decide +kernel
theorem dX9_openBy_15 : decode cX9_openBy 15 = .ok (.iload_n 2, 1) := by decide +kernel
theorem dX9_openBy_16 : decode cX9_openBy 16 = .ok (.goto 5, 3) := by decide +kernel
theorem dX9_openBy_19 : decode cX9_openBy 19 = .ok (.iload_n 2, 1) := by decide +kernel
theorem dX9_openBy_20 : decode cX9_openBy 20 = .ok (.ineg, 1) := by decide +kernel
theorem dX9_openBy_21 : decode cX9_openBy 21 = .ok (.aload_n 0, 1) := by decide +kernel
theorem dX9_openBy_22 : decode cX9_openBy 22 = .ok (.getfield 23, 3) := by decide +kernel
theorem dX9_openBy_25 : decode cX9_openBy 25 = .ok (.iload 5, 2) := by decide +kernel
theorem dX9_openBy_27 : decode cX9_openBy 27 = .ok (.iconst 4, 1) := by decide +kernel
theorem dX9_openBy_28 : decode cX9_openBy 28 = .ok (.iadd, 1) := by decide +kernel
theorem dX9_openBy_29 : decode cX9_openBy 29 = .ok (.iaload, 1) := by decide +kernel
theorem dX9_openBy_30 : decode cX9_openBy 30 = .ok (.isub, 1) := by decide +kernel
theorem dX9_openBy_31 : decode cX9_openBy 31 = .ok (.goto 23, 3) := by decide +kernel
theorem dX9_openBy_34 : decode cX9_openBy 34 = .ok (.iload_n 3, 1) := by decide +kernel
theorem dX9_openBy_35 : decode cX9_openBy 35 = .ok (.ifCond .ne 8, 3) := by decide +kernel
theorem dX9_openBy_38 : decode cX9_openBy 38 = .ok (.iload_n 2, 1) := by decide +kernel
theorem dX9_openBy_39 : decode cX9_openBy 39 = .ok (.ineg, 1) := by decide +kernel
theorem dX9_openBy_40 : decode cX9_openBy 40 = .ok (.goto 4, 3) := by decide +kernel
theorem dX9_openBy_43 : decode cX9_openBy 43 = .ok (.iload_n 2, 1) := by decide +kernel
theorem dX9_openBy_44 : decode cX9_openBy 44 = .ok (.aload_n 0, 1) := by decide +kernel
theorem dX9_openBy_45 : decode cX9_openBy 45 = .ok (.getfield 23, 3) := by decide +kernel
theorem dX9_openBy_48 : decode cX9_openBy 48 = .ok (.iload 5, 2) := by decide +kernel
theorem dX9_openBy_50 : decode cX9_openBy 50 = .ok (.iconst 5, 1) := by decide +kernel
theorem dX9_openBy_51 : decode cX9_openBy 51 = .ok (.iadd, 1) := by decide +kernel
theorem dX9_openBy_52 : decode cX9_openBy 52 = .ok (.iaload, 1) := by decide +kernel
theorem dX9_openBy_53 : decode cX9_openBy 53 = .ok (.isub, 1) := by decide +kernel
theorem dX9_openBy_54 : decode cX9_openBy 54 = .ok (.istore 6, 2) := by decide +kernel
theorem dX9_openBy_56 : decode cX9_openBy 56 = .ok (.iload 6, 2) := by decide +kernel
theorem dX9_openBy_58 : decode cX9_openBy 58 = .ok (.aload_n 0, 1) := by decide +kernel
theorem dX9_openBy_59 : decode cX9_openBy 59 = .ok (.getfield 23, 3) := by decide +kernel
theorem dX9_openBy_62 : decode cX9_openBy 62 = .ok (.iload 5, 2) := by decide +kernel
theorem dX9_openBy_64 : decode cX9_openBy 64 = .ok (.bipush 6, 2) := by decide +kernel
theorem dX9_openBy_66 : decode cX9_openBy 66 = .ok (.iadd, 1) := by decide +kernel
theorem dX9_openBy_67 : decode cX9_openBy 67 = .ok (.iaload, 1) := by decide +kernel
theorem dX9_openBy_68 : decode cX9_openBy 68 = .ok (.if_icmp .ge 8, 3) := by decide +kernel
theorem dX9_openBy_71 : decode cX9_openBy 71 = .ok (.iload 6, 2) := by decide +kernel
theorem dX9_openBy_73 : decode cX9_openBy 73 = .ok (.goto 13, 3) := by decide +kernel
theorem dX9_openBy_76 : decode cX9_openBy 76 = .ok (.aload_n 0, 1) := by decide +kernel
theorem dX9_openBy_77 : decode cX9_openBy 77 = .ok (.getfield 23, 3) := by decide +kernel
theorem dX9_openBy_80 : decode cX9_openBy 80 = .ok (.iload 5, 2) := by decide +kernel
theorem dX9_openBy_82 : decode cX9_openBy 82 = .ok (.bipush 6, 2) := by decide +kernel
theorem dX9_openBy_84 : decode cX9_openBy 84 = .ok (.iadd, 1) := by decide +kernel
theorem dX9_openBy_85 : decode cX9_openBy 85 = .ok (.iaload, 1) := by decide +kernel
theorem dX9_openBy_86 : decode cX9_openBy 86 = .ok (.istore 7, 2) := by decide +kernel
theorem dX9_openBy_88 : decode cX9_openBy 88 = .ok (.iload 7, 2) := by decide +kernel
theorem dX9_openBy_90 : decode cX9_openBy 90 = .ok (.ifCond .ge 7, 3) := by decide +kernel
theorem dX9_openBy_93 : decode cX9_openBy 93 = .ok (.iconst 0, 1) := by decide +kernel
theorem dX9_openBy_94 : decode cX9_openBy 94 = .ok (.goto 5, 3) := by decide +kernel
theorem dX9_openBy_97 : decode cX9_openBy 97 = .ok (.iload 7, 2) := by decide +kernel
theorem dX9_openBy_99 : decode cX9_openBy 99 = .ok (.ireturn, 1) := by decide +kernel
theorem dX9_openAt_0 : decode cX9_openAt 0 = .ok (.aload_n 0, 1) := by decide +kernel
theorem dX9_openAt_1 : decode cX9_openAt 1 = .ok (.iload_n 1, 1) := by decide +kernel
theorem dX9_openAt_2 : decode cX9_openAt 2 = .ok (.aload_n 0, 1) := by decide +kernel
theorem dX9_openAt_3 : decode cX9_openAt 3 = .ok (.iload_n 1, 1) := by decide +kernel
theorem dX9_openAt_4 : decode cX9_openAt 4 = .ok (.iload_n 2, 1) := by decide +kernel
theorem dX9_openAt_5 : decode cX9_openAt 5 = .ok (.iload 4, 2) := by decide +kernel
theorem dX9_openAt_7 : decode cX9_openAt 7 = .ok (.invokevirtual 146, 3) := by decide +kernel
theorem dX9_openAt_10 : decode cX9_openAt 10 = .ok (.iload_n 3, 1) := by decide +kernel
theorem dX9_openAt_11 : decode cX9_openAt 11 = .ok (.iload 5, 2) := by decide +kernel
theorem dX9_openAt_13 : decode cX9_openAt 13 = .ok (.invokevirtual 150, 3) := by decide +kernel
theorem dX9_openAt_16 : decode cX9_openAt 16 = .ok (.ireturn, 1) := by decide +kernel
theorem dX9_eventOf_0 : decode cX9_eventOf 0 = .ok (.iload 4, 2) := by decide +kernel
theorem dX9_eventOf_2 : decode cX9_eventOf 2 = .ok (.iconst 2, 1) := by decide +kernel
theorem dX9_eventOf_3 : decode cX9_eventOf 3 = .ok (.irem, 1) := by decide +kernel
theorem dX9_eventOf_4 : decode cX9_eventOf 4 = .ok (.ifCond .ne 7, 3) := by decide +kernel
theorem dX9_eventOf_7 : decode cX9_eventOf 7 = .ok (.iconst 1, 1) := by decide +kernel
theorem dX9_eventOf_8 : decode cX9_eventOf 8 = .ok (.goto 4, 3) := by decide +kernel
theorem dX9_eventOf_11 : decode cX9_eventOf 11 = .ok (.iconst 0, 1) := by decide +kernel
theorem dX9_eventOf_12 : decode cX9_eventOf 12 = .ok (.istore 5, 2) := by decide +kernel
theorem dX9_eventOf_14 : decode cX9_eventOf 14 = .ok (.iconst 0, 1) := by decide +kernel
theorem dX9_eventOf_15 : decode cX9_eventOf 15 = .ok (.istore 6, 2) := by decide +kernel
theorem dX9_eventOf_17 : decode cX9_eventOf 17 = .ok (.iload 6, 2) := by decide +kernel
theorem dX9_eventOf_19 : decode cX9_eventOf 19 = .ok (.bipush 48, 2) := by decide +kernel
theorem dX9_eventOf_21 : decode cX9_eventOf 21 = .ok (.if_icmp .ge 74, 3) := by decide +kernel
theorem dX9_eventOf_24 : decode cX9_eventOf 24 = .ok (.aload_n 0, 1) := by decide +kernel
theorem dX9_eventOf_25 : decode cX9_eventOf 25 = .ok (.iload_n 1, 1) := by decide +kernel
theorem dX9_eventOf_26 : decode cX9_eventOf 26 = .ok (.iload_n 2, 1) := by decide +kernel
theorem dX9_eventOf_27 : decode cX9_eventOf 27 = .ok (.iload_n 3, 1) := by decide +kernel
theorem dX9_eventOf_28 : decode cX9_eventOf 28 = .ok (.iload 6, 2) := by decide +kernel
theorem dX9_eventOf_30 : decode cX9_eventOf 30 = .ok (.iload 4, 2) := by decide +kernel
theorem dX9_eventOf_32 : decode cX9_eventOf 32 = .ok (.iconst 2, 1) := by decide +kernel
theorem dX9_eventOf_33 : decode cX9_eventOf 33 = .ok (.idiv, 1) := by decide +kernel
theorem dX9_eventOf_34 : decode cX9_eventOf 34 = .ok (.invokevirtual 154, 3) := by decide +kernel
theorem dX9_eventOf_37 : decode cX9_eventOf 37 = .ok (.ifCond .le 7, 3) := by decide +kernel
theorem dX9_eventOf_40 : decode cX9_eventOf 40 = .ok (.iconst 1, 1) := by decide +kernel
theorem dX9_eventOf_41 : decode cX9_eventOf 41 = .ok (.goto 4, 3) := by decide +kernel
theorem dX9_eventOf_44 : decode cX9_eventOf 44 = .ok (.iconst 0, 1) := by decide +kernel
theorem dX9_eventOf_45 : decode cX9_eventOf 45 = .ok (.istore 7, 2) := by decide +kernel
theorem dX9_eventOf_47 : decode cX9_eventOf 47 = .ok (.aload_n 0, 1) := by decide +kernel
theorem dX9_eventOf_48 : decode cX9_eventOf 48 = .ok (.iload_n 1, 1) := by decide +kernel
theorem dX9_eventOf_49 : decode cX9_eventOf 49 = .ok (.iload_n 2, 1) := by decide +kernel
theorem dX9_eventOf_50 : decode cX9_eventOf 50 = .ok (.iload_n 3, 1) := by decide +kernel
theorem dX9_eventOf_51 : decode cX9_eventOf 51 = .ok (.iload 6, 2) := by decide +kernel
theorem dX9_eventOf_53 : decode cX9_eventOf 53 = .ok (.iconst 1, 1) := by decide +kernel
theorem dX9_eventOf_54 : decode cX9_eventOf 54 = .ok (.isub, 1) := by decide +kernel
theorem dX9_eventOf_55 : decode cX9_eventOf 55 = .ok (.iload 4, 2) := by decide +kernel
theorem dX9_eventOf_57 : decode cX9_eventOf 57 = .ok (.iconst 2, 1) := by decide +kernel
theorem dX9_eventOf_58 : decode cX9_eventOf 58 = .ok (.idiv, 1) := by decide +kernel
theorem dX9_eventOf_59 : decode cX9_eventOf 59 = .ok (.invokevirtual 154, 3) := by decide +kernel
theorem dX9_eventOf_62 : decode cX9_eventOf 62 = .ok (.ifCond .le 7, 3) := by decide +kernel
theorem dX9_eventOf_65 : decode cX9_eventOf 65 = .ok (.iconst 1, 1) := by decide +kernel
theorem dX9_eventOf_66 : decode cX9_eventOf 66 = .ok (.goto 4, 3) := by decide +kernel
theorem dX9_eventOf_69 : decode cX9_eventOf 69 = .ok (.iconst 0, 1) := by decide +kernel
theorem dX9_eventOf_70 : decode cX9_eventOf 70 = .ok (.istore 8, 2) := by decide +kernel
theorem dX9_eventOf_72 : decode cX9_eventOf 72 = .ok (.iload 7, 2) := by decide +kernel
theorem dX9_eventOf_74 : decode cX9_eventOf 74 = .ok (.iload 5, 2) := by decide +kernel
theorem dX9_eventOf_76 : decode cX9_eventOf 76 = .ok (.if_icmp .ne 13, 3) := by decide +kernel
theorem dX9_eventOf_79 : decode cX9_eventOf 79 = .ok (.iload 8, 2) := by decide +kernel
theorem dX9_eventOf_81 : decode cX9_eventOf 81 = .ok (.iload 5, 2) := by decide +kernel
theorem dX9_eventOf_83 : decode cX9_eventOf 83 = .ok (.if_icmp .eq 6, 3) := by decide +kernel
theorem dX9_eventOf_86 : decode cX9_eventOf 86 = .ok (.iload 6, 2) := by decide +kernel
theorem dX9_eventOf_88 : decode cX9_eventOf 88 = .ok (.ireturn, 1) := by decide +kernel
theorem dX9_eventOf_89 : decode cX9_eventOf 89 = .ok (.iinc 6 1, 3) := by decide +kernel
theorem dX9_eventOf_92 : decode cX9_eventOf 92 = .ok (.goto (-75), 3) := by decide +kernel
theorem dX9_eventOf_95 : decode cX9_eventOf 95 = .ok (.ldc 158, 2) := by decide +kernel
theorem dX9_eventOf_97 : decode cX9_eventOf 97 = .ok (.ireturn, 1) := by decide +kernel
theorem dX9_isNotch_0 : decode cX9_isNotch 0 = .ok (.iload_n 0, 1) := by decide +kernel
theorem dX9_isNotch_1 : decode cX9_isNotch 1 = .ok (.i2l, 1) := by decide +kernel
theorem dX9_isNotch_2 : decode cX9_isNotch 2 = .ok (.ldc2_w 159, 3) := by decide +kernel
theorem dX9_isNotch_5 : decode cX9_isNotch 5 = .ok (.ldc2_w 161, 3) := by decide +kernel
theorem dX9_isNotch_8 : decode cX9_isNotch 8 = .ok (.invokestatic 81, 3) := by decide +kernel
theorem dX9_isNotch_11 : decode cX9_isNotch 11 = .ok (.ireturn, 1) := by decide +kernel
theorem dX9_piston_0 : decode cX9_piston 0 = .ok (.aload_n 0, 1) := by decide +kernel
theorem dX9_piston_1 : decode cX9_piston 1 = .ok (.iconst 0, 1) := by decide +kernel
theorem dX9_piston_2 : decode cX9_piston 2 = .ok (.putfield 71, 3) := by decide +kernel
theorem dX9_piston_5 : decode cX9_piston 5 = .ok (.iload_n 1, 1) := by decide +kernel
theorem dX9_piston_6 : decode cX9_piston 6 = .ok (.invokestatic 116, 3) := by decide +kernel
theorem dX9_piston_9 : decode cX9_piston 9 = .ok (.ifCond .eq 17, 3) := by decide +kernel
theorem dX9_piston_12 : decode cX9_piston 12 = .ok (.iload_n 2, 1) := by decide +kernel
theorem dX9_piston_13 : decode cX9_piston 13 = .ok (.i2l, 1) := by decide +kernel
theorem dX9_piston_14 : decode cX9_piston 14 = .ok (.ldc2_w 163, 3) := by decide +kernel
theorem dX9_piston_17 : decode cX9_piston 17 = .ok (.ldc2_w 165, 3) := by decide +kernel
theorem dX9_piston_20 : decode cX9_piston 20 = .ok (.invokestatic 81, 3) := by decide +kernel
theorem dX9_piston_23 : decode cX9_piston 23 = .ok (.ifCond .ne 6, 3) := by decide +kernel
theorem dX9_piston_26 : decode cX9_piston 26 = .ok (.ldc 91, 2) := by decide +kernel
theorem dX9_piston_28 : decode cX9_piston 28 = .ok (.ireturn, 1) := by decide +kernel
theorem dX9_piston_29 : decode cX9_piston 29 = .ok (.aload_n 0, 1) := by decide +kernel
theorem dX9_piston_30 : decode cX9_piston 30 = .ok (.iload_n 1, 1) := by decide +kernel
theorem dX9_piston_31 : decode cX9_piston 31 = .ok (.invokevirtual 123, 3) := by decide +kernel
theorem dX9_piston_34 : decode cX9_piston 34 = .ok (.istore_n 3, 1) := by decide +kernel
theorem dX9_piston_35 : decode cX9_piston 35 = .ok (.iload_n 3, 1) := by decide +kernel
theorem dX9_piston_36 : decode cX9_piston 36 = .ok (.ifCond .ge 7, 3) := by decide +kernel
theorem dX9_piston_39 : decode cX9_piston 39 = .ok (.iload_n 3, 1) := by decide +kernel
theorem dX9_piston_40 : decode cX9_piston 40 = .ok (.goto 9, 3) := by decide +kernel
theorem dX9_piston_43 : decode cX9_piston 43 = .ok (.aload_n 0, 1) := by decide +kernel
theorem dX9_piston_44 : decode cX9_piston 44 = .ok (.iload_n 1, 1) := by decide +kernel
theorem dX9_piston_45 : decode cX9_piston 45 = .ok (.iload_n 2, 1) := by decide +kernel
theorem dX9_piston_46 : decode cX9_piston 46 = .ok (.invokevirtual 167, 3) := by decide +kernel
theorem dX9_piston_49 : decode cX9_piston 49 = .ok (.ireturn, 1) := by decide +kernel
theorem dX9_valve_0 : decode cX9_valve 0 = .ok (.aload_n 0, 1) := by decide +kernel
theorem dX9_valve_1 : decode cX9_valve 1 = .ok (.iconst 0, 1) := by decide +kernel
theorem dX9_valve_2 : decode cX9_valve 2 = .ok (.putfield 71, 3) := by decide +kernel
theorem dX9_valve_5 : decode cX9_valve 5 = .ok (.iload_n 1, 1) := by decide +kernel
theorem dX9_valve_6 : decode cX9_valve 6 = .ok (.invokestatic 116, 3) := by decide +kernel
theorem dX9_valve_9 : decode cX9_valve 9 = .ok (.ifCond .eq 24, 3) := by decide +kernel
theorem dX9_valve_12 : decode cX9_valve 12 = .ok (.iload_n 2, 1) := by decide +kernel
theorem dX9_valve_13 : decode cX9_valve 13 = .ok (.invokestatic 171, 3) := by decide +kernel
theorem dX9_valve_16 : decode cX9_valve 16 = .ok (.ifCond .eq 17, 3) := by decide +kernel
theorem dX9_valve_19 : decode cX9_valve 19 = .ok (.iload_n 3, 1) := by decide +kernel
theorem dX9_valve_20 : decode cX9_valve 20 = .ok (.i2l, 1) := by decide +kernel
theorem dX9_valve_21 : decode cX9_valve 21 = .ok (.ldc2_w 163, 3) := by decide +kernel
theorem dX9_valve_24 : decode cX9_valve 24 = .ok (.ldc2_w 165, 3) := by decide +kernel
theorem dX9_valve_27 : decode cX9_valve 27 = .ok (.invokestatic 81, 3) := by decide +kernel
theorem dX9_valve_30 : decode cX9_valve 30 = .ok (.ifCond .ne 6, 3) := by decide +kernel
theorem dX9_valve_33 : decode cX9_valve 33 = .ok (.ldc 91, 2) := by decide +kernel
theorem dX9_valve_35 : decode cX9_valve 35 = .ok (.ireturn, 1) := by decide +kernel
theorem dX9_valve_36 : decode cX9_valve 36 = .ok (.aload_n 0, 1) := by decide +kernel
theorem dX9_valve_37 : decode cX9_valve 37 = .ok (.iload_n 1, 1) := by decide +kernel
theorem dX9_valve_38 : decode cX9_valve 38 = .ok (.invokevirtual 123, 3) := by decide +kernel
theorem dX9_valve_41 : decode cX9_valve 41 = .ok (.istore 4, 2) := by decide +kernel
theorem dX9_valve_43 : decode cX9_valve 43 = .ok (.iload 4, 2) := by decide +kernel
theorem dX9_valve_45 : decode cX9_valve 45 = .ok (.ifCond .ge 8, 3) := by decide +kernel
theorem dX9_valve_48 : decode cX9_valve 48 = .ok (.iload 4, 2) := by decide +kernel
theorem dX9_valve_50 : decode cX9_valve 50 = .ok (.goto 10, 3) := by decide +kernel
theorem dX9_valve_53 : decode cX9_valve 53 = .ok (.aload_n 0, 1) := by decide +kernel
theorem dX9_valve_54 : decode cX9_valve 54 = .ok (.iload_n 1, 1) := by decide +kernel
theorem dX9_valve_55 : decode cX9_valve 55 = .ok (.iload_n 2, 1) := by decide +kernel
theorem dX9_valve_56 : decode cX9_valve 56 = .ok (.iload_n 3, 1) := by decide +kernel
theorem dX9_valve_57 : decode cX9_valve 57 = .ok (.invokevirtual 146, 3) := by decide +kernel
theorem dX9_valve_60 : decode cX9_valve 60 = .ok (.ireturn, 1) := by decide +kernel
theorem dX9_open_0 : decode cX9_open 0 = .ok (.aload_n 0, 1) := by decide +kernel
theorem dX9_open_1 : decode cX9_open 1 = .ok (.iconst 0, 1) := by decide +kernel
theorem dX9_open_2 : decode cX9_open 2 = .ok (.putfield 71, 3) := by decide +kernel
theorem dX9_open_5 : decode cX9_open 5 = .ok (.iload_n 1, 1) := by decide +kernel
theorem dX9_open_6 : decode cX9_open 6 = .ok (.invokestatic 116, 3) := by decide +kernel
theorem dX9_open_9 : decode cX9_open 9 = .ok (.ifCond .eq 46, 3) := by decide +kernel
theorem dX9_open_12 : decode cX9_open 12 = .ok (.iload_n 2, 1) := by decide +kernel
theorem dX9_open_13 : decode cX9_open 13 = .ok (.invokestatic 171, 3) := by decide +kernel
theorem dX9_open_16 : decode cX9_open 16 = .ok (.ifCond .eq 39, 3) := by decide +kernel
theorem dX9_open_19 : decode cX9_open 19 = .ok (.iload_n 3, 1) := by decide +kernel
theorem dX9_open_20 : decode cX9_open 20 = .ok (.i2l, 1) := by decide +kernel
theorem dX9_open_21 : decode cX9_open 21 = .ok (.lconst 0, 1) := by decide +kernel
theorem dX9_open_22 : decode cX9_open 22 = .ok (.lconst 1, 1) := by decide +kernel
theorem dX9_open_23 : decode cX9_open 23 = .ok (.invokestatic 81, 3) := by decide +kernel
theorem dX9_open_26 : decode cX9_open 26 = .ok (.ifCond .eq 29, 3) := by decide +kernel
theorem dX9_open_29 : decode cX9_open 29 = .ok (.iload 4, 2) := by decide +kernel
theorem dX9_open_31 : decode cX9_open 31 = .ok (.i2l, 1) := by decide +kernel
theorem dX9_open_32 : decode cX9_open 32 = .ok (.ldc2_w 163, 3) := by decide +kernel
theorem dX9_open_35 : decode cX9_open 35 = .ok (.ldc2_w 165, 3) := by decide +kernel
theorem dX9_open_38 : decode cX9_open 38 = .ok (.invokestatic 81, 3) := by decide +kernel
theorem dX9_open_41 : decode cX9_open 41 = .ok (.ifCond .eq 14, 3) := by decide +kernel
theorem dX9_open_44 : decode cX9_open 44 = .ok (.iload 5, 2) := by decide +kernel
theorem dX9_open_46 : decode cX9_open 46 = .ok (.i2l, 1) := by decide +kernel
theorem dX9_open_47 : decode cX9_open 47 = .ok (.lconst 0, 1) := by decide +kernel
theorem dX9_open_48 : decode cX9_open 48 = .ok (.lconst 1, 1) := by decide +kernel
theorem dX9_open_49 : decode cX9_open 49 = .ok (.invokestatic 81, 3) := by decide +kernel
theorem dX9_open_52 : decode cX9_open 52 = .ok (.ifCond .ne 6, 3) := by decide +kernel
theorem dX9_open_55 : decode cX9_open 55 = .ok (.ldc 91, 2) := by decide +kernel
theorem dX9_open_57 : decode cX9_open 57 = .ok (.ireturn, 1) := by decide +kernel
theorem dX9_open_58 : decode cX9_open 58 = .ok (.aload_n 0, 1) := by decide +kernel
theorem dX9_open_59 : decode cX9_open 59 = .ok (.iload_n 1, 1) := by decide +kernel
theorem dX9_open_60 : decode cX9_open 60 = .ok (.invokevirtual 123, 3) := by decide +kernel
theorem dX9_open_63 : decode cX9_open 63 = .ok (.istore 6, 2) := by decide +kernel
theorem dX9_open_65 : decode cX9_open 65 = .ok (.iload 6, 2) := by decide +kernel
theorem dX9_open_67 : decode cX9_open 67 = .ok (.ifCond .ge 8, 3) := by decide +kernel
theorem dX9_open_70 : decode cX9_open 70 = .ok (.iload 6, 2) := by decide +kernel
theorem dX9_open_72 : decode cX9_open 72 = .ok (.goto 14, 3) := by decide +kernel
theorem dX9_open_75 : decode cX9_open 75 = .ok (.aload_n 0, 1) := by decide +kernel
theorem dX9_open_76 : decode cX9_open 76 = .ok (.iload_n 1, 1) := by decide +kernel
theorem dX9_open_77 : decode cX9_open 77 = .ok (.iload_n 2, 1) := by decide +kernel
theorem dX9_open_78 : decode cX9_open 78 = .ok (.iload_n 3, 1) := by decide +kernel
theorem dX9_open_79 : decode cX9_open 79 = .ok (.iload 4, 2) := by decide +kernel
theorem dX9_open_81 : decode cX9_open 81 = .ok (.iload 5, 2) := by decide +kernel
theorem dX9_open_83 : decode cX9_open 83 = .ok (.invokevirtual 154, 3) := by decide +kernel
theorem dX9_open_86 : decode cX9_open 86 = .ok (.ireturn, 1) := by decide +kernel
theorem dX9_event_0 : decode cX9_event 0 = .ok (.aload_n 0, 1) := by decide +kernel
theorem dX9_event_1 : decode cX9_event 1 = .ok (.iconst 0, 1) := by decide +kernel
theorem dX9_event_2 : decode cX9_event 2 = .ok (.putfield 71, 3) := by decide +kernel
theorem dX9_event_5 : decode cX9_event 5 = .ok (.iload_n 1, 1) := by decide +kernel
theorem dX9_event_6 : decode cX9_event 6 = .ok (.invokestatic 116, 3) := by decide +kernel
theorem dX9_event_9 : decode cX9_event 9 = .ok (.ifCond .eq 33, 3) := by decide +kernel
theorem dX9_event_12 : decode cX9_event 12 = .ok (.iload_n 2, 1) := by decide +kernel
theorem dX9_event_13 : decode cX9_event 13 = .ok (.invokestatic 171, 3) := by decide +kernel
theorem dX9_event_16 : decode cX9_event 16 = .ok (.ifCond .eq 26, 3) := by decide +kernel
theorem dX9_event_19 : decode cX9_event 19 = .ok (.iload_n 3, 1) := by decide +kernel
theorem dX9_event_20 : decode cX9_event 20 = .ok (.i2l, 1) := by decide +kernel
theorem dX9_event_21 : decode cX9_event 21 = .ok (.lconst 0, 1) := by decide +kernel
theorem dX9_event_22 : decode cX9_event 22 = .ok (.lconst 1, 1) := by decide +kernel
theorem dX9_event_23 : decode cX9_event 23 = .ok (.invokestatic 81, 3) := by decide +kernel
theorem dX9_event_26 : decode cX9_event 26 = .ok (.ifCond .eq 16, 3) := by decide +kernel
theorem dX9_event_29 : decode cX9_event 29 = .ok (.iload 4, 2) := by decide +kernel
theorem dX9_event_31 : decode cX9_event 31 = .ok (.i2l, 1) := by decide +kernel
theorem dX9_event_32 : decode cX9_event 32 = .ok (.lconst 0, 1) := by decide +kernel
theorem dX9_event_33 : decode cX9_event 33 = .ok (.ldc2_w 174, 3) := by decide +kernel
theorem dX9_event_36 : decode cX9_event 36 = .ok (.invokestatic 81, 3) := by decide +kernel
theorem dX9_event_39 : decode cX9_event 39 = .ok (.ifCond .ne 6, 3) := by decide +kernel
theorem dX9_event_42 : decode cX9_event 42 = .ok (.ldc 91, 2) := by decide +kernel
theorem dX9_event_44 : decode cX9_event 44 = .ok (.ireturn, 1) := by decide +kernel
theorem dX9_event_45 : decode cX9_event 45 = .ok (.aload_n 0, 1) := by decide +kernel
theorem dX9_event_46 : decode cX9_event 46 = .ok (.iload_n 1, 1) := by decide +kernel
theorem dX9_event_47 : decode cX9_event 47 = .ok (.invokevirtual 123, 3) := by decide +kernel
theorem dX9_event_50 : decode cX9_event 50 = .ok (.istore 5, 2) := by decide +kernel
theorem dX9_event_52 : decode cX9_event 52 = .ok (.iload 5, 2) := by decide +kernel
theorem dX9_event_54 : decode cX9_event 54 = .ok (.ifCond .ge 8, 3) := by decide +kernel
theorem dX9_event_57 : decode cX9_event 57 = .ok (.iload 5, 2) := by decide +kernel
theorem dX9_event_59 : decode cX9_event 59 = .ok (.goto 12, 3) := by decide +kernel
theorem dX9_event_62 : decode cX9_event 62 = .ok (.aload_n 0, 1) := by decide +kernel
theorem dX9_event_63 : decode cX9_event 63 = .ok (.iload_n 1, 1) := by decide +kernel
theorem dX9_event_64 : decode cX9_event 64 = .ok (.iload_n 2, 1) := by decide +kernel
theorem dX9_event_65 : decode cX9_event 65 = .ok (.iload_n 3, 1) := by decide +kernel
theorem dX9_event_66 : decode cX9_event 66 = .ok (.iload 4, 2) := by decide +kernel
theorem dX9_event_68 : decode cX9_event 68 = .ok (.invokevirtual 176, 3) := by decide +kernel
theorem dX9_event_71 : decode cX9_event 71 = .ok (.ireturn, 1) := by decide +kernel
theorem dX9_unlike_0 : decode cX9_unlike 0 = .ok (.iconst 0, 1) := by decide +kernel
theorem dX9_unlike_1 : decode cX9_unlike 1 = .ok (.istore_n 2, 1) := by decide +kernel
theorem dX9_unlike_2 : decode cX9_unlike 2 = .ok (.iconst 1, 1) := by decide +kernel
theorem dX9_unlike_3 : decode cX9_unlike 3 = .ok (.istore_n 3, 1) := by decide +kernel
theorem dX9_unlike_4 : decode cX9_unlike 4 = .ok (.iload_n 3, 1) := by decide +kernel
theorem dX9_unlike_5 : decode cX9_unlike 5 = .ok (.bipush 7, 2) := by decide +kernel
theorem dX9_unlike_7 : decode cX9_unlike 7 = .ok (.if_icmp .ge 81, 3) := by decide +kernel
theorem dX9_unlike_10 : decode cX9_unlike 10 = .ok (.aload_n 0, 1) := by decide +kernel
theorem dX9_unlike_11 : decode cX9_unlike 11 = .ok (.iload_n 1, 1) := by decide +kernel
theorem dX9_unlike_12 : decode cX9_unlike 12 = .ok (.iload_n 3, 1) := by decide +kernel
theorem dX9_unlike_13 : decode cX9_unlike 13 = .ok (.iconst 0, 1) := by decide +kernel
theorem dX9_unlike_14 : decode cX9_unlike 14 = .ok (.iconst 1, 1) := by decide +kernel
theorem dX9_unlike_15 : decode cX9_unlike 15 = .ok (.invokevirtual 176, 3) := by decide +kernel
theorem dX9_unlike_18 : decode cX9_unlike 18 = .ok (.istore 4, 2) := by decide +kernel
theorem dX9_unlike_20 : decode cX9_unlike 20 = .ok (.aload_n 0, 1) := by decide +kernel
theorem dX9_unlike_21 : decode cX9_unlike 21 = .ok (.iload_n 1, 1) := by decide +kernel
theorem dX9_unlike_22 : decode cX9_unlike 22 = .ok (.iload_n 3, 1) := by decide +kernel
theorem dX9_unlike_23 : decode cX9_unlike 23 = .ok (.iconst 1, 1) := by decide +kernel
theorem dX9_unlike_24 : decode cX9_unlike 24 = .ok (.iconst 1, 1) := by decide +kernel
theorem dX9_unlike_25 : decode cX9_unlike 25 = .ok (.invokevirtual 176, 3) := by decide +kernel
theorem dX9_unlike_28 : decode cX9_unlike 28 = .ok (.istore 5, 2) := by decide +kernel
theorem dX9_unlike_30 : decode cX9_unlike 30 = .ok (.iload 4, 2) := by decide +kernel
theorem dX9_unlike_32 : decode cX9_unlike 32 = .ok (.ldc 158, 2) := by decide +kernel
theorem dX9_unlike_34 : decode cX9_unlike 34 = .ok (.if_icmp .eq 10, 3) := by decide +kernel
theorem dX9_unlike_37 : decode cX9_unlike 37 = .ok (.iload 5, 2) := by decide +kernel
theorem dX9_unlike_39 : decode cX9_unlike 39 = .ok (.ldc 158, 2) := by decide +kernel
theorem dX9_unlike_41 : decode cX9_unlike 41 = .ok (.if_icmp .ne 8, 3) := by decide +kernel
theorem dX9_unlike_44 : decode cX9_unlike 44 = .ok (.bipush 24, 2) := by decide +kernel
theorem dX9_unlike_46 : decode cX9_unlike 46 = .ok (.goto 14, 3) := by decide +kernel
theorem dX9_unlike_49 : decode cX9_unlike 49 = .ok (.iload 5, 2) := by decide +kernel
theorem dX9_unlike_51 : decode cX9_unlike 51 = .ok (.iload 4, 2) := by decide +kernel
theorem dX9_unlike_53 : decode cX9_unlike 53 = .ok (.isub, 1) := by decide +kernel
theorem dX9_unlike_54 : decode cX9_unlike 54 = .ok (.bipush 24, 2) := by decide +kernel
theorem dX9_unlike_56 : decode cX9_unlike 56 = .ok (.isub, 1) := by decide +kernel
theorem dX9_unlike_57 : decode cX9_unlike 57 = .ok (.invokestatic 132, 3) := by decide +kernel
theorem dX9_unlike_60 : decode cX9_unlike 60 = .ok (.istore 6, 2) := by decide +kernel
theorem dX9_unlike_62 : decode cX9_unlike 62 = .ok (.iload_n 2, 1) := by decide +kernel
theorem dX9_unlike_63 : decode cX9_unlike 63 = .ok (.iload 6, 2) := by decide +kernel
theorem dX9_unlike_65 : decode cX9_unlike 65 = .ok (.bipush 24, 2) := by decide +kernel
theorem dX9_unlike_67 : decode cX9_unlike 67 = .ok (.if_icmp .le 11, 3) := by decide +kernel
theorem dX9_unlike_70 : decode cX9_unlike 70 = .ok (.bipush 48, 2) := by decide +kernel
theorem dX9_unlike_72 : decode cX9_unlike 72 = .ok (.iload 6, 2) := by decide +kernel
theorem dX9_unlike_74 : decode cX9_unlike 74 = .ok (.isub, 1) := by decide +kernel
theorem dX9_unlike_75 : decode cX9_unlike 75 = .ok (.goto 5, 3) := by decide +kernel
theorem dX9_unlike_78 : decode cX9_unlike 78 = .ok (.iload 6, 2) := by decide +kernel
theorem dX9_unlike_80 : decode cX9_unlike 80 = .ok (.iadd, 1) := by decide +kernel
theorem dX9_unlike_81 : decode cX9_unlike 81 = .ok (.istore_n 2, 1) := by decide +kernel
theorem dX9_unlike_82 : decode cX9_unlike 82 = .ok (.iinc 3 1, 3) := by decide +kernel
theorem dX9_unlike_85 : decode cX9_unlike 85 = .ok (.goto (-81), 3) := by decide +kernel
theorem dX9_unlike_88 : decode cX9_unlike 88 = .ok (.iload_n 2, 1) := by decide +kernel
theorem dX9_unlike_89 : decode cX9_unlike 89 = .ok (.ireturn, 1) := by decide +kernel
theorem dX9_leadOf_0 : decode cX9_leadOf 0 = .ok (.aload_n 0, 1) := by decide +kernel
theorem dX9_leadOf_1 : decode cX9_leadOf 1 = .ok (.iload_n 1, 1) := by decide +kernel
theorem dX9_leadOf_2 : decode cX9_leadOf 2 = .ok (.bipush 6, 2) := by decide +kernel
theorem dX9_leadOf_4 : decode cX9_leadOf 4 = .ok (.iconst 0, 1) := by decide +kernel
theorem dX9_leadOf_5 : decode cX9_leadOf 5 = .ok (.iconst 0, 1) := by decide +kernel
theorem dX9_leadOf_6 : decode cX9_leadOf 6 = .ok (.iconst 0, 1) := by decide +kernel
theorem dX9_leadOf_7 : decode cX9_leadOf 7 = .ok (.invokevirtual 154, 3) := by decide +kernel
theorem dX9_leadOf_10 : decode cX9_leadOf 10 = .ok (.ireturn, 1) := by decide +kernel
theorem dX9_valves_0 : decode cX9_valves 0 = .ok (.aload_n 0, 1) := by decide +kernel
theorem dX9_valves_1 : decode cX9_valves 1 = .ok (.iconst 0, 1) := by decide +kernel
theorem dX9_valves_2 : decode cX9_valves 2 = .ok (.putfield 71, 3) := by decide +kernel
theorem dX9_valves_5 : decode cX9_valves 5 = .ok (.iload_n 1, 1) := by decide +kernel
theorem dX9_valves_6 : decode cX9_valves 6 = .ok (.invokestatic 116, 3) := by decide +kernel
theorem dX9_valves_9 : decode cX9_valves 9 = .ok (.ifCond .eq 13, 3) := by decide +kernel
theorem dX9_valves_12 : decode cX9_valves 12 = .ok (.iload_n 2, 1) := by decide +kernel
theorem dX9_valves_13 : decode cX9_valves 13 = .ok (.i2l, 1) := by decide +kernel
theorem dX9_valves_14 : decode cX9_valves 14 = .ok (.lconst 0, 1) := by decide +kernel
theorem dX9_valves_15 : decode cX9_valves 15 = .ok (.lconst 1, 1) := by decide +kernel
theorem dX9_valves_16 : decode cX9_valves 16 = .ok (.invokestatic 81, 3) := by decide +kernel
theorem dX9_valves_19 : decode cX9_valves 19 = .ok (.ifCond .ne 6, 3) := by decide +kernel
theorem dX9_valves_22 : decode cX9_valves 22 = .ok (.ldc 91, 2) := by decide +kernel
theorem dX9_valves_24 : decode cX9_valves 24 = .ok (.ireturn, 1) := by decide +kernel
theorem dX9_valves_25 : decode cX9_valves 25 = .ok (.aload_n 0, 1) := by decide +kernel
theorem dX9_valves_26 : decode cX9_valves 26 = .ok (.iload_n 1, 1) := by decide +kernel
theorem dX9_valves_27 : decode cX9_valves 27 = .ok (.invokevirtual 123, 3) := by decide +kernel
theorem dX9_valves_30 : decode cX9_valves 30 = .ok (.istore_n 3, 1) := by decide +kernel
theorem dX9_valves_31 : decode cX9_valves 31 = .ok (.iload_n 3, 1) := by decide +kernel
theorem dX9_valves_32 : decode cX9_valves 32 = .ok (.ifCond .ge 7, 3) := by decide +kernel
theorem dX9_valves_35 : decode cX9_valves 35 = .ok (.iload_n 3, 1) := by decide +kernel
theorem dX9_valves_36 : decode cX9_valves 36 = .ok (.goto 20, 3) := by decide +kernel
theorem dX9_valves_39 : decode cX9_valves 39 = .ok (.iload_n 2, 1) := by decide +kernel
theorem dX9_valves_40 : decode cX9_valves 40 = .ok (.ifCond .ne 11, 3) := by decide +kernel
theorem dX9_valves_43 : decode cX9_valves 43 = .ok (.aload_n 0, 1) := by decide +kernel
theorem dX9_valves_44 : decode cX9_valves 44 = .ok (.iload_n 1, 1) := by decide +kernel
theorem dX9_valves_45 : decode cX9_valves 45 = .ok (.invokevirtual 179, 3) := by decide +kernel
theorem dX9_valves_48 : decode cX9_valves 48 = .ok (.goto 8, 3) := by decide +kernel
theorem dX9_valves_51 : decode cX9_valves 51 = .ok (.aload_n 0, 1) := by decide +kernel
theorem dX9_valves_52 : decode cX9_valves 52 = .ok (.iload_n 1, 1) := by decide +kernel
theorem dX9_valves_53 : decode cX9_valves 53 = .ok (.invokevirtual 182, 3) := by decide +kernel
theorem dX9_valves_56 : decode cX9_valves 56 = .ok (.ireturn, 1) := by decide +kernel
theorem dX9_settle_0 : decode cX9_settle 0 = .ok (.aload_n 0, 1) := by decide +kernel
theorem dX9_settle_1 : decode cX9_settle 1 = .ok (.bipush 6, 2) := by decide +kernel
theorem dX9_settle_3 : decode cX9_settle 3 = .ok (.iload_n 1, 1) := by decide +kernel
theorem dX9_settle_4 : decode cX9_settle 4 = .ok (.invokevirtual 128, 3) := by decide +kernel
theorem dX9_settle_7 : decode cX9_settle 7 = .ok (.ldc 158, 2) := by decide +kernel
theorem dX9_settle_9 : decode cX9_settle 9 = .ok (.istore_n 2, 1) := by decide +kernel
theorem dX9_settle_10 : decode cX9_settle 10 = .ok (.iconst 0, 1) := by decide +kernel
theorem dX9_settle_11 : decode cX9_settle 11 = .ok (.istore_n 3, 1) := by decide +kernel
theorem dX9_settle_12 : decode cX9_settle 12 = .ok (.iload_n 3, 1) := by decide +kernel
theorem dX9_settle_13 : decode cX9_settle 13 = .ok (.bipush 12, 2) := by decide +kernel
theorem dX9_settle_15 : decode cX9_settle 15 = .ok (.if_icmp .ge 77, 3) := by decide +kernel
theorem dX9_settle_18 : decode cX9_settle 18 = .ok (.bipush (-20), 2) := by decide +kernel
theorem dX9_settle_20 : decode cX9_settle 20 = .ok (.istore 4, 2) := by decide +kernel
theorem dX9_settle_22 : decode cX9_settle 22 = .ok (.iload 4, 2) := by decide +kernel
theorem dX9_settle_24 : decode cX9_settle 24 = .ok (.bipush 21, 2) := by decide +kernel
theorem dX9_settle_26 : decode cX9_settle 26 = .ok (.if_icmp .ge 60, 3) := by decide +kernel
theorem dX9_settle_29 : decode cX9_settle 29 = .ok (.aload_n 0, 1) := by decide +kernel
theorem dX9_settle_30 : decode cX9_settle 30 = .ok (.getfield 23, 3) := by decide +kernel
theorem dX9_settle_33 : decode cX9_settle 33 = .ok (.bipush 74, 2) := by decide +kernel
theorem dX9_settle_35 : decode cX9_settle 35 = .ok (.iload_n 3, 1) := by decide +kernel
theorem dX9_settle_36 : decode cX9_settle 36 = .ok (.iastore, 1) := by decide +kernel
theorem dX9_settle_37 : decode cX9_settle 37 = .ok (.aload_n 0, 1) := by decide +kernel
theorem dX9_settle_38 : decode cX9_settle 38 = .ok (.getfield 23, 3) := by decide +kernel
theorem dX9_settle_41 : decode cX9_settle 41 = .ok (.bipush 75, 2) := by decide +kernel
theorem dX9_settle_43 : decode cX9_settle 43 = .ok (.iload 4, 2) := by decide +kernel
theorem dX9_settle_45 : decode cX9_settle 45 = .ok (.iastore, 1) := by decide +kernel
theorem dX9_settle_46 : decode cX9_settle 46 = .ok (.aload_n 0, 1) := by decide +kernel
theorem dX9_settle_47 : decode cX9_settle 47 = .ok (.bipush 6, 2) := by decide +kernel
theorem dX9_settle_49 : decode cX9_settle 49 = .ok (.invokevirtual 179, 3) := by decide +kernel
theorem dX9_settle_52 : decode cX9_settle 52 = .ok (.istore 5, 2) := by decide +kernel
theorem dX9_settle_54 : decode cX9_settle 54 = .ok (.iload_n 2, 1) := by decide +kernel
theorem dX9_settle_55 : decode cX9_settle 55 = .ok (.ldc 158, 2) := by decide +kernel
theorem dX9_settle_57 : decode cX9_settle 57 = .ok (.if_icmp .eq 9, 3) := by decide +kernel
theorem dX9_settle_60 : decode cX9_settle 60 = .ok (.iload 5, 2) := by decide +kernel
theorem dX9_settle_62 : decode cX9_settle 62 = .ok (.iload_n 2, 1) := by decide +kernel
theorem dX9_settle_63 : decode cX9_settle 63 = .ok (.if_icmp .ge 17, 3) := by decide +kernel
theorem dX9_settle_66 : decode cX9_settle 66 = .ok (.iload 5, 2) := by decide +kernel
theorem dX9_settle_68 : decode cX9_settle 68 = .ok (.istore_n 2, 1) := by decide +kernel
theorem dX9_settle_69 : decode cX9_settle 69 = .ok (.aload_n 0, 1) := by decide +kernel
theorem dX9_settle_70 : decode cX9_settle 70 = .ok (.iload_n 3, 1) := by decide +kernel
theorem dX9_settle_71 : decode cX9_settle 71 = .ok (.putfield 185, 3) := by decide +kernel
theorem dX9_settle_74 : decode cX9_settle 74 = .ok (.aload_n 0, 1) := by decide +kernel
theorem dX9_settle_75 : decode cX9_settle 75 = .ok (.iload 4, 2) := by decide +kernel
theorem dX9_settle_77 : decode cX9_settle 77 = .ok (.putfield 188, 3) := by decide +kernel
theorem dX9_settle_80 : decode cX9_settle 80 = .ok (.iinc 4 1, 3) := by decide +kernel
theorem dX9_settle_83 : decode cX9_settle 83 = .ok (.goto (-61), 3) := by decide +kernel
theorem dX9_settle_86 : decode cX9_settle 86 = .ok (.iinc 3 1, 3) := by decide +kernel
theorem dX9_settle_89 : decode cX9_settle 89 = .ok (.goto (-77), 3) := by decide +kernel
theorem dX9_settle_92 : decode cX9_settle 92 = .ok (.iload_n 2, 1) := by decide +kernel
theorem dX9_settle_93 : decode cX9_settle 93 = .ok (.ireturn, 1) := by decide +kernel
theorem dX9_setting_0 : decode cX9_setting 0 = .ok (.aload_n 0, 1) := by decide +kernel
theorem dX9_setting_1 : decode cX9_setting 1 = .ok (.iconst 0, 1) := by decide +kernel
theorem dX9_setting_2 : decode cX9_setting 2 = .ok (.putfield 71, 3) := by decide +kernel
theorem dX9_setting_5 : decode cX9_setting 5 = .ok (.iload_n 1, 1) := by decide +kernel
theorem dX9_setting_6 : decode cX9_setting 6 = .ok (.invokestatic 116, 3) := by decide +kernel
theorem dX9_setting_9 : decode cX9_setting 9 = .ok (.ifCond .eq 15, 3) := by decide +kernel
theorem dX9_setting_12 : decode cX9_setting 12 = .ok (.iload_n 2, 1) := by decide +kernel
theorem dX9_setting_13 : decode cX9_setting 13 = .ok (.i2l, 1) := by decide +kernel
theorem dX9_setting_14 : decode cX9_setting 14 = .ok (.lconst 0, 1) := by decide +kernel
theorem dX9_setting_15 : decode cX9_setting 15 = .ok (.ldc2_w 89, 3) := by decide +kernel
theorem dX9_setting_18 : decode cX9_setting 18 = .ok (.invokestatic 81, 3) := by decide +kernel
theorem dX9_setting_21 : decode cX9_setting 21 = .ok (.ifCond .ne 6, 3) := by decide +kernel
theorem dX9_setting_24 : decode cX9_setting 24 = .ok (.ldc 91, 2) := by decide +kernel
theorem dX9_setting_26 : decode cX9_setting 26 = .ok (.ireturn, 1) := by decide +kernel
theorem dX9_setting_27 : decode cX9_setting 27 = .ok (.aload_n 0, 1) := by decide +kernel
theorem dX9_setting_28 : decode cX9_setting 28 = .ok (.iload_n 1, 1) := by decide +kernel
theorem dX9_setting_29 : decode cX9_setting 29 = .ok (.invokevirtual 123, 3) := by decide +kernel
theorem dX9_setting_32 : decode cX9_setting 32 = .ok (.istore_n 3, 1) := by decide +kernel
theorem dX9_setting_33 : decode cX9_setting 33 = .ok (.iload_n 3, 1) := by decide +kernel
theorem dX9_setting_34 : decode cX9_setting 34 = .ok (.ifCond .ge 5, 3) := by decide +kernel
theorem dX9_setting_37 : decode cX9_setting 37 = .ok (.iload_n 3, 1) := by decide +kernel
theorem dX9_setting_38 : decode cX9_setting 38 = .ok (.ireturn, 1) := by decide +kernel
theorem dX9_setting_39 : decode cX9_setting 39 = .ok (.aload_n 0, 1) := by decide +kernel
theorem dX9_setting_40 : decode cX9_setting 40 = .ok (.iload_n 1, 1) := by decide +kernel
theorem dX9_setting_41 : decode cX9_setting 41 = .ok (.invokevirtual 191, 3) := by decide +kernel
theorem dX9_setting_44 : decode cX9_setting 44 = .ok (.istore 4, 2) := by decide +kernel
theorem dX9_setting_46 : decode cX9_setting 46 = .ok (.iload_n 2, 1) := by decide +kernel
theorem dX9_setting_47 : decode cX9_setting 47 = .ok (.ifCond .ne 10, 3) := by decide +kernel
theorem dX9_setting_50 : decode cX9_setting 50 = .ok (.aload_n 0, 1) := by decide +kernel
theorem dX9_setting_51 : decode cX9_setting 51 = .ok (.getfield 185, 3) := by decide +kernel
theorem dX9_setting_54 : decode cX9_setting 54 = .ok (.goto 17, 3) := by decide +kernel
theorem dX9_setting_57 : decode cX9_setting 57 = .ok (.iload_n 2, 1) := by decide +kernel
theorem dX9_setting_58 : decode cX9_setting 58 = .ok (.iconst 1, 1) := by decide +kernel
theorem dX9_setting_59 : decode cX9_setting 59 = .ok (.if_icmp .ne 10, 3) := by decide +kernel
theorem dX9_setting_62 : decode cX9_setting 62 = .ok (.aload_n 0, 1) := by decide +kernel
theorem dX9_setting_63 : decode cX9_setting 63 = .ok (.getfield 188, 3) := by decide +kernel
theorem dX9_setting_66 : decode cX9_setting 66 = .ok (.goto 5, 3) := by decide +kernel
theorem dX9_setting_69 : decode cX9_setting 69 = .ok (.iload 4, 2) := by decide +kernel
theorem dX9_setting_71 : decode cX9_setting 71 = .ok (.ireturn, 1) := by decide +kernel
theorem dX9_tune_0 : decode cX9_tune 0 = .ok (.aload_n 0, 1) := by decide +kernel
theorem dX9_tune_1 : decode cX9_tune 1 = .ok (.iconst 0, 1) := by decide +kernel
theorem dX9_tune_2 : decode cX9_tune 2 = .ok (.putfield 71, 3) := by decide +kernel
theorem dX9_tune_5 : decode cX9_tune 5 = .ok (.iload_n 1, 1) := by decide +kernel
theorem dX9_tune_6 : decode cX9_tune 6 = .ok (.invokestatic 116, 3) := by decide +kernel
theorem dX9_tune_9 : decode cX9_tune 9 = .ok (.ifCond .ne 6, 3) := by decide +kernel
theorem dX9_tune_12 : decode cX9_tune 12 = .ok (.ldc 91, 2) := by decide +kernel
theorem dX9_tune_14 : decode cX9_tune 14 = .ok (.ireturn, 1) := by decide +kernel
theorem dX9_tune_15 : decode cX9_tune 15 = .ok (.aload_n 0, 1) := by decide +kernel
theorem dX9_tune_16 : decode cX9_tune 16 = .ok (.iload_n 1, 1) := by decide +kernel
theorem dX9_tune_17 : decode cX9_tune 17 = .ok (.invokevirtual 123, 3) := by decide +kernel
theorem dX9_tune_20 : decode cX9_tune 20 = .ok (.istore_n 2, 1) := by decide +kernel
theorem dX9_tune_21 : decode cX9_tune 21 = .ok (.iload_n 2, 1) := by decide +kernel
theorem dX9_tune_22 : decode cX9_tune 22 = .ok (.ifCond .ge 5, 3) := by decide +kernel
theorem dX9_tune_25 : decode cX9_tune 25 = .ok (.iload_n 2, 1) := by decide +kernel
theorem dX9_tune_26 : decode cX9_tune 26 = .ok (.ireturn, 1) := by decide +kernel
theorem dX9_tune_27 : decode cX9_tune 27 = .ok (.aload_n 0, 1) := by decide +kernel
theorem dX9_tune_28 : decode cX9_tune 28 = .ok (.iload_n 1, 1) := by decide +kernel
theorem dX9_tune_29 : decode cX9_tune 29 = .ok (.invokevirtual 179, 3) := by decide +kernel
theorem dX9_tune_32 : decode cX9_tune 32 = .ok (.istore_n 3, 1) := by decide +kernel
theorem dX9_tune_33 : decode cX9_tune 33 = .ok (.aload_n 0, 1) := by decide +kernel
theorem dX9_tune_34 : decode cX9_tune 34 = .ok (.iload_n 1, 1) := by decide +kernel
theorem dX9_tune_35 : decode cX9_tune 35 = .ok (.invokevirtual 191, 3) := by decide +kernel
theorem dX9_tune_38 : decode cX9_tune 38 = .ok (.istore 4, 2) := by decide +kernel
theorem dX9_tune_40 : decode cX9_tune 40 = .ok (.aload_n 0, 1) := by decide +kernel
theorem dX9_tune_41 : decode cX9_tune 41 = .ok (.getfield 23, 3) := by decide +kernel
theorem dX9_tune_44 : decode cX9_tune 44 = .ok (.bipush 12, 2) := by decide +kernel
theorem dX9_tune_46 : decode cX9_tune 46 = .ok (.iload_n 1, 1) := by decide +kernel
theorem dX9_tune_47 : decode cX9_tune 47 = .ok (.imul, 1) := by decide +kernel
theorem dX9_tune_48 : decode cX9_tune 48 = .ok (.iconst 2, 1) := by decide +kernel
theorem dX9_tune_49 : decode cX9_tune 49 = .ok (.iadd, 1) := by decide +kernel
theorem dX9_tune_50 : decode cX9_tune 50 = .ok (.aload_n 0, 1) := by decide +kernel
theorem dX9_tune_51 : decode cX9_tune 51 = .ok (.getfield 185, 3) := by decide +kernel
theorem dX9_tune_54 : decode cX9_tune 54 = .ok (.iastore, 1) := by decide +kernel
theorem dX9_tune_55 : decode cX9_tune 55 = .ok (.aload_n 0, 1) := by decide +kernel
theorem dX9_tune_56 : decode cX9_tune 56 = .ok (.getfield 23, 3) := by decide +kernel
theorem dX9_tune_59 : decode cX9_tune 59 = .ok (.bipush 12, 2) := by decide +kernel
theorem dX9_tune_61 : decode cX9_tune 61 = .ok (.iload_n 1, 1) := by decide +kernel
theorem dX9_tune_62 : decode cX9_tune 62 = .ok (.imul, 1) := by decide +kernel
theorem dX9_tune_63 : decode cX9_tune 63 = .ok (.iconst 3, 1) := by decide +kernel
theorem dX9_tune_64 : decode cX9_tune 64 = .ok (.iadd, 1) := by decide +kernel
theorem dX9_tune_65 : decode cX9_tune 65 = .ok (.aload_n 0, 1) := by decide +kernel
theorem dX9_tune_66 : decode cX9_tune 66 = .ok (.getfield 188, 3) := by decide +kernel
theorem dX9_tune_69 : decode cX9_tune 69 = .ok (.iastore, 1) := by decide +kernel
theorem dX9_tune_70 : decode cX9_tune 70 = .ok (.iload_n 3, 1) := by decide +kernel
theorem dX9_tune_71 : decode cX9_tune 71 = .ok (.ireturn, 1) := by decide +kernel
theorem dX9_room_0 : decode cX9_room 0 = .ok (.aload_n 0, 1) := by decide +kernel
theorem dX9_room_1 : decode cX9_room 1 = .ok (.iload_n 1, 1) := by decide +kernel
theorem dX9_room_2 : decode cX9_room 2 = .ok (.iload_n 3, 1) := by decide +kernel
theorem dX9_room_3 : decode cX9_room 3 = .ok (.invokevirtual 167, 3) := by decide +kernel
theorem dX9_room_6 : decode cX9_room 6 = .ok (.istore 4, 2) := by decide +kernel
theorem dX9_room_8 : decode cX9_room 8 = .ok (.aload_n 0, 1) := by decide +kernel
theorem dX9_room_9 : decode cX9_room 9 = .ok (.getfield 23, 3) := by decide +kernel
theorem dX9_room_12 : decode cX9_room 12 = .ok (.bipush 12, 2) := by decide +kernel
theorem dX9_room_14 : decode cX9_room 14 = .ok (.iload_n 1, 1) := by decide +kernel
theorem dX9_room_15 : decode cX9_room 15 = .ok (.imul, 1) := by decide +kernel
theorem dX9_room_16 : decode cX9_room 16 = .ok (.bipush 7, 2) := by decide +kernel
theorem dX9_room_18 : decode cX9_room 18 = .ok (.iadd, 1) := by decide +kernel
theorem dX9_room_19 : decode cX9_room 19 = .ok (.iaload, 1) := by decide +kernel
theorem dX9_room_20 : decode cX9_room 20 = .ok (.iload_n 2, 1) := by decide +kernel
theorem dX9_room_21 : decode cX9_room 21 = .ok (.ifCond .ne 8, 3) := by decide +kernel
theorem dX9_room_24 : decode cX9_room 24 = .ok (.iload 4, 2) := by decide +kernel
theorem dX9_room_26 : decode cX9_room 26 = .ok (.goto 9, 3) := by decide +kernel
theorem dX9_room_29 : decode cX9_room 29 = .ok (.sipush 1000, 3) := by decide +kernel
theorem dX9_room_32 : decode cX9_room 32 = .ok (.iload 4, 2) := by decide +kernel
theorem dX9_room_34 : decode cX9_room 34 = .ok (.isub, 1) := by decide +kernel
theorem dX9_room_35 : decode cX9_room 35 = .ok (.iadd, 1) := by decide +kernel
theorem dX9_room_36 : decode cX9_room 36 = .ok (.ireturn, 1) := by decide +kernel
theorem dX9_draw_0 : decode cX9_draw 0 = .ok (.bipush 12, 2) := by decide +kernel
theorem dX9_draw_2 : decode cX9_draw 2 = .ok (.iload_n 1, 1) := by decide +kernel
theorem dX9_draw_3 : decode cX9_draw 3 = .ok (.imul, 1) := by decide +kernel
theorem dX9_draw_4 : decode cX9_draw 4 = .ok (.istore 6, 2) := by decide +kernel
theorem dX9_draw_6 : decode cX9_draw 6 = .ok (.aload_n 0, 1) := by decide +kernel
theorem dX9_draw_7 : decode cX9_draw 7 = .ok (.getfield 23, 3) := by decide +kernel
theorem dX9_draw_10 : decode cX9_draw 10 = .ok (.iload 6, 2) := by decide +kernel
theorem dX9_draw_12 : decode cX9_draw 12 = .ok (.bipush 11, 2) := by decide +kernel
theorem dX9_draw_14 : decode cX9_draw 14 = .ok (.iadd, 1) := by decide +kernel
theorem dX9_draw_15 : decode cX9_draw 15 = .ok (.iaload, 1) := by decide +kernel
theorem dX9_draw_16 : decode cX9_draw 16 = .ok (.istore 7, 2) := by decide +kernel
theorem dX9_draw_18 : decode cX9_draw 18 = .ok (.iload_n 3, 1) := by decide +kernel
theorem dX9_draw_19 : decode cX9_draw 19 = .ok (.iload 4, 2) := by decide +kernel
theorem dX9_draw_21 : decode cX9_draw 21 = .ok (.imul, 1) := by decide +kernel
theorem dX9_draw_22 : decode cX9_draw 22 = .ok (.iconst 4, 1) := by decide +kernel
theorem dX9_draw_23 : decode cX9_draw 23 = .ok (.idiv, 1) := by decide +kernel
theorem dX9_draw_24 : decode cX9_draw 24 = .ok (.istore 8, 2) := by decide +kernel
theorem dX9_draw_26 : decode cX9_draw 26 = .ok (.aload_n 0, 1) := by decide +kernel
theorem dX9_draw_27 : decode cX9_draw 27 = .ok (.getfield 23, 3) := by decide +kernel
theorem dX9_draw_30 : decode cX9_draw 30 = .ok (.iload 6, 2) := by decide +kernel
theorem dX9_draw_32 : decode cX9_draw 32 = .ok (.bipush 10, 2) := by decide +kernel
theorem dX9_draw_34 : decode cX9_draw 34 = .ok (.iadd, 1) := by decide +kernel
theorem dX9_draw_35 : decode cX9_draw 35 = .ok (.iaload, 1) := by decide +kernel
theorem dX9_draw_36 : decode cX9_draw 36 = .ok (.istore 9, 2) := by decide +kernel
theorem dX9_draw_38 : decode cX9_draw 38 = .ok (.iload 9, 2) := by decide +kernel
theorem dX9_draw_40 : decode cX9_draw 40 = .ok (.istore 10, 2) := by decide +kernel
theorem dX9_draw_42 : decode cX9_draw 42 = .ok (.aload_n 0, 1) := by decide +kernel
theorem dX9_draw_43 : decode cX9_draw 43 = .ok (.lconst 0, 1) := by decide +kernel
theorem dX9_draw_44 : decode cX9_draw 44 = .ok (.putfield 194, 3) := by decide +kernel
theorem dX9_draw_47 : decode cX9_draw 47 = .ok (.iconst 1, 1) := by decide +kernel
theorem dX9_draw_48 : decode cX9_draw 48 = .ok (.istore 11, 2) := by decide +kernel
theorem dX9_draw_50 : decode cX9_draw 50 = .ok (.iload 11, 2) := by decide +kernel
theorem dX9_draw_52 : decode cX9_draw 52 = .ok (.sipush 144, 3) := by decide +kernel
theorem dX9_draw_55 : decode cX9_draw 55 = .ok (.if_icmp .ge 193, 3) := by decide +kernel
theorem dX9_draw_58 : decode cX9_draw 58 = .ok (.aload_n 0, 1) := by decide +kernel
theorem dX9_draw_59 : decode cX9_draw 59 = .ok (.iload_n 1, 1) := by decide +kernel
theorem dX9_draw_60 : decode cX9_draw 60 = .ok (.iload 5, 2) := by decide +kernel
theorem dX9_draw_62 : decode cX9_draw 62 = .ok (.iload 11, 2) := by decide +kernel
theorem dX9_draw_64 : decode cX9_draw 64 = .ok (.invokevirtual 198, 3) := by decide +kernel
theorem dX9_draw_67 : decode cX9_draw 67 = .ok (.istore 12, 2) := by decide +kernel
theorem dX9_draw_69 : decode cX9_draw 69 = .ok (.iload 10, 2) := by decide +kernel
theorem dX9_draw_71 : decode cX9_draw 71 = .ok (.aload_n 0, 1) := by decide +kernel
theorem dX9_draw_72 : decode cX9_draw 72 = .ok (.iload_n 1, 1) := by decide +kernel
theorem dX9_draw_73 : decode cX9_draw 73 = .ok (.iload 5, 2) := by decide +kernel
theorem dX9_draw_75 : decode cX9_draw 75 = .ok (.iload 11, 2) := by decide +kernel
theorem dX9_draw_77 : decode cX9_draw 77 = .ok (.iconst 1, 1) := by decide +kernel
theorem dX9_draw_78 : decode cX9_draw 78 = .ok (.isub, 1) := by decide +kernel
theorem dX9_draw_79 : decode cX9_draw 79 = .ok (.invokevirtual 198, 3) := by decide +kernel
theorem dX9_draw_82 : decode cX9_draw 82 = .ok (.imul, 1) := by decide +kernel
theorem dX9_draw_83 : decode cX9_draw 83 = .ok (.iload 12, 2) := by decide +kernel
theorem dX9_draw_85 : decode cX9_draw 85 = .ok (.idiv, 1) := by decide +kernel
theorem dX9_draw_86 : decode cX9_draw 86 = .ok (.istore 10, 2) := by decide +kernel
theorem dX9_draw_88 : decode cX9_draw 88 = .ok (.aload_n 0, 1) := by decide +kernel
theorem dX9_draw_89 : decode cX9_draw 89 = .ok (.iload_n 1, 1) := by decide +kernel
theorem dX9_draw_90 : decode cX9_draw 90 = .ok (.iload_n 2, 1) := by decide +kernel
theorem dX9_draw_91 : decode cX9_draw 91 = .ok (.iload 5, 2) := by decide +kernel
theorem dX9_draw_93 : decode cX9_draw 93 = .ok (.iload 11, 2) := by decide +kernel
theorem dX9_draw_95 : decode cX9_draw 95 = .ok (.iconst 0, 1) := by decide +kernel
theorem dX9_draw_96 : decode cX9_draw 96 = .ok (.invokevirtual 154, 3) := by decide +kernel
theorem dX9_draw_99 : decode cX9_draw 99 = .ok (.istore 13, 2) := by decide +kernel
theorem dX9_draw_101 : decode cX9_draw 101 = .ok (.iload 8, 2) := by decide +kernel
theorem dX9_draw_103 : decode cX9_draw 103 = .ok (.iload 10, 2) := by decide +kernel
theorem dX9_draw_105 : decode cX9_draw 105 = .ok (.isub, 1) := by decide +kernel
theorem dX9_draw_106 : decode cX9_draw 106 = .ok (.iload 13, 2) := by decide +kernel
theorem dX9_draw_108 : decode cX9_draw 108 = .ok (.imul, 1) := by decide +kernel
theorem dX9_draw_109 : decode cX9_draw 109 = .ok (.iload 13, 2) := by decide +kernel
theorem dX9_draw_111 : decode cX9_draw 111 = .ok (.aload_n 0, 1) := by decide +kernel
theorem dX9_draw_112 : decode cX9_draw 112 = .ok (.getfield 23, 3) := by decide +kernel
theorem dX9_draw_115 : decode cX9_draw 115 = .ok (.iload 6, 2) := by decide +kernel
theorem dX9_draw_117 : decode cX9_draw 117 = .ok (.bipush 8, 2) := by decide +kernel
theorem dX9_draw_119 : decode cX9_draw 119 = .ok (.iadd, 1) := by decide +kernel
theorem dX9_draw_120 : decode cX9_draw 120 = .ok (.iaload, 1) := by decide +kernel
theorem dX9_draw_121 : decode cX9_draw 121 = .ok (.iadd, 1) := by decide +kernel
theorem dX9_draw_122 : decode cX9_draw 122 = .ok (.iload 7, 2) := by decide +kernel
theorem dX9_draw_124 : decode cX9_draw 124 = .ok (.invokestatic 201, 3) := by decide +kernel
theorem dX9_draw_127 : decode cX9_draw 127 = .ok (.iadd, 1) := by decide +kernel
theorem dX9_draw_128 : decode cX9_draw 128 = .ok (.idiv, 1) := by decide +kernel
theorem dX9_draw_129 : decode cX9_draw 129 = .ok (.istore 14, 2) := by decide +kernel
theorem dX9_draw_131 : decode cX9_draw 131 = .ok (.iload 10, 2) := by decide +kernel
theorem dX9_draw_133 : decode cX9_draw 133 = .ok (.iload 14, 2) := by decide +kernel
theorem dX9_draw_135 : decode cX9_draw 135 = .ok (.iadd, 1) := by decide +kernel
theorem dX9_draw_136 : decode cX9_draw 136 = .ok (.istore 10, 2) := by decide +kernel
theorem dX9_draw_138 : decode cX9_draw 138 = .ok (.aload_n 0, 1) := by decide +kernel
theorem dX9_draw_139 : decode cX9_draw 139 = .ok (.iload_n 1, 1) := by decide +kernel
theorem dX9_draw_140 : decode cX9_draw 140 = .ok (.iload_n 2, 1) := by decide +kernel
theorem dX9_draw_141 : decode cX9_draw 141 = .ok (.iload 5, 2) := by decide +kernel
theorem dX9_draw_143 : decode cX9_draw 143 = .ok (.iload 11, 2) := by decide +kernel
theorem dX9_draw_145 : decode cX9_draw 145 = .ok (.iconst 1, 1) := by decide +kernel
theorem dX9_draw_146 : decode cX9_draw 146 = .ok (.invokevirtual 154, 3) := by decide +kernel
theorem dX9_draw_149 : decode cX9_draw 149 = .ok (.istore 15, 2) := by decide +kernel
theorem dX9_draw_151 : decode cX9_draw 151 = .ok (.iload 10, 2) := by decide +kernel
theorem dX9_draw_153 : decode cX9_draw 153 = .ok (.iload 9, 2) := by decide +kernel
theorem dX9_draw_155 : decode cX9_draw 155 = .ok (.iload 10, 2) := by decide +kernel
theorem dX9_draw_157 : decode cX9_draw 157 = .ok (.isub, 1) := by decide +kernel
theorem dX9_draw_158 : decode cX9_draw 158 = .ok (.iload 15, 2) := by decide +kernel
theorem dX9_draw_160 : decode cX9_draw 160 = .ok (.imul, 1) := by decide +kernel
theorem dX9_draw_161 : decode cX9_draw 161 = .ok (.iload 15, 2) := by decide +kernel
theorem dX9_draw_163 : decode cX9_draw 163 = .ok (.aload_n 0, 1) := by decide +kernel
theorem dX9_draw_164 : decode cX9_draw 164 = .ok (.getfield 23, 3) := by decide +kernel
theorem dX9_draw_167 : decode cX9_draw 167 = .ok (.iload 6, 2) := by decide +kernel
theorem dX9_draw_169 : decode cX9_draw 169 = .ok (.bipush 9, 2) := by decide +kernel
theorem dX9_draw_171 : decode cX9_draw 171 = .ok (.iadd, 1) := by decide +kernel
theorem dX9_draw_172 : decode cX9_draw 172 = .ok (.iaload, 1) := by decide +kernel
theorem dX9_draw_173 : decode cX9_draw 173 = .ok (.iadd, 1) := by decide +kernel
theorem dX9_draw_174 : decode cX9_draw 174 = .ok (.idiv, 1) := by decide +kernel
theorem dX9_draw_175 : decode cX9_draw 175 = .ok (.iadd, 1) := by decide +kernel
theorem dX9_draw_176 : decode cX9_draw 176 = .ok (.istore 10, 2) := by decide +kernel
theorem dX9_draw_178 : decode cX9_draw 178 = .ok (.iload 10, 2) := by decide +kernel
theorem dX9_draw_180 : decode cX9_draw 180 = .ok (.iload 8, 2) := by decide +kernel
theorem dX9_draw_182 : decode cX9_draw 182 = .ok (.iload 10, 2) := by decide +kernel
theorem dX9_draw_184 : decode cX9_draw 184 = .ok (.isub, 1) := by decide +kernel
theorem dX9_draw_185 : decode cX9_draw 185 = .ok (.iload 7, 2) := by decide +kernel
theorem dX9_draw_187 : decode cX9_draw 187 = .ok (.invokestatic 204, 3) := by decide +kernel
theorem dX9_draw_190 : decode cX9_draw 190 = .ok (.imul, 1) := by decide +kernel
theorem dX9_draw_191 : decode cX9_draw 191 = .ok (.sipush 200, 3) := by decide +kernel
theorem dX9_draw_194 : decode cX9_draw 194 = .ok (.idiv, 1) := by decide +kernel
theorem dX9_draw_195 : decode cX9_draw 195 = .ok (.iadd, 1) := by decide +kernel
theorem dX9_draw_196 : decode cX9_draw 196 = .ok (.istore 10, 2) := by decide +kernel
theorem dX9_draw_198 : decode cX9_draw 198 = .ok (.iload 11, 2) := by decide +kernel
theorem dX9_draw_200 : decode cX9_draw 200 = .ok (.bipush 96, 2) := by decide +kernel
theorem dX9_draw_202 : decode cX9_draw 202 = .ok (.if_icmp .lt 40, 3) := by decide +kernel
theorem dX9_draw_205 : decode cX9_draw 205 = .ok (.aload_n 0, 1) := by decide +kernel
theorem dX9_draw_206 : decode cX9_draw 206 = .ok (.getfield 41, 3) := by decide +kernel
theorem dX9_draw_209 : decode cX9_draw 209 = .ok (.iload 11, 2) := by decide +kernel
theorem dX9_draw_211 : decode cX9_draw 211 = .ok (.bipush 96, 2) := by decide +kernel
theorem dX9_draw_213 : decode cX9_draw 213 = .ok (.isub, 1) := by decide +kernel
theorem dX9_draw_214 : decode cX9_draw 214 = .ok (.iload 10, 2) := by decide +kernel
theorem dX9_draw_216 : decode cX9_draw 216 = .ok (.iastore, 1) := by decide +kernel
theorem dX9_draw_217 : decode cX9_draw 217 = .ok (.aload_n 0, 1) := by decide +kernel
theorem dX9_draw_218 : decode cX9_draw 218 = .ok (.dup, 1) := by decide +kernel
theorem dX9_draw_219 : decode cX9_draw 219 = .ok (.getfield 194, 3) := by decide +kernel
theorem dX9_draw_222 : decode cX9_draw 222 = .ok (.iload 14, 2) := by decide +kernel
theorem dX9_draw_224 : decode cX9_draw 224 = .ok (.ifCond .le 13, 3) := by decide +kernel
theorem dX9_draw_227 : decode cX9_draw 227 = .ok (.iload 14, 2) := by decide +kernel
theorem dX9_draw_229 : decode cX9_draw 229 = .ok (.i2l, 1) := by decide +kernel
theorem dX9_draw_230 : decode cX9_draw 230 = .ok (.iload 12, 2) := by decide +kernel
theorem dX9_draw_232 : decode cX9_draw 232 = .ok (.i2l, 1) := by decide +kernel
theorem dX9_draw_233 : decode cX9_draw 233 = .ok (.lmul, 1) := by decide +kernel
theorem dX9_draw_234 : decode cX9_draw 234 = .ok (.goto 4, 3) := by decide +kernel
theorem dX9_draw_237 : decode cX9_draw 237 = .ok (.lconst 0, 1) := by decide +kernel
theorem dX9_draw_238 : decode cX9_draw 238 = .ok (.ladd, 1) := by decide +kernel
theorem dX9_draw_239 : decode cX9_draw 239 = .ok (.putfield 194, 3) := by decide +kernel
theorem dX9_draw_242 : decode cX9_draw 242 = .ok (.iinc 11 1, 3) := by decide +kernel
theorem dX9_draw_245 : decode cX9_draw 245 = .ok (.goto (-195), 3) := by decide +kernel
theorem dX9_draw_248 : decode cX9_draw 248 = .ok (.return_, 1) := by decide +kernel
theorem dX9_isTurn_0 : decode cX9_isTurn 0 = .ok (.iload_n 0, 1) := by decide +kernel
theorem dX9_isTurn_1 : decode cX9_isTurn 1 = .ok (.invokestatic 171, 3) := by decide +kernel
theorem dX9_isTurn_4 : decode cX9_isTurn 4 = .ok (.ifCond .eq 31, 3) := by decide +kernel
theorem dX9_isTurn_7 : decode cX9_isTurn 7 = .ok (.iload_n 1, 1) := by decide +kernel
theorem dX9_isTurn_8 : decode cX9_isTurn 8 = .ok (.i2l, 1) := by decide +kernel
theorem dX9_isTurn_9 : decode cX9_isTurn 9 = .ok (.lconst 0, 1) := by decide +kernel
theorem dX9_isTurn_10 : decode cX9_isTurn 10 = .ok (.ldc2_w 207, 3) := by decide +kernel
theorem dX9_isTurn_13 : decode cX9_isTurn 13 = .ok (.invokestatic 81, 3) := by decide +kernel
theorem dX9_isTurn_16 : decode cX9_isTurn 16 = .ok (.ifCond .eq 19, 3) := by decide +kernel
theorem dX9_isTurn_19 : decode cX9_isTurn 19 = .ok (.iload_n 2, 1) := by decide +kernel
theorem dX9_isTurn_20 : decode cX9_isTurn 20 = .ok (.i2l, 1) := by decide +kernel
theorem dX9_isTurn_21 : decode cX9_isTurn 21 = .ok (.lconst 0, 1) := by decide +kernel
theorem dX9_isTurn_22 : decode cX9_isTurn 22 = .ok (.ldc2_w 98, 3) := by decide +kernel
theorem dX9_isTurn_25 : decode cX9_isTurn 25 = .ok (.invokestatic 81, 3) := by decide +kernel
theorem dX9_isTurn_28 : decode cX9_isTurn 28 = .ok (.ifCond .eq 7, 3) := by decide +kernel
theorem dX9_isTurn_31 : decode cX9_isTurn 31 = .ok (.iconst 1, 1) := by decide +kernel
theorem dX9_isTurn_32 : decode cX9_isTurn 32 = .ok (.goto 4, 3) := by decide +kernel
theorem dX9_isTurn_35 : decode cX9_isTurn 35 = .ok (.iconst 0, 1) := by decide +kernel
theorem dX9_isTurn_36 : decode cX9_isTurn 36 = .ok (.ireturn, 1) := by decide +kernel
theorem dX9_card_0 : decode cX9_card 0 = .ok (.aload_n 0, 1) := by decide +kernel
theorem dX9_card_1 : decode cX9_card 1 = .ok (.iconst 0, 1) := by decide +kernel
theorem dX9_card_2 : decode cX9_card 2 = .ok (.putfield 71, 3) := by decide +kernel
theorem dX9_card_5 : decode cX9_card 5 = .ok (.iload_n 1, 1) := by decide +kernel
theorem dX9_card_6 : decode cX9_card 6 = .ok (.invokestatic 116, 3) := by decide +kernel
theorem dX9_card_9 : decode cX9_card 9 = .ok (.ifCond .eq 37, 3) := by decide +kernel
theorem dX9_card_12 : decode cX9_card 12 = .ok (.iload_n 2, 1) := by decide +kernel
theorem dX9_card_13 : decode cX9_card 13 = .ok (.iload_n 3, 1) := by decide +kernel
theorem dX9_card_14 : decode cX9_card 14 = .ok (.iload 4, 2) := by decide +kernel
theorem dX9_card_16 : decode cX9_card 16 = .ok (.invokestatic 209, 3) := by decide +kernel
theorem dX9_card_19 : decode cX9_card 19 = .ok (.ifCond .eq 27, 3) := by decide +kernel
theorem dX9_card_22 : decode cX9_card 22 = .ok (.iload 5, 2) := by decide +kernel
theorem dX9_card_24 : decode cX9_card 24 = .ok (.i2l, 1) := by decide +kernel
theorem dX9_card_25 : decode cX9_card 25 = .ok (.lconst 0, 1) := by decide +kernel
theorem dX9_card_26 : decode cX9_card 26 = .ok (.lconst 1, 1) := by decide +kernel
theorem dX9_card_27 : decode cX9_card 27 = .ok (.invokestatic 81, 3) := by decide +kernel
theorem dX9_card_30 : decode cX9_card 30 = .ok (.ifCond .eq 16, 3) := by decide +kernel
theorem dX9_card_33 : decode cX9_card 33 = .ok (.iload 6, 2) := by decide +kernel
theorem dX9_card_35 : decode cX9_card 35 = .ok (.i2l, 1) := by decide +kernel
theorem dX9_card_36 : decode cX9_card 36 = .ok (.lconst 0, 1) := by decide +kernel
theorem dX9_card_37 : decode cX9_card 37 = .ok (.ldc2_w 213, 3) := by decide +kernel
theorem dX9_card_40 : decode cX9_card 40 = .ok (.invokestatic 81, 3) := by decide +kernel
theorem dX9_card_43 : decode cX9_card 43 = .ok (.ifCond .ne 6, 3) := by decide +kernel
theorem dX9_card_46 : decode cX9_card 46 = .ok (.ldc 91, 2) := by decide +kernel
theorem dX9_card_48 : decode cX9_card 48 = .ok (.ireturn, 1) := by decide +kernel
theorem dX9_card_49 : decode cX9_card 49 = .ok (.aload_n 0, 1) := by decide +kernel
theorem dX9_card_50 : decode cX9_card 50 = .ok (.iload_n 1, 1) := by decide +kernel
theorem dX9_card_51 : decode cX9_card 51 = .ok (.invokevirtual 123, 3) := by decide +kernel
theorem dX9_card_54 : decode cX9_card 54 = .ok (.istore 7, 2) := by decide +kernel
theorem dX9_card_56 : decode cX9_card 56 = .ok (.iload 7, 2) := by decide +kernel
theorem dX9_card_58 : decode cX9_card 58 = .ok (.ifCond .ge 6, 3) := by decide +kernel
theorem dX9_card_61 : decode cX9_card 61 = .ok (.iload 7, 2) := by decide +kernel
theorem dX9_card_63 : decode cX9_card 63 = .ok (.ireturn, 1) := by decide +kernel
theorem dX9_card_64 : decode cX9_card 64 = .ok (.aload_n 0, 1) := by decide +kernel
theorem dX9_card_65 : decode cX9_card 65 = .ok (.iload_n 1, 1) := by decide +kernel
theorem dX9_card_66 : decode cX9_card 66 = .ok (.iload_n 2, 1) := by decide +kernel
theorem dX9_card_67 : decode cX9_card 67 = .ok (.iload_n 3, 1) := by decide +kernel
theorem dX9_card_68 : decode cX9_card 68 = .ok (.iload 4, 2) := by decide +kernel
theorem dX9_card_70 : decode cX9_card 70 = .ok (.iload 5, 2) := by decide +kernel
theorem dX9_card_72 : decode cX9_card 72 = .ok (.invokevirtual 215, 3) := by decide +kernel
theorem dX9_card_75 : decode cX9_card 75 = .ok (.aload_n 0, 1) := by decide +kernel
theorem dX9_card_76 : decode cX9_card 76 = .ok (.getfield 41, 3) := by decide +kernel
theorem dX9_card_79 : decode cX9_card 79 = .ok (.iload 6, 2) := by decide +kernel
theorem dX9_card_81 : decode cX9_card 81 = .ok (.iaload, 1) := by decide +kernel
theorem dX9_card_82 : decode cX9_card 82 = .ok (.ireturn, 1) := by decide +kernel
theorem dX9_look_0 : decode cX9_look 0 = .ok (.aload_n 0, 1) := by decide +kernel
theorem dX9_look_1 : decode cX9_look 1 = .ok (.iconst 0, 1) := by decide +kernel
theorem dX9_look_2 : decode cX9_look 2 = .ok (.putfield 71, 3) := by decide +kernel
theorem dX9_look_5 : decode cX9_look 5 = .ok (.iload_n 1, 1) := by decide +kernel
theorem dX9_look_6 : decode cX9_look 6 = .ok (.invokestatic 116, 3) := by decide +kernel
theorem dX9_look_9 : decode cX9_look 9 = .ok (.ifCond .eq 37, 3) := by decide +kernel
theorem dX9_look_12 : decode cX9_look 12 = .ok (.iload_n 2, 1) := by decide +kernel
theorem dX9_look_13 : decode cX9_look 13 = .ok (.iload_n 3, 1) := by decide +kernel
theorem dX9_look_14 : decode cX9_look 14 = .ok (.iload 4, 2) := by decide +kernel
theorem dX9_look_16 : decode cX9_look 16 = .ok (.invokestatic 209, 3) := by decide +kernel
theorem dX9_look_19 : decode cX9_look 19 = .ok (.ifCond .eq 27, 3) := by decide +kernel
theorem dX9_look_22 : decode cX9_look 22 = .ok (.iload 5, 2) := by decide +kernel
theorem dX9_look_24 : decode cX9_look 24 = .ok (.i2l, 1) := by decide +kernel
theorem dX9_look_25 : decode cX9_look 25 = .ok (.lconst 0, 1) := by decide +kernel
theorem dX9_look_26 : decode cX9_look 26 = .ok (.lconst 1, 1) := by decide +kernel
theorem dX9_look_27 : decode cX9_look 27 = .ok (.invokestatic 81, 3) := by decide +kernel
theorem dX9_look_30 : decode cX9_look 30 = .ok (.ifCond .eq 16, 3) := by decide +kernel
theorem dX9_look_33 : decode cX9_look 33 = .ok (.iload 6, 2) := by decide +kernel
theorem dX9_look_35 : decode cX9_look 35 = .ok (.i2l, 1) := by decide +kernel
theorem dX9_look_36 : decode cX9_look 36 = .ok (.lconst 0, 1) := by decide +kernel
theorem dX9_look_37 : decode cX9_look 37 = .ok (.ldc2_w 89, 3) := by decide +kernel
theorem dX9_look_40 : decode cX9_look 40 = .ok (.invokestatic 81, 3) := by decide +kernel
theorem dX9_look_43 : decode cX9_look 43 = .ok (.ifCond .ne 6, 3) := by decide +kernel
theorem dX9_look_46 : decode cX9_look 46 = .ok (.ldc 91, 2) := by decide +kernel
theorem dX9_look_48 : decode cX9_look 48 = .ok (.ireturn, 1) := by decide +kernel
theorem dX9_look_49 : decode cX9_look 49 = .ok (.aload_n 0, 1) := by decide +kernel
theorem dX9_look_50 : decode cX9_look 50 = .ok (.iload_n 1, 1) := by decide +kernel
theorem dX9_look_51 : decode cX9_look 51 = .ok (.invokevirtual 123, 3) := by decide +kernel
theorem dX9_look_54 : decode cX9_look 54 = .ok (.istore 7, 2) := by decide +kernel
theorem dX9_look_56 : decode cX9_look 56 = .ok (.iload 7, 2) := by decide +kernel
theorem dX9_look_58 : decode cX9_look 58 = .ok (.ifCond .ge 6, 3) := by decide +kernel
theorem dX9_look_61 : decode cX9_look 61 = .ok (.iload 7, 2) := by decide +kernel
theorem dX9_look_63 : decode cX9_look 63 = .ok (.ireturn, 1) := by decide +kernel
theorem dX9_look_64 : decode cX9_look 64 = .ok (.aload_n 0, 1) := by decide +kernel
theorem dX9_look_65 : decode cX9_look 65 = .ok (.iload_n 1, 1) := by decide +kernel
theorem dX9_look_66 : decode cX9_look 66 = .ok (.iload_n 2, 1) := by decide +kernel
theorem dX9_look_67 : decode cX9_look 67 = .ok (.iload_n 3, 1) := by decide +kernel
theorem dX9_look_68 : decode cX9_look 68 = .ok (.iload 4, 2) := by decide +kernel
theorem dX9_look_70 : decode cX9_look 70 = .ok (.iload 5, 2) := by decide +kernel
theorem dX9_look_72 : decode cX9_look 72 = .ok (.invokevirtual 215, 3) := by decide +kernel
theorem dX9_look_75 : decode cX9_look 75 = .ok (.iconst 0, 1) := by decide +kernel
theorem dX9_look_76 : decode cX9_look 76 = .ok (.istore 8, 2) := by decide +kernel
theorem dX9_look_78 : decode cX9_look 78 = .ok (.aload_n 0, 1) := by decide +kernel
theorem dX9_look_79 : decode cX9_look 79 = .ok (.getfield 41, 3) := by decide +kernel
theorem dX9_look_82 : decode cX9_look 82 = .ok (.iconst 0, 1) := by decide +kernel
theorem dX9_look_83 : decode cX9_look 83 = .ok (.iaload, 1) := by decide +kernel
theorem dX9_look_84 : decode cX9_look 84 = .ok (.istore 9, 2) := by decide +kernel
theorem dX9_look_86 : decode cX9_look 86 = .ok (.iconst 0, 1) := by decide +kernel
theorem dX9_look_87 : decode cX9_look 87 = .ok (.istore 10, 2) := by decide +kernel
theorem dX9_look_89 : decode cX9_look 89 = .ok (.iconst 0, 1) := by decide +kernel
theorem dX9_look_90 : decode cX9_look 90 = .ok (.istore 11, 2) := by decide +kernel
theorem dX9_look_92 : decode cX9_look 92 = .ok (.iload 11, 2) := by decide +kernel
theorem dX9_look_94 : decode cX9_look 94 = .ok (.bipush 48, 2) := by decide +kernel
theorem dX9_look_96 : decode cX9_look 96 = .ok (.if_icmp .ge 89, 3) := by decide +kernel
theorem dX9_look_99 : decode cX9_look 99 = .ok (.iload 8, 2) := by decide +kernel
theorem dX9_look_101 : decode cX9_look 101 = .ok (.aload_n 0, 1) := by decide +kernel
theorem dX9_look_102 : decode cX9_look 102 = .ok (.getfield 41, 3) := by decide +kernel
theorem dX9_look_105 : decode cX9_look 105 = .ok (.iload 11, 2) := by decide +kernel
theorem dX9_look_107 : decode cX9_look 107 = .ok (.iaload, 1) := by decide +kernel
theorem dX9_look_108 : decode cX9_look 108 = .ok (.iadd, 1) := by decide +kernel
theorem dX9_look_109 : decode cX9_look 109 = .ok (.istore 8, 2) := by decide +kernel
theorem dX9_look_111 : decode cX9_look 111 = .ok (.aload_n 0, 1) := by decide +kernel
theorem dX9_look_112 : decode cX9_look 112 = .ok (.getfield 41, 3) := by decide +kernel
theorem dX9_look_115 : decode cX9_look 115 = .ok (.iload 11, 2) := by decide +kernel
theorem dX9_look_117 : decode cX9_look 117 = .ok (.iaload, 1) := by decide +kernel
theorem dX9_look_118 : decode cX9_look 118 = .ok (.iload 9, 2) := by decide +kernel
theorem dX9_look_120 : decode cX9_look 120 = .ok (.if_icmp .le 13, 3) := by decide +kernel
theorem dX9_look_123 : decode cX9_look 123 = .ok (.aload_n 0, 1) := by decide +kernel
theorem dX9_look_124 : decode cX9_look 124 = .ok (.getfield 41, 3) := by decide +kernel
theorem dX9_look_127 : decode cX9_look 127 = .ok (.iload 11, 2) := by decide +kernel
theorem dX9_look_129 : decode cX9_look 129 = .ok (.iaload, 1) := by decide +kernel
theorem dX9_look_130 : decode cX9_look 130 = .ok (.goto 5, 3) := by decide +kernel
theorem dX9_look_133 : decode cX9_look 133 = .ok (.iload 9, 2) := by decide +kernel
theorem dX9_look_135 : decode cX9_look 135 = .ok (.istore 9, 2) := by decide +kernel
theorem dX9_look_137 : decode cX9_look 137 = .ok (.iload 10, 2) := by decide +kernel
theorem dX9_look_139 : decode cX9_look 139 = .ok (.iload 11, 2) := by decide +kernel
theorem dX9_look_141 : decode cX9_look 141 = .ok (.ifCond .le 34, 3) := by decide +kernel
theorem dX9_look_144 : decode cX9_look 144 = .ok (.iload 11, 2) := by decide +kernel
theorem dX9_look_146 : decode cX9_look 146 = .ok (.bipush 24, 2) := by decide +kernel
theorem dX9_look_148 : decode cX9_look 148 = .ok (.if_icmp .ge 27, 3) := by decide +kernel
theorem dX9_look_151 : decode cX9_look 151 = .ok (.aload_n 0, 1) := by decide +kernel
theorem dX9_look_152 : decode cX9_look 152 = .ok (.getfield 41, 3) := by decide +kernel
theorem dX9_look_155 : decode cX9_look 155 = .ok (.iload 11, 2) := by decide +kernel
theorem dX9_look_157 : decode cX9_look 157 = .ok (.iaload, 1) := by decide +kernel
theorem dX9_look_158 : decode cX9_look 158 = .ok (.aload_n 0, 1) := by decide +kernel
theorem dX9_look_159 : decode cX9_look 159 = .ok (.getfield 41, 3) := by decide +kernel
theorem dX9_look_162 : decode cX9_look 162 = .ok (.bipush 48, 2) := by decide +kernel
theorem dX9_look_164 : decode cX9_look 164 = .ok (.iload 11, 2) := by decide +kernel
theorem dX9_look_166 : decode cX9_look 166 = .ok (.isub, 1) := by decide +kernel
theorem dX9_look_167 : decode cX9_look 167 = .ok (.iaload, 1) := by decide +kernel
theorem dX9_look_168 : decode cX9_look 168 = .ok (.if_icmp .ge 7, 3) := by decide +kernel
theorem dX9_look_171 : decode cX9_look 171 = .ok (.iconst 1, 1) := by decide +kernel
theorem dX9_look_172 : decode cX9_look 172 = .ok (.goto 4, 3) := by decide +kernel
theorem dX9_look_175 : decode cX9_look 175 = .ok (.iconst 0, 1) := by decide +kernel
theorem dX9_look_176 : decode cX9_look 176 = .ok (.iadd, 1) := by decide +kernel
theorem dX9_look_177 : decode cX9_look 177 = .ok (.istore 10, 2) := by decide +kernel
theorem dX9_look_179 : decode cX9_look 179 = .ok (.iinc 11 1, 3) := by decide +kernel
theorem dX9_look_182 : decode cX9_look 182 = .ok (.goto (-90), 3) := by decide +kernel
theorem dX9_look_185 : decode cX9_look 185 = .ok (.iload 6, 2) := by decide +kernel
theorem dX9_look_187 : decode cX9_look 187 = .ok (.ifCond .ne 11, 3) := by decide +kernel
theorem dX9_look_190 : decode cX9_look 190 = .ok (.iload 8, 2) := by decide +kernel
theorem dX9_look_192 : decode cX9_look 192 = .ok (.bipush 48, 2) := by decide +kernel
theorem dX9_look_194 : decode cX9_look 194 = .ok (.idiv, 1) := by decide +kernel
theorem dX9_look_195 : decode cX9_look 195 = .ok (.goto 16, 3) := by decide +kernel
theorem dX9_look_198 : decode cX9_look 198 = .ok (.iload 6, 2) := by decide +kernel
theorem dX9_look_200 : decode cX9_look 200 = .ok (.iconst 1, 1) := by decide +kernel
theorem dX9_look_201 : decode cX9_look 201 = .ok (.if_icmp .ne 8, 3) := by decide +kernel
theorem dX9_look_204 : decode cX9_look 204 = .ok (.iload 9, 2) := by decide +kernel
theorem dX9_look_206 : decode cX9_look 206 = .ok (.goto 5, 3) := by decide +kernel
theorem dX9_look_209 : decode cX9_look 209 = .ok (.iload 10, 2) := by decide +kernel
theorem dX9_look_211 : decode cX9_look 211 = .ok (.ireturn, 1) := by decide +kernel
theorem dX9_workOf_0 : decode cX9_workOf 0 = .ok (.lconst 0, 1) := by decide +kernel
theorem dX9_workOf_1 : decode cX9_workOf 1 = .ok (.lstore 5, 2) := by decide +kernel
theorem dX9_workOf_3 : decode cX9_workOf 3 = .ok (.iconst 0, 1) := by decide +kernel
theorem dX9_workOf_4 : decode cX9_workOf 4 = .ok (.istore 7, 2) := by decide +kernel
theorem dX9_workOf_6 : decode cX9_workOf 6 = .ok (.iload 7, 2) := by decide +kernel
theorem dX9_workOf_8 : decode cX9_workOf 8 = .ok (.iconst 2, 1) := by decide +kernel
theorem dX9_workOf_9 : decode cX9_workOf 9 = .ok (.if_icmp .ge 96, 3) := by decide +kernel
theorem dX9_workOf_12 : decode cX9_workOf 12 = .ok (.aload_n 0, 1) := by decide +kernel
theorem dX9_workOf_13 : decode cX9_workOf 13 = .ok (.iload_n 1, 1) := by decide +kernel
theorem dX9_workOf_14 : decode cX9_workOf 14 = .ok (.iload_n 2, 1) := by decide +kernel
theorem dX9_workOf_15 : decode cX9_workOf 15 = .ok (.iload_n 3, 1) := by decide +kernel
theorem dX9_workOf_16 : decode cX9_workOf 16 = .ok (.iload 4, 2) := by decide +kernel
theorem dX9_workOf_18 : decode cX9_workOf 18 = .ok (.iload 7, 2) := by decide +kernel
theorem dX9_workOf_20 : decode cX9_workOf 20 = .ok (.invokevirtual 215, 3) := by decide +kernel
theorem dX9_workOf_23 : decode cX9_workOf 23 = .ok (.iconst 0, 1) := by decide +kernel
theorem dX9_workOf_24 : decode cX9_workOf 24 = .ok (.istore 8, 2) := by decide +kernel
theorem dX9_workOf_26 : decode cX9_workOf 26 = .ok (.iload 8, 2) := by decide +kernel
theorem dX9_workOf_28 : decode cX9_workOf 28 = .ok (.bipush 48, 2) := by decide +kernel
theorem dX9_workOf_30 : decode cX9_workOf 30 = .ok (.if_icmp .ge 69, 3) := by decide +kernel
theorem dX9_workOf_33 : decode cX9_workOf 33 = .ok (.aload_n 0, 1) := by decide +kernel
theorem dX9_workOf_34 : decode cX9_workOf 34 = .ok (.iload_n 1, 1) := by decide +kernel
theorem dX9_workOf_35 : decode cX9_workOf 35 = .ok (.iload 8, 2) := by decide +kernel
theorem dX9_workOf_37 : decode cX9_workOf 37 = .ok (.iconst 1, 1) := by decide +kernel
theorem dX9_workOf_38 : decode cX9_workOf 38 = .ok (.iadd, 1) := by decide +kernel
theorem dX9_workOf_39 : decode cX9_workOf 39 = .ok (.invokevirtual 167, 3) := by decide +kernel
theorem dX9_workOf_42 : decode cX9_workOf 42 = .ok (.aload_n 0, 1) := by decide +kernel
theorem dX9_workOf_43 : decode cX9_workOf 43 = .ok (.iload_n 1, 1) := by decide +kernel
theorem dX9_workOf_44 : decode cX9_workOf 44 = .ok (.iload 8, 2) := by decide +kernel
theorem dX9_workOf_46 : decode cX9_workOf 46 = .ok (.invokevirtual 167, 3) := by decide +kernel
theorem dX9_workOf_49 : decode cX9_workOf 49 = .ok (.isub, 1) := by decide +kernel
theorem dX9_workOf_50 : decode cX9_workOf 50 = .ok (.istore 9, 2) := by decide +kernel
theorem dX9_workOf_52 : decode cX9_workOf 52 = .ok (.lload 5, 2) := by decide +kernel
theorem dX9_workOf_54 : decode cX9_workOf 54 = .ok (.aload_n 0, 1) := by decide +kernel
theorem dX9_workOf_55 : decode cX9_workOf 55 = .ok (.getfield 41, 3) := by decide +kernel
theorem dX9_workOf_58 : decode cX9_workOf 58 = .ok (.iload 8, 2) := by decide +kernel
theorem dX9_workOf_60 : decode cX9_workOf 60 = .ok (.iaload, 1) := by decide +kernel
theorem dX9_workOf_61 : decode cX9_workOf 61 = .ok (.aload_n 0, 1) := by decide +kernel
theorem dX9_workOf_62 : decode cX9_workOf 62 = .ok (.getfield 41, 3) := by decide +kernel
theorem dX9_workOf_65 : decode cX9_workOf 65 = .ok (.iload 8, 2) := by decide +kernel
theorem dX9_workOf_67 : decode cX9_workOf 67 = .ok (.iconst 1, 1) := by decide +kernel
theorem dX9_workOf_68 : decode cX9_workOf 68 = .ok (.iadd, 1) := by decide +kernel
theorem dX9_workOf_69 : decode cX9_workOf 69 = .ok (.bipush 48, 2) := by decide +kernel
theorem dX9_workOf_71 : decode cX9_workOf 71 = .ok (.irem, 1) := by decide +kernel
theorem dX9_workOf_72 : decode cX9_workOf 72 = .ok (.iaload, 1) := by decide +kernel
theorem dX9_workOf_73 : decode cX9_workOf 73 = .ok (.iadd, 1) := by decide +kernel
theorem dX9_workOf_74 : decode cX9_workOf 74 = .ok (.i2l, 1) := by decide +kernel
theorem dX9_workOf_75 : decode cX9_workOf 75 = .ok (.iload 7, 2) := by decide +kernel
theorem dX9_workOf_77 : decode cX9_workOf 77 = .ok (.ifCond .ne 8, 3) := by decide +kernel
theorem dX9_workOf_80 : decode cX9_workOf 80 = .ok (.iload 9, 2) := by decide +kernel
theorem dX9_workOf_82 : decode cX9_workOf 82 = .ok (.goto 6, 3) := by decide +kernel
theorem dX9_workOf_85 : decode cX9_workOf 85 = .ok (.iload 9, 2) := by decide +kernel
theorem dX9_workOf_87 : decode cX9_workOf 87 = .ok (.ineg, 1) := by decide +kernel
theorem dX9_workOf_88 : decode cX9_workOf 88 = .ok (.i2l, 1) := by decide +kernel
theorem dX9_workOf_89 : decode cX9_workOf 89 = .ok (.lmul, 1) := by decide +kernel
theorem dX9_workOf_90 : decode cX9_workOf 90 = .ok (.ladd, 1) := by decide +kernel
theorem dX9_workOf_91 : decode cX9_workOf 91 = .ok (.lstore 5, 2) := by decide +kernel
theorem dX9_workOf_93 : decode cX9_workOf 93 = .ok (.iinc 8 1, 3) := by decide +kernel
theorem dX9_workOf_96 : decode cX9_workOf 96 = .ok (.goto (-70), 3) := by decide +kernel
theorem dX9_workOf_99 : decode cX9_workOf 99 = .ok (.iinc 7 1, 3) := by decide +kernel
theorem dX9_workOf_102 : decode cX9_workOf 102 = .ok (.goto (-96), 3) := by decide +kernel
theorem dX9_workOf_105 : decode cX9_workOf 105 = .ok (.lload 5, 2) := by decide +kernel
theorem dX9_workOf_107 : decode cX9_workOf 107 = .ok (.ldc2_w 207, 3) := by decide +kernel
theorem dX9_workOf_110 : decode cX9_workOf 110 = .ok (.ldiv, 1) := by decide +kernel
theorem dX9_workOf_111 : decode cX9_workOf 111 = .ok (.l2i, 1) := by decide +kernel
theorem dX9_workOf_112 : decode cX9_workOf 112 = .ok (.ireturn, 1) := by decide +kernel
theorem dX9_drinkOf_0 : decode cX9_drinkOf 0 = .ok (.aload_n 0, 1) := by decide +kernel
theorem dX9_drinkOf_1 : decode cX9_drinkOf 1 = .ok (.iload_n 1, 1) := by decide +kernel
theorem dX9_drinkOf_2 : decode cX9_drinkOf 2 = .ok (.iload_n 2, 1) := by decide +kernel
theorem dX9_drinkOf_3 : decode cX9_drinkOf 3 = .ok (.iload_n 3, 1) := by decide +kernel
theorem dX9_drinkOf_4 : decode cX9_drinkOf 4 = .ok (.iload 4, 2) := by decide +kernel
theorem dX9_drinkOf_6 : decode cX9_drinkOf 6 = .ok (.iconst 0, 1) := by decide +kernel
theorem dX9_drinkOf_7 : decode cX9_drinkOf 7 = .ok (.invokevirtual 215, 3) := by decide +kernel
theorem dX9_drinkOf_10 : decode cX9_drinkOf 10 = .ok (.aload_n 0, 1) := by decide +kernel
theorem dX9_drinkOf_11 : decode cX9_drinkOf 11 = .ok (.getfield 194, 3) := by decide +kernel
theorem dX9_drinkOf_14 : decode cX9_drinkOf 14 = .ok (.lstore 5, 2) := by decide +kernel
theorem dX9_drinkOf_16 : decode cX9_drinkOf 16 = .ok (.aload_n 0, 1) := by decide +kernel
theorem dX9_drinkOf_17 : decode cX9_drinkOf 17 = .ok (.iload_n 1, 1) := by decide +kernel
theorem dX9_drinkOf_18 : decode cX9_drinkOf 18 = .ok (.iload_n 2, 1) := by decide +kernel
theorem dX9_drinkOf_19 : decode cX9_drinkOf 19 = .ok (.iload_n 3, 1) := by decide +kernel
theorem dX9_drinkOf_20 : decode cX9_drinkOf 20 = .ok (.iload 4, 2) := by decide +kernel
theorem dX9_drinkOf_22 : decode cX9_drinkOf 22 = .ok (.iconst 1, 1) := by decide +kernel
theorem dX9_drinkOf_23 : decode cX9_drinkOf 23 = .ok (.invokevirtual 215, 3) := by decide +kernel
theorem dX9_drinkOf_26 : decode cX9_drinkOf 26 = .ok (.lload 5, 2) := by decide +kernel
theorem dX9_drinkOf_28 : decode cX9_drinkOf 28 = .ok (.aload_n 0, 1) := by decide +kernel
theorem dX9_drinkOf_29 : decode cX9_drinkOf 29 = .ok (.getfield 194, 3) := by decide +kernel
theorem dX9_drinkOf_32 : decode cX9_drinkOf 32 = .ok (.ladd, 1) := by decide +kernel
theorem dX9_drinkOf_33 : decode cX9_drinkOf 33 = .ok (.ldc2_w 165, 3) := by decide +kernel
theorem dX9_drinkOf_36 : decode cX9_drinkOf 36 = .ok (.ldiv, 1) := by decide +kernel
theorem dX9_drinkOf_37 : decode cX9_drinkOf 37 = .ok (.l2i, 1) := by decide +kernel
theorem dX9_drinkOf_38 : decode cX9_drinkOf 38 = .ok (.ireturn, 1) := by decide +kernel
theorem dX9_work_0 : decode cX9_work 0 = .ok (.aload_n 0, 1) := by decide +kernel
theorem dX9_work_1 : decode cX9_work 1 = .ok (.iconst 0, 1) := by decide +kernel
theorem dX9_work_2 : decode cX9_work 2 = .ok (.putfield 71, 3) := by decide +kernel
theorem dX9_work_5 : decode cX9_work 5 = .ok (.iload_n 1, 1) := by decide +kernel
theorem dX9_work_6 : decode cX9_work 6 = .ok (.invokestatic 116, 3) := by decide +kernel
theorem dX9_work_9 : decode cX9_work 9 = .ok (.ifCond .eq 24, 3) := by decide +kernel
theorem dX9_work_12 : decode cX9_work 12 = .ok (.iload_n 2, 1) := by decide +kernel
theorem dX9_work_13 : decode cX9_work 13 = .ok (.iload_n 3, 1) := by decide +kernel
theorem dX9_work_14 : decode cX9_work 14 = .ok (.iload 4, 2) := by decide +kernel
theorem dX9_work_16 : decode cX9_work 16 = .ok (.invokestatic 209, 3) := by decide +kernel
theorem dX9_work_19 : decode cX9_work 19 = .ok (.ifCond .eq 14, 3) := by decide +kernel
theorem dX9_work_22 : decode cX9_work 22 = .ok (.iload 5, 2) := by decide +kernel
theorem dX9_work_24 : decode cX9_work 24 = .ok (.i2l, 1) := by decide +kernel
theorem dX9_work_25 : decode cX9_work 25 = .ok (.lconst 0, 1) := by decide +kernel
theorem dX9_work_26 : decode cX9_work 26 = .ok (.lconst 1, 1) := by decide +kernel
theorem dX9_work_27 : decode cX9_work 27 = .ok (.invokestatic 81, 3) := by decide +kernel
theorem dX9_work_30 : decode cX9_work 30 = .ok (.ifCond .ne 6, 3) := by decide +kernel
theorem dX9_work_33 : decode cX9_work 33 = .ok (.ldc 91, 2) := by decide +kernel
theorem dX9_work_35 : decode cX9_work 35 = .ok (.ireturn, 1) := by decide +kernel
theorem dX9_work_36 : decode cX9_work 36 = .ok (.aload_n 0, 1) := by decide +kernel
theorem dX9_work_37 : decode cX9_work 37 = .ok (.iload_n 1, 1) := by decide +kernel
theorem dX9_work_38 : decode cX9_work 38 = .ok (.invokevirtual 123, 3) := by decide +kernel
theorem dX9_work_41 : decode cX9_work 41 = .ok (.istore 6, 2) := by decide +kernel
theorem dX9_work_43 : decode cX9_work 43 = .ok (.iload 6, 2) := by decide +kernel
theorem dX9_work_45 : decode cX9_work 45 = .ok (.ifCond .ge 8, 3) := by decide +kernel
theorem dX9_work_48 : decode cX9_work 48 = .ok (.iload 6, 2) := by decide +kernel
theorem dX9_work_50 : decode cX9_work 50 = .ok (.goto 29, 3) := by decide +kernel
theorem dX9_work_53 : decode cX9_work 53 = .ok (.iload 5, 2) := by decide +kernel
theorem dX9_work_55 : decode cX9_work 55 = .ok (.ifCond .ne 15, 3) := by decide +kernel
theorem dX9_work_58 : decode cX9_work 58 = .ok (.aload_n 0, 1) := by decide +kernel
theorem dX9_work_59 : decode cX9_work 59 = .ok (.iload_n 1, 1) := by decide +kernel
theorem dX9_work_60 : decode cX9_work 60 = .ok (.iload_n 2, 1) := by decide +kernel
theorem dX9_work_61 : decode cX9_work 61 = .ok (.iload_n 3, 1) := by decide +kernel
theorem dX9_work_62 : decode cX9_work 62 = .ok (.iload 4, 2) := by decide +kernel
theorem dX9_work_64 : decode cX9_work 64 = .ok (.invokevirtual 219, 3) := by decide +kernel
theorem dX9_work_67 : decode cX9_work 67 = .ok (.goto 12, 3) := by decide +kernel
theorem dX9_work_70 : decode cX9_work 70 = .ok (.aload_n 0, 1) := by decide +kernel
theorem dX9_work_71 : decode cX9_work 71 = .ok (.iload_n 1, 1) := by decide +kernel
theorem dX9_work_72 : decode cX9_work 72 = .ok (.iload_n 2, 1) := by decide +kernel
theorem dX9_work_73 : decode cX9_work 73 = .ok (.iload_n 3, 1) := by decide +kernel
theorem dX9_work_74 : decode cX9_work 74 = .ok (.iload 4, 2) := by decide +kernel
theorem dX9_work_76 : decode cX9_work 76 = .ok (.invokevirtual 222, 3) := by decide +kernel
theorem dX9_work_79 : decode cX9_work 79 = .ok (.ireturn, 1) := by decide +kernel
theorem dX9_isCard_0 : decode cX9_isCard 0 = .ok (.iconst 1, 1) := by decide +kernel
theorem dX9_isCard_1 : decode cX9_isCard 1 = .ok (.istore_n 3, 1) := by decide +kernel
theorem dX9_isCard_2 : decode cX9_isCard 2 = .ok (.iconst 0, 1) := by decide +kernel
theorem dX9_isCard_3 : decode cX9_isCard 3 = .ok (.istore 4, 2) := by decide +kernel
theorem dX9_isCard_5 : decode cX9_isCard 5 = .ok (.iload 4, 2) := by decide +kernel
theorem dX9_isCard_7 : decode cX9_isCard 7 = .ok (.bipush 48, 2) := by decide +kernel
theorem dX9_isCard_9 : decode cX9_isCard 9 = .ok (.if_icmp .ge 46, 3) := by decide +kernel
theorem dX9_isCard_12 : decode cX9_isCard 12 = .ok (.iload_n 3, 1) := by decide +kernel
theorem dX9_isCard_13 : decode cX9_isCard 13 = .ok (.ifCond .eq 34, 3) := by decide +kernel
theorem dX9_isCard_16 : decode cX9_isCard 16 = .ok (.aload_n 0, 1) := by decide +kernel
theorem dX9_isCard_17 : decode cX9_isCard 17 = .ok (.getfield 16, 3) := by decide +kernel
theorem dX9_isCard_20 : decode cX9_isCard 20 = .ok (.bipush 60, 2) := by decide +kernel
theorem dX9_isCard_22 : decode cX9_isCard 22 = .ok (.iload_n 1, 1) := by decide +kernel
theorem dX9_isCard_23 : decode cX9_isCard 23 = .ok (.imul, 1) := by decide +kernel
theorem dX9_isCard_24 : decode cX9_isCard 24 = .ok (.iload_n 2, 1) := by decide +kernel
theorem dX9_isCard_25 : decode cX9_isCard 25 = .ok (.iadd, 1) := by decide +kernel
theorem dX9_isCard_26 : decode cX9_isCard 26 = .ok (.iload 4, 2) := by decide +kernel
theorem dX9_isCard_28 : decode cX9_isCard 28 = .ok (.iadd, 1) := by decide +kernel
theorem dX9_isCard_29 : decode cX9_isCard 29 = .ok (.iaload, 1) := by decide +kernel
theorem dX9_isCard_30 : decode cX9_isCard 30 = .ok (.i2l, 1) := by decide +kernel
theorem dX9_isCard_31 : decode cX9_isCard 31 = .ok (.ldc2_w 225, 3) := by decide +kernel
theorem dX9_isCard_34 : decode cX9_isCard 34 = .ok (.ldc2_w 227, 3) := by decide +kernel
theorem dX9_isCard_37 : decode cX9_isCard 37 = .ok (.invokestatic 81, 3) := by decide +kernel
theorem dX9_isCard_40 : decode cX9_isCard 40 = .ok (.ifCond .eq 7, 3) := by decide +kernel
theorem dX9_isCard_43 : decode cX9_isCard 43 = .ok (.iconst 1, 1) := by decide +kernel
theorem dX9_isCard_44 : decode cX9_isCard 44 = .ok (.goto 4, 3) := by decide +kernel
theorem dX9_isCard_47 : decode cX9_isCard 47 = .ok (.iconst 0, 1) := by decide +kernel
theorem dX9_isCard_48 : decode cX9_isCard 48 = .ok (.istore_n 3, 1) := by decide +kernel
theorem dX9_isCard_49 : decode cX9_isCard 49 = .ok (.iinc 4 1, 3) := by decide +kernel
theorem dX9_isCard_52 : decode cX9_isCard 52 = .ok (.goto (-47), 3) := by decide +kernel
theorem dX9_isCard_55 : decode cX9_isCard 55 = .ok (.iload_n 3, 1) := by decide +kernel
theorem dX9_isCard_56 : decode cX9_isCard 56 = .ok (.ireturn, 1) := by decide +kernel
theorem dX9_find_0 : decode cX9_find 0 = .ok (.aload_n 0, 1) := by decide +kernel
theorem dX9_find_1 : decode cX9_find 1 = .ok (.iconst 0, 1) := by decide +kernel
theorem dX9_find_2 : decode cX9_find 2 = .ok (.putfield 71, 3) := by decide +kernel
theorem dX9_find_5 : decode cX9_find 5 = .ok (.iload_n 1, 1) := by decide +kernel
theorem dX9_find_6 : decode cX9_find 6 = .ok (.invokestatic 116, 3) := by decide +kernel
theorem dX9_find_9 : decode cX9_find 9 = .ok (.ifCond .eq 30, 3) := by decide +kernel
theorem dX9_find_12 : decode cX9_find 12 = .ok (.iload_n 2, 1) := by decide +kernel
theorem dX9_find_13 : decode cX9_find 13 = .ok (.invokestatic 171, 3) := by decide +kernel
theorem dX9_find_16 : decode cX9_find 16 = .ok (.ifCond .eq 23, 3) := by decide +kernel
theorem dX9_find_19 : decode cX9_find 19 = .ok (.iload_n 3, 1) := by decide +kernel
theorem dX9_find_20 : decode cX9_find 20 = .ok (.i2l, 1) := by decide +kernel
theorem dX9_find_21 : decode cX9_find 21 = .ok (.lconst 0, 1) := by decide +kernel
theorem dX9_find_22 : decode cX9_find 22 = .ok (.ldc2_w 207, 3) := by decide +kernel
theorem dX9_find_25 : decode cX9_find 25 = .ok (.invokestatic 81, 3) := by decide +kernel
theorem dX9_find_28 : decode cX9_find 28 = .ok (.ifCond .eq 11, 3) := by decide +kernel
theorem dX9_find_31 : decode cX9_find 31 = .ok (.iload 4, 2) := by decide +kernel
theorem dX9_find_33 : decode cX9_find 33 = .ok (.invokestatic 85, 3) := by decide +kernel
theorem dX9_find_36 : decode cX9_find 36 = .ok (.ifCond .ne 6, 3) := by decide +kernel
theorem dX9_find_39 : decode cX9_find 39 = .ok (.ldc 91, 2) := by decide +kernel
theorem dX9_find_41 : decode cX9_find 41 = .ok (.ireturn, 1) := by decide +kernel
theorem dX9_find_42 : decode cX9_find 42 = .ok (.aload_n 0, 1) := by decide +kernel
theorem dX9_find_43 : decode cX9_find 43 = .ok (.getfield 19, 3) := by decide +kernel
theorem dX9_find_46 : decode cX9_find 46 = .ok (.iload_n 1, 1) := by decide +kernel
theorem dX9_find_47 : decode cX9_find 47 = .ok (.baload, 1) := by decide +kernel
theorem dX9_find_48 : decode cX9_find 48 = .ok (.ifCond .eq 13, 3) := by decide +kernel
theorem dX9_find_51 : decode cX9_find 51 = .ok (.aload_n 0, 1) := by decide +kernel
theorem dX9_find_52 : decode cX9_find 52 = .ok (.getfield 7, 3) := by decide +kernel
theorem dX9_find_55 : decode cX9_find 55 = .ok (.iload 4, 2) := by decide +kernel
theorem dX9_find_57 : decode cX9_find 57 = .ok (.iaload, 1) := by decide +kernel
theorem dX9_find_58 : decode cX9_find 58 = .ok (.ifCond .ge 9, 3) := by decide +kernel
theorem dX9_find_61 : decode cX9_find 61 = .ok (.aload_n 0, 1) := by decide +kernel
theorem dX9_find_62 : decode cX9_find 62 = .ok (.iconst 1, 1) := by decide +kernel
theorem dX9_find_63 : decode cX9_find 63 = .ok (.invokevirtual 92, 3) := by decide +kernel
theorem dX9_find_66 : decode cX9_find 66 = .ok (.ireturn, 1) := by decide +kernel
theorem dX9_find_67 : decode cX9_find 67 = .ok (.iload 5, 2) := by decide +kernel
theorem dX9_find_69 : decode cX9_find 69 = .ok (.ifCond .lt 22, 3) := by decide +kernel
theorem dX9_find_72 : decode cX9_find 72 = .ok (.iload 5, 2) := by decide +kernel
theorem dX9_find_74 : decode cX9_find 74 = .ok (.i2l, 1) := by decide +kernel
theorem dX9_find_75 : decode cX9_find 75 = .ok (.ldc2_w 229, 3) := by decide +kernel
theorem dX9_find_78 : decode cX9_find 78 = .ok (.ladd, 1) := by decide +kernel
theorem dX9_find_79 : decode cX9_find 79 = .ok (.aload_n 0, 1) := by decide +kernel
theorem dX9_find_80 : decode cX9_find 80 = .ok (.getfield 13, 3) := by decide +kernel
theorem dX9_find_83 : decode cX9_find 83 = .ok (.iload 4, 2) := by decide +kernel
theorem dX9_find_85 : decode cX9_find 85 = .ok (.iaload, 1) := by decide +kernel
theorem dX9_find_86 : decode cX9_find 86 = .ok (.i2l, 1) := by decide +kernel
theorem dX9_find_87 : decode cX9_find 87 = .ok (.lcmp, 1) := by decide +kernel
theorem dX9_find_88 : decode cX9_find 88 = .ok (.ifCond .le 9, 3) := by decide +kernel
theorem dX9_find_91 : decode cX9_find 91 = .ok (.aload_n 0, 1) := by decide +kernel
theorem dX9_find_92 : decode cX9_find 92 = .ok (.iconst 2, 1) := by decide +kernel
theorem dX9_find_93 : decode cX9_find 93 = .ok (.invokevirtual 92, 3) := by decide +kernel
theorem dX9_find_96 : decode cX9_find 96 = .ok (.ireturn, 1) := by decide +kernel
theorem dX9_find_97 : decode cX9_find 97 = .ok (.aload_n 0, 1) := by decide +kernel
theorem dX9_find_98 : decode cX9_find 98 = .ok (.iload 4, 2) := by decide +kernel
theorem dX9_find_100 : decode cX9_find 100 = .ok (.iload 5, 2) := by decide +kernel
theorem dX9_find_102 : decode cX9_find 102 = .ok (.invokevirtual 231, 3) := by decide +kernel
theorem dX9_find_105 : decode cX9_find 105 = .ok (.ifCond .ne 6, 3) := by decide +kernel
theorem dX9_find_108 : decode cX9_find 108 = .ok (.ldc 91, 2) := by decide +kernel
theorem dX9_find_110 : decode cX9_find 110 = .ok (.ireturn, 1) := by decide +kernel
theorem dX9_find_111 : decode cX9_find 111 = .ok (.aload_n 0, 1) := by decide +kernel
theorem dX9_find_112 : decode cX9_find 112 = .ok (.iconst 0, 1) := by decide +kernel
theorem dX9_find_113 : decode cX9_find 113 = .ok (.putfield 75, 3) := by decide +kernel
theorem dX9_find_116 : decode cX9_find 116 = .ok (.aload_n 0, 1) := by decide +kernel
theorem dX9_find_117 : decode cX9_find 117 = .ok (.getfield 26, 3) := by decide +kernel
theorem dX9_find_120 : decode cX9_find 120 = .ok (.iload_n 1, 1) := by decide +kernel
theorem dX9_find_121 : decode cX9_find 121 = .ok (.iconst 1, 1) := by decide +kernel
theorem dX9_find_122 : decode cX9_find 122 = .ok (.bastore, 1) := by decide +kernel
theorem dX9_find_123 : decode cX9_find 123 = .ok (.aload_n 0, 1) := by decide +kernel
theorem dX9_find_124 : decode cX9_find 124 = .ok (.getfield 29, 3) := by decide +kernel
theorem dX9_find_127 : decode cX9_find 127 = .ok (.iload_n 1, 1) := by decide +kernel
theorem dX9_find_128 : decode cX9_find 128 = .ok (.iload_n 2, 1) := by decide +kernel
theorem dX9_find_129 : decode cX9_find 129 = .ok (.iastore, 1) := by decide +kernel
theorem dX9_find_130 : decode cX9_find 130 = .ok (.aload_n 0, 1) := by decide +kernel
theorem dX9_find_131 : decode cX9_find 131 = .ok (.getfield 32, 3) := by decide +kernel
theorem dX9_find_134 : decode cX9_find 134 = .ok (.iload_n 1, 1) := by decide +kernel
theorem dX9_find_135 : decode cX9_find 135 = .ok (.iload_n 3, 1) := by decide +kernel
theorem dX9_find_136 : decode cX9_find 136 = .ok (.iastore, 1) := by decide +kernel
theorem dX9_find_137 : decode cX9_find 137 = .ok (.iconst 0, 1) := by decide +kernel
theorem dX9_find_138 : decode cX9_find 138 = .ok (.istore 6, 2) := by decide +kernel
theorem dX9_find_140 : decode cX9_find 140 = .ok (.iconst 0, 1) := by decide +kernel
theorem dX9_find_141 : decode cX9_find 141 = .ok (.istore 7, 2) := by decide +kernel
theorem dX9_find_143 : decode cX9_find 143 = .ok (.iload 7, 2) := by decide +kernel
theorem dX9_find_145 : decode cX9_find 145 = .ok (.bipush 48, 2) := by decide +kernel
theorem dX9_find_147 : decode cX9_find 147 = .ok (.if_icmp .ge 62, 3) := by decide +kernel
theorem dX9_find_150 : decode cX9_find 150 = .ok (.aload_n 0, 1) := by decide +kernel
theorem dX9_find_151 : decode cX9_find 151 = .ok (.getfield 35, 3) := by decide +kernel
theorem dX9_find_154 : decode cX9_find 154 = .ok (.bipush 48, 2) := by decide +kernel
theorem dX9_find_156 : decode cX9_find 156 = .ok (.iload_n 1, 1) := by decide +kernel
theorem dX9_find_157 : decode cX9_find 157 = .ok (.imul, 1) := by decide +kernel
theorem dX9_find_158 : decode cX9_find 158 = .ok (.iload 7, 2) := by decide +kernel
theorem dX9_find_160 : decode cX9_find 160 = .ok (.iadd, 1) := by decide +kernel
theorem dX9_find_161 : decode cX9_find 161 = .ok (.aload_n 0, 1) := by decide +kernel
theorem dX9_find_162 : decode cX9_find 162 = .ok (.getfield 16, 3) := by decide +kernel
theorem dX9_find_165 : decode cX9_find 165 = .ok (.bipush 60, 2) := by decide +kernel
theorem dX9_find_167 : decode cX9_find 167 = .ok (.iload 4, 2) := by decide +kernel
theorem dX9_find_169 : decode cX9_find 169 = .ok (.imul, 1) := by decide +kernel
theorem dX9_find_170 : decode cX9_find 170 = .ok (.iload 5, 2) := by decide +kernel
theorem dX9_find_172 : decode cX9_find 172 = .ok (.iadd, 1) := by decide +kernel
theorem dX9_find_173 : decode cX9_find 173 = .ok (.iload 7, 2) := by decide +kernel
theorem dX9_find_175 : decode cX9_find 175 = .ok (.iadd, 1) := by decide +kernel
theorem dX9_find_176 : decode cX9_find 176 = .ok (.iaload, 1) := by decide +kernel
theorem dX9_find_177 : decode cX9_find 177 = .ok (.iastore, 1) := by decide +kernel
theorem dX9_find_178 : decode cX9_find 178 = .ok (.iload 6, 2) := by decide +kernel
theorem dX9_find_180 : decode cX9_find 180 = .ok (.aload_n 0, 1) := by decide +kernel
theorem dX9_find_181 : decode cX9_find 181 = .ok (.getfield 35, 3) := by decide +kernel
theorem dX9_find_184 : decode cX9_find 184 = .ok (.bipush 48, 2) := by decide +kernel
theorem dX9_find_186 : decode cX9_find 186 = .ok (.iload_n 1, 1) := by decide +kernel
theorem dX9_find_187 : decode cX9_find 187 = .ok (.imul, 1) := by decide +kernel
theorem dX9_find_188 : decode cX9_find 188 = .ok (.iload 7, 2) := by decide +kernel
theorem dX9_find_190 : decode cX9_find 190 = .ok (.iadd, 1) := by decide +kernel
theorem dX9_find_191 : decode cX9_find 191 = .ok (.iaload, 1) := by decide +kernel
theorem dX9_find_192 : decode cX9_find 192 = .ok (.ifCond .lt 7, 3) := by decide +kernel
theorem dX9_find_195 : decode cX9_find 195 = .ok (.iconst 1, 1) := by decide +kernel
theorem dX9_find_196 : decode cX9_find 196 = .ok (.goto 4, 3) := by decide +kernel
theorem dX9_find_199 : decode cX9_find 199 = .ok (.iconst 0, 1) := by decide +kernel
theorem dX9_find_200 : decode cX9_find 200 = .ok (.iadd, 1) := by decide +kernel
theorem dX9_find_201 : decode cX9_find 201 = .ok (.istore 6, 2) := by decide +kernel
theorem dX9_find_203 : decode cX9_find 203 = .ok (.iinc 7 1, 3) := by decide +kernel
theorem dX9_find_206 : decode cX9_find 206 = .ok (.goto (-63), 3) := by decide +kernel
theorem dX9_find_209 : decode cX9_find 209 = .ok (.iload 6, 2) := by decide +kernel
theorem dX9_find_211 : decode cX9_find 211 = .ok (.ireturn, 1) := by decide +kernel
theorem dX9_size_0 : decode cX9_size 0 = .ok (.iload_n 0, 1) := by decide +kernel
theorem dX9_size_1 : decode cX9_size 1 = .ok (.ifCond .ge 8, 3) := by decide +kernel
theorem dX9_size_4 : decode cX9_size 4 = .ok (.iload_n 0, 1) := by decide +kernel
theorem dX9_size_5 : decode cX9_size 5 = .ok (.ineg, 1) := by decide +kernel
theorem dX9_size_6 : decode cX9_size 6 = .ok (.goto 4, 3) := by decide +kernel
theorem dX9_size_9 : decode cX9_size 9 = .ok (.iload_n 0, 1) := by decide +kernel
theorem dX9_size_10 : decode cX9_size 10 = .ok (.ireturn, 1) := by decide +kernel
theorem dX9_misfitOf_0 : decode cX9_misfitOf 0 = .ok (.aload_n 0, 1) := by decide +kernel
theorem dX9_misfitOf_1 : decode cX9_misfitOf 1 = .ok (.bipush 6, 2) := by decide +kernel
theorem dX9_misfitOf_3 : decode cX9_misfitOf 3 = .ok (.iload_n 1, 1) := by decide +kernel
theorem dX9_misfitOf_4 : decode cX9_misfitOf 4 = .ok (.invokevirtual 128, 3) := by decide +kernel
theorem dX9_misfitOf_7 : decode cX9_misfitOf 7 = .ok (.aload_n 0, 1) := by decide +kernel
theorem dX9_misfitOf_8 : decode cX9_misfitOf 8 = .ok (.getfield 23, 3) := by decide +kernel
theorem dX9_misfitOf_11 : decode cX9_misfitOf 11 = .ok (.bipush 83, 2) := by decide +kernel
theorem dX9_misfitOf_13 : decode cX9_misfitOf 13 = .ok (.iload_n 2, 1) := by decide +kernel
theorem dX9_misfitOf_14 : decode cX9_misfitOf 14 = .ok (.iastore, 1) := by decide +kernel
theorem dX9_misfitOf_15 : decode cX9_misfitOf 15 = .ok (.aload_n 0, 1) := by decide +kernel
theorem dX9_misfitOf_16 : decode cX9_misfitOf 16 = .ok (.bipush 6, 2) := by decide +kernel
theorem dX9_misfitOf_18 : decode cX9_misfitOf 18 = .ok (.aload_n 0, 1) := by decide +kernel
theorem dX9_misfitOf_19 : decode cX9_misfitOf 19 = .ok (.getfield 29, 3) := by decide +kernel
theorem dX9_misfitOf_22 : decode cX9_misfitOf 22 = .ok (.iload_n 1, 1) := by decide +kernel
theorem dX9_misfitOf_23 : decode cX9_misfitOf 23 = .ok (.iaload, 1) := by decide +kernel
theorem dX9_misfitOf_24 : decode cX9_misfitOf 24 = .ok (.aload_n 0, 1) := by decide +kernel
theorem dX9_misfitOf_25 : decode cX9_misfitOf 25 = .ok (.getfield 32, 3) := by decide +kernel
theorem dX9_misfitOf_28 : decode cX9_misfitOf 28 = .ok (.iload_n 1, 1) := by decide +kernel
theorem dX9_misfitOf_29 : decode cX9_misfitOf 29 = .ok (.iaload, 1) := by decide +kernel
theorem dX9_misfitOf_30 : decode cX9_misfitOf 30 = .ok (.iconst 4, 1) := by decide +kernel
theorem dX9_misfitOf_31 : decode cX9_misfitOf 31 = .ok (.iconst 0, 1) := by decide +kernel
theorem dX9_misfitOf_32 : decode cX9_misfitOf 32 = .ok (.invokevirtual 215, 3) := by decide +kernel
theorem dX9_misfitOf_35 : decode cX9_misfitOf 35 = .ok (.iconst 0, 1) := by decide +kernel
theorem dX9_misfitOf_36 : decode cX9_misfitOf 36 = .ok (.istore_n 3, 1) := by decide +kernel
theorem dX9_misfitOf_37 : decode cX9_misfitOf 37 = .ok (.iconst 0, 1) := by decide +kernel
theorem dX9_misfitOf_38 : decode cX9_misfitOf 38 = .ok (.istore 4, 2) := by decide +kernel
theorem dX9_misfitOf_40 : decode cX9_misfitOf 40 = .ok (.iload 4, 2) := by decide +kernel
theorem dX9_misfitOf_42 : decode cX9_misfitOf 42 = .ok (.bipush 48, 2) := by decide +kernel
theorem dX9_misfitOf_44 : decode cX9_misfitOf 44 = .ok (.if_icmp .ge 48, 3) := by decide +kernel
theorem dX9_misfitOf_47 : decode cX9_misfitOf 47 = .ok (.aload_n 0, 1) := by decide +kernel
theorem dX9_misfitOf_48 : decode cX9_misfitOf 48 = .ok (.getfield 35, 3) := by decide +kernel
theorem dX9_misfitOf_51 : decode cX9_misfitOf 51 = .ok (.bipush 48, 2) := by decide +kernel
theorem dX9_misfitOf_53 : decode cX9_misfitOf 53 = .ok (.iload_n 1, 1) := by decide +kernel
theorem dX9_misfitOf_54 : decode cX9_misfitOf 54 = .ok (.imul, 1) := by decide +kernel
theorem dX9_misfitOf_55 : decode cX9_misfitOf 55 = .ok (.iload 4, 2) := by decide +kernel
theorem dX9_misfitOf_57 : decode cX9_misfitOf 57 = .ok (.iadd, 1) := by decide +kernel
theorem dX9_misfitOf_58 : decode cX9_misfitOf 58 = .ok (.iaload, 1) := by decide +kernel
theorem dX9_misfitOf_59 : decode cX9_misfitOf 59 = .ok (.istore 5, 2) := by decide +kernel
theorem dX9_misfitOf_61 : decode cX9_misfitOf 61 = .ok (.iload_n 3, 1) := by decide +kernel
theorem dX9_misfitOf_62 : decode cX9_misfitOf 62 = .ok (.iload 5, 2) := by decide +kernel
theorem dX9_misfitOf_64 : decode cX9_misfitOf 64 = .ok (.ifCond .ge 7, 3) := by decide +kernel
theorem dX9_misfitOf_67 : decode cX9_misfitOf 67 = .ok (.iconst 0, 1) := by decide +kernel
theorem dX9_misfitOf_68 : decode cX9_misfitOf 68 = .ok (.goto 16, 3) := by decide +kernel
theorem dX9_misfitOf_71 : decode cX9_misfitOf 71 = .ok (.aload_n 0, 1) := by decide +kernel
theorem dX9_misfitOf_72 : decode cX9_misfitOf 72 = .ok (.getfield 41, 3) := by decide +kernel
theorem dX9_misfitOf_75 : decode cX9_misfitOf 75 = .ok (.iload 4, 2) := by decide +kernel
theorem dX9_misfitOf_77 : decode cX9_misfitOf 77 = .ok (.iaload, 1) := by decide +kernel
theorem dX9_misfitOf_78 : decode cX9_misfitOf 78 = .ok (.iload 5, 2) := by decide +kernel
theorem dX9_misfitOf_80 : decode cX9_misfitOf 80 = .ok (.isub, 1) := by decide +kernel
theorem dX9_misfitOf_81 : decode cX9_misfitOf 81 = .ok (.invokestatic 234, 3) := by decide +kernel
theorem dX9_misfitOf_84 : decode cX9_misfitOf 84 = .ok (.iadd, 1) := by decide +kernel
theorem dX9_misfitOf_85 : decode cX9_misfitOf 85 = .ok (.istore_n 3, 1) := by decide +kernel
theorem dX9_misfitOf_86 : decode cX9_misfitOf 86 = .ok (.iinc 4 1, 3) := by decide +kernel
theorem dX9_misfitOf_89 : decode cX9_misfitOf 89 = .ok (.goto (-49), 3) := by decide +kernel
theorem dX9_misfitOf_92 : decode cX9_misfitOf 92 = .ok (.iload_n 3, 1) := by decide +kernel
theorem dX9_misfitOf_93 : decode cX9_misfitOf 93 = .ok (.ireturn, 1) := by decide +kernel
theorem dX9_misfit_0 : decode cX9_misfit 0 = .ok (.aload_n 0, 1) := by decide +kernel
theorem dX9_misfit_1 : decode cX9_misfit 1 = .ok (.iconst 0, 1) := by decide +kernel
theorem dX9_misfit_2 : decode cX9_misfit 2 = .ok (.putfield 71, 3) := by decide +kernel
theorem dX9_misfit_5 : decode cX9_misfit 5 = .ok (.iload_n 1, 1) := by decide +kernel
theorem dX9_misfit_6 : decode cX9_misfit 6 = .ok (.invokestatic 116, 3) := by decide +kernel
theorem dX9_misfit_9 : decode cX9_misfit 9 = .ok (.ifCond .eq 15, 3) := by decide +kernel
theorem dX9_misfit_12 : decode cX9_misfit 12 = .ok (.iload_n 2, 1) := by decide +kernel
theorem dX9_misfit_13 : decode cX9_misfit 13 = .ok (.i2l, 1) := by decide +kernel
theorem dX9_misfit_14 : decode cX9_misfit 14 = .ok (.lconst 0, 1) := by decide +kernel
theorem dX9_misfit_15 : decode cX9_misfit 15 = .ok (.ldc2_w 126, 3) := by decide +kernel
theorem dX9_misfit_18 : decode cX9_misfit 18 = .ok (.invokestatic 81, 3) := by decide +kernel
theorem dX9_misfit_21 : decode cX9_misfit 21 = .ok (.ifCond .ne 6, 3) := by decide +kernel
theorem dX9_misfit_24 : decode cX9_misfit 24 = .ok (.ldc 91, 2) := by decide +kernel
theorem dX9_misfit_26 : decode cX9_misfit 26 = .ok (.ireturn, 1) := by decide +kernel
theorem dX9_misfit_27 : decode cX9_misfit 27 = .ok (.aload_n 0, 1) := by decide +kernel
theorem dX9_misfit_28 : decode cX9_misfit 28 = .ok (.getfield 26, 3) := by decide +kernel
theorem dX9_misfit_31 : decode cX9_misfit 31 = .ok (.iload_n 1, 1) := by decide +kernel
theorem dX9_misfit_32 : decode cX9_misfit 32 = .ok (.baload, 1) := by decide +kernel
theorem dX9_misfit_33 : decode cX9_misfit 33 = .ok (.ifCond .ne 6, 3) := by decide +kernel
theorem dX9_misfit_36 : decode cX9_misfit 36 = .ok (.ldc 237, 2) := by decide +kernel
theorem dX9_misfit_38 : decode cX9_misfit 38 = .ok (.ireturn, 1) := by decide +kernel
theorem dX9_misfit_39 : decode cX9_misfit 39 = .ok (.aload_n 0, 1) := by decide +kernel
theorem dX9_misfit_40 : decode cX9_misfit 40 = .ok (.iconst 0, 1) := by decide +kernel
theorem dX9_misfit_41 : decode cX9_misfit 41 = .ok (.putfield 75, 3) := by decide +kernel
theorem dX9_misfit_44 : decode cX9_misfit 44 = .ok (.aload_n 0, 1) := by decide +kernel
theorem dX9_misfit_45 : decode cX9_misfit 45 = .ok (.iload_n 1, 1) := by decide +kernel
theorem dX9_misfit_46 : decode cX9_misfit 46 = .ok (.iload_n 2, 1) := by decide +kernel
theorem dX9_misfit_47 : decode cX9_misfit 47 = .ok (.invokevirtual 238, 3) := by decide +kernel
theorem dX9_misfit_50 : decode cX9_misfit 50 = .ok (.ireturn, 1) := by decide +kernel
theorem dX9_named_0 : decode cX9_named 0 = .ok (.aload_n 0, 1) := by decide +kernel
theorem dX9_named_1 : decode cX9_named 1 = .ok (.iconst 0, 1) := by decide +kernel
theorem dX9_named_2 : decode cX9_named 2 = .ok (.putfield 71, 3) := by decide +kernel
theorem dX9_named_5 : decode cX9_named 5 = .ok (.iload_n 1, 1) := by decide +kernel
theorem dX9_named_6 : decode cX9_named 6 = .ok (.invokestatic 116, 3) := by decide +kernel
theorem dX9_named_9 : decode cX9_named 9 = .ok (.ifCond .eq 32, 3) := by decide +kernel
theorem dX9_named_12 : decode cX9_named 12 = .ok (.iload_n 2, 1) := by decide +kernel
theorem dX9_named_13 : decode cX9_named 13 = .ok (.i2l, 1) := by decide +kernel
theorem dX9_named_14 : decode cX9_named 14 = .ok (.lconst 0, 1) := by decide +kernel
theorem dX9_named_15 : decode cX9_named 15 = .ok (.ldc2_w 89, 3) := by decide +kernel
theorem dX9_named_18 : decode cX9_named 18 = .ok (.invokestatic 81, 3) := by decide +kernel
theorem dX9_named_21 : decode cX9_named 21 = .ok (.ifCond .eq 20, 3) := by decide +kernel
theorem dX9_named_24 : decode cX9_named 24 = .ok (.iload_n 2, 1) := by decide +kernel
theorem dX9_named_25 : decode cX9_named 25 = .ok (.iconst 2, 1) := by decide +kernel
theorem dX9_named_26 : decode cX9_named 26 = .ok (.if_icmp .ne 18, 3) := by decide +kernel
theorem dX9_named_29 : decode cX9_named 29 = .ok (.iload_n 3, 1) := by decide +kernel
theorem dX9_named_30 : decode cX9_named 30 = .ok (.i2l, 1) := by decide +kernel
theorem dX9_named_31 : decode cX9_named 31 = .ok (.lconst 0, 1) := by decide +kernel
theorem dX9_named_32 : decode cX9_named 32 = .ok (.ldc2_w 241, 3) := by decide +kernel
theorem dX9_named_35 : decode cX9_named 35 = .ok (.invokestatic 81, 3) := by decide +kernel
theorem dX9_named_38 : decode cX9_named 38 = .ok (.ifCond .ne 6, 3) := by decide +kernel
theorem dX9_named_41 : decode cX9_named 41 = .ok (.ldc 91, 2) := by decide +kernel
theorem dX9_named_43 : decode cX9_named 43 = .ok (.ireturn, 1) := by decide +kernel
theorem dX9_named_44 : decode cX9_named 44 = .ok (.aload_n 0, 1) := by decide +kernel
theorem dX9_named_45 : decode cX9_named 45 = .ok (.getfield 26, 3) := by decide +kernel
theorem dX9_named_48 : decode cX9_named 48 = .ok (.iload_n 1, 1) := by decide +kernel
theorem dX9_named_49 : decode cX9_named 49 = .ok (.baload, 1) := by decide +kernel
theorem dX9_named_50 : decode cX9_named 50 = .ok (.ifCond .ne 6, 3) := by decide +kernel
theorem dX9_named_53 : decode cX9_named 53 = .ok (.ldc 237, 2) := by decide +kernel
theorem dX9_named_55 : decode cX9_named 55 = .ok (.ireturn, 1) := by decide +kernel
theorem dX9_named_56 : decode cX9_named 56 = .ok (.aload_n 0, 1) := by decide +kernel
theorem dX9_named_57 : decode cX9_named 57 = .ok (.iconst 0, 1) := by decide +kernel
theorem dX9_named_58 : decode cX9_named 58 = .ok (.putfield 75, 3) := by decide +kernel
theorem dX9_named_61 : decode cX9_named 61 = .ok (.iconst 0, 1) := by decide +kernel
theorem dX9_named_62 : decode cX9_named 62 = .ok (.istore 4, 2) := by decide +kernel
theorem dX9_named_64 : decode cX9_named 64 = .ok (.iconst 0, 1) := by decide +kernel
theorem dX9_named_65 : decode cX9_named 65 = .ok (.istore 5, 2) := by decide +kernel
theorem dX9_named_67 : decode cX9_named 67 = .ok (.iload 5, 2) := by decide +kernel
theorem dX9_named_69 : decode cX9_named 69 = .ok (.bipush 13, 2) := by decide +kernel
theorem dX9_named_71 : decode cX9_named 71 = .ok (.if_icmp .ge 49, 3) := by decide +kernel
theorem dX9_named_74 : decode cX9_named 74 = .ok (.aload_n 0, 1) := by decide +kernel
theorem dX9_named_75 : decode cX9_named 75 = .ok (.getfield 44, 3) := by decide +kernel
theorem dX9_named_78 : decode cX9_named 78 = .ok (.iload 5, 2) := by decide +kernel
theorem dX9_named_80 : decode cX9_named 80 = .ok (.aload_n 0, 1) := by decide +kernel
theorem dX9_named_81 : decode cX9_named 81 = .ok (.iload_n 1, 1) := by decide +kernel
theorem dX9_named_82 : decode cX9_named 82 = .ok (.iload 5, 2) := by decide +kernel
theorem dX9_named_84 : decode cX9_named 84 = .ok (.invokevirtual 238, 3) := by decide +kernel
theorem dX9_named_87 : decode cX9_named 87 = .ok (.iastore, 1) := by decide +kernel
theorem dX9_named_88 : decode cX9_named 88 = .ok (.aload_n 0, 1) := by decide +kernel
theorem dX9_named_89 : decode cX9_named 89 = .ok (.getfield 44, 3) := by decide +kernel
theorem dX9_named_92 : decode cX9_named 92 = .ok (.iload 5, 2) := by decide +kernel
theorem dX9_named_94 : decode cX9_named 94 = .ok (.iaload, 1) := by decide +kernel
theorem dX9_named_95 : decode cX9_named 95 = .ok (.aload_n 0, 1) := by decide +kernel
theorem dX9_named_96 : decode cX9_named 96 = .ok (.getfield 44, 3) := by decide +kernel
theorem dX9_named_99 : decode cX9_named 99 = .ok (.iload 4, 2) := by decide +kernel
theorem dX9_named_101 : decode cX9_named 101 = .ok (.iaload, 1) := by decide +kernel
theorem dX9_named_102 : decode cX9_named 102 = .ok (.if_icmp .ge 8, 3) := by decide +kernel
theorem dX9_named_105 : decode cX9_named 105 = .ok (.iload 5, 2) := by decide +kernel
theorem dX9_named_107 : decode cX9_named 107 = .ok (.goto 5, 3) := by decide +kernel
theorem dX9_named_110 : decode cX9_named 110 = .ok (.iload 4, 2) := by decide +kernel
theorem dX9_named_112 : decode cX9_named 112 = .ok (.istore 4, 2) := by decide +kernel
theorem dX9_named_114 : decode cX9_named 114 = .ok (.iinc 5 1, 3) := by decide +kernel
theorem dX9_named_117 : decode cX9_named 117 = .ok (.goto (-50), 3) := by decide +kernel
theorem dX9_named_120 : decode cX9_named 120 = .ok (.iconst 0, 1) := by decide +kernel
theorem dX9_named_121 : decode cX9_named 121 = .ok (.istore 5, 2) := by decide +kernel
theorem dX9_named_123 : decode cX9_named 123 = .ok (.iconst 0, 1) := by decide +kernel
theorem dX9_named_124 : decode cX9_named 124 = .ok (.istore 6, 2) := by decide +kernel
theorem dX9_named_126 : decode cX9_named 126 = .ok (.iload 6, 2) := by decide +kernel
theorem dX9_named_128 : decode cX9_named 128 = .ok (.bipush 13, 2) := by decide +kernel
theorem dX9_named_130 : decode cX9_named 130 = .ok (.if_icmp .ge 49, 3) := by decide +kernel
theorem dX9_named_133 : decode cX9_named 133 = .ok (.iload 5, 2) := by decide +kernel
theorem dX9_named_135 : decode cX9_named 135 = .ok (.iload 6, 2) := by decide +kernel
theorem dX9_named_137 : decode cX9_named 137 = .ok (.iload 4, 2) := by decide +kernel
theorem dX9_named_139 : decode cX9_named 139 = .ok (.if_icmp .eq 30, 3) := by decide +kernel
theorem dX9_named_142 : decode cX9_named 142 = .ok (.aload_n 0, 1) := by decide +kernel
theorem dX9_named_143 : decode cX9_named 143 = .ok (.getfield 44, 3) := by decide +kernel
theorem dX9_named_146 : decode cX9_named 146 = .ok (.iload 6, 2) := by decide +kernel
theorem dX9_named_148 : decode cX9_named 148 = .ok (.iaload, 1) := by decide +kernel
theorem dX9_named_149 : decode cX9_named 149 = .ok (.i2l, 1) := by decide +kernel
theorem dX9_named_150 : decode cX9_named 150 = .ok (.aload_n 0, 1) := by decide +kernel
theorem dX9_named_151 : decode cX9_named 151 = .ok (.getfield 44, 3) := by decide +kernel
theorem dX9_named_154 : decode cX9_named 154 = .ok (.iload 4, 2) := by decide +kernel
theorem dX9_named_156 : decode cX9_named 156 = .ok (.iaload, 1) := by decide +kernel
theorem dX9_named_157 : decode cX9_named 157 = .ok (.i2l, 1) := by decide +kernel
theorem dX9_named_158 : decode cX9_named 158 = .ok (.iload_n 3, 1) := by decide +kernel
theorem dX9_named_159 : decode cX9_named 159 = .ok (.i2l, 1) := by decide +kernel
theorem dX9_named_160 : decode cX9_named 160 = .ok (.ladd, 1) := by decide +kernel
theorem dX9_named_161 : decode cX9_named 161 = .ok (.lcmp, 1) := by decide +kernel
theorem dX9_named_162 : decode cX9_named 162 = .ok (.ifCond .gt 7, 3) := by decide +kernel
theorem dX9_named_165 : decode cX9_named 165 = .ok (.iconst 1, 1) := by decide +kernel
theorem dX9_named_166 : decode cX9_named 166 = .ok (.goto 4, 3) := by decide +kernel
theorem dX9_named_169 : decode cX9_named 169 = .ok (.iconst 0, 1) := by decide +kernel
theorem dX9_named_170 : decode cX9_named 170 = .ok (.iadd, 1) := by decide +kernel
theorem dX9_named_171 : decode cX9_named 171 = .ok (.istore 5, 2) := by decide +kernel
theorem dX9_named_173 : decode cX9_named 173 = .ok (.iinc 6 1, 3) := by decide +kernel
theorem dX9_named_176 : decode cX9_named 176 = .ok (.goto (-50), 3) := by decide +kernel
theorem dX9_named_179 : decode cX9_named 179 = .ok (.iload_n 2, 1) := by decide +kernel
theorem dX9_named_180 : decode cX9_named 180 = .ok (.ifCond .ne 8, 3) := by decide +kernel
theorem dX9_named_183 : decode cX9_named 183 = .ok (.iload 4, 2) := by decide +kernel
theorem dX9_named_185 : decode cX9_named 185 = .ok (.goto 20, 3) := by decide +kernel
theorem dX9_named_188 : decode cX9_named 188 = .ok (.iload_n 2, 1) := by decide +kernel
theorem dX9_named_189 : decode cX9_named 189 = .ok (.iconst 1, 1) := by decide +kernel
theorem dX9_named_190 : decode cX9_named 190 = .ok (.if_icmp .ne 13, 3) := by decide +kernel
theorem dX9_named_193 : decode cX9_named 193 = .ok (.aload_n 0, 1) := by decide +kernel
theorem dX9_named_194 : decode cX9_named 194 = .ok (.getfield 44, 3) := by decide +kernel
theorem dX9_named_197 : decode cX9_named 197 = .ok (.iload 4, 2) := by decide +kernel
theorem dX9_named_199 : decode cX9_named 199 = .ok (.iaload, 1) := by decide +kernel
theorem dX9_named_200 : decode cX9_named 200 = .ok (.goto 5, 3) := by decide +kernel
theorem dX9_named_203 : decode cX9_named 203 = .ok (.iload 5, 2) := by decide +kernel
theorem dX9_named_205 : decode cX9_named 205 = .ok (.ireturn, 1) := by decide +kernel
theorem dX9_whose_0 : decode cX9_whose 0 = .ok (.aload_n 0, 1) := by decide +kernel
theorem dX9_whose_1 : decode cX9_whose 1 = .ok (.iconst 0, 1) := by decide +kernel
theorem dX9_whose_2 : decode cX9_whose 2 = .ok (.putfield 71, 3) := by decide +kernel
theorem dX9_whose_5 : decode cX9_whose 5 = .ok (.iload_n 1, 1) := by decide +kernel
theorem dX9_whose_6 : decode cX9_whose 6 = .ok (.invokestatic 85, 3) := by decide +kernel
theorem dX9_whose_9 : decode cX9_whose 9 = .ok (.ifCond .eq 28, 3) := by decide +kernel
theorem dX9_whose_12 : decode cX9_whose 12 = .ok (.iload_n 3, 1) := by decide +kernel
theorem dX9_whose_13 : decode cX9_whose 13 = .ok (.i2l, 1) := by decide +kernel
theorem dX9_whose_14 : decode cX9_whose 14 = .ok (.lconst 0, 1) := by decide +kernel
theorem dX9_whose_15 : decode cX9_whose 15 = .ok (.ldc2_w 207, 3) := by decide +kernel
theorem dX9_whose_18 : decode cX9_whose 18 = .ok (.invokestatic 81, 3) := by decide +kernel
theorem dX9_whose_21 : decode cX9_whose 21 = .ok (.ifCond .eq 16, 3) := by decide +kernel
theorem dX9_whose_24 : decode cX9_whose 24 = .ok (.iload 4, 2) := by decide +kernel
theorem dX9_whose_26 : decode cX9_whose 26 = .ok (.i2l, 1) := by decide +kernel
theorem dX9_whose_27 : decode cX9_whose 27 = .ok (.lconst 0, 1) := by decide +kernel
theorem dX9_whose_28 : decode cX9_whose 28 = .ok (.ldc2_w 89, 3) := by decide +kernel
theorem dX9_whose_31 : decode cX9_whose 31 = .ok (.invokestatic 81, 3) := by decide +kernel
theorem dX9_whose_34 : decode cX9_whose 34 = .ok (.ifCond .ne 6, 3) := by decide +kernel
theorem dX9_whose_37 : decode cX9_whose 37 = .ok (.ldc 91, 2) := by decide +kernel
theorem dX9_whose_39 : decode cX9_whose 39 = .ok (.ireturn, 1) := by decide +kernel
theorem dX9_whose_40 : decode cX9_whose 40 = .ok (.aload_n 0, 1) := by decide +kernel
theorem dX9_whose_41 : decode cX9_whose 41 = .ok (.getfield 7, 3) := by decide +kernel
theorem dX9_whose_44 : decode cX9_whose 44 = .ok (.iload_n 1, 1) := by decide +kernel
theorem dX9_whose_45 : decode cX9_whose 45 = .ok (.iaload, 1) := by decide +kernel
theorem dX9_whose_46 : decode cX9_whose 46 = .ok (.ifCond .ge 9, 3) := by decide +kernel
theorem dX9_whose_49 : decode cX9_whose 49 = .ok (.aload_n 0, 1) := by decide +kernel
theorem dX9_whose_50 : decode cX9_whose 50 = .ok (.iconst 1, 1) := by decide +kernel
theorem dX9_whose_51 : decode cX9_whose 51 = .ok (.invokevirtual 92, 3) := by decide +kernel
theorem dX9_whose_54 : decode cX9_whose 54 = .ok (.ireturn, 1) := by decide +kernel
theorem dX9_whose_55 : decode cX9_whose 55 = .ok (.iload_n 2, 1) := by decide +kernel
theorem dX9_whose_56 : decode cX9_whose 56 = .ok (.ifCond .lt 20, 3) := by decide +kernel
theorem dX9_whose_59 : decode cX9_whose 59 = .ok (.iload_n 2, 1) := by decide +kernel
theorem dX9_whose_60 : decode cX9_whose 60 = .ok (.i2l, 1) := by decide +kernel
theorem dX9_whose_61 : decode cX9_whose 61 = .ok (.ldc2_w 229, 3) := by decide +kernel
theorem dX9_whose_64 : decode cX9_whose 64 = .ok (.ladd, 1) := by decide +kernel
theorem dX9_whose_65 : decode cX9_whose 65 = .ok (.aload_n 0, 1) := by decide +kernel
theorem dX9_whose_66 : decode cX9_whose 66 = .ok (.getfield 13, 3) := by decide +kernel
theorem dX9_whose_69 : decode cX9_whose 69 = .ok (.iload_n 1, 1) := by decide +kernel
theorem dX9_whose_70 : decode cX9_whose 70 = .ok (.iaload, 1) := by decide +kernel
theorem dX9_whose_71 : decode cX9_whose 71 = .ok (.i2l, 1) := by decide +kernel
theorem dX9_whose_72 : decode cX9_whose 72 = .ok (.lcmp, 1) := by decide +kernel
theorem dX9_whose_73 : decode cX9_whose 73 = .ok (.ifCond .le 9, 3) := by decide +kernel
theorem dX9_whose_76 : decode cX9_whose 76 = .ok (.aload_n 0, 1) := by decide +kernel
theorem dX9_whose_77 : decode cX9_whose 77 = .ok (.iconst 2, 1) := by decide +kernel
theorem dX9_whose_78 : decode cX9_whose 78 = .ok (.invokevirtual 92, 3) := by decide +kernel
theorem dX9_whose_81 : decode cX9_whose 81 = .ok (.ireturn, 1) := by decide +kernel
theorem dX9_whose_82 : decode cX9_whose 82 = .ok (.aload_n 0, 1) := by decide +kernel
theorem dX9_whose_83 : decode cX9_whose 83 = .ok (.iload_n 1, 1) := by decide +kernel
theorem dX9_whose_84 : decode cX9_whose 84 = .ok (.iload_n 2, 1) := by decide +kernel
theorem dX9_whose_85 : decode cX9_whose 85 = .ok (.invokevirtual 231, 3) := by decide +kernel
theorem dX9_whose_88 : decode cX9_whose 88 = .ok (.ifCond .ne 6, 3) := by decide +kernel
theorem dX9_whose_91 : decode cX9_whose 91 = .ok (.ldc 91, 2) := by decide +kernel
theorem dX9_whose_93 : decode cX9_whose 93 = .ok (.ireturn, 1) := by decide +kernel
theorem dX9_whose_94 : decode cX9_whose 94 = .ok (.aload_n 0, 1) := by decide +kernel
theorem dX9_whose_95 : decode cX9_whose 95 = .ok (.iconst 0, 1) := by decide +kernel
theorem dX9_whose_96 : decode cX9_whose 96 = .ok (.putfield 75, 3) := by decide +kernel
theorem dX9_whose_99 : decode cX9_whose 99 = .ok (.ldc 158, 2) := by decide +kernel
theorem dX9_whose_101 : decode cX9_whose 101 = .ok (.istore 5, 2) := by decide +kernel
theorem dX9_whose_103 : decode cX9_whose 103 = .ok (.ldc 158, 2) := by decide +kernel
theorem dX9_whose_105 : decode cX9_whose 105 = .ok (.istore 6, 2) := by decide +kernel
theorem dX9_whose_107 : decode cX9_whose 107 = .ok (.iconst 0, 1) := by decide +kernel
theorem dX9_whose_108 : decode cX9_whose 108 = .ok (.istore 7, 2) := by decide +kernel
theorem dX9_whose_110 : decode cX9_whose 110 = .ok (.iconst 0, 1) := by decide +kernel
theorem dX9_whose_111 : decode cX9_whose 111 = .ok (.istore 8, 2) := by decide +kernel
theorem dX9_whose_113 : decode cX9_whose 113 = .ok (.iload 8, 2) := by decide +kernel
theorem dX9_whose_115 : decode cX9_whose 115 = .ok (.bipush 6, 2) := by decide +kernel
theorem dX9_whose_117 : decode cX9_whose 117 = .ok (.if_icmp .ge 135, 3) := by decide +kernel
theorem dX9_whose_120 : decode cX9_whose 120 = .ok (.bipush (-6), 2) := by decide +kernel
theorem dX9_whose_122 : decode cX9_whose 122 = .ok (.istore 9, 2) := by decide +kernel
theorem dX9_whose_124 : decode cX9_whose 124 = .ok (.iload 9, 2) := by decide +kernel
theorem dX9_whose_126 : decode cX9_whose 126 = .ok (.bipush 7, 2) := by decide +kernel
theorem dX9_whose_128 : decode cX9_whose 128 = .ok (.if_icmp .ge 118, 3) := by decide +kernel
theorem dX9_whose_131 : decode cX9_whose 131 = .ok (.aload_n 0, 1) := by decide +kernel
theorem dX9_whose_132 : decode cX9_whose 132 = .ok (.getfield 19, 3) := by decide +kernel
theorem dX9_whose_135 : decode cX9_whose 135 = .ok (.iload 8, 2) := by decide +kernel
theorem dX9_whose_137 : decode cX9_whose 137 = .ok (.baload, 1) := by decide +kernel
theorem dX9_whose_138 : decode cX9_whose 138 = .ok (.ifCond .eq 108, 3) := by decide +kernel
theorem dX9_whose_141 : decode cX9_whose 141 = .ok (.aload_n 0, 1) := by decide +kernel
theorem dX9_whose_142 : decode cX9_whose 142 = .ok (.iload 8, 2) := by decide +kernel
theorem dX9_whose_144 : decode cX9_whose 144 = .ok (.iload 9, 2) := by decide +kernel
theorem dX9_whose_146 : decode cX9_whose 146 = .ok (.iload_n 3, 1) := by decide +kernel
theorem dX9_whose_147 : decode cX9_whose 147 = .ok (.iconst 4, 1) := by decide +kernel
theorem dX9_whose_148 : decode cX9_whose 148 = .ok (.iconst 0, 1) := by decide +kernel
theorem dX9_whose_149 : decode cX9_whose 149 = .ok (.invokevirtual 215, 3) := by decide +kernel
theorem dX9_whose_152 : decode cX9_whose 152 = .ok (.iconst 0, 1) := by decide +kernel
theorem dX9_whose_153 : decode cX9_whose 153 = .ok (.istore 10, 2) := by decide +kernel
theorem dX9_whose_155 : decode cX9_whose 155 = .ok (.iconst 0, 1) := by decide +kernel
theorem dX9_whose_156 : decode cX9_whose 156 = .ok (.istore 11, 2) := by decide +kernel
theorem dX9_whose_158 : decode cX9_whose 158 = .ok (.iload 11, 2) := by decide +kernel
theorem dX9_whose_160 : decode cX9_whose 160 = .ok (.bipush 48, 2) := by decide +kernel
theorem dX9_whose_162 : decode cX9_whose 162 = .ok (.if_icmp .ge 52, 3) := by decide +kernel
theorem dX9_whose_165 : decode cX9_whose 165 = .ok (.aload_n 0, 1) := by decide +kernel
theorem dX9_whose_166 : decode cX9_whose 166 = .ok (.getfield 16, 3) := by decide +kernel
theorem dX9_whose_169 : decode cX9_whose 169 = .ok (.bipush 60, 2) := by decide +kernel
theorem dX9_whose_171 : decode cX9_whose 171 = .ok (.iload_n 1, 1) := by decide +kernel
theorem dX9_whose_172 : decode cX9_whose 172 = .ok (.imul, 1) := by decide +kernel
theorem dX9_whose_173 : decode cX9_whose 173 = .ok (.iload_n 2, 1) := by decide +kernel
theorem dX9_whose_174 : decode cX9_whose 174 = .ok (.iadd, 1) := by decide +kernel
theorem dX9_whose_175 : decode cX9_whose 175 = .ok (.iload 11, 2) := by decide +kernel
theorem dX9_whose_177 : decode cX9_whose 177 = .ok (.iadd, 1) := by decide +kernel
theorem dX9_whose_178 : decode cX9_whose 178 = .ok (.iaload, 1) := by decide +kernel
theorem dX9_whose_179 : decode cX9_whose 179 = .ok (.istore 12, 2) := by decide +kernel
theorem dX9_whose_181 : decode cX9_whose 181 = .ok (.iload 10, 2) := by decide +kernel
theorem dX9_whose_183 : decode cX9_whose 183 = .ok (.iload 12, 2) := by decide +kernel
theorem dX9_whose_185 : decode cX9_whose 185 = .ok (.ifCond .ge 7, 3) := by decide +kernel
theorem dX9_whose_188 : decode cX9_whose 188 = .ok (.iconst 0, 1) := by decide +kernel
theorem dX9_whose_189 : decode cX9_whose 189 = .ok (.goto 16, 3) := by decide +kernel
theorem dX9_whose_192 : decode cX9_whose 192 = .ok (.aload_n 0, 1) := by decide +kernel
theorem dX9_whose_193 : decode cX9_whose 193 = .ok (.getfield 41, 3) := by decide +kernel
theorem dX9_whose_196 : decode cX9_whose 196 = .ok (.iload 11, 2) := by decide +kernel
theorem dX9_whose_198 : decode cX9_whose 198 = .ok (.iaload, 1) := by decide +kernel
theorem dX9_whose_199 : decode cX9_whose 199 = .ok (.iload 12, 2) := by decide +kernel
theorem dX9_whose_201 : decode cX9_whose 201 = .ok (.isub, 1) := by decide +kernel
theorem dX9_whose_202 : decode cX9_whose 202 = .ok (.invokestatic 234, 3) := by decide +kernel
theorem dX9_whose_205 : decode cX9_whose 205 = .ok (.iadd, 1) := by decide +kernel
theorem dX9_whose_206 : decode cX9_whose 206 = .ok (.istore 10, 2) := by decide +kernel
theorem dX9_whose_208 : decode cX9_whose 208 = .ok (.iinc 11 1, 3) := by decide +kernel
theorem dX9_whose_211 : decode cX9_whose 211 = .ok (.goto (-53), 3) := by decide +kernel
theorem dX9_whose_214 : decode cX9_whose 214 = .ok (.iload 6, 2) := by decide +kernel
theorem dX9_whose_216 : decode cX9_whose 216 = .ok (.ldc 158, 2) := by decide +kernel
theorem dX9_whose_218 : decode cX9_whose 218 = .ok (.if_icmp .eq 10, 3) := by decide +kernel
theorem dX9_whose_221 : decode cX9_whose 221 = .ok (.iload 10, 2) := by decide +kernel
theorem dX9_whose_223 : decode cX9_whose 223 = .ok (.iload 5, 2) := by decide +kernel
theorem dX9_whose_225 : decode cX9_whose 225 = .ok (.if_icmp .ge 15, 3) := by decide +kernel
theorem dX9_whose_228 : decode cX9_whose 228 = .ok (.iload 10, 2) := by decide +kernel
theorem dX9_whose_230 : decode cX9_whose 230 = .ok (.istore 5, 2) := by decide +kernel
theorem dX9_whose_232 : decode cX9_whose 232 = .ok (.iload 8, 2) := by decide +kernel
theorem dX9_whose_234 : decode cX9_whose 234 = .ok (.istore 6, 2) := by decide +kernel
theorem dX9_whose_236 : decode cX9_whose 236 = .ok (.iload 9, 2) := by decide +kernel
theorem dX9_whose_238 : decode cX9_whose 238 = .ok (.istore 7, 2) := by decide +kernel
theorem dX9_whose_240 : decode cX9_whose 240 = .ok (.iinc 9 1, 3) := by decide +kernel
theorem dX9_whose_243 : decode cX9_whose 243 = .ok (.goto (-119), 3) := by decide +kernel
theorem dX9_whose_246 : decode cX9_whose 246 = .ok (.iinc 8 1, 3) := by decide +kernel
theorem dX9_whose_249 : decode cX9_whose 249 = .ok (.goto (-136), 3) := by decide +kernel
theorem dX9_whose_252 : decode cX9_whose 252 = .ok (.iload 6, 2) := by decide +kernel
theorem dX9_whose_254 : decode cX9_whose 254 = .ok (.ldc 158, 2) := by decide +kernel
theorem dX9_whose_256 : decode cX9_whose 256 = .ok (.if_icmp .ne 8, 3) := by decide +kernel
theorem dX9_whose_259 : decode cX9_whose 259 = .ok (.ldc 158, 2) := by decide +kernel
theorem dX9_whose_261 : decode cX9_whose 261 = .ok (.goto 26, 3) := by decide +kernel
theorem dX9_whose_264 : decode cX9_whose 264 = .ok (.iload 4, 2) := by decide +kernel
theorem dX9_whose_266 : decode cX9_whose 266 = .ok (.ifCond .ne 8, 3) := by decide +kernel
theorem dX9_whose_269 : decode cX9_whose 269 = .ok (.iload 6, 2) := by decide +kernel
theorem dX9_whose_271 : decode cX9_whose 271 = .ok (.goto 16, 3) := by decide +kernel
theorem dX9_whose_274 : decode cX9_whose 274 = .ok (.iload 4, 2) := by decide +kernel
theorem dX9_whose_276 : decode cX9_whose 276 = .ok (.iconst 1, 1) := by decide +kernel
theorem dX9_whose_277 : decode cX9_whose 277 = .ok (.if_icmp .ne 8, 3) := by decide +kernel
theorem dX9_whose_280 : decode cX9_whose 280 = .ok (.iload 7, 2) := by decide +kernel
theorem dX9_whose_282 : decode cX9_whose 282 = .ok (.goto 5, 3) := by decide +kernel
theorem dX9_whose_285 : decode cX9_whose 285 = .ok (.iload 5, 2) := by decide +kernel
theorem dX9_whose_287 : decode cX9_whose 287 = .ok (.ireturn, 1) := by decide +kernel
theorem dX9_next_0 : decode cX9_next 0 = .ok (.aload_n 0, 1) := by decide +kernel
theorem dX9_next_1 : decode cX9_next 1 = .ok (.iconst 0, 1) := by decide +kernel
theorem dX9_next_2 : decode cX9_next 2 = .ok (.putfield 71, 3) := by decide +kernel
theorem dX9_next_5 : decode cX9_next 5 = .ok (.iload_n 1, 1) := by decide +kernel
theorem dX9_next_6 : decode cX9_next 6 = .ok (.invokestatic 116, 3) := by decide +kernel
theorem dX9_next_9 : decode cX9_next 9 = .ok (.ifCond .eq 45, 3) := by decide +kernel
theorem dX9_next_12 : decode cX9_next 12 = .ok (.iload_n 2, 1) := by decide +kernel
theorem dX9_next_13 : decode cX9_next 13 = .ok (.i2l, 1) := by decide +kernel
theorem dX9_next_14 : decode cX9_next 14 = .ok (.lconst 0, 1) := by decide +kernel
theorem dX9_next_15 : decode cX9_next 15 = .ok (.ldc2_w 126, 3) := by decide +kernel
theorem dX9_next_18 : decode cX9_next 18 = .ok (.invokestatic 81, 3) := by decide +kernel
theorem dX9_next_21 : decode cX9_next 21 = .ok (.ifCond .eq 33, 3) := by decide +kernel
theorem dX9_next_24 : decode cX9_next 24 = .ok (.iload_n 3, 1) := by decide +kernel
theorem dX9_next_25 : decode cX9_next 25 = .ok (.i2l, 1) := by decide +kernel
theorem dX9_next_26 : decode cX9_next 26 = .ok (.lconst 0, 1) := by decide +kernel
theorem dX9_next_27 : decode cX9_next 27 = .ok (.ldc2_w 126, 3) := by decide +kernel
theorem dX9_next_30 : decode cX9_next 30 = .ok (.invokestatic 81, 3) := by decide +kernel
theorem dX9_next_33 : decode cX9_next 33 = .ok (.ifCond .eq 21, 3) := by decide +kernel
theorem dX9_next_36 : decode cX9_next 36 = .ok (.iload_n 2, 1) := by decide +kernel
theorem dX9_next_37 : decode cX9_next 37 = .ok (.iload_n 3, 1) := by decide +kernel
theorem dX9_next_38 : decode cX9_next 38 = .ok (.if_icmp .eq 16, 3) := by decide +kernel
theorem dX9_next_41 : decode cX9_next 41 = .ok (.iload 4, 2) := by decide +kernel
theorem dX9_next_43 : decode cX9_next 43 = .ok (.i2l, 1) := by decide +kernel
theorem dX9_next_44 : decode cX9_next 44 = .ok (.lconst 0, 1) := by decide +kernel
theorem dX9_next_45 : decode cX9_next 45 = .ok (.ldc2_w 207, 3) := by decide +kernel
theorem dX9_next_48 : decode cX9_next 48 = .ok (.invokestatic 81, 3) := by decide +kernel
theorem dX9_next_51 : decode cX9_next 51 = .ok (.ifCond .ne 6, 3) := by decide +kernel
theorem dX9_next_54 : decode cX9_next 54 = .ok (.ldc 91, 2) := by decide +kernel
theorem dX9_next_56 : decode cX9_next 56 = .ok (.ireturn, 1) := by decide +kernel
theorem dX9_next_57 : decode cX9_next 57 = .ok (.aload_n 0, 1) := by decide +kernel
theorem dX9_next_58 : decode cX9_next 58 = .ok (.iload_n 1, 1) := by decide +kernel
theorem dX9_next_59 : decode cX9_next 59 = .ok (.invokevirtual 123, 3) := by decide +kernel
theorem dX9_next_62 : decode cX9_next 62 = .ok (.istore 5, 2) := by decide +kernel
theorem dX9_next_64 : decode cX9_next 64 = .ok (.iload 5, 2) := by decide +kernel
theorem dX9_next_66 : decode cX9_next 66 = .ok (.ifCond .ge 6, 3) := by decide +kernel
theorem dX9_next_69 : decode cX9_next 69 = .ok (.iload 5, 2) := by decide +kernel
theorem dX9_next_71 : decode cX9_next 71 = .ok (.ireturn, 1) := by decide +kernel
theorem dX9_next_72 : decode cX9_next 72 = .ok (.aload_n 0, 1) := by decide +kernel
theorem dX9_next_73 : decode cX9_next 73 = .ok (.bipush 6, 2) := by decide +kernel
theorem dX9_next_75 : decode cX9_next 75 = .ok (.iload_n 1, 1) := by decide +kernel
theorem dX9_next_76 : decode cX9_next 76 = .ok (.invokevirtual 128, 3) := by decide +kernel
theorem dX9_next_79 : decode cX9_next 79 = .ok (.iconst (-1), 1) := by decide +kernel
theorem dX9_next_80 : decode cX9_next 80 = .ok (.istore 6, 2) := by decide +kernel
theorem dX9_next_82 : decode cX9_next 82 = .ok (.ldc 158, 2) := by decide +kernel
theorem dX9_next_84 : decode cX9_next 84 = .ok (.istore 7, 2) := by decide +kernel
theorem dX9_next_86 : decode cX9_next 86 = .ok (.bipush (-6), 2) := by decide +kernel
theorem dX9_next_88 : decode cX9_next 88 = .ok (.istore 8, 2) := by decide +kernel
theorem dX9_next_90 : decode cX9_next 90 = .ok (.iload 8, 2) := by decide +kernel
theorem dX9_next_92 : decode cX9_next 92 = .ok (.bipush 7, 2) := by decide +kernel
theorem dX9_next_94 : decode cX9_next 94 = .ok (.if_icmp .ge 153, 3) := by decide +kernel
theorem dX9_next_97 : decode cX9_next 97 = .ok (.aload_n 0, 1) := by decide +kernel
theorem dX9_next_98 : decode cX9_next 98 = .ok (.getfield 23, 3) := by decide +kernel
theorem dX9_next_101 : decode cX9_next 101 = .ok (.bipush 83, 2) := by decide +kernel
theorem dX9_next_103 : decode cX9_next 103 = .ok (.iload_n 2, 1) := by decide +kernel
theorem dX9_next_104 : decode cX9_next 104 = .ok (.iastore, 1) := by decide +kernel
theorem dX9_next_105 : decode cX9_next 105 = .ok (.aload_n 0, 1) := by decide +kernel
theorem dX9_next_106 : decode cX9_next 106 = .ok (.bipush 6, 2) := by decide +kernel
theorem dX9_next_108 : decode cX9_next 108 = .ok (.iload 8, 2) := by decide +kernel
theorem dX9_next_110 : decode cX9_next 110 = .ok (.iload 4, 2) := by decide +kernel
theorem dX9_next_112 : decode cX9_next 112 = .ok (.iconst 4, 1) := by decide +kernel
theorem dX9_next_113 : decode cX9_next 113 = .ok (.iconst 0, 1) := by decide +kernel
theorem dX9_next_114 : decode cX9_next 114 = .ok (.invokevirtual 215, 3) := by decide +kernel
theorem dX9_next_117 : decode cX9_next 117 = .ok (.iconst 0, 1) := by decide +kernel
theorem dX9_next_118 : decode cX9_next 118 = .ok (.istore 9, 2) := by decide +kernel
theorem dX9_next_120 : decode cX9_next 120 = .ok (.iload 9, 2) := by decide +kernel
theorem dX9_next_122 : decode cX9_next 122 = .ok (.bipush 48, 2) := by decide +kernel
theorem dX9_next_124 : decode cX9_next 124 = .ok (.if_icmp .ge 23, 3) := by decide +kernel
theorem dX9_next_127 : decode cX9_next 127 = .ok (.aload_n 0, 1) := by decide +kernel
theorem dX9_next_128 : decode cX9_next 128 = .ok (.getfield 47, 3) := by decide +kernel
theorem dX9_next_131 : decode cX9_next 131 = .ok (.iload 9, 2) := by decide +kernel
theorem dX9_next_133 : decode cX9_next 133 = .ok (.aload_n 0, 1) := by decide +kernel
theorem dX9_next_134 : decode cX9_next 134 = .ok (.getfield 41, 3) := by decide +kernel
theorem dX9_next_137 : decode cX9_next 137 = .ok (.iload 9, 2) := by decide +kernel
theorem dX9_next_139 : decode cX9_next 139 = .ok (.iaload, 1) := by decide +kernel
theorem dX9_next_140 : decode cX9_next 140 = .ok (.iastore, 1) := by decide +kernel
theorem dX9_next_141 : decode cX9_next 141 = .ok (.iinc 9 1, 3) := by decide +kernel
theorem dX9_next_144 : decode cX9_next 144 = .ok (.goto (-24), 3) := by decide +kernel
theorem dX9_next_147 : decode cX9_next 147 = .ok (.aload_n 0, 1) := by decide +kernel
theorem dX9_next_148 : decode cX9_next 148 = .ok (.getfield 23, 3) := by decide +kernel
theorem dX9_next_151 : decode cX9_next 151 = .ok (.bipush 83, 2) := by decide +kernel
theorem dX9_next_153 : decode cX9_next 153 = .ok (.iload_n 3, 1) := by decide +kernel
theorem dX9_next_154 : decode cX9_next 154 = .ok (.iastore, 1) := by decide +kernel
theorem dX9_next_155 : decode cX9_next 155 = .ok (.aload_n 0, 1) := by decide +kernel
theorem dX9_next_156 : decode cX9_next 156 = .ok (.bipush 6, 2) := by decide +kernel
theorem dX9_next_158 : decode cX9_next 158 = .ok (.iload 8, 2) := by decide +kernel
theorem dX9_next_160 : decode cX9_next 160 = .ok (.iload 4, 2) := by decide +kernel
theorem dX9_next_162 : decode cX9_next 162 = .ok (.iconst 4, 1) := by decide +kernel
theorem dX9_next_163 : decode cX9_next 163 = .ok (.iconst 0, 1) := by decide +kernel
theorem dX9_next_164 : decode cX9_next 164 = .ok (.invokevirtual 215, 3) := by decide +kernel
theorem dX9_next_167 : decode cX9_next 167 = .ok (.iconst 0, 1) := by decide +kernel
theorem dX9_next_168 : decode cX9_next 168 = .ok (.istore 9, 2) := by decide +kernel
theorem dX9_next_170 : decode cX9_next 170 = .ok (.iconst 0, 1) := by decide +kernel
theorem dX9_next_171 : decode cX9_next 171 = .ok (.istore 10, 2) := by decide +kernel
theorem dX9_next_173 : decode cX9_next 173 = .ok (.iload 10, 2) := by decide +kernel
theorem dX9_next_175 : decode cX9_next 175 = .ok (.bipush 48, 2) := by decide +kernel
theorem dX9_next_177 : decode cX9_next 177 = .ok (.if_icmp .ge 32, 3) := by decide +kernel
theorem dX9_next_180 : decode cX9_next 180 = .ok (.iload 9, 2) := by decide +kernel
theorem dX9_next_182 : decode cX9_next 182 = .ok (.aload_n 0, 1) := by decide +kernel
theorem dX9_next_183 : decode cX9_next 183 = .ok (.getfield 47, 3) := by decide +kernel
theorem dX9_next_186 : decode cX9_next 186 = .ok (.iload 10, 2) := by decide +kernel
theorem dX9_next_188 : decode cX9_next 188 = .ok (.iaload, 1) := by decide +kernel
theorem dX9_next_189 : decode cX9_next 189 = .ok (.aload_n 0, 1) := by decide +kernel
theorem dX9_next_190 : decode cX9_next 190 = .ok (.getfield 41, 3) := by decide +kernel
theorem dX9_next_193 : decode cX9_next 193 = .ok (.iload 10, 2) := by decide +kernel
theorem dX9_next_195 : decode cX9_next 195 = .ok (.iaload, 1) := by decide +kernel
theorem dX9_next_196 : decode cX9_next 196 = .ok (.isub, 1) := by decide +kernel
theorem dX9_next_197 : decode cX9_next 197 = .ok (.invokestatic 234, 3) := by decide +kernel
theorem dX9_next_200 : decode cX9_next 200 = .ok (.iadd, 1) := by decide +kernel
theorem dX9_next_201 : decode cX9_next 201 = .ok (.istore 9, 2) := by decide +kernel
theorem dX9_next_203 : decode cX9_next 203 = .ok (.iinc 10 1, 3) := by decide +kernel
theorem dX9_next_206 : decode cX9_next 206 = .ok (.goto (-33), 3) := by decide +kernel
theorem dX9_next_209 : decode cX9_next 209 = .ok (.iload 9, 2) := by decide +kernel
theorem dX9_next_211 : decode cX9_next 211 = .ok (.iload 6, 2) := by decide +kernel
theorem dX9_next_213 : decode cX9_next 213 = .ok (.if_icmp .le 8, 3) := by decide +kernel
theorem dX9_next_216 : decode cX9_next 216 = .ok (.iload 8, 2) := by decide +kernel
theorem dX9_next_218 : decode cX9_next 218 = .ok (.goto 5, 3) := by decide +kernel
theorem dX9_next_221 : decode cX9_next 221 = .ok (.iload 7, 2) := by decide +kernel
theorem dX9_next_223 : decode cX9_next 223 = .ok (.istore 7, 2) := by decide +kernel
theorem dX9_next_225 : decode cX9_next 225 = .ok (.iload 9, 2) := by decide +kernel
theorem dX9_next_227 : decode cX9_next 227 = .ok (.iload 6, 2) := by decide +kernel
theorem dX9_next_229 : decode cX9_next 229 = .ok (.if_icmp .le 8, 3) := by decide +kernel
theorem dX9_next_232 : decode cX9_next 232 = .ok (.iload 9, 2) := by decide +kernel
theorem dX9_next_234 : decode cX9_next 234 = .ok (.goto 5, 3) := by decide +kernel
theorem dX9_next_237 : decode cX9_next 237 = .ok (.iload 6, 2) := by decide +kernel
theorem dX9_next_239 : decode cX9_next 239 = .ok (.istore 6, 2) := by decide +kernel
theorem dX9_next_241 : decode cX9_next 241 = .ok (.iinc 8 1, 3) := by decide +kernel
theorem dX9_next_244 : decode cX9_next 244 = .ok (.goto (-154), 3) := by decide +kernel
theorem dX9_next_247 : decode cX9_next 247 = .ok (.iload 7, 2) := by decide +kernel
theorem dX9_next_249 : decode cX9_next 249 = .ok (.ireturn, 1) := by decide +kernel
theorem dX9_run_0 : decode cX9_run 0 = .ok (.aload_n 0, 1) := by decide +kernel
theorem dX9_run_1 : decode cX9_run 1 = .ok (.iconst 0, 1) := by decide +kernel
theorem dX9_run_2 : decode cX9_run 2 = .ok (.putfield 71, 3) := by decide +kernel
theorem dX9_run_5 : decode cX9_run 5 = .ok (.iload_n 1, 1) := by decide +kernel
theorem dX9_run_6 : decode cX9_run 6 = .ok (.invokestatic 116, 3) := by decide +kernel
theorem dX9_run_9 : decode cX9_run 9 = .ok (.ifCond .eq 48, 3) := by decide +kernel
theorem dX9_run_12 : decode cX9_run 12 = .ok (.iload_n 2, 1) := by decide +kernel
theorem dX9_run_13 : decode cX9_run 13 = .ok (.i2l, 1) := by decide +kernel
theorem dX9_run_14 : decode cX9_run 14 = .ok (.lconst 0, 1) := by decide +kernel
theorem dX9_run_15 : decode cX9_run 15 = .ok (.ldc2_w 207, 3) := by decide +kernel
theorem dX9_run_18 : decode cX9_run 18 = .ok (.invokestatic 81, 3) := by decide +kernel
theorem dX9_run_21 : decode cX9_run 21 = .ok (.ifCond .eq 36, 3) := by decide +kernel
theorem dX9_run_24 : decode cX9_run 24 = .ok (.iload_n 3, 1) := by decide +kernel
theorem dX9_run_25 : decode cX9_run 25 = .ok (.i2l, 1) := by decide +kernel
theorem dX9_run_26 : decode cX9_run 26 = .ok (.lconst 0, 1) := by decide +kernel
theorem dX9_run_27 : decode cX9_run 27 = .ok (.ldc2_w 165, 3) := by decide +kernel
theorem dX9_run_30 : decode cX9_run 30 = .ok (.invokestatic 81, 3) := by decide +kernel
theorem dX9_run_33 : decode cX9_run 33 = .ok (.ifCond .eq 24, 3) := by decide +kernel
theorem dX9_run_36 : decode cX9_run 36 = .ok (.iload 4, 2) := by decide +kernel
theorem dX9_run_38 : decode cX9_run 38 = .ok (.invokestatic 85, 3) := by decide +kernel
theorem dX9_run_41 : decode cX9_run 41 = .ok (.ifCond .eq 16, 3) := by decide +kernel
theorem dX9_run_44 : decode cX9_run 44 = .ok (.iload 6, 2) := by decide +kernel
theorem dX9_run_46 : decode cX9_run 46 = .ok (.i2l, 1) := by decide +kernel
theorem dX9_run_47 : decode cX9_run 47 = .ok (.lconst 1, 1) := by decide +kernel
theorem dX9_run_48 : decode cX9_run 48 = .ok (.ldc2_w 102, 3) := by decide +kernel
theorem dX9_run_51 : decode cX9_run 51 = .ok (.invokestatic 81, 3) := by decide +kernel
theorem dX9_run_54 : decode cX9_run 54 = .ok (.ifCond .ne 6, 3) := by decide +kernel
theorem dX9_run_57 : decode cX9_run 57 = .ok (.ldc 91, 2) := by decide +kernel
theorem dX9_run_59 : decode cX9_run 59 = .ok (.ireturn, 1) := by decide +kernel
theorem dX9_run_60 : decode cX9_run 60 = .ok (.aload_n 0, 1) := by decide +kernel
theorem dX9_run_61 : decode cX9_run 61 = .ok (.getfield 19, 3) := by decide +kernel
theorem dX9_run_64 : decode cX9_run 64 = .ok (.iload_n 1, 1) := by decide +kernel
theorem dX9_run_65 : decode cX9_run 65 = .ok (.baload, 1) := by decide +kernel
theorem dX9_run_66 : decode cX9_run 66 = .ok (.ifCond .eq 13, 3) := by decide +kernel
theorem dX9_run_69 : decode cX9_run 69 = .ok (.aload_n 0, 1) := by decide +kernel
theorem dX9_run_70 : decode cX9_run 70 = .ok (.getfield 7, 3) := by decide +kernel
theorem dX9_run_73 : decode cX9_run 73 = .ok (.iload 4, 2) := by decide +kernel
theorem dX9_run_75 : decode cX9_run 75 = .ok (.iaload, 1) := by decide +kernel
theorem dX9_run_76 : decode cX9_run 76 = .ok (.ifCond .ge 9, 3) := by decide +kernel
theorem dX9_run_79 : decode cX9_run 79 = .ok (.aload_n 0, 1) := by decide +kernel
theorem dX9_run_80 : decode cX9_run 80 = .ok (.iconst 1, 1) := by decide +kernel
theorem dX9_run_81 : decode cX9_run 81 = .ok (.invokevirtual 92, 3) := by decide +kernel
theorem dX9_run_84 : decode cX9_run 84 = .ok (.ireturn, 1) := by decide +kernel
theorem dX9_run_85 : decode cX9_run 85 = .ok (.iload 5, 2) := by decide +kernel
theorem dX9_run_87 : decode cX9_run 87 = .ok (.ifCond .lt 24, 3) := by decide +kernel
theorem dX9_run_90 : decode cX9_run 90 = .ok (.iload 5, 2) := by decide +kernel
theorem dX9_run_92 : decode cX9_run 92 = .ok (.i2l, 1) := by decide +kernel
theorem dX9_run_93 : decode cX9_run 93 = .ok (.iconst 3, 1) := by decide +kernel
theorem dX9_run_94 : decode cX9_run 94 = .ok (.iload 6, 2) := by decide +kernel
theorem dX9_run_96 : decode cX9_run 96 = .ok (.imul, 1) := by decide +kernel
theorem dX9_run_97 : decode cX9_run 97 = .ok (.i2l, 1) := by decide +kernel
theorem dX9_run_98 : decode cX9_run 98 = .ok (.ladd, 1) := by decide +kernel
theorem dX9_run_99 : decode cX9_run 99 = .ok (.aload_n 0, 1) := by decide +kernel
theorem dX9_run_100 : decode cX9_run 100 = .ok (.getfield 13, 3) := by decide +kernel
theorem dX9_run_103 : decode cX9_run 103 = .ok (.iload 4, 2) := by decide +kernel
theorem dX9_run_105 : decode cX9_run 105 = .ok (.iaload, 1) := by decide +kernel
theorem dX9_run_106 : decode cX9_run 106 = .ok (.i2l, 1) := by decide +kernel
theorem dX9_run_107 : decode cX9_run 107 = .ok (.lcmp, 1) := by decide +kernel
theorem dX9_run_108 : decode cX9_run 108 = .ok (.ifCond .le 9, 3) := by decide +kernel
theorem dX9_run_111 : decode cX9_run 111 = .ok (.aload_n 0, 1) := by decide +kernel
theorem dX9_run_112 : decode cX9_run 112 = .ok (.iconst 2, 1) := by decide +kernel
theorem dX9_run_113 : decode cX9_run 113 = .ok (.invokevirtual 92, 3) := by decide +kernel
theorem dX9_run_116 : decode cX9_run 116 = .ok (.ireturn, 1) := by decide +kernel
theorem dX9_run_117 : decode cX9_run 117 = .ok (.iconst 0, 1) := by decide +kernel
theorem dX9_run_118 : decode cX9_run 118 = .ok (.istore 7, 2) := by decide +kernel
theorem dX9_run_120 : decode cX9_run 120 = .ok (.iload 7, 2) := by decide +kernel
theorem dX9_run_122 : decode cX9_run 122 = .ok (.iload 6, 2) := by decide +kernel
theorem dX9_run_124 : decode cX9_run 124 = .ok (.if_icmp .ge 83, 3) := by decide +kernel
theorem dX9_run_127 : decode cX9_run 127 = .ok (.bipush 60, 2) := by decide +kernel
theorem dX9_run_129 : decode cX9_run 129 = .ok (.iload 4, 2) := by decide +kernel
theorem dX9_run_131 : decode cX9_run 131 = .ok (.imul, 1) := by decide +kernel
theorem dX9_run_132 : decode cX9_run 132 = .ok (.iload 5, 2) := by decide +kernel
theorem dX9_run_134 : decode cX9_run 134 = .ok (.iadd, 1) := by decide +kernel
theorem dX9_run_135 : decode cX9_run 135 = .ok (.iconst 3, 1) := by decide +kernel
theorem dX9_run_136 : decode cX9_run 136 = .ok (.iload 7, 2) := by decide +kernel
theorem dX9_run_138 : decode cX9_run 138 = .ok (.imul, 1) := by decide +kernel
theorem dX9_run_139 : decode cX9_run 139 = .ok (.iadd, 1) := by decide +kernel
theorem dX9_run_140 : decode cX9_run 140 = .ok (.istore 8, 2) := by decide +kernel
theorem dX9_run_142 : decode cX9_run 142 = .ok (.aload_n 0, 1) := by decide +kernel
theorem dX9_run_143 : decode cX9_run 143 = .ok (.getfield 16, 3) := by decide +kernel
theorem dX9_run_146 : decode cX9_run 146 = .ok (.iload 8, 2) := by decide +kernel
theorem dX9_run_148 : decode cX9_run 148 = .ok (.iaload, 1) := by decide +kernel
theorem dX9_run_149 : decode cX9_run 149 = .ok (.i2l, 1) := by decide +kernel
theorem dX9_run_150 : decode cX9_run 150 = .ok (.lconst 1, 1) := by decide +kernel
theorem dX9_run_151 : decode cX9_run 151 = .ok (.ldc2_w 112, 3) := by decide +kernel
theorem dX9_run_154 : decode cX9_run 154 = .ok (.invokestatic 81, 3) := by decide +kernel
theorem dX9_run_157 : decode cX9_run 157 = .ok (.ifCond .eq 41, 3) := by decide +kernel
theorem dX9_run_160 : decode cX9_run 160 = .ok (.aload_n 0, 1) := by decide +kernel
theorem dX9_run_161 : decode cX9_run 161 = .ok (.getfield 16, 3) := by decide +kernel
theorem dX9_run_164 : decode cX9_run 164 = .ok (.iload 8, 2) := by decide +kernel
theorem dX9_run_166 : decode cX9_run 166 = .ok (.iconst 1, 1) := by decide +kernel
theorem dX9_run_167 : decode cX9_run 167 = .ok (.iadd, 1) := by decide +kernel
theorem dX9_run_168 : decode cX9_run 168 = .ok (.iaload, 1) := by decide +kernel
theorem dX9_run_169 : decode cX9_run 169 = .ok (.i2l, 1) := by decide +kernel
theorem dX9_run_170 : decode cX9_run 170 = .ok (.lconst 0, 1) := by decide +kernel
theorem dX9_run_171 : decode cX9_run 171 = .ok (.ldc2_w 207, 3) := by decide +kernel
theorem dX9_run_174 : decode cX9_run 174 = .ok (.invokestatic 81, 3) := by decide +kernel
theorem dX9_run_177 : decode cX9_run 177 = .ok (.ifCond .eq 21, 3) := by decide +kernel
theorem dX9_run_180 : decode cX9_run 180 = .ok (.aload_n 0, 1) := by decide +kernel
theorem dX9_run_181 : decode cX9_run 181 = .ok (.getfield 16, 3) := by decide +kernel
theorem dX9_run_184 : decode cX9_run 184 = .ok (.iload 8, 2) := by decide +kernel
theorem dX9_run_186 : decode cX9_run 186 = .ok (.iconst 2, 1) := by decide +kernel
theorem dX9_run_187 : decode cX9_run 187 = .ok (.iadd, 1) := by decide +kernel
theorem dX9_run_188 : decode cX9_run 188 = .ok (.iaload, 1) := by decide +kernel
theorem dX9_run_189 : decode cX9_run 189 = .ok (.i2l, 1) := by decide +kernel
theorem dX9_run_190 : decode cX9_run 190 = .ok (.lconst 0, 1) := by decide +kernel
theorem dX9_run_191 : decode cX9_run 191 = .ok (.lconst 1, 1) := by decide +kernel
theorem dX9_run_192 : decode cX9_run 192 = .ok (.invokestatic 81, 3) := by decide +kernel
theorem dX9_run_195 : decode cX9_run 195 = .ok (.ifCond .ne 6, 3) := by decide +kernel
theorem dX9_run_198 : decode cX9_run 198 = .ok (.ldc 91, 2) := by decide +kernel
theorem dX9_run_200 : decode cX9_run 200 = .ok (.ireturn, 1) := by decide +kernel
theorem dX9_run_201 : decode cX9_run 201 = .ok (.iinc 7 1, 3) := by decide +kernel
theorem dX9_run_204 : decode cX9_run 204 = .ok (.goto (-84), 3) := by decide +kernel
theorem dX9_run_207 : decode cX9_run 207 = .ok (.aload_n 0, 1) := by decide +kernel
theorem dX9_run_208 : decode cX9_run 208 = .ok (.iconst 0, 1) := by decide +kernel
theorem dX9_run_209 : decode cX9_run 209 = .ok (.putfield 75, 3) := by decide +kernel
theorem dX9_run_212 : decode cX9_run 212 = .ok (.iconst 0, 1) := by decide +kernel
theorem dX9_run_213 : decode cX9_run 213 = .ok (.istore 7, 2) := by decide +kernel
theorem dX9_run_215 : decode cX9_run 215 = .ok (.iload 7, 2) := by decide +kernel
theorem dX9_run_217 : decode cX9_run 217 = .ok (.bipush 24, 2) := by decide +kernel
theorem dX9_run_219 : decode cX9_run 219 = .ok (.if_icmp .ge 193, 3) := by decide +kernel
theorem dX9_run_222 : decode cX9_run 222 = .ok (.aload_n 0, 1) := by decide +kernel
theorem dX9_run_223 : decode cX9_run 223 = .ok (.iload_n 1, 1) := by decide +kernel
theorem dX9_run_224 : decode cX9_run 224 = .ok (.iconst 1, 1) := by decide +kernel
theorem dX9_run_225 : decode cX9_run 225 = .ok (.iload 7, 2) := by decide +kernel
theorem dX9_run_227 : decode cX9_run 227 = .ok (.iconst 4, 1) := by decide +kernel
theorem dX9_run_228 : decode cX9_run 228 = .ok (.idiv, 1) := by decide +kernel
theorem dX9_run_229 : decode cX9_run 229 = .ok (.iadd, 1) := by decide +kernel
theorem dX9_run_230 : decode cX9_run 230 = .ok (.iload_n 2, 1) := by decide +kernel
theorem dX9_run_231 : decode cX9_run 231 = .ok (.iconst 1, 1) := by decide +kernel
theorem dX9_run_232 : decode cX9_run 232 = .ok (.iload 7, 2) := by decide +kernel
theorem dX9_run_234 : decode cX9_run 234 = .ok (.iconst 4, 1) := by decide +kernel
theorem dX9_run_235 : decode cX9_run 235 = .ok (.irem, 1) := by decide +kernel
theorem dX9_run_236 : decode cX9_run 236 = .ok (.iadd, 1) := by decide +kernel
theorem dX9_run_237 : decode cX9_run 237 = .ok (.invokevirtual 219, 3) := by decide +kernel
theorem dX9_run_240 : decode cX9_run 240 = .ok (.istore 8, 2) := by decide +kernel
theorem dX9_run_242 : decode cX9_run 242 = .ok (.aload_n 0, 1) := by decide +kernel
theorem dX9_run_243 : decode cX9_run 243 = .ok (.iload_n 1, 1) := by decide +kernel
theorem dX9_run_244 : decode cX9_run 244 = .ok (.iconst 1, 1) := by decide +kernel
theorem dX9_run_245 : decode cX9_run 245 = .ok (.iload 7, 2) := by decide +kernel
theorem dX9_run_247 : decode cX9_run 247 = .ok (.iconst 4, 1) := by decide +kernel
theorem dX9_run_248 : decode cX9_run 248 = .ok (.idiv, 1) := by decide +kernel
theorem dX9_run_249 : decode cX9_run 249 = .ok (.iadd, 1) := by decide +kernel
theorem dX9_run_250 : decode cX9_run 250 = .ok (.iload_n 2, 1) := by decide +kernel
theorem dX9_run_251 : decode cX9_run 251 = .ok (.iconst 1, 1) := by decide +kernel
theorem dX9_run_252 : decode cX9_run 252 = .ok (.iload 7, 2) := by decide +kernel
theorem dX9_run_254 : decode cX9_run 254 = .ok (.iconst 4, 1) := by decide +kernel
theorem dX9_run_255 : decode cX9_run 255 = .ok (.irem, 1) := by decide +kernel
theorem dX9_run_256 : decode cX9_run 256 = .ok (.iadd, 1) := by decide +kernel
theorem dX9_run_257 : decode cX9_run 257 = .ok (.invokevirtual 222, 3) := by decide +kernel
theorem dX9_run_260 : decode cX9_run 260 = .ok (.istore 9, 2) := by decide +kernel
theorem dX9_run_262 : decode cX9_run 262 = .ok (.iconst 0, 1) := by decide +kernel
theorem dX9_run_263 : decode cX9_run 263 = .ok (.istore 10, 2) := by decide +kernel
theorem dX9_run_265 : decode cX9_run 265 = .ok (.iload 10, 2) := by decide +kernel
theorem dX9_run_267 : decode cX9_run 267 = .ok (.iload 6, 2) := by decide +kernel
theorem dX9_run_269 : decode cX9_run 269 = .ok (.if_icmp .ge 137, 3) := by decide +kernel
theorem dX9_run_272 : decode cX9_run 272 = .ok (.bipush 60, 2) := by decide +kernel
theorem dX9_run_274 : decode cX9_run 274 = .ok (.iload 4, 2) := by decide +kernel
theorem dX9_run_276 : decode cX9_run 276 = .ok (.imul, 1) := by decide +kernel
theorem dX9_run_277 : decode cX9_run 277 = .ok (.iload 5, 2) := by decide +kernel
theorem dX9_run_279 : decode cX9_run 279 = .ok (.iadd, 1) := by decide +kernel
theorem dX9_run_280 : decode cX9_run 280 = .ok (.iconst 3, 1) := by decide +kernel
theorem dX9_run_281 : decode cX9_run 281 = .ok (.iload 10, 2) := by decide +kernel
theorem dX9_run_283 : decode cX9_run 283 = .ok (.imul, 1) := by decide +kernel
theorem dX9_run_284 : decode cX9_run 284 = .ok (.iadd, 1) := by decide +kernel
theorem dX9_run_285 : decode cX9_run 285 = .ok (.istore 11, 2) := by decide +kernel
theorem dX9_run_287 : decode cX9_run 287 = .ok (.iload 8, 2) := by decide +kernel
theorem dX9_run_289 : decode cX9_run 289 = .ok (.aload_n 0, 1) := by decide +kernel
theorem dX9_run_290 : decode cX9_run 290 = .ok (.getfield 16, 3) := by decide +kernel
theorem dX9_run_293 : decode cX9_run 293 = .ok (.iload 11, 2) := by decide +kernel
theorem dX9_run_295 : decode cX9_run 295 = .ok (.iconst 1, 1) := by decide +kernel
theorem dX9_run_296 : decode cX9_run 296 = .ok (.iadd, 1) := by decide +kernel
theorem dX9_run_297 : decode cX9_run 297 = .ok (.iaload, 1) := by decide +kernel
theorem dX9_run_298 : decode cX9_run 298 = .ok (.isub, 1) := by decide +kernel
theorem dX9_run_299 : decode cX9_run 299 = .ok (.bipush 10, 2) := by decide +kernel
theorem dX9_run_301 : decode cX9_run 301 = .ok (.idiv, 1) := by decide +kernel
theorem dX9_run_302 : decode cX9_run 302 = .ok (.istore 12, 2) := by decide +kernel
theorem dX9_run_304 : decode cX9_run 304 = .ok (.iload 12, 2) := by decide +kernel
theorem dX9_run_306 : decode cX9_run 306 = .ok (.bipush 60, 2) := by decide +kernel
theorem dX9_run_308 : decode cX9_run 308 = .ok (.if_icmp .le 8, 3) := by decide +kernel
theorem dX9_run_311 : decode cX9_run 311 = .ok (.bipush 60, 2) := by decide +kernel
theorem dX9_run_313 : decode cX9_run 313 = .ok (.goto 5, 3) := by decide +kernel
theorem dX9_run_316 : decode cX9_run 316 = .ok (.iload 12, 2) := by decide +kernel
theorem dX9_run_318 : decode cX9_run 318 = .ok (.istore 12, 2) := by decide +kernel
theorem dX9_run_320 : decode cX9_run 320 = .ok (.aload_n 0, 1) := by decide +kernel
theorem dX9_run_321 : decode cX9_run 321 = .ok (.getfield 50, 3) := by decide +kernel
theorem dX9_run_324 : decode cX9_run 324 = .ok (.bipush 24, 2) := by decide +kernel
theorem dX9_run_326 : decode cX9_run 326 = .ok (.iload 10, 2) := by decide +kernel
theorem dX9_run_328 : decode cX9_run 328 = .ok (.imul, 1) := by decide +kernel
theorem dX9_run_329 : decode cX9_run 329 = .ok (.iload 7, 2) := by decide +kernel
theorem dX9_run_331 : decode cX9_run 331 = .ok (.iadd, 1) := by decide +kernel
theorem dX9_run_332 : decode cX9_run 332 = .ok (.iload 12, 2) := by decide +kernel
theorem dX9_run_334 : decode cX9_run 334 = .ok (.iconst 1, 1) := by decide +kernel
theorem dX9_run_335 : decode cX9_run 335 = .ok (.if_icmp .ge 8, 3) := by decide +kernel
theorem dX9_run_338 : decode cX9_run 338 = .ok (.ldc 158, 2) := by decide +kernel
theorem dX9_run_340 : decode cX9_run 340 = .ok (.goto 33, 3) := by decide +kernel
theorem dX9_run_343 : decode cX9_run 343 = .ok (.bipush 60, 2) := by decide +kernel
theorem dX9_run_345 : decode cX9_run 345 = .ok (.aload_n 0, 1) := by decide +kernel
theorem dX9_run_346 : decode cX9_run 346 = .ok (.getfield 16, 3) := by decide +kernel
theorem dX9_run_349 : decode cX9_run 349 = .ok (.iload 11, 2) := by decide +kernel
theorem dX9_run_351 : decode cX9_run 351 = .ok (.iaload, 1) := by decide +kernel
theorem dX9_run_352 : decode cX9_run 352 = .ok (.imul, 1) := by decide +kernel
theorem dX9_run_353 : decode cX9_run 353 = .ok (.iload 12, 2) := by decide +kernel
theorem dX9_run_355 : decode cX9_run 355 = .ok (.iadd, 1) := by decide +kernel
theorem dX9_run_356 : decode cX9_run 356 = .ok (.iconst 1, 1) := by decide +kernel
theorem dX9_run_357 : decode cX9_run 357 = .ok (.isub, 1) := by decide +kernel
theorem dX9_run_358 : decode cX9_run 358 = .ok (.iload 12, 2) := by decide +kernel
theorem dX9_run_360 : decode cX9_run 360 = .ok (.idiv, 1) := by decide +kernel
theorem dX9_run_361 : decode cX9_run 361 = .ok (.iconst 3, 1) := by decide +kernel
theorem dX9_run_362 : decode cX9_run 362 = .ok (.aload_n 0, 1) := by decide +kernel
theorem dX9_run_363 : decode cX9_run 363 = .ok (.getfield 16, 3) := by decide +kernel
theorem dX9_run_366 : decode cX9_run 366 = .ok (.iload 11, 2) := by decide +kernel
theorem dX9_run_368 : decode cX9_run 368 = .ok (.iconst 2, 1) := by decide +kernel
theorem dX9_run_369 : decode cX9_run 369 = .ok (.iadd, 1) := by decide +kernel
theorem dX9_run_370 : decode cX9_run 370 = .ok (.iaload, 1) := by decide +kernel
theorem dX9_run_371 : decode cX9_run 371 = .ok (.imul, 1) := by decide +kernel
theorem dX9_run_372 : decode cX9_run 372 = .ok (.iadd, 1) := by decide +kernel
theorem dX9_run_373 : decode cX9_run 373 = .ok (.iastore, 1) := by decide +kernel
theorem dX9_run_374 : decode cX9_run 374 = .ok (.aload_n 0, 1) := by decide +kernel
theorem dX9_run_375 : decode cX9_run 375 = .ok (.getfield 53, 3) := by decide +kernel
theorem dX9_run_378 : decode cX9_run 378 = .ok (.bipush 24, 2) := by decide +kernel
theorem dX9_run_380 : decode cX9_run 380 = .ok (.iload 10, 2) := by decide +kernel
theorem dX9_run_382 : decode cX9_run 382 = .ok (.imul, 1) := by decide +kernel
theorem dX9_run_383 : decode cX9_run 383 = .ok (.iload 7, 2) := by decide +kernel
theorem dX9_run_385 : decode cX9_run 385 = .ok (.iadd, 1) := by decide +kernel
theorem dX9_run_386 : decode cX9_run 386 = .ok (.iload 9, 2) := by decide +kernel
theorem dX9_run_388 : decode cX9_run 388 = .ok (.aload_n 0, 1) := by decide +kernel
theorem dX9_run_389 : decode cX9_run 389 = .ok (.getfield 16, 3) := by decide +kernel
theorem dX9_run_392 : decode cX9_run 392 = .ok (.iload 11, 2) := by decide +kernel
theorem dX9_run_394 : decode cX9_run 394 = .ok (.iaload, 1) := by decide +kernel
theorem dX9_run_395 : decode cX9_run 395 = .ok (.imul, 1) := by decide +kernel
theorem dX9_run_396 : decode cX9_run 396 = .ok (.bipush 100, 2) := by decide +kernel
theorem dX9_run_398 : decode cX9_run 398 = .ok (.idiv, 1) := by decide +kernel
theorem dX9_run_399 : decode cX9_run 399 = .ok (.iastore, 1) := by decide +kernel
theorem dX9_run_400 : decode cX9_run 400 = .ok (.iinc 10 1, 3) := by decide +kernel
theorem dX9_run_403 : decode cX9_run 403 = .ok (.goto (-138), 3) := by decide +kernel
theorem dX9_run_406 : decode cX9_run 406 = .ok (.iinc 7 1, 3) := by decide +kernel
theorem dX9_run_409 : decode cX9_run 409 = .ok (.goto (-194), 3) := by decide +kernel
theorem dX9_run_412 : decode cX9_run 412 = .ok (.iload 6, 2) := by decide +kernel
theorem dX9_run_414 : decode cX9_run 414 = .ok (.istore 7, 2) := by decide +kernel
theorem dX9_run_416 : decode cX9_run 416 = .ok (.iload 7, 2) := by decide +kernel
theorem dX9_run_418 : decode cX9_run 418 = .ok (.ifCond .lt 186, 3) := by decide +kernel
theorem dX9_run_421 : decode cX9_run 421 = .ok (.iconst 0, 1) := by decide +kernel
theorem dX9_run_422 : decode cX9_run 422 = .ok (.istore 8, 2) := by decide +kernel
theorem dX9_run_424 : decode cX9_run 424 = .ok (.iload 8, 2) := by decide +kernel
theorem dX9_run_426 : decode cX9_run 426 = .ok (.iload_n 3, 1) := by decide +kernel
theorem dX9_run_427 : decode cX9_run 427 = .ok (.if_icmp .gt 171, 3) := by decide +kernel
theorem dX9_run_430 : decode cX9_run 430 = .ok (.iload 7, 2) := by decide +kernel
theorem dX9_run_432 : decode cX9_run 432 = .ok (.iload 6, 2) := by decide +kernel
theorem dX9_run_434 : decode cX9_run 434 = .ok (.if_icmp .ne 7, 3) := by decide +kernel
theorem dX9_run_437 : decode cX9_run 437 = .ok (.iconst 0, 1) := by decide +kernel
theorem dX9_run_438 : decode cX9_run 438 = .ok (.goto 5, 3) := by decide +kernel
theorem dX9_run_441 : decode cX9_run 441 = .ok (.ldc 158, 2) := by decide +kernel
theorem dX9_run_443 : decode cX9_run 443 = .ok (.istore 9, 2) := by decide +kernel
theorem dX9_run_445 : decode cX9_run 445 = .ok (.iconst 0, 1) := by decide +kernel
theorem dX9_run_446 : decode cX9_run 446 = .ok (.istore 10, 2) := by decide +kernel
theorem dX9_run_448 : decode cX9_run 448 = .ok (.iload 10, 2) := by decide +kernel
theorem dX9_run_450 : decode cX9_run 450 = .ok (.bipush 24, 2) := by decide +kernel
theorem dX9_run_452 : decode cX9_run 452 = .ok (.if_icmp .ge 124, 3) := by decide +kernel
theorem dX9_run_455 : decode cX9_run 455 = .ok (.iload 7, 2) := by decide +kernel
theorem dX9_run_457 : decode cX9_run 457 = .ok (.iload 6, 2) := by decide +kernel
theorem dX9_run_459 : decode cX9_run 459 = .ok (.if_icmp .ge 117, 3) := by decide +kernel
theorem dX9_run_462 : decode cX9_run 462 = .ok (.aload_n 0, 1) := by decide +kernel
theorem dX9_run_463 : decode cX9_run 463 = .ok (.getfield 50, 3) := by decide +kernel
theorem dX9_run_466 : decode cX9_run 466 = .ok (.bipush 24, 2) := by decide +kernel
theorem dX9_run_468 : decode cX9_run 468 = .ok (.iload 7, 2) := by decide +kernel
theorem dX9_run_470 : decode cX9_run 470 = .ok (.imul, 1) := by decide +kernel
theorem dX9_run_471 : decode cX9_run 471 = .ok (.iload 10, 2) := by decide +kernel
theorem dX9_run_473 : decode cX9_run 473 = .ok (.iadd, 1) := by decide +kernel
theorem dX9_run_474 : decode cX9_run 474 = .ok (.iaload, 1) := by decide +kernel
theorem dX9_run_475 : decode cX9_run 475 = .ok (.istore 11, 2) := by decide +kernel
theorem dX9_run_477 : decode cX9_run 477 = .ok (.iload 11, 2) := by decide +kernel
theorem dX9_run_479 : decode cX9_run 479 = .ok (.ldc 158, 2) := by decide +kernel
theorem dX9_run_481 : decode cX9_run 481 = .ok (.if_icmp .eq 10, 3) := by decide +kernel
theorem dX9_run_484 : decode cX9_run 484 = .ok (.iload 11, 2) := by decide +kernel
theorem dX9_run_486 : decode cX9_run 486 = .ok (.iload 8, 2) := by decide +kernel
theorem dX9_run_488 : decode cX9_run 488 = .ok (.if_icmp .le 8, 3) := by decide +kernel
theorem dX9_run_491 : decode cX9_run 491 = .ok (.ldc 158, 2) := by decide +kernel
theorem dX9_run_493 : decode cX9_run 493 = .ok (.goto 22, 3) := by decide +kernel
theorem dX9_run_496 : decode cX9_run 496 = .ok (.aload_n 0, 1) := by decide +kernel
theorem dX9_run_497 : decode cX9_run 497 = .ok (.getfield 56, 3) := by decide +kernel
theorem dX9_run_500 : decode cX9_run 500 = .ok (.sipush 1001, 3) := by decide +kernel
theorem dX9_run_503 : decode cX9_run 503 = .ok (.iload 7, 2) := by decide +kernel
theorem dX9_run_505 : decode cX9_run 505 = .ok (.iconst 1, 1) := by decide +kernel
theorem dX9_run_506 : decode cX9_run 506 = .ok (.iadd, 1) := by decide +kernel
theorem dX9_run_507 : decode cX9_run 507 = .ok (.imul, 1) := by decide +kernel
theorem dX9_run_508 : decode cX9_run 508 = .ok (.iload 8, 2) := by decide +kernel
theorem dX9_run_510 : decode cX9_run 510 = .ok (.iadd, 1) := by decide +kernel
theorem dX9_run_511 : decode cX9_run 511 = .ok (.iload 11, 2) := by decide +kernel
theorem dX9_run_513 : decode cX9_run 513 = .ok (.isub, 1) := by decide +kernel
theorem dX9_run_514 : decode cX9_run 514 = .ok (.iaload, 1) := by decide +kernel
theorem dX9_run_515 : decode cX9_run 515 = .ok (.istore 12, 2) := by decide +kernel
theorem dX9_run_517 : decode cX9_run 517 = .ok (.iload 12, 2) := by decide +kernel
theorem dX9_run_519 : decode cX9_run 519 = .ok (.ldc 158, 2) := by decide +kernel
theorem dX9_run_521 : decode cX9_run 521 = .ok (.if_icmp .eq 49, 3) := by decide +kernel
theorem dX9_run_524 : decode cX9_run 524 = .ok (.iload 9, 2) := by decide +kernel
theorem dX9_run_526 : decode cX9_run 526 = .ok (.ldc 158, 2) := by decide +kernel
theorem dX9_run_528 : decode cX9_run 528 = .ok (.if_icmp .eq 24, 3) := by decide +kernel
theorem dX9_run_531 : decode cX9_run 531 = .ok (.iload 12, 2) := by decide +kernel
theorem dX9_run_533 : decode cX9_run 533 = .ok (.aload_n 0, 1) := by decide +kernel
theorem dX9_run_534 : decode cX9_run 534 = .ok (.getfield 53, 3) := by decide +kernel
theorem dX9_run_537 : decode cX9_run 537 = .ok (.bipush 24, 2) := by decide +kernel
theorem dX9_run_539 : decode cX9_run 539 = .ok (.iload 7, 2) := by decide +kernel
theorem dX9_run_541 : decode cX9_run 541 = .ok (.imul, 1) := by decide +kernel
theorem dX9_run_542 : decode cX9_run 542 = .ok (.iload 10, 2) := by decide +kernel
theorem dX9_run_544 : decode cX9_run 544 = .ok (.iadd, 1) := by decide +kernel
theorem dX9_run_545 : decode cX9_run 545 = .ok (.iaload, 1) := by decide +kernel
theorem dX9_run_546 : decode cX9_run 546 = .ok (.iadd, 1) := by decide +kernel
theorem dX9_run_547 : decode cX9_run 547 = .ok (.iload 9, 2) := by decide +kernel
theorem dX9_run_549 : decode cX9_run 549 = .ok (.if_icmp .ge 21, 3) := by decide +kernel
theorem dX9_run_552 : decode cX9_run 552 = .ok (.iload 12, 2) := by decide +kernel
theorem dX9_run_554 : decode cX9_run 554 = .ok (.aload_n 0, 1) := by decide +kernel
theorem dX9_run_555 : decode cX9_run 555 = .ok (.getfield 53, 3) := by decide +kernel
theorem dX9_run_558 : decode cX9_run 558 = .ok (.bipush 24, 2) := by decide +kernel
theorem dX9_run_560 : decode cX9_run 560 = .ok (.iload 7, 2) := by decide +kernel
theorem dX9_run_562 : decode cX9_run 562 = .ok (.imul, 1) := by decide +kernel
theorem dX9_run_563 : decode cX9_run 563 = .ok (.iload 10, 2) := by decide +kernel
theorem dX9_run_565 : decode cX9_run 565 = .ok (.iadd, 1) := by decide +kernel
theorem dX9_run_566 : decode cX9_run 566 = .ok (.iaload, 1) := by decide +kernel
theorem dX9_run_567 : decode cX9_run 567 = .ok (.iadd, 1) := by decide +kernel
theorem dX9_run_568 : decode cX9_run 568 = .ok (.istore 9, 2) := by decide +kernel
theorem dX9_run_570 : decode cX9_run 570 = .ok (.iinc 10 1, 3) := by decide +kernel
theorem dX9_run_573 : decode cX9_run 573 = .ok (.goto (-125), 3) := by decide +kernel
theorem dX9_run_576 : decode cX9_run 576 = .ok (.aload_n 0, 1) := by decide +kernel
theorem dX9_run_577 : decode cX9_run 577 = .ok (.getfield 56, 3) := by decide +kernel
theorem dX9_run_580 : decode cX9_run 580 = .ok (.sipush 1001, 3) := by decide +kernel
theorem dX9_run_583 : decode cX9_run 583 = .ok (.iload 7, 2) := by decide +kernel
theorem dX9_run_585 : decode cX9_run 585 = .ok (.imul, 1) := by decide +kernel
theorem dX9_run_586 : decode cX9_run 586 = .ok (.iload 8, 2) := by decide +kernel
theorem dX9_run_588 : decode cX9_run 588 = .ok (.iadd, 1) := by decide +kernel
theorem dX9_run_589 : decode cX9_run 589 = .ok (.iload 9, 2) := by decide +kernel
theorem dX9_run_591 : decode cX9_run 591 = .ok (.iastore, 1) := by decide +kernel
theorem dX9_run_592 : decode cX9_run 592 = .ok (.iinc 8 1, 3) := by decide +kernel
theorem dX9_run_595 : decode cX9_run 595 = .ok (.goto (-171), 3) := by decide +kernel
theorem dX9_run_598 : decode cX9_run 598 = .ok (.iinc 7 (-1), 3) := by decide +kernel
theorem dX9_run_601 : decode cX9_run 601 = .ok (.goto (-185), 3) := by decide +kernel
theorem dX9_run_604 : decode cX9_run 604 = .ok (.aload_n 0, 1) := by decide +kernel
theorem dX9_run_605 : decode cX9_run 605 = .ok (.getfield 56, 3) := by decide +kernel
theorem dX9_run_608 : decode cX9_run 608 = .ok (.iload_n 3, 1) := by decide +kernel
theorem dX9_run_609 : decode cX9_run 609 = .ok (.iaload, 1) := by decide +kernel
theorem dX9_run_610 : decode cX9_run 610 = .ok (.istore 7, 2) := by decide +kernel
theorem dX9_run_612 : decode cX9_run 612 = .ok (.iload 7, 2) := by decide +kernel
theorem dX9_run_614 : decode cX9_run 614 = .ok (.ldc 158, 2) := by decide +kernel
theorem dX9_run_616 : decode cX9_run 616 = .ok (.if_icmp .ne 6, 3) := by decide +kernel
theorem dX9_run_619 : decode cX9_run 619 = .ok (.ldc 158, 2) := by decide +kernel
theorem dX9_run_621 : decode cX9_run 621 = .ok (.ireturn, 1) := by decide +kernel
theorem dX9_run_622 : decode cX9_run 622 = .ok (.aload_n 0, 1) := by decide +kernel
theorem dX9_run_623 : decode cX9_run 623 = .ok (.iload 6, 2) := by decide +kernel
theorem dX9_run_625 : decode cX9_run 625 = .ok (.putfield 243, 3) := by decide +kernel
theorem dX9_run_628 : decode cX9_run 628 = .ok (.iload_n 3, 1) := by decide +kernel
theorem dX9_run_629 : decode cX9_run 629 = .ok (.istore 8, 2) := by decide +kernel
theorem dX9_run_631 : decode cX9_run 631 = .ok (.iconst 0, 1) := by decide +kernel
theorem dX9_run_632 : decode cX9_run 632 = .ok (.istore 9, 2) := by decide +kernel
theorem dX9_run_634 : decode cX9_run 634 = .ok (.iload 9, 2) := by decide +kernel
theorem dX9_run_636 : decode cX9_run 636 = .ok (.iload 6, 2) := by decide +kernel
theorem dX9_run_638 : decode cX9_run 638 = .ok (.if_icmp .ge 193, 3) := by decide +kernel
theorem dX9_run_641 : decode cX9_run 641 = .ok (.ldc 158, 2) := by decide +kernel
theorem dX9_run_643 : decode cX9_run 643 = .ok (.istore 10, 2) := by decide +kernel
theorem dX9_run_645 : decode cX9_run 645 = .ok (.bipush 23, 2) := by decide +kernel
theorem dX9_run_647 : decode cX9_run 647 = .ok (.istore 11, 2) := by decide +kernel
theorem dX9_run_649 : decode cX9_run 649 = .ok (.iload 11, 2) := by decide +kernel
theorem dX9_run_651 : decode cX9_run 651 = .ok (.ifCond .lt 113, 3) := by decide +kernel
theorem dX9_run_654 : decode cX9_run 654 = .ok (.aload_n 0, 1) := by decide +kernel
theorem dX9_run_655 : decode cX9_run 655 = .ok (.getfield 50, 3) := by decide +kernel
theorem dX9_run_658 : decode cX9_run 658 = .ok (.bipush 24, 2) := by decide +kernel
theorem dX9_run_660 : decode cX9_run 660 = .ok (.iload 9, 2) := by decide +kernel
theorem dX9_run_662 : decode cX9_run 662 = .ok (.imul, 1) := by decide +kernel
theorem dX9_run_663 : decode cX9_run 663 = .ok (.iload 11, 2) := by decide +kernel
theorem dX9_run_665 : decode cX9_run 665 = .ok (.iadd, 1) := by decide +kernel
theorem dX9_run_666 : decode cX9_run 666 = .ok (.iaload, 1) := by decide +kernel
theorem dX9_run_667 : decode cX9_run 667 = .ok (.istore 12, 2) := by decide +kernel
theorem dX9_run_669 : decode cX9_run 669 = .ok (.iload 12, 2) := by decide +kernel
theorem dX9_run_671 : decode cX9_run 671 = .ok (.ldc 158, 2) := by decide +kernel
theorem dX9_run_673 : decode cX9_run 673 = .ok (.if_icmp .eq 10, 3) := by decide +kernel
theorem dX9_run_676 : decode cX9_run 676 = .ok (.iload 12, 2) := by decide +kernel
theorem dX9_run_678 : decode cX9_run 678 = .ok (.iload 8, 2) := by decide +kernel
theorem dX9_run_680 : decode cX9_run 680 = .ok (.if_icmp .le 8, 3) := by decide +kernel
theorem dX9_run_683 : decode cX9_run 683 = .ok (.ldc 158, 2) := by decide +kernel
theorem dX9_run_685 : decode cX9_run 685 = .ok (.goto 22, 3) := by decide +kernel
theorem dX9_run_688 : decode cX9_run 688 = .ok (.aload_n 0, 1) := by decide +kernel
theorem dX9_run_689 : decode cX9_run 689 = .ok (.getfield 56, 3) := by decide +kernel
theorem dX9_run_692 : decode cX9_run 692 = .ok (.sipush 1001, 3) := by decide +kernel
theorem dX9_run_695 : decode cX9_run 695 = .ok (.iload 9, 2) := by decide +kernel
theorem dX9_run_697 : decode cX9_run 697 = .ok (.iconst 1, 1) := by decide +kernel
theorem dX9_run_698 : decode cX9_run 698 = .ok (.iadd, 1) := by decide +kernel
theorem dX9_run_699 : decode cX9_run 699 = .ok (.imul, 1) := by decide +kernel
theorem dX9_run_700 : decode cX9_run 700 = .ok (.iload 8, 2) := by decide +kernel
theorem dX9_run_702 : decode cX9_run 702 = .ok (.iadd, 1) := by decide +kernel
theorem dX9_run_703 : decode cX9_run 703 = .ok (.iload 12, 2) := by decide +kernel
theorem dX9_run_705 : decode cX9_run 705 = .ok (.isub, 1) := by decide +kernel
theorem dX9_run_706 : decode cX9_run 706 = .ok (.iaload, 1) := by decide +kernel
theorem dX9_run_707 : decode cX9_run 707 = .ok (.istore 13, 2) := by decide +kernel
theorem dX9_run_709 : decode cX9_run 709 = .ok (.iload 13, 2) := by decide +kernel
theorem dX9_run_711 : decode cX9_run 711 = .ok (.ldc 158, 2) := by decide +kernel
theorem dX9_run_713 : decode cX9_run 713 = .ok (.if_icmp .eq 41, 3) := by decide +kernel
theorem dX9_run_716 : decode cX9_run 716 = .ok (.iload 13, 2) := by decide +kernel
theorem dX9_run_718 : decode cX9_run 718 = .ok (.aload_n 0, 1) := by decide +kernel
theorem dX9_run_719 : decode cX9_run 719 = .ok (.getfield 53, 3) := by decide +kernel
theorem dX9_run_722 : decode cX9_run 722 = .ok (.bipush 24, 2) := by decide +kernel
theorem dX9_run_724 : decode cX9_run 724 = .ok (.iload 9, 2) := by decide +kernel
theorem dX9_run_726 : decode cX9_run 726 = .ok (.imul, 1) := by decide +kernel
theorem dX9_run_727 : decode cX9_run 727 = .ok (.iload 11, 2) := by decide +kernel
theorem dX9_run_729 : decode cX9_run 729 = .ok (.iadd, 1) := by decide +kernel
theorem dX9_run_730 : decode cX9_run 730 = .ok (.iaload, 1) := by decide +kernel
theorem dX9_run_731 : decode cX9_run 731 = .ok (.iadd, 1) := by decide +kernel
theorem dX9_run_732 : decode cX9_run 732 = .ok (.aload_n 0, 1) := by decide +kernel
theorem dX9_run_733 : decode cX9_run 733 = .ok (.getfield 56, 3) := by decide +kernel
theorem dX9_run_736 : decode cX9_run 736 = .ok (.sipush 1001, 3) := by decide +kernel
theorem dX9_run_739 : decode cX9_run 739 = .ok (.iload 9, 2) := by decide +kernel
theorem dX9_run_741 : decode cX9_run 741 = .ok (.imul, 1) := by decide +kernel
theorem dX9_run_742 : decode cX9_run 742 = .ok (.iload 8, 2) := by decide +kernel
theorem dX9_run_744 : decode cX9_run 744 = .ok (.iadd, 1) := by decide +kernel
theorem dX9_run_745 : decode cX9_run 745 = .ok (.iaload, 1) := by decide +kernel
theorem dX9_run_746 : decode cX9_run 746 = .ok (.if_icmp .ne 8, 3) := by decide +kernel
theorem dX9_run_749 : decode cX9_run 749 = .ok (.iload 11, 2) := by decide +kernel
theorem dX9_run_751 : decode cX9_run 751 = .ok (.goto 5, 3) := by decide +kernel
theorem dX9_run_754 : decode cX9_run 754 = .ok (.iload 10, 2) := by decide +kernel
theorem dX9_run_756 : decode cX9_run 756 = .ok (.istore 10, 2) := by decide +kernel
theorem dX9_run_758 : decode cX9_run 758 = .ok (.iinc 11 (-1), 3) := by decide +kernel
theorem dX9_run_761 : decode cX9_run 761 = .ok (.goto (-112), 3) := by decide +kernel
theorem dX9_run_764 : decode cX9_run 764 = .ok (.aload_n 0, 1) := by decide +kernel
theorem dX9_run_765 : decode cX9_run 765 = .ok (.getfield 59, 3) := by decide +kernel
theorem dX9_run_768 : decode cX9_run 768 = .ok (.iload 9, 2) := by decide +kernel
theorem dX9_run_770 : decode cX9_run 770 = .ok (.iload 10, 2) := by decide +kernel
theorem dX9_run_772 : decode cX9_run 772 = .ok (.iastore, 1) := by decide +kernel
theorem dX9_run_773 : decode cX9_run 773 = .ok (.aload_n 0, 1) := by decide +kernel
theorem dX9_run_774 : decode cX9_run 774 = .ok (.getfield 62, 3) := by decide +kernel
theorem dX9_run_777 : decode cX9_run 777 = .ok (.iload 9, 2) := by decide +kernel
theorem dX9_run_779 : decode cX9_run 779 = .ok (.aload_n 0, 1) := by decide +kernel
theorem dX9_run_780 : decode cX9_run 780 = .ok (.getfield 50, 3) := by decide +kernel
theorem dX9_run_783 : decode cX9_run 783 = .ok (.bipush 24, 2) := by decide +kernel
theorem dX9_run_785 : decode cX9_run 785 = .ok (.iload 9, 2) := by decide +kernel
theorem dX9_run_787 : decode cX9_run 787 = .ok (.imul, 1) := by decide +kernel
theorem dX9_run_788 : decode cX9_run 788 = .ok (.iload 10, 2) := by decide +kernel
theorem dX9_run_790 : decode cX9_run 790 = .ok (.iadd, 1) := by decide +kernel
theorem dX9_run_791 : decode cX9_run 791 = .ok (.iaload, 1) := by decide +kernel
theorem dX9_run_792 : decode cX9_run 792 = .ok (.iastore, 1) := by decide +kernel
theorem dX9_run_793 : decode cX9_run 793 = .ok (.aload_n 0, 1) := by decide +kernel
theorem dX9_run_794 : decode cX9_run 794 = .ok (.getfield 65, 3) := by decide +kernel
theorem dX9_run_797 : decode cX9_run 797 = .ok (.iload 9, 2) := by decide +kernel
theorem dX9_run_799 : decode cX9_run 799 = .ok (.aload_n 0, 1) := by decide +kernel
theorem dX9_run_800 : decode cX9_run 800 = .ok (.getfield 53, 3) := by decide +kernel
theorem dX9_run_803 : decode cX9_run 803 = .ok (.bipush 24, 2) := by decide +kernel
theorem dX9_run_805 : decode cX9_run 805 = .ok (.iload 9, 2) := by decide +kernel
theorem dX9_run_807 : decode cX9_run 807 = .ok (.imul, 1) := by decide +kernel
theorem dX9_run_808 : decode cX9_run 808 = .ok (.iload 10, 2) := by decide +kernel
theorem dX9_run_810 : decode cX9_run 810 = .ok (.iadd, 1) := by decide +kernel
theorem dX9_run_811 : decode cX9_run 811 = .ok (.iaload, 1) := by decide +kernel
theorem dX9_run_812 : decode cX9_run 812 = .ok (.iastore, 1) := by decide +kernel
theorem dX9_run_813 : decode cX9_run 813 = .ok (.iload 8, 2) := by decide +kernel
theorem dX9_run_815 : decode cX9_run 815 = .ok (.aload_n 0, 1) := by decide +kernel
theorem dX9_run_816 : decode cX9_run 816 = .ok (.getfield 62, 3) := by decide +kernel
theorem dX9_run_819 : decode cX9_run 819 = .ok (.iload 9, 2) := by decide +kernel
theorem dX9_run_821 : decode cX9_run 821 = .ok (.iaload, 1) := by decide +kernel
theorem dX9_run_822 : decode cX9_run 822 = .ok (.isub, 1) := by decide +kernel
theorem dX9_run_823 : decode cX9_run 823 = .ok (.istore 8, 2) := by decide +kernel
theorem dX9_run_825 : decode cX9_run 825 = .ok (.iinc 9 1, 3) := by decide +kernel
theorem dX9_run_828 : decode cX9_run 828 = .ok (.goto (-194), 3) := by decide +kernel
theorem dX9_run_831 : decode cX9_run 831 = .ok (.iload 7, 2) := by decide +kernel
theorem dX9_run_833 : decode cX9_run 833 = .ok (.ireturn, 1) := by decide +kernel
theorem dX9_plan_0 : decode cX9_plan 0 = .ok (.aload_n 0, 1) := by decide +kernel
theorem dX9_plan_1 : decode cX9_plan 1 = .ok (.iconst 0, 1) := by decide +kernel
theorem dX9_plan_2 : decode cX9_plan 2 = .ok (.putfield 71, 3) := by decide +kernel
theorem dX9_plan_5 : decode cX9_plan 5 = .ok (.iload_n 2, 1) := by decide +kernel
theorem dX9_plan_6 : decode cX9_plan 6 = .ok (.i2l, 1) := by decide +kernel
theorem dX9_plan_7 : decode cX9_plan 7 = .ok (.lconst 0, 1) := by decide +kernel
theorem dX9_plan_8 : decode cX9_plan 8 = .ok (.ldc2_w 174, 3) := by decide +kernel
theorem dX9_plan_11 : decode cX9_plan 11 = .ok (.invokestatic 81, 3) := by decide +kernel
theorem dX9_plan_14 : decode cX9_plan 14 = .ok (.ifCond .ne 6, 3) := by decide +kernel
theorem dX9_plan_17 : decode cX9_plan 17 = .ok (.ldc 91, 2) := by decide +kernel
theorem dX9_plan_19 : decode cX9_plan 19 = .ok (.ireturn, 1) := by decide +kernel
theorem dX9_plan_20 : decode cX9_plan 20 = .ok (.aload_n 0, 1) := by decide +kernel
theorem dX9_plan_21 : decode cX9_plan 21 = .ok (.getfield 243, 3) := by decide +kernel
theorem dX9_plan_24 : decode cX9_plan 24 = .ok (.ifCond .ne 6, 3) := by decide +kernel
theorem dX9_plan_27 : decode cX9_plan 27 = .ok (.ldc 237, 2) := by decide +kernel
theorem dX9_plan_29 : decode cX9_plan 29 = .ok (.ireturn, 1) := by decide +kernel
theorem dX9_plan_30 : decode cX9_plan 30 = .ok (.iload_n 1, 1) := by decide +kernel
theorem dX9_plan_31 : decode cX9_plan 31 = .ok (.i2l, 1) := by decide +kernel
theorem dX9_plan_32 : decode cX9_plan 32 = .ok (.lconst 0, 1) := by decide +kernel
theorem dX9_plan_33 : decode cX9_plan 33 = .ok (.aload_n 0, 1) := by decide +kernel
theorem dX9_plan_34 : decode cX9_plan 34 = .ok (.getfield 243, 3) := by decide +kernel
theorem dX9_plan_37 : decode cX9_plan 37 = .ok (.iconst 1, 1) := by decide +kernel
theorem dX9_plan_38 : decode cX9_plan 38 = .ok (.isub, 1) := by decide +kernel
theorem dX9_plan_39 : decode cX9_plan 39 = .ok (.i2l, 1) := by decide +kernel
theorem dX9_plan_40 : decode cX9_plan 40 = .ok (.invokestatic 81, 3) := by decide +kernel
theorem dX9_plan_43 : decode cX9_plan 43 = .ok (.ifCond .ne 6, 3) := by decide +kernel
theorem dX9_plan_46 : decode cX9_plan 46 = .ok (.ldc 158, 2) := by decide +kernel
theorem dX9_plan_48 : decode cX9_plan 48 = .ok (.ireturn, 1) := by decide +kernel
theorem dX9_plan_49 : decode cX9_plan 49 = .ok (.iload_n 2, 1) := by decide +kernel
theorem dX9_plan_50 : decode cX9_plan 50 = .ok (.ifCond .ne 16, 3) := by decide +kernel
theorem dX9_plan_53 : decode cX9_plan 53 = .ok (.iconst 1, 1) := by decide +kernel
theorem dX9_plan_54 : decode cX9_plan 54 = .ok (.aload_n 0, 1) := by decide +kernel
theorem dX9_plan_55 : decode cX9_plan 55 = .ok (.getfield 59, 3) := by decide +kernel
theorem dX9_plan_58 : decode cX9_plan 58 = .ok (.iload_n 1, 1) := by decide +kernel
theorem dX9_plan_59 : decode cX9_plan 59 = .ok (.iaload, 1) := by decide +kernel
theorem dX9_plan_60 : decode cX9_plan 60 = .ok (.iconst 4, 1) := by decide +kernel
theorem dX9_plan_61 : decode cX9_plan 61 = .ok (.idiv, 1) := by decide +kernel
theorem dX9_plan_62 : decode cX9_plan 62 = .ok (.iadd, 1) := by decide +kernel
theorem dX9_plan_63 : decode cX9_plan 63 = .ok (.goto 41, 3) := by decide +kernel
theorem dX9_plan_66 : decode cX9_plan 66 = .ok (.iload_n 2, 1) := by decide +kernel
theorem dX9_plan_67 : decode cX9_plan 67 = .ok (.iconst 1, 1) := by decide +kernel
theorem dX9_plan_68 : decode cX9_plan 68 = .ok (.if_icmp .ne 16, 3) := by decide +kernel
theorem dX9_plan_71 : decode cX9_plan 71 = .ok (.iconst 1, 1) := by decide +kernel
theorem dX9_plan_72 : decode cX9_plan 72 = .ok (.aload_n 0, 1) := by decide +kernel
theorem dX9_plan_73 : decode cX9_plan 73 = .ok (.getfield 59, 3) := by decide +kernel
theorem dX9_plan_76 : decode cX9_plan 76 = .ok (.iload_n 1, 1) := by decide +kernel
theorem dX9_plan_77 : decode cX9_plan 77 = .ok (.iaload, 1) := by decide +kernel
theorem dX9_plan_78 : decode cX9_plan 78 = .ok (.iconst 4, 1) := by decide +kernel
theorem dX9_plan_79 : decode cX9_plan 79 = .ok (.irem, 1) := by decide +kernel
theorem dX9_plan_80 : decode cX9_plan 80 = .ok (.iadd, 1) := by decide +kernel
theorem dX9_plan_81 : decode cX9_plan 81 = .ok (.goto 23, 3) := by decide +kernel
theorem dX9_plan_84 : decode cX9_plan 84 = .ok (.iload_n 2, 1) := by decide +kernel
theorem dX9_plan_85 : decode cX9_plan 85 = .ok (.iconst 2, 1) := by decide +kernel
theorem dX9_plan_86 : decode cX9_plan 86 = .ok (.if_icmp .ne 12, 3) := by decide +kernel
theorem dX9_plan_89 : decode cX9_plan 89 = .ok (.aload_n 0, 1) := by decide +kernel
theorem dX9_plan_90 : decode cX9_plan 90 = .ok (.getfield 62, 3) := by decide +kernel
theorem dX9_plan_93 : decode cX9_plan 93 = .ok (.iload_n 1, 1) := by decide +kernel
theorem dX9_plan_94 : decode cX9_plan 94 = .ok (.iaload, 1) := by decide +kernel
theorem dX9_plan_95 : decode cX9_plan 95 = .ok (.goto 9, 3) := by decide +kernel
theorem dX9_plan_98 : decode cX9_plan 98 = .ok (.aload_n 0, 1) := by decide +kernel
theorem dX9_plan_99 : decode cX9_plan 99 = .ok (.getfield 65, 3) := by decide +kernel
theorem dX9_plan_102 : decode cX9_plan 102 = .ok (.iload_n 1, 1) := by decide +kernel
theorem dX9_plan_103 : decode cX9_plan 103 = .ok (.iaload, 1) := by decide +kernel
theorem dX9_plan_104 : decode cX9_plan 104 = .ok (.ireturn, 1) := by decide +kernel
theorem dX9_stoke_0 : decode cX9_stoke 0 = .ok (.aload_n 0, 1) := by decide +kernel
theorem dX9_stoke_1 : decode cX9_stoke 1 = .ok (.iconst 0, 1) := by decide +kernel
theorem dX9_stoke_2 : decode cX9_stoke 2 = .ok (.putfield 71, 3) := by decide +kernel
theorem dX9_stoke_5 : decode cX9_stoke 5 = .ok (.iload_n 1, 1) := by decide +kernel
theorem dX9_stoke_6 : decode cX9_stoke 6 = .ok (.i2l, 1) := by decide +kernel
theorem dX9_stoke_7 : decode cX9_stoke 7 = .ok (.lconst 1, 1) := by decide +kernel
theorem dX9_stoke_8 : decode cX9_stoke 8 = .ok (.ldc2_w 165, 3) := by decide +kernel
theorem dX9_stoke_11 : decode cX9_stoke 11 = .ok (.invokestatic 81, 3) := by decide +kernel
theorem dX9_stoke_14 : decode cX9_stoke 14 = .ok (.ifCond .ne 6, 3) := by decide +kernel
theorem dX9_stoke_17 : decode cX9_stoke 17 = .ok (.ldc 91, 2) := by decide +kernel
theorem dX9_stoke_19 : decode cX9_stoke 19 = .ok (.ireturn, 1) := by decide +kernel
theorem dX9_stoke_20 : decode cX9_stoke 20 = .ok (.aload_n 0, 1) := by decide +kernel
theorem dX9_stoke_21 : decode cX9_stoke 21 = .ok (.getfield 246, 3) := by decide +kernel
theorem dX9_stoke_24 : decode cX9_stoke 24 = .ok (.iload_n 1, 1) := by decide +kernel
theorem dX9_stoke_25 : decode cX9_stoke 25 = .ok (.iadd, 1) := by decide +kernel
theorem dX9_stoke_26 : decode cX9_stoke 26 = .ok (.sipush 10000, 3) := by decide +kernel
theorem dX9_stoke_29 : decode cX9_stoke 29 = .ok (.if_icmp .le 6, 3) := by decide +kernel
theorem dX9_stoke_32 : decode cX9_stoke 32 = .ok (.ldc 249, 2) := by decide +kernel
theorem dX9_stoke_34 : decode cX9_stoke 34 = .ok (.ireturn, 1) := by decide +kernel
theorem dX9_stoke_35 : decode cX9_stoke 35 = .ok (.aload_n 0, 1) := by decide +kernel
theorem dX9_stoke_36 : decode cX9_stoke 36 = .ok (.dup, 1) := by decide +kernel
theorem dX9_stoke_37 : decode cX9_stoke 37 = .ok (.getfield 246, 3) := by decide +kernel
theorem dX9_stoke_40 : decode cX9_stoke 40 = .ok (.iload_n 1, 1) := by decide +kernel
theorem dX9_stoke_41 : decode cX9_stoke 41 = .ok (.iadd, 1) := by decide +kernel
theorem dX9_stoke_42 : decode cX9_stoke 42 = .ok (.putfield 246, 3) := by decide +kernel
theorem dX9_stoke_45 : decode cX9_stoke 45 = .ok (.aload_n 0, 1) := by decide +kernel
theorem dX9_stoke_46 : decode cX9_stoke 46 = .ok (.getfield 246, 3) := by decide +kernel
theorem dX9_stoke_49 : decode cX9_stoke 49 = .ok (.ireturn, 1) := by decide +kernel
theorem dX9_minute_0 : decode cX9_minute 0 = .ok (.aload_n 0, 1) := by decide +kernel
theorem dX9_minute_1 : decode cX9_minute 1 = .ok (.iconst 0, 1) := by decide +kernel
theorem dX9_minute_2 : decode cX9_minute 2 = .ok (.putfield 71, 3) := by decide +kernel
theorem dX9_minute_5 : decode cX9_minute 5 = .ok (.iload_n 1, 1) := by decide +kernel
theorem dX9_minute_6 : decode cX9_minute 6 = .ok (.invokestatic 116, 3) := by decide +kernel
theorem dX9_minute_9 : decode cX9_minute 9 = .ok (.ifCond .eq 22, 3) := by decide +kernel
theorem dX9_minute_12 : decode cX9_minute 12 = .ok (.iload_n 2, 1) := by decide +kernel
theorem dX9_minute_13 : decode cX9_minute 13 = .ok (.invokestatic 171, 3) := by decide +kernel
theorem dX9_minute_16 : decode cX9_minute 16 = .ok (.ifCond .eq 15, 3) := by decide +kernel
theorem dX9_minute_19 : decode cX9_minute 19 = .ok (.iload_n 3, 1) := by decide +kernel
theorem dX9_minute_20 : decode cX9_minute 20 = .ok (.i2l, 1) := by decide +kernel
theorem dX9_minute_21 : decode cX9_minute 21 = .ok (.lconst 0, 1) := by decide +kernel
theorem dX9_minute_22 : decode cX9_minute 22 = .ok (.ldc2_w 98, 3) := by decide +kernel
theorem dX9_minute_25 : decode cX9_minute 25 = .ok (.invokestatic 81, 3) := by decide +kernel
theorem dX9_minute_28 : decode cX9_minute 28 = .ok (.ifCond .ne 6, 3) := by decide +kernel
theorem dX9_minute_31 : decode cX9_minute 31 = .ok (.ldc 91, 2) := by decide +kernel
theorem dX9_minute_33 : decode cX9_minute 33 = .ok (.ireturn, 1) := by decide +kernel
theorem dX9_minute_34 : decode cX9_minute 34 = .ok (.aload_n 0, 1) := by decide +kernel
theorem dX9_minute_35 : decode cX9_minute 35 = .ok (.iload_n 1, 1) := by decide +kernel
theorem dX9_minute_36 : decode cX9_minute 36 = .ok (.invokevirtual 123, 3) := by decide +kernel
theorem dX9_minute_39 : decode cX9_minute 39 = .ok (.istore 4, 2) := by decide +kernel
theorem dX9_minute_41 : decode cX9_minute 41 = .ok (.iload 4, 2) := by decide +kernel
theorem dX9_minute_43 : decode cX9_minute 43 = .ok (.ifCond .ge 6, 3) := by decide +kernel
theorem dX9_minute_46 : decode cX9_minute 46 = .ok (.iload 4, 2) := by decide +kernel
theorem dX9_minute_48 : decode cX9_minute 48 = .ok (.ireturn, 1) := by decide +kernel
theorem dX9_minute_49 : decode cX9_minute 49 = .ok (.aload_n 0, 1) := by decide +kernel
theorem dX9_minute_50 : decode cX9_minute 50 = .ok (.dup, 1) := by decide +kernel
theorem dX9_minute_51 : decode cX9_minute 51 = .ok (.getfield 250, 3) := by decide +kernel
theorem dX9_minute_54 : decode cX9_minute 54 = .ok (.iconst 1, 1) := by decide +kernel
theorem dX9_minute_55 : decode cX9_minute 55 = .ok (.iadd, 1) := by decide +kernel
theorem dX9_minute_56 : decode cX9_minute 56 = .ok (.putfield 250, 3) := by decide +kernel
theorem dX9_minute_59 : decode cX9_minute 59 = .ok (.aload_n 0, 1) := by decide +kernel
theorem dX9_minute_60 : decode cX9_minute 60 = .ok (.getfield 246, 3) := by decide +kernel
theorem dX9_minute_63 : decode cX9_minute 63 = .ok (.bipush 20, 2) := by decide +kernel
theorem dX9_minute_65 : decode cX9_minute 65 = .ok (.if_icmp .ge 10, 3) := by decide +kernel
theorem dX9_minute_68 : decode cX9_minute 68 = .ok (.aload_n 0, 1) := by decide +kernel
theorem dX9_minute_69 : decode cX9_minute 69 = .ok (.getfield 246, 3) := by decide +kernel
theorem dX9_minute_72 : decode cX9_minute 72 = .ok (.goto 5, 3) := by decide +kernel
theorem dX9_minute_75 : decode cX9_minute 75 = .ok (.bipush 20, 2) := by decide +kernel
theorem dX9_minute_77 : decode cX9_minute 77 = .ok (.istore 5, 2) := by decide +kernel
theorem dX9_minute_79 : decode cX9_minute 79 = .ok (.aload_n 0, 1) := by decide +kernel
theorem dX9_minute_80 : decode cX9_minute 80 = .ok (.dup, 1) := by decide +kernel
theorem dX9_minute_81 : decode cX9_minute 81 = .ok (.getfield 246, 3) := by decide +kernel
theorem dX9_minute_84 : decode cX9_minute 84 = .ok (.iload 5, 2) := by decide +kernel
theorem dX9_minute_86 : decode cX9_minute 86 = .ok (.isub, 1) := by decide +kernel
theorem dX9_minute_87 : decode cX9_minute 87 = .ok (.putfield 246, 3) := by decide +kernel
theorem dX9_minute_90 : decode cX9_minute 90 = .ok (.aload_n 0, 1) := by decide +kernel
theorem dX9_minute_91 : decode cX9_minute 91 = .ok (.dup, 1) := by decide +kernel
theorem dX9_minute_92 : decode cX9_minute 92 = .ok (.getfield 253, 3) := by decide +kernel
theorem dX9_minute_95 : decode cX9_minute 95 = .ok (.iload 5, 2) := by decide +kernel
theorem dX9_minute_97 : decode cX9_minute 97 = .ok (.iadd, 1) := by decide +kernel
theorem dX9_minute_98 : decode cX9_minute 98 = .ok (.putfield 253, 3) := by decide +kernel
theorem dX9_minute_101 : decode cX9_minute 101 = .ok (.aload_n 0, 1) := by decide +kernel
theorem dX9_minute_102 : decode cX9_minute 102 = .ok (.dup, 1) := by decide +kernel
theorem dX9_minute_103 : decode cX9_minute 103 = .ok (.getfield 256, 3) := by decide +kernel
theorem dX9_minute_106 : decode cX9_minute 106 = .ok (.iconst 5, 1) := by decide +kernel
theorem dX9_minute_107 : decode cX9_minute 107 = .ok (.iload 5, 2) := by decide +kernel
theorem dX9_minute_109 : decode cX9_minute 109 = .ok (.imul, 1) := by decide +kernel
theorem dX9_minute_110 : decode cX9_minute 110 = .ok (.iadd, 1) := by decide +kernel
theorem dX9_minute_111 : decode cX9_minute 111 = .ok (.putfield 256, 3) := by decide +kernel
theorem dX9_minute_114 : decode cX9_minute 114 = .ok (.iload_n 3, 1) := by decide +kernel
theorem dX9_minute_115 : decode cX9_minute 115 = .ok (.ifCond .ne 7, 3) := by decide +kernel
theorem dX9_minute_118 : decode cX9_minute 118 = .ok (.iconst 0, 1) := by decide +kernel
theorem dX9_minute_119 : decode cX9_minute 119 = .ok (.goto 33, 3) := by decide +kernel
theorem dX9_minute_122 : decode cX9_minute 122 = .ok (.aload_n 0, 1) := by decide +kernel
theorem dX9_minute_123 : decode cX9_minute 123 = .ok (.iload_n 1, 1) := by decide +kernel
theorem dX9_minute_124 : decode cX9_minute 124 = .ok (.iload_n 2, 1) := by decide +kernel
theorem dX9_minute_125 : decode cX9_minute 125 = .ok (.aload_n 0, 1) := by decide +kernel
theorem dX9_minute_126 : decode cX9_minute 126 = .ok (.getfield 256, 3) := by decide +kernel
theorem dX9_minute_129 : decode cX9_minute 129 = .ok (.sipush 2000, 3) := by decide +kernel
theorem dX9_minute_132 : decode cX9_minute 132 = .ok (.if_icmp .ge 10, 3) := by decide +kernel
theorem dX9_minute_135 : decode cX9_minute 135 = .ok (.aload_n 0, 1) := by decide +kernel
theorem dX9_minute_136 : decode cX9_minute 136 = .ok (.getfield 256, 3) := by decide +kernel
theorem dX9_minute_139 : decode cX9_minute 139 = .ok (.goto 6, 3) := by decide +kernel
theorem dX9_minute_142 : decode cX9_minute 142 = .ok (.sipush 2000, 3) := by decide +kernel
theorem dX9_minute_145 : decode cX9_minute 145 = .ok (.iload_n 3, 1) := by decide +kernel
theorem dX9_minute_146 : decode cX9_minute 146 = .ok (.invokevirtual 222, 3) := by decide +kernel
theorem dX9_minute_149 : decode cX9_minute 149 = .ok (.bipush 100, 2) := by decide +kernel
theorem dX9_minute_151 : decode cX9_minute 151 = .ok (.idiv, 1) := by decide +kernel
theorem dX9_minute_152 : decode cX9_minute 152 = .ok (.istore 6, 2) := by decide +kernel
theorem dX9_minute_154 : decode cX9_minute 154 = .ok (.iload 6, 2) := by decide +kernel
theorem dX9_minute_156 : decode cX9_minute 156 = .ok (.aload_n 0, 1) := by decide +kernel
theorem dX9_minute_157 : decode cX9_minute 157 = .ok (.getfield 256, 3) := by decide +kernel
theorem dX9_minute_160 : decode cX9_minute 160 = .ok (.if_icmp .ge 8, 3) := by decide +kernel
theorem dX9_minute_163 : decode cX9_minute 163 = .ok (.iload 6, 2) := by decide +kernel
theorem dX9_minute_165 : decode cX9_minute 165 = .ok (.goto 7, 3) := by decide +kernel
theorem dX9_minute_168 : decode cX9_minute 168 = .ok (.aload_n 0, 1) := by decide +kernel
theorem dX9_minute_169 : decode cX9_minute 169 = .ok (.getfield 256, 3) := by decide +kernel
theorem dX9_minute_172 : decode cX9_minute 172 = .ok (.istore 6, 2) := by decide +kernel
theorem dX9_minute_174 : decode cX9_minute 174 = .ok (.aload_n 0, 1) := by decide +kernel
theorem dX9_minute_175 : decode cX9_minute 175 = .ok (.dup, 1) := by decide +kernel
theorem dX9_minute_176 : decode cX9_minute 176 = .ok (.getfield 256, 3) := by decide +kernel
theorem dX9_minute_179 : decode cX9_minute 179 = .ok (.iload 6, 2) := by decide +kernel
theorem dX9_minute_181 : decode cX9_minute 181 = .ok (.isub, 1) := by decide +kernel
theorem dX9_minute_182 : decode cX9_minute 182 = .ok (.putfield 256, 3) := by decide +kernel
theorem dX9_minute_185 : decode cX9_minute 185 = .ok (.aload_n 0, 1) := by decide +kernel
theorem dX9_minute_186 : decode cX9_minute 186 = .ok (.dup, 1) := by decide +kernel
theorem dX9_minute_187 : decode cX9_minute 187 = .ok (.getfield 259, 3) := by decide +kernel
theorem dX9_minute_190 : decode cX9_minute 190 = .ok (.iload 6, 2) := by decide +kernel
theorem dX9_minute_192 : decode cX9_minute 192 = .ok (.iadd, 1) := by decide +kernel
theorem dX9_minute_193 : decode cX9_minute 193 = .ok (.putfield 259, 3) := by decide +kernel
theorem dX9_minute_196 : decode cX9_minute 196 = .ok (.aload_n 0, 1) := by decide +kernel
theorem dX9_minute_197 : decode cX9_minute 197 = .ok (.getfield 256, 3) := by decide +kernel
theorem dX9_minute_200 : decode cX9_minute 200 = .ok (.sipush 1500, 3) := by decide +kernel
theorem dX9_minute_203 : decode cX9_minute 203 = .ok (.if_icmp .le 27, 3) := by decide +kernel
theorem dX9_minute_206 : decode cX9_minute 206 = .ok (.aload_n 0, 1) := by decide +kernel
theorem dX9_minute_207 : decode cX9_minute 207 = .ok (.dup, 1) := by decide +kernel
theorem dX9_minute_208 : decode cX9_minute 208 = .ok (.getfield 262, 3) := by decide +kernel
theorem dX9_minute_211 : decode cX9_minute 211 = .ok (.aload_n 0, 1) := by decide +kernel
theorem dX9_minute_212 : decode cX9_minute 212 = .ok (.getfield 256, 3) := by decide +kernel
theorem dX9_minute_215 : decode cX9_minute 215 = .ok (.sipush 1500, 3) := by decide +kernel
theorem dX9_minute_218 : decode cX9_minute 218 = .ok (.isub, 1) := by decide +kernel
theorem dX9_minute_219 : decode cX9_minute 219 = .ok (.iadd, 1) := by decide +kernel
theorem dX9_minute_220 : decode cX9_minute 220 = .ok (.putfield 262, 3) := by decide +kernel
theorem dX9_minute_223 : decode cX9_minute 223 = .ok (.aload_n 0, 1) := by decide +kernel
theorem dX9_minute_224 : decode cX9_minute 224 = .ok (.sipush 1500, 3) := by decide +kernel
theorem dX9_minute_227 : decode cX9_minute 227 = .ok (.putfield 256, 3) := by decide +kernel
theorem dX9_minute_230 : decode cX9_minute 230 = .ok (.aload_n 0, 1) := by decide +kernel
theorem dX9_minute_231 : decode cX9_minute 231 = .ok (.getfield 256, 3) := by decide +kernel
theorem dX9_minute_234 : decode cX9_minute 234 = .ok (.ireturn, 1) := by decide +kernel
theorem dX9_fire_0 : decode cX9_fire 0 = .ok (.aload_n 0, 1) := by decide +kernel
theorem dX9_fire_1 : decode cX9_fire 1 = .ok (.iconst 0, 1) := by decide +kernel
theorem dX9_fire_2 : decode cX9_fire 2 = .ok (.putfield 71, 3) := by decide +kernel
theorem dX9_fire_5 : decode cX9_fire 5 = .ok (.iload_n 1, 1) := by decide +kernel
theorem dX9_fire_6 : decode cX9_fire 6 = .ok (.ifCond .ne 10, 3) := by decide +kernel
theorem dX9_fire_9 : decode cX9_fire 9 = .ok (.aload_n 0, 1) := by decide +kernel
theorem dX9_fire_10 : decode cX9_fire 10 = .ok (.getfield 256, 3) := by decide +kernel
theorem dX9_fire_13 : decode cX9_fire 13 = .ok (.goto 65, 3) := by decide +kernel
theorem dX9_fire_16 : decode cX9_fire 16 = .ok (.iload_n 1, 1) := by decide +kernel
theorem dX9_fire_17 : decode cX9_fire 17 = .ok (.iconst 1, 1) := by decide +kernel
theorem dX9_fire_18 : decode cX9_fire 18 = .ok (.if_icmp .ne 10, 3) := by decide +kernel
theorem dX9_fire_21 : decode cX9_fire 21 = .ok (.aload_n 0, 1) := by decide +kernel
theorem dX9_fire_22 : decode cX9_fire 22 = .ok (.getfield 246, 3) := by decide +kernel
theorem dX9_fire_25 : decode cX9_fire 25 = .ok (.goto 53, 3) := by decide +kernel
theorem dX9_fire_28 : decode cX9_fire 28 = .ok (.iload_n 1, 1) := by decide +kernel
theorem dX9_fire_29 : decode cX9_fire 29 = .ok (.iconst 2, 1) := by decide +kernel
theorem dX9_fire_30 : decode cX9_fire 30 = .ok (.if_icmp .ne 10, 3) := by decide +kernel
theorem dX9_fire_33 : decode cX9_fire 33 = .ok (.aload_n 0, 1) := by decide +kernel
theorem dX9_fire_34 : decode cX9_fire 34 = .ok (.getfield 253, 3) := by decide +kernel
theorem dX9_fire_37 : decode cX9_fire 37 = .ok (.goto 41, 3) := by decide +kernel
theorem dX9_fire_40 : decode cX9_fire 40 = .ok (.iload_n 1, 1) := by decide +kernel
theorem dX9_fire_41 : decode cX9_fire 41 = .ok (.iconst 3, 1) := by decide +kernel
theorem dX9_fire_42 : decode cX9_fire 42 = .ok (.if_icmp .ne 10, 3) := by decide +kernel
theorem dX9_fire_45 : decode cX9_fire 45 = .ok (.aload_n 0, 1) := by decide +kernel
theorem dX9_fire_46 : decode cX9_fire 46 = .ok (.getfield 259, 3) := by decide +kernel
theorem dX9_fire_49 : decode cX9_fire 49 = .ok (.goto 29, 3) := by decide +kernel
theorem dX9_fire_52 : decode cX9_fire 52 = .ok (.iload_n 1, 1) := by decide +kernel
theorem dX9_fire_53 : decode cX9_fire 53 = .ok (.iconst 4, 1) := by decide +kernel
theorem dX9_fire_54 : decode cX9_fire 54 = .ok (.if_icmp .ne 10, 3) := by decide +kernel
theorem dX9_fire_57 : decode cX9_fire 57 = .ok (.aload_n 0, 1) := by decide +kernel
theorem dX9_fire_58 : decode cX9_fire 58 = .ok (.getfield 262, 3) := by decide +kernel
theorem dX9_fire_61 : decode cX9_fire 61 = .ok (.goto 17, 3) := by decide +kernel
theorem dX9_fire_64 : decode cX9_fire 64 = .ok (.iload_n 1, 1) := by decide +kernel
theorem dX9_fire_65 : decode cX9_fire 65 = .ok (.iconst 5, 1) := by decide +kernel
theorem dX9_fire_66 : decode cX9_fire 66 = .ok (.if_icmp .ne 10, 3) := by decide +kernel
theorem dX9_fire_69 : decode cX9_fire 69 = .ok (.aload_n 0, 1) := by decide +kernel
theorem dX9_fire_70 : decode cX9_fire 70 = .ok (.getfield 250, 3) := by decide +kernel
theorem dX9_fire_73 : decode cX9_fire 73 = .ok (.goto 5, 3) := by decide +kernel
theorem dX9_fire_76 : decode cX9_fire 76 = .ok (.ldc 91, 2) := by decide +kernel
theorem dX9_fire_78 : decode cX9_fire 78 = .ok (.ireturn, 1) := by decide +kernel
theorem dX9_kindOf_0 : decode cX9_kindOf 0 = .ok (.aload_n 0, 1) := by decide +kernel
theorem dX9_kindOf_1 : decode cX9_kindOf 1 = .ok (.getfield 23, 3) := by decide +kernel
theorem dX9_kindOf_4 : decode cX9_kindOf 4 = .ok (.bipush 12, 2) := by decide +kernel
theorem dX9_kindOf_6 : decode cX9_kindOf 6 = .ok (.iload_n 1, 1) := by decide +kernel
theorem dX9_kindOf_7 : decode cX9_kindOf 7 = .ok (.imul, 1) := by decide +kernel
theorem dX9_kindOf_8 : decode cX9_kindOf 8 = .ok (.bipush 11, 2) := by decide +kernel
theorem dX9_kindOf_10 : decode cX9_kindOf 10 = .ok (.iadd, 1) := by decide +kernel
theorem dX9_kindOf_11 : decode cX9_kindOf 11 = .ok (.iaload, 1) := by decide +kernel
theorem dX9_kindOf_12 : decode cX9_kindOf 12 = .ok (.ifCond .ne 19, 3) := by decide +kernel
theorem dX9_kindOf_15 : decode cX9_kindOf 15 = .ok (.aload_n 0, 1) := by decide +kernel
theorem dX9_kindOf_16 : decode cX9_kindOf 16 = .ok (.iload_n 1, 1) := by decide +kernel
theorem dX9_kindOf_17 : decode cX9_kindOf 17 = .ok (.invokevirtual 179, 3) := by decide +kernel
theorem dX9_kindOf_20 : decode cX9_kindOf 20 = .ok (.bipush 7, 2) := by decide +kernel
theorem dX9_kindOf_22 : decode cX9_kindOf 22 = .ok (.if_icmp .ge 7, 3) := by decide +kernel
theorem dX9_kindOf_25 : decode cX9_kindOf 25 = .ok (.iconst 2, 1) := by decide +kernel
theorem dX9_kindOf_26 : decode cX9_kindOf 26 = .ok (.goto 4, 3) := by decide +kernel
theorem dX9_kindOf_29 : decode cX9_kindOf 29 = .ok (.iconst 1, 1) := by decide +kernel
theorem dX9_kindOf_30 : decode cX9_kindOf 30 = .ok (.ireturn, 1) := by decide +kernel
theorem dX9_kindOf_31 : decode cX9_kindOf 31 = .ok (.aload_n 0, 1) := by decide +kernel
theorem dX9_kindOf_32 : decode cX9_kindOf 32 = .ok (.iload_n 1, 1) := by decide +kernel
theorem dX9_kindOf_33 : decode cX9_kindOf 33 = .ok (.bipush 6, 2) := by decide +kernel
theorem dX9_kindOf_35 : decode cX9_kindOf 35 = .ok (.sipush 1000, 3) := by decide +kernel
theorem dX9_kindOf_38 : decode cX9_kindOf 38 = .ok (.iconst 4, 1) := by decide +kernel
theorem dX9_kindOf_39 : decode cX9_kindOf 39 = .ok (.invokevirtual 219, 3) := by decide +kernel
theorem dX9_kindOf_42 : decode cX9_kindOf 42 = .ok (.iconst 1, 1) := by decide +kernel
theorem dX9_kindOf_43 : decode cX9_kindOf 43 = .ok (.if_icmp .ge 7, 3) := by decide +kernel
theorem dX9_kindOf_46 : decode cX9_kindOf 46 = .ok (.iconst 4, 1) := by decide +kernel
theorem dX9_kindOf_47 : decode cX9_kindOf 47 = .ok (.goto 4, 3) := by decide +kernel
theorem dX9_kindOf_50 : decode cX9_kindOf 50 = .ok (.iconst 3, 1) := by decide +kernel
theorem dX9_kindOf_51 : decode cX9_kindOf 51 = .ok (.ireturn, 1) := by decide +kernel
theorem dX9_isOf_0 : decode cX9_isOf 0 = .ok (.iload_n 1, 1) := by decide +kernel
theorem dX9_isOf_1 : decode cX9_isOf 1 = .ok (.ifCond .eq 28, 3) := by decide +kernel
theorem dX9_isOf_4 : decode cX9_isOf 4 = .ok (.iload_n 0, 1) := by decide +kernel
theorem dX9_isOf_5 : decode cX9_isOf 5 = .ok (.iload_n 1, 1) := by decide +kernel
theorem dX9_isOf_6 : decode cX9_isOf 6 = .ok (.if_icmp .eq 23, 3) := by decide +kernel
theorem dX9_isOf_9 : decode cX9_isOf 9 = .ok (.iload_n 1, 1) := by decide +kernel
theorem dX9_isOf_10 : decode cX9_isOf 10 = .ok (.iconst 1, 1) := by decide +kernel
theorem dX9_isOf_11 : decode cX9_isOf 11 = .ok (.if_icmp .ne 8, 3) := by decide +kernel
theorem dX9_isOf_14 : decode cX9_isOf 14 = .ok (.iload_n 0, 1) := by decide +kernel
theorem dX9_isOf_15 : decode cX9_isOf 15 = .ok (.iconst 2, 1) := by decide +kernel
theorem dX9_isOf_16 : decode cX9_isOf 16 = .ok (.if_icmp .eq 13, 3) := by decide +kernel
theorem dX9_isOf_19 : decode cX9_isOf 19 = .ok (.iload_n 1, 1) := by decide +kernel
theorem dX9_isOf_20 : decode cX9_isOf 20 = .ok (.iconst 3, 1) := by decide +kernel
theorem dX9_isOf_21 : decode cX9_isOf 21 = .ok (.if_icmp .ne 12, 3) := by decide +kernel
theorem dX9_isOf_24 : decode cX9_isOf 24 = .ok (.iload_n 0, 1) := by decide +kernel
theorem dX9_isOf_25 : decode cX9_isOf 25 = .ok (.iconst 4, 1) := by decide +kernel
theorem dX9_isOf_26 : decode cX9_isOf 26 = .ok (.if_icmp .ne 7, 3) := by decide +kernel
theorem dX9_isOf_29 : decode cX9_isOf 29 = .ok (.iconst 1, 1) := by decide +kernel
theorem dX9_isOf_30 : decode cX9_isOf 30 = .ok (.goto 4, 3) := by decide +kernel
theorem dX9_isOf_33 : decode cX9_isOf 33 = .ok (.iconst 0, 1) := by decide +kernel
theorem dX9_isOf_34 : decode cX9_isOf 34 = .ok (.ireturn, 1) := by decide +kernel
theorem dX9_kind_0 : decode cX9_kind 0 = .ok (.aload_n 0, 1) := by decide +kernel
theorem dX9_kind_1 : decode cX9_kind 1 = .ok (.iconst 0, 1) := by decide +kernel
theorem dX9_kind_2 : decode cX9_kind 2 = .ok (.putfield 71, 3) := by decide +kernel
theorem dX9_kind_5 : decode cX9_kind 5 = .ok (.iload_n 1, 1) := by decide +kernel
theorem dX9_kind_6 : decode cX9_kind 6 = .ok (.invokestatic 116, 3) := by decide +kernel
theorem dX9_kind_9 : decode cX9_kind 9 = .ok (.ifCond .ne 6, 3) := by decide +kernel
theorem dX9_kind_12 : decode cX9_kind 12 = .ok (.ldc 91, 2) := by decide +kernel
theorem dX9_kind_14 : decode cX9_kind 14 = .ok (.ireturn, 1) := by decide +kernel
theorem dX9_kind_15 : decode cX9_kind 15 = .ok (.aload_n 0, 1) := by decide +kernel
theorem dX9_kind_16 : decode cX9_kind 16 = .ok (.iload_n 1, 1) := by decide +kernel
theorem dX9_kind_17 : decode cX9_kind 17 = .ok (.invokevirtual 123, 3) := by decide +kernel
theorem dX9_kind_20 : decode cX9_kind 20 = .ok (.istore_n 2, 1) := by decide +kernel
theorem dX9_kind_21 : decode cX9_kind 21 = .ok (.iload_n 2, 1) := by decide +kernel
theorem dX9_kind_22 : decode cX9_kind 22 = .ok (.ifCond .ge 7, 3) := by decide +kernel
theorem dX9_kind_25 : decode cX9_kind 25 = .ok (.iload_n 2, 1) := by decide +kernel
theorem dX9_kind_26 : decode cX9_kind 26 = .ok (.goto 8, 3) := by decide +kernel
theorem dX9_kind_29 : decode cX9_kind 29 = .ok (.aload_n 0, 1) := by decide +kernel
theorem dX9_kind_30 : decode cX9_kind 30 = .ok (.iload_n 1, 1) := by decide +kernel
theorem dX9_kind_31 : decode cX9_kind 31 = .ok (.invokevirtual 265, 3) := by decide +kernel
theorem dX9_kind_34 : decode cX9_kind 34 = .ok (.ireturn, 1) := by decide +kernel
theorem dX9_is_0 : decode cX9_is 0 = .ok (.aload_n 0, 1) := by decide +kernel
theorem dX9_is_1 : decode cX9_is 1 = .ok (.iconst 0, 1) := by decide +kernel
theorem dX9_is_2 : decode cX9_is 2 = .ok (.putfield 71, 3) := by decide +kernel
theorem dX9_is_5 : decode cX9_is 5 = .ok (.iload_n 1, 1) := by decide +kernel
theorem dX9_is_6 : decode cX9_is 6 = .ok (.invokestatic 116, 3) := by decide +kernel
theorem dX9_is_9 : decode cX9_is 9 = .ok (.ifCond .eq 15, 3) := by decide +kernel
theorem dX9_is_12 : decode cX9_is 12 = .ok (.iload_n 2, 1) := by decide +kernel
theorem dX9_is_13 : decode cX9_is 13 = .ok (.i2l, 1) := by decide +kernel
theorem dX9_is_14 : decode cX9_is 14 = .ok (.lconst 0, 1) := by decide +kernel
theorem dX9_is_15 : decode cX9_is 15 = .ok (.ldc2_w 98, 3) := by decide +kernel
theorem dX9_is_18 : decode cX9_is 18 = .ok (.invokestatic 81, 3) := by decide +kernel
theorem dX9_is_21 : decode cX9_is 21 = .ok (.ifCond .ne 8, 3) := by decide +kernel
theorem dX9_is_24 : decode cX9_is 24 = .ok (.ldc 91, 2) := by decide +kernel
theorem dX9_is_26 : decode cX9_is 26 = .ok (.goto 29, 3) := by decide +kernel
theorem dX9_is_29 : decode cX9_is 29 = .ok (.aload_n 0, 1) := by decide +kernel
theorem dX9_is_30 : decode cX9_is 30 = .ok (.getfield 19, 3) := by decide +kernel
theorem dX9_is_33 : decode cX9_is 33 = .ok (.iload_n 1, 1) := by decide +kernel
theorem dX9_is_34 : decode cX9_is 34 = .ok (.baload, 1) := by decide +kernel
theorem dX9_is_35 : decode cX9_is 35 = .ok (.ifCond .eq 19, 3) := by decide +kernel
theorem dX9_is_38 : decode cX9_is 38 = .ok (.aload_n 0, 1) := by decide +kernel
theorem dX9_is_39 : decode cX9_is 39 = .ok (.iload_n 1, 1) := by decide +kernel
theorem dX9_is_40 : decode cX9_is 40 = .ok (.invokevirtual 265, 3) := by decide +kernel
theorem dX9_is_43 : decode cX9_is 43 = .ok (.iload_n 2, 1) := by decide +kernel
theorem dX9_is_44 : decode cX9_is 44 = .ok (.invokestatic 268, 3) := by decide +kernel
theorem dX9_is_47 : decode cX9_is 47 = .ok (.ifCond .eq 7, 3) := by decide +kernel
theorem dX9_is_50 : decode cX9_is 50 = .ok (.iconst 1, 1) := by decide +kernel
theorem dX9_is_51 : decode cX9_is 51 = .ok (.goto 4, 3) := by decide +kernel
theorem dX9_is_54 : decode cX9_is 54 = .ok (.iconst 0, 1) := by decide +kernel
theorem dX9_is_55 : decode cX9_is 55 = .ok (.ireturn, 1) := by decide +kernel
theorem dX9_as_0 : decode cX9_as 0 = .ok (.aload_n 0, 1) := by decide +kernel
theorem dX9_as_1 : decode cX9_as 1 = .ok (.iconst 0, 1) := by decide +kernel
theorem dX9_as_2 : decode cX9_as 2 = .ok (.putfield 71, 3) := by decide +kernel
theorem dX9_as_5 : decode cX9_as 5 = .ok (.iload_n 1, 1) := by decide +kernel
theorem dX9_as_6 : decode cX9_as 6 = .ok (.invokestatic 116, 3) := by decide +kernel
theorem dX9_as_9 : decode cX9_as 9 = .ok (.ifCond .eq 15, 3) := by decide +kernel
theorem dX9_as_12 : decode cX9_as 12 = .ok (.iload_n 2, 1) := by decide +kernel
theorem dX9_as_13 : decode cX9_as 13 = .ok (.i2l, 1) := by decide +kernel
theorem dX9_as_14 : decode cX9_as 14 = .ok (.lconst 0, 1) := by decide +kernel
theorem dX9_as_15 : decode cX9_as 15 = .ok (.ldc2_w 98, 3) := by decide +kernel
theorem dX9_as_18 : decode cX9_as 18 = .ok (.invokestatic 81, 3) := by decide +kernel
theorem dX9_as_21 : decode cX9_as 21 = .ok (.ifCond .ne 6, 3) := by decide +kernel
theorem dX9_as_24 : decode cX9_as 24 = .ok (.ldc 91, 2) := by decide +kernel
theorem dX9_as_26 : decode cX9_as 26 = .ok (.ireturn, 1) := by decide +kernel
theorem dX9_as_27 : decode cX9_as 27 = .ok (.aload_n 0, 1) := by decide +kernel
theorem dX9_as_28 : decode cX9_as 28 = .ok (.iload_n 1, 1) := by decide +kernel
theorem dX9_as_29 : decode cX9_as 29 = .ok (.invokevirtual 123, 3) := by decide +kernel
theorem dX9_as_32 : decode cX9_as 32 = .ok (.istore_n 3, 1) := by decide +kernel
theorem dX9_as_33 : decode cX9_as 33 = .ok (.iload_n 3, 1) := by decide +kernel
theorem dX9_as_34 : decode cX9_as 34 = .ok (.ifCond .ge 7, 3) := by decide +kernel
theorem dX9_as_37 : decode cX9_as 37 = .ok (.iload_n 3, 1) := by decide +kernel
theorem dX9_as_38 : decode cX9_as 38 = .ok (.goto 34, 3) := by decide +kernel
theorem dX9_as_41 : decode cX9_as 41 = .ok (.aload_n 0, 1) := by decide +kernel
theorem dX9_as_42 : decode cX9_as 42 = .ok (.iload_n 1, 1) := by decide +kernel
theorem dX9_as_43 : decode cX9_as 43 = .ok (.invokevirtual 265, 3) := by decide +kernel
theorem dX9_as_46 : decode cX9_as 46 = .ok (.iload_n 2, 1) := by decide +kernel
theorem dX9_as_47 : decode cX9_as 47 = .ok (.invokestatic 268, 3) := by decide +kernel
theorem dX9_as_50 : decode cX9_as 50 = .ok (.ifCond .eq 17, 3) := by decide +kernel
theorem dX9_as_53 : decode cX9_as 53 = .ok (.aload_n 0, 1) := by decide +kernel
theorem dX9_as_54 : decode cX9_as 54 = .ok (.getfield 23, 3) := by decide +kernel
theorem dX9_as_57 : decode cX9_as 57 = .ok (.bipush 12, 2) := by decide +kernel
theorem dX9_as_59 : decode cX9_as 59 = .ok (.iload_n 1, 1) := by decide +kernel
theorem dX9_as_60 : decode cX9_as 60 = .ok (.imul, 1) := by decide +kernel
theorem dX9_as_61 : decode cX9_as 61 = .ok (.iconst 1, 1) := by decide +kernel
theorem dX9_as_62 : decode cX9_as 62 = .ok (.iadd, 1) := by decide +kernel
theorem dX9_as_63 : decode cX9_as 63 = .ok (.iaload, 1) := by decide +kernel
theorem dX9_as_64 : decode cX9_as 64 = .ok (.goto 8, 3) := by decide +kernel
theorem dX9_as_67 : decode cX9_as 67 = .ok (.aload_n 0, 1) := by decide +kernel
theorem dX9_as_68 : decode cX9_as 68 = .ok (.iconst 3, 1) := by decide +kernel
theorem dX9_as_69 : decode cX9_as 69 = .ok (.invokevirtual 92, 3) := by decide +kernel
theorem dX9_as_72 : decode cX9_as 72 = .ok (.ireturn, 1) := by decide +kernel
theorem dX9_began_0 : decode cX9_began 0 = .ok (.aload_n 0, 1) := by decide +kernel
theorem dX9_began_1 : decode cX9_began 1 = .ok (.getfield 271, 3) := by decide +kernel
theorem dX9_began_4 : decode cX9_began 4 = .ok (.bipush 16, 2) := by decide +kernel
theorem dX9_began_6 : decode cX9_began 6 = .ok (.if_icmp .ge 23, 3) := by decide +kernel
theorem dX9_began_9 : decode cX9_began 9 = .ok (.aload_n 0, 1) := by decide +kernel
theorem dX9_began_10 : decode cX9_began 10 = .ok (.getfield 68, 3) := by decide +kernel
theorem dX9_began_13 : decode cX9_began 13 = .ok (.aload_n 0, 1) := by decide +kernel
theorem dX9_began_14 : decode cX9_began 14 = .ok (.getfield 271, 3) := by decide +kernel
theorem dX9_began_17 : decode cX9_began 17 = .ok (.iload_n 1, 1) := by decide +kernel
theorem dX9_began_18 : decode cX9_began 18 = .ok (.iastore, 1) := by decide +kernel
theorem dX9_began_19 : decode cX9_began 19 = .ok (.aload_n 0, 1) := by decide +kernel
theorem dX9_began_20 : decode cX9_began 20 = .ok (.dup, 1) := by decide +kernel
theorem dX9_began_21 : decode cX9_began 21 = .ok (.getfield 271, 3) := by decide +kernel
theorem dX9_began_24 : decode cX9_began 24 = .ok (.iconst 1, 1) := by decide +kernel
theorem dX9_began_25 : decode cX9_began 25 = .ok (.iadd, 1) := by decide +kernel
theorem dX9_began_26 : decode cX9_began 26 = .ok (.putfield 271, 3) := by decide +kernel
theorem dX9_began_29 : decode cX9_began 29 = .ok (.return_, 1) := by decide +kernel
theorem dX9_sickWorth_0 : decode cX9_sickWorth 0 = .ok (.iload_n 2, 1) := by decide +kernel
theorem dX9_sickWorth_1 : decode cX9_sickWorth 1 = .ok (.iconst 4, 1) := by decide +kernel
theorem dX9_sickWorth_2 : decode cX9_sickWorth 2 = .ok (.if_icmp .ne 9, 3) := by decide +kernel
theorem dX9_sickWorth_5 : decode cX9_sickWorth 5 = .ok (.aload_n 0, 1) := by decide +kernel
theorem dX9_sickWorth_6 : decode cX9_sickWorth 6 = .ok (.bipush 14, 2) := by decide +kernel
theorem dX9_sickWorth_8 : decode cX9_sickWorth 8 = .ok (.invokevirtual 274, 3) := by decide +kernel
theorem dX9_sickWorth_11 : decode cX9_sickWorth 11 = .ok (.aload_n 0, 1) := by decide +kernel
theorem dX9_sickWorth_12 : decode cX9_sickWorth 12 = .ok (.bipush 13, 2) := by decide +kernel
theorem dX9_sickWorth_14 : decode cX9_sickWorth 14 = .ok (.invokevirtual 274, 3) := by decide +kernel
theorem dX9_sickWorth_17 : decode cX9_sickWorth 17 = .ok (.aload_n 0, 1) := by decide +kernel
theorem dX9_sickWorth_18 : decode cX9_sickWorth 18 = .ok (.bipush 10, 2) := by decide +kernel
theorem dX9_sickWorth_20 : decode cX9_sickWorth 20 = .ok (.invokevirtual 274, 3) := by decide +kernel
theorem dX9_sickWorth_23 : decode cX9_sickWorth 23 = .ok (.aload_n 0, 1) := by decide +kernel
theorem dX9_sickWorth_24 : decode cX9_sickWorth 24 = .ok (.getfield 23, 3) := by decide +kernel
theorem dX9_sickWorth_27 : decode cX9_sickWorth 27 = .ok (.bipush 12, 2) := by decide +kernel
theorem dX9_sickWorth_29 : decode cX9_sickWorth 29 = .ok (.iload_n 1, 1) := by decide +kernel
theorem dX9_sickWorth_30 : decode cX9_sickWorth 30 = .ok (.imul, 1) := by decide +kernel
theorem dX9_sickWorth_31 : decode cX9_sickWorth 31 = .ok (.iconst 1, 1) := by decide +kernel
theorem dX9_sickWorth_32 : decode cX9_sickWorth 32 = .ok (.iadd, 1) := by decide +kernel
theorem dX9_sickWorth_33 : decode cX9_sickWorth 33 = .ok (.iaload, 1) := by decide +kernel
theorem dX9_sickWorth_34 : decode cX9_sickWorth 34 = .ok (.aload_n 0, 1) := by decide +kernel
theorem dX9_sickWorth_35 : decode cX9_sickWorth 35 = .ok (.getfield 23, 3) := by decide +kernel
theorem dX9_sickWorth_38 : decode cX9_sickWorth 38 = .ok (.bipush 12, 2) := by decide +kernel
theorem dX9_sickWorth_40 : decode cX9_sickWorth 40 = .ok (.iload_n 1, 1) := by decide +kernel
theorem dX9_sickWorth_41 : decode cX9_sickWorth 41 = .ok (.imul, 1) := by decide +kernel
theorem dX9_sickWorth_42 : decode cX9_sickWorth 42 = .ok (.bipush 11, 2) := by decide +kernel
theorem dX9_sickWorth_44 : decode cX9_sickWorth 44 = .ok (.iadd, 1) := by decide +kernel
theorem dX9_sickWorth_45 : decode cX9_sickWorth 45 = .ok (.iaload, 1) := by decide +kernel
theorem dX9_sickWorth_46 : decode cX9_sickWorth 46 = .ok (.isub, 1) := by decide +kernel
theorem dX9_sickWorth_47 : decode cX9_sickWorth 47 = .ok (.istore_n 3, 1) := by decide +kernel
theorem dX9_sickWorth_48 : decode cX9_sickWorth 48 = .ok (.iload_n 2, 1) := by decide +kernel
theorem dX9_sickWorth_49 : decode cX9_sickWorth 49 = .ok (.iconst 4, 1) := by decide +kernel
theorem dX9_sickWorth_50 : decode cX9_sickWorth 50 = .ok (.if_icmp .ne 9, 3) := by decide +kernel
theorem dX9_sickWorth_53 : decode cX9_sickWorth 53 = .ok (.iconst 2, 1) := by decide +kernel
theorem dX9_sickWorth_54 : decode cX9_sickWorth 54 = .ok (.iload_n 3, 1) := by decide +kernel
theorem dX9_sickWorth_55 : decode cX9_sickWorth 55 = .ok (.imul, 1) := by decide +kernel
theorem dX9_sickWorth_56 : decode cX9_sickWorth 56 = .ok (.goto 4, 3) := by decide +kernel
theorem dX9_sickWorth_59 : decode cX9_sickWorth 59 = .ok (.iload_n 3, 1) := by decide +kernel
theorem dX9_sickWorth_60 : decode cX9_sickWorth 60 = .ok (.ireturn, 1) := by decide +kernel
theorem dX9_marked_0 : decode cX9_marked 0 = .ok (.iload_n 2, 1) := by decide +kernel
theorem dX9_marked_1 : decode cX9_marked 1 = .ok (.iconst 4, 1) := by decide +kernel
theorem dX9_marked_2 : decode cX9_marked 2 = .ok (.if_icmp .ne 9, 3) := by decide +kernel
theorem dX9_marked_5 : decode cX9_marked 5 = .ok (.aload_n 0, 1) := by decide +kernel
theorem dX9_marked_6 : decode cX9_marked 6 = .ok (.bipush 23, 2) := by decide +kernel
theorem dX9_marked_8 : decode cX9_marked 8 = .ok (.invokevirtual 274, 3) := by decide +kernel
theorem dX9_marked_11 : decode cX9_marked 11 = .ok (.iload_n 2, 1) := by decide +kernel
theorem dX9_marked_12 : decode cX9_marked 12 = .ok (.iconst 3, 1) := by decide +kernel
theorem dX9_marked_13 : decode cX9_marked 13 = .ok (.invokestatic 268, 3) := by decide +kernel
theorem dX9_marked_16 : decode cX9_marked 16 = .ok (.ifCond .eq 9, 3) := by decide +kernel
theorem dX9_marked_19 : decode cX9_marked 19 = .ok (.aload_n 0, 1) := by decide +kernel
theorem dX9_marked_20 : decode cX9_marked 20 = .ok (.bipush 22, 2) := by decide +kernel
theorem dX9_marked_22 : decode cX9_marked 22 = .ok (.invokevirtual 274, 3) := by decide +kernel
theorem dX9_marked_25 : decode cX9_marked 25 = .ok (.iload_n 2, 1) := by decide +kernel
theorem dX9_marked_26 : decode cX9_marked 26 = .ok (.iconst 2, 1) := by decide +kernel
theorem dX9_marked_27 : decode cX9_marked 27 = .ok (.if_icmp .ne 9, 3) := by decide +kernel
theorem dX9_marked_30 : decode cX9_marked 30 = .ok (.aload_n 0, 1) := by decide +kernel
theorem dX9_marked_31 : decode cX9_marked 31 = .ok (.bipush 21, 2) := by decide +kernel
theorem dX9_marked_33 : decode cX9_marked 33 = .ok (.invokevirtual 274, 3) := by decide +kernel
theorem dX9_marked_36 : decode cX9_marked 36 = .ok (.aload_n 0, 1) := by decide +kernel
theorem dX9_marked_37 : decode cX9_marked 37 = .ok (.bipush 20, 2) := by decide +kernel
theorem dX9_marked_39 : decode cX9_marked 39 = .ok (.invokevirtual 274, 3) := by decide +kernel
theorem dX9_marked_42 : decode cX9_marked 42 = .ok (.aload_n 0, 1) := by decide +kernel
theorem dX9_marked_43 : decode cX9_marked 43 = .ok (.getfield 23, 3) := by decide +kernel
theorem dX9_marked_46 : decode cX9_marked 46 = .ok (.bipush 12, 2) := by decide +kernel
theorem dX9_marked_48 : decode cX9_marked 48 = .ok (.iload_n 1, 1) := by decide +kernel
theorem dX9_marked_49 : decode cX9_marked 49 = .ok (.imul, 1) := by decide +kernel
theorem dX9_marked_50 : decode cX9_marked 50 = .ok (.iconst 4, 1) := by decide +kernel
theorem dX9_marked_51 : decode cX9_marked 51 = .ok (.iadd, 1) := by decide +kernel
theorem dX9_marked_52 : decode cX9_marked 52 = .ok (.iaload, 1) := by decide +kernel
theorem dX9_marked_53 : decode cX9_marked 53 = .ok (.iload_n 2, 1) := by decide +kernel
theorem dX9_marked_54 : decode cX9_marked 54 = .ok (.iconst 2, 1) := by decide +kernel
theorem dX9_marked_55 : decode cX9_marked 55 = .ok (.if_icmp .ne 8, 3) := by decide +kernel
theorem dX9_marked_58 : decode cX9_marked 58 = .ok (.bipush 100, 2) := by decide +kernel
theorem dX9_marked_60 : decode cX9_marked 60 = .ok (.goto 21, 3) := by decide +kernel
theorem dX9_marked_63 : decode cX9_marked 63 = .ok (.iload_n 2, 1) := by decide +kernel
theorem dX9_marked_64 : decode cX9_marked 64 = .ok (.iconst 3, 1) := by decide +kernel
theorem dX9_marked_65 : decode cX9_marked 65 = .ok (.invokestatic 268, 3) := by decide +kernel
theorem dX9_marked_68 : decode cX9_marked 68 = .ok (.ifCond .eq 12, 3) := by decide +kernel
theorem dX9_marked_71 : decode cX9_marked 71 = .ok (.aload_n 0, 1) := by decide +kernel
theorem dX9_marked_72 : decode cX9_marked 72 = .ok (.iload_n 1, 1) := by decide +kernel
theorem dX9_marked_73 : decode cX9_marked 73 = .ok (.iload_n 2, 1) := by decide +kernel
theorem dX9_marked_74 : decode cX9_marked 74 = .ok (.invokevirtual 278, 3) := by decide +kernel
theorem dX9_marked_77 : decode cX9_marked 77 = .ok (.goto 4, 3) := by decide +kernel
theorem dX9_marked_80 : decode cX9_marked 80 = .ok (.iconst 0, 1) := by decide +kernel
theorem dX9_marked_81 : decode cX9_marked 81 = .ok (.iadd, 1) := by decide +kernel
theorem dX9_marked_82 : decode cX9_marked 82 = .ok (.istore_n 3, 1) := by decide +kernel
theorem dX9_marked_83 : decode cX9_marked 83 = .ok (.iload_n 2, 1) := by decide +kernel
theorem dX9_marked_84 : decode cX9_marked 84 = .ok (.iconst 4, 1) := by decide +kernel
theorem dX9_marked_85 : decode cX9_marked 85 = .ok (.if_icmp .ne 11, 3) := by decide +kernel
theorem dX9_marked_88 : decode cX9_marked 88 = .ok (.iload_n 3, 1) := by decide +kernel
theorem dX9_marked_89 : decode cX9_marked 89 = .ok (.sipush 1000, 3) := by decide +kernel
theorem dX9_marked_92 : decode cX9_marked 92 = .ok (.isub, 1) := by decide +kernel
theorem dX9_marked_93 : decode cX9_marked 93 = .ok (.goto 4, 3) := by decide +kernel
theorem dX9_marked_96 : decode cX9_marked 96 = .ok (.iload_n 3, 1) := by decide +kernel
theorem dX9_marked_97 : decode cX9_marked 97 = .ok (.ireturn, 1) := by decide +kernel
theorem dX9_worth_0 : decode cX9_worth 0 = .ok (.iload_n 2, 1) := by decide +kernel
theorem dX9_worth_1 : decode cX9_worth 1 = .ok (.iconst 3, 1) := by decide +kernel
theorem dX9_worth_2 : decode cX9_worth 2 = .ok (.invokestatic 268, 3) := by decide +kernel
theorem dX9_worth_5 : decode cX9_worth 5 = .ok (.ifCond .eq 10, 3) := by decide +kernel
theorem dX9_worth_8 : decode cX9_worth 8 = .ok (.aload_n 0, 1) := by decide +kernel
theorem dX9_worth_9 : decode cX9_worth 9 = .ok (.iload_n 1, 1) := by decide +kernel
theorem dX9_worth_10 : decode cX9_worth 10 = .ok (.iload_n 2, 1) := by decide +kernel
theorem dX9_worth_11 : decode cX9_worth 11 = .ok (.invokevirtual 278, 3) := by decide +kernel
theorem dX9_worth_14 : decode cX9_worth 14 = .ok (.ireturn, 1) := by decide +kernel
theorem dX9_worth_15 : decode cX9_worth 15 = .ok (.iload_n 2, 1) := by decide +kernel
theorem dX9_worth_16 : decode cX9_worth 16 = .ok (.iconst 2, 1) := by decide +kernel
theorem dX9_worth_17 : decode cX9_worth 17 = .ok (.if_icmp .ne 9, 3) := by decide +kernel
theorem dX9_worth_20 : decode cX9_worth 20 = .ok (.aload_n 0, 1) := by decide +kernel
theorem dX9_worth_21 : decode cX9_worth 21 = .ok (.bipush 12, 2) := by decide +kernel
theorem dX9_worth_23 : decode cX9_worth 23 = .ok (.invokevirtual 274, 3) := by decide +kernel
theorem dX9_worth_26 : decode cX9_worth 26 = .ok (.aload_n 0, 1) := by decide +kernel
theorem dX9_worth_27 : decode cX9_worth 27 = .ok (.bipush 11, 2) := by decide +kernel
theorem dX9_worth_29 : decode cX9_worth 29 = .ok (.invokevirtual 274, 3) := by decide +kernel
theorem dX9_worth_32 : decode cX9_worth 32 = .ok (.aload_n 0, 1) := by decide +kernel
theorem dX9_worth_33 : decode cX9_worth 33 = .ok (.bipush 10, 2) := by decide +kernel
theorem dX9_worth_35 : decode cX9_worth 35 = .ok (.invokevirtual 274, 3) := by decide +kernel
theorem dX9_worth_38 : decode cX9_worth 38 = .ok (.aload_n 0, 1) := by decide +kernel
theorem dX9_worth_39 : decode cX9_worth 39 = .ok (.getfield 23, 3) := by decide +kernel
theorem dX9_worth_42 : decode cX9_worth 42 = .ok (.bipush 12, 2) := by decide +kernel
theorem dX9_worth_44 : decode cX9_worth 44 = .ok (.iload_n 1, 1) := by decide +kernel
theorem dX9_worth_45 : decode cX9_worth 45 = .ok (.imul, 1) := by decide +kernel
theorem dX9_worth_46 : decode cX9_worth 46 = .ok (.iconst 1, 1) := by decide +kernel
theorem dX9_worth_47 : decode cX9_worth 47 = .ok (.iadd, 1) := by decide +kernel
theorem dX9_worth_48 : decode cX9_worth 48 = .ok (.iaload, 1) := by decide +kernel
theorem dX9_worth_49 : decode cX9_worth 49 = .ok (.aload_n 0, 1) := by decide +kernel
theorem dX9_worth_50 : decode cX9_worth 50 = .ok (.iload_n 1, 1) := by decide +kernel
theorem dX9_worth_51 : decode cX9_worth 51 = .ok (.invokevirtual 182, 3) := by decide +kernel
theorem dX9_worth_54 : decode cX9_worth 54 = .ok (.iadd, 1) := by decide +kernel
theorem dX9_worth_55 : decode cX9_worth 55 = .ok (.istore_n 3, 1) := by decide +kernel
theorem dX9_worth_56 : decode cX9_worth 56 = .ok (.iload_n 2, 1) := by decide +kernel
theorem dX9_worth_57 : decode cX9_worth 57 = .ok (.iconst 2, 1) := by decide +kernel
theorem dX9_worth_58 : decode cX9_worth 58 = .ok (.if_icmp .ne 14, 3) := by decide +kernel
theorem dX9_worth_61 : decode cX9_worth 61 = .ok (.iload_n 3, 1) := by decide +kernel
theorem dX9_worth_62 : decode cX9_worth 62 = .ok (.aload_n 0, 1) := by decide +kernel
theorem dX9_worth_63 : decode cX9_worth 63 = .ok (.iload_n 1, 1) := by decide +kernel
theorem dX9_worth_64 : decode cX9_worth 64 = .ok (.iload_n 2, 1) := by decide +kernel
theorem dX9_worth_65 : decode cX9_worth 65 = .ok (.invokevirtual 281, 3) := by decide +kernel
theorem dX9_worth_68 : decode cX9_worth 68 = .ok (.iadd, 1) := by decide +kernel
theorem dX9_worth_69 : decode cX9_worth 69 = .ok (.goto 4, 3) := by decide +kernel
theorem dX9_worth_72 : decode cX9_worth 72 = .ok (.iload_n 3, 1) := by decide +kernel
theorem dX9_worth_73 : decode cX9_worth 73 = .ok (.ireturn, 1) := by decide +kernel
theorem dX9_ask_0 : decode cX9_ask 0 = .ok (.aload_n 0, 1) := by decide +kernel
theorem dX9_ask_1 : decode cX9_ask 1 = .ok (.iconst 0, 1) := by decide +kernel
theorem dX9_ask_2 : decode cX9_ask 2 = .ok (.putfield 71, 3) := by decide +kernel
theorem dX9_ask_5 : decode cX9_ask 5 = .ok (.iload_n 1, 1) := by decide +kernel
theorem dX9_ask_6 : decode cX9_ask 6 = .ok (.invokestatic 116, 3) := by decide +kernel
theorem dX9_ask_9 : decode cX9_ask 9 = .ok (.ifCond .eq 13, 3) := by decide +kernel
theorem dX9_ask_12 : decode cX9_ask 12 = .ok (.iload_n 2, 1) := by decide +kernel
theorem dX9_ask_13 : decode cX9_ask 13 = .ok (.i2l, 1) := by decide +kernel
theorem dX9_ask_14 : decode cX9_ask 14 = .ok (.lconst 0, 1) := by decide +kernel
theorem dX9_ask_15 : decode cX9_ask 15 = .ok (.lconst 1, 1) := by decide +kernel
theorem dX9_ask_16 : decode cX9_ask 16 = .ok (.invokestatic 81, 3) := by decide +kernel
theorem dX9_ask_19 : decode cX9_ask 19 = .ok (.ifCond .ne 6, 3) := by decide +kernel
theorem dX9_ask_22 : decode cX9_ask 22 = .ok (.ldc 91, 2) := by decide +kernel
theorem dX9_ask_24 : decode cX9_ask 24 = .ok (.ireturn, 1) := by decide +kernel
theorem dX9_ask_25 : decode cX9_ask 25 = .ok (.aload_n 0, 1) := by decide +kernel
theorem dX9_ask_26 : decode cX9_ask 26 = .ok (.iconst 0, 1) := by decide +kernel
theorem dX9_ask_27 : decode cX9_ask 27 = .ok (.putfield 271, 3) := by decide +kernel
theorem dX9_ask_30 : decode cX9_ask 30 = .ok (.aload_n 0, 1) := by decide +kernel
theorem dX9_ask_31 : decode cX9_ask 31 = .ok (.iload_n 1, 1) := by decide +kernel
theorem dX9_ask_32 : decode cX9_ask 32 = .ok (.invokevirtual 123, 3) := by decide +kernel
theorem dX9_ask_35 : decode cX9_ask 35 = .ok (.istore_n 3, 1) := by decide +kernel
theorem dX9_ask_36 : decode cX9_ask 36 = .ok (.iload_n 3, 1) := by decide +kernel
theorem dX9_ask_37 : decode cX9_ask 37 = .ok (.ifCond .ge 7, 3) := by decide +kernel
theorem dX9_ask_40 : decode cX9_ask 40 = .ok (.iload_n 3, 1) := by decide +kernel
theorem dX9_ask_41 : decode cX9_ask 41 = .ok (.goto 30, 3) := by decide +kernel
theorem dX9_ask_44 : decode cX9_ask 44 = .ok (.iload_n 2, 1) := by decide +kernel
theorem dX9_ask_45 : decode cX9_ask 45 = .ok (.ifCond .ne 16, 3) := by decide +kernel
theorem dX9_ask_48 : decode cX9_ask 48 = .ok (.aload_n 0, 1) := by decide +kernel
theorem dX9_ask_49 : decode cX9_ask 49 = .ok (.iload_n 1, 1) := by decide +kernel
theorem dX9_ask_50 : decode cX9_ask 50 = .ok (.aload_n 0, 1) := by decide +kernel
theorem dX9_ask_51 : decode cX9_ask 51 = .ok (.iload_n 1, 1) := by decide +kernel
theorem dX9_ask_52 : decode cX9_ask 52 = .ok (.invokevirtual 265, 3) := by decide +kernel
theorem dX9_ask_55 : decode cX9_ask 55 = .ok (.invokevirtual 284, 3) := by decide +kernel
theorem dX9_ask_58 : decode cX9_ask 58 = .ok (.goto 13, 3) := by decide +kernel
theorem dX9_ask_61 : decode cX9_ask 61 = .ok (.aload_n 0, 1) := by decide +kernel
theorem dX9_ask_62 : decode cX9_ask 62 = .ok (.iload_n 1, 1) := by decide +kernel
theorem dX9_ask_63 : decode cX9_ask 63 = .ok (.aload_n 0, 1) := by decide +kernel
theorem dX9_ask_64 : decode cX9_ask 64 = .ok (.iload_n 1, 1) := by decide +kernel
theorem dX9_ask_65 : decode cX9_ask 65 = .ok (.invokevirtual 265, 3) := by decide +kernel
theorem dX9_ask_68 : decode cX9_ask 68 = .ok (.invokevirtual 281, 3) := by decide +kernel
theorem dX9_ask_71 : decode cX9_ask 71 = .ok (.ireturn, 1) := by decide +kernel
theorem dX9_trace_0 : decode cX9_trace 0 = .ok (.aload_n 0, 1) := by decide +kernel
theorem dX9_trace_1 : decode cX9_trace 1 = .ok (.iconst 0, 1) := by decide +kernel
theorem dX9_trace_2 : decode cX9_trace 2 = .ok (.putfield 71, 3) := by decide +kernel
theorem dX9_trace_5 : decode cX9_trace 5 = .ok (.iload_n 1, 1) := by decide +kernel
theorem dX9_trace_6 : decode cX9_trace 6 = .ok (.i2l, 1) := by decide +kernel
theorem dX9_trace_7 : decode cX9_trace 7 = .ok (.lconst 0, 1) := by decide +kernel
theorem dX9_trace_8 : decode cX9_trace 8 = .ok (.aload_n 0, 1) := by decide +kernel
theorem dX9_trace_9 : decode cX9_trace 9 = .ok (.getfield 271, 3) := by decide +kernel
theorem dX9_trace_12 : decode cX9_trace 12 = .ok (.iconst 1, 1) := by decide +kernel
theorem dX9_trace_13 : decode cX9_trace 13 = .ok (.isub, 1) := by decide +kernel
theorem dX9_trace_14 : decode cX9_trace 14 = .ok (.i2l, 1) := by decide +kernel
theorem dX9_trace_15 : decode cX9_trace 15 = .ok (.invokestatic 81, 3) := by decide +kernel
theorem dX9_trace_18 : decode cX9_trace 18 = .ok (.ifCond .eq 12, 3) := by decide +kernel
theorem dX9_trace_21 : decode cX9_trace 21 = .ok (.aload_n 0, 1) := by decide +kernel
theorem dX9_trace_22 : decode cX9_trace 22 = .ok (.getfield 68, 3) := by decide +kernel
theorem dX9_trace_25 : decode cX9_trace 25 = .ok (.iload_n 1, 1) := by decide +kernel
theorem dX9_trace_26 : decode cX9_trace 26 = .ok (.iaload, 1) := by decide +kernel
theorem dX9_trace_27 : decode cX9_trace 27 = .ok (.goto 5, 3) := by decide +kernel
theorem dX9_trace_30 : decode cX9_trace 30 = .ok (.ldc 158, 2) := by decide +kernel
theorem dX9_trace_32 : decode cX9_trace 32 = .ok (.ireturn, 1) := by decide +kernel
theorem dX9_count_0 : decode cX9_count 0 = .ok (.aload_n 0, 1) := by decide +kernel
theorem dX9_count_1 : decode cX9_count 1 = .ok (.iconst 0, 1) := by decide +kernel
theorem dX9_count_2 : decode cX9_count 2 = .ok (.putfield 71, 3) := by decide +kernel
theorem dX9_count_5 : decode cX9_count 5 = .ok (.iconst 0, 1) := by decide +kernel
theorem dX9_count_6 : decode cX9_count 6 = .ok (.istore_n 2, 1) := by decide +kernel
theorem dX9_count_7 : decode cX9_count 7 = .ok (.iload_n 1, 1) := by decide +kernel
theorem dX9_count_8 : decode cX9_count 8 = .ok (.tableswitch 166 0 7 #[48, 81, 81, 81, 81, 81, 128, 161], 48) := by decide +kernel
theorem dX9_count_56 : decode cX9_count 56 = .ok (.iconst 0, 1) := by decide +kernel
theorem dX9_count_57 : decode cX9_count 57 = .ok (.istore_n 3, 1) := by decide +kernel
theorem dX9_count_58 : decode cX9_count 58 = .ok (.iload_n 3, 1) := by decide +kernel
theorem dX9_count_59 : decode cX9_count 59 = .ok (.bipush 8, 2) := by decide +kernel
theorem dX9_count_61 : decode cX9_count 61 = .ok (.if_icmp .ge 26, 3) := by decide +kernel
theorem dX9_count_64 : decode cX9_count 64 = .ok (.iload_n 2, 1) := by decide +kernel
theorem dX9_count_65 : decode cX9_count 65 = .ok (.aload_n 0, 1) := by decide +kernel
theorem dX9_count_66 : decode cX9_count 66 = .ok (.getfield 7, 3) := by decide +kernel
theorem dX9_count_69 : decode cX9_count 69 = .ok (.iload_n 3, 1) := by decide +kernel
theorem dX9_count_70 : decode cX9_count 70 = .ok (.iaload, 1) := by decide +kernel
theorem dX9_count_71 : decode cX9_count 71 = .ok (.ifCond .lt 7, 3) := by decide +kernel
theorem dX9_count_74 : decode cX9_count 74 = .ok (.iconst 1, 1) := by decide +kernel
theorem dX9_count_75 : decode cX9_count 75 = .ok (.goto 4, 3) := by decide +kernel
theorem dX9_count_78 : decode cX9_count 78 = .ok (.iconst 0, 1) := by decide +kernel
theorem dX9_count_79 : decode cX9_count 79 = .ok (.iadd, 1) := by decide +kernel
theorem dX9_count_80 : decode cX9_count 80 = .ok (.istore_n 2, 1) := by decide +kernel
theorem dX9_count_81 : decode cX9_count 81 = .ok (.iinc 3 1, 3) := by decide +kernel
theorem dX9_count_84 : decode cX9_count 84 = .ok (.goto (-26), 3) := by decide +kernel
theorem dX9_count_87 : decode cX9_count 87 = .ok (.iload_n 2, 1) := by decide +kernel
theorem dX9_count_88 : decode cX9_count 88 = .ok (.ireturn, 1) := by decide +kernel
theorem dX9_count_89 : decode cX9_count 89 = .ok (.iconst 0, 1) := by decide +kernel
theorem dX9_count_90 : decode cX9_count 90 = .ok (.istore_n 3, 1) := by decide +kernel
theorem dX9_count_91 : decode cX9_count 91 = .ok (.iload_n 3, 1) := by decide +kernel
theorem dX9_count_92 : decode cX9_count 92 = .ok (.bipush 6, 2) := by decide +kernel
theorem dX9_count_94 : decode cX9_count 94 = .ok (.if_icmp .ge 40, 3) := by decide +kernel
theorem dX9_count_97 : decode cX9_count 97 = .ok (.iload_n 2, 1) := by decide +kernel
theorem dX9_count_98 : decode cX9_count 98 = .ok (.aload_n 0, 1) := by decide +kernel
theorem dX9_count_99 : decode cX9_count 99 = .ok (.getfield 19, 3) := by decide +kernel
theorem dX9_count_102 : decode cX9_count 102 = .ok (.iload_n 3, 1) := by decide +kernel
theorem dX9_count_103 : decode cX9_count 103 = .ok (.baload, 1) := by decide +kernel
theorem dX9_count_104 : decode cX9_count 104 = .ok (.ifCond .eq 21, 3) := by decide +kernel
theorem dX9_count_107 : decode cX9_count 107 = .ok (.aload_n 0, 1) := by decide +kernel
theorem dX9_count_108 : decode cX9_count 108 = .ok (.iload_n 3, 1) := by decide +kernel
theorem dX9_count_109 : decode cX9_count 109 = .ok (.invokevirtual 265, 3) := by decide +kernel
theorem dX9_count_112 : decode cX9_count 112 = .ok (.iload_n 1, 1) := by decide +kernel
theorem dX9_count_113 : decode cX9_count 113 = .ok (.iconst 1, 1) := by decide +kernel
theorem dX9_count_114 : decode cX9_count 114 = .ok (.isub, 1) := by decide +kernel
theorem dX9_count_115 : decode cX9_count 115 = .ok (.invokestatic 268, 3) := by decide +kernel
theorem dX9_count_118 : decode cX9_count 118 = .ok (.ifCond .eq 7, 3) := by decide +kernel
theorem dX9_count_121 : decode cX9_count 121 = .ok (.iconst 1, 1) := by decide +kernel
theorem dX9_count_122 : decode cX9_count 122 = .ok (.goto 4, 3) := by decide +kernel
theorem dX9_count_125 : decode cX9_count 125 = .ok (.iconst 0, 1) := by decide +kernel
theorem dX9_count_126 : decode cX9_count 126 = .ok (.iadd, 1) := by decide +kernel
theorem dX9_count_127 : decode cX9_count 127 = .ok (.istore_n 2, 1) := by decide +kernel
theorem dX9_count_128 : decode cX9_count 128 = .ok (.iinc 3 1, 3) := by decide +kernel
theorem dX9_count_131 : decode cX9_count 131 = .ok (.goto (-40), 3) := by decide +kernel
theorem dX9_count_134 : decode cX9_count 134 = .ok (.iload_n 2, 1) := by decide +kernel
theorem dX9_count_135 : decode cX9_count 135 = .ok (.ireturn, 1) := by decide +kernel
theorem dX9_count_136 : decode cX9_count 136 = .ok (.iconst 0, 1) := by decide +kernel
theorem dX9_count_137 : decode cX9_count 137 = .ok (.istore_n 3, 1) := by decide +kernel
theorem dX9_count_138 : decode cX9_count 138 = .ok (.iload_n 3, 1) := by decide +kernel
theorem dX9_count_139 : decode cX9_count 139 = .ok (.bipush 6, 2) := by decide +kernel
theorem dX9_count_141 : decode cX9_count 141 = .ok (.if_icmp .ge 26, 3) := by decide +kernel
theorem dX9_count_144 : decode cX9_count 144 = .ok (.iload_n 2, 1) := by decide +kernel
theorem dX9_count_145 : decode cX9_count 145 = .ok (.aload_n 0, 1) := by decide +kernel
theorem dX9_count_146 : decode cX9_count 146 = .ok (.getfield 26, 3) := by decide +kernel
theorem dX9_count_149 : decode cX9_count 149 = .ok (.iload_n 3, 1) := by decide +kernel
theorem dX9_count_150 : decode cX9_count 150 = .ok (.baload, 1) := by decide +kernel
theorem dX9_count_151 : decode cX9_count 151 = .ok (.ifCond .eq 7, 3) := by decide +kernel
theorem dX9_count_154 : decode cX9_count 154 = .ok (.iconst 1, 1) := by decide +kernel
theorem dX9_count_155 : decode cX9_count 155 = .ok (.goto 4, 3) := by decide +kernel
theorem dX9_count_158 : decode cX9_count 158 = .ok (.iconst 0, 1) := by decide +kernel
theorem dX9_count_159 : decode cX9_count 159 = .ok (.iadd, 1) := by decide +kernel
theorem dX9_count_160 : decode cX9_count 160 = .ok (.istore_n 2, 1) := by decide +kernel
theorem dX9_count_161 : decode cX9_count 161 = .ok (.iinc 3 1, 3) := by decide +kernel
theorem dX9_count_164 : decode cX9_count 164 = .ok (.goto (-26), 3) := by decide +kernel
theorem dX9_count_167 : decode cX9_count 167 = .ok (.iload_n 2, 1) := by decide +kernel
theorem dX9_count_168 : decode cX9_count 168 = .ok (.ireturn, 1) := by decide +kernel
theorem dX9_count_169 : decode cX9_count 169 = .ok (.aload_n 0, 1) := by decide +kernel
theorem dX9_count_170 : decode cX9_count 170 = .ok (.getfield 243, 3) := by decide +kernel
theorem dX9_count_173 : decode cX9_count 173 = .ok (.ireturn, 1) := by decide +kernel
theorem dX9_count_174 : decode cX9_count 174 = .ok (.ldc 91, 2) := by decide +kernel
theorem dX9_count_176 : decode cX9_count 176 = .ok (.ireturn, 1) := by decide +kernel
theorem dX9_status_0 : decode cX9_status 0 = .ok (.aload_n 0, 1) := by decide +kernel
theorem dX9_status_1 : decode cX9_status 1 = .ok (.iconst 0, 1) := by decide +kernel
theorem dX9_status_2 : decode cX9_status 2 = .ok (.putfield 71, 3) := by decide +kernel
theorem dX9_status_5 : decode cX9_status 5 = .ok (.aload_n 0, 1) := by decide +kernel
theorem dX9_status_6 : decode cX9_status 6 = .ok (.getfield 75, 3) := by decide +kernel
theorem dX9_status_9 : decode cX9_status 9 = .ok (.ireturn, 1) := by decide +kernel
