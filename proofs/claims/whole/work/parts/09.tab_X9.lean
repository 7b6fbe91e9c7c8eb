/-! rows of the tables of class PapersDeskModel -/
set_option maxRecDepth 100000 in
theorem okX9_init : (gTb mX9_init).all (okE gF gNM mX9_init) = true := by decide +kernel
theorem pnX9_init : plainName (gY mX9_init).cls = true := by decide +kernel
theorem tX9_init_0 : gAt mX9_init 0 = some (.aload_n 0, 1, 0, 0, 0, 0) := by decide +kernel
theorem tX9_init_1 : gAt mX9_init 1 = some (.invokespecial 1, 3, 9999, 0, 0, 1029) := by decide +kernel
theorem tX9_init_4 : gAt mX9_init 4 = some (.aload_n 0, 1, 0, 0, 0, 0) := by decide +kernel
theorem tX9_init_5 : gAt mX9_init 5 = some (.sipush 600, 3, 600, 0, 0, 0) := by decide +kernel
theorem tX9_init_8 : gAt mX9_init 8 = some (.newarray .int, 2, 112, 0, 0, 139) := by decide +kernel
theorem tX9_init_10 : gAt mX9_init 10 = some (.putfield 7, 3, 10, 1, 2, 1040) := by decide +kernel
theorem tX9_init_13 : gAt mX9_init 13 = some (.aload_n 0, 1, 0, 0, 0, 0) := by decide +kernel
theorem tX9_init_14 : gAt mX9_init 14 = some (.sipush 602, 3, 602, 0, 0, 0) := by decide +kernel
theorem tX9_init_17 : gAt mX9_init 17 = some (.newarray .int, 2, 112, 0, 0, 139) := by decide +kernel
theorem tX9_init_19 : gAt mX9_init 19 = some (.putfield 13, 3, 10, 4, 2, 1043) := by decide +kernel
theorem tX9_init_22 : gAt mX9_init 22 = some (.aload_n 0, 1, 0, 0, 0, 0) := by decide +kernel
theorem tX9_init_23 : gAt mX9_init 23 = some (.sipush 602, 3, 602, 0, 0, 0) := by decide +kernel
theorem tX9_init_26 : gAt mX9_init 26 = some (.newarray .int, 2, 112, 0, 0, 139) := by decide +kernel
theorem tX9_init_28 : gAt mX9_init 28 = some (.putfield 16, 3, 10, 5, 2, 1044) := by decide +kernel
theorem tX9_init_31 : gAt mX9_init 31 = some (.aload_n 0, 1, 0, 0, 0, 0) := by decide +kernel
theorem tX9_init_32 : gAt mX9_init 32 = some (.sipush 602, 3, 602, 0, 0, 0) := by decide +kernel
theorem tX9_init_35 : gAt mX9_init 35 = some (.newarray .long, 2, 113, 0, 0, 1232) := by decide +kernel
theorem tX9_init_37 : gAt mX9_init 37 = some (.putfield 19, 3, 10, 6, 2, 1045) := by decide +kernel
theorem tX9_init_40 : gAt mX9_init 40 = some (.aload_n 0, 1, 0, 0, 0, 0) := by decide +kernel
theorem tX9_init_41 : gAt mX9_init 41 = some (.bipush 8, 2, 8, 0, 0, 0) := by decide +kernel
theorem tX9_init_43 : gAt mX9_init 43 = some (.newarray .long, 2, 113, 0, 0, 1232) := by decide +kernel
theorem tX9_init_45 : gAt mX9_init 45 = some (.dup, 1, 0, 0, 0, 0) := by decide +kernel
theorem tX9_init_46 : gAt mX9_init 46 = some (.iconst 0, 1, 0, 0, 0, 0) := by decide +kernel
theorem tX9_init_47 : gAt mX9_init 47 = some (.ldc2_w 23, 3, 519931663, 0, 0, 1030) := by decide +kernel
theorem tX9_init_50 : gAt mX9_init 50 = some (.lastore, 1, 113, 0, 0, 0) := by decide +kernel
theorem tX9_init_51 : gAt mX9_init 51 = some (.dup, 1, 0, 0, 0, 0) := by decide +kernel
theorem tX9_init_52 : gAt mX9_init 52 = some (.iconst 1, 1, 1, 0, 0, 0) := by decide +kernel
theorem tX9_init_53 : gAt mX9_init 53 = some (.ldc2_w 25, 3, 1176170, 0, 0, 1031) := by decide +kernel
theorem tX9_init_56 : gAt mX9_init 56 = some (.lastore, 1, 113, 0, 0, 0) := by decide +kernel
theorem tX9_init_57 : gAt mX9_init 57 = some (.dup, 1, 0, 0, 0, 0) := by decide +kernel
theorem tX9_init_58 : gAt mX9_init 58 = some (.iconst 2, 1, 2, 0, 0, 0) := by decide +kernel
theorem tX9_init_59 : gAt mX9_init 59 = some (.ldc2_w 27, 3, 1891, 0, 0, 1032) := by decide +kernel
theorem tX9_init_62 : gAt mX9_init 62 = some (.lastore, 1, 113, 0, 0, 0) := by decide +kernel
theorem tX9_init_63 : gAt mX9_init 63 = some (.dup, 1, 0, 0, 0, 0) := by decide +kernel
theorem tX9_init_64 : gAt mX9_init 64 = some (.iconst 3, 1, 3, 0, 0, 0) := by decide +kernel
theorem tX9_init_65 : gAt mX9_init 65 = some (.ldc2_w 29, 3, 1633, 0, 0, 1033) := by decide +kernel
theorem tX9_init_68 : gAt mX9_init 68 = some (.lastore, 1, 113, 0, 0, 0) := by decide +kernel
theorem tX9_init_69 : gAt mX9_init 69 = some (.dup, 1, 0, 0, 0, 0) := by decide +kernel
theorem tX9_init_70 : gAt mX9_init 70 = some (.iconst 4, 1, 4, 0, 0, 0) := by decide +kernel
theorem tX9_init_71 : gAt mX9_init 71 = some (.ldc2_w 31, 3, 5538, 0, 0, 1034) := by decide +kernel
theorem tX9_init_74 : gAt mX9_init 74 = some (.lastore, 1, 113, 0, 0, 0) := by decide +kernel
theorem tX9_init_75 : gAt mX9_init 75 = some (.dup, 1, 0, 0, 0, 0) := by decide +kernel
theorem tX9_init_76 : gAt mX9_init 76 = some (.iconst 5, 1, 5, 0, 0, 0) := by decide +kernel
theorem tX9_init_77 : gAt mX9_init 77 = some (.ldc2_w 33, 3, 444789672, 0, 0, 1035) := by decide +kernel
theorem tX9_init_80 : gAt mX9_init 80 = some (.lastore, 1, 113, 0, 0, 0) := by decide +kernel
theorem tX9_init_81 : gAt mX9_init 81 = some (.dup, 1, 0, 0, 0, 0) := by decide +kernel
theorem tX9_init_82 : gAt mX9_init 82 = some (.bipush 6, 2, 6, 0, 0, 0) := by decide +kernel
theorem tX9_init_84 : gAt mX9_init 84 = some (.ldc2_w 35, 3, 30047016, 0, 0, 1036) := by decide +kernel
theorem tX9_init_87 : gAt mX9_init 87 = some (.lastore, 1, 113, 0, 0, 0) := by decide +kernel
theorem tX9_init_88 : gAt mX9_init 88 = some (.dup, 1, 0, 0, 0, 0) := by decide +kernel
theorem tX9_init_89 : gAt mX9_init 89 = some (.bipush 7, 2, 7, 0, 0, 0) := by decide +kernel
theorem tX9_init_91 : gAt mX9_init 91 = some (.ldc2_w 37, 3, 1402353114, 0, 0, 1037) := by decide +kernel
theorem tX9_init_94 : gAt mX9_init 94 = some (.lastore, 1, 113, 0, 0, 0) := by decide +kernel
theorem tX9_init_95 : gAt mX9_init 95 = some (.putfield 39, 3, 10, 9, 2, 1048) := by decide +kernel
theorem tX9_init_98 : gAt mX9_init 98 = some (.aload_n 0, 1, 0, 0, 0, 0) := by decide +kernel
theorem tX9_init_99 : gAt mX9_init 99 = some (.iconst 2, 1, 2, 0, 0, 0) := by decide +kernel
theorem tX9_init_100 : gAt mX9_init 100 = some (.newarray .int, 2, 112, 0, 0, 139) := by decide +kernel
theorem tX9_init_102 : gAt mX9_init 102 = some (.putfield 42, 3, 10, 10, 2, 1049) := by decide +kernel
theorem tX9_init_105 : gAt mX9_init 105 = some (.aload_n 0, 1, 0, 0, 0, 0) := by decide +kernel
theorem tX9_init_106 : gAt mX9_init 106 = some (.bipush 32, 2, 32, 0, 0, 0) := by decide +kernel
theorem tX9_init_108 : gAt mX9_init 108 = some (.newarray .int, 2, 112, 0, 0, 139) := by decide +kernel
theorem tX9_init_110 : gAt mX9_init 110 = some (.putfield 45, 3, 10, 11, 2, 1050) := by decide +kernel
theorem tX9_init_113 : gAt mX9_init 113 = some (.aload_n 0, 1, 0, 0, 0, 0) := by decide +kernel
theorem tX9_init_114 : gAt mX9_init 114 = some (.bipush 32, 2, 32, 0, 0, 0) := by decide +kernel
theorem tX9_init_116 : gAt mX9_init 116 = some (.newarray .int, 2, 112, 0, 0, 139) := by decide +kernel
theorem tX9_init_118 : gAt mX9_init 118 = some (.putfield 48, 3, 10, 12, 2, 1051) := by decide +kernel
theorem tX9_init_121 : gAt mX9_init 121 = some (.aload_n 0, 1, 0, 0, 0, 0) := by decide +kernel
theorem tX9_init_122 : gAt mX9_init 122 = some (.sipush 1320, 3, 1320, 0, 0, 0) := by decide +kernel
theorem tX9_init_125 : gAt mX9_init 125 = some (.newarray .int, 2, 112, 0, 0, 139) := by decide +kernel
theorem tX9_init_127 : gAt mX9_init 127 = some (.putfield 51, 3, 10, 13, 2, 1052) := by decide +kernel
theorem tX9_init_130 : gAt mX9_init 130 = some (.aload_n 0, 1, 0, 0, 0, 0) := by decide +kernel
theorem tX9_init_131 : gAt mX9_init 131 = some (.sipush 1320, 3, 1320, 0, 0, 0) := by decide +kernel
theorem tX9_init_134 : gAt mX9_init 134 = some (.newarray .int, 2, 112, 0, 0, 139) := by decide +kernel
theorem tX9_init_136 : gAt mX9_init 136 = some (.putfield 54, 3, 10, 14, 2, 1053) := by decide +kernel
theorem tX9_init_139 : gAt mX9_init 139 = some (.aload_n 0, 1, 0, 0, 0, 0) := by decide +kernel
theorem tX9_init_140 : gAt mX9_init 140 = some (.bipush 7, 2, 7, 0, 0, 0) := by decide +kernel
theorem tX9_init_142 : gAt mX9_init 142 = some (.newarray .int, 2, 112, 0, 0, 139) := by decide +kernel
theorem tX9_init_144 : gAt mX9_init 144 = some (.putfield 57, 3, 10, 19, 2, 1058) := by decide +kernel
theorem tX9_init_147 : gAt mX9_init 147 = some (.aload_n 0, 1, 0, 0, 0, 0) := by decide +kernel
theorem tX9_init_148 : gAt mX9_init 148 = some (.bipush 7, 2, 7, 0, 0, 0) := by decide +kernel
theorem tX9_init_150 : gAt mX9_init 150 = some (.newarray .int, 2, 112, 0, 0, 139) := by decide +kernel
theorem tX9_init_152 : gAt mX9_init 152 = some (.putfield 60, 3, 10, 20, 2, 1059) := by decide +kernel
theorem tX9_init_155 : gAt mX9_init 155 = some (.aload_n 0, 1, 0, 0, 0, 0) := by decide +kernel
theorem tX9_init_156 : gAt mX9_init 156 = some (.bipush 7, 2, 7, 0, 0, 0) := by decide +kernel
theorem tX9_init_158 : gAt mX9_init 158 = some (.newarray .int, 2, 112, 0, 0, 139) := by decide +kernel
theorem tX9_init_160 : gAt mX9_init 160 = some (.putfield 63, 3, 10, 21, 2, 1060) := by decide +kernel
theorem tX9_init_163 : gAt mX9_init 163 = some (.aload_n 0, 1, 0, 0, 0, 0) := by decide +kernel
theorem tX9_init_164 : gAt mX9_init 164 = some (.iconst 5, 1, 5, 0, 0, 0) := by decide +kernel
theorem tX9_init_165 : gAt mX9_init 165 = some (.newarray .int, 2, 112, 0, 0, 139) := by decide +kernel
theorem tX9_init_167 : gAt mX9_init 167 = some (.putfield 66, 3, 10, 22, 2, 1061) := by decide +kernel
theorem tX9_init_170 : gAt mX9_init 170 = some (.aload_n 0, 1, 0, 0, 0, 0) := by decide +kernel
theorem tX9_init_171 : gAt mX9_init 171 = some (.sipush 660, 3, 660, 0, 0, 0) := by decide +kernel
theorem tX9_init_174 : gAt mX9_init 174 = some (.newarray .int, 2, 112, 0, 0, 139) := by decide +kernel
theorem tX9_init_176 : gAt mX9_init 176 = some (.putfield 69, 3, 10, 23, 2, 1062) := by decide +kernel
theorem tX9_init_179 : gAt mX9_init 179 = some (.aload_n 0, 1, 0, 0, 0, 0) := by decide +kernel
theorem tX9_init_180 : gAt mX9_init 180 = some (.iconst 1, 1, 1, 0, 0, 0) := by decide +kernel
theorem tX9_init_181 : gAt mX9_init 181 = some (.putfield 72, 3, 10, 25, 0, 1064) := by decide +kernel
theorem tX9_init_184 : gAt mX9_init 184 = some (.aload_n 0, 1, 0, 0, 0, 0) := by decide +kernel
theorem tX9_init_185 : gAt mX9_init 185 = some (.bipush 20, 2, 20, 0, 0, 0) := by decide +kernel
theorem tX9_init_187 : gAt mX9_init 187 = some (.newarray .int, 2, 112, 0, 0, 139) := by decide +kernel
theorem tX9_init_189 : gAt mX9_init 189 = some (.putfield 76, 3, 10, 26, 2, 1065) := by decide +kernel
theorem tX9_init_192 : gAt mX9_init 192 = some (.aload_n 0, 1, 0, 0, 0, 0) := by decide +kernel
theorem tX9_init_193 : gAt mX9_init 193 = some (.bipush 40, 2, 40, 0, 0, 0) := by decide +kernel
theorem tX9_init_195 : gAt mX9_init 195 = some (.newarray .int, 2, 112, 0, 0, 139) := by decide +kernel
theorem tX9_init_197 : gAt mX9_init 197 = some (.putfield 79, 3, 10, 28, 2, 1067) := by decide +kernel
theorem tX9_init_200 : gAt mX9_init 200 = some (.aload_n 0, 1, 0, 0, 0, 0) := by decide +kernel
theorem tX9_init_201 : gAt mX9_init 201 = some (.bipush 40, 2, 40, 0, 0, 0) := by decide +kernel
theorem tX9_init_203 : gAt mX9_init 203 = some (.newarray .int, 2, 112, 0, 0, 139) := by decide +kernel
theorem tX9_init_205 : gAt mX9_init 205 = some (.putfield 82, 3, 10, 29, 2, 1068) := by decide +kernel
theorem tX9_init_208 : gAt mX9_init 208 = some (.aload_n 0, 1, 0, 0, 0, 0) := by decide +kernel
theorem tX9_init_209 : gAt mX9_init 209 = some (.bipush 40, 2, 40, 0, 0, 0) := by decide +kernel
theorem tX9_init_211 : gAt mX9_init 211 = some (.newarray .int, 2, 112, 0, 0, 139) := by decide +kernel
theorem tX9_init_213 : gAt mX9_init 213 = some (.putfield 85, 3, 10, 30, 2, 1069) := by decide +kernel
theorem tX9_init_216 : gAt mX9_init 216 = some (.aload_n 0, 1, 0, 0, 0, 0) := by decide +kernel
theorem tX9_init_217 : gAt mX9_init 217 = some (.bipush 120, 2, 120, 0, 0, 0) := by decide +kernel
theorem tX9_init_219 : gAt mX9_init 219 = some (.newarray .int, 2, 112, 0, 0, 139) := by decide +kernel
theorem tX9_init_221 : gAt mX9_init 221 = some (.putfield 88, 3, 10, 32, 2, 1071) := by decide +kernel
theorem tX9_init_224 : gAt mX9_init 224 = some (.aload_n 0, 1, 0, 0, 0, 0) := by decide +kernel
theorem tX9_init_225 : gAt mX9_init 225 = some (.bipush 120, 2, 120, 0, 0, 0) := by decide +kernel
theorem tX9_init_227 : gAt mX9_init 227 = some (.newarray .int, 2, 112, 0, 0, 139) := by decide +kernel
theorem tX9_init_229 : gAt mX9_init 229 = some (.putfield 91, 3, 10, 33, 2, 1072) := by decide +kernel
theorem tX9_init_232 : gAt mX9_init 232 = some (.aload_n 0, 1, 0, 0, 0, 0) := by decide +kernel
theorem tX9_init_233 : gAt mX9_init 233 = some (.bipush 120, 2, 120, 0, 0, 0) := by decide +kernel
theorem tX9_init_235 : gAt mX9_init 235 = some (.newarray .int, 2, 112, 0, 0, 139) := by decide +kernel
theorem tX9_init_237 : gAt mX9_init 237 = some (.putfield 94, 3, 10, 34, 2, 1073) := by decide +kernel
theorem tX9_init_240 : gAt mX9_init 240 = some (.aload_n 0, 1, 0, 0, 0, 0) := by decide +kernel
theorem tX9_init_241 : gAt mX9_init 241 = some (.sipush 1440, 3, 1440, 0, 0, 0) := by decide +kernel
theorem tX9_init_244 : gAt mX9_init 244 = some (.newarray .int, 2, 112, 0, 0, 139) := by decide +kernel
theorem tX9_init_246 : gAt mX9_init 246 = some (.putfield 97, 3, 10, 35, 2, 1074) := by decide +kernel
theorem tX9_init_249 : gAt mX9_init 249 = some (.aload_n 0, 1, 0, 0, 0, 0) := by decide +kernel
theorem tX9_init_250 : gAt mX9_init 250 = some (.bipush 120, 2, 120, 0, 0, 0) := by decide +kernel
theorem tX9_init_252 : gAt mX9_init 252 = some (.newarray .int, 2, 112, 0, 0, 139) := by decide +kernel
theorem tX9_init_254 : gAt mX9_init 254 = some (.putfield 100, 3, 10, 37, 2, 1076) := by decide +kernel
theorem tX9_init_257 : gAt mX9_init 257 = some (.aload_n 0, 1, 0, 0, 0, 0) := by decide +kernel
theorem tX9_init_258 : gAt mX9_init 258 = some (.bipush 120, 2, 120, 0, 0, 0) := by decide +kernel
theorem tX9_init_260 : gAt mX9_init 260 = some (.newarray .boolean, 2, 114, 0, 0, 1233) := by decide +kernel
theorem tX9_init_262 : gAt mX9_init 262 = some (.putfield 103, 3, 10, 38, 2, 1077) := by decide +kernel
theorem tX9_init_265 : gAt mX9_init 265 = some (.aload_n 0, 1, 0, 0, 0, 0) := by decide +kernel
theorem tX9_init_266 : gAt mX9_init 266 = some (.bipush 120, 2, 120, 0, 0, 0) := by decide +kernel
theorem tX9_init_268 : gAt mX9_init 268 = some (.newarray .int, 2, 112, 0, 0, 139) := by decide +kernel
theorem tX9_init_270 : gAt mX9_init 270 = some (.putfield 107, 3, 10, 39, 2, 1078) := by decide +kernel
theorem tX9_init_273 : gAt mX9_init 273 = some (.aload_n 0, 1, 0, 0, 0, 0) := by decide +kernel
theorem tX9_init_274 : gAt mX9_init 274 = some (.sipush 480, 3, 480, 0, 0, 0) := by decide +kernel
theorem tX9_init_277 : gAt mX9_init 277 = some (.newarray .int, 2, 112, 0, 0, 139) := by decide +kernel
theorem tX9_init_279 : gAt mX9_init 279 = some (.putfield 110, 3, 10, 40, 2, 1079) := by decide +kernel
theorem tX9_init_282 : gAt mX9_init 282 = some (.aload_n 0, 1, 0, 0, 0, 0) := by decide +kernel
theorem tX9_init_283 : gAt mX9_init 283 = some (.sipush 480, 3, 480, 0, 0, 0) := by decide +kernel
theorem tX9_init_286 : gAt mX9_init 286 = some (.newarray .int, 2, 112, 0, 0, 139) := by decide +kernel
theorem tX9_init_288 : gAt mX9_init 288 = some (.putfield 113, 3, 10, 41, 2, 1080) := by decide +kernel
theorem tX9_init_291 : gAt mX9_init 291 = some (.aload_n 0, 1, 0, 0, 0, 0) := by decide +kernel
theorem tX9_init_292 : gAt mX9_init 292 = some (.sipush 480, 3, 480, 0, 0, 0) := by decide +kernel
theorem tX9_init_295 : gAt mX9_init 295 = some (.newarray .int, 2, 112, 0, 0, 139) := by decide +kernel
theorem tX9_init_297 : gAt mX9_init 297 = some (.putfield 116, 3, 10, 42, 2, 1081) := by decide +kernel
theorem tX9_init_300 : gAt mX9_init 300 = some (.aload_n 0, 1, 0, 0, 0, 0) := by decide +kernel
theorem tX9_init_301 : gAt mX9_init 301 = some (.bipush 8, 2, 8, 0, 0, 0) := by decide +kernel
theorem tX9_init_303 : gAt mX9_init 303 = some (.newarray .boolean, 2, 114, 0, 0, 1233) := by decide +kernel
theorem tX9_init_305 : gAt mX9_init 305 = some (.putfield 119, 3, 10, 43, 2, 1082) := by decide +kernel
theorem tX9_init_308 : gAt mX9_init 308 = some (.aload_n 0, 1, 0, 0, 0, 0) := by decide +kernel
theorem tX9_init_309 : gAt mX9_init 309 = some (.bipush 12, 2, 12, 0, 0, 0) := by decide +kernel
theorem tX9_init_311 : gAt mX9_init 311 = some (.newarray .int, 2, 112, 0, 0, 139) := by decide +kernel
theorem tX9_init_313 : gAt mX9_init 313 = some (.putfield 122, 3, 10, 45, 2, 1084) := by decide +kernel
theorem tX9_init_316 : gAt mX9_init 316 = some (.aload_n 0, 1, 0, 0, 0, 0) := by decide +kernel
theorem tX9_init_317 : gAt mX9_init 317 = some (.bipush 20, 2, 20, 0, 0, 0) := by decide +kernel
theorem tX9_init_319 : gAt mX9_init 319 = some (.newarray .int, 2, 112, 0, 0, 139) := by decide +kernel
theorem tX9_init_321 : gAt mX9_init 321 = some (.putfield 125, 3, 10, 47, 2, 1086) := by decide +kernel
theorem tX9_init_324 : gAt mX9_init 324 = some (.aload_n 0, 1, 0, 0, 0, 0) := by decide +kernel
theorem tX9_init_325 : gAt mX9_init 325 = some (.bipush 20, 2, 20, 0, 0, 0) := by decide +kernel
theorem tX9_init_327 : gAt mX9_init 327 = some (.newarray .int, 2, 112, 0, 0, 139) := by decide +kernel
theorem tX9_init_329 : gAt mX9_init 329 = some (.putfield 128, 3, 10, 48, 2, 1087) := by decide +kernel
theorem tX9_init_332 : gAt mX9_init 332 = some (.aload_n 0, 1, 0, 0, 0, 0) := by decide +kernel
theorem tX9_init_333 : gAt mX9_init 333 = some (.bipush 20, 2, 20, 0, 0, 0) := by decide +kernel
theorem tX9_init_335 : gAt mX9_init 335 = some (.newarray .int, 2, 112, 0, 0, 139) := by decide +kernel
theorem tX9_init_337 : gAt mX9_init 337 = some (.putfield 131, 3, 10, 49, 2, 1088) := by decide +kernel
theorem tX9_init_340 : gAt mX9_init 340 = some (.aload_n 0, 1, 0, 0, 0, 0) := by decide +kernel
theorem tX9_init_341 : gAt mX9_init 341 = some (.bipush 20, 2, 20, 0, 0, 0) := by decide +kernel
theorem tX9_init_343 : gAt mX9_init 343 = some (.newarray .int, 2, 112, 0, 0, 139) := by decide +kernel
theorem tX9_init_345 : gAt mX9_init 345 = some (.putfield 134, 3, 10, 50, 2, 1089) := by decide +kernel
theorem tX9_init_348 : gAt mX9_init 348 = some (.aload_n 0, 1, 0, 0, 0, 0) := by decide +kernel
theorem tX9_init_349 : gAt mX9_init 349 = some (.bipush 80, 2, 80, 0, 0, 0) := by decide +kernel
theorem tX9_init_351 : gAt mX9_init 351 = some (.newarray .int, 2, 112, 0, 0, 139) := by decide +kernel
theorem tX9_init_353 : gAt mX9_init 353 = some (.putfield 137, 3, 10, 51, 2, 1090) := by decide +kernel
theorem tX9_init_356 : gAt mX9_init 356 = some (.aload_n 0, 1, 0, 0, 0, 0) := by decide +kernel
theorem tX9_init_357 : gAt mX9_init 357 = some (.bipush 20, 2, 20, 0, 0, 0) := by decide +kernel
theorem tX9_init_359 : gAt mX9_init 359 = some (.newarray .int, 2, 112, 0, 0, 139) := by decide +kernel
theorem tX9_init_361 : gAt mX9_init 361 = some (.putfield 140, 3, 10, 52, 2, 1091) := by decide +kernel
theorem tX9_init_364 : gAt mX9_init 364 = some (.aload_n 0, 1, 0, 0, 0, 0) := by decide +kernel
theorem tX9_init_365 : gAt mX9_init 365 = some (.bipush 20, 2, 20, 0, 0, 0) := by decide +kernel
theorem tX9_init_367 : gAt mX9_init 367 = some (.newarray .int, 2, 112, 0, 0, 139) := by decide +kernel
theorem tX9_init_369 : gAt mX9_init 369 = some (.putfield 143, 3, 10, 53, 2, 1092) := by decide +kernel
theorem tX9_init_372 : gAt mX9_init 372 = some (.aload_n 0, 1, 0, 0, 0, 0) := by decide +kernel
theorem tX9_init_373 : gAt mX9_init 373 = some (.bipush 20, 2, 20, 0, 0, 0) := by decide +kernel
theorem tX9_init_375 : gAt mX9_init 375 = some (.newarray .int, 2, 112, 0, 0, 139) := by decide +kernel
theorem tX9_init_377 : gAt mX9_init 377 = some (.putfield 146, 3, 10, 54, 2, 1093) := by decide +kernel
theorem tX9_init_380 : gAt mX9_init 380 = some (.aload_n 0, 1, 0, 0, 0, 0) := by decide +kernel
theorem tX9_init_381 : gAt mX9_init 381 = some (.ldc 149, 2, 100000, 0, 0, 1038) := by decide +kernel
theorem tX9_init_383 : gAt mX9_init 383 = some (.newarray .boolean, 2, 114, 0, 0, 1233) := by decide +kernel
theorem tX9_init_385 : gAt mX9_init 385 = some (.putfield 150, 3, 10, 55, 2, 1094) := by decide +kernel
theorem tX9_init_388 : gAt mX9_init 388 = some (.aload_n 0, 1, 0, 0, 0, 0) := by decide +kernel
theorem tX9_init_389 : gAt mX9_init 389 = some (.sipush 2400, 3, 2400, 0, 0, 0) := by decide +kernel
theorem tX9_init_392 : gAt mX9_init 392 = some (.newarray .boolean, 2, 114, 0, 0, 1233) := by decide +kernel
theorem tX9_init_394 : gAt mX9_init 394 = some (.putfield 153, 3, 10, 56, 2, 1095) := by decide +kernel
theorem tX9_init_397 : gAt mX9_init 397 = some (.aload_n 0, 1, 0, 0, 0, 0) := by decide +kernel
theorem tX9_init_398 : gAt mX9_init 398 = some (.sipush 300, 3, 300, 0, 0, 0) := by decide +kernel
theorem tX9_init_401 : gAt mX9_init 401 = some (.newarray .int, 2, 112, 0, 0, 139) := by decide +kernel
theorem tX9_init_403 : gAt mX9_init 403 = some (.putfield 156, 3, 10, 58, 2, 1097) := by decide +kernel
theorem tX9_init_406 : gAt mX9_init 406 = some (.aload_n 0, 1, 0, 0, 0, 0) := by decide +kernel
theorem tX9_init_407 : gAt mX9_init 407 = some (.sipush 300, 3, 300, 0, 0, 0) := by decide +kernel
theorem tX9_init_410 : gAt mX9_init 410 = some (.newarray .int, 2, 112, 0, 0, 139) := by decide +kernel
theorem tX9_init_412 : gAt mX9_init 412 = some (.putfield 159, 3, 10, 59, 2, 1098) := by decide +kernel
theorem tX9_init_415 : gAt mX9_init 415 = some (.aload_n 0, 1, 0, 0, 0, 0) := by decide +kernel
theorem tX9_init_416 : gAt mX9_init 416 = some (.sipush 300, 3, 300, 0, 0, 0) := by decide +kernel
theorem tX9_init_419 : gAt mX9_init 419 = some (.newarray .int, 2, 112, 0, 0, 139) := by decide +kernel
theorem tX9_init_421 : gAt mX9_init 421 = some (.putfield 162, 3, 10, 60, 2, 1099) := by decide +kernel
theorem tX9_init_424 : gAt mX9_init 424 = some (.aload_n 0, 1, 0, 0, 0, 0) := by decide +kernel
theorem tX9_init_425 : gAt mX9_init 425 = some (.sipush 3600, 3, 3600, 0, 0, 0) := by decide +kernel
theorem tX9_init_428 : gAt mX9_init 428 = some (.newarray .int, 2, 112, 0, 0, 139) := by decide +kernel
theorem tX9_init_430 : gAt mX9_init 430 = some (.putfield 165, 3, 10, 61, 2, 1100) := by decide +kernel
theorem tX9_init_433 : gAt mX9_init 433 = some (.aload_n 0, 1, 0, 0, 0, 0) := by decide +kernel
theorem tX9_init_434 : gAt mX9_init 434 = some (.bipush 40, 2, 40, 0, 0, 0) := by decide +kernel
theorem tX9_init_436 : gAt mX9_init 436 = some (.newarray .boolean, 2, 114, 0, 0, 1233) := by decide +kernel
theorem tX9_init_438 : gAt mX9_init 438 = some (.putfield 168, 3, 10, 62, 2, 1101) := by decide +kernel
theorem tX9_init_441 : gAt mX9_init 441 = some (.aload_n 0, 1, 0, 0, 0, 0) := by decide +kernel
theorem tX9_init_442 : gAt mX9_init 442 = some (.bipush 120, 2, 120, 0, 0, 0) := by decide +kernel
theorem tX9_init_444 : gAt mX9_init 444 = some (.newarray .boolean, 2, 114, 0, 0, 1233) := by decide +kernel
theorem tX9_init_446 : gAt mX9_init 446 = some (.putfield 171, 3, 10, 63, 2, 1102) := by decide +kernel
theorem tX9_init_449 : gAt mX9_init 449 = some (.return_, 1, 0, 0, 0, 0) := by decide +kernel
set_option maxRecDepth 100000 in
theorem okX9_thrown : (gTb mX9_thrown).all (okE gF gNM mX9_thrown) = true := by decide +kernel
theorem pnX9_thrown : plainName (gY mX9_thrown).cls = true := by decide +kernel
theorem tX9_thrown_0 : gAt mX9_thrown 0 = some (.aload_n 0, 1, 0, 0, 0, 0) := by decide +kernel
theorem tX9_thrown_1 : gAt mX9_thrown 1 = some (.getfield 174, 3, 10, 0, 0, 1039) := by decide +kernel
theorem tX9_thrown_4 : gAt mX9_thrown 4 = some (.ireturn, 1, 0, 0, 0, 0) := by decide +kernel
set_option maxRecDepth 100000 in
theorem okX9_feed : (gTb mX9_feed).all (okE gF gNM mX9_feed) = true := by decide +kernel
theorem pnX9_feed : plainName (gY mX9_feed).cls = true := by decide +kernel
theorem tX9_feed_0 : gAt mX9_feed 0 = some (.aload_n 0, 1, 0, 0, 0, 0) := by decide +kernel
theorem tX9_feed_1 : gAt mX9_feed 1 = some (.iconst 0, 1, 0, 0, 0, 0) := by decide +kernel
theorem tX9_feed_2 : gAt mX9_feed 2 = some (.putfield 174, 3, 10, 0, 0, 1039) := by decide +kernel
theorem tX9_feed_5 : gAt mX9_feed 5 = some (.aload_n 0, 1, 0, 0, 0, 0) := by decide +kernel
theorem tX9_feed_6 : gAt mX9_feed 6 = some (.lload_n 1, 1, 0, 0, 0, 0) := by decide +kernel
theorem tX9_feed_7 : gAt mX9_feed 7 = some (.invokevirtual 177, 3, 105, 1, 10, 1242) := by decide +kernel
theorem tX9_feed_10 : gAt mX9_feed 10 = some (.aload_n 0, 1, 0, 0, 0, 0) := by decide +kernel
theorem tX9_feed_11 : gAt mX9_feed 11 = some (.lload_n 3, 1, 0, 0, 0, 0) := by decide +kernel
theorem tX9_feed_12 : gAt mX9_feed 12 = some (.invokevirtual 177, 3, 105, 1, 10, 1242) := by decide +kernel
theorem tX9_feed_15 : gAt mX9_feed 15 = some (.aload_n 0, 1, 0, 0, 0, 0) := by decide +kernel
theorem tX9_feed_16 : gAt mX9_feed 16 = some (.lload 5, 2, 0, 0, 0, 0) := by decide +kernel
theorem tX9_feed_18 : gAt mX9_feed 18 = some (.invokevirtual 177, 3, 105, 1, 10, 1242) := by decide +kernel
theorem tX9_feed_21 : gAt mX9_feed 21 = some (.aload_n 0, 1, 0, 0, 0, 0) := by decide +kernel
theorem tX9_feed_22 : gAt mX9_feed 22 = some (.getfield 181, 3, 10, 2, 0, 1041) := by decide +kernel
theorem tX9_feed_25 : gAt mX9_feed 25 = some (.ireturn, 1, 0, 0, 0, 0) := by decide +kernel
set_option maxRecDepth 100000 in
theorem okX9_lay : (gTb mX9_lay).all (okE gF gNM mX9_lay) = true := by decide +kernel
theorem pnX9_lay : plainName (gY mX9_lay).cls = true := by decide +kernel
theorem tX9_lay_0 : gAt mX9_lay 0 = some (.bipush 56, 2, 56, 0, 0, 0) := by decide +kernel
theorem tX9_lay_2 : gAt mX9_lay 2 = some (.istore_n 3, 1, 0, 0, 0, 0) := by decide +kernel
theorem tX9_lay_3 : gAt mX9_lay 3 = some (.iload_n 3, 1, 0, 0, 0, 0) := by decide +kernel
theorem tX9_lay_4 : gAt mX9_lay 4 = some (.ifCond .lt 71, 3, 75, 0, 0, 0) := by decide +kernel
theorem tX9_lay_7 : gAt mX9_lay 7 = some (.lload_n 1, 1, 0, 0, 0, 0) := by decide +kernel
theorem tX9_lay_8 : gAt mX9_lay 8 = some (.iload_n 3, 1, 0, 0, 0, 0) := by decide +kernel
theorem tX9_lay_9 : gAt mX9_lay 9 = some (.lshr, 1, 0, 0, 0, 0) := by decide +kernel
theorem tX9_lay_10 : gAt mX9_lay 10 = some (.l2i, 1, 0, 0, 0, 0) := by decide +kernel
theorem tX9_lay_11 : gAt mX9_lay 11 = some (.sipush 255, 3, 255, 0, 0, 0) := by decide +kernel
theorem tX9_lay_14 : gAt mX9_lay 14 = some (.iand, 1, 0, 0, 0, 0) := by decide +kernel
theorem tX9_lay_15 : gAt mX9_lay 15 = some (.istore 4, 2, 0, 0, 0, 0) := by decide +kernel
theorem tX9_lay_17 : gAt mX9_lay 17 = some (.iload 4, 2, 0, 0, 0, 0) := by decide +kernel
theorem tX9_lay_19 : gAt mX9_lay 19 = some (.bipush 10, 2, 10, 0, 0, 0) := by decide +kernel
theorem tX9_lay_21 : gAt mX9_lay 21 = some (.if_icmp .eq 17, 3, 38, 0, 0, 0) := by decide +kernel
theorem tX9_lay_24 : gAt mX9_lay 24 = some (.iload 4, 2, 0, 0, 0, 0) := by decide +kernel
theorem tX9_lay_26 : gAt mX9_lay 26 = some (.bipush 32, 2, 32, 0, 0, 0) := by decide +kernel
theorem tX9_lay_28 : gAt mX9_lay 28 = some (.if_icmp .lt 41, 3, 69, 0, 0, 0) := by decide +kernel
theorem tX9_lay_31 : gAt mX9_lay 31 = some (.iload 4, 2, 0, 0, 0, 0) := by decide +kernel
theorem tX9_lay_33 : gAt mX9_lay 33 = some (.bipush 126, 2, 126, 0, 0, 0) := by decide +kernel
theorem tX9_lay_35 : gAt mX9_lay 35 = some (.if_icmp .gt 34, 3, 69, 0, 0, 0) := by decide +kernel
theorem tX9_lay_38 : gAt mX9_lay 38 = some (.aload_n 0, 1, 0, 0, 0, 0) := by decide +kernel
theorem tX9_lay_39 : gAt mX9_lay 39 = some (.getfield 181, 3, 10, 2, 0, 1041) := by decide +kernel
theorem tX9_lay_42 : gAt mX9_lay 42 = some (.sipush 600, 3, 600, 0, 0, 0) := by decide +kernel
theorem tX9_lay_45 : gAt mX9_lay 45 = some (.if_icmp .ge 24, 3, 69, 0, 0, 0) := by decide +kernel
theorem tX9_lay_48 : gAt mX9_lay 48 = some (.aload_n 0, 1, 0, 0, 0, 0) := by decide +kernel
theorem tX9_lay_49 : gAt mX9_lay 49 = some (.getfield 7, 3, 10, 1, 2, 1040) := by decide +kernel
theorem tX9_lay_52 : gAt mX9_lay 52 = some (.aload_n 0, 1, 0, 0, 0, 0) := by decide +kernel
theorem tX9_lay_53 : gAt mX9_lay 53 = some (.getfield 181, 3, 10, 2, 0, 1041) := by decide +kernel
theorem tX9_lay_56 : gAt mX9_lay 56 = some (.iload 4, 2, 0, 0, 0, 0) := by decide +kernel
theorem tX9_lay_58 : gAt mX9_lay 58 = some (.iastore, 1, 112, 0, 0, 0) := by decide +kernel
theorem tX9_lay_59 : gAt mX9_lay 59 = some (.aload_n 0, 1, 0, 0, 0, 0) := by decide +kernel
theorem tX9_lay_60 : gAt mX9_lay 60 = some (.dup, 1, 0, 0, 0, 0) := by decide +kernel
theorem tX9_lay_61 : gAt mX9_lay 61 = some (.getfield 181, 3, 10, 2, 0, 1041) := by decide +kernel
theorem tX9_lay_64 : gAt mX9_lay 64 = some (.iconst 1, 1, 1, 0, 0, 0) := by decide +kernel
theorem tX9_lay_65 : gAt mX9_lay 65 = some (.iadd, 1, 0, 0, 0, 0) := by decide +kernel
theorem tX9_lay_66 : gAt mX9_lay 66 = some (.putfield 181, 3, 10, 2, 0, 1041) := by decide +kernel
theorem tX9_lay_69 : gAt mX9_lay 69 = some (.iinc 3 (-8), 3, 8, 1, 0, 0) := by decide +kernel
theorem tX9_lay_72 : gAt mX9_lay 72 = some (.goto (-69), 3, 3, 0, 0, 0) := by decide +kernel
theorem tX9_lay_75 : gAt mX9_lay 75 = some (.return_, 1, 0, 0, 0, 0) := by decide +kernel
set_option maxRecDepth 100000 in
theorem okX9_isLetter : (gTb mX9_isLetter).all (okE gF gNM mX9_isLetter) = true := by decide +kernel
theorem pnX9_isLetter : plainName (gY mX9_isLetter).cls = true := by decide +kernel
theorem tX9_isLetter_0 : gAt mX9_isLetter 0 = some (.iload_n 0, 1, 0, 0, 0, 0) := by decide +kernel
theorem tX9_isLetter_1 : gAt mX9_isLetter 1 = some (.bipush 97, 2, 97, 0, 0, 0) := by decide +kernel
theorem tX9_isLetter_3 : gAt mX9_isLetter 3 = some (.if_icmp .lt 13, 3, 16, 0, 0, 0) := by decide +kernel
theorem tX9_isLetter_6 : gAt mX9_isLetter 6 = some (.iload_n 0, 1, 0, 0, 0, 0) := by decide +kernel
theorem tX9_isLetter_7 : gAt mX9_isLetter 7 = some (.bipush 122, 2, 122, 0, 0, 0) := by decide +kernel
theorem tX9_isLetter_9 : gAt mX9_isLetter 9 = some (.if_icmp .gt 7, 3, 16, 0, 0, 0) := by decide +kernel
theorem tX9_isLetter_12 : gAt mX9_isLetter 12 = some (.iconst 1, 1, 1, 0, 0, 0) := by decide +kernel
theorem tX9_isLetter_13 : gAt mX9_isLetter 13 = some (.goto 4, 3, 17, 0, 0, 0) := by decide +kernel
theorem tX9_isLetter_16 : gAt mX9_isLetter 16 = some (.iconst 0, 1, 0, 0, 0, 0) := by decide +kernel
theorem tX9_isLetter_17 : gAt mX9_isLetter 17 = some (.ireturn, 1, 1, 0, 0, 0) := by decide +kernel
set_option maxRecDepth 100000 in
theorem okX9_isDigit : (gTb mX9_isDigit).all (okE gF gNM mX9_isDigit) = true := by decide +kernel
theorem pnX9_isDigit : plainName (gY mX9_isDigit).cls = true := by decide +kernel
theorem tX9_isDigit_0 : gAt mX9_isDigit 0 = some (.iload_n 0, 1, 0, 0, 0, 0) := by decide +kernel
theorem tX9_isDigit_1 : gAt mX9_isDigit 1 = some (.bipush 48, 2, 48, 0, 0, 0) := by decide +kernel
theorem tX9_isDigit_3 : gAt mX9_isDigit 3 = some (.if_icmp .lt 13, 3, 16, 0, 0, 0) := by decide +kernel
theorem tX9_isDigit_6 : gAt mX9_isDigit 6 = some (.iload_n 0, 1, 0, 0, 0, 0) := by decide +kernel
theorem tX9_isDigit_7 : gAt mX9_isDigit 7 = some (.bipush 57, 2, 57, 0, 0, 0) := by decide +kernel
theorem tX9_isDigit_9 : gAt mX9_isDigit 9 = some (.if_icmp .gt 7, 3, 16, 0, 0, 0) := by decide +kernel
theorem tX9_isDigit_12 : gAt mX9_isDigit 12 = some (.iconst 1, 1, 1, 0, 0, 0) := by decide +kernel
theorem tX9_isDigit_13 : gAt mX9_isDigit 13 = some (.goto 4, 3, 17, 0, 0, 0) := by decide +kernel
theorem tX9_isDigit_16 : gAt mX9_isDigit 16 = some (.iconst 0, 1, 0, 0, 0, 0) := by decide +kernel
theorem tX9_isDigit_17 : gAt mX9_isDigit 17 = some (.ireturn, 1, 1, 0, 0, 0) := by decide +kernel
set_option maxRecDepth 100000 in
theorem okX9_rank : (gTb mX9_rank).all (okE gF gNM mX9_rank) = true := by decide +kernel
theorem pnX9_rank : plainName (gY mX9_rank).cls = true := by decide +kernel
theorem tX9_rank_0 : gAt mX9_rank 0 = some (.iload_n 0, 1, 0, 0, 0, 0) := by decide +kernel
theorem tX9_rank_1 : gAt mX9_rank 1 = some (.invokestatic 184, 3, 106, 1, 10, 1254) := by decide +kernel
theorem tX9_rank_4 : gAt mX9_rank 4 = some (.ifCond .eq 10, 3, 14, 0, 0, 0) := by decide +kernel
theorem tX9_rank_7 : gAt mX9_rank 7 = some (.iload_n 0, 1, 0, 0, 0, 0) := by decide +kernel
theorem tX9_rank_8 : gAt mX9_rank 8 = some (.bipush 96, 2, 96, 0, 0, 0) := by decide +kernel
theorem tX9_rank_10 : gAt mX9_rank 10 = some (.isub, 1, 0, 0, 0, 0) := by decide +kernel
theorem tX9_rank_11 : gAt mX9_rank 11 = some (.goto 7, 3, 18, 0, 0, 0) := by decide +kernel
theorem tX9_rank_14 : gAt mX9_rank 14 = some (.iload_n 0, 1, 0, 0, 0, 0) := by decide +kernel
theorem tX9_rank_15 : gAt mX9_rank 15 = some (.bipush 21, 2, 21, 0, 0, 0) := by decide +kernel
theorem tX9_rank_17 : gAt mX9_rank 17 = some (.isub, 1, 0, 0, 0, 0) := by decide +kernel
theorem tX9_rank_18 : gAt mX9_rank 18 = some (.ireturn, 1, 0, 0, 0, 0) := by decide +kernel
set_option maxRecDepth 100000 in
theorem okX9_isSignOf : (gTb mX9_isSignOf).all (okE gF gNM mX9_isSignOf) = true := by decide +kernel
theorem pnX9_isSignOf : plainName (gY mX9_isSignOf).cls = true := by decide +kernel
theorem tX9_isSignOf_0 : gAt mX9_isSignOf 0 = some (.iload_n 0, 1, 0, 0, 0, 0) := by decide +kernel
theorem tX9_isSignOf_1 : gAt mX9_isSignOf 1 = some (.bipush 40, 2, 40, 0, 0, 0) := by decide +kernel
theorem tX9_isSignOf_3 : gAt mX9_isSignOf 3 = some (.if_icmp .eq 39, 3, 42, 0, 0, 0) := by decide +kernel
theorem tX9_isSignOf_6 : gAt mX9_isSignOf 6 = some (.iload_n 0, 1, 0, 0, 0, 0) := by decide +kernel
theorem tX9_isSignOf_7 : gAt mX9_isSignOf 7 = some (.bipush 41, 2, 41, 0, 0, 0) := by decide +kernel
theorem tX9_isSignOf_9 : gAt mX9_isSignOf 9 = some (.if_icmp .eq 33, 3, 42, 0, 0, 0) := by decide +kernel
theorem tX9_isSignOf_12 : gAt mX9_isSignOf 12 = some (.iload_n 0, 1, 0, 0, 0, 0) := by decide +kernel
theorem tX9_isSignOf_13 : gAt mX9_isSignOf 13 = some (.bipush 59, 2, 59, 0, 0, 0) := by decide +kernel
theorem tX9_isSignOf_15 : gAt mX9_isSignOf 15 = some (.if_icmp .eq 27, 3, 42, 0, 0, 0) := by decide +kernel
theorem tX9_isSignOf_18 : gAt mX9_isSignOf 18 = some (.iload_n 0, 1, 0, 0, 0, 0) := by decide +kernel
theorem tX9_isSignOf_19 : gAt mX9_isSignOf 19 = some (.bipush 61, 2, 61, 0, 0, 0) := by decide +kernel
theorem tX9_isSignOf_21 : gAt mX9_isSignOf 21 = some (.if_icmp .eq 21, 3, 42, 0, 0, 0) := by decide +kernel
theorem tX9_isSignOf_24 : gAt mX9_isSignOf 24 = some (.iload_n 0, 1, 0, 0, 0, 0) := by decide +kernel
theorem tX9_isSignOf_25 : gAt mX9_isSignOf 25 = some (.bipush 60, 2, 60, 0, 0, 0) := by decide +kernel
theorem tX9_isSignOf_27 : gAt mX9_isSignOf 27 = some (.if_icmp .eq 15, 3, 42, 0, 0, 0) := by decide +kernel
theorem tX9_isSignOf_30 : gAt mX9_isSignOf 30 = some (.iload_n 0, 1, 0, 0, 0, 0) := by decide +kernel
theorem tX9_isSignOf_31 : gAt mX9_isSignOf 31 = some (.bipush 43, 2, 43, 0, 0, 0) := by decide +kernel
theorem tX9_isSignOf_33 : gAt mX9_isSignOf 33 = some (.if_icmp .eq 9, 3, 42, 0, 0, 0) := by decide +kernel
theorem tX9_isSignOf_36 : gAt mX9_isSignOf 36 = some (.iload_n 0, 1, 0, 0, 0, 0) := by decide +kernel
theorem tX9_isSignOf_37 : gAt mX9_isSignOf 37 = some (.bipush 45, 2, 45, 0, 0, 0) := by decide +kernel
theorem tX9_isSignOf_39 : gAt mX9_isSignOf 39 = some (.if_icmp .ne 7, 3, 46, 0, 0, 0) := by decide +kernel
theorem tX9_isSignOf_42 : gAt mX9_isSignOf 42 = some (.iconst 1, 1, 1, 0, 0, 0) := by decide +kernel
theorem tX9_isSignOf_43 : gAt mX9_isSignOf 43 = some (.goto 4, 3, 47, 0, 0, 0) := by decide +kernel
theorem tX9_isSignOf_46 : gAt mX9_isSignOf 46 = some (.iconst 0, 1, 0, 0, 0, 0) := by decide +kernel
theorem tX9_isSignOf_47 : gAt mX9_isSignOf 47 = some (.ireturn, 1, 1, 0, 0, 0) := by decide +kernel
set_option maxRecDepth 100000 in
theorem okX9_cutAll : (gTb mX9_cutAll).all (okE gF gNM mX9_cutAll) = true := by decide +kernel
theorem pnX9_cutAll : plainName (gY mX9_cutAll).cls = true := by decide +kernel
theorem tX9_cutAll_0 : gAt mX9_cutAll 0 = some (.aload_n 0, 1, 0, 0, 0, 0) := by decide +kernel
theorem tX9_cutAll_1 : gAt mX9_cutAll 1 = some (.aload_n 0, 1, 0, 0, 0, 0) := by decide +kernel
theorem tX9_cutAll_2 : gAt mX9_cutAll 2 = some (.getfield 181, 3, 10, 2, 0, 1041) := by decide +kernel
theorem tX9_cutAll_5 : gAt mX9_cutAll 5 = some (.putfield 188, 3, 10, 3, 0, 1042) := by decide +kernel
theorem tX9_cutAll_8 : gAt mX9_cutAll 8 = some (.aload_n 0, 1, 0, 0, 0, 0) := by decide +kernel
theorem tX9_cutAll_9 : gAt mX9_cutAll 9 = some (.iconst 0, 1, 0, 0, 0, 0) := by decide +kernel
theorem tX9_cutAll_10 : gAt mX9_cutAll 10 = some (.putfield 181, 3, 10, 2, 0, 1041) := by decide +kernel
theorem tX9_cutAll_13 : gAt mX9_cutAll 13 = some (.iconst 0, 1, 0, 0, 0, 0) := by decide +kernel
theorem tX9_cutAll_14 : gAt mX9_cutAll 14 = some (.istore_n 1, 1, 0, 0, 0, 0) := by decide +kernel
theorem tX9_cutAll_15 : gAt mX9_cutAll 15 = some (.iconst 0, 1, 0, 0, 0, 0) := by decide +kernel
theorem tX9_cutAll_16 : gAt mX9_cutAll 16 = some (.istore_n 2, 1, 0, 0, 0, 0) := by decide +kernel
theorem tX9_cutAll_17 : gAt mX9_cutAll 17 = some (.iload_n 2, 1, 0, 0, 0, 0) := by decide +kernel
theorem tX9_cutAll_18 : gAt mX9_cutAll 18 = some (.aload_n 0, 1, 0, 0, 0, 0) := by decide +kernel
theorem tX9_cutAll_19 : gAt mX9_cutAll 19 = some (.getfield 188, 3, 10, 3, 0, 1042) := by decide +kernel
theorem tX9_cutAll_22 : gAt mX9_cutAll 22 = some (.if_icmp .ge 257, 3, 279, 0, 0, 0) := by decide +kernel
theorem tX9_cutAll_25 : gAt mX9_cutAll 25 = some (.aload_n 0, 1, 0, 0, 0, 0) := by decide +kernel
theorem tX9_cutAll_26 : gAt mX9_cutAll 26 = some (.getfield 7, 3, 10, 1, 2, 1040) := by decide +kernel
theorem tX9_cutAll_29 : gAt mX9_cutAll 29 = some (.iload_n 2, 1, 0, 0, 0, 0) := by decide +kernel
theorem tX9_cutAll_30 : gAt mX9_cutAll 30 = some (.iaload, 1, 112, 0, 0, 0) := by decide +kernel
theorem tX9_cutAll_31 : gAt mX9_cutAll 31 = some (.istore_n 3, 1, 0, 0, 0, 0) := by decide +kernel
theorem tX9_cutAll_32 : gAt mX9_cutAll 32 = some (.iload_n 3, 1, 0, 0, 0, 0) := by decide +kernel
theorem tX9_cutAll_33 : gAt mX9_cutAll 33 = some (.bipush 10, 2, 10, 0, 0, 0) := by decide +kernel
theorem tX9_cutAll_35 : gAt mX9_cutAll 35 = some (.if_icmp .eq 9, 3, 44, 0, 0, 0) := by decide +kernel
theorem tX9_cutAll_38 : gAt mX9_cutAll 38 = some (.iload_n 3, 1, 0, 0, 0, 0) := by decide +kernel
theorem tX9_cutAll_39 : gAt mX9_cutAll 39 = some (.bipush 32, 2, 32, 0, 0, 0) := by decide +kernel
theorem tX9_cutAll_41 : gAt mX9_cutAll 41 = some (.if_icmp .ne 9, 3, 50, 0, 0, 0) := by decide +kernel
theorem tX9_cutAll_44 : gAt mX9_cutAll 44 = some (.iinc 2 1, 3, 1, 0, 0, 0) := by decide +kernel
theorem tX9_cutAll_47 : gAt mX9_cutAll 47 = some (.goto (-30), 3, 17, 0, 0, 0) := by decide +kernel
theorem tX9_cutAll_50 : gAt mX9_cutAll 50 = some (.iload_n 2, 1, 0, 0, 0, 0) := by decide +kernel
theorem tX9_cutAll_51 : gAt mX9_cutAll 51 = some (.istore 4, 2, 0, 0, 0, 0) := by decide +kernel
theorem tX9_cutAll_53 : gAt mX9_cutAll 53 = some (.lconst 0, 1, 0, 0, 0, 0) := by decide +kernel
theorem tX9_cutAll_54 : gAt mX9_cutAll 54 = some (.lstore 5, 2, 0, 0, 0, 0) := by decide +kernel
theorem tX9_cutAll_56 : gAt mX9_cutAll 56 = some (.aload_n 0, 1, 0, 0, 0, 0) := by decide +kernel
theorem tX9_cutAll_57 : gAt mX9_cutAll 57 = some (.getfield 16, 3, 10, 5, 2, 1044) := by decide +kernel
theorem tX9_cutAll_60 : gAt mX9_cutAll 60 = some (.iload_n 1, 1, 0, 0, 0, 0) := by decide +kernel
theorem tX9_cutAll_61 : gAt mX9_cutAll 61 = some (.iload_n 2, 1, 0, 0, 0, 0) := by decide +kernel
theorem tX9_cutAll_62 : gAt mX9_cutAll 62 = some (.iastore, 1, 112, 0, 0, 0) := by decide +kernel
theorem tX9_cutAll_63 : gAt mX9_cutAll 63 = some (.iload_n 3, 1, 0, 0, 0, 0) := by decide +kernel
theorem tX9_cutAll_64 : gAt mX9_cutAll 64 = some (.invokestatic 184, 3, 106, 1, 10, 1254) := by decide +kernel
theorem tX9_cutAll_67 : gAt mX9_cutAll 67 = some (.ifCond .eq 85, 3, 152, 0, 0, 0) := by decide +kernel
theorem tX9_cutAll_70 : gAt mX9_cutAll 70 = some (.iload_n 2, 1, 0, 0, 0, 0) := by decide +kernel
theorem tX9_cutAll_71 : gAt mX9_cutAll 71 = some (.aload_n 0, 1, 0, 0, 0, 0) := by decide +kernel
theorem tX9_cutAll_72 : gAt mX9_cutAll 72 = some (.getfield 188, 3, 10, 3, 0, 1042) := by decide +kernel
theorem tX9_cutAll_75 : gAt mX9_cutAll 75 = some (.if_icmp .ge 54, 3, 129, 0, 0, 0) := by decide +kernel
theorem tX9_cutAll_78 : gAt mX9_cutAll 78 = some (.aload_n 0, 1, 0, 0, 0, 0) := by decide +kernel
theorem tX9_cutAll_79 : gAt mX9_cutAll 79 = some (.getfield 7, 3, 10, 1, 2, 1040) := by decide +kernel
theorem tX9_cutAll_82 : gAt mX9_cutAll 82 = some (.iload_n 2, 1, 0, 0, 0, 0) := by decide +kernel
theorem tX9_cutAll_83 : gAt mX9_cutAll 83 = some (.iaload, 1, 112, 0, 0, 0) := by decide +kernel
theorem tX9_cutAll_84 : gAt mX9_cutAll 84 = some (.invokestatic 184, 3, 106, 1, 10, 1254) := by decide +kernel
theorem tX9_cutAll_87 : gAt mX9_cutAll 87 = some (.ifCond .eq 42, 3, 129, 0, 0, 0) := by decide +kernel
theorem tX9_cutAll_90 : gAt mX9_cutAll 90 = some (.iload_n 2, 1, 0, 0, 0, 0) := by decide +kernel
theorem tX9_cutAll_91 : gAt mX9_cutAll 91 = some (.iload 4, 2, 0, 0, 0, 0) := by decide +kernel
theorem tX9_cutAll_93 : gAt mX9_cutAll 93 = some (.isub, 1, 0, 0, 0, 0) := by decide +kernel
theorem tX9_cutAll_94 : gAt mX9_cutAll 94 = some (.bipush 8, 2, 8, 0, 0, 0) := by decide +kernel
theorem tX9_cutAll_96 : gAt mX9_cutAll 96 = some (.if_icmp .ge 23, 3, 119, 0, 0, 0) := by decide +kernel
theorem tX9_cutAll_99 : gAt mX9_cutAll 99 = some (.ldc2_w 191, 3, 37, 0, 0, 1257) := by decide +kernel
theorem tX9_cutAll_102 : gAt mX9_cutAll 102 = some (.lload 5, 2, 0, 0, 0, 0) := by decide +kernel
theorem tX9_cutAll_104 : gAt mX9_cutAll 104 = some (.lmul, 1, 0, 0, 0, 0) := by decide +kernel
theorem tX9_cutAll_105 : gAt mX9_cutAll 105 = some (.aload_n 0, 1, 0, 0, 0, 0) := by decide +kernel
theorem tX9_cutAll_106 : gAt mX9_cutAll 106 = some (.getfield 7, 3, 10, 1, 2, 1040) := by decide +kernel
theorem tX9_cutAll_109 : gAt mX9_cutAll 109 = some (.iload_n 2, 1, 0, 0, 0, 0) := by decide +kernel
theorem tX9_cutAll_110 : gAt mX9_cutAll 110 = some (.iaload, 1, 112, 0, 0, 0) := by decide +kernel
theorem tX9_cutAll_111 : gAt mX9_cutAll 111 = some (.invokestatic 193, 3, 108, 1, 10, 1258) := by decide +kernel
theorem tX9_cutAll_114 : gAt mX9_cutAll 114 = some (.i2l, 1, 0, 0, 0, 0) := by decide +kernel
theorem tX9_cutAll_115 : gAt mX9_cutAll 115 = some (.ladd, 1, 0, 0, 0, 0) := by decide +kernel
theorem tX9_cutAll_116 : gAt mX9_cutAll 116 = some (.goto 5, 3, 121, 0, 0, 0) := by decide +kernel
theorem tX9_cutAll_119 : gAt mX9_cutAll 119 = some (.lload 5, 2, 0, 0, 0, 0) := by decide +kernel
theorem tX9_cutAll_121 : gAt mX9_cutAll 121 = some (.lstore 5, 2, 0, 0, 0, 0) := by decide +kernel
theorem tX9_cutAll_123 : gAt mX9_cutAll 123 = some (.iinc 2 1, 3, 1, 0, 0, 0) := by decide +kernel
theorem tX9_cutAll_126 : gAt mX9_cutAll 126 = some (.goto (-56), 3, 70, 0, 0, 0) := by decide +kernel
theorem tX9_cutAll_129 : gAt mX9_cutAll 129 = some (.aload_n 0, 1, 0, 0, 0, 0) := by decide +kernel
theorem tX9_cutAll_130 : gAt mX9_cutAll 130 = some (.getfield 13, 3, 10, 4, 2, 1043) := by decide +kernel
theorem tX9_cutAll_133 : gAt mX9_cutAll 133 = some (.iload_n 1, 1, 0, 0, 0, 0) := by decide +kernel
theorem tX9_cutAll_134 : gAt mX9_cutAll 134 = some (.iload_n 2, 1, 0, 0, 0, 0) := by decide +kernel
theorem tX9_cutAll_135 : gAt mX9_cutAll 135 = some (.iload 4, 2, 0, 0, 0, 0) := by decide +kernel
theorem tX9_cutAll_137 : gAt mX9_cutAll 137 = some (.isub, 1, 0, 0, 0, 0) := by decide +kernel
theorem tX9_cutAll_138 : gAt mX9_cutAll 138 = some (.bipush 8, 2, 8, 0, 0, 0) := by decide +kernel
theorem tX9_cutAll_140 : gAt mX9_cutAll 140 = some (.if_icmp .le 7, 3, 147, 0, 0, 0) := by decide +kernel
theorem tX9_cutAll_143 : gAt mX9_cutAll 143 = some (.iconst 4, 1, 4, 0, 0, 0) := by decide +kernel
theorem tX9_cutAll_144 : gAt mX9_cutAll 144 = some (.goto 4, 3, 148, 0, 0, 0) := by decide +kernel
theorem tX9_cutAll_147 : gAt mX9_cutAll 147 = some (.iconst 1, 1, 1, 0, 0, 0) := by decide +kernel
theorem tX9_cutAll_148 : gAt mX9_cutAll 148 = some (.iastore, 1, 112, 0, 0, 0) := by decide +kernel
theorem tX9_cutAll_149 : gAt mX9_cutAll 149 = some (.goto 116, 3, 265, 0, 0, 0) := by decide +kernel
theorem tX9_cutAll_152 : gAt mX9_cutAll 152 = some (.iload_n 3, 1, 0, 0, 0, 0) := by decide +kernel
theorem tX9_cutAll_153 : gAt mX9_cutAll 153 = some (.invokestatic 197, 3, 107, 1, 10, 1261) := by decide +kernel
theorem tX9_cutAll_156 : gAt mX9_cutAll 156 = some (.ifCond .eq 84, 3, 240, 0, 0, 0) := by decide +kernel
theorem tX9_cutAll_159 : gAt mX9_cutAll 159 = some (.iload_n 2, 1, 0, 0, 0, 0) := by decide +kernel
theorem tX9_cutAll_160 : gAt mX9_cutAll 160 = some (.aload_n 0, 1, 0, 0, 0, 0) := by decide +kernel
theorem tX9_cutAll_161 : gAt mX9_cutAll 161 = some (.getfield 188, 3, 10, 3, 0, 1042) := by decide +kernel
theorem tX9_cutAll_164 : gAt mX9_cutAll 164 = some (.if_icmp .ge 54, 3, 218, 0, 0, 0) := by decide +kernel
theorem tX9_cutAll_167 : gAt mX9_cutAll 167 = some (.aload_n 0, 1, 0, 0, 0, 0) := by decide +kernel
theorem tX9_cutAll_168 : gAt mX9_cutAll 168 = some (.getfield 7, 3, 10, 1, 2, 1040) := by decide +kernel
theorem tX9_cutAll_171 : gAt mX9_cutAll 171 = some (.iload_n 2, 1, 0, 0, 0, 0) := by decide +kernel
theorem tX9_cutAll_172 : gAt mX9_cutAll 172 = some (.iaload, 1, 112, 0, 0, 0) := by decide +kernel
theorem tX9_cutAll_173 : gAt mX9_cutAll 173 = some (.invokestatic 197, 3, 107, 1, 10, 1261) := by decide +kernel
theorem tX9_cutAll_176 : gAt mX9_cutAll 176 = some (.ifCond .eq 42, 3, 218, 0, 0, 0) := by decide +kernel
theorem tX9_cutAll_179 : gAt mX9_cutAll 179 = some (.iload_n 2, 1, 0, 0, 0, 0) := by decide +kernel
theorem tX9_cutAll_180 : gAt mX9_cutAll 180 = some (.iload 4, 2, 0, 0, 0, 0) := by decide +kernel
theorem tX9_cutAll_182 : gAt mX9_cutAll 182 = some (.isub, 1, 0, 0, 0, 0) := by decide +kernel
theorem tX9_cutAll_183 : gAt mX9_cutAll 183 = some (.iconst 4, 1, 4, 0, 0, 0) := by decide +kernel
theorem tX9_cutAll_184 : gAt mX9_cutAll 184 = some (.if_icmp .ge 24, 3, 208, 0, 0, 0) := by decide +kernel
theorem tX9_cutAll_187 : gAt mX9_cutAll 187 = some (.ldc2_w 200, 3, 10, 0, 0, 1264) := by decide +kernel
theorem tX9_cutAll_190 : gAt mX9_cutAll 190 = some (.lload 5, 2, 0, 0, 0, 0) := by decide +kernel
theorem tX9_cutAll_192 : gAt mX9_cutAll 192 = some (.lmul, 1, 0, 0, 0, 0) := by decide +kernel
theorem tX9_cutAll_193 : gAt mX9_cutAll 193 = some (.aload_n 0, 1, 0, 0, 0, 0) := by decide +kernel
theorem tX9_cutAll_194 : gAt mX9_cutAll 194 = some (.getfield 7, 3, 10, 1, 2, 1040) := by decide +kernel
theorem tX9_cutAll_197 : gAt mX9_cutAll 197 = some (.iload_n 2, 1, 0, 0, 0, 0) := by decide +kernel
theorem tX9_cutAll_198 : gAt mX9_cutAll 198 = some (.iaload, 1, 112, 0, 0, 0) := by decide +kernel
theorem tX9_cutAll_199 : gAt mX9_cutAll 199 = some (.i2l, 1, 0, 0, 0, 0) := by decide +kernel
theorem tX9_cutAll_200 : gAt mX9_cutAll 200 = some (.ladd, 1, 0, 0, 0, 0) := by decide +kernel
theorem tX9_cutAll_201 : gAt mX9_cutAll 201 = some (.ldc2_w 202, 3, 48, 0, 0, 1265) := by decide +kernel
theorem tX9_cutAll_204 : gAt mX9_cutAll 204 = some (.lsub, 1, 0, 0, 0, 0) := by decide +kernel
theorem tX9_cutAll_205 : gAt mX9_cutAll 205 = some (.goto 5, 3, 210, 0, 0, 0) := by decide +kernel
theorem tX9_cutAll_208 : gAt mX9_cutAll 208 = some (.lload 5, 2, 0, 0, 0, 0) := by decide +kernel
theorem tX9_cutAll_210 : gAt mX9_cutAll 210 = some (.lstore 5, 2, 0, 0, 0, 0) := by decide +kernel
theorem tX9_cutAll_212 : gAt mX9_cutAll 212 = some (.iinc 2 1, 3, 1, 0, 0, 0) := by decide +kernel
theorem tX9_cutAll_215 : gAt mX9_cutAll 215 = some (.goto (-56), 3, 159, 0, 0, 0) := by decide +kernel
theorem tX9_cutAll_218 : gAt mX9_cutAll 218 = some (.aload_n 0, 1, 0, 0, 0, 0) := by decide +kernel
theorem tX9_cutAll_219 : gAt mX9_cutAll 219 = some (.getfield 13, 3, 10, 4, 2, 1043) := by decide +kernel
theorem tX9_cutAll_222 : gAt mX9_cutAll 222 = some (.iload_n 1, 1, 0, 0, 0, 0) := by decide +kernel
theorem tX9_cutAll_223 : gAt mX9_cutAll 223 = some (.iload_n 2, 1, 0, 0, 0, 0) := by decide +kernel
theorem tX9_cutAll_224 : gAt mX9_cutAll 224 = some (.iload 4, 2, 0, 0, 0, 0) := by decide +kernel
theorem tX9_cutAll_226 : gAt mX9_cutAll 226 = some (.isub, 1, 0, 0, 0, 0) := by decide +kernel
theorem tX9_cutAll_227 : gAt mX9_cutAll 227 = some (.iconst 4, 1, 4, 0, 0, 0) := by decide +kernel
theorem tX9_cutAll_228 : gAt mX9_cutAll 228 = some (.if_icmp .le 7, 3, 235, 0, 0, 0) := by decide +kernel
theorem tX9_cutAll_231 : gAt mX9_cutAll 231 = some (.iconst 4, 1, 4, 0, 0, 0) := by decide +kernel
theorem tX9_cutAll_232 : gAt mX9_cutAll 232 = some (.goto 4, 3, 236, 0, 0, 0) := by decide +kernel
theorem tX9_cutAll_235 : gAt mX9_cutAll 235 = some (.iconst 2, 1, 2, 0, 0, 0) := by decide +kernel
theorem tX9_cutAll_236 : gAt mX9_cutAll 236 = some (.iastore, 1, 112, 0, 0, 0) := by decide +kernel
theorem tX9_cutAll_237 : gAt mX9_cutAll 237 = some (.goto 28, 3, 265, 0, 0, 0) := by decide +kernel
theorem tX9_cutAll_240 : gAt mX9_cutAll 240 = some (.iload_n 3, 1, 0, 0, 0, 0) := by decide +kernel
theorem tX9_cutAll_241 : gAt mX9_cutAll 241 = some (.i2l, 1, 0, 0, 0, 0) := by decide +kernel
theorem tX9_cutAll_242 : gAt mX9_cutAll 242 = some (.lstore 5, 2, 0, 0, 0, 0) := by decide +kernel
theorem tX9_cutAll_244 : gAt mX9_cutAll 244 = some (.aload_n 0, 1, 0, 0, 0, 0) := by decide +kernel
theorem tX9_cutAll_245 : gAt mX9_cutAll 245 = some (.getfield 13, 3, 10, 4, 2, 1043) := by decide +kernel
theorem tX9_cutAll_248 : gAt mX9_cutAll 248 = some (.iload_n 1, 1, 0, 0, 0, 0) := by decide +kernel
theorem tX9_cutAll_249 : gAt mX9_cutAll 249 = some (.iload_n 3, 1, 0, 0, 0, 0) := by decide +kernel
theorem tX9_cutAll_250 : gAt mX9_cutAll 250 = some (.invokestatic 204, 3, 109, 1, 10, 1266) := by decide +kernel
theorem tX9_cutAll_253 : gAt mX9_cutAll 253 = some (.ifCond .eq 7, 3, 260, 0, 0, 0) := by decide +kernel
theorem tX9_cutAll_256 : gAt mX9_cutAll 256 = some (.iconst 3, 1, 3, 0, 0, 0) := by decide +kernel
theorem tX9_cutAll_257 : gAt mX9_cutAll 257 = some (.goto 4, 3, 261, 0, 0, 0) := by decide +kernel
theorem tX9_cutAll_260 : gAt mX9_cutAll 260 = some (.iconst 4, 1, 4, 0, 0, 0) := by decide +kernel
theorem tX9_cutAll_261 : gAt mX9_cutAll 261 = some (.iastore, 1, 112, 0, 0, 0) := by decide +kernel
theorem tX9_cutAll_262 : gAt mX9_cutAll 262 = some (.iinc 2 1, 3, 1, 0, 0, 0) := by decide +kernel
theorem tX9_cutAll_265 : gAt mX9_cutAll 265 = some (.aload_n 0, 1, 0, 0, 0, 0) := by decide +kernel
theorem tX9_cutAll_266 : gAt mX9_cutAll 266 = some (.getfield 19, 3, 10, 6, 2, 1045) := by decide +kernel
theorem tX9_cutAll_269 : gAt mX9_cutAll 269 = some (.iload_n 1, 1, 0, 0, 0, 0) := by decide +kernel
theorem tX9_cutAll_270 : gAt mX9_cutAll 270 = some (.lload 5, 2, 0, 0, 0, 0) := by decide +kernel
theorem tX9_cutAll_272 : gAt mX9_cutAll 272 = some (.lastore, 1, 113, 0, 0, 0) := by decide +kernel
theorem tX9_cutAll_273 : gAt mX9_cutAll 273 = some (.iinc 1 1, 3, 1, 0, 0, 0) := by decide +kernel
theorem tX9_cutAll_276 : gAt mX9_cutAll 276 = some (.goto (-259), 3, 17, 0, 0, 0) := by decide +kernel
theorem tX9_cutAll_279 : gAt mX9_cutAll 279 = some (.aload_n 0, 1, 0, 0, 0, 0) := by decide +kernel
theorem tX9_cutAll_280 : gAt mX9_cutAll 280 = some (.getfield 13, 3, 10, 4, 2, 1043) := by decide +kernel
theorem tX9_cutAll_283 : gAt mX9_cutAll 283 = some (.iload_n 1, 1, 0, 0, 0, 0) := by decide +kernel
theorem tX9_cutAll_284 : gAt mX9_cutAll 284 = some (.iconst 0, 1, 0, 0, 0, 0) := by decide +kernel
theorem tX9_cutAll_285 : gAt mX9_cutAll 285 = some (.iastore, 1, 112, 0, 0, 0) := by decide +kernel
theorem tX9_cutAll_286 : gAt mX9_cutAll 286 = some (.aload_n 0, 1, 0, 0, 0, 0) := by decide +kernel
theorem tX9_cutAll_287 : gAt mX9_cutAll 287 = some (.getfield 16, 3, 10, 5, 2, 1044) := by decide +kernel
theorem tX9_cutAll_290 : gAt mX9_cutAll 290 = some (.iload_n 1, 1, 0, 0, 0, 0) := by decide +kernel
theorem tX9_cutAll_291 : gAt mX9_cutAll 291 = some (.aload_n 0, 1, 0, 0, 0, 0) := by decide +kernel
theorem tX9_cutAll_292 : gAt mX9_cutAll 292 = some (.getfield 188, 3, 10, 3, 0, 1042) := by decide +kernel
theorem tX9_cutAll_295 : gAt mX9_cutAll 295 = some (.iastore, 1, 112, 0, 0, 0) := by decide +kernel
theorem tX9_cutAll_296 : gAt mX9_cutAll 296 = some (.aload_n 0, 1, 0, 0, 0, 0) := by decide +kernel
theorem tX9_cutAll_297 : gAt mX9_cutAll 297 = some (.iconst 0, 1, 0, 0, 0, 0) := by decide +kernel
theorem tX9_cutAll_298 : gAt mX9_cutAll 298 = some (.putfield 207, 3, 10, 7, 0, 1046) := by decide +kernel
theorem tX9_cutAll_301 : gAt mX9_cutAll 301 = some (.aload_n 0, 1, 0, 0, 0, 0) := by decide +kernel
theorem tX9_cutAll_302 : gAt mX9_cutAll 302 = some (.iconst 0, 1, 0, 0, 0, 0) := by decide +kernel
theorem tX9_cutAll_303 : gAt mX9_cutAll 303 = some (.putfield 210, 3, 10, 8, 0, 1047) := by decide +kernel
theorem tX9_cutAll_306 : gAt mX9_cutAll 306 = some (.return_, 1, 0, 0, 0, 0) := by decide +kernel
set_option maxRecDepth 100000 in
theorem okX9_wrong : (gTb mX9_wrong).all (okE gF gNM mX9_wrong) = true := by decide +kernel
theorem pnX9_wrong : plainName (gY mX9_wrong).cls = true := by decide +kernel
theorem tX9_wrong_0 : gAt mX9_wrong 0 = some (.aload_n 0, 1, 0, 0, 0, 0) := by decide +kernel
theorem tX9_wrong_1 : gAt mX9_wrong 1 = some (.getfield 210, 3, 10, 8, 0, 1047) := by decide +kernel
theorem tX9_wrong_4 : gAt mX9_wrong 4 = some (.ifCond .ne 21, 3, 25, 0, 0, 0) := by decide +kernel
theorem tX9_wrong_7 : gAt mX9_wrong 7 = some (.aload_n 0, 1, 0, 0, 0, 0) := by decide +kernel
theorem tX9_wrong_8 : gAt mX9_wrong 8 = some (.iload_n 1, 1, 0, 0, 0, 0) := by decide +kernel
theorem tX9_wrong_9 : gAt mX9_wrong 9 = some (.bipush 16, 2, 16, 0, 0, 0) := by decide +kernel
theorem tX9_wrong_11 : gAt mX9_wrong 11 = some (.aload_n 0, 1, 0, 0, 0, 0) := by decide +kernel
theorem tX9_wrong_12 : gAt mX9_wrong 12 = some (.getfield 16, 3, 10, 5, 2, 1044) := by decide +kernel
theorem tX9_wrong_15 : gAt mX9_wrong 15 = some (.aload_n 0, 1, 0, 0, 0, 0) := by decide +kernel
theorem tX9_wrong_16 : gAt mX9_wrong 16 = some (.getfield 207, 3, 10, 7, 0, 1046) := by decide +kernel
theorem tX9_wrong_19 : gAt mX9_wrong 19 = some (.iaload, 1, 112, 0, 0, 0) := by decide +kernel
theorem tX9_wrong_20 : gAt mX9_wrong 20 = some (.imul, 1, 0, 0, 0, 0) := by decide +kernel
theorem tX9_wrong_21 : gAt mX9_wrong 21 = some (.iadd, 1, 0, 0, 0, 0) := by decide +kernel
theorem tX9_wrong_22 : gAt mX9_wrong 22 = some (.putfield 210, 3, 10, 8, 0, 1047) := by decide +kernel
theorem tX9_wrong_25 : gAt mX9_wrong 25 = some (.return_, 1, 0, 0, 0, 0) := by decide +kernel
set_option maxRecDepth 100000 in
theorem okX9_isSign : (gTb mX9_isSign).all (okE gF gNM mX9_isSign) = true := by decide +kernel
theorem pnX9_isSign : plainName (gY mX9_isSign).cls = true := by decide +kernel
theorem tX9_isSign_0 : gAt mX9_isSign 0 = some (.aload_n 0, 1, 0, 0, 0, 0) := by decide +kernel
theorem tX9_isSign_1 : gAt mX9_isSign 1 = some (.getfield 210, 3, 10, 8, 0, 1047) := by decide +kernel
theorem tX9_isSign_4 : gAt mX9_isSign 4 = some (.ifCond .ne 35, 3, 39, 0, 0, 0) := by decide +kernel
theorem tX9_isSign_7 : gAt mX9_isSign 7 = some (.aload_n 0, 1, 0, 0, 0, 0) := by decide +kernel
theorem tX9_isSign_8 : gAt mX9_isSign 8 = some (.getfield 13, 3, 10, 4, 2, 1043) := by decide +kernel
theorem tX9_isSign_11 : gAt mX9_isSign 11 = some (.aload_n 0, 1, 0, 0, 0, 0) := by decide +kernel
theorem tX9_isSign_12 : gAt mX9_isSign 12 = some (.getfield 207, 3, 10, 7, 0, 1046) := by decide +kernel
theorem tX9_isSign_15 : gAt mX9_isSign 15 = some (.iaload, 1, 112, 0, 0, 0) := by decide +kernel
theorem tX9_isSign_16 : gAt mX9_isSign 16 = some (.iconst 3, 1, 3, 0, 0, 0) := by decide +kernel
theorem tX9_isSign_17 : gAt mX9_isSign 17 = some (.if_icmp .ne 22, 3, 39, 0, 0, 0) := by decide +kernel
theorem tX9_isSign_20 : gAt mX9_isSign 20 = some (.aload_n 0, 1, 0, 0, 0, 0) := by decide +kernel
theorem tX9_isSign_21 : gAt mX9_isSign 21 = some (.getfield 19, 3, 10, 6, 2, 1045) := by decide +kernel
theorem tX9_isSign_24 : gAt mX9_isSign 24 = some (.aload_n 0, 1, 0, 0, 0, 0) := by decide +kernel
theorem tX9_isSign_25 : gAt mX9_isSign 25 = some (.getfield 207, 3, 10, 7, 0, 1046) := by decide +kernel
theorem tX9_isSign_28 : gAt mX9_isSign 28 = some (.laload, 1, 113, 0, 0, 0) := by decide +kernel
theorem tX9_isSign_29 : gAt mX9_isSign 29 = some (.iload_n 1, 1, 0, 0, 0, 0) := by decide +kernel
theorem tX9_isSign_30 : gAt mX9_isSign 30 = some (.i2l, 1, 0, 0, 0, 0) := by decide +kernel
theorem tX9_isSign_31 : gAt mX9_isSign 31 = some (.lcmp, 1, 0, 0, 0, 0) := by decide +kernel
theorem tX9_isSign_32 : gAt mX9_isSign 32 = some (.ifCond .ne 7, 3, 39, 0, 0, 0) := by decide +kernel
theorem tX9_isSign_35 : gAt mX9_isSign 35 = some (.iconst 1, 1, 1, 0, 0, 0) := by decide +kernel
theorem tX9_isSign_36 : gAt mX9_isSign 36 = some (.goto 4, 3, 40, 0, 0, 0) := by decide +kernel
theorem tX9_isSign_39 : gAt mX9_isSign 39 = some (.iconst 0, 1, 0, 0, 0, 0) := by decide +kernel
theorem tX9_isSign_40 : gAt mX9_isSign 40 = some (.ireturn, 1, 1, 0, 0, 0) := by decide +kernel
set_option maxRecDepth 100000 in
theorem okX9_isWord : (gTb mX9_isWord).all (okE gF gNM mX9_isWord) = true := by decide +kernel
theorem pnX9_isWord : plainName (gY mX9_isWord).cls = true := by decide +kernel
theorem tX9_isWord_0 : gAt mX9_isWord 0 = some (.aload_n 0, 1, 0, 0, 0, 0) := by decide +kernel
theorem tX9_isWord_1 : gAt mX9_isWord 1 = some (.getfield 210, 3, 10, 8, 0, 1047) := by decide +kernel
theorem tX9_isWord_4 : gAt mX9_isWord 4 = some (.ifCond .ne 39, 3, 43, 0, 0, 0) := by decide +kernel
theorem tX9_isWord_7 : gAt mX9_isWord 7 = some (.aload_n 0, 1, 0, 0, 0, 0) := by decide +kernel
theorem tX9_isWord_8 : gAt mX9_isWord 8 = some (.getfield 13, 3, 10, 4, 2, 1043) := by decide +kernel
theorem tX9_isWord_11 : gAt mX9_isWord 11 = some (.aload_n 0, 1, 0, 0, 0, 0) := by decide +kernel
theorem tX9_isWord_12 : gAt mX9_isWord 12 = some (.getfield 207, 3, 10, 7, 0, 1046) := by decide +kernel
theorem tX9_isWord_15 : gAt mX9_isWord 15 = some (.iaload, 1, 112, 0, 0, 0) := by decide +kernel
theorem tX9_isWord_16 : gAt mX9_isWord 16 = some (.iconst 1, 1, 1, 0, 0, 0) := by decide +kernel
theorem tX9_isWord_17 : gAt mX9_isWord 17 = some (.if_icmp .ne 26, 3, 43, 0, 0, 0) := by decide +kernel
theorem tX9_isWord_20 : gAt mX9_isWord 20 = some (.aload_n 0, 1, 0, 0, 0, 0) := by decide +kernel
theorem tX9_isWord_21 : gAt mX9_isWord 21 = some (.getfield 19, 3, 10, 6, 2, 1045) := by decide +kernel
theorem tX9_isWord_24 : gAt mX9_isWord 24 = some (.aload_n 0, 1, 0, 0, 0, 0) := by decide +kernel
theorem tX9_isWord_25 : gAt mX9_isWord 25 = some (.getfield 207, 3, 10, 7, 0, 1046) := by decide +kernel
theorem tX9_isWord_28 : gAt mX9_isWord 28 = some (.laload, 1, 113, 0, 0, 0) := by decide +kernel
theorem tX9_isWord_29 : gAt mX9_isWord 29 = some (.aload_n 0, 1, 0, 0, 0, 0) := by decide +kernel
theorem tX9_isWord_30 : gAt mX9_isWord 30 = some (.getfield 39, 3, 10, 9, 2, 1048) := by decide +kernel
theorem tX9_isWord_33 : gAt mX9_isWord 33 = some (.iload_n 1, 1, 0, 0, 0, 0) := by decide +kernel
theorem tX9_isWord_34 : gAt mX9_isWord 34 = some (.laload, 1, 113, 0, 0, 0) := by decide +kernel
theorem tX9_isWord_35 : gAt mX9_isWord 35 = some (.lcmp, 1, 0, 0, 0, 0) := by decide +kernel
theorem tX9_isWord_36 : gAt mX9_isWord 36 = some (.ifCond .ne 7, 3, 43, 0, 0, 0) := by decide +kernel
theorem tX9_isWord_39 : gAt mX9_isWord 39 = some (.iconst 1, 1, 1, 0, 0, 0) := by decide +kernel
theorem tX9_isWord_40 : gAt mX9_isWord 40 = some (.goto 4, 3, 44, 0, 0, 0) := by decide +kernel
theorem tX9_isWord_43 : gAt mX9_isWord 43 = some (.iconst 0, 1, 0, 0, 0, 0) := by decide +kernel
theorem tX9_isWord_44 : gAt mX9_isWord 44 = some (.ireturn, 1, 1, 0, 0, 0) := by decide +kernel
set_option maxRecDepth 100000 in
theorem okX9_takeSign : (gTb mX9_takeSign).all (okE gF gNM mX9_takeSign) = true := by decide +kernel
theorem pnX9_takeSign : plainName (gY mX9_takeSign).cls = true := by decide +kernel
theorem tX9_takeSign_0 : gAt mX9_takeSign 0 = some (.aload_n 0, 1, 0, 0, 0, 0) := by decide +kernel
theorem tX9_takeSign_1 : gAt mX9_takeSign 1 = some (.iload_n 1, 1, 0, 0, 0, 0) := by decide +kernel
theorem tX9_takeSign_2 : gAt mX9_takeSign 2 = some (.invokevirtual 213, 3, 112, 1, 10, 1302) := by decide +kernel
theorem tX9_takeSign_5 : gAt mX9_takeSign 5 = some (.ifCond .eq 16, 3, 21, 0, 0, 0) := by decide +kernel
theorem tX9_takeSign_8 : gAt mX9_takeSign 8 = some (.aload_n 0, 1, 0, 0, 0, 0) := by decide +kernel
theorem tX9_takeSign_9 : gAt mX9_takeSign 9 = some (.dup, 1, 0, 0, 0, 0) := by decide +kernel
theorem tX9_takeSign_10 : gAt mX9_takeSign 10 = some (.getfield 207, 3, 10, 7, 0, 1046) := by decide +kernel
theorem tX9_takeSign_13 : gAt mX9_takeSign 13 = some (.iconst 1, 1, 1, 0, 0, 0) := by decide +kernel
theorem tX9_takeSign_14 : gAt mX9_takeSign 14 = some (.iadd, 1, 0, 0, 0, 0) := by decide +kernel
theorem tX9_takeSign_15 : gAt mX9_takeSign 15 = some (.putfield 207, 3, 10, 7, 0, 1046) := by decide +kernel
theorem tX9_takeSign_18 : gAt mX9_takeSign 18 = some (.goto 8, 3, 26, 0, 0, 0) := by decide +kernel
theorem tX9_takeSign_21 : gAt mX9_takeSign 21 = some (.aload_n 0, 1, 0, 0, 0, 0) := by decide +kernel
theorem tX9_takeSign_22 : gAt mX9_takeSign 22 = some (.iconst 1, 1, 1, 0, 0, 0) := by decide +kernel
theorem tX9_takeSign_23 : gAt mX9_takeSign 23 = some (.invokevirtual 216, 3, 111, 1, 10, 1277) := by decide +kernel
theorem tX9_takeSign_26 : gAt mX9_takeSign 26 = some (.return_, 1, 0, 0, 0, 0) := by decide +kernel
set_option maxRecDepth 100000 in
theorem okX9_hasSign : (gTb mX9_hasSign).all (okE gF gNM mX9_hasSign) = true := by decide +kernel
theorem pnX9_hasSign : plainName (gY mX9_hasSign).cls = true := by decide +kernel
theorem tX9_hasSign_0 : gAt mX9_hasSign 0 = some (.aload_n 0, 1, 0, 0, 0, 0) := by decide +kernel
theorem tX9_hasSign_1 : gAt mX9_hasSign 1 = some (.iload_n 1, 1, 0, 0, 0, 0) := by decide +kernel
theorem tX9_hasSign_2 : gAt mX9_hasSign 2 = some (.invokevirtual 213, 3, 112, 1, 10, 1302) := by decide +kernel
theorem tX9_hasSign_5 : gAt mX9_hasSign 5 = some (.istore_n 2, 1, 0, 0, 0, 0) := by decide +kernel
theorem tX9_hasSign_6 : gAt mX9_hasSign 6 = some (.aload_n 0, 1, 0, 0, 0, 0) := by decide +kernel
theorem tX9_hasSign_7 : gAt mX9_hasSign 7 = some (.dup, 1, 0, 0, 0, 0) := by decide +kernel
theorem tX9_hasSign_8 : gAt mX9_hasSign 8 = some (.getfield 207, 3, 10, 7, 0, 1046) := by decide +kernel
theorem tX9_hasSign_11 : gAt mX9_hasSign 11 = some (.iload_n 2, 1, 0, 0, 0, 0) := by decide +kernel
theorem tX9_hasSign_12 : gAt mX9_hasSign 12 = some (.ifCond .eq 7, 3, 19, 0, 0, 0) := by decide +kernel
theorem tX9_hasSign_15 : gAt mX9_hasSign 15 = some (.iconst 1, 1, 1, 0, 0, 0) := by decide +kernel
theorem tX9_hasSign_16 : gAt mX9_hasSign 16 = some (.goto 4, 3, 20, 0, 0, 0) := by decide +kernel
theorem tX9_hasSign_19 : gAt mX9_hasSign 19 = some (.iconst 0, 1, 0, 0, 0, 0) := by decide +kernel
theorem tX9_hasSign_20 : gAt mX9_hasSign 20 = some (.iadd, 1, 0, 0, 0, 0) := by decide +kernel
theorem tX9_hasSign_21 : gAt mX9_hasSign 21 = some (.putfield 207, 3, 10, 7, 0, 1046) := by decide +kernel
theorem tX9_hasSign_24 : gAt mX9_hasSign 24 = some (.iload_n 2, 1, 0, 0, 0, 0) := by decide +kernel
theorem tX9_hasSign_25 : gAt mX9_hasSign 25 = some (.ireturn, 1, 1, 0, 0, 0) := by decide +kernel
set_option maxRecDepth 100000 in
theorem okX9_hasWord : (gTb mX9_hasWord).all (okE gF gNM mX9_hasWord) = true := by decide +kernel
theorem pnX9_hasWord : plainName (gY mX9_hasWord).cls = true := by decide +kernel
theorem tX9_hasWord_0 : gAt mX9_hasWord 0 = some (.aload_n 0, 1, 0, 0, 0, 0) := by decide +kernel
theorem tX9_hasWord_1 : gAt mX9_hasWord 1 = some (.iload_n 1, 1, 0, 0, 0, 0) := by decide +kernel
theorem tX9_hasWord_2 : gAt mX9_hasWord 2 = some (.invokevirtual 220, 3, 113, 1, 10, 1273) := by decide +kernel
theorem tX9_hasWord_5 : gAt mX9_hasWord 5 = some (.istore_n 2, 1, 0, 0, 0, 0) := by decide +kernel
theorem tX9_hasWord_6 : gAt mX9_hasWord 6 = some (.aload_n 0, 1, 0, 0, 0, 0) := by decide +kernel
theorem tX9_hasWord_7 : gAt mX9_hasWord 7 = some (.dup, 1, 0, 0, 0, 0) := by decide +kernel
theorem tX9_hasWord_8 : gAt mX9_hasWord 8 = some (.getfield 207, 3, 10, 7, 0, 1046) := by decide +kernel
theorem tX9_hasWord_11 : gAt mX9_hasWord 11 = some (.iload_n 2, 1, 0, 0, 0, 0) := by decide +kernel
theorem tX9_hasWord_12 : gAt mX9_hasWord 12 = some (.ifCond .eq 7, 3, 19, 0, 0, 0) := by decide +kernel
theorem tX9_hasWord_15 : gAt mX9_hasWord 15 = some (.iconst 1, 1, 1, 0, 0, 0) := by decide +kernel
theorem tX9_hasWord_16 : gAt mX9_hasWord 16 = some (.goto 4, 3, 20, 0, 0, 0) := by decide +kernel
theorem tX9_hasWord_19 : gAt mX9_hasWord 19 = some (.iconst 0, 1, 0, 0, 0, 0) := by decide +kernel
theorem tX9_hasWord_20 : gAt mX9_hasWord 20 = some (.iadd, 1, 0, 0, 0, 0) := by decide +kernel
theorem tX9_hasWord_21 : gAt mX9_hasWord 21 = some (.putfield 207, 3, 10, 7, 0, 1046) := by decide +kernel
theorem tX9_hasWord_24 : gAt mX9_hasWord 24 = some (.iload_n 2, 1, 0, 0, 0, 0) := by decide +kernel
theorem tX9_hasWord_25 : gAt mX9_hasWord 25 = some (.ireturn, 1, 1, 0, 0, 0) := by decide +kernel
set_option maxRecDepth 100000 in
theorem okX9_takeWord : (gTb mX9_takeWord).all (okE gF gNM mX9_takeWord) = true := by decide +kernel
theorem pnX9_takeWord : plainName (gY mX9_takeWord).cls = true := by decide +kernel
theorem tX9_takeWord_0 : gAt mX9_takeWord 0 = some (.aload_n 0, 1, 0, 0, 0, 0) := by decide +kernel
theorem tX9_takeWord_1 : gAt mX9_takeWord 1 = some (.iload_n 1, 1, 0, 0, 0, 0) := by decide +kernel
theorem tX9_takeWord_2 : gAt mX9_takeWord 2 = some (.invokevirtual 223, 3, 116, 1, 10, 1286) := by decide +kernel
theorem tX9_takeWord_5 : gAt mX9_takeWord 5 = some (.ifCond .ne 8, 3, 13, 0, 0, 0) := by decide +kernel
theorem tX9_takeWord_8 : gAt mX9_takeWord 8 = some (.aload_n 0, 1, 0, 0, 0, 0) := by decide +kernel
theorem tX9_takeWord_9 : gAt mX9_takeWord 9 = some (.iconst 1, 1, 1, 0, 0, 0) := by decide +kernel
theorem tX9_takeWord_10 : gAt mX9_takeWord 10 = some (.invokevirtual 216, 3, 111, 1, 10, 1277) := by decide +kernel
theorem tX9_takeWord_13 : gAt mX9_takeWord 13 = some (.return_, 1, 0, 0, 0, 0) := by decide +kernel
set_option maxRecDepth 100000 in
theorem okX9_emit : (gTb mX9_emit).all (okE gF gNM mX9_emit) = true := by decide +kernel
theorem pnX9_emit : plainName (gY mX9_emit).cls = true := by decide +kernel
theorem tX9_emit_0 : gAt mX9_emit 0 = some (.aload_n 0, 1, 0, 0, 0, 0) := by decide +kernel
theorem tX9_emit_1 : gAt mX9_emit 1 = some (.getfield 51, 3, 10, 13, 2, 1052) := by decide +kernel
theorem tX9_emit_4 : gAt mX9_emit 4 = some (.sipush 660, 3, 660, 0, 0, 0) := by decide +kernel
theorem tX9_emit_7 : gAt mX9_emit 7 = some (.aload_n 0, 1, 0, 0, 0, 0) := by decide +kernel
theorem tX9_emit_8 : gAt mX9_emit 8 = some (.getfield 226, 3, 10, 16, 0, 1055) := by decide +kernel
theorem tX9_emit_11 : gAt mX9_emit 11 = some (.imul, 1, 0, 0, 0, 0) := by decide +kernel
theorem tX9_emit_12 : gAt mX9_emit 12 = some (.aload_n 0, 1, 0, 0, 0, 0) := by decide +kernel
theorem tX9_emit_13 : gAt mX9_emit 13 = some (.getfield 229, 3, 10, 17, 0, 1056) := by decide +kernel
theorem tX9_emit_16 : gAt mX9_emit 16 = some (.iadd, 1, 0, 0, 0, 0) := by decide +kernel
theorem tX9_emit_17 : gAt mX9_emit 17 = some (.iload_n 1, 1, 0, 0, 0, 0) := by decide +kernel
theorem tX9_emit_18 : gAt mX9_emit 18 = some (.iastore, 1, 112, 0, 0, 0) := by decide +kernel
theorem tX9_emit_19 : gAt mX9_emit 19 = some (.aload_n 0, 1, 0, 0, 0, 0) := by decide +kernel
theorem tX9_emit_20 : gAt mX9_emit 20 = some (.getfield 54, 3, 10, 14, 2, 1053) := by decide +kernel
theorem tX9_emit_23 : gAt mX9_emit 23 = some (.sipush 660, 3, 660, 0, 0, 0) := by decide +kernel
theorem tX9_emit_26 : gAt mX9_emit 26 = some (.aload_n 0, 1, 0, 0, 0, 0) := by decide +kernel
theorem tX9_emit_27 : gAt mX9_emit 27 = some (.getfield 226, 3, 10, 16, 0, 1055) := by decide +kernel
theorem tX9_emit_30 : gAt mX9_emit 30 = some (.imul, 1, 0, 0, 0, 0) := by decide +kernel
theorem tX9_emit_31 : gAt mX9_emit 31 = some (.aload_n 0, 1, 0, 0, 0, 0) := by decide +kernel
theorem tX9_emit_32 : gAt mX9_emit 32 = some (.getfield 229, 3, 10, 17, 0, 1056) := by decide +kernel
theorem tX9_emit_35 : gAt mX9_emit 35 = some (.iadd, 1, 0, 0, 0, 0) := by decide +kernel
theorem tX9_emit_36 : gAt mX9_emit 36 = some (.iload_n 2, 1, 0, 0, 0, 0) := by decide +kernel
theorem tX9_emit_37 : gAt mX9_emit 37 = some (.iastore, 1, 112, 0, 0, 0) := by decide +kernel
theorem tX9_emit_38 : gAt mX9_emit 38 = some (.aload_n 0, 1, 0, 0, 0, 0) := by decide +kernel
theorem tX9_emit_39 : gAt mX9_emit 39 = some (.dup, 1, 0, 0, 0, 0) := by decide +kernel
theorem tX9_emit_40 : gAt mX9_emit 40 = some (.getfield 229, 3, 10, 17, 0, 1056) := by decide +kernel
theorem tX9_emit_43 : gAt mX9_emit 43 = some (.iconst 1, 1, 1, 0, 0, 0) := by decide +kernel
theorem tX9_emit_44 : gAt mX9_emit 44 = some (.iadd, 1, 0, 0, 0, 0) := by decide +kernel
theorem tX9_emit_45 : gAt mX9_emit 45 = some (.putfield 229, 3, 10, 17, 0, 1056) := by decide +kernel
theorem tX9_emit_48 : gAt mX9_emit 48 = some (.return_, 1, 0, 0, 0, 0) := by decide +kernel
set_option maxRecDepth 100000 in
theorem okX9_rules : (gTb mX9_rules).all (okE gF gNM mX9_rules) = true := by decide +kernel
theorem pnX9_rules : plainName (gY mX9_rules).cls = true := by decide +kernel
theorem tX9_rules_0 : gAt mX9_rules 0 = some (.aload_n 0, 1, 0, 0, 0, 0) := by decide +kernel
theorem tX9_rules_1 : gAt mX9_rules 1 = some (.iconst 0, 1, 0, 0, 0, 0) := by decide +kernel
theorem tX9_rules_2 : gAt mX9_rules 2 = some (.putfield 174, 3, 10, 0, 0, 1039) := by decide +kernel
theorem tX9_rules_5 : gAt mX9_rules 5 = some (.aload_n 0, 1, 0, 0, 0, 0) := by decide +kernel
theorem tX9_rules_6 : gAt mX9_rules 6 = some (.invokevirtual 232, 3, 110, 0, 10, 1250) := by decide +kernel
theorem tX9_rules_9 : gAt mX9_rules 9 = some (.aload_n 0, 1, 0, 0, 0, 0) := by decide +kernel
theorem tX9_rules_10 : gAt mX9_rules 10 = some (.iconst 1, 1, 1, 0, 0, 0) := by decide +kernel
theorem tX9_rules_11 : gAt mX9_rules 11 = some (.aload_n 0, 1, 0, 0, 0, 0) := by decide +kernel
theorem tX9_rules_12 : gAt mX9_rules 12 = some (.getfield 235, 3, 10, 15, 0, 1054) := by decide +kernel
theorem tX9_rules_15 : gAt mX9_rules 15 = some (.isub, 1, 0, 0, 0, 0) := by decide +kernel
theorem tX9_rules_16 : gAt mX9_rules 16 = some (.putfield 226, 3, 10, 16, 0, 1055) := by decide +kernel
theorem tX9_rules_19 : gAt mX9_rules 19 = some (.aload_n 0, 1, 0, 0, 0, 0) := by decide +kernel
theorem tX9_rules_20 : gAt mX9_rules 20 = some (.getfield 42, 3, 10, 10, 2, 1049) := by decide +kernel
theorem tX9_rules_23 : gAt mX9_rules 23 = some (.aload_n 0, 1, 0, 0, 0, 0) := by decide +kernel
theorem tX9_rules_24 : gAt mX9_rules 24 = some (.getfield 226, 3, 10, 16, 0, 1055) := by decide +kernel
theorem tX9_rules_27 : gAt mX9_rules 27 = some (.iconst 0, 1, 0, 0, 0, 0) := by decide +kernel
theorem tX9_rules_28 : gAt mX9_rules 28 = some (.iastore, 1, 112, 0, 0, 0) := by decide +kernel
theorem tX9_rules_29 : gAt mX9_rules 29 = some (.aload_n 0, 1, 0, 0, 0, 0) := by decide +kernel
theorem tX9_rules_30 : gAt mX9_rules 30 = some (.iconst 0, 1, 0, 0, 0, 0) := by decide +kernel
theorem tX9_rules_31 : gAt mX9_rules 31 = some (.putfield 229, 3, 10, 17, 0, 1056) := by decide +kernel
theorem tX9_rules_34 : gAt mX9_rules 34 = some (.aload_n 0, 1, 0, 0, 0, 0) := by decide +kernel
theorem tX9_rules_35 : gAt mX9_rules 35 = some (.getfield 210, 3, 10, 8, 0, 1047) := by decide +kernel
theorem tX9_rules_38 : gAt mX9_rules 38 = some (.ifCond .ne 22, 3, 60, 0, 0, 0) := by decide +kernel
theorem tX9_rules_41 : gAt mX9_rules 41 = some (.aload_n 0, 1, 0, 0, 0, 0) := by decide +kernel
theorem tX9_rules_42 : gAt mX9_rules 42 = some (.getfield 13, 3, 10, 4, 2, 1043) := by decide +kernel
theorem tX9_rules_45 : gAt mX9_rules 45 = some (.aload_n 0, 1, 0, 0, 0, 0) := by decide +kernel
theorem tX9_rules_46 : gAt mX9_rules 46 = some (.getfield 207, 3, 10, 7, 0, 1046) := by decide +kernel
theorem tX9_rules_49 : gAt mX9_rules 49 = some (.iaload, 1, 112, 0, 0, 0) := by decide +kernel
theorem tX9_rules_50 : gAt mX9_rules 50 = some (.ifCond .eq 10, 3, 60, 0, 0, 0) := by decide +kernel
theorem tX9_rules_53 : gAt mX9_rules 53 = some (.aload_n 0, 1, 0, 0, 0, 0) := by decide +kernel
theorem tX9_rules_54 : gAt mX9_rules 54 = some (.invokevirtual 238, 3, 120, 0, 10, 1269) := by decide +kernel
theorem tX9_rules_57 : gAt mX9_rules 57 = some (.goto (-23), 3, 34, 0, 0, 0) := by decide +kernel
theorem tX9_rules_60 : gAt mX9_rules 60 = some (.aload_n 0, 1, 0, 0, 0, 0) := by decide +kernel
theorem tX9_rules_61 : gAt mX9_rules 61 = some (.getfield 210, 3, 10, 8, 0, 1047) := by decide +kernel
theorem tX9_rules_64 : gAt mX9_rules 64 = some (.ifCond .ne 11, 3, 75, 0, 0, 0) := by decide +kernel
theorem tX9_rules_67 : gAt mX9_rules 67 = some (.aload_n 0, 1, 0, 0, 0, 0) := by decide +kernel
theorem tX9_rules_68 : gAt mX9_rules 68 = some (.aload_n 0, 1, 0, 0, 0, 0) := by decide +kernel
theorem tX9_rules_69 : gAt mX9_rules 69 = some (.getfield 226, 3, 10, 16, 0, 1055) := by decide +kernel
theorem tX9_rules_72 : gAt mX9_rules 72 = some (.putfield 235, 3, 10, 15, 0, 1054) := by decide +kernel
theorem tX9_rules_75 : gAt mX9_rules 75 = some (.aload_n 0, 1, 0, 0, 0, 0) := by decide +kernel
theorem tX9_rules_76 : gAt mX9_rules 76 = some (.getfield 210, 3, 10, 8, 0, 1047) := by decide +kernel
theorem tX9_rules_79 : gAt mX9_rules 79 = some (.ireturn, 1, 0, 0, 0, 0) := by decide +kernel
set_option maxRecDepth 100000 in
theorem okX9_line : (gTb mX9_line).all (okE gF gNM mX9_line) = true := by decide +kernel
theorem pnX9_line : plainName (gY mX9_line).cls = true := by decide +kernel
theorem tX9_line_0 : gAt mX9_line 0 = some (.aload_n 0, 1, 0, 0, 0, 0) := by decide +kernel
theorem tX9_line_1 : gAt mX9_line 1 = some (.iconst 0, 1, 0, 0, 0, 0) := by decide +kernel
theorem tX9_line_2 : gAt mX9_line 2 = some (.invokevirtual 220, 3, 113, 1, 10, 1273) := by decide +kernel
theorem tX9_line_5 : gAt mX9_line 5 = some (.ifCond .ne 11, 3, 16, 0, 0, 0) := by decide +kernel
theorem tX9_line_8 : gAt mX9_line 8 = some (.aload_n 0, 1, 0, 0, 0, 0) := by decide +kernel
theorem tX9_line_9 : gAt mX9_line 9 = some (.iconst 1, 1, 1, 0, 0, 0) := by decide +kernel
theorem tX9_line_10 : gAt mX9_line 10 = some (.invokevirtual 216, 3, 111, 1, 10, 1277) := by decide +kernel
theorem tX9_line_13 : gAt mX9_line 13 = some (.goto 22, 3, 35, 0, 0, 0) := by decide +kernel
theorem tX9_line_16 : gAt mX9_line 16 = some (.aload_n 0, 1, 0, 0, 0, 0) := by decide +kernel
theorem tX9_line_17 : gAt mX9_line 17 = some (.getfield 42, 3, 10, 10, 2, 1049) := by decide +kernel
theorem tX9_line_20 : gAt mX9_line 20 = some (.aload_n 0, 1, 0, 0, 0, 0) := by decide +kernel
theorem tX9_line_21 : gAt mX9_line 21 = some (.getfield 226, 3, 10, 16, 0, 1055) := by decide +kernel
theorem tX9_line_24 : gAt mX9_line 24 = some (.iaload, 1, 112, 0, 0, 0) := by decide +kernel
theorem tX9_line_25 : gAt mX9_line 25 = some (.bipush 16, 2, 16, 0, 0, 0) := by decide +kernel
theorem tX9_line_27 : gAt mX9_line 27 = some (.if_icmp .ne 8, 3, 35, 0, 0, 0) := by decide +kernel
theorem tX9_line_30 : gAt mX9_line 30 = some (.aload_n 0, 1, 0, 0, 0, 0) := by decide +kernel
theorem tX9_line_31 : gAt mX9_line 31 = some (.iconst 5, 1, 5, 0, 0, 0) := by decide +kernel
theorem tX9_line_32 : gAt mX9_line 32 = some (.invokevirtual 216, 3, 111, 1, 10, 1277) := by decide +kernel
theorem tX9_line_35 : gAt mX9_line 35 = some (.aload_n 0, 1, 0, 0, 0, 0) := by decide +kernel
theorem tX9_line_36 : gAt mX9_line 36 = some (.getfield 210, 3, 10, 8, 0, 1047) := by decide +kernel
theorem tX9_line_39 : gAt mX9_line 39 = some (.ifCond .le 4, 3, 43, 0, 0, 0) := by decide +kernel
theorem tX9_line_42 : gAt mX9_line 42 = some (.return_, 1, 0, 0, 0, 0) := by decide +kernel
theorem tX9_line_43 : gAt mX9_line 43 = some (.aload_n 0, 1, 0, 0, 0, 0) := by decide +kernel
theorem tX9_line_44 : gAt mX9_line 44 = some (.dup, 1, 0, 0, 0, 0) := by decide +kernel
theorem tX9_line_45 : gAt mX9_line 45 = some (.getfield 207, 3, 10, 7, 0, 1046) := by decide +kernel
theorem tX9_line_48 : gAt mX9_line 48 = some (.iconst 1, 1, 1, 0, 0, 0) := by decide +kernel
theorem tX9_line_49 : gAt mX9_line 49 = some (.iadd, 1, 0, 0, 0, 0) := by decide +kernel
theorem tX9_line_50 : gAt mX9_line 50 = some (.putfield 207, 3, 10, 7, 0, 1046) := by decide +kernel
theorem tX9_line_53 : gAt mX9_line 53 = some (.bipush 16, 2, 16, 0, 0, 0) := by decide +kernel
theorem tX9_line_55 : gAt mX9_line 55 = some (.aload_n 0, 1, 0, 0, 0, 0) := by decide +kernel
theorem tX9_line_56 : gAt mX9_line 56 = some (.getfield 226, 3, 10, 16, 0, 1055) := by decide +kernel
theorem tX9_line_59 : gAt mX9_line 59 = some (.imul, 1, 0, 0, 0, 0) := by decide +kernel
theorem tX9_line_60 : gAt mX9_line 60 = some (.aload_n 0, 1, 0, 0, 0, 0) := by decide +kernel
theorem tX9_line_61 : gAt mX9_line 61 = some (.getfield 42, 3, 10, 10, 2, 1049) := by decide +kernel
theorem tX9_line_64 : gAt mX9_line 64 = some (.aload_n 0, 1, 0, 0, 0, 0) := by decide +kernel
theorem tX9_line_65 : gAt mX9_line 65 = some (.getfield 226, 3, 10, 16, 0, 1055) := by decide +kernel
theorem tX9_line_68 : gAt mX9_line 68 = some (.iaload, 1, 112, 0, 0, 0) := by decide +kernel
theorem tX9_line_69 : gAt mX9_line 69 = some (.iadd, 1, 0, 0, 0, 0) := by decide +kernel
theorem tX9_line_70 : gAt mX9_line 70 = some (.istore_n 1, 1, 0, 0, 0, 0) := by decide +kernel
theorem tX9_line_71 : gAt mX9_line 71 = some (.aload_n 0, 1, 0, 0, 0, 0) := by decide +kernel
theorem tX9_line_72 : gAt mX9_line 72 = some (.getfield 13, 3, 10, 4, 2, 1043) := by decide +kernel
theorem tX9_line_75 : gAt mX9_line 75 = some (.aload_n 0, 1, 0, 0, 0, 0) := by decide +kernel
theorem tX9_line_76 : gAt mX9_line 76 = some (.getfield 207, 3, 10, 7, 0, 1046) := by decide +kernel
theorem tX9_line_79 : gAt mX9_line 79 = some (.iaload, 1, 112, 0, 0, 0) := by decide +kernel
theorem tX9_line_80 : gAt mX9_line 80 = some (.iconst 2, 1, 2, 0, 0, 0) := by decide +kernel
theorem tX9_line_81 : gAt mX9_line 81 = some (.if_icmp .eq 11, 3, 92, 0, 0, 0) := by decide +kernel
theorem tX9_line_84 : gAt mX9_line 84 = some (.aload_n 0, 1, 0, 0, 0, 0) := by decide +kernel
theorem tX9_line_85 : gAt mX9_line 85 = some (.iconst 1, 1, 1, 0, 0, 0) := by decide +kernel
theorem tX9_line_86 : gAt mX9_line 86 = some (.invokevirtual 216, 3, 111, 1, 10, 1277) := by decide +kernel
theorem tX9_line_89 : gAt mX9_line 89 = some (.goto 24, 3, 113, 0, 0, 0) := by decide +kernel
theorem tX9_line_92 : gAt mX9_line 92 = some (.aload_n 0, 1, 0, 0, 0, 0) := by decide +kernel
theorem tX9_line_93 : gAt mX9_line 93 = some (.getfield 19, 3, 10, 6, 2, 1045) := by decide +kernel
theorem tX9_line_96 : gAt mX9_line 96 = some (.aload_n 0, 1, 0, 0, 0, 0) := by decide +kernel
theorem tX9_line_97 : gAt mX9_line 97 = some (.getfield 207, 3, 10, 7, 0, 1046) := by decide +kernel
theorem tX9_line_100 : gAt mX9_line 100 = some (.laload, 1, 113, 0, 0, 0) := by decide +kernel
theorem tX9_line_101 : gAt mX9_line 101 = some (.ldc2_w 241, 3, 9, 0, 0, 1281) := by decide +kernel
theorem tX9_line_104 : gAt mX9_line 104 = some (.lcmp, 1, 0, 0, 0, 0) := by decide +kernel
theorem tX9_line_105 : gAt mX9_line 105 = some (.ifCond .le 8, 3, 113, 0, 0, 0) := by decide +kernel
theorem tX9_line_108 : gAt mX9_line 108 = some (.aload_n 0, 1, 0, 0, 0, 0) := by decide +kernel
theorem tX9_line_109 : gAt mX9_line 109 = some (.iconst 4, 1, 4, 0, 0, 0) := by decide +kernel
theorem tX9_line_110 : gAt mX9_line 110 = some (.invokevirtual 216, 3, 111, 1, 10, 1277) := by decide +kernel
theorem tX9_line_113 : gAt mX9_line 113 = some (.aload_n 0, 1, 0, 0, 0, 0) := by decide +kernel
theorem tX9_line_114 : gAt mX9_line 114 = some (.getfield 45, 3, 10, 11, 2, 1050) := by decide +kernel
theorem tX9_line_117 : gAt mX9_line 117 = some (.iload_n 1, 1, 0, 0, 0, 0) := by decide +kernel
theorem tX9_line_118 : gAt mX9_line 118 = some (.aload_n 0, 1, 0, 0, 0, 0) := by decide +kernel
theorem tX9_line_119 : gAt mX9_line 119 = some (.getfield 210, 3, 10, 8, 0, 1047) := by decide +kernel
theorem tX9_line_122 : gAt mX9_line 122 = some (.ifCond .le 7, 3, 129, 0, 0, 0) := by decide +kernel
theorem tX9_line_125 : gAt mX9_line 125 = some (.iconst 0, 1, 0, 0, 0, 0) := by decide +kernel
theorem tX9_line_126 : gAt mX9_line 126 = some (.goto 13, 3, 139, 0, 0, 0) := by decide +kernel
theorem tX9_line_129 : gAt mX9_line 129 = some (.aload_n 0, 1, 0, 0, 0, 0) := by decide +kernel
theorem tX9_line_130 : gAt mX9_line 130 = some (.getfield 19, 3, 10, 6, 2, 1045) := by decide +kernel
theorem tX9_line_133 : gAt mX9_line 133 = some (.aload_n 0, 1, 0, 0, 0, 0) := by decide +kernel
theorem tX9_line_134 : gAt mX9_line 134 = some (.getfield 207, 3, 10, 7, 0, 1046) := by decide +kernel
theorem tX9_line_137 : gAt mX9_line 137 = some (.laload, 1, 113, 0, 0, 0) := by decide +kernel
theorem tX9_line_138 : gAt mX9_line 138 = some (.l2i, 1, 0, 0, 0, 0) := by decide +kernel
theorem tX9_line_139 : gAt mX9_line 139 = some (.iastore, 1, 112, 0, 0, 0) := by decide +kernel
theorem tX9_line_140 : gAt mX9_line 140 = some (.aload_n 0, 1, 0, 0, 0, 0) := by decide +kernel
theorem tX9_line_141 : gAt mX9_line 141 = some (.dup, 1, 0, 0, 0, 0) := by decide +kernel
theorem tX9_line_142 : gAt mX9_line 142 = some (.getfield 207, 3, 10, 7, 0, 1046) := by decide +kernel
theorem tX9_line_145 : gAt mX9_line 145 = some (.iconst 1, 1, 1, 0, 0, 0) := by decide +kernel
theorem tX9_line_146 : gAt mX9_line 146 = some (.iadd, 1, 0, 0, 0, 0) := by decide +kernel
theorem tX9_line_147 : gAt mX9_line 147 = some (.putfield 207, 3, 10, 7, 0, 1046) := by decide +kernel
theorem tX9_line_150 : gAt mX9_line 150 = some (.aload_n 0, 1, 0, 0, 0, 0) := by decide +kernel
theorem tX9_line_151 : gAt mX9_line 151 = some (.iconst 1, 1, 1, 0, 0, 0) := by decide +kernel
theorem tX9_line_152 : gAt mX9_line 152 = some (.invokevirtual 243, 3, 117, 1, 10, 1282) := by decide +kernel
theorem tX9_line_155 : gAt mX9_line 155 = some (.aload_n 0, 1, 0, 0, 0, 0) := by decide +kernel
theorem tX9_line_156 : gAt mX9_line 156 = some (.getfield 48, 3, 10, 12, 2, 1051) := by decide +kernel
theorem tX9_line_159 : gAt mX9_line 159 = some (.iload_n 1, 1, 0, 0, 0, 0) := by decide +kernel
theorem tX9_line_160 : gAt mX9_line 160 = some (.sipush 660, 3, 660, 0, 0, 0) := by decide +kernel
theorem tX9_line_163 : gAt mX9_line 163 = some (.aload_n 0, 1, 0, 0, 0, 0) := by decide +kernel
theorem tX9_line_164 : gAt mX9_line 164 = some (.getfield 226, 3, 10, 16, 0, 1055) := by decide +kernel
theorem tX9_line_167 : gAt mX9_line 167 = some (.imul, 1, 0, 0, 0, 0) := by decide +kernel
theorem tX9_line_168 : gAt mX9_line 168 = some (.aload_n 0, 1, 0, 0, 0, 0) := by decide +kernel
theorem tX9_line_169 : gAt mX9_line 169 = some (.getfield 229, 3, 10, 17, 0, 1056) := by decide +kernel
theorem tX9_line_172 : gAt mX9_line 172 = some (.iadd, 1, 0, 0, 0, 0) := by decide +kernel
theorem tX9_line_173 : gAt mX9_line 173 = some (.iastore, 1, 112, 0, 0, 0) := by decide +kernel
theorem tX9_line_174 : gAt mX9_line 174 = some (.aload_n 0, 1, 0, 0, 0, 0) := by decide +kernel
theorem tX9_line_175 : gAt mX9_line 175 = some (.iconst 0, 1, 0, 0, 0, 0) := by decide +kernel
theorem tX9_line_176 : gAt mX9_line 176 = some (.putfield 246, 3, 10, 18, 0, 1057) := by decide +kernel
theorem tX9_line_179 : gAt mX9_line 179 = some (.aload_n 0, 1, 0, 0, 0, 0) := by decide +kernel
theorem tX9_line_180 : gAt mX9_line 180 = some (.invokevirtual 249, 3, 121, 0, 10, 1290) := by decide +kernel
theorem tX9_line_183 : gAt mX9_line 183 = some (.iconst 1, 1, 1, 0, 0, 0) := by decide +kernel
theorem tX9_line_184 : gAt mX9_line 184 = some (.istore_n 2, 1, 0, 0, 0, 0) := by decide +kernel
theorem tX9_line_185 : gAt mX9_line 185 = some (.iload_n 2, 1, 0, 0, 0, 0) := by decide +kernel
theorem tX9_line_186 : gAt mX9_line 186 = some (.ifCond .eq 33, 3, 219, 0, 0, 0) := by decide +kernel
theorem tX9_line_189 : gAt mX9_line 189 = some (.aload_n 0, 1, 0, 0, 0, 0) := by decide +kernel
theorem tX9_line_190 : gAt mX9_line 190 = some (.getfield 210, 3, 10, 8, 0, 1047) := by decide +kernel
theorem tX9_line_193 : gAt mX9_line 193 = some (.ifCond .ne 26, 3, 219, 0, 0, 0) := by decide +kernel
theorem tX9_line_196 : gAt mX9_line 196 = some (.aload_n 0, 1, 0, 0, 0, 0) := by decide +kernel
theorem tX9_line_197 : gAt mX9_line 197 = some (.invokevirtual 252, 3, 123, 0, 10, 1294) := by decide +kernel
theorem tX9_line_200 : gAt mX9_line 200 = some (.ifCond .ne 10, 3, 210, 0, 0, 0) := by decide +kernel
theorem tX9_line_203 : gAt mX9_line 203 = some (.aload_n 0, 1, 0, 0, 0, 0) := by decide +kernel
theorem tX9_line_204 : gAt mX9_line 204 = some (.invokevirtual 256, 3, 124, 0, 10, 1314) := by decide +kernel
theorem tX9_line_207 : gAt mX9_line 207 = some (.ifCond .eq 7, 3, 214, 0, 0, 0) := by decide +kernel
theorem tX9_line_210 : gAt mX9_line 210 = some (.iconst 1, 1, 1, 0, 0, 0) := by decide +kernel
theorem tX9_line_211 : gAt mX9_line 211 = some (.goto 4, 3, 215, 0, 0, 0) := by decide +kernel
theorem tX9_line_214 : gAt mX9_line 214 = some (.iconst 0, 1, 0, 0, 0, 0) := by decide +kernel
theorem tX9_line_215 : gAt mX9_line 215 = some (.istore_n 2, 1, 0, 0, 0, 0) := by decide +kernel
theorem tX9_line_216 : gAt mX9_line 216 = some (.goto (-31), 3, 185, 0, 0, 0) := by decide +kernel
theorem tX9_line_219 : gAt mX9_line 219 = some (.aload_n 0, 1, 0, 0, 0, 0) := by decide +kernel
theorem tX9_line_220 : gAt mX9_line 220 = some (.iconst 0, 1, 0, 0, 0, 0) := by decide +kernel
theorem tX9_line_221 : gAt mX9_line 221 = some (.iconst 0, 1, 0, 0, 0, 0) := by decide +kernel
theorem tX9_line_222 : gAt mX9_line 222 = some (.invokevirtual 259, 3, 118, 2, 10, 1310) := by decide +kernel
theorem tX9_line_225 : gAt mX9_line 225 = some (.aload_n 0, 1, 0, 0, 0, 0) := by decide +kernel
theorem tX9_line_226 : gAt mX9_line 226 = some (.bipush 59, 2, 59, 0, 0, 0) := by decide +kernel
theorem tX9_line_228 : gAt mX9_line 228 = some (.invokevirtual 263, 3, 114, 1, 10, 1318) := by decide +kernel
theorem tX9_line_231 : gAt mX9_line 231 = some (.aload_n 0, 1, 0, 0, 0, 0) := by decide +kernel
theorem tX9_line_232 : gAt mX9_line 232 = some (.getfield 42, 3, 10, 10, 2, 1049) := by decide +kernel
theorem tX9_line_235 : gAt mX9_line 235 = some (.aload_n 0, 1, 0, 0, 0, 0) := by decide +kernel
theorem tX9_line_236 : gAt mX9_line 236 = some (.getfield 226, 3, 10, 16, 0, 1055) := by decide +kernel
theorem tX9_line_239 : gAt mX9_line 239 = some (.dup2, 1, 0, 0, 0, 0) := by decide +kernel
theorem tX9_line_240 : gAt mX9_line 240 = some (.iaload, 1, 112, 0, 0, 0) := by decide +kernel
theorem tX9_line_241 : gAt mX9_line 241 = some (.iconst 1, 1, 1, 0, 0, 0) := by decide +kernel
theorem tX9_line_242 : gAt mX9_line 242 = some (.iadd, 1, 0, 0, 0, 0) := by decide +kernel
theorem tX9_line_243 : gAt mX9_line 243 = some (.iastore, 1, 112, 0, 0, 0) := by decide +kernel
theorem tX9_line_244 : gAt mX9_line 244 = some (.return_, 1, 0, 0, 0, 0) := by decide +kernel
set_option maxRecDepth 100000 in
theorem okX9_opens : (gTb mX9_opens).all (okE gF gNM mX9_opens) = true := by decide +kernel
theorem pnX9_opens : plainName (gY mX9_opens).cls = true := by decide +kernel
theorem tX9_opens_0 : gAt mX9_opens 0 = some (.aload_n 0, 1, 0, 0, 0, 0) := by decide +kernel
theorem tX9_opens_1 : gAt mX9_opens 1 = some (.getfield 57, 3, 10, 19, 2, 1058) := by decide +kernel
theorem tX9_opens_4 : gAt mX9_opens 4 = some (.aload_n 0, 1, 0, 0, 0, 0) := by decide +kernel
theorem tX9_opens_5 : gAt mX9_opens 5 = some (.getfield 246, 3, 10, 18, 0, 1057) := by decide +kernel
theorem tX9_opens_8 : gAt mX9_opens 8 = some (.iconst 0, 1, 0, 0, 0, 0) := by decide +kernel
theorem tX9_opens_9 : gAt mX9_opens 9 = some (.iastore, 1, 112, 0, 0, 0) := by decide +kernel
theorem tX9_opens_10 : gAt mX9_opens 10 = some (.aload_n 0, 1, 0, 0, 0, 0) := by decide +kernel
theorem tX9_opens_11 : gAt mX9_opens 11 = some (.getfield 60, 3, 10, 20, 2, 1059) := by decide +kernel
theorem tX9_opens_14 : gAt mX9_opens 14 = some (.aload_n 0, 1, 0, 0, 0, 0) := by decide +kernel
theorem tX9_opens_15 : gAt mX9_opens 15 = some (.getfield 246, 3, 10, 18, 0, 1057) := by decide +kernel
theorem tX9_opens_18 : gAt mX9_opens 18 = some (.iconst 0, 1, 0, 0, 0, 0) := by decide +kernel
theorem tX9_opens_19 : gAt mX9_opens 19 = some (.iastore, 1, 112, 0, 0, 0) := by decide +kernel
theorem tX9_opens_20 : gAt mX9_opens 20 = some (.aload_n 0, 1, 0, 0, 0, 0) := by decide +kernel
theorem tX9_opens_21 : gAt mX9_opens 21 = some (.getfield 63, 3, 10, 21, 2, 1060) := by decide +kernel
theorem tX9_opens_24 : gAt mX9_opens 24 = some (.aload_n 0, 1, 0, 0, 0, 0) := by decide +kernel
theorem tX9_opens_25 : gAt mX9_opens 25 = some (.getfield 246, 3, 10, 18, 0, 1057) := by decide +kernel
theorem tX9_opens_28 : gAt mX9_opens 28 = some (.iconst 0, 1, 0, 0, 0, 0) := by decide +kernel
theorem tX9_opens_29 : gAt mX9_opens 29 = some (.iastore, 1, 112, 0, 0, 0) := by decide +kernel
theorem tX9_opens_30 : gAt mX9_opens 30 = some (.return_, 1, 0, 0, 0, 0) := by decide +kernel
set_option maxRecDepth 100000 in
theorem okX9_partWord : (gTb mX9_partWord).all (okE gF gNM mX9_partWord) = true := by decide +kernel
theorem pnX9_partWord : plainName (gY mX9_partWord).cls = true := by decide +kernel
theorem tX9_partWord_0 : gAt mX9_partWord 0 = some (.iconst 0, 1, 0, 0, 0, 0) := by decide +kernel
theorem tX9_partWord_1 : gAt mX9_partWord 1 = some (.istore_n 1, 1, 0, 0, 0, 0) := by decide +kernel
theorem tX9_partWord_2 : gAt mX9_partWord 2 = some (.iload_n 1, 1, 0, 0, 0, 0) := by decide +kernel
theorem tX9_partWord_3 : gAt mX9_partWord 3 = some (.iconst 5, 1, 5, 0, 0, 0) := by decide +kernel
theorem tX9_partWord_4 : gAt mX9_partWord 4 = some (.if_icmp .ge 21, 3, 25, 0, 0, 0) := by decide +kernel
theorem tX9_partWord_7 : gAt mX9_partWord 7 = some (.aload_n 0, 1, 0, 0, 0, 0) := by decide +kernel
theorem tX9_partWord_8 : gAt mX9_partWord 8 = some (.iconst 3, 1, 3, 0, 0, 0) := by decide +kernel
theorem tX9_partWord_9 : gAt mX9_partWord 9 = some (.iload_n 1, 1, 0, 0, 0, 0) := by decide +kernel
theorem tX9_partWord_10 : gAt mX9_partWord 10 = some (.iadd, 1, 0, 0, 0, 0) := by decide +kernel
theorem tX9_partWord_11 : gAt mX9_partWord 11 = some (.invokevirtual 220, 3, 113, 1, 10, 1273) := by decide +kernel
theorem tX9_partWord_14 : gAt mX9_partWord 14 = some (.ifCond .eq 5, 3, 19, 0, 0, 0) := by decide +kernel
theorem tX9_partWord_17 : gAt mX9_partWord 17 = some (.iload_n 1, 1, 0, 0, 0, 0) := by decide +kernel
theorem tX9_partWord_18 : gAt mX9_partWord 18 = some (.ireturn, 1, 0, 0, 0, 0) := by decide +kernel
theorem tX9_partWord_19 : gAt mX9_partWord 19 = some (.iinc 1 1, 3, 1, 0, 0, 0) := by decide +kernel
theorem tX9_partWord_22 : gAt mX9_partWord 22 = some (.goto (-20), 3, 2, 0, 0, 0) := by decide +kernel
theorem tX9_partWord_25 : gAt mX9_partWord 25 = some (.iconst (-1), 1, 1, 1, 0, 0) := by decide +kernel
theorem tX9_partWord_26 : gAt mX9_partWord 26 = some (.ireturn, 1, 0, 0, 0, 0) := by decide +kernel
set_option maxRecDepth 100000 in
theorem okX9_part : (gTb mX9_part).all (okE gF gNM mX9_part) = true := by decide +kernel
theorem pnX9_part : plainName (gY mX9_part).cls = true := by decide +kernel
theorem tX9_part_0 : gAt mX9_part 0 = some (.aload_n 0, 1, 0, 0, 0, 0) := by decide +kernel
theorem tX9_part_1 : gAt mX9_part 1 = some (.invokevirtual 266, 3, 122, 0, 10, 1298) := by decide +kernel
theorem tX9_part_4 : gAt mX9_part 4 = some (.istore_n 1, 1, 0, 0, 0, 0) := by decide +kernel
theorem tX9_part_5 : gAt mX9_part 5 = some (.aload_n 0, 1, 0, 0, 0, 0) := by decide +kernel
theorem tX9_part_6 : gAt mX9_part 6 = some (.getfield 210, 3, 10, 8, 0, 1047) := by decide +kernel
theorem tX9_part_9 : gAt mX9_part 9 = some (.ifCond .ne 37, 3, 46, 0, 0, 0) := by decide +kernel
theorem tX9_part_12 : gAt mX9_part 12 = some (.aload_n 0, 1, 0, 0, 0, 0) := by decide +kernel
theorem tX9_part_13 : gAt mX9_part 13 = some (.getfield 13, 3, 10, 4, 2, 1043) := by decide +kernel
theorem tX9_part_16 : gAt mX9_part 16 = some (.aload_n 0, 1, 0, 0, 0, 0) := by decide +kernel
theorem tX9_part_17 : gAt mX9_part 17 = some (.getfield 207, 3, 10, 7, 0, 1046) := by decide +kernel
theorem tX9_part_20 : gAt mX9_part 20 = some (.iaload, 1, 112, 0, 0, 0) := by decide +kernel
theorem tX9_part_21 : gAt mX9_part 21 = some (.iconst 2, 1, 2, 0, 0, 0) := by decide +kernel
theorem tX9_part_22 : gAt mX9_part 22 = some (.if_icmp .eq 24, 3, 46, 0, 0, 0) := by decide +kernel
theorem tX9_part_25 : gAt mX9_part 25 = some (.aload_n 0, 1, 0, 0, 0, 0) := by decide +kernel
theorem tX9_part_26 : gAt mX9_part 26 = some (.bipush 40, 2, 40, 0, 0, 0) := by decide +kernel
theorem tX9_part_28 : gAt mX9_part 28 = some (.invokevirtual 213, 3, 112, 1, 10, 1302) := by decide +kernel
theorem tX9_part_31 : gAt mX9_part 31 = some (.ifCond .ne 15, 3, 46, 0, 0, 0) := by decide +kernel
theorem tX9_part_34 : gAt mX9_part 34 = some (.iload_n 1, 1, 0, 0, 0, 0) := by decide +kernel
theorem tX9_part_35 : gAt mX9_part 35 = some (.ifCond .ge 11, 3, 46, 0, 0, 0) := by decide +kernel
theorem tX9_part_38 : gAt mX9_part 38 = some (.aload_n 0, 1, 0, 0, 0, 0) := by decide +kernel
theorem tX9_part_39 : gAt mX9_part 39 = some (.iconst 1, 1, 1, 0, 0, 0) := by decide +kernel
theorem tX9_part_40 : gAt mX9_part 40 = some (.invokevirtual 216, 3, 111, 1, 10, 1277) := by decide +kernel
theorem tX9_part_43 : gAt mX9_part 43 = some (.goto 16, 3, 59, 0, 0, 0) := by decide +kernel
theorem tX9_part_46 : gAt mX9_part 46 = some (.aload_n 0, 1, 0, 0, 0, 0) := by decide +kernel
theorem tX9_part_47 : gAt mX9_part 47 = some (.getfield 246, 3, 10, 18, 0, 1057) := by decide +kernel
theorem tX9_part_50 : gAt mX9_part 50 = some (.iconst 5, 1, 5, 0, 0, 0) := by decide +kernel
theorem tX9_part_51 : gAt mX9_part 51 = some (.if_icmp .ne 8, 3, 59, 0, 0, 0) := by decide +kernel
theorem tX9_part_54 : gAt mX9_part 54 = some (.aload_n 0, 1, 0, 0, 0, 0) := by decide +kernel
theorem tX9_part_55 : gAt mX9_part 55 = some (.iconst 5, 1, 5, 0, 0, 0) := by decide +kernel
theorem tX9_part_56 : gAt mX9_part 56 = some (.invokevirtual 216, 3, 111, 1, 10, 1277) := by decide +kernel
theorem tX9_part_59 : gAt mX9_part 59 = some (.aload_n 0, 1, 0, 0, 0, 0) := by decide +kernel
theorem tX9_part_60 : gAt mX9_part 60 = some (.getfield 210, 3, 10, 8, 0, 1047) := by decide +kernel
theorem tX9_part_63 : gAt mX9_part 63 = some (.ifCond .le 5, 3, 68, 0, 0, 0) := by decide +kernel
theorem tX9_part_66 : gAt mX9_part 66 = some (.iconst 0, 1, 0, 0, 0, 0) := by decide +kernel
theorem tX9_part_67 : gAt mX9_part 67 = some (.ireturn, 1, 1, 0, 0, 0) := by decide +kernel
theorem tX9_part_68 : gAt mX9_part 68 = some (.aload_n 0, 1, 0, 0, 0, 0) := by decide +kernel
theorem tX9_part_69 : gAt mX9_part 69 = some (.bipush 40, 2, 40, 0, 0, 0) := by decide +kernel
theorem tX9_part_71 : gAt mX9_part 71 = some (.invokevirtual 270, 3, 115, 1, 10, 1306) := by decide +kernel
theorem tX9_part_74 : gAt mX9_part 74 = some (.ifCond .eq 19, 3, 93, 0, 0, 0) := by decide +kernel
theorem tX9_part_77 : gAt mX9_part 77 = some (.aload_n 0, 1, 0, 0, 0, 0) := by decide +kernel
theorem tX9_part_78 : gAt mX9_part 78 = some (.dup, 1, 0, 0, 0, 0) := by decide +kernel
theorem tX9_part_79 : gAt mX9_part 79 = some (.getfield 246, 3, 10, 18, 0, 1057) := by decide +kernel
theorem tX9_part_82 : gAt mX9_part 82 = some (.iconst 1, 1, 1, 0, 0, 0) := by decide +kernel
theorem tX9_part_83 : gAt mX9_part 83 = some (.iadd, 1, 0, 0, 0, 0) := by decide +kernel
theorem tX9_part_84 : gAt mX9_part 84 = some (.putfield 246, 3, 10, 18, 0, 1057) := by decide +kernel
theorem tX9_part_87 : gAt mX9_part 87 = some (.aload_n 0, 1, 0, 0, 0, 0) := by decide +kernel
theorem tX9_part_88 : gAt mX9_part 88 = some (.invokevirtual 249, 3, 121, 0, 10, 1290) := by decide +kernel
theorem tX9_part_91 : gAt mX9_part 91 = some (.iconst 1, 1, 1, 0, 0, 0) := by decide +kernel
theorem tX9_part_92 : gAt mX9_part 92 = some (.ireturn, 1, 1, 0, 0, 0) := by decide +kernel
theorem tX9_part_93 : gAt mX9_part 93 = some (.aload_n 0, 1, 0, 0, 0, 0) := by decide +kernel
theorem tX9_part_94 : gAt mX9_part 94 = some (.iload_n 1, 1, 0, 0, 0, 0) := by decide +kernel
theorem tX9_part_95 : gAt mX9_part 95 = some (.ifCond .ge 7, 3, 102, 0, 0, 0) := by decide +kernel
theorem tX9_part_98 : gAt mX9_part 98 = some (.iconst 1, 1, 1, 0, 0, 0) := by decide +kernel
theorem tX9_part_99 : gAt mX9_part 99 = some (.goto 4, 3, 103, 0, 0, 0) := by decide +kernel
theorem tX9_part_102 : gAt mX9_part 102 = some (.iconst 2, 1, 2, 0, 0, 0) := by decide +kernel
theorem tX9_part_103 : gAt mX9_part 103 = some (.iload_n 1, 1, 0, 0, 0, 0) := by decide +kernel
theorem tX9_part_104 : gAt mX9_part 104 = some (.ifCond .ge 16, 3, 120, 0, 0, 0) := by decide +kernel
theorem tX9_part_107 : gAt mX9_part 107 = some (.aload_n 0, 1, 0, 0, 0, 0) := by decide +kernel
theorem tX9_part_108 : gAt mX9_part 108 = some (.getfield 19, 3, 10, 6, 2, 1045) := by decide +kernel
theorem tX9_part_111 : gAt mX9_part 111 = some (.aload_n 0, 1, 0, 0, 0, 0) := by decide +kernel
theorem tX9_part_112 : gAt mX9_part 112 = some (.getfield 207, 3, 10, 7, 0, 1046) := by decide +kernel
theorem tX9_part_115 : gAt mX9_part 115 = some (.laload, 1, 113, 0, 0, 0) := by decide +kernel
theorem tX9_part_116 : gAt mX9_part 116 = some (.l2i, 1, 0, 0, 0, 0) := by decide +kernel
theorem tX9_part_117 : gAt mX9_part 117 = some (.goto 4, 3, 121, 0, 0, 0) := by decide +kernel
theorem tX9_part_120 : gAt mX9_part 120 = some (.iload_n 1, 1, 0, 0, 0, 0) := by decide +kernel
theorem tX9_part_121 : gAt mX9_part 121 = some (.invokevirtual 259, 3, 118, 2, 10, 1310) := by decide +kernel
theorem tX9_part_124 : gAt mX9_part 124 = some (.aload_n 0, 1, 0, 0, 0, 0) := by decide +kernel
theorem tX9_part_125 : gAt mX9_part 125 = some (.dup, 1, 0, 0, 0, 0) := by decide +kernel
theorem tX9_part_126 : gAt mX9_part 126 = some (.getfield 207, 3, 10, 7, 0, 1046) := by decide +kernel
theorem tX9_part_129 : gAt mX9_part 129 = some (.iconst 1, 1, 1, 0, 0, 0) := by decide +kernel
theorem tX9_part_130 : gAt mX9_part 130 = some (.iadd, 1, 0, 0, 0, 0) := by decide +kernel
theorem tX9_part_131 : gAt mX9_part 131 = some (.putfield 207, 3, 10, 7, 0, 1046) := by decide +kernel
theorem tX9_part_134 : gAt mX9_part 134 = some (.iconst 0, 1, 0, 0, 0, 0) := by decide +kernel
theorem tX9_part_135 : gAt mX9_part 135 = some (.ireturn, 1, 1, 0, 0, 0) := by decide +kernel
set_option maxRecDepth 100000 in
theorem okX9_goesOnBehind : (gTb mX9_goesOnBehind).all (okE gF gNM mX9_goesOnBehind) = true := by decide +kernel
theorem pnX9_goesOnBehind : plainName (gY mX9_goesOnBehind).cls = true := by decide +kernel
theorem tX9_goesOnBehind_0 : gAt mX9_goesOnBehind 0 = some (.aload_n 0, 1, 0, 0, 0, 0) := by decide +kernel
theorem tX9_goesOnBehind_1 : gAt mX9_goesOnBehind 1 = some (.getfield 210, 3, 10, 8, 0, 1047) := by decide +kernel
theorem tX9_goesOnBehind_4 : gAt mX9_goesOnBehind 4 = some (.ifCond .ne 273, 3, 277, 0, 0, 0) := by decide +kernel
theorem tX9_goesOnBehind_7 : gAt mX9_goesOnBehind 7 = some (.aload_n 0, 1, 0, 0, 0, 0) := by decide +kernel
theorem tX9_goesOnBehind_8 : gAt mX9_goesOnBehind 8 = some (.getfield 57, 3, 10, 19, 2, 1058) := by decide +kernel
theorem tX9_goesOnBehind_11 : gAt mX9_goesOnBehind 11 = some (.aload_n 0, 1, 0, 0, 0, 0) := by decide +kernel
theorem tX9_goesOnBehind_12 : gAt mX9_goesOnBehind 12 = some (.getfield 246, 3, 10, 18, 0, 1057) := by decide +kernel
theorem tX9_goesOnBehind_15 : gAt mX9_goesOnBehind 15 = some (.iaload, 1, 112, 0, 0, 0) := by decide +kernel
theorem tX9_goesOnBehind_16 : gAt mX9_goesOnBehind 16 = some (.ifCond .eq 27, 3, 43, 0, 0, 0) := by decide +kernel
theorem tX9_goesOnBehind_19 : gAt mX9_goesOnBehind 19 = some (.aload_n 0, 1, 0, 0, 0, 0) := by decide +kernel
theorem tX9_goesOnBehind_20 : gAt mX9_goesOnBehind 20 = some (.aload_n 0, 1, 0, 0, 0, 0) := by decide +kernel
theorem tX9_goesOnBehind_21 : gAt mX9_goesOnBehind 21 = some (.getfield 57, 3, 10, 19, 2, 1058) := by decide +kernel
theorem tX9_goesOnBehind_24 : gAt mX9_goesOnBehind 24 = some (.aload_n 0, 1, 0, 0, 0, 0) := by decide +kernel
theorem tX9_goesOnBehind_25 : gAt mX9_goesOnBehind 25 = some (.getfield 246, 3, 10, 18, 0, 1057) := by decide +kernel
theorem tX9_goesOnBehind_28 : gAt mX9_goesOnBehind 28 = some (.iaload, 1, 112, 0, 0, 0) := by decide +kernel
theorem tX9_goesOnBehind_29 : gAt mX9_goesOnBehind 29 = some (.iconst 0, 1, 0, 0, 0, 0) := by decide +kernel
theorem tX9_goesOnBehind_30 : gAt mX9_goesOnBehind 30 = some (.invokevirtual 259, 3, 118, 2, 10, 1310) := by decide +kernel
theorem tX9_goesOnBehind_33 : gAt mX9_goesOnBehind 33 = some (.aload_n 0, 1, 0, 0, 0, 0) := by decide +kernel
theorem tX9_goesOnBehind_34 : gAt mX9_goesOnBehind 34 = some (.getfield 57, 3, 10, 19, 2, 1058) := by decide +kernel
theorem tX9_goesOnBehind_37 : gAt mX9_goesOnBehind 37 = some (.aload_n 0, 1, 0, 0, 0, 0) := by decide +kernel
theorem tX9_goesOnBehind_38 : gAt mX9_goesOnBehind 38 = some (.getfield 246, 3, 10, 18, 0, 1057) := by decide +kernel
theorem tX9_goesOnBehind_41 : gAt mX9_goesOnBehind 41 = some (.iconst 0, 1, 0, 0, 0, 0) := by decide +kernel
theorem tX9_goesOnBehind_42 : gAt mX9_goesOnBehind 42 = some (.iastore, 1, 112, 0, 0, 0) := by decide +kernel
theorem tX9_goesOnBehind_43 : gAt mX9_goesOnBehind 43 = some (.aload_n 0, 1, 0, 0, 0, 0) := by decide +kernel
theorem tX9_goesOnBehind_44 : gAt mX9_goesOnBehind 44 = some (.bipush 43, 2, 43, 0, 0, 0) := by decide +kernel
theorem tX9_goesOnBehind_46 : gAt mX9_goesOnBehind 46 = some (.invokevirtual 213, 3, 112, 1, 10, 1302) := by decide +kernel
theorem tX9_goesOnBehind_49 : gAt mX9_goesOnBehind 49 = some (.ifCond .ne 12, 3, 61, 0, 0, 0) := by decide +kernel
theorem tX9_goesOnBehind_52 : gAt mX9_goesOnBehind 52 = some (.aload_n 0, 1, 0, 0, 0, 0) := by decide +kernel
theorem tX9_goesOnBehind_53 : gAt mX9_goesOnBehind 53 = some (.bipush 45, 2, 45, 0, 0, 0) := by decide +kernel
theorem tX9_goesOnBehind_55 : gAt mX9_goesOnBehind 55 = some (.invokevirtual 213, 3, 112, 1, 10, 1302) := by decide +kernel
theorem tX9_goesOnBehind_58 : gAt mX9_goesOnBehind 58 = some (.ifCond .eq 38, 3, 96, 0, 0, 0) := by decide +kernel
theorem tX9_goesOnBehind_61 : gAt mX9_goesOnBehind 61 = some (.aload_n 0, 1, 0, 0, 0, 0) := by decide +kernel
theorem tX9_goesOnBehind_62 : gAt mX9_goesOnBehind 62 = some (.getfield 57, 3, 10, 19, 2, 1058) := by decide +kernel
theorem tX9_goesOnBehind_65 : gAt mX9_goesOnBehind 65 = some (.aload_n 0, 1, 0, 0, 0, 0) := by decide +kernel
theorem tX9_goesOnBehind_66 : gAt mX9_goesOnBehind 66 = some (.getfield 246, 3, 10, 18, 0, 1057) := by decide +kernel
theorem tX9_goesOnBehind_69 : gAt mX9_goesOnBehind 69 = some (.aload_n 0, 1, 0, 0, 0, 0) := by decide +kernel
theorem tX9_goesOnBehind_70 : gAt mX9_goesOnBehind 70 = some (.bipush 43, 2, 43, 0, 0, 0) := by decide +kernel
theorem tX9_goesOnBehind_72 : gAt mX9_goesOnBehind 72 = some (.invokevirtual 213, 3, 112, 1, 10, 1302) := by decide +kernel
theorem tX9_goesOnBehind_75 : gAt mX9_goesOnBehind 75 = some (.ifCond .eq 7, 3, 82, 0, 0, 0) := by decide +kernel
theorem tX9_goesOnBehind_78 : gAt mX9_goesOnBehind 78 = some (.iconst 3, 1, 3, 0, 0, 0) := by decide +kernel
theorem tX9_goesOnBehind_79 : gAt mX9_goesOnBehind 79 = some (.goto 4, 3, 83, 0, 0, 0) := by decide +kernel
theorem tX9_goesOnBehind_82 : gAt mX9_goesOnBehind 82 = some (.iconst 4, 1, 4, 0, 0, 0) := by decide +kernel
theorem tX9_goesOnBehind_83 : gAt mX9_goesOnBehind 83 = some (.iastore, 1, 112, 0, 0, 0) := by decide +kernel
theorem tX9_goesOnBehind_84 : gAt mX9_goesOnBehind 84 = some (.aload_n 0, 1, 0, 0, 0, 0) := by decide +kernel
theorem tX9_goesOnBehind_85 : gAt mX9_goesOnBehind 85 = some (.dup, 1, 0, 0, 0, 0) := by decide +kernel
theorem tX9_goesOnBehind_86 : gAt mX9_goesOnBehind 86 = some (.getfield 207, 3, 10, 7, 0, 1046) := by decide +kernel
theorem tX9_goesOnBehind_89 : gAt mX9_goesOnBehind 89 = some (.iconst 1, 1, 1, 0, 0, 0) := by decide +kernel
theorem tX9_goesOnBehind_90 : gAt mX9_goesOnBehind 90 = some (.iadd, 1, 0, 0, 0, 0) := by decide +kernel
theorem tX9_goesOnBehind_91 : gAt mX9_goesOnBehind 91 = some (.putfield 207, 3, 10, 7, 0, 1046) := by decide +kernel
theorem tX9_goesOnBehind_94 : gAt mX9_goesOnBehind 94 = some (.iconst 1, 1, 1, 0, 0, 0) := by decide +kernel
theorem tX9_goesOnBehind_95 : gAt mX9_goesOnBehind 95 = some (.ireturn, 1, 1, 0, 0, 0) := by decide +kernel
theorem tX9_goesOnBehind_96 : gAt mX9_goesOnBehind 96 = some (.aload_n 0, 1, 0, 0, 0, 0) := by decide +kernel
theorem tX9_goesOnBehind_97 : gAt mX9_goesOnBehind 97 = some (.getfield 60, 3, 10, 20, 2, 1059) := by decide +kernel
theorem tX9_goesOnBehind_100 : gAt mX9_goesOnBehind 100 = some (.aload_n 0, 1, 0, 0, 0, 0) := by decide +kernel
theorem tX9_goesOnBehind_101 : gAt mX9_goesOnBehind 101 = some (.getfield 246, 3, 10, 18, 0, 1057) := by decide +kernel
theorem tX9_goesOnBehind_104 : gAt mX9_goesOnBehind 104 = some (.iaload, 1, 112, 0, 0, 0) := by decide +kernel
theorem tX9_goesOnBehind_105 : gAt mX9_goesOnBehind 105 = some (.ifCond .eq 30, 3, 135, 0, 0, 0) := by decide +kernel
theorem tX9_goesOnBehind_108 : gAt mX9_goesOnBehind 108 = some (.aload_n 0, 1, 0, 0, 0, 0) := by decide +kernel
theorem tX9_goesOnBehind_109 : gAt mX9_goesOnBehind 109 = some (.aload_n 0, 1, 0, 0, 0, 0) := by decide +kernel
theorem tX9_goesOnBehind_110 : gAt mX9_goesOnBehind 110 = some (.getfield 60, 3, 10, 20, 2, 1059) := by decide +kernel
theorem tX9_goesOnBehind_113 : gAt mX9_goesOnBehind 113 = some (.aload_n 0, 1, 0, 0, 0, 0) := by decide +kernel
theorem tX9_goesOnBehind_114 : gAt mX9_goesOnBehind 114 = some (.getfield 246, 3, 10, 18, 0, 1057) := by decide +kernel
theorem tX9_goesOnBehind_117 : gAt mX9_goesOnBehind 117 = some (.iaload, 1, 112, 0, 0, 0) := by decide +kernel
theorem tX9_goesOnBehind_118 : gAt mX9_goesOnBehind 118 = some (.iconst 0, 1, 0, 0, 0, 0) := by decide +kernel
theorem tX9_goesOnBehind_119 : gAt mX9_goesOnBehind 119 = some (.invokevirtual 259, 3, 118, 2, 10, 1310) := by decide +kernel
theorem tX9_goesOnBehind_122 : gAt mX9_goesOnBehind 122 = some (.aload_n 0, 1, 0, 0, 0, 0) := by decide +kernel
theorem tX9_goesOnBehind_123 : gAt mX9_goesOnBehind 123 = some (.getfield 60, 3, 10, 20, 2, 1059) := by decide +kernel
theorem tX9_goesOnBehind_126 : gAt mX9_goesOnBehind 126 = some (.aload_n 0, 1, 0, 0, 0, 0) := by decide +kernel
theorem tX9_goesOnBehind_127 : gAt mX9_goesOnBehind 127 = some (.getfield 246, 3, 10, 18, 0, 1057) := by decide +kernel
theorem tX9_goesOnBehind_130 : gAt mX9_goesOnBehind 130 = some (.iconst 0, 1, 0, 0, 0, 0) := by decide +kernel
theorem tX9_goesOnBehind_131 : gAt mX9_goesOnBehind 131 = some (.iastore, 1, 112, 0, 0, 0) := by decide +kernel
theorem tX9_goesOnBehind_132 : gAt mX9_goesOnBehind 132 = some (.goto 57, 3, 189, 0, 0, 0) := by decide +kernel
theorem tX9_goesOnBehind_135 : gAt mX9_goesOnBehind 135 = some (.aload_n 0, 1, 0, 0, 0, 0) := by decide +kernel
theorem tX9_goesOnBehind_136 : gAt mX9_goesOnBehind 136 = some (.bipush 60, 2, 60, 0, 0, 0) := by decide +kernel
theorem tX9_goesOnBehind_138 : gAt mX9_goesOnBehind 138 = some (.invokevirtual 213, 3, 112, 1, 10, 1302) := by decide +kernel
theorem tX9_goesOnBehind_141 : gAt mX9_goesOnBehind 141 = some (.ifCond .ne 12, 3, 153, 0, 0, 0) := by decide +kernel
theorem tX9_goesOnBehind_144 : gAt mX9_goesOnBehind 144 = some (.aload_n 0, 1, 0, 0, 0, 0) := by decide +kernel
theorem tX9_goesOnBehind_145 : gAt mX9_goesOnBehind 145 = some (.bipush 61, 2, 61, 0, 0, 0) := by decide +kernel
theorem tX9_goesOnBehind_147 : gAt mX9_goesOnBehind 147 = some (.invokevirtual 213, 3, 112, 1, 10, 1302) := by decide +kernel
theorem tX9_goesOnBehind_150 : gAt mX9_goesOnBehind 150 = some (.ifCond .eq 39, 3, 189, 0, 0, 0) := by decide +kernel
theorem tX9_goesOnBehind_153 : gAt mX9_goesOnBehind 153 = some (.aload_n 0, 1, 0, 0, 0, 0) := by decide +kernel
theorem tX9_goesOnBehind_154 : gAt mX9_goesOnBehind 154 = some (.getfield 60, 3, 10, 20, 2, 1059) := by decide +kernel
theorem tX9_goesOnBehind_157 : gAt mX9_goesOnBehind 157 = some (.aload_n 0, 1, 0, 0, 0, 0) := by decide +kernel
theorem tX9_goesOnBehind_158 : gAt mX9_goesOnBehind 158 = some (.getfield 246, 3, 10, 18, 0, 1057) := by decide +kernel
theorem tX9_goesOnBehind_161 : gAt mX9_goesOnBehind 161 = some (.aload_n 0, 1, 0, 0, 0, 0) := by decide +kernel
theorem tX9_goesOnBehind_162 : gAt mX9_goesOnBehind 162 = some (.bipush 60, 2, 60, 0, 0, 0) := by decide +kernel
theorem tX9_goesOnBehind_164 : gAt mX9_goesOnBehind 164 = some (.invokevirtual 213, 3, 112, 1, 10, 1302) := by decide +kernel
theorem tX9_goesOnBehind_167 : gAt mX9_goesOnBehind 167 = some (.ifCond .eq 7, 3, 174, 0, 0, 0) := by decide +kernel
theorem tX9_goesOnBehind_170 : gAt mX9_goesOnBehind 170 = some (.iconst 5, 1, 5, 0, 0, 0) := by decide +kernel
theorem tX9_goesOnBehind_171 : gAt mX9_goesOnBehind 171 = some (.goto 5, 3, 176, 0, 0, 0) := by decide +kernel
theorem tX9_goesOnBehind_174 : gAt mX9_goesOnBehind 174 = some (.bipush 6, 2, 6, 0, 0, 0) := by decide +kernel
theorem tX9_goesOnBehind_176 : gAt mX9_goesOnBehind 176 = some (.iastore, 1, 112, 0, 0, 0) := by decide +kernel
theorem tX9_goesOnBehind_177 : gAt mX9_goesOnBehind 177 = some (.aload_n 0, 1, 0, 0, 0, 0) := by decide +kernel
theorem tX9_goesOnBehind_178 : gAt mX9_goesOnBehind 178 = some (.dup, 1, 0, 0, 0, 0) := by decide +kernel
theorem tX9_goesOnBehind_179 : gAt mX9_goesOnBehind 179 = some (.getfield 207, 3, 10, 7, 0, 1046) := by decide +kernel
theorem tX9_goesOnBehind_182 : gAt mX9_goesOnBehind 182 = some (.iconst 1, 1, 1, 0, 0, 0) := by decide +kernel
theorem tX9_goesOnBehind_183 : gAt mX9_goesOnBehind 183 = some (.iadd, 1, 0, 0, 0, 0) := by decide +kernel
theorem tX9_goesOnBehind_184 : gAt mX9_goesOnBehind 184 = some (.putfield 207, 3, 10, 7, 0, 1046) := by decide +kernel
theorem tX9_goesOnBehind_187 : gAt mX9_goesOnBehind 187 = some (.iconst 1, 1, 1, 0, 0, 0) := by decide +kernel
theorem tX9_goesOnBehind_188 : gAt mX9_goesOnBehind 188 = some (.ireturn, 1, 1, 0, 0, 0) := by decide +kernel
theorem tX9_goesOnBehind_189 : gAt mX9_goesOnBehind 189 = some (.aload_n 0, 1, 0, 0, 0, 0) := by decide +kernel
theorem tX9_goesOnBehind_190 : gAt mX9_goesOnBehind 190 = some (.getfield 63, 3, 10, 21, 2, 1060) := by decide +kernel
theorem tX9_goesOnBehind_193 : gAt mX9_goesOnBehind 193 = some (.aload_n 0, 1, 0, 0, 0, 0) := by decide +kernel
theorem tX9_goesOnBehind_194 : gAt mX9_goesOnBehind 194 = some (.getfield 246, 3, 10, 18, 0, 1057) := by decide +kernel
theorem tX9_goesOnBehind_197 : gAt mX9_goesOnBehind 197 = some (.iaload, 1, 112, 0, 0, 0) := by decide +kernel
theorem tX9_goesOnBehind_198 : gAt mX9_goesOnBehind 198 = some (.ifCond .eq 20, 3, 218, 0, 0, 0) := by decide +kernel
theorem tX9_goesOnBehind_201 : gAt mX9_goesOnBehind 201 = some (.aload_n 0, 1, 0, 0, 0, 0) := by decide +kernel
theorem tX9_goesOnBehind_202 : gAt mX9_goesOnBehind 202 = some (.bipush 7, 2, 7, 0, 0, 0) := by decide +kernel
theorem tX9_goesOnBehind_204 : gAt mX9_goesOnBehind 204 = some (.iconst 0, 1, 0, 0, 0, 0) := by decide +kernel
theorem tX9_goesOnBehind_205 : gAt mX9_goesOnBehind 205 = some (.invokevirtual 259, 3, 118, 2, 10, 1310) := by decide +kernel
theorem tX9_goesOnBehind_208 : gAt mX9_goesOnBehind 208 = some (.aload_n 0, 1, 0, 0, 0, 0) := by decide +kernel
theorem tX9_goesOnBehind_209 : gAt mX9_goesOnBehind 209 = some (.getfield 63, 3, 10, 21, 2, 1060) := by decide +kernel
theorem tX9_goesOnBehind_212 : gAt mX9_goesOnBehind 212 = some (.aload_n 0, 1, 0, 0, 0, 0) := by decide +kernel
theorem tX9_goesOnBehind_213 : gAt mX9_goesOnBehind 213 = some (.getfield 246, 3, 10, 18, 0, 1057) := by decide +kernel
theorem tX9_goesOnBehind_216 : gAt mX9_goesOnBehind 216 = some (.iconst 0, 1, 0, 0, 0, 0) := by decide +kernel
theorem tX9_goesOnBehind_217 : gAt mX9_goesOnBehind 217 = some (.iastore, 1, 112, 0, 0, 0) := by decide +kernel
theorem tX9_goesOnBehind_218 : gAt mX9_goesOnBehind 218 = some (.aload_n 0, 1, 0, 0, 0, 0) := by decide +kernel
theorem tX9_goesOnBehind_219 : gAt mX9_goesOnBehind 219 = some (.iconst 2, 1, 2, 0, 0, 0) := by decide +kernel
theorem tX9_goesOnBehind_220 : gAt mX9_goesOnBehind 220 = some (.invokevirtual 220, 3, 113, 1, 10, 1273) := by decide +kernel
theorem tX9_goesOnBehind_223 : gAt mX9_goesOnBehind 223 = some (.ifCond .eq 26, 3, 249, 0, 0, 0) := by decide +kernel
theorem tX9_goesOnBehind_226 : gAt mX9_goesOnBehind 226 = some (.aload_n 0, 1, 0, 0, 0, 0) := by decide +kernel
theorem tX9_goesOnBehind_227 : gAt mX9_goesOnBehind 227 = some (.getfield 63, 3, 10, 21, 2, 1060) := by decide +kernel
theorem tX9_goesOnBehind_230 : gAt mX9_goesOnBehind 230 = some (.aload_n 0, 1, 0, 0, 0, 0) := by decide +kernel
theorem tX9_goesOnBehind_231 : gAt mX9_goesOnBehind 231 = some (.getfield 246, 3, 10, 18, 0, 1057) := by decide +kernel
theorem tX9_goesOnBehind_234 : gAt mX9_goesOnBehind 234 = some (.bipush 7, 2, 7, 0, 0, 0) := by decide +kernel
theorem tX9_goesOnBehind_236 : gAt mX9_goesOnBehind 236 = some (.iastore, 1, 112, 0, 0, 0) := by decide +kernel
theorem tX9_goesOnBehind_237 : gAt mX9_goesOnBehind 237 = some (.aload_n 0, 1, 0, 0, 0, 0) := by decide +kernel
theorem tX9_goesOnBehind_238 : gAt mX9_goesOnBehind 238 = some (.dup, 1, 0, 0, 0, 0) := by decide +kernel
theorem tX9_goesOnBehind_239 : gAt mX9_goesOnBehind 239 = some (.getfield 207, 3, 10, 7, 0, 1046) := by decide +kernel
theorem tX9_goesOnBehind_242 : gAt mX9_goesOnBehind 242 = some (.iconst 1, 1, 1, 0, 0, 0) := by decide +kernel
theorem tX9_goesOnBehind_243 : gAt mX9_goesOnBehind 243 = some (.iadd, 1, 0, 0, 0, 0) := by decide +kernel
theorem tX9_goesOnBehind_244 : gAt mX9_goesOnBehind 244 = some (.putfield 207, 3, 10, 7, 0, 1046) := by decide +kernel
theorem tX9_goesOnBehind_247 : gAt mX9_goesOnBehind 247 = some (.iconst 1, 1, 1, 0, 0, 0) := by decide +kernel
theorem tX9_goesOnBehind_248 : gAt mX9_goesOnBehind 248 = some (.ireturn, 1, 1, 0, 0, 0) := by decide +kernel
theorem tX9_goesOnBehind_249 : gAt mX9_goesOnBehind 249 = some (.aload_n 0, 1, 0, 0, 0, 0) := by decide +kernel
theorem tX9_goesOnBehind_250 : gAt mX9_goesOnBehind 250 = some (.getfield 246, 3, 10, 18, 0, 1057) := by decide +kernel
theorem tX9_goesOnBehind_253 : gAt mX9_goesOnBehind 253 = some (.ifCond .ne 5, 3, 258, 0, 0, 0) := by decide +kernel
theorem tX9_goesOnBehind_256 : gAt mX9_goesOnBehind 256 = some (.iconst 0, 1, 0, 0, 0, 0) := by decide +kernel
theorem tX9_goesOnBehind_257 : gAt mX9_goesOnBehind 257 = some (.ireturn, 1, 1, 0, 0, 0) := by decide +kernel
theorem tX9_goesOnBehind_258 : gAt mX9_goesOnBehind 258 = some (.aload_n 0, 1, 0, 0, 0, 0) := by decide +kernel
theorem tX9_goesOnBehind_259 : gAt mX9_goesOnBehind 259 = some (.bipush 41, 2, 41, 0, 0, 0) := by decide +kernel
theorem tX9_goesOnBehind_261 : gAt mX9_goesOnBehind 261 = some (.invokevirtual 263, 3, 114, 1, 10, 1318) := by decide +kernel
theorem tX9_goesOnBehind_264 : gAt mX9_goesOnBehind 264 = some (.aload_n 0, 1, 0, 0, 0, 0) := by decide +kernel
theorem tX9_goesOnBehind_265 : gAt mX9_goesOnBehind 265 = some (.dup, 1, 0, 0, 0, 0) := by decide +kernel
theorem tX9_goesOnBehind_266 : gAt mX9_goesOnBehind 266 = some (.getfield 246, 3, 10, 18, 0, 1057) := by decide +kernel
theorem tX9_goesOnBehind_269 : gAt mX9_goesOnBehind 269 = some (.iconst 1, 1, 1, 0, 0, 0) := by decide +kernel
theorem tX9_goesOnBehind_270 : gAt mX9_goesOnBehind 270 = some (.isub, 1, 0, 0, 0, 0) := by decide +kernel
theorem tX9_goesOnBehind_271 : gAt mX9_goesOnBehind 271 = some (.putfield 246, 3, 10, 18, 0, 1057) := by decide +kernel
theorem tX9_goesOnBehind_274 : gAt mX9_goesOnBehind 274 = some (.goto (-274), 3, 0, 0, 0, 0) := by decide +kernel
theorem tX9_goesOnBehind_277 : gAt mX9_goesOnBehind 277 = some (.iconst 0, 1, 0, 0, 0, 0) := by decide +kernel
theorem tX9_goesOnBehind_278 : gAt mX9_goesOnBehind 278 = some (.ireturn, 1, 1, 0, 0, 0) := by decide +kernel
set_option maxRecDepth 100000 in
theorem okX9_worth : (gTb mX9_worth).all (okE gF gNM mX9_worth) = true := by decide +kernel
theorem pnX9_worth : plainName (gY mX9_worth).cls = true := by decide +kernel
theorem tX9_worth_0 : gAt mX9_worth 0 = some (.iload_n 1, 1, 0, 0, 0, 0) := by decide +kernel
theorem tX9_worth_1 : gAt mX9_worth 1 = some (.istore_n 2, 1, 0, 0, 0, 0) := by decide +kernel
theorem tX9_worth_2 : gAt mX9_worth 2 = some (.iconst 0, 1, 0, 0, 0, 0) := by decide +kernel
theorem tX9_worth_3 : gAt mX9_worth 3 = some (.istore_n 3, 1, 0, 0, 0, 0) := by decide +kernel
theorem tX9_worth_4 : gAt mX9_worth 4 = some (.aload_n 0, 1, 0, 0, 0, 0) := by decide +kernel
theorem tX9_worth_5 : gAt mX9_worth 5 = some (.getfield 51, 3, 10, 13, 2, 1052) := by decide +kernel
theorem tX9_worth_8 : gAt mX9_worth 8 = some (.iload_n 2, 1, 0, 0, 0, 0) := by decide +kernel
theorem tX9_worth_9 : gAt mX9_worth 9 = some (.iaload, 1, 112, 0, 0, 0) := by decide +kernel
theorem tX9_worth_10 : gAt mX9_worth 10 = some (.ifCond .eq 182, 3, 192, 0, 0, 0) := by decide +kernel
theorem tX9_worth_13 : gAt mX9_worth 13 = some (.aload_n 0, 1, 0, 0, 0, 0) := by decide +kernel
theorem tX9_worth_14 : gAt mX9_worth 14 = some (.getfield 51, 3, 10, 13, 2, 1052) := by decide +kernel
theorem tX9_worth_17 : gAt mX9_worth 17 = some (.iload_n 2, 1, 0, 0, 0, 0) := by decide +kernel
theorem tX9_worth_18 : gAt mX9_worth 18 = some (.iaload, 1, 112, 0, 0, 0) := by decide +kernel
theorem tX9_worth_19 : gAt mX9_worth 19 = some (.istore 4, 2, 0, 0, 0, 0) := by decide +kernel
theorem tX9_worth_21 : gAt mX9_worth 21 = some (.iload 4, 2, 0, 0, 0, 0) := by decide +kernel
theorem tX9_worth_23 : gAt mX9_worth 23 = some (.iconst 1, 1, 1, 0, 0, 0) := by decide +kernel
theorem tX9_worth_24 : gAt mX9_worth 24 = some (.if_icmp .eq 9, 3, 33, 0, 0, 0) := by decide +kernel
theorem tX9_worth_27 : gAt mX9_worth 27 = some (.iload 4, 2, 0, 0, 0, 0) := by decide +kernel
theorem tX9_worth_29 : gAt mX9_worth 29 = some (.iconst 2, 1, 2, 0, 0, 0) := by decide +kernel
theorem tX9_worth_30 : gAt mX9_worth 30 = some (.if_icmp .ne 41, 3, 71, 0, 0, 0) := by decide +kernel
theorem tX9_worth_33 : gAt mX9_worth 33 = some (.aload_n 0, 1, 0, 0, 0, 0) := by decide +kernel
theorem tX9_worth_34 : gAt mX9_worth 34 = some (.getfield 69, 3, 10, 23, 2, 1062) := by decide +kernel
theorem tX9_worth_37 : gAt mX9_worth 37 = some (.iload_n 3, 1, 0, 0, 0, 0) := by decide +kernel
theorem tX9_worth_38 : gAt mX9_worth 38 = some (.iload 4, 2, 0, 0, 0, 0) := by decide +kernel
theorem tX9_worth_40 : gAt mX9_worth 40 = some (.iconst 1, 1, 1, 0, 0, 0) := by decide +kernel
theorem tX9_worth_41 : gAt mX9_worth 41 = some (.if_icmp .ne 12, 3, 53, 0, 0, 0) := by decide +kernel
theorem tX9_worth_44 : gAt mX9_worth 44 = some (.aload_n 0, 1, 0, 0, 0, 0) := by decide +kernel
theorem tX9_worth_45 : gAt mX9_worth 45 = some (.getfield 54, 3, 10, 14, 2, 1053) := by decide +kernel
theorem tX9_worth_48 : gAt mX9_worth 48 = some (.iload_n 2, 1, 0, 0, 0, 0) := by decide +kernel
theorem tX9_worth_49 : gAt mX9_worth 49 = some (.iaload, 1, 112, 0, 0, 0) := by decide +kernel
theorem tX9_worth_50 : gAt mX9_worth 50 = some (.goto 14, 3, 64, 0, 0, 0) := by decide +kernel
theorem tX9_worth_53 : gAt mX9_worth 53 = some (.aload_n 0, 1, 0, 0, 0, 0) := by decide +kernel
theorem tX9_worth_54 : gAt mX9_worth 54 = some (.getfield 66, 3, 10, 22, 2, 1061) := by decide +kernel
theorem tX9_worth_57 : gAt mX9_worth 57 = some (.aload_n 0, 1, 0, 0, 0, 0) := by decide +kernel
theorem tX9_worth_58 : gAt mX9_worth 58 = some (.getfield 54, 3, 10, 14, 2, 1053) := by decide +kernel
theorem tX9_worth_61 : gAt mX9_worth 61 = some (.iload_n 2, 1, 0, 0, 0, 0) := by decide +kernel
theorem tX9_worth_62 : gAt mX9_worth 62 = some (.iaload, 1, 112, 0, 0, 0) := by decide +kernel
theorem tX9_worth_63 : gAt mX9_worth 63 = some (.iaload, 1, 112, 0, 0, 0) := by decide +kernel
theorem tX9_worth_64 : gAt mX9_worth 64 = some (.iastore, 1, 112, 0, 0, 0) := by decide +kernel
theorem tX9_worth_65 : gAt mX9_worth 65 = some (.iinc 3 1, 3, 1, 0, 0, 0) := by decide +kernel
theorem tX9_worth_68 : gAt mX9_worth 68 = some (.goto 118, 3, 186, 0, 0, 0) := by decide +kernel
theorem tX9_worth_71 : gAt mX9_worth 71 = some (.iinc 3 (-1), 3, 1, 1, 0, 0) := by decide +kernel
theorem tX9_worth_74 : gAt mX9_worth 74 = some (.aload_n 0, 1, 0, 0, 0, 0) := by decide +kernel
theorem tX9_worth_75 : gAt mX9_worth 75 = some (.getfield 69, 3, 10, 23, 2, 1062) := by decide +kernel
theorem tX9_worth_78 : gAt mX9_worth 78 = some (.iload_n 3, 1, 0, 0, 0, 0) := by decide +kernel
theorem tX9_worth_79 : gAt mX9_worth 79 = some (.iaload, 1, 112, 0, 0, 0) := by decide +kernel
theorem tX9_worth_80 : gAt mX9_worth 80 = some (.istore 5, 2, 0, 0, 0, 0) := by decide +kernel
theorem tX9_worth_82 : gAt mX9_worth 82 = some (.aload_n 0, 1, 0, 0, 0, 0) := by decide +kernel
theorem tX9_worth_83 : gAt mX9_worth 83 = some (.getfield 69, 3, 10, 23, 2, 1062) := by decide +kernel
theorem tX9_worth_86 : gAt mX9_worth 86 = some (.iload_n 3, 1, 0, 0, 0, 0) := by decide +kernel
theorem tX9_worth_87 : gAt mX9_worth 87 = some (.iconst 1, 1, 1, 0, 0, 0) := by decide +kernel
theorem tX9_worth_88 : gAt mX9_worth 88 = some (.isub, 1, 0, 0, 0, 0) := by decide +kernel
theorem tX9_worth_89 : gAt mX9_worth 89 = some (.iaload, 1, 112, 0, 0, 0) := by decide +kernel
theorem tX9_worth_90 : gAt mX9_worth 90 = some (.istore 6, 2, 0, 0, 0, 0) := by decide +kernel
theorem tX9_worth_92 : gAt mX9_worth 92 = some (.aload_n 0, 1, 0, 0, 0, 0) := by decide +kernel
theorem tX9_worth_93 : gAt mX9_worth 93 = some (.getfield 69, 3, 10, 23, 2, 1062) := by decide +kernel
theorem tX9_worth_96 : gAt mX9_worth 96 = some (.iload_n 3, 1, 0, 0, 0, 0) := by decide +kernel
theorem tX9_worth_97 : gAt mX9_worth 97 = some (.iconst 1, 1, 1, 0, 0, 0) := by decide +kernel
theorem tX9_worth_98 : gAt mX9_worth 98 = some (.isub, 1, 0, 0, 0, 0) := by decide +kernel
theorem tX9_worth_99 : gAt mX9_worth 99 = some (.iload 4, 2, 0, 0, 0, 0) := by decide +kernel
theorem tX9_worth_101 : gAt mX9_worth 101 = some (.iconst 3, 1, 3, 0, 0, 0) := by decide +kernel
theorem tX9_worth_102 : gAt mX9_worth 102 = some (.if_icmp .ne 11, 3, 113, 0, 0, 0) := by decide +kernel
theorem tX9_worth_105 : gAt mX9_worth 105 = some (.iload 6, 2, 0, 0, 0, 0) := by decide +kernel
theorem tX9_worth_107 : gAt mX9_worth 107 = some (.iload 5, 2, 0, 0, 0, 0) := by decide +kernel
theorem tX9_worth_109 : gAt mX9_worth 109 = some (.iadd, 1, 0, 0, 0, 0) := by decide +kernel
theorem tX9_worth_110 : gAt mX9_worth 110 = some (.goto 75, 3, 185, 0, 0, 0) := by decide +kernel
theorem tX9_worth_113 : gAt mX9_worth 113 = some (.iload 4, 2, 0, 0, 0, 0) := by decide +kernel
theorem tX9_worth_115 : gAt mX9_worth 115 = some (.iconst 4, 1, 4, 0, 0, 0) := by decide +kernel
theorem tX9_worth_116 : gAt mX9_worth 116 = some (.if_icmp .ne 11, 3, 127, 0, 0, 0) := by decide +kernel
theorem tX9_worth_119 : gAt mX9_worth 119 = some (.iload 6, 2, 0, 0, 0, 0) := by decide +kernel
theorem tX9_worth_121 : gAt mX9_worth 121 = some (.iload 5, 2, 0, 0, 0, 0) := by decide +kernel
theorem tX9_worth_123 : gAt mX9_worth 123 = some (.isub, 1, 0, 0, 0, 0) := by decide +kernel
theorem tX9_worth_124 : gAt mX9_worth 124 = some (.goto 61, 3, 185, 0, 0, 0) := by decide +kernel
theorem tX9_worth_127 : gAt mX9_worth 127 = some (.iload 4, 2, 0, 0, 0, 0) := by decide +kernel
theorem tX9_worth_129 : gAt mX9_worth 129 = some (.iconst 5, 1, 5, 0, 0, 0) := by decide +kernel
theorem tX9_worth_130 : gAt mX9_worth 130 = some (.if_icmp .ne 18, 3, 148, 0, 0, 0) := by decide +kernel
theorem tX9_worth_133 : gAt mX9_worth 133 = some (.iload 6, 2, 0, 0, 0, 0) := by decide +kernel
theorem tX9_worth_135 : gAt mX9_worth 135 = some (.iload 5, 2, 0, 0, 0, 0) := by decide +kernel
theorem tX9_worth_137 : gAt mX9_worth 137 = some (.if_icmp .ge 7, 3, 144, 0, 0, 0) := by decide +kernel
theorem tX9_worth_140 : gAt mX9_worth 140 = some (.iconst 1, 1, 1, 0, 0, 0) := by decide +kernel
theorem tX9_worth_141 : gAt mX9_worth 141 = some (.goto 44, 3, 185, 0, 0, 0) := by decide +kernel
theorem tX9_worth_144 : gAt mX9_worth 144 = some (.iconst 0, 1, 0, 0, 0, 0) := by decide +kernel
theorem tX9_worth_145 : gAt mX9_worth 145 = some (.goto 40, 3, 185, 0, 0, 0) := by decide +kernel
theorem tX9_worth_148 : gAt mX9_worth 148 = some (.iload 4, 2, 0, 0, 0, 0) := by decide +kernel
theorem tX9_worth_150 : gAt mX9_worth 150 = some (.bipush 6, 2, 6, 0, 0, 0) := by decide +kernel
theorem tX9_worth_152 : gAt mX9_worth 152 = some (.if_icmp .ne 18, 3, 170, 0, 0, 0) := by decide +kernel
theorem tX9_worth_155 : gAt mX9_worth 155 = some (.iload 6, 2, 0, 0, 0, 0) := by decide +kernel
theorem tX9_worth_157 : gAt mX9_worth 157 = some (.iload 5, 2, 0, 0, 0, 0) := by decide +kernel
theorem tX9_worth_159 : gAt mX9_worth 159 = some (.if_icmp .ne 7, 3, 166, 0, 0, 0) := by decide +kernel
theorem tX9_worth_162 : gAt mX9_worth 162 = some (.iconst 1, 1, 1, 0, 0, 0) := by decide +kernel
theorem tX9_worth_163 : gAt mX9_worth 163 = some (.goto 22, 3, 185, 0, 0, 0) := by decide +kernel
theorem tX9_worth_166 : gAt mX9_worth 166 = some (.iconst 0, 1, 0, 0, 0, 0) := by decide +kernel
theorem tX9_worth_167 : gAt mX9_worth 167 = some (.goto 18, 3, 185, 0, 0, 0) := by decide +kernel
theorem tX9_worth_170 : gAt mX9_worth 170 = some (.iload 6, 2, 0, 0, 0, 0) := by decide +kernel
theorem tX9_worth_172 : gAt mX9_worth 172 = some (.ifCond .eq 12, 3, 184, 0, 0, 0) := by decide +kernel
theorem tX9_worth_175 : gAt mX9_worth 175 = some (.iload 5, 2, 0, 0, 0, 0) := by decide +kernel
theorem tX9_worth_177 : gAt mX9_worth 177 = some (.ifCond .eq 7, 3, 184, 0, 0, 0) := by decide +kernel
theorem tX9_worth_180 : gAt mX9_worth 180 = some (.iconst 1, 1, 1, 0, 0, 0) := by decide +kernel
theorem tX9_worth_181 : gAt mX9_worth 181 = some (.goto 4, 3, 185, 0, 0, 0) := by decide +kernel
theorem tX9_worth_184 : gAt mX9_worth 184 = some (.iconst 0, 1, 0, 0, 0, 0) := by decide +kernel
theorem tX9_worth_185 : gAt mX9_worth 185 = some (.iastore, 1, 112, 0, 0, 0) := by decide +kernel
theorem tX9_worth_186 : gAt mX9_worth 186 = some (.iinc 2 1, 3, 1, 0, 0, 0) := by decide +kernel
theorem tX9_worth_189 : gAt mX9_worth 189 = some (.goto (-185), 3, 4, 0, 0, 0) := by decide +kernel
theorem tX9_worth_192 : gAt mX9_worth 192 = some (.aload_n 0, 1, 0, 0, 0, 0) := by decide +kernel
theorem tX9_worth_193 : gAt mX9_worth 193 = some (.getfield 69, 3, 10, 23, 2, 1062) := by decide +kernel
theorem tX9_worth_196 : gAt mX9_worth 196 = some (.iconst 0, 1, 0, 0, 0, 0) := by decide +kernel
theorem tX9_worth_197 : gAt mX9_worth 197 = some (.iaload, 1, 112, 0, 0, 0) := by decide +kernel
theorem tX9_worth_198 : gAt mX9_worth 198 = some (.ireturn, 1, 0, 0, 0, 0) := by decide +kernel
set_option maxRecDepth 100000 in
theorem okX9_days : (gTb mX9_days).all (okE gF gNM mX9_days) = true := by decide +kernel
theorem pnX9_days : plainName (gY mX9_days).cls = true := by decide +kernel
theorem tX9_days_0 : gAt mX9_days 0 = some (.aload_n 0, 1, 0, 0, 0, 0) := by decide +kernel
theorem tX9_days_1 : gAt mX9_days 1 = some (.iconst 0, 1, 0, 0, 0, 0) := by decide +kernel
theorem tX9_days_2 : gAt mX9_days 2 = some (.putfield 174, 3, 10, 0, 0, 1039) := by decide +kernel
theorem tX9_days_5 : gAt mX9_days 5 = some (.iload_n 1, 1, 0, 0, 0, 0) := by decide +kernel
theorem tX9_days_6 : gAt mX9_days 6 = some (.ifCond .lt 22, 3, 28, 0, 0, 0) := by decide +kernel
theorem tX9_days_9 : gAt mX9_days 9 = some (.iload_n 1, 1, 0, 0, 0, 0) := by decide +kernel
theorem tX9_days_10 : gAt mX9_days 10 = some (.sipush 500, 3, 500, 0, 0, 0) := by decide +kernel
theorem tX9_days_13 : gAt mX9_days 13 = some (.if_icmp .gt 15, 3, 28, 0, 0, 0) := by decide +kernel
theorem tX9_days_16 : gAt mX9_days 16 = some (.aload_n 0, 1, 0, 0, 0, 0) := by decide +kernel
theorem tX9_days_17 : gAt mX9_days 17 = some (.getfield 273, 3, 10, 24, 0, 1063) := by decide +kernel
theorem tX9_days_20 : gAt mX9_days 20 = some (.iload_n 1, 1, 0, 0, 0, 0) := by decide +kernel
theorem tX9_days_21 : gAt mX9_days 21 = some (.iadd, 1, 0, 0, 0, 0) := by decide +kernel
theorem tX9_days_22 : gAt mX9_days 22 = some (.sipush 5000, 3, 5000, 0, 0, 0) := by decide +kernel
theorem tX9_days_25 : gAt mX9_days 25 = some (.if_icmp .lt 5, 3, 30, 0, 0, 0) := by decide +kernel
theorem tX9_days_28 : gAt mX9_days 28 = some (.iconst (-1), 1, 1, 1, 0, 0) := by decide +kernel
theorem tX9_days_29 : gAt mX9_days 29 = some (.ireturn, 1, 0, 0, 0, 0) := by decide +kernel
theorem tX9_days_30 : gAt mX9_days 30 = some (.aload_n 0, 1, 0, 0, 0, 0) := by decide +kernel
theorem tX9_days_31 : gAt mX9_days 31 = some (.dup, 1, 0, 0, 0, 0) := by decide +kernel
theorem tX9_days_32 : gAt mX9_days 32 = some (.getfield 273, 3, 10, 24, 0, 1063) := by decide +kernel
theorem tX9_days_35 : gAt mX9_days 35 = some (.iload_n 1, 1, 0, 0, 0, 0) := by decide +kernel
theorem tX9_days_36 : gAt mX9_days 36 = some (.iadd, 1, 0, 0, 0, 0) := by decide +kernel
theorem tX9_days_37 : gAt mX9_days 37 = some (.putfield 273, 3, 10, 24, 0, 1063) := by decide +kernel
theorem tX9_days_40 : gAt mX9_days 40 = some (.aload_n 0, 1, 0, 0, 0, 0) := by decide +kernel
theorem tX9_days_41 : gAt mX9_days 41 = some (.getfield 273, 3, 10, 24, 0, 1063) := by decide +kernel
theorem tX9_days_44 : gAt mX9_days 44 = some (.ireturn, 1, 0, 0, 0, 0) := by decide +kernel
set_option maxRecDepth 100000 in
theorem okX9_isFolder : (gTb mX9_isFolder).all (okE gF gNM mX9_isFolder) = true := by decide +kernel
theorem pnX9_isFolder : plainName (gY mX9_isFolder).cls = true := by decide +kernel
theorem tX9_isFolder_0 : gAt mX9_isFolder 0 = some (.iload_n 1, 1, 0, 0, 0, 0) := by decide +kernel
theorem tX9_isFolder_1 : gAt mX9_isFolder 1 = some (.ifCond .lt 15, 3, 16, 0, 0, 0) := by decide +kernel
theorem tX9_isFolder_4 : gAt mX9_isFolder 4 = some (.iload_n 1, 1, 0, 0, 0, 0) := by decide +kernel
theorem tX9_isFolder_5 : gAt mX9_isFolder 5 = some (.aload_n 0, 1, 0, 0, 0, 0) := by decide +kernel
theorem tX9_isFolder_6 : gAt mX9_isFolder 6 = some (.getfield 72, 3, 10, 25, 0, 1064) := by decide +kernel
theorem tX9_isFolder_9 : gAt mX9_isFolder 9 = some (.if_icmp .ge 7, 3, 16, 0, 0, 0) := by decide +kernel
theorem tX9_isFolder_12 : gAt mX9_isFolder 12 = some (.iconst 1, 1, 1, 0, 0, 0) := by decide +kernel
theorem tX9_isFolder_13 : gAt mX9_isFolder 13 = some (.goto 4, 3, 17, 0, 0, 0) := by decide +kernel
theorem tX9_isFolder_16 : gAt mX9_isFolder 16 = some (.iconst 0, 1, 0, 0, 0, 0) := by decide +kernel
theorem tX9_isFolder_17 : gAt mX9_isFolder 17 = some (.ireturn, 1, 1, 0, 0, 0) := by decide +kernel
set_option maxRecDepth 100000 in
theorem okX9_folder : (gTb mX9_folder).all (okE gF gNM mX9_folder) = true := by decide +kernel
theorem pnX9_folder : plainName (gY mX9_folder).cls = true := by decide +kernel
theorem tX9_folder_0 : gAt mX9_folder 0 = some (.aload_n 0, 1, 0, 0, 0, 0) := by decide +kernel
theorem tX9_folder_1 : gAt mX9_folder 1 = some (.iconst 0, 1, 0, 0, 0, 0) := by decide +kernel
theorem tX9_folder_2 : gAt mX9_folder 2 = some (.putfield 174, 3, 10, 0, 0, 1039) := by decide +kernel
theorem tX9_folder_5 : gAt mX9_folder 5 = some (.aload_n 0, 1, 0, 0, 0, 0) := by decide +kernel
theorem tX9_folder_6 : gAt mX9_folder 6 = some (.iload_n 1, 1, 0, 0, 0, 0) := by decide +kernel
theorem tX9_folder_7 : gAt mX9_folder 7 = some (.invokevirtual 276, 3, 127, 1, 10, 1330) := by decide +kernel
theorem tX9_folder_10 : gAt mX9_folder 10 = some (.ifCond .eq 12, 3, 22, 0, 0, 0) := by decide +kernel
theorem tX9_folder_13 : gAt mX9_folder 13 = some (.aload_n 0, 1, 0, 0, 0, 0) := by decide +kernel
theorem tX9_folder_14 : gAt mX9_folder 14 = some (.getfield 72, 3, 10, 25, 0, 1064) := by decide +kernel
theorem tX9_folder_17 : gAt mX9_folder 17 = some (.bipush 20, 2, 20, 0, 0, 0) := by decide +kernel
theorem tX9_folder_19 : gAt mX9_folder 19 = some (.if_icmp .ne 5, 3, 24, 0, 0, 0) := by decide +kernel
theorem tX9_folder_22 : gAt mX9_folder 22 = some (.iconst (-1), 1, 1, 1, 0, 0) := by decide +kernel
theorem tX9_folder_23 : gAt mX9_folder 23 = some (.ireturn, 1, 0, 0, 0, 0) := by decide +kernel
theorem tX9_folder_24 : gAt mX9_folder 24 = some (.aload_n 0, 1, 0, 0, 0, 0) := by decide +kernel
theorem tX9_folder_25 : gAt mX9_folder 25 = some (.getfield 76, 3, 10, 26, 2, 1065) := by decide +kernel
theorem tX9_folder_28 : gAt mX9_folder 28 = some (.aload_n 0, 1, 0, 0, 0, 0) := by decide +kernel
theorem tX9_folder_29 : gAt mX9_folder 29 = some (.getfield 72, 3, 10, 25, 0, 1064) := by decide +kernel
theorem tX9_folder_32 : gAt mX9_folder 32 = some (.iload_n 1, 1, 0, 0, 0, 0) := by decide +kernel
theorem tX9_folder_33 : gAt mX9_folder 33 = some (.iastore, 1, 112, 0, 0, 0) := by decide +kernel
theorem tX9_folder_34 : gAt mX9_folder 34 = some (.aload_n 0, 1, 0, 0, 0, 0) := by decide +kernel
theorem tX9_folder_35 : gAt mX9_folder 35 = some (.dup, 1, 0, 0, 0, 0) := by decide +kernel
theorem tX9_folder_36 : gAt mX9_folder 36 = some (.getfield 72, 3, 10, 25, 0, 1064) := by decide +kernel
theorem tX9_folder_39 : gAt mX9_folder 39 = some (.iconst 1, 1, 1, 0, 0, 0) := by decide +kernel
theorem tX9_folder_40 : gAt mX9_folder 40 = some (.iadd, 1, 0, 0, 0, 0) := by decide +kernel
theorem tX9_folder_41 : gAt mX9_folder 41 = some (.putfield 72, 3, 10, 25, 0, 1064) := by decide +kernel
theorem tX9_folder_44 : gAt mX9_folder 44 = some (.aload_n 0, 1, 0, 0, 0, 0) := by decide +kernel
theorem tX9_folder_45 : gAt mX9_folder 45 = some (.getfield 72, 3, 10, 25, 0, 1064) := by decide +kernel
theorem tX9_folder_48 : gAt mX9_folder 48 = some (.iconst 1, 1, 1, 0, 0, 0) := by decide +kernel
theorem tX9_folder_49 : gAt mX9_folder 49 = some (.isub, 1, 0, 0, 0, 0) := by decide +kernel
theorem tX9_folder_50 : gAt mX9_folder 50 = some (.ireturn, 1, 0, 0, 0, 0) := by decide +kernel
set_option maxRecDepth 100000 in
theorem okX9_isUnder : (gTb mX9_isUnder).all (okE gF gNM mX9_isUnder) = true := by decide +kernel
theorem pnX9_isUnder : plainName (gY mX9_isUnder).cls = true := by decide +kernel
theorem tX9_isUnder_0 : gAt mX9_isUnder 0 = some (.iload_n 1, 1, 0, 0, 0, 0) := by decide +kernel
theorem tX9_isUnder_1 : gAt mX9_isUnder 1 = some (.istore_n 3, 1, 0, 0, 0, 0) := by decide +kernel
theorem tX9_isUnder_2 : gAt mX9_isUnder 2 = some (.iload_n 3, 1, 0, 0, 0, 0) := by decide +kernel
theorem tX9_isUnder_3 : gAt mX9_isUnder 3 = some (.ifCond .le 18, 3, 21, 0, 0, 0) := by decide +kernel
theorem tX9_isUnder_6 : gAt mX9_isUnder 6 = some (.iload_n 3, 1, 0, 0, 0, 0) := by decide +kernel
theorem tX9_isUnder_7 : gAt mX9_isUnder 7 = some (.iload_n 2, 1, 0, 0, 0, 0) := by decide +kernel
theorem tX9_isUnder_8 : gAt mX9_isUnder 8 = some (.if_icmp .eq 13, 3, 21, 0, 0, 0) := by decide +kernel
theorem tX9_isUnder_11 : gAt mX9_isUnder 11 = some (.aload_n 0, 1, 0, 0, 0, 0) := by decide +kernel
theorem tX9_isUnder_12 : gAt mX9_isUnder 12 = some (.getfield 76, 3, 10, 26, 2, 1065) := by decide +kernel
theorem tX9_isUnder_15 : gAt mX9_isUnder 15 = some (.iload_n 3, 1, 0, 0, 0, 0) := by decide +kernel
theorem tX9_isUnder_16 : gAt mX9_isUnder 16 = some (.iaload, 1, 112, 0, 0, 0) := by decide +kernel
theorem tX9_isUnder_17 : gAt mX9_isUnder 17 = some (.istore_n 3, 1, 0, 0, 0, 0) := by decide +kernel
theorem tX9_isUnder_18 : gAt mX9_isUnder 18 = some (.goto (-16), 3, 2, 0, 0, 0) := by decide +kernel
theorem tX9_isUnder_21 : gAt mX9_isUnder 21 = some (.iload_n 3, 1, 0, 0, 0, 0) := by decide +kernel
theorem tX9_isUnder_22 : gAt mX9_isUnder 22 = some (.iload_n 2, 1, 0, 0, 0, 0) := by decide +kernel
theorem tX9_isUnder_23 : gAt mX9_isUnder 23 = some (.if_icmp .ne 7, 3, 30, 0, 0, 0) := by decide +kernel
theorem tX9_isUnder_26 : gAt mX9_isUnder 26 = some (.iconst 1, 1, 1, 0, 0, 0) := by decide +kernel
theorem tX9_isUnder_27 : gAt mX9_isUnder 27 = some (.goto 4, 3, 31, 0, 0, 0) := by decide +kernel
theorem tX9_isUnder_30 : gAt mX9_isUnder 30 = some (.iconst 0, 1, 0, 0, 0, 0) := by decide +kernel
theorem tX9_isUnder_31 : gAt mX9_isUnder 31 = some (.ireturn, 1, 1, 0, 0, 0) := by decide +kernel
set_option maxRecDepth 100000 in
theorem okX9_isOne : (gTb mX9_isOne).all (okE gF gNM mX9_isOne) = true := by decide +kernel
theorem pnX9_isOne : plainName (gY mX9_isOne).cls = true := by decide +kernel
theorem tX9_isOne_0 : gAt mX9_isOne 0 = some (.iload_n 0, 1, 0, 0, 0, 0) := by decide +kernel
theorem tX9_isOne_1 : gAt mX9_isOne 1 = some (.iconst 1, 1, 1, 0, 0, 0) := by decide +kernel
theorem tX9_isOne_2 : gAt mX9_isOne 2 = some (.if_icmp .lt 13, 3, 15, 0, 0, 0) := by decide +kernel
theorem tX9_isOne_5 : gAt mX9_isOne 5 = some (.iload_n 0, 1, 0, 0, 0, 0) := by decide +kernel
theorem tX9_isOne_6 : gAt mX9_isOne 6 = some (.bipush 99, 2, 99, 0, 0, 0) := by decide +kernel
theorem tX9_isOne_8 : gAt mX9_isOne 8 = some (.if_icmp .gt 7, 3, 15, 0, 0, 0) := by decide +kernel
theorem tX9_isOne_11 : gAt mX9_isOne 11 = some (.iconst 1, 1, 1, 0, 0, 0) := by decide +kernel
theorem tX9_isOne_12 : gAt mX9_isOne 12 = some (.goto 4, 3, 16, 0, 0, 0) := by decide +kernel
theorem tX9_isOne_15 : gAt mX9_isOne 15 = some (.iconst 0, 1, 0, 0, 0, 0) := by decide +kernel
theorem tX9_isOne_16 : gAt mX9_isOne 16 = some (.ireturn, 1, 1, 0, 0, 0) := by decide +kernel
set_option maxRecDepth 100000 in
theorem okX9_word : (gTb mX9_word).all (okE gF gNM mX9_word) = true := by decide +kernel
theorem pnX9_word : plainName (gY mX9_word).cls = true := by decide +kernel
theorem tX9_word_0 : gAt mX9_word 0 = some (.aload_n 0, 1, 0, 0, 0, 0) := by decide +kernel
theorem tX9_word_1 : gAt mX9_word 1 = some (.iconst 0, 1, 0, 0, 0, 0) := by decide +kernel
theorem tX9_word_2 : gAt mX9_word 2 = some (.putfield 174, 3, 10, 0, 0, 1039) := by decide +kernel
theorem tX9_word_5 : gAt mX9_word 5 = some (.iload_n 1, 1, 0, 0, 0, 0) := by decide +kernel
theorem tX9_word_6 : gAt mX9_word 6 = some (.invokestatic 279, 3, 130, 1, 10, 1338) := by decide +kernel
theorem tX9_word_9 : gAt mX9_word 9 = some (.ifCond .eq 12, 3, 21, 0, 0, 0) := by decide +kernel
theorem tX9_word_12 : gAt mX9_word 12 = some (.aload_n 0, 1, 0, 0, 0, 0) := by decide +kernel
theorem tX9_word_13 : gAt mX9_word 13 = some (.getfield 282, 3, 10, 44, 0, 1083) := by decide +kernel
theorem tX9_word_16 : gAt mX9_word 16 = some (.bipush 12, 2, 12, 0, 0, 0) := by decide +kernel
theorem tX9_word_18 : gAt mX9_word 18 = some (.if_icmp .ne 5, 3, 23, 0, 0, 0) := by decide +kernel
theorem tX9_word_21 : gAt mX9_word 21 = some (.iconst (-1), 1, 1, 1, 0, 0) := by decide +kernel
theorem tX9_word_22 : gAt mX9_word 22 = some (.ireturn, 1, 0, 0, 0, 0) := by decide +kernel
theorem tX9_word_23 : gAt mX9_word 23 = some (.aload_n 0, 1, 0, 0, 0, 0) := by decide +kernel
theorem tX9_word_24 : gAt mX9_word 24 = some (.getfield 122, 3, 10, 45, 2, 1084) := by decide +kernel
theorem tX9_word_27 : gAt mX9_word 27 = some (.aload_n 0, 1, 0, 0, 0, 0) := by decide +kernel
theorem tX9_word_28 : gAt mX9_word 28 = some (.getfield 282, 3, 10, 44, 0, 1083) := by decide +kernel
theorem tX9_word_31 : gAt mX9_word 31 = some (.iload_n 1, 1, 0, 0, 0, 0) := by decide +kernel
theorem tX9_word_32 : gAt mX9_word 32 = some (.iastore, 1, 112, 0, 0, 0) := by decide +kernel
theorem tX9_word_33 : gAt mX9_word 33 = some (.aload_n 0, 1, 0, 0, 0, 0) := by decide +kernel
theorem tX9_word_34 : gAt mX9_word 34 = some (.dup, 1, 0, 0, 0, 0) := by decide +kernel
theorem tX9_word_35 : gAt mX9_word 35 = some (.getfield 282, 3, 10, 44, 0, 1083) := by decide +kernel
theorem tX9_word_38 : gAt mX9_word 38 = some (.iconst 1, 1, 1, 0, 0, 0) := by decide +kernel
theorem tX9_word_39 : gAt mX9_word 39 = some (.iadd, 1, 0, 0, 0, 0) := by decide +kernel
theorem tX9_word_40 : gAt mX9_word 40 = some (.putfield 282, 3, 10, 44, 0, 1083) := by decide +kernel
theorem tX9_word_43 : gAt mX9_word 43 = some (.aload_n 0, 1, 0, 0, 0, 0) := by decide +kernel
theorem tX9_word_44 : gAt mX9_word 44 = some (.getfield 282, 3, 10, 44, 0, 1083) := by decide +kernel
theorem tX9_word_47 : gAt mX9_word 47 = some (.ireturn, 1, 0, 0, 0, 0) := by decide +kernel
set_option maxRecDepth 100000 in
theorem okX9_isDraft : (gTb mX9_isDraft).all (okE gF gNM mX9_isDraft) = true := by decide +kernel
theorem pnX9_isDraft : plainName (gY mX9_isDraft).cls = true := by decide +kernel
theorem tX9_isDraft_0 : gAt mX9_isDraft 0 = some (.aload_n 0, 1, 0, 0, 0, 0) := by decide +kernel
theorem tX9_isDraft_1 : gAt mX9_isDraft 1 = some (.getfield 94, 3, 10, 34, 2, 1073) := by decide +kernel
theorem tX9_isDraft_4 : gAt mX9_isDraft 4 = some (.iload_n 1, 1, 0, 0, 0, 0) := by decide +kernel
theorem tX9_isDraft_5 : gAt mX9_isDraft 5 = some (.iaload, 1, 112, 0, 0, 0) := by decide +kernel
theorem tX9_isDraft_6 : gAt mX9_isDraft 6 = some (.aload_n 0, 1, 0, 0, 0, 0) := by decide +kernel
theorem tX9_isDraft_7 : gAt mX9_isDraft 7 = some (.getfield 282, 3, 10, 44, 0, 1083) := by decide +kernel
theorem tX9_isDraft_10 : gAt mX9_isDraft 10 = some (.if_icmp .ne 7, 3, 17, 0, 0, 0) := by decide +kernel
theorem tX9_isDraft_13 : gAt mX9_isDraft 13 = some (.iconst 1, 1, 1, 0, 0, 0) := by decide +kernel
theorem tX9_isDraft_14 : gAt mX9_isDraft 14 = some (.goto 4, 3, 18, 0, 0, 0) := by decide +kernel
theorem tX9_isDraft_17 : gAt mX9_isDraft 17 = some (.iconst 0, 1, 0, 0, 0, 0) := by decide +kernel
theorem tX9_isDraft_18 : gAt mX9_isDraft 18 = some (.istore_n 2, 1, 0, 0, 0, 0) := by decide +kernel
theorem tX9_isDraft_19 : gAt mX9_isDraft 19 = some (.iconst 0, 1, 0, 0, 0, 0) := by decide +kernel
theorem tX9_isDraft_20 : gAt mX9_isDraft 20 = some (.istore_n 3, 1, 0, 0, 0, 0) := by decide +kernel
theorem tX9_isDraft_21 : gAt mX9_isDraft 21 = some (.iload_n 3, 1, 0, 0, 0, 0) := by decide +kernel
theorem tX9_isDraft_22 : gAt mX9_isDraft 22 = some (.aload_n 0, 1, 0, 0, 0, 0) := by decide +kernel
theorem tX9_isDraft_23 : gAt mX9_isDraft 23 = some (.getfield 282, 3, 10, 44, 0, 1083) := by decide +kernel
theorem tX9_isDraft_26 : gAt mX9_isDraft 26 = some (.if_icmp .ge 39, 3, 65, 0, 0, 0) := by decide +kernel
theorem tX9_isDraft_29 : gAt mX9_isDraft 29 = some (.iload_n 2, 1, 0, 0, 0, 0) := by decide +kernel
theorem tX9_isDraft_30 : gAt mX9_isDraft 30 = some (.ifCond .eq 35, 3, 65, 0, 0, 0) := by decide +kernel
theorem tX9_isDraft_33 : gAt mX9_isDraft 33 = some (.aload_n 0, 1, 0, 0, 0, 0) := by decide +kernel
theorem tX9_isDraft_34 : gAt mX9_isDraft 34 = some (.getfield 97, 3, 10, 35, 2, 1074) := by decide +kernel
theorem tX9_isDraft_37 : gAt mX9_isDraft 37 = some (.bipush 12, 2, 12, 0, 0, 0) := by decide +kernel
theorem tX9_isDraft_39 : gAt mX9_isDraft 39 = some (.iload_n 1, 1, 0, 0, 0, 0) := by decide +kernel
theorem tX9_isDraft_40 : gAt mX9_isDraft 40 = some (.imul, 1, 0, 0, 0, 0) := by decide +kernel
theorem tX9_isDraft_41 : gAt mX9_isDraft 41 = some (.iload_n 3, 1, 0, 0, 0, 0) := by decide +kernel
theorem tX9_isDraft_42 : gAt mX9_isDraft 42 = some (.iadd, 1, 0, 0, 0, 0) := by decide +kernel
theorem tX9_isDraft_43 : gAt mX9_isDraft 43 = some (.iaload, 1, 112, 0, 0, 0) := by decide +kernel
theorem tX9_isDraft_44 : gAt mX9_isDraft 44 = some (.aload_n 0, 1, 0, 0, 0, 0) := by decide +kernel
theorem tX9_isDraft_45 : gAt mX9_isDraft 45 = some (.getfield 122, 3, 10, 45, 2, 1084) := by decide +kernel
theorem tX9_isDraft_48 : gAt mX9_isDraft 48 = some (.iload_n 3, 1, 0, 0, 0, 0) := by decide +kernel
theorem tX9_isDraft_49 : gAt mX9_isDraft 49 = some (.iaload, 1, 112, 0, 0, 0) := by decide +kernel
theorem tX9_isDraft_50 : gAt mX9_isDraft 50 = some (.if_icmp .ne 7, 3, 57, 0, 0, 0) := by decide +kernel
theorem tX9_isDraft_53 : gAt mX9_isDraft 53 = some (.iconst 1, 1, 1, 0, 0, 0) := by decide +kernel
theorem tX9_isDraft_54 : gAt mX9_isDraft 54 = some (.goto 4, 3, 58, 0, 0, 0) := by decide +kernel
theorem tX9_isDraft_57 : gAt mX9_isDraft 57 = some (.iconst 0, 1, 0, 0, 0, 0) := by decide +kernel
theorem tX9_isDraft_58 : gAt mX9_isDraft 58 = some (.istore_n 2, 1, 0, 0, 0, 0) := by decide +kernel
theorem tX9_isDraft_59 : gAt mX9_isDraft 59 = some (.iinc 3 1, 3, 1, 0, 0, 0) := by decide +kernel
theorem tX9_isDraft_62 : gAt mX9_isDraft 62 = some (.goto (-41), 3, 21, 0, 0, 0) := by decide +kernel
theorem tX9_isDraft_65 : gAt mX9_isDraft 65 = some (.iload_n 2, 1, 0, 0, 0, 0) := by decide +kernel
theorem tX9_isDraft_66 : gAt mX9_isDraft 66 = some (.ireturn, 1, 1, 0, 0, 0) := by decide +kernel
set_option maxRecDepth 100000 in
theorem okX9_newPage : (gTb mX9_newPage).all (okE gF gNM mX9_newPage) = true := by decide +kernel
theorem pnX9_newPage : plainName (gY mX9_newPage).cls = true := by decide +kernel
theorem tX9_newPage_0 : gAt mX9_newPage 0 = some (.iconst 0, 1, 0, 0, 0, 0) := by decide +kernel
theorem tX9_newPage_1 : gAt mX9_newPage 1 = some (.istore_n 2, 1, 0, 0, 0, 0) := by decide +kernel
theorem tX9_newPage_2 : gAt mX9_newPage 2 = some (.iload_n 2, 1, 0, 0, 0, 0) := by decide +kernel
theorem tX9_newPage_3 : gAt mX9_newPage 3 = some (.aload_n 0, 1, 0, 0, 0, 0) := by decide +kernel
theorem tX9_newPage_4 : gAt mX9_newPage 4 = some (.getfield 285, 3, 10, 36, 0, 1075) := by decide +kernel
theorem tX9_newPage_7 : gAt mX9_newPage 7 = some (.if_icmp .ge 22, 3, 29, 0, 0, 0) := by decide +kernel
theorem tX9_newPage_10 : gAt mX9_newPage 10 = some (.aload_n 0, 1, 0, 0, 0, 0) := by decide +kernel
theorem tX9_newPage_11 : gAt mX9_newPage 11 = some (.aload_n 0, 1, 0, 0, 0, 0) := by decide +kernel
theorem tX9_newPage_12 : gAt mX9_newPage 12 = some (.getfield 100, 3, 10, 37, 2, 1076) := by decide +kernel
theorem tX9_newPage_15 : gAt mX9_newPage 15 = some (.iload_n 2, 1, 0, 0, 0, 0) := by decide +kernel
theorem tX9_newPage_16 : gAt mX9_newPage 16 = some (.iaload, 1, 112, 0, 0, 0) := by decide +kernel
theorem tX9_newPage_17 : gAt mX9_newPage 17 = some (.invokevirtual 288, 3, 132, 1, 10, 1349) := by decide +kernel
theorem tX9_newPage_20 : gAt mX9_newPage 20 = some (.ifCond .ne 9, 3, 29, 0, 0, 0) := by decide +kernel
theorem tX9_newPage_23 : gAt mX9_newPage 23 = some (.iinc 2 1, 3, 1, 0, 0, 0) := by decide +kernel
theorem tX9_newPage_26 : gAt mX9_newPage 26 = some (.goto (-24), 3, 2, 0, 0, 0) := by decide +kernel
theorem tX9_newPage_29 : gAt mX9_newPage 29 = some (.iload_n 2, 1, 0, 0, 0, 0) := by decide +kernel
theorem tX9_newPage_30 : gAt mX9_newPage 30 = some (.aload_n 0, 1, 0, 0, 0, 0) := by decide +kernel
theorem tX9_newPage_31 : gAt mX9_newPage 31 = some (.getfield 285, 3, 10, 36, 0, 1075) := by decide +kernel
theorem tX9_newPage_34 : gAt mX9_newPage 34 = some (.if_icmp .ne 23, 3, 57, 0, 0, 0) := by decide +kernel
theorem tX9_newPage_37 : gAt mX9_newPage 37 = some (.aload_n 0, 1, 0, 0, 0, 0) := by decide +kernel
theorem tX9_newPage_38 : gAt mX9_newPage 38 = some (.getfield 100, 3, 10, 37, 2, 1076) := by decide +kernel
theorem tX9_newPage_41 : gAt mX9_newPage 41 = some (.iload_n 2, 1, 0, 0, 0, 0) := by decide +kernel
theorem tX9_newPage_42 : gAt mX9_newPage 42 = some (.aload_n 0, 1, 0, 0, 0, 0) := by decide +kernel
theorem tX9_newPage_43 : gAt mX9_newPage 43 = some (.getfield 291, 3, 10, 31, 0, 1070) := by decide +kernel
theorem tX9_newPage_46 : gAt mX9_newPage 46 = some (.iastore, 1, 112, 0, 0, 0) := by decide +kernel
theorem tX9_newPage_47 : gAt mX9_newPage 47 = some (.aload_n 0, 1, 0, 0, 0, 0) := by decide +kernel
theorem tX9_newPage_48 : gAt mX9_newPage 48 = some (.dup, 1, 0, 0, 0, 0) := by decide +kernel
theorem tX9_newPage_49 : gAt mX9_newPage 49 = some (.getfield 285, 3, 10, 36, 0, 1075) := by decide +kernel
theorem tX9_newPage_52 : gAt mX9_newPage 52 = some (.iconst 1, 1, 1, 0, 0, 0) := by decide +kernel
theorem tX9_newPage_53 : gAt mX9_newPage 53 = some (.iadd, 1, 0, 0, 0, 0) := by decide +kernel
theorem tX9_newPage_54 : gAt mX9_newPage 54 = some (.putfield 285, 3, 10, 36, 0, 1075) := by decide +kernel
theorem tX9_newPage_57 : gAt mX9_newPage 57 = some (.aload_n 0, 1, 0, 0, 0, 0) := by decide +kernel
theorem tX9_newPage_58 : gAt mX9_newPage 58 = some (.getfield 88, 3, 10, 32, 2, 1071) := by decide +kernel
theorem tX9_newPage_61 : gAt mX9_newPage 61 = some (.aload_n 0, 1, 0, 0, 0, 0) := by decide +kernel
theorem tX9_newPage_62 : gAt mX9_newPage 62 = some (.getfield 291, 3, 10, 31, 0, 1070) := by decide +kernel
theorem tX9_newPage_65 : gAt mX9_newPage 65 = some (.iload_n 1, 1, 0, 0, 0, 0) := by decide +kernel
theorem tX9_newPage_66 : gAt mX9_newPage 66 = some (.iastore, 1, 112, 0, 0, 0) := by decide +kernel
theorem tX9_newPage_67 : gAt mX9_newPage 67 = some (.aload_n 0, 1, 0, 0, 0, 0) := by decide +kernel
theorem tX9_newPage_68 : gAt mX9_newPage 68 = some (.getfield 91, 3, 10, 33, 2, 1072) := by decide +kernel
theorem tX9_newPage_71 : gAt mX9_newPage 71 = some (.aload_n 0, 1, 0, 0, 0, 0) := by decide +kernel
theorem tX9_newPage_72 : gAt mX9_newPage 72 = some (.getfield 291, 3, 10, 31, 0, 1070) := by decide +kernel
theorem tX9_newPage_75 : gAt mX9_newPage 75 = some (.iload_n 2, 1, 0, 0, 0, 0) := by decide +kernel
theorem tX9_newPage_76 : gAt mX9_newPage 76 = some (.iastore, 1, 112, 0, 0, 0) := by decide +kernel
theorem tX9_newPage_77 : gAt mX9_newPage 77 = some (.aload_n 0, 1, 0, 0, 0, 0) := by decide +kernel
theorem tX9_newPage_78 : gAt mX9_newPage 78 = some (.getfield 94, 3, 10, 34, 2, 1073) := by decide +kernel
theorem tX9_newPage_81 : gAt mX9_newPage 81 = some (.aload_n 0, 1, 0, 0, 0, 0) := by decide +kernel
theorem tX9_newPage_82 : gAt mX9_newPage 82 = some (.getfield 291, 3, 10, 31, 0, 1070) := by decide +kernel
theorem tX9_newPage_85 : gAt mX9_newPage 85 = some (.aload_n 0, 1, 0, 0, 0, 0) := by decide +kernel
theorem tX9_newPage_86 : gAt mX9_newPage 86 = some (.getfield 282, 3, 10, 44, 0, 1083) := by decide +kernel
theorem tX9_newPage_89 : gAt mX9_newPage 89 = some (.iastore, 1, 112, 0, 0, 0) := by decide +kernel
theorem tX9_newPage_90 : gAt mX9_newPage 90 = some (.iconst 0, 1, 0, 0, 0, 0) := by decide +kernel
theorem tX9_newPage_91 : gAt mX9_newPage 91 = some (.istore_n 3, 1, 0, 0, 0, 0) := by decide +kernel
theorem tX9_newPage_92 : gAt mX9_newPage 92 = some (.iload_n 3, 1, 0, 0, 0, 0) := by decide +kernel
theorem tX9_newPage_93 : gAt mX9_newPage 93 = some (.aload_n 0, 1, 0, 0, 0, 0) := by decide +kernel
theorem tX9_newPage_94 : gAt mX9_newPage 94 = some (.getfield 282, 3, 10, 44, 0, 1083) := by decide +kernel
theorem tX9_newPage_97 : gAt mX9_newPage 97 = some (.if_icmp .ge 29, 3, 126, 0, 0, 0) := by decide +kernel
theorem tX9_newPage_100 : gAt mX9_newPage 100 = some (.aload_n 0, 1, 0, 0, 0, 0) := by decide +kernel
theorem tX9_newPage_101 : gAt mX9_newPage 101 = some (.getfield 97, 3, 10, 35, 2, 1074) := by decide +kernel
theorem tX9_newPage_104 : gAt mX9_newPage 104 = some (.bipush 12, 2, 12, 0, 0, 0) := by decide +kernel
theorem tX9_newPage_106 : gAt mX9_newPage 106 = some (.aload_n 0, 1, 0, 0, 0, 0) := by decide +kernel
theorem tX9_newPage_107 : gAt mX9_newPage 107 = some (.getfield 291, 3, 10, 31, 0, 1070) := by decide +kernel
theorem tX9_newPage_110 : gAt mX9_newPage 110 = some (.imul, 1, 0, 0, 0, 0) := by decide +kernel
theorem tX9_newPage_111 : gAt mX9_newPage 111 = some (.iload_n 3, 1, 0, 0, 0, 0) := by decide +kernel
theorem tX9_newPage_112 : gAt mX9_newPage 112 = some (.iadd, 1, 0, 0, 0, 0) := by decide +kernel
theorem tX9_newPage_113 : gAt mX9_newPage 113 = some (.aload_n 0, 1, 0, 0, 0, 0) := by decide +kernel
theorem tX9_newPage_114 : gAt mX9_newPage 114 = some (.getfield 122, 3, 10, 45, 2, 1084) := by decide +kernel
theorem tX9_newPage_117 : gAt mX9_newPage 117 = some (.iload_n 3, 1, 0, 0, 0, 0) := by decide +kernel
theorem tX9_newPage_118 : gAt mX9_newPage 118 = some (.iaload, 1, 112, 0, 0, 0) := by decide +kernel
theorem tX9_newPage_119 : gAt mX9_newPage 119 = some (.iastore, 1, 112, 0, 0, 0) := by decide +kernel
theorem tX9_newPage_120 : gAt mX9_newPage 120 = some (.iinc 3 1, 3, 1, 0, 0, 0) := by decide +kernel
theorem tX9_newPage_123 : gAt mX9_newPage 123 = some (.goto (-31), 3, 92, 0, 0, 0) := by decide +kernel
theorem tX9_newPage_126 : gAt mX9_newPage 126 = some (.aload_n 0, 1, 0, 0, 0, 0) := by decide +kernel
theorem tX9_newPage_127 : gAt mX9_newPage 127 = some (.iconst 0, 1, 0, 0, 0, 0) := by decide +kernel
theorem tX9_newPage_128 : gAt mX9_newPage 128 = some (.putfield 282, 3, 10, 44, 0, 1083) := by decide +kernel
theorem tX9_newPage_131 : gAt mX9_newPage 131 = some (.aload_n 0, 1, 0, 0, 0, 0) := by decide +kernel
theorem tX9_newPage_132 : gAt mX9_newPage 132 = some (.dup, 1, 0, 0, 0, 0) := by decide +kernel
theorem tX9_newPage_133 : gAt mX9_newPage 133 = some (.getfield 291, 3, 10, 31, 0, 1070) := by decide +kernel
theorem tX9_newPage_136 : gAt mX9_newPage 136 = some (.iconst 1, 1, 1, 0, 0, 0) := by decide +kernel
theorem tX9_newPage_137 : gAt mX9_newPage 137 = some (.iadd, 1, 0, 0, 0, 0) := by decide +kernel
theorem tX9_newPage_138 : gAt mX9_newPage 138 = some (.putfield 291, 3, 10, 31, 0, 1070) := by decide +kernel
theorem tX9_newPage_141 : gAt mX9_newPage 141 = some (.aload_n 0, 1, 0, 0, 0, 0) := by decide +kernel
theorem tX9_newPage_142 : gAt mX9_newPage 142 = some (.getfield 291, 3, 10, 31, 0, 1070) := by decide +kernel
theorem tX9_newPage_145 : gAt mX9_newPage 145 = some (.iconst 1, 1, 1, 0, 0, 0) := by decide +kernel
theorem tX9_newPage_146 : gAt mX9_newPage 146 = some (.isub, 1, 0, 0, 0, 0) := by decide +kernel
theorem tX9_newPage_147 : gAt mX9_newPage 147 = some (.ireturn, 1, 0, 0, 0, 0) := by decide +kernel
set_option maxRecDepth 100000 in
theorem okX9_paper : (gTb mX9_paper).all (okE gF gNM mX9_paper) = true := by decide +kernel
theorem pnX9_paper : plainName (gY mX9_paper).cls = true := by decide +kernel
theorem tX9_paper_0 : gAt mX9_paper 0 = some (.aload_n 0, 1, 0, 0, 0, 0) := by decide +kernel
theorem tX9_paper_1 : gAt mX9_paper 1 = some (.iconst 0, 1, 0, 0, 0, 0) := by decide +kernel
theorem tX9_paper_2 : gAt mX9_paper 2 = some (.putfield 174, 3, 10, 0, 0, 1039) := by decide +kernel
theorem tX9_paper_5 : gAt mX9_paper 5 = some (.aload_n 0, 1, 0, 0, 0, 0) := by decide +kernel
theorem tX9_paper_6 : gAt mX9_paper 6 = some (.getfield 282, 3, 10, 44, 0, 1083) := by decide +kernel
theorem tX9_paper_9 : gAt mX9_paper 9 = some (.ifCond .eq 41, 3, 50, 0, 0, 0) := by decide +kernel
theorem tX9_paper_12 : gAt mX9_paper 12 = some (.aload_n 0, 1, 0, 0, 0, 0) := by decide +kernel
theorem tX9_paper_13 : gAt mX9_paper 13 = some (.iload_n 1, 1, 0, 0, 0, 0) := by decide +kernel
theorem tX9_paper_14 : gAt mX9_paper 14 = some (.invokevirtual 276, 3, 127, 1, 10, 1330) := by decide +kernel
theorem tX9_paper_17 : gAt mX9_paper 17 = some (.ifCond .eq 33, 3, 50, 0, 0, 0) := by decide +kernel
theorem tX9_paper_20 : gAt mX9_paper 20 = some (.iload_n 2, 1, 0, 0, 0, 0) := by decide +kernel
theorem tX9_paper_21 : gAt mX9_paper 21 = some (.ifCond .lt 29, 3, 50, 0, 0, 0) := by decide +kernel
theorem tX9_paper_24 : gAt mX9_paper 24 = some (.iload_n 2, 1, 0, 0, 0, 0) := by decide +kernel
theorem tX9_paper_25 : gAt mX9_paper 25 = some (.aload_n 0, 1, 0, 0, 0, 0) := by decide +kernel
theorem tX9_paper_26 : gAt mX9_paper 26 = some (.getfield 273, 3, 10, 24, 0, 1063) := by decide +kernel
theorem tX9_paper_29 : gAt mX9_paper 29 = some (.if_icmp .gt 21, 3, 50, 0, 0, 0) := by decide +kernel
theorem tX9_paper_32 : gAt mX9_paper 32 = some (.aload_n 0, 1, 0, 0, 0, 0) := by decide +kernel
theorem tX9_paper_33 : gAt mX9_paper 33 = some (.getfield 294, 3, 10, 27, 0, 1066) := by decide +kernel
theorem tX9_paper_36 : gAt mX9_paper 36 = some (.bipush 40, 2, 40, 0, 0, 0) := by decide +kernel
theorem tX9_paper_38 : gAt mX9_paper 38 = some (.if_icmp .eq 12, 3, 50, 0, 0, 0) := by decide +kernel
theorem tX9_paper_41 : gAt mX9_paper 41 = some (.aload_n 0, 1, 0, 0, 0, 0) := by decide +kernel
theorem tX9_paper_42 : gAt mX9_paper 42 = some (.getfield 291, 3, 10, 31, 0, 1070) := by decide +kernel
theorem tX9_paper_45 : gAt mX9_paper 45 = some (.bipush 120, 2, 120, 0, 0, 0) := by decide +kernel
theorem tX9_paper_47 : gAt mX9_paper 47 = some (.if_icmp .ne 5, 3, 52, 0, 0, 0) := by decide +kernel
theorem tX9_paper_50 : gAt mX9_paper 50 = some (.iconst (-1), 1, 1, 1, 0, 0) := by decide +kernel
theorem tX9_paper_51 : gAt mX9_paper 51 = some (.ireturn, 1, 0, 0, 0, 0) := by decide +kernel
theorem tX9_paper_52 : gAt mX9_paper 52 = some (.aload_n 0, 1, 0, 0, 0, 0) := by decide +kernel
theorem tX9_paper_53 : gAt mX9_paper 53 = some (.getfield 79, 3, 10, 28, 2, 1067) := by decide +kernel
theorem tX9_paper_56 : gAt mX9_paper 56 = some (.aload_n 0, 1, 0, 0, 0, 0) := by decide +kernel
theorem tX9_paper_57 : gAt mX9_paper 57 = some (.getfield 294, 3, 10, 27, 0, 1066) := by decide +kernel
theorem tX9_paper_60 : gAt mX9_paper 60 = some (.iload_n 1, 1, 0, 0, 0, 0) := by decide +kernel
theorem tX9_paper_61 : gAt mX9_paper 61 = some (.iastore, 1, 112, 0, 0, 0) := by decide +kernel
theorem tX9_paper_62 : gAt mX9_paper 62 = some (.aload_n 0, 1, 0, 0, 0, 0) := by decide +kernel
theorem tX9_paper_63 : gAt mX9_paper 63 = some (.getfield 82, 3, 10, 29, 2, 1068) := by decide +kernel
theorem tX9_paper_66 : gAt mX9_paper 66 = some (.aload_n 0, 1, 0, 0, 0, 0) := by decide +kernel
theorem tX9_paper_67 : gAt mX9_paper 67 = some (.getfield 294, 3, 10, 27, 0, 1066) := by decide +kernel
theorem tX9_paper_70 : gAt mX9_paper 70 = some (.iload_n 2, 1, 0, 0, 0, 0) := by decide +kernel
theorem tX9_paper_71 : gAt mX9_paper 71 = some (.iastore, 1, 112, 0, 0, 0) := by decide +kernel
theorem tX9_paper_72 : gAt mX9_paper 72 = some (.aload_n 0, 1, 0, 0, 0, 0) := by decide +kernel
theorem tX9_paper_73 : gAt mX9_paper 73 = some (.dup, 1, 0, 0, 0, 0) := by decide +kernel
theorem tX9_paper_74 : gAt mX9_paper 74 = some (.getfield 294, 3, 10, 27, 0, 1066) := by decide +kernel
theorem tX9_paper_77 : gAt mX9_paper 77 = some (.iconst 1, 1, 1, 0, 0, 0) := by decide +kernel
theorem tX9_paper_78 : gAt mX9_paper 78 = some (.iadd, 1, 0, 0, 0, 0) := by decide +kernel
theorem tX9_paper_79 : gAt mX9_paper 79 = some (.putfield 294, 3, 10, 27, 0, 1066) := by decide +kernel
theorem tX9_paper_82 : gAt mX9_paper 82 = some (.aload_n 0, 1, 0, 0, 0, 0) := by decide +kernel
theorem tX9_paper_83 : gAt mX9_paper 83 = some (.aload_n 0, 1, 0, 0, 0, 0) := by decide +kernel
theorem tX9_paper_84 : gAt mX9_paper 84 = some (.getfield 294, 3, 10, 27, 0, 1066) := by decide +kernel
theorem tX9_paper_87 : gAt mX9_paper 87 = some (.iconst 1, 1, 1, 0, 0, 0) := by decide +kernel
theorem tX9_paper_88 : gAt mX9_paper 88 = some (.isub, 1, 0, 0, 0, 0) := by decide +kernel
theorem tX9_paper_89 : gAt mX9_paper 89 = some (.invokevirtual 297, 3, 133, 1, 10, 1345) := by decide +kernel
theorem tX9_paper_92 : gAt mX9_paper 92 = some (.istore_n 3, 1, 0, 0, 0, 0) := by decide +kernel
theorem tX9_paper_93 : gAt mX9_paper 93 = some (.aload_n 0, 1, 0, 0, 0, 0) := by decide +kernel
theorem tX9_paper_94 : gAt mX9_paper 94 = some (.getfield 294, 3, 10, 27, 0, 1066) := by decide +kernel
theorem tX9_paper_97 : gAt mX9_paper 97 = some (.iconst 1, 1, 1, 0, 0, 0) := by decide +kernel
theorem tX9_paper_98 : gAt mX9_paper 98 = some (.isub, 1, 0, 0, 0, 0) := by decide +kernel
theorem tX9_paper_99 : gAt mX9_paper 99 = some (.ireturn, 1, 0, 0, 0, 0) := by decide +kernel
set_option maxRecDepth 100000 in
theorem okX9_isPaper : (gTb mX9_isPaper).all (okE gF gNM mX9_isPaper) = true := by decide +kernel
theorem pnX9_isPaper : plainName (gY mX9_isPaper).cls = true := by decide +kernel
theorem tX9_isPaper_0 : gAt mX9_isPaper 0 = some (.iload_n 1, 1, 0, 0, 0, 0) := by decide +kernel
theorem tX9_isPaper_1 : gAt mX9_isPaper 1 = some (.ifCond .lt 15, 3, 16, 0, 0, 0) := by decide +kernel
theorem tX9_isPaper_4 : gAt mX9_isPaper 4 = some (.iload_n 1, 1, 0, 0, 0, 0) := by decide +kernel
theorem tX9_isPaper_5 : gAt mX9_isPaper 5 = some (.aload_n 0, 1, 0, 0, 0, 0) := by decide +kernel
theorem tX9_isPaper_6 : gAt mX9_isPaper 6 = some (.getfield 294, 3, 10, 27, 0, 1066) := by decide +kernel
theorem tX9_isPaper_9 : gAt mX9_isPaper 9 = some (.if_icmp .ge 7, 3, 16, 0, 0, 0) := by decide +kernel
theorem tX9_isPaper_12 : gAt mX9_isPaper 12 = some (.iconst 1, 1, 1, 0, 0, 0) := by decide +kernel
theorem tX9_isPaper_13 : gAt mX9_isPaper 13 = some (.goto 4, 3, 17, 0, 0, 0) := by decide +kernel
theorem tX9_isPaper_16 : gAt mX9_isPaper 16 = some (.iconst 0, 1, 0, 0, 0, 0) := by decide +kernel
theorem tX9_isPaper_17 : gAt mX9_isPaper 17 = some (.ireturn, 1, 1, 0, 0, 0) := by decide +kernel
set_option maxRecDepth 100000 in
theorem okX9_page : (gTb mX9_page).all (okE gF gNM mX9_page) = true := by decide +kernel
theorem pnX9_page : plainName (gY mX9_page).cls = true := by decide +kernel
theorem tX9_page_0 : gAt mX9_page 0 = some (.aload_n 0, 1, 0, 0, 0, 0) := by decide +kernel
theorem tX9_page_1 : gAt mX9_page 1 = some (.iconst 0, 1, 0, 0, 0, 0) := by decide +kernel
theorem tX9_page_2 : gAt mX9_page 2 = some (.putfield 174, 3, 10, 0, 0, 1039) := by decide +kernel
theorem tX9_page_5 : gAt mX9_page 5 = some (.aload_n 0, 1, 0, 0, 0, 0) := by decide +kernel
theorem tX9_page_6 : gAt mX9_page 6 = some (.getfield 282, 3, 10, 44, 0, 1083) := by decide +kernel
theorem tX9_page_9 : gAt mX9_page 9 = some (.ifCond .eq 20, 3, 29, 0, 0, 0) := by decide +kernel
theorem tX9_page_12 : gAt mX9_page 12 = some (.aload_n 0, 1, 0, 0, 0, 0) := by decide +kernel
theorem tX9_page_13 : gAt mX9_page 13 = some (.iload_n 1, 1, 0, 0, 0, 0) := by decide +kernel
theorem tX9_page_14 : gAt mX9_page 14 = some (.invokevirtual 300, 3, 135, 1, 10, 1357) := by decide +kernel
theorem tX9_page_17 : gAt mX9_page 17 = some (.ifCond .eq 12, 3, 29, 0, 0, 0) := by decide +kernel
theorem tX9_page_20 : gAt mX9_page 20 = some (.aload_n 0, 1, 0, 0, 0, 0) := by decide +kernel
theorem tX9_page_21 : gAt mX9_page 21 = some (.getfield 291, 3, 10, 31, 0, 1070) := by decide +kernel
theorem tX9_page_24 : gAt mX9_page 24 = some (.bipush 120, 2, 120, 0, 0, 0) := by decide +kernel
theorem tX9_page_26 : gAt mX9_page 26 = some (.if_icmp .ne 7, 3, 33, 0, 0, 0) := by decide +kernel
theorem tX9_page_29 : gAt mX9_page 29 = some (.iconst (-1), 1, 1, 1, 0, 0) := by decide +kernel
theorem tX9_page_30 : gAt mX9_page 30 = some (.goto 8, 3, 38, 0, 0, 0) := by decide +kernel
theorem tX9_page_33 : gAt mX9_page 33 = some (.aload_n 0, 1, 0, 0, 0, 0) := by decide +kernel
theorem tX9_page_34 : gAt mX9_page 34 = some (.iload_n 1, 1, 0, 0, 0, 0) := by decide +kernel
theorem tX9_page_35 : gAt mX9_page 35 = some (.invokevirtual 297, 3, 133, 1, 10, 1345) := by decide +kernel
theorem tX9_page_38 : gAt mX9_page 38 = some (.ireturn, 1, 0, 0, 0, 0) := by decide +kernel
set_option maxRecDepth 100000 in
theorem okX9_isPerson : (gTb mX9_isPerson).all (okE gF gNM mX9_isPerson) = true := by decide +kernel
theorem pnX9_isPerson : plainName (gY mX9_isPerson).cls = true := by decide +kernel
theorem tX9_isPerson_0 : gAt mX9_isPerson 0 = some (.iload_n 0, 1, 0, 0, 0, 0) := by decide +kernel
theorem tX9_isPerson_1 : gAt mX9_isPerson 1 = some (.ifCond .lt 13, 3, 14, 0, 0, 0) := by decide +kernel
theorem tX9_isPerson_4 : gAt mX9_isPerson 4 = some (.iload_n 0, 1, 0, 0, 0, 0) := by decide +kernel
theorem tX9_isPerson_5 : gAt mX9_isPerson 5 = some (.bipush 8, 2, 8, 0, 0, 0) := by decide +kernel
theorem tX9_isPerson_7 : gAt mX9_isPerson 7 = some (.if_icmp .ge 7, 3, 14, 0, 0, 0) := by decide +kernel
theorem tX9_isPerson_10 : gAt mX9_isPerson 10 = some (.iconst 1, 1, 1, 0, 0, 0) := by decide +kernel
theorem tX9_isPerson_11 : gAt mX9_isPerson 11 = some (.goto 4, 3, 15, 0, 0, 0) := by decide +kernel
theorem tX9_isPerson_14 : gAt mX9_isPerson 14 = some (.iconst 0, 1, 0, 0, 0, 0) := by decide +kernel
theorem tX9_isPerson_15 : gAt mX9_isPerson 15 = some (.ireturn, 1, 1, 0, 0, 0) := by decide +kernel
set_option maxRecDepth 100000 in
theorem okX9_third : (gTb mX9_third).all (okE gF gNM mX9_third) = true := by decide +kernel
theorem pnX9_third : plainName (gY mX9_third).cls = true := by decide +kernel
theorem tX9_third_0 : gAt mX9_third 0 = some (.aload_n 0, 1, 0, 0, 0, 0) := by decide +kernel
theorem tX9_third_1 : gAt mX9_third 1 = some (.iconst 0, 1, 0, 0, 0, 0) := by decide +kernel
theorem tX9_third_2 : gAt mX9_third 2 = some (.putfield 174, 3, 10, 0, 0, 1039) := by decide +kernel
theorem tX9_third_5 : gAt mX9_third 5 = some (.aload_n 0, 1, 0, 0, 0, 0) := by decide +kernel
theorem tX9_third_6 : gAt mX9_third 6 = some (.iload_n 1, 1, 0, 0, 0, 0) := by decide +kernel
theorem tX9_third_7 : gAt mX9_third 7 = some (.invokevirtual 300, 3, 135, 1, 10, 1357) := by decide +kernel
theorem tX9_third_10 : gAt mX9_third 10 = some (.ifCond .eq 10, 3, 20, 0, 0, 0) := by decide +kernel
theorem tX9_third_13 : gAt mX9_third 13 = some (.iload_n 2, 1, 0, 0, 0, 0) := by decide +kernel
theorem tX9_third_14 : gAt mX9_third 14 = some (.invokestatic 303, 3, 137, 1, 10, 1365) := by decide +kernel
theorem tX9_third_17 : gAt mX9_third 17 = some (.ifCond .ne 5, 3, 22, 0, 0, 0) := by decide +kernel
theorem tX9_third_20 : gAt mX9_third 20 = some (.iconst 0, 1, 0, 0, 0, 0) := by decide +kernel
theorem tX9_third_21 : gAt mX9_third 21 = some (.ireturn, 1, 1, 0, 0, 0) := by decide +kernel
theorem tX9_third_22 : gAt mX9_third 22 = some (.aload_n 0, 1, 0, 0, 0, 0) := by decide +kernel
theorem tX9_third_23 : gAt mX9_third 23 = some (.getfield 85, 3, 10, 30, 2, 1069) := by decide +kernel
theorem tX9_third_26 : gAt mX9_third 26 = some (.iload_n 1, 1, 0, 0, 0, 0) := by decide +kernel
theorem tX9_third_27 : gAt mX9_third 27 = some (.iload_n 3, 1, 0, 0, 0, 0) := by decide +kernel
theorem tX9_third_28 : gAt mX9_third 28 = some (.ifCond .eq 16, 3, 44, 0, 0, 0) := by decide +kernel
theorem tX9_third_31 : gAt mX9_third 31 = some (.aload_n 0, 1, 0, 0, 0, 0) := by decide +kernel
theorem tX9_third_32 : gAt mX9_third 32 = some (.getfield 85, 3, 10, 30, 2, 1069) := by decide +kernel
theorem tX9_third_35 : gAt mX9_third 35 = some (.iload_n 1, 1, 0, 0, 0, 0) := by decide +kernel
theorem tX9_third_36 : gAt mX9_third 36 = some (.iaload, 1, 112, 0, 0, 0) := by decide +kernel
theorem tX9_third_37 : gAt mX9_third 37 = some (.iconst 1, 1, 1, 0, 0, 0) := by decide +kernel
theorem tX9_third_38 : gAt mX9_third 38 = some (.iload_n 2, 1, 0, 0, 0, 0) := by decide +kernel
theorem tX9_third_39 : gAt mX9_third 39 = some (.ishl, 1, 0, 0, 0, 0) := by decide +kernel
theorem tX9_third_40 : gAt mX9_third 40 = some (.ior, 1, 0, 0, 0, 0) := by decide +kernel
theorem tX9_third_41 : gAt mX9_third 41 = some (.goto 15, 3, 56, 0, 0, 0) := by decide +kernel
theorem tX9_third_44 : gAt mX9_third 44 = some (.aload_n 0, 1, 0, 0, 0, 0) := by decide +kernel
theorem tX9_third_45 : gAt mX9_third 45 = some (.getfield 85, 3, 10, 30, 2, 1069) := by decide +kernel
theorem tX9_third_48 : gAt mX9_third 48 = some (.iload_n 1, 1, 0, 0, 0, 0) := by decide +kernel
theorem tX9_third_49 : gAt mX9_third 49 = some (.iaload, 1, 112, 0, 0, 0) := by decide +kernel
theorem tX9_third_50 : gAt mX9_third 50 = some (.iconst 1, 1, 1, 0, 0, 0) := by decide +kernel
theorem tX9_third_51 : gAt mX9_third 51 = some (.iload_n 2, 1, 0, 0, 0, 0) := by decide +kernel
theorem tX9_third_52 : gAt mX9_third 52 = some (.ishl, 1, 0, 0, 0, 0) := by decide +kernel
theorem tX9_third_53 : gAt mX9_third 53 = some (.iconst (-1), 1, 1, 1, 0, 0) := by decide +kernel
theorem tX9_third_54 : gAt mX9_third 54 = some (.ixor, 1, 0, 0, 0, 0) := by decide +kernel
theorem tX9_third_55 : gAt mX9_third 55 = some (.iand, 1, 0, 0, 0, 0) := by decide +kernel
theorem tX9_third_56 : gAt mX9_third 56 = some (.iastore, 1, 112, 0, 0, 0) := by decide +kernel
theorem tX9_third_57 : gAt mX9_third 57 = some (.iconst 1, 1, 1, 0, 0, 0) := by decide +kernel
theorem tX9_third_58 : gAt mX9_third 58 = some (.ireturn, 1, 1, 0, 0, 0) := by decide +kernel
set_option maxRecDepth 100000 in
theorem okX9_heard : (gTb mX9_heard).all (okE gF gNM mX9_heard) = true := by decide +kernel
theorem pnX9_heard : plainName (gY mX9_heard).cls = true := by decide +kernel
theorem tX9_heard_0 : gAt mX9_heard 0 = some (.aload_n 0, 1, 0, 0, 0, 0) := by decide +kernel
theorem tX9_heard_1 : gAt mX9_heard 1 = some (.iconst 0, 1, 0, 0, 0, 0) := by decide +kernel
theorem tX9_heard_2 : gAt mX9_heard 2 = some (.putfield 174, 3, 10, 0, 0, 1039) := by decide +kernel
theorem tX9_heard_5 : gAt mX9_heard 5 = some (.iload_n 1, 1, 0, 0, 0, 0) := by decide +kernel
theorem tX9_heard_6 : gAt mX9_heard 6 = some (.invokestatic 303, 3, 137, 1, 10, 1365) := by decide +kernel
theorem tX9_heard_9 : gAt mX9_heard 9 = some (.ifCond .eq 12, 3, 21, 0, 0, 0) := by decide +kernel
theorem tX9_heard_12 : gAt mX9_heard 12 = some (.aload_n 0, 1, 0, 0, 0, 0) := by decide +kernel
theorem tX9_heard_13 : gAt mX9_heard 13 = some (.getfield 119, 3, 10, 43, 2, 1082) := by decide +kernel
theorem tX9_heard_16 : gAt mX9_heard 16 = some (.iload_n 1, 1, 0, 0, 0, 0) := by decide +kernel
theorem tX9_heard_17 : gAt mX9_heard 17 = some (.baload, 1, 114, 0, 0, 0) := by decide +kernel
theorem tX9_heard_18 : gAt mX9_heard 18 = some (.ifCond .eq 5, 3, 23, 0, 0, 0) := by decide +kernel
theorem tX9_heard_21 : gAt mX9_heard 21 = some (.iconst 0, 1, 0, 0, 0, 0) := by decide +kernel
theorem tX9_heard_22 : gAt mX9_heard 22 = some (.ireturn, 1, 1, 0, 0, 0) := by decide +kernel
theorem tX9_heard_23 : gAt mX9_heard 23 = some (.aload_n 0, 1, 0, 0, 0, 0) := by decide +kernel
theorem tX9_heard_24 : gAt mX9_heard 24 = some (.getfield 119, 3, 10, 43, 2, 1082) := by decide +kernel
theorem tX9_heard_27 : gAt mX9_heard 27 = some (.iload_n 1, 1, 0, 0, 0, 0) := by decide +kernel
theorem tX9_heard_28 : gAt mX9_heard 28 = some (.iconst 1, 1, 1, 0, 0, 0) := by decide +kernel
theorem tX9_heard_29 : gAt mX9_heard 29 = some (.bastore, 1, 114, 0, 0, 0) := by decide +kernel
theorem tX9_heard_30 : gAt mX9_heard 30 = some (.iconst 1, 1, 1, 0, 0, 0) := by decide +kernel
theorem tX9_heard_31 : gAt mX9_heard 31 = some (.ireturn, 1, 1, 0, 0, 0) := by decide +kernel
set_option maxRecDepth 100000 in
theorem okX9_isText : (gTb mX9_isText).all (okE gF gNM mX9_isText) = true := by decide +kernel
theorem pnX9_isText : plainName (gY mX9_isText).cls = true := by decide +kernel
theorem tX9_isText_0 : gAt mX9_isText 0 = some (.iload_n 1, 1, 0, 0, 0, 0) := by decide +kernel
theorem tX9_isText_1 : gAt mX9_isText 1 = some (.ifCond .lt 15, 3, 16, 0, 0, 0) := by decide +kernel
theorem tX9_isText_4 : gAt mX9_isText 4 = some (.iload_n 1, 1, 0, 0, 0, 0) := by decide +kernel
theorem tX9_isText_5 : gAt mX9_isText 5 = some (.aload_n 0, 1, 0, 0, 0, 0) := by decide +kernel
theorem tX9_isText_6 : gAt mX9_isText 6 = some (.getfield 285, 3, 10, 36, 0, 1075) := by decide +kernel
theorem tX9_isText_9 : gAt mX9_isText 9 = some (.if_icmp .ge 7, 3, 16, 0, 0, 0) := by decide +kernel
theorem tX9_isText_12 : gAt mX9_isText 12 = some (.iconst 1, 1, 1, 0, 0, 0) := by decide +kernel
theorem tX9_isText_13 : gAt mX9_isText 13 = some (.goto 4, 3, 17, 0, 0, 0) := by decide +kernel
theorem tX9_isText_16 : gAt mX9_isText 16 = some (.iconst 0, 1, 0, 0, 0, 0) := by decide +kernel
theorem tX9_isText_17 : gAt mX9_isText 17 = some (.ireturn, 1, 1, 0, 0, 0) := by decide +kernel
set_option maxRecDepth 100000 in
theorem okX9_judge : (gTb mX9_judge).all (okE gF gNM mX9_judge) = true := by decide +kernel
theorem pnX9_judge : plainName (gY mX9_judge).cls = true := by decide +kernel
theorem tX9_judge_0 : gAt mX9_judge 0 = some (.aload_n 0, 1, 0, 0, 0, 0) := by decide +kernel
theorem tX9_judge_1 : gAt mX9_judge 1 = some (.iconst 0, 1, 0, 0, 0, 0) := by decide +kernel
theorem tX9_judge_2 : gAt mX9_judge 2 = some (.putfield 174, 3, 10, 0, 0, 1039) := by decide +kernel
theorem tX9_judge_5 : gAt mX9_judge 5 = some (.aload_n 0, 1, 0, 0, 0, 0) := by decide +kernel
theorem tX9_judge_6 : gAt mX9_judge 6 = some (.iload_n 1, 1, 0, 0, 0, 0) := by decide +kernel
theorem tX9_judge_7 : gAt mX9_judge 7 = some (.invokevirtual 306, 3, 140, 1, 10, 1376) := by decide +kernel
theorem tX9_judge_10 : gAt mX9_judge 10 = some (.ifCond .ne 5, 3, 15, 0, 0, 0) := by decide +kernel
theorem tX9_judge_13 : gAt mX9_judge 13 = some (.iconst 0, 1, 0, 0, 0, 0) := by decide +kernel
theorem tX9_judge_14 : gAt mX9_judge 14 = some (.ireturn, 1, 1, 0, 0, 0) := by decide +kernel
theorem tX9_judge_15 : gAt mX9_judge 15 = some (.aload_n 0, 1, 0, 0, 0, 0) := by decide +kernel
theorem tX9_judge_16 : gAt mX9_judge 16 = some (.getfield 103, 3, 10, 38, 2, 1077) := by decide +kernel
theorem tX9_judge_19 : gAt mX9_judge 19 = some (.iload_n 1, 1, 0, 0, 0, 0) := by decide +kernel
theorem tX9_judge_20 : gAt mX9_judge 20 = some (.iload_n 2, 1, 0, 0, 0, 0) := by decide +kernel
theorem tX9_judge_21 : gAt mX9_judge 21 = some (.bastore, 1, 114, 0, 0, 0) := by decide +kernel
theorem tX9_judge_22 : gAt mX9_judge 22 = some (.iconst 1, 1, 1, 0, 0, 0) := by decide +kernel
theorem tX9_judge_23 : gAt mX9_judge 23 = some (.ireturn, 1, 1, 0, 0, 0) := by decide +kernel
set_option maxRecDepth 100000 in
theorem okX9_black : (gTb mX9_black).all (okE gF gNM mX9_black) = true := by decide +kernel
theorem pnX9_black : plainName (gY mX9_black).cls = true := by decide +kernel
theorem tX9_black_0 : gAt mX9_black 0 = some (.aload_n 0, 1, 0, 0, 0, 0) := by decide +kernel
theorem tX9_black_1 : gAt mX9_black 1 = some (.iconst 0, 1, 0, 0, 0, 0) := by decide +kernel
theorem tX9_black_2 : gAt mX9_black 2 = some (.putfield 174, 3, 10, 0, 0, 1039) := by decide +kernel
theorem tX9_black_5 : gAt mX9_black 5 = some (.aload_n 0, 1, 0, 0, 0, 0) := by decide +kernel
theorem tX9_black_6 : gAt mX9_black 6 = some (.iload_n 1, 1, 0, 0, 0, 0) := by decide +kernel
theorem tX9_black_7 : gAt mX9_black 7 = some (.invokevirtual 306, 3, 140, 1, 10, 1376) := by decide +kernel
theorem tX9_black_10 : gAt mX9_black 10 = some (.ifCond .eq 49, 3, 59, 0, 0, 0) := by decide +kernel
theorem tX9_black_13 : gAt mX9_black 13 = some (.iload_n 2, 1, 0, 0, 0, 0) := by decide +kernel
theorem tX9_black_14 : gAt mX9_black 14 = some (.ifCond .lt 45, 3, 59, 0, 0, 0) := by decide +kernel
theorem tX9_black_17 : gAt mX9_black 17 = some (.iload_n 3, 1, 0, 0, 0, 0) := by decide +kernel
theorem tX9_black_18 : gAt mX9_black 18 = some (.iload_n 2, 1, 0, 0, 0, 0) := by decide +kernel
theorem tX9_black_19 : gAt mX9_black 19 = some (.if_icmp .lt 40, 3, 59, 0, 0, 0) := by decide +kernel
theorem tX9_black_22 : gAt mX9_black 22 = some (.iload_n 3, 1, 0, 0, 0, 0) := by decide +kernel
theorem tX9_black_23 : gAt mX9_black 23 = some (.aload_n 0, 1, 0, 0, 0, 0) := by decide +kernel
theorem tX9_black_24 : gAt mX9_black 24 = some (.getfield 94, 3, 10, 34, 2, 1073) := by decide +kernel
theorem tX9_black_27 : gAt mX9_black 27 = some (.aload_n 0, 1, 0, 0, 0, 0) := by decide +kernel
theorem tX9_black_28 : gAt mX9_black 28 = some (.getfield 100, 3, 10, 37, 2, 1076) := by decide +kernel
theorem tX9_black_31 : gAt mX9_black 31 = some (.iload_n 1, 1, 0, 0, 0, 0) := by decide +kernel
theorem tX9_black_32 : gAt mX9_black 32 = some (.iaload, 1, 112, 0, 0, 0) := by decide +kernel
theorem tX9_black_33 : gAt mX9_black 33 = some (.iaload, 1, 112, 0, 0, 0) := by decide +kernel
theorem tX9_black_34 : gAt mX9_black 34 = some (.if_icmp .ge 25, 3, 59, 0, 0, 0) := by decide +kernel
theorem tX9_black_37 : gAt mX9_black 37 = some (.iload 4, 2, 0, 0, 0, 0) := by decide +kernel
theorem tX9_black_39 : gAt mX9_black 39 = some (.ifCond .lt 20, 3, 59, 0, 0, 0) := by decide +kernel
theorem tX9_black_42 : gAt mX9_black 42 = some (.iload 4, 2, 0, 0, 0, 0) := by decide +kernel
theorem tX9_black_44 : gAt mX9_black 44 = some (.bipush 9, 2, 9, 0, 0, 0) := by decide +kernel
theorem tX9_black_46 : gAt mX9_black 46 = some (.if_icmp .gt 13, 3, 59, 0, 0, 0) := by decide +kernel
theorem tX9_black_49 : gAt mX9_black 49 = some (.aload_n 0, 1, 0, 0, 0, 0) := by decide +kernel
theorem tX9_black_50 : gAt mX9_black 50 = some (.getfield 107, 3, 10, 39, 2, 1078) := by decide +kernel
theorem tX9_black_53 : gAt mX9_black 53 = some (.iload_n 1, 1, 0, 0, 0, 0) := by decide +kernel
theorem tX9_black_54 : gAt mX9_black 54 = some (.iaload, 1, 112, 0, 0, 0) := by decide +kernel
theorem tX9_black_55 : gAt mX9_black 55 = some (.iconst 4, 1, 4, 0, 0, 0) := by decide +kernel
theorem tX9_black_56 : gAt mX9_black 56 = some (.if_icmp .ne 5, 3, 61, 0, 0, 0) := by decide +kernel
theorem tX9_black_59 : gAt mX9_black 59 = some (.iconst (-1), 1, 1, 1, 0, 0) := by decide +kernel
theorem tX9_black_60 : gAt mX9_black 60 = some (.ireturn, 1, 0, 0, 0, 0) := by decide +kernel
theorem tX9_black_61 : gAt mX9_black 61 = some (.iconst 4, 1, 4, 0, 0, 0) := by decide +kernel
theorem tX9_black_62 : gAt mX9_black 62 = some (.iload_n 1, 1, 0, 0, 0, 0) := by decide +kernel
theorem tX9_black_63 : gAt mX9_black 63 = some (.imul, 1, 0, 0, 0, 0) := by decide +kernel
theorem tX9_black_64 : gAt mX9_black 64 = some (.aload_n 0, 1, 0, 0, 0, 0) := by decide +kernel
theorem tX9_black_65 : gAt mX9_black 65 = some (.getfield 107, 3, 10, 39, 2, 1078) := by decide +kernel
theorem tX9_black_68 : gAt mX9_black 68 = some (.iload_n 1, 1, 0, 0, 0, 0) := by decide +kernel
theorem tX9_black_69 : gAt mX9_black 69 = some (.iaload, 1, 112, 0, 0, 0) := by decide +kernel
theorem tX9_black_70 : gAt mX9_black 70 = some (.iadd, 1, 0, 0, 0, 0) := by decide +kernel
theorem tX9_black_71 : gAt mX9_black 71 = some (.istore 5, 2, 0, 0, 0, 0) := by decide +kernel
theorem tX9_black_73 : gAt mX9_black 73 = some (.aload_n 0, 1, 0, 0, 0, 0) := by decide +kernel
theorem tX9_black_74 : gAt mX9_black 74 = some (.getfield 110, 3, 10, 40, 2, 1079) := by decide +kernel
theorem tX9_black_77 : gAt mX9_black 77 = some (.iload 5, 2, 0, 0, 0, 0) := by decide +kernel
theorem tX9_black_79 : gAt mX9_black 79 = some (.iload_n 2, 1, 0, 0, 0, 0) := by decide +kernel
theorem tX9_black_80 : gAt mX9_black 80 = some (.iastore, 1, 112, 0, 0, 0) := by decide +kernel
theorem tX9_black_81 : gAt mX9_black 81 = some (.aload_n 0, 1, 0, 0, 0, 0) := by decide +kernel
theorem tX9_black_82 : gAt mX9_black 82 = some (.getfield 113, 3, 10, 41, 2, 1080) := by decide +kernel
theorem tX9_black_85 : gAt mX9_black 85 = some (.iload 5, 2, 0, 0, 0, 0) := by decide +kernel
theorem tX9_black_87 : gAt mX9_black 87 = some (.iload_n 3, 1, 0, 0, 0, 0) := by decide +kernel
theorem tX9_black_88 : gAt mX9_black 88 = some (.iastore, 1, 112, 0, 0, 0) := by decide +kernel
theorem tX9_black_89 : gAt mX9_black 89 = some (.aload_n 0, 1, 0, 0, 0, 0) := by decide +kernel
theorem tX9_black_90 : gAt mX9_black 90 = some (.getfield 116, 3, 10, 42, 2, 1081) := by decide +kernel
theorem tX9_black_93 : gAt mX9_black 93 = some (.iload 5, 2, 0, 0, 0, 0) := by decide +kernel
theorem tX9_black_95 : gAt mX9_black 95 = some (.iload 4, 2, 0, 0, 0, 0) := by decide +kernel
theorem tX9_black_97 : gAt mX9_black 97 = some (.iastore, 1, 112, 0, 0, 0) := by decide +kernel
theorem tX9_black_98 : gAt mX9_black 98 = some (.aload_n 0, 1, 0, 0, 0, 0) := by decide +kernel
theorem tX9_black_99 : gAt mX9_black 99 = some (.getfield 107, 3, 10, 39, 2, 1078) := by decide +kernel
theorem tX9_black_102 : gAt mX9_black 102 = some (.iload_n 1, 1, 0, 0, 0, 0) := by decide +kernel
theorem tX9_black_103 : gAt mX9_black 103 = some (.dup2, 1, 0, 0, 0, 0) := by decide +kernel
theorem tX9_black_104 : gAt mX9_black 104 = some (.iaload, 1, 112, 0, 0, 0) := by decide +kernel
theorem tX9_black_105 : gAt mX9_black 105 = some (.iconst 1, 1, 1, 0, 0, 0) := by decide +kernel
theorem tX9_black_106 : gAt mX9_black 106 = some (.iadd, 1, 0, 0, 0, 0) := by decide +kernel
theorem tX9_black_107 : gAt mX9_black 107 = some (.iastore, 1, 112, 0, 0, 0) := by decide +kernel
theorem tX9_black_108 : gAt mX9_black 108 = some (.aload_n 0, 1, 0, 0, 0, 0) := by decide +kernel
theorem tX9_black_109 : gAt mX9_black 109 = some (.getfield 107, 3, 10, 39, 2, 1078) := by decide +kernel
theorem tX9_black_112 : gAt mX9_black 112 = some (.iload_n 1, 1, 0, 0, 0, 0) := by decide +kernel
theorem tX9_black_113 : gAt mX9_black 113 = some (.iaload, 1, 112, 0, 0, 0) := by decide +kernel
theorem tX9_black_114 : gAt mX9_black 114 = some (.ireturn, 1, 0, 0, 0, 0) := by decide +kernel
set_option maxRecDepth 100000 in
theorem okX9_clear : (gTb mX9_clear).all (okE gF gNM mX9_clear) = true := by decide +kernel
theorem pnX9_clear : plainName (gY mX9_clear).cls = true := by decide +kernel
theorem tX9_clear_0 : gAt mX9_clear 0 = some (.aload_n 0, 1, 0, 0, 0, 0) := by decide +kernel
theorem tX9_clear_1 : gAt mX9_clear 1 = some (.iconst 0, 1, 0, 0, 0, 0) := by decide +kernel
theorem tX9_clear_2 : gAt mX9_clear 2 = some (.putfield 174, 3, 10, 0, 0, 1039) := by decide +kernel
theorem tX9_clear_5 : gAt mX9_clear 5 = some (.aload_n 0, 1, 0, 0, 0, 0) := by decide +kernel
theorem tX9_clear_6 : gAt mX9_clear 6 = some (.iload_n 1, 1, 0, 0, 0, 0) := by decide +kernel
theorem tX9_clear_7 : gAt mX9_clear 7 = some (.invokevirtual 306, 3, 140, 1, 10, 1376) := by decide +kernel
theorem tX9_clear_10 : gAt mX9_clear 10 = some (.ifCond .eq 17, 3, 27, 0, 0, 0) := by decide +kernel
theorem tX9_clear_13 : gAt mX9_clear 13 = some (.iload_n 2, 1, 0, 0, 0, 0) := by decide +kernel
theorem tX9_clear_14 : gAt mX9_clear 14 = some (.ifCond .lt 13, 3, 27, 0, 0, 0) := by decide +kernel
theorem tX9_clear_17 : gAt mX9_clear 17 = some (.iload_n 2, 1, 0, 0, 0, 0) := by decide +kernel
theorem tX9_clear_18 : gAt mX9_clear 18 = some (.aload_n 0, 1, 0, 0, 0, 0) := by decide +kernel
theorem tX9_clear_19 : gAt mX9_clear 19 = some (.getfield 107, 3, 10, 39, 2, 1078) := by decide +kernel
theorem tX9_clear_22 : gAt mX9_clear 22 = some (.iload_n 1, 1, 0, 0, 0, 0) := by decide +kernel
theorem tX9_clear_23 : gAt mX9_clear 23 = some (.iaload, 1, 112, 0, 0, 0) := by decide +kernel
theorem tX9_clear_24 : gAt mX9_clear 24 = some (.if_icmp .lt 5, 3, 29, 0, 0, 0) := by decide +kernel
theorem tX9_clear_27 : gAt mX9_clear 27 = some (.iconst 0, 1, 0, 0, 0, 0) := by decide +kernel
theorem tX9_clear_28 : gAt mX9_clear 28 = some (.ireturn, 1, 1, 0, 0, 0) := by decide +kernel
theorem tX9_clear_29 : gAt mX9_clear 29 = some (.aload_n 0, 1, 0, 0, 0, 0) := by decide +kernel
theorem tX9_clear_30 : gAt mX9_clear 30 = some (.getfield 107, 3, 10, 39, 2, 1078) := by decide +kernel
theorem tX9_clear_33 : gAt mX9_clear 33 = some (.iload_n 1, 1, 0, 0, 0, 0) := by decide +kernel
theorem tX9_clear_34 : gAt mX9_clear 34 = some (.dup2, 1, 0, 0, 0, 0) := by decide +kernel
theorem tX9_clear_35 : gAt mX9_clear 35 = some (.iaload, 1, 112, 0, 0, 0) := by decide +kernel
theorem tX9_clear_36 : gAt mX9_clear 36 = some (.iconst 1, 1, 1, 0, 0, 0) := by decide +kernel
theorem tX9_clear_37 : gAt mX9_clear 37 = some (.isub, 1, 0, 0, 0, 0) := by decide +kernel
theorem tX9_clear_38 : gAt mX9_clear 38 = some (.iastore, 1, 112, 0, 0, 0) := by decide +kernel
theorem tX9_clear_39 : gAt mX9_clear 39 = some (.iconst 4, 1, 4, 0, 0, 0) := by decide +kernel
theorem tX9_clear_40 : gAt mX9_clear 40 = some (.iload_n 1, 1, 0, 0, 0, 0) := by decide +kernel
theorem tX9_clear_41 : gAt mX9_clear 41 = some (.imul, 1, 0, 0, 0, 0) := by decide +kernel
theorem tX9_clear_42 : gAt mX9_clear 42 = some (.iload_n 2, 1, 0, 0, 0, 0) := by decide +kernel
theorem tX9_clear_43 : gAt mX9_clear 43 = some (.iadd, 1, 0, 0, 0, 0) := by decide +kernel
theorem tX9_clear_44 : gAt mX9_clear 44 = some (.istore_n 3, 1, 0, 0, 0, 0) := by decide +kernel
theorem tX9_clear_45 : gAt mX9_clear 45 = some (.iload_n 3, 1, 0, 0, 0, 0) := by decide +kernel
theorem tX9_clear_46 : gAt mX9_clear 46 = some (.iconst 4, 1, 4, 0, 0, 0) := by decide +kernel
theorem tX9_clear_47 : gAt mX9_clear 47 = some (.iload_n 1, 1, 0, 0, 0, 0) := by decide +kernel
theorem tX9_clear_48 : gAt mX9_clear 48 = some (.imul, 1, 0, 0, 0, 0) := by decide +kernel
theorem tX9_clear_49 : gAt mX9_clear 49 = some (.aload_n 0, 1, 0, 0, 0, 0) := by decide +kernel
theorem tX9_clear_50 : gAt mX9_clear 50 = some (.getfield 107, 3, 10, 39, 2, 1078) := by decide +kernel
theorem tX9_clear_53 : gAt mX9_clear 53 = some (.iload_n 1, 1, 0, 0, 0, 0) := by decide +kernel
theorem tX9_clear_54 : gAt mX9_clear 54 = some (.iaload, 1, 112, 0, 0, 0) := by decide +kernel
theorem tX9_clear_55 : gAt mX9_clear 55 = some (.iadd, 1, 0, 0, 0, 0) := by decide +kernel
theorem tX9_clear_56 : gAt mX9_clear 56 = some (.if_icmp .ge 51, 3, 107, 0, 0, 0) := by decide +kernel
theorem tX9_clear_59 : gAt mX9_clear 59 = some (.aload_n 0, 1, 0, 0, 0, 0) := by decide +kernel
theorem tX9_clear_60 : gAt mX9_clear 60 = some (.getfield 110, 3, 10, 40, 2, 1079) := by decide +kernel
theorem tX9_clear_63 : gAt mX9_clear 63 = some (.iload_n 3, 1, 0, 0, 0, 0) := by decide +kernel
theorem tX9_clear_64 : gAt mX9_clear 64 = some (.aload_n 0, 1, 0, 0, 0, 0) := by decide +kernel
theorem tX9_clear_65 : gAt mX9_clear 65 = some (.getfield 110, 3, 10, 40, 2, 1079) := by decide +kernel
theorem tX9_clear_68 : gAt mX9_clear 68 = some (.iload_n 3, 1, 0, 0, 0, 0) := by decide +kernel
theorem tX9_clear_69 : gAt mX9_clear 69 = some (.iconst 1, 1, 1, 0, 0, 0) := by decide +kernel
theorem tX9_clear_70 : gAt mX9_clear 70 = some (.iadd, 1, 0, 0, 0, 0) := by decide +kernel
theorem tX9_clear_71 : gAt mX9_clear 71 = some (.iaload, 1, 112, 0, 0, 0) := by decide +kernel
theorem tX9_clear_72 : gAt mX9_clear 72 = some (.iastore, 1, 112, 0, 0, 0) := by decide +kernel
theorem tX9_clear_73 : gAt mX9_clear 73 = some (.aload_n 0, 1, 0, 0, 0, 0) := by decide +kernel
theorem tX9_clear_74 : gAt mX9_clear 74 = some (.getfield 113, 3, 10, 41, 2, 1080) := by decide +kernel
theorem tX9_clear_77 : gAt mX9_clear 77 = some (.iload_n 3, 1, 0, 0, 0, 0) := by decide +kernel
theorem tX9_clear_78 : gAt mX9_clear 78 = some (.aload_n 0, 1, 0, 0, 0, 0) := by decide +kernel
theorem tX9_clear_79 : gAt mX9_clear 79 = some (.getfield 113, 3, 10, 41, 2, 1080) := by decide +kernel
theorem tX9_clear_82 : gAt mX9_clear 82 = some (.iload_n 3, 1, 0, 0, 0, 0) := by decide +kernel
theorem tX9_clear_83 : gAt mX9_clear 83 = some (.iconst 1, 1, 1, 0, 0, 0) := by decide +kernel
theorem tX9_clear_84 : gAt mX9_clear 84 = some (.iadd, 1, 0, 0, 0, 0) := by decide +kernel
theorem tX9_clear_85 : gAt mX9_clear 85 = some (.iaload, 1, 112, 0, 0, 0) := by decide +kernel
theorem tX9_clear_86 : gAt mX9_clear 86 = some (.iastore, 1, 112, 0, 0, 0) := by decide +kernel
theorem tX9_clear_87 : gAt mX9_clear 87 = some (.aload_n 0, 1, 0, 0, 0, 0) := by decide +kernel
theorem tX9_clear_88 : gAt mX9_clear 88 = some (.getfield 116, 3, 10, 42, 2, 1081) := by decide +kernel
theorem tX9_clear_91 : gAt mX9_clear 91 = some (.iload_n 3, 1, 0, 0, 0, 0) := by decide +kernel
theorem tX9_clear_92 : gAt mX9_clear 92 = some (.aload_n 0, 1, 0, 0, 0, 0) := by decide +kernel
theorem tX9_clear_93 : gAt mX9_clear 93 = some (.getfield 116, 3, 10, 42, 2, 1081) := by decide +kernel
theorem tX9_clear_96 : gAt mX9_clear 96 = some (.iload_n 3, 1, 0, 0, 0, 0) := by decide +kernel
theorem tX9_clear_97 : gAt mX9_clear 97 = some (.iconst 1, 1, 1, 0, 0, 0) := by decide +kernel
theorem tX9_clear_98 : gAt mX9_clear 98 = some (.iadd, 1, 0, 0, 0, 0) := by decide +kernel
theorem tX9_clear_99 : gAt mX9_clear 99 = some (.iaload, 1, 112, 0, 0, 0) := by decide +kernel
theorem tX9_clear_100 : gAt mX9_clear 100 = some (.iastore, 1, 112, 0, 0, 0) := by decide +kernel
theorem tX9_clear_101 : gAt mX9_clear 101 = some (.iinc 3 1, 3, 1, 0, 0, 0) := by decide +kernel
theorem tX9_clear_104 : gAt mX9_clear 104 = some (.goto (-59), 3, 45, 0, 0, 0) := by decide +kernel
theorem tX9_clear_107 : gAt mX9_clear 107 = some (.iconst 1, 1, 1, 0, 0, 0) := by decide +kernel
theorem tX9_clear_108 : gAt mX9_clear 108 = some (.ireturn, 1, 1, 0, 0, 0) := by decide +kernel
set_option maxRecDepth 100000 in
theorem okX9_pagesOf : (gTb mX9_pagesOf).all (okE gF gNM mX9_pagesOf) = true := by decide +kernel
theorem pnX9_pagesOf : plainName (gY mX9_pagesOf).cls = true := by decide +kernel
theorem tX9_pagesOf_0 : gAt mX9_pagesOf 0 = some (.iconst 0, 1, 0, 0, 0, 0) := by decide +kernel
theorem tX9_pagesOf_1 : gAt mX9_pagesOf 1 = some (.istore_n 2, 1, 0, 0, 0, 0) := by decide +kernel
theorem tX9_pagesOf_2 : gAt mX9_pagesOf 2 = some (.iconst 0, 1, 0, 0, 0, 0) := by decide +kernel
theorem tX9_pagesOf_3 : gAt mX9_pagesOf 3 = some (.istore_n 3, 1, 0, 0, 0, 0) := by decide +kernel
theorem tX9_pagesOf_4 : gAt mX9_pagesOf 4 = some (.iload_n 3, 1, 0, 0, 0, 0) := by decide +kernel
theorem tX9_pagesOf_5 : gAt mX9_pagesOf 5 = some (.aload_n 0, 1, 0, 0, 0, 0) := by decide +kernel
theorem tX9_pagesOf_6 : gAt mX9_pagesOf 6 = some (.getfield 291, 3, 10, 31, 0, 1070) := by decide +kernel
theorem tX9_pagesOf_9 : gAt mX9_pagesOf 9 = some (.if_icmp .ge 27, 3, 36, 0, 0, 0) := by decide +kernel
theorem tX9_pagesOf_12 : gAt mX9_pagesOf 12 = some (.iload_n 2, 1, 0, 0, 0, 0) := by decide +kernel
theorem tX9_pagesOf_13 : gAt mX9_pagesOf 13 = some (.aload_n 0, 1, 0, 0, 0, 0) := by decide +kernel
theorem tX9_pagesOf_14 : gAt mX9_pagesOf 14 = some (.getfield 88, 3, 10, 32, 2, 1071) := by decide +kernel
theorem tX9_pagesOf_17 : gAt mX9_pagesOf 17 = some (.iload_n 3, 1, 0, 0, 0, 0) := by decide +kernel
theorem tX9_pagesOf_18 : gAt mX9_pagesOf 18 = some (.iaload, 1, 112, 0, 0, 0) := by decide +kernel
theorem tX9_pagesOf_19 : gAt mX9_pagesOf 19 = some (.iload_n 1, 1, 0, 0, 0, 0) := by decide +kernel
theorem tX9_pagesOf_20 : gAt mX9_pagesOf 20 = some (.if_icmp .ne 7, 3, 27, 0, 0, 0) := by decide +kernel
theorem tX9_pagesOf_23 : gAt mX9_pagesOf 23 = some (.iconst 1, 1, 1, 0, 0, 0) := by decide +kernel
theorem tX9_pagesOf_24 : gAt mX9_pagesOf 24 = some (.goto 4, 3, 28, 0, 0, 0) := by decide +kernel
theorem tX9_pagesOf_27 : gAt mX9_pagesOf 27 = some (.iconst 0, 1, 0, 0, 0, 0) := by decide +kernel
theorem tX9_pagesOf_28 : gAt mX9_pagesOf 28 = some (.iadd, 1, 0, 0, 0, 0) := by decide +kernel
theorem tX9_pagesOf_29 : gAt mX9_pagesOf 29 = some (.istore_n 2, 1, 0, 0, 0, 0) := by decide +kernel
theorem tX9_pagesOf_30 : gAt mX9_pagesOf 30 = some (.iinc 3 1, 3, 1, 0, 0, 0) := by decide +kernel
theorem tX9_pagesOf_33 : gAt mX9_pagesOf 33 = some (.goto (-29), 3, 4, 0, 0, 0) := by decide +kernel
theorem tX9_pagesOf_36 : gAt mX9_pagesOf 36 = some (.iload_n 2, 1, 0, 0, 0, 0) := by decide +kernel
theorem tX9_pagesOf_37 : gAt mX9_pagesOf 37 = some (.ireturn, 1, 0, 0, 0, 0) := by decide +kernel
set_option maxRecDepth 100000 in
theorem okX9_bits : (gTb mX9_bits).all (okE gF gNM mX9_bits) = true := by decide +kernel
theorem pnX9_bits : plainName (gY mX9_bits).cls = true := by decide +kernel
theorem tX9_bits_0 : gAt mX9_bits 0 = some (.iconst 0, 1, 0, 0, 0, 0) := by decide +kernel
theorem tX9_bits_1 : gAt mX9_bits 1 = some (.istore_n 1, 1, 0, 0, 0, 0) := by decide +kernel
theorem tX9_bits_2 : gAt mX9_bits 2 = some (.iconst 0, 1, 0, 0, 0, 0) := by decide +kernel
theorem tX9_bits_3 : gAt mX9_bits 3 = some (.istore_n 2, 1, 0, 0, 0, 0) := by decide +kernel
theorem tX9_bits_4 : gAt mX9_bits 4 = some (.iload_n 2, 1, 0, 0, 0, 0) := by decide +kernel
theorem tX9_bits_5 : gAt mX9_bits 5 = some (.bipush 8, 2, 8, 0, 0, 0) := by decide +kernel
theorem tX9_bits_7 : gAt mX9_bits 7 = some (.if_icmp .ge 17, 3, 24, 0, 0, 0) := by decide +kernel
theorem tX9_bits_10 : gAt mX9_bits 10 = some (.iload_n 1, 1, 0, 0, 0, 0) := by decide +kernel
theorem tX9_bits_11 : gAt mX9_bits 11 = some (.iload_n 0, 1, 0, 0, 0, 0) := by decide +kernel
theorem tX9_bits_12 : gAt mX9_bits 12 = some (.iload_n 2, 1, 0, 0, 0, 0) := by decide +kernel
theorem tX9_bits_13 : gAt mX9_bits 13 = some (.ishr, 1, 0, 0, 0, 0) := by decide +kernel
theorem tX9_bits_14 : gAt mX9_bits 14 = some (.iconst 1, 1, 1, 0, 0, 0) := by decide +kernel
theorem tX9_bits_15 : gAt mX9_bits 15 = some (.iand, 1, 0, 0, 0, 0) := by decide +kernel
theorem tX9_bits_16 : gAt mX9_bits 16 = some (.iadd, 1, 0, 0, 0, 0) := by decide +kernel
theorem tX9_bits_17 : gAt mX9_bits 17 = some (.istore_n 1, 1, 0, 0, 0, 0) := by decide +kernel
theorem tX9_bits_18 : gAt mX9_bits 18 = some (.iinc 2 1, 3, 1, 0, 0, 0) := by decide +kernel
theorem tX9_bits_21 : gAt mX9_bits 21 = some (.goto (-17), 3, 4, 0, 0, 0) := by decide +kernel
theorem tX9_bits_24 : gAt mX9_bits 24 = some (.iload_n 1, 1, 0, 0, 0, 0) := by decide +kernel
theorem tX9_bits_25 : gAt mX9_bits 25 = some (.ireturn, 1, 0, 0, 0, 0) := by decide +kernel
set_option maxRecDepth 100000 in
theorem okX9_isGround : (gTb mX9_isGround).all (okE gF gNM mX9_isGround) = true := by decide +kernel
theorem pnX9_isGround : plainName (gY mX9_isGround).cls = true := by decide +kernel
theorem tX9_isGround_0 : gAt mX9_isGround 0 = some (.aload_n 0, 1, 0, 0, 0, 0) := by decide +kernel
theorem tX9_isGround_1 : gAt mX9_isGround 1 = some (.getfield 66, 3, 10, 22, 2, 1061) := by decide +kernel
theorem tX9_isGround_4 : gAt mX9_isGround 4 = some (.iconst 0, 1, 0, 0, 0, 0) := by decide +kernel
theorem tX9_isGround_5 : gAt mX9_isGround 5 = some (.aload_n 0, 1, 0, 0, 0, 0) := by decide +kernel
theorem tX9_isGround_6 : gAt mX9_isGround 6 = some (.getfield 273, 3, 10, 24, 0, 1063) := by decide +kernel
theorem tX9_isGround_9 : gAt mX9_isGround 9 = some (.aload_n 0, 1, 0, 0, 0, 0) := by decide +kernel
theorem tX9_isGround_10 : gAt mX9_isGround 10 = some (.getfield 82, 3, 10, 29, 2, 1068) := by decide +kernel
theorem tX9_isGround_13 : gAt mX9_isGround 13 = some (.iload_n 2, 1, 0, 0, 0, 0) := by decide +kernel
theorem tX9_isGround_14 : gAt mX9_isGround 14 = some (.iaload, 1, 112, 0, 0, 0) := by decide +kernel
theorem tX9_isGround_15 : gAt mX9_isGround 15 = some (.isub, 1, 0, 0, 0, 0) := by decide +kernel
theorem tX9_isGround_16 : gAt mX9_isGround 16 = some (.iastore, 1, 112, 0, 0, 0) := by decide +kernel
theorem tX9_isGround_17 : gAt mX9_isGround 17 = some (.aload_n 0, 1, 0, 0, 0, 0) := by decide +kernel
theorem tX9_isGround_18 : gAt mX9_isGround 18 = some (.getfield 66, 3, 10, 22, 2, 1061) := by decide +kernel
theorem tX9_isGround_21 : gAt mX9_isGround 21 = some (.iconst 1, 1, 1, 0, 0, 0) := by decide +kernel
theorem tX9_isGround_22 : gAt mX9_isGround 22 = some (.aload_n 0, 1, 0, 0, 0, 0) := by decide +kernel
theorem tX9_isGround_23 : gAt mX9_isGround 23 = some (.getfield 82, 3, 10, 29, 2, 1068) := by decide +kernel
theorem tX9_isGround_26 : gAt mX9_isGround 26 = some (.iload_n 2, 1, 0, 0, 0, 0) := by decide +kernel
theorem tX9_isGround_27 : gAt mX9_isGround 27 = some (.iaload, 1, 112, 0, 0, 0) := by decide +kernel
theorem tX9_isGround_28 : gAt mX9_isGround 28 = some (.iastore, 1, 112, 0, 0, 0) := by decide +kernel
theorem tX9_isGround_29 : gAt mX9_isGround 29 = some (.aload_n 0, 1, 0, 0, 0, 0) := by decide +kernel
theorem tX9_isGround_30 : gAt mX9_isGround 30 = some (.getfield 66, 3, 10, 22, 2, 1061) := by decide +kernel
theorem tX9_isGround_33 : gAt mX9_isGround 33 = some (.iconst 2, 1, 2, 0, 0, 0) := by decide +kernel
theorem tX9_isGround_34 : gAt mX9_isGround 34 = some (.aload_n 0, 1, 0, 0, 0, 0) := by decide +kernel
theorem tX9_isGround_35 : gAt mX9_isGround 35 = some (.getfield 79, 3, 10, 28, 2, 1067) := by decide +kernel
theorem tX9_isGround_38 : gAt mX9_isGround 38 = some (.iload_n 2, 1, 0, 0, 0, 0) := by decide +kernel
theorem tX9_isGround_39 : gAt mX9_isGround 39 = some (.iaload, 1, 112, 0, 0, 0) := by decide +kernel
theorem tX9_isGround_40 : gAt mX9_isGround 40 = some (.iastore, 1, 112, 0, 0, 0) := by decide +kernel
theorem tX9_isGround_41 : gAt mX9_isGround 41 = some (.aload_n 0, 1, 0, 0, 0, 0) := by decide +kernel
theorem tX9_isGround_42 : gAt mX9_isGround 42 = some (.getfield 66, 3, 10, 22, 2, 1061) := by decide +kernel
theorem tX9_isGround_45 : gAt mX9_isGround 45 = some (.iconst 3, 1, 3, 0, 0, 0) := by decide +kernel
theorem tX9_isGround_46 : gAt mX9_isGround 46 = some (.aload_n 0, 1, 0, 0, 0, 0) := by decide +kernel
theorem tX9_isGround_47 : gAt mX9_isGround 47 = some (.iload_n 2, 1, 0, 0, 0, 0) := by decide +kernel
theorem tX9_isGround_48 : gAt mX9_isGround 48 = some (.invokevirtual 309, 3, 144, 1, 10, 1404) := by decide +kernel
theorem tX9_isGround_51 : gAt mX9_isGround 51 = some (.iastore, 1, 112, 0, 0, 0) := by decide +kernel
theorem tX9_isGround_52 : gAt mX9_isGround 52 = some (.aload_n 0, 1, 0, 0, 0, 0) := by decide +kernel
theorem tX9_isGround_53 : gAt mX9_isGround 53 = some (.getfield 66, 3, 10, 22, 2, 1061) := by decide +kernel
theorem tX9_isGround_56 : gAt mX9_isGround 56 = some (.iconst 4, 1, 4, 0, 0, 0) := by decide +kernel
theorem tX9_isGround_57 : gAt mX9_isGround 57 = some (.aload_n 0, 1, 0, 0, 0, 0) := by decide +kernel
theorem tX9_isGround_58 : gAt mX9_isGround 58 = some (.getfield 85, 3, 10, 30, 2, 1069) := by decide +kernel
theorem tX9_isGround_61 : gAt mX9_isGround 61 = some (.iload_n 2, 1, 0, 0, 0, 0) := by decide +kernel
theorem tX9_isGround_62 : gAt mX9_isGround 62 = some (.iaload, 1, 112, 0, 0, 0) := by decide +kernel
theorem tX9_isGround_63 : gAt mX9_isGround 63 = some (.invokestatic 312, 3, 145, 1, 10, 1408) := by decide +kernel
theorem tX9_isGround_66 : gAt mX9_isGround 66 = some (.iastore, 1, 112, 0, 0, 0) := by decide +kernel
theorem tX9_isGround_67 : gAt mX9_isGround 67 = some (.iconst 0, 1, 0, 0, 0, 0) := by decide +kernel
theorem tX9_isGround_68 : gAt mX9_isGround 68 = some (.istore_n 3, 1, 0, 0, 0, 0) := by decide +kernel
theorem tX9_isGround_69 : gAt mX9_isGround 69 = some (.bipush 16, 2, 16, 0, 0, 0) := by decide +kernel
theorem tX9_isGround_71 : gAt mX9_isGround 71 = some (.aload_n 0, 1, 0, 0, 0, 0) := by decide +kernel
theorem tX9_isGround_72 : gAt mX9_isGround 72 = some (.getfield 235, 3, 10, 15, 0, 1054) := by decide +kernel
theorem tX9_isGround_75 : gAt mX9_isGround 75 = some (.imul, 1, 0, 0, 0, 0) := by decide +kernel
theorem tX9_isGround_76 : gAt mX9_isGround 76 = some (.istore 4, 2, 0, 0, 0, 0) := by decide +kernel
theorem tX9_isGround_78 : gAt mX9_isGround 78 = some (.iload 4, 2, 0, 0, 0, 0) := by decide +kernel
theorem tX9_isGround_80 : gAt mX9_isGround 80 = some (.bipush 16, 2, 16, 0, 0, 0) := by decide +kernel
theorem tX9_isGround_82 : gAt mX9_isGround 82 = some (.aload_n 0, 1, 0, 0, 0, 0) := by decide +kernel
theorem tX9_isGround_83 : gAt mX9_isGround 83 = some (.getfield 235, 3, 10, 15, 0, 1054) := by decide +kernel
theorem tX9_isGround_86 : gAt mX9_isGround 86 = some (.imul, 1, 0, 0, 0, 0) := by decide +kernel
theorem tX9_isGround_87 : gAt mX9_isGround 87 = some (.aload_n 0, 1, 0, 0, 0, 0) := by decide +kernel
theorem tX9_isGround_88 : gAt mX9_isGround 88 = some (.getfield 42, 3, 10, 10, 2, 1049) := by decide +kernel
theorem tX9_isGround_91 : gAt mX9_isGround 91 = some (.aload_n 0, 1, 0, 0, 0, 0) := by decide +kernel
theorem tX9_isGround_92 : gAt mX9_isGround 92 = some (.getfield 235, 3, 10, 15, 0, 1054) := by decide +kernel
theorem tX9_isGround_95 : gAt mX9_isGround 95 = some (.iaload, 1, 112, 0, 0, 0) := by decide +kernel
theorem tX9_isGround_96 : gAt mX9_isGround 96 = some (.iadd, 1, 0, 0, 0, 0) := by decide +kernel
theorem tX9_isGround_97 : gAt mX9_isGround 97 = some (.if_icmp .ge 44, 3, 141, 0, 0, 0) := by decide +kernel
theorem tX9_isGround_100 : gAt mX9_isGround 100 = some (.iload_n 3, 1, 0, 0, 0, 0) := by decide +kernel
theorem tX9_isGround_101 : gAt mX9_isGround 101 = some (.ifCond .ne 28, 3, 129, 0, 0, 0) := by decide +kernel
theorem tX9_isGround_104 : gAt mX9_isGround 104 = some (.aload_n 0, 1, 0, 0, 0, 0) := by decide +kernel
theorem tX9_isGround_105 : gAt mX9_isGround 105 = some (.getfield 45, 3, 10, 11, 2, 1050) := by decide +kernel
theorem tX9_isGround_108 : gAt mX9_isGround 108 = some (.iload 4, 2, 0, 0, 0, 0) := by decide +kernel
theorem tX9_isGround_110 : gAt mX9_isGround 110 = some (.iaload, 1, 112, 0, 0, 0) := by decide +kernel
theorem tX9_isGround_111 : gAt mX9_isGround 111 = some (.iload_n 1, 1, 0, 0, 0, 0) := by decide +kernel
theorem tX9_isGround_112 : gAt mX9_isGround 112 = some (.if_icmp .ne 21, 3, 133, 0, 0, 0) := by decide +kernel
theorem tX9_isGround_115 : gAt mX9_isGround 115 = some (.aload_n 0, 1, 0, 0, 0, 0) := by decide +kernel
theorem tX9_isGround_116 : gAt mX9_isGround 116 = some (.aload_n 0, 1, 0, 0, 0, 0) := by decide +kernel
theorem tX9_isGround_117 : gAt mX9_isGround 117 = some (.getfield 48, 3, 10, 12, 2, 1051) := by decide +kernel
theorem tX9_isGround_120 : gAt mX9_isGround 120 = some (.iload 4, 2, 0, 0, 0, 0) := by decide +kernel
theorem tX9_isGround_122 : gAt mX9_isGround 122 = some (.iaload, 1, 112, 0, 0, 0) := by decide +kernel
theorem tX9_isGround_123 : gAt mX9_isGround 123 = some (.invokevirtual 315, 3, 125, 1, 10, 1411) := by decide +kernel
theorem tX9_isGround_126 : gAt mX9_isGround 126 = some (.ifCond .eq 7, 3, 133, 0, 0, 0) := by decide +kernel
theorem tX9_isGround_129 : gAt mX9_isGround 129 = some (.iconst 1, 1, 1, 0, 0, 0) := by decide +kernel
theorem tX9_isGround_130 : gAt mX9_isGround 130 = some (.goto 4, 3, 134, 0, 0, 0) := by decide +kernel
theorem tX9_isGround_133 : gAt mX9_isGround 133 = some (.iconst 0, 1, 0, 0, 0, 0) := by decide +kernel
theorem tX9_isGround_134 : gAt mX9_isGround 134 = some (.istore_n 3, 1, 0, 0, 0, 0) := by decide +kernel
theorem tX9_isGround_135 : gAt mX9_isGround 135 = some (.iinc 4 1, 3, 1, 0, 0, 0) := by decide +kernel
theorem tX9_isGround_138 : gAt mX9_isGround 138 = some (.goto (-60), 3, 78, 0, 0, 0) := by decide +kernel
theorem tX9_isGround_141 : gAt mX9_isGround 141 = some (.iload_n 3, 1, 0, 0, 0, 0) := by decide +kernel
theorem tX9_isGround_142 : gAt mX9_isGround 142 = some (.ireturn, 1, 1, 0, 0, 0) := by decide +kernel
set_option maxRecDepth 100000 in
theorem okX9_isBlack : (gTb mX9_isBlack).all (okE gF gNM mX9_isBlack) = true := by decide +kernel
theorem pnX9_isBlack : plainName (gY mX9_isBlack).cls = true := by decide +kernel
theorem tX9_isBlack_0 : gAt mX9_isBlack 0 = some (.aload_n 0, 1, 0, 0, 0, 0) := by decide +kernel
theorem tX9_isBlack_1 : gAt mX9_isBlack 1 = some (.getfield 91, 3, 10, 33, 2, 1072) := by decide +kernel
theorem tX9_isBlack_4 : gAt mX9_isBlack 4 = some (.iload_n 1, 1, 0, 0, 0, 0) := by decide +kernel
theorem tX9_isBlack_5 : gAt mX9_isBlack 5 = some (.iaload, 1, 112, 0, 0, 0) := by decide +kernel
theorem tX9_isBlack_6 : gAt mX9_isBlack 6 = some (.istore_n 3, 1, 0, 0, 0, 0) := by decide +kernel
theorem tX9_isBlack_7 : gAt mX9_isBlack 7 = some (.iconst 0, 1, 0, 0, 0, 0) := by decide +kernel
theorem tX9_isBlack_8 : gAt mX9_isBlack 8 = some (.istore 4, 2, 0, 0, 0, 0) := by decide +kernel
theorem tX9_isBlack_10 : gAt mX9_isBlack 10 = some (.iconst 4, 1, 4, 0, 0, 0) := by decide +kernel
theorem tX9_isBlack_11 : gAt mX9_isBlack 11 = some (.iload_n 3, 1, 0, 0, 0, 0) := by decide +kernel
theorem tX9_isBlack_12 : gAt mX9_isBlack 12 = some (.imul, 1, 0, 0, 0, 0) := by decide +kernel
theorem tX9_isBlack_13 : gAt mX9_isBlack 13 = some (.istore 5, 2, 0, 0, 0, 0) := by decide +kernel
theorem tX9_isBlack_15 : gAt mX9_isBlack 15 = some (.iload 5, 2, 0, 0, 0, 0) := by decide +kernel
theorem tX9_isBlack_17 : gAt mX9_isBlack 17 = some (.iconst 4, 1, 4, 0, 0, 0) := by decide +kernel
theorem tX9_isBlack_18 : gAt mX9_isBlack 18 = some (.iload_n 3, 1, 0, 0, 0, 0) := by decide +kernel
theorem tX9_isBlack_19 : gAt mX9_isBlack 19 = some (.imul, 1, 0, 0, 0, 0) := by decide +kernel
theorem tX9_isBlack_20 : gAt mX9_isBlack 20 = some (.aload_n 0, 1, 0, 0, 0, 0) := by decide +kernel
theorem tX9_isBlack_21 : gAt mX9_isBlack 21 = some (.getfield 107, 3, 10, 39, 2, 1078) := by decide +kernel
theorem tX9_isBlack_24 : gAt mX9_isBlack 24 = some (.iload_n 3, 1, 0, 0, 0, 0) := by decide +kernel
theorem tX9_isBlack_25 : gAt mX9_isBlack 25 = some (.iaload, 1, 112, 0, 0, 0) := by decide +kernel
theorem tX9_isBlack_26 : gAt mX9_isBlack 26 = some (.iadd, 1, 0, 0, 0, 0) := by decide +kernel
theorem tX9_isBlack_27 : gAt mX9_isBlack 27 = some (.if_icmp .ge 63, 3, 90, 0, 0, 0) := by decide +kernel
theorem tX9_isBlack_30 : gAt mX9_isBlack 30 = some (.iload 4, 2, 0, 0, 0, 0) := by decide +kernel
theorem tX9_isBlack_32 : gAt mX9_isBlack 32 = some (.ifCond .ne 45, 3, 77, 0, 0, 0) := by decide +kernel
theorem tX9_isBlack_35 : gAt mX9_isBlack 35 = some (.aload_n 0, 1, 0, 0, 0, 0) := by decide +kernel
theorem tX9_isBlack_36 : gAt mX9_isBlack 36 = some (.getfield 110, 3, 10, 40, 2, 1079) := by decide +kernel
theorem tX9_isBlack_39 : gAt mX9_isBlack 39 = some (.iload 5, 2, 0, 0, 0, 0) := by decide +kernel
theorem tX9_isBlack_41 : gAt mX9_isBlack 41 = some (.iaload, 1, 112, 0, 0, 0) := by decide +kernel
theorem tX9_isBlack_42 : gAt mX9_isBlack 42 = some (.iload_n 2, 1, 0, 0, 0, 0) := by decide +kernel
theorem tX9_isBlack_43 : gAt mX9_isBlack 43 = some (.if_icmp .gt 38, 3, 81, 0, 0, 0) := by decide +kernel
theorem tX9_isBlack_46 : gAt mX9_isBlack 46 = some (.aload_n 0, 1, 0, 0, 0, 0) := by decide +kernel
theorem tX9_isBlack_47 : gAt mX9_isBlack 47 = some (.getfield 113, 3, 10, 41, 2, 1080) := by decide +kernel
theorem tX9_isBlack_50 : gAt mX9_isBlack 50 = some (.iload 5, 2, 0, 0, 0, 0) := by decide +kernel
theorem tX9_isBlack_52 : gAt mX9_isBlack 52 = some (.iaload, 1, 112, 0, 0, 0) := by decide +kernel
theorem tX9_isBlack_53 : gAt mX9_isBlack 53 = some (.iload_n 2, 1, 0, 0, 0, 0) := by decide +kernel
theorem tX9_isBlack_54 : gAt mX9_isBlack 54 = some (.if_icmp .lt 27, 3, 81, 0, 0, 0) := by decide +kernel
theorem tX9_isBlack_57 : gAt mX9_isBlack 57 = some (.aload_n 0, 1, 0, 0, 0, 0) := by decide +kernel
theorem tX9_isBlack_58 : gAt mX9_isBlack 58 = some (.aload_n 0, 1, 0, 0, 0, 0) := by decide +kernel
theorem tX9_isBlack_59 : gAt mX9_isBlack 59 = some (.getfield 116, 3, 10, 42, 2, 1081) := by decide +kernel
theorem tX9_isBlack_62 : gAt mX9_isBlack 62 = some (.iload 5, 2, 0, 0, 0, 0) := by decide +kernel
theorem tX9_isBlack_64 : gAt mX9_isBlack 64 = some (.iaload, 1, 112, 0, 0, 0) := by decide +kernel
theorem tX9_isBlack_65 : gAt mX9_isBlack 65 = some (.aload_n 0, 1, 0, 0, 0, 0) := by decide +kernel
theorem tX9_isBlack_66 : gAt mX9_isBlack 66 = some (.getfield 88, 3, 10, 32, 2, 1071) := by decide +kernel
theorem tX9_isBlack_69 : gAt mX9_isBlack 69 = some (.iload_n 1, 1, 0, 0, 0, 0) := by decide +kernel
theorem tX9_isBlack_70 : gAt mX9_isBlack 70 = some (.iaload, 1, 112, 0, 0, 0) := by decide +kernel
theorem tX9_isBlack_71 : gAt mX9_isBlack 71 = some (.invokevirtual 318, 3, 146, 2, 10, 1400) := by decide +kernel
theorem tX9_isBlack_74 : gAt mX9_isBlack 74 = some (.ifCond .eq 7, 3, 81, 0, 0, 0) := by decide +kernel
theorem tX9_isBlack_77 : gAt mX9_isBlack 77 = some (.iconst 1, 1, 1, 0, 0, 0) := by decide +kernel
theorem tX9_isBlack_78 : gAt mX9_isBlack 78 = some (.goto 4, 3, 82, 0, 0, 0) := by decide +kernel
theorem tX9_isBlack_81 : gAt mX9_isBlack 81 = some (.iconst 0, 1, 0, 0, 0, 0) := by decide +kernel
theorem tX9_isBlack_82 : gAt mX9_isBlack 82 = some (.istore 4, 2, 0, 0, 0, 0) := by decide +kernel
theorem tX9_isBlack_84 : gAt mX9_isBlack 84 = some (.iinc 5 1, 3, 1, 0, 0, 0) := by decide +kernel
theorem tX9_isBlack_87 : gAt mX9_isBlack 87 = some (.goto (-72), 3, 15, 0, 0, 0) := by decide +kernel
theorem tX9_isBlack_90 : gAt mX9_isBlack 90 = some (.iload 4, 2, 0, 0, 0, 0) := by decide +kernel
theorem tX9_isBlack_92 : gAt mX9_isBlack 92 = some (.ireturn, 1, 1, 0, 0, 0) := by decide +kernel
set_option maxRecDepth 100000 in
theorem okX9_wordOn : (gTb mX9_wordOn).all (okE gF gNM mX9_wordOn) = true := by decide +kernel
theorem pnX9_wordOn : plainName (gY mX9_wordOn).cls = true := by decide +kernel
theorem tX9_wordOn_0 : gAt mX9_wordOn 0 = some (.aload_n 0, 1, 0, 0, 0, 0) := by decide +kernel
theorem tX9_wordOn_1 : gAt mX9_wordOn 1 = some (.iload_n 1, 1, 0, 0, 0, 0) := by decide +kernel
theorem tX9_wordOn_2 : gAt mX9_wordOn 2 = some (.iload_n 2, 1, 0, 0, 0, 0) := by decide +kernel
theorem tX9_wordOn_3 : gAt mX9_wordOn 3 = some (.invokevirtual 322, 3, 147, 2, 10, 1396) := by decide +kernel
theorem tX9_wordOn_6 : gAt mX9_wordOn 6 = some (.ifCond .eq 7, 3, 13, 0, 0, 0) := by decide +kernel
theorem tX9_wordOn_9 : gAt mX9_wordOn 9 = some (.iconst 0, 1, 0, 0, 0, 0) := by decide +kernel
theorem tX9_wordOn_10 : gAt mX9_wordOn 10 = some (.goto 14, 3, 24, 0, 0, 0) := by decide +kernel
theorem tX9_wordOn_13 : gAt mX9_wordOn 13 = some (.aload_n 0, 1, 0, 0, 0, 0) := by decide +kernel
theorem tX9_wordOn_14 : gAt mX9_wordOn 14 = some (.getfield 97, 3, 10, 35, 2, 1074) := by decide +kernel
theorem tX9_wordOn_17 : gAt mX9_wordOn 17 = some (.bipush 12, 2, 12, 0, 0, 0) := by decide +kernel
theorem tX9_wordOn_19 : gAt mX9_wordOn 19 = some (.iload_n 1, 1, 0, 0, 0, 0) := by decide +kernel
theorem tX9_wordOn_20 : gAt mX9_wordOn 20 = some (.imul, 1, 0, 0, 0, 0) := by decide +kernel
theorem tX9_wordOn_21 : gAt mX9_wordOn 21 = some (.iload_n 2, 1, 0, 0, 0, 0) := by decide +kernel
theorem tX9_wordOn_22 : gAt mX9_wordOn 22 = some (.iadd, 1, 0, 0, 0, 0) := by decide +kernel
theorem tX9_wordOn_23 : gAt mX9_wordOn 23 = some (.iaload, 1, 112, 0, 0, 0) := by decide +kernel
theorem tX9_wordOn_24 : gAt mX9_wordOn 24 = some (.ireturn, 1, 0, 0, 0, 0) := by decide +kernel
set_option maxRecDepth 100000 in
theorem okX9_blacks : (gTb mX9_blacks).all (okE gF gNM mX9_blacks) = true := by decide +kernel
theorem pnX9_blacks : plainName (gY mX9_blacks).cls = true := by decide +kernel
theorem tX9_blacks_0 : gAt mX9_blacks 0 = some (.iconst 0, 1, 0, 0, 0, 0) := by decide +kernel
theorem tX9_blacks_1 : gAt mX9_blacks 1 = some (.istore_n 2, 1, 0, 0, 0, 0) := by decide +kernel
theorem tX9_blacks_2 : gAt mX9_blacks 2 = some (.iconst 0, 1, 0, 0, 0, 0) := by decide +kernel
theorem tX9_blacks_3 : gAt mX9_blacks 3 = some (.istore_n 3, 1, 0, 0, 0, 0) := by decide +kernel
theorem tX9_blacks_4 : gAt mX9_blacks 4 = some (.iload_n 3, 1, 0, 0, 0, 0) := by decide +kernel
theorem tX9_blacks_5 : gAt mX9_blacks 5 = some (.aload_n 0, 1, 0, 0, 0, 0) := by decide +kernel
theorem tX9_blacks_6 : gAt mX9_blacks 6 = some (.getfield 94, 3, 10, 34, 2, 1073) := by decide +kernel
theorem tX9_blacks_9 : gAt mX9_blacks 9 = some (.iload_n 1, 1, 0, 0, 0, 0) := by decide +kernel
theorem tX9_blacks_10 : gAt mX9_blacks 10 = some (.iaload, 1, 112, 0, 0, 0) := by decide +kernel
theorem tX9_blacks_11 : gAt mX9_blacks 11 = some (.if_icmp .ge 26, 3, 37, 0, 0, 0) := by decide +kernel
theorem tX9_blacks_14 : gAt mX9_blacks 14 = some (.iload_n 2, 1, 0, 0, 0, 0) := by decide +kernel
theorem tX9_blacks_15 : gAt mX9_blacks 15 = some (.aload_n 0, 1, 0, 0, 0, 0) := by decide +kernel
theorem tX9_blacks_16 : gAt mX9_blacks 16 = some (.iload_n 1, 1, 0, 0, 0, 0) := by decide +kernel
theorem tX9_blacks_17 : gAt mX9_blacks 17 = some (.iload_n 3, 1, 0, 0, 0, 0) := by decide +kernel
theorem tX9_blacks_18 : gAt mX9_blacks 18 = some (.invokevirtual 322, 3, 147, 2, 10, 1396) := by decide +kernel
theorem tX9_blacks_21 : gAt mX9_blacks 21 = some (.ifCond .eq 7, 3, 28, 0, 0, 0) := by decide +kernel
theorem tX9_blacks_24 : gAt mX9_blacks 24 = some (.iconst 1, 1, 1, 0, 0, 0) := by decide +kernel
theorem tX9_blacks_25 : gAt mX9_blacks 25 = some (.goto 4, 3, 29, 0, 0, 0) := by decide +kernel
theorem tX9_blacks_28 : gAt mX9_blacks 28 = some (.iconst 0, 1, 0, 0, 0, 0) := by decide +kernel
theorem tX9_blacks_29 : gAt mX9_blacks 29 = some (.iadd, 1, 0, 0, 0, 0) := by decide +kernel
theorem tX9_blacks_30 : gAt mX9_blacks 30 = some (.istore_n 2, 1, 0, 0, 0, 0) := by decide +kernel
theorem tX9_blacks_31 : gAt mX9_blacks 31 = some (.iinc 3 1, 3, 1, 0, 0, 0) := by decide +kernel
theorem tX9_blacks_34 : gAt mX9_blacks 34 = some (.goto (-30), 3, 4, 0, 0, 0) := by decide +kernel
theorem tX9_blacks_37 : gAt mX9_blacks 37 = some (.iload_n 2, 1, 0, 0, 0, 0) := by decide +kernel
theorem tX9_blacks_38 : gAt mX9_blacks 38 = some (.ireturn, 1, 0, 0, 0, 0) := by decide +kernel
set_option maxRecDepth 100000 in
theorem okX9_read : (gTb mX9_read).all (okE gF gNM mX9_read) = true := by decide +kernel
theorem pnX9_read : plainName (gY mX9_read).cls = true := by decide +kernel
theorem tX9_read_0 : gAt mX9_read 0 = some (.aload_n 0, 1, 0, 0, 0, 0) := by decide +kernel
theorem tX9_read_1 : gAt mX9_read 1 = some (.iconst 0, 1, 0, 0, 0, 0) := by decide +kernel
theorem tX9_read_2 : gAt mX9_read 2 = some (.putfield 174, 3, 10, 0, 0, 1039) := by decide +kernel
theorem tX9_read_5 : gAt mX9_read 5 = some (.iload_n 1, 1, 0, 0, 0, 0) := by decide +kernel
theorem tX9_read_6 : gAt mX9_read 6 = some (.ifCond .lt 21, 3, 27, 0, 0, 0) := by decide +kernel
theorem tX9_read_9 : gAt mX9_read 9 = some (.iload_n 1, 1, 0, 0, 0, 0) := by decide +kernel
theorem tX9_read_10 : gAt mX9_read 10 = some (.aload_n 0, 1, 0, 0, 0, 0) := by decide +kernel
theorem tX9_read_11 : gAt mX9_read 11 = some (.getfield 291, 3, 10, 31, 0, 1070) := by decide +kernel
theorem tX9_read_14 : gAt mX9_read 14 = some (.if_icmp .ge 13, 3, 27, 0, 0, 0) := by decide +kernel
theorem tX9_read_17 : gAt mX9_read 17 = some (.iload_n 2, 1, 0, 0, 0, 0) := by decide +kernel
theorem tX9_read_18 : gAt mX9_read 18 = some (.ifCond .lt 9, 3, 27, 0, 0, 0) := by decide +kernel
theorem tX9_read_21 : gAt mX9_read 21 = some (.iload_n 2, 1, 0, 0, 0, 0) := by decide +kernel
theorem tX9_read_22 : gAt mX9_read 22 = some (.bipush 15, 2, 15, 0, 0, 0) := by decide +kernel
theorem tX9_read_24 : gAt mX9_read 24 = some (.if_icmp .le 5, 3, 29, 0, 0, 0) := by decide +kernel
theorem tX9_read_27 : gAt mX9_read 27 = some (.iconst (-1), 1, 1, 1, 0, 0) := by decide +kernel
theorem tX9_read_28 : gAt mX9_read 28 = some (.ireturn, 1, 0, 0, 0, 0) := by decide +kernel
theorem tX9_read_29 : gAt mX9_read 29 = some (.iload_n 2, 1, 0, 0, 0, 0) := by decide +kernel
theorem tX9_read_30 : gAt mX9_read 30 = some (.iconst 3, 1, 3, 0, 0, 0) := by decide +kernel
theorem tX9_read_31 : gAt mX9_read 31 = some (.if_icmp .le 28, 3, 59, 0, 0, 0) := by decide +kernel
theorem tX9_read_34 : gAt mX9_read 34 = some (.iload_n 2, 1, 0, 0, 0, 0) := by decide +kernel
theorem tX9_read_35 : gAt mX9_read 35 = some (.iconst 4, 1, 4, 0, 0, 0) := by decide +kernel
theorem tX9_read_36 : gAt mX9_read 36 = some (.isub, 1, 0, 0, 0, 0) := by decide +kernel
theorem tX9_read_37 : gAt mX9_read 37 = some (.aload_n 0, 1, 0, 0, 0, 0) := by decide +kernel
theorem tX9_read_38 : gAt mX9_read 38 = some (.getfield 94, 3, 10, 34, 2, 1073) := by decide +kernel
theorem tX9_read_41 : gAt mX9_read 41 = some (.iload_n 1, 1, 0, 0, 0, 0) := by decide +kernel
theorem tX9_read_42 : gAt mX9_read 42 = some (.iaload, 1, 112, 0, 0, 0) := by decide +kernel
theorem tX9_read_43 : gAt mX9_read 43 = some (.if_icmp .ge 14, 3, 57, 0, 0, 0) := by decide +kernel
theorem tX9_read_46 : gAt mX9_read 46 = some (.aload_n 0, 1, 0, 0, 0, 0) := by decide +kernel
theorem tX9_read_47 : gAt mX9_read 47 = some (.iload_n 1, 1, 0, 0, 0, 0) := by decide +kernel
theorem tX9_read_48 : gAt mX9_read 48 = some (.iload_n 2, 1, 0, 0, 0, 0) := by decide +kernel
theorem tX9_read_49 : gAt mX9_read 49 = some (.iconst 4, 1, 4, 0, 0, 0) := by decide +kernel
theorem tX9_read_50 : gAt mX9_read 50 = some (.isub, 1, 0, 0, 0, 0) := by decide +kernel
theorem tX9_read_51 : gAt mX9_read 51 = some (.invokevirtual 325, 3, 148, 2, 10, 1392) := by decide +kernel
theorem tX9_read_54 : gAt mX9_read 54 = some (.goto 4, 3, 58, 0, 0, 0) := by decide +kernel
theorem tX9_read_57 : gAt mX9_read 57 = some (.iconst (-1), 1, 1, 1, 0, 0) := by decide +kernel
theorem tX9_read_58 : gAt mX9_read 58 = some (.ireturn, 1, 0, 0, 0, 0) := by decide +kernel
theorem tX9_read_59 : gAt mX9_read 59 = some (.iload_n 2, 1, 0, 0, 0, 0) := by decide +kernel
theorem tX9_read_60 : gAt mX9_read 60 = some (.ifCond .ne 12, 3, 72, 0, 0, 0) := by decide +kernel
theorem tX9_read_63 : gAt mX9_read 63 = some (.aload_n 0, 1, 0, 0, 0, 0) := by decide +kernel
theorem tX9_read_64 : gAt mX9_read 64 = some (.getfield 88, 3, 10, 32, 2, 1071) := by decide +kernel
theorem tX9_read_67 : gAt mX9_read 67 = some (.iload_n 1, 1, 0, 0, 0, 0) := by decide +kernel
theorem tX9_read_68 : gAt mX9_read 68 = some (.iaload, 1, 112, 0, 0, 0) := by decide +kernel
theorem tX9_read_69 : gAt mX9_read 69 = some (.goto 36, 3, 105, 0, 0, 0) := by decide +kernel
theorem tX9_read_72 : gAt mX9_read 72 = some (.iload_n 2, 1, 0, 0, 0, 0) := by decide +kernel
theorem tX9_read_73 : gAt mX9_read 73 = some (.iconst 1, 1, 1, 0, 0, 0) := by decide +kernel
theorem tX9_read_74 : gAt mX9_read 74 = some (.if_icmp .ne 12, 3, 86, 0, 0, 0) := by decide +kernel
theorem tX9_read_77 : gAt mX9_read 77 = some (.aload_n 0, 1, 0, 0, 0, 0) := by decide +kernel
theorem tX9_read_78 : gAt mX9_read 78 = some (.getfield 91, 3, 10, 33, 2, 1072) := by decide +kernel
theorem tX9_read_81 : gAt mX9_read 81 = some (.iload_n 1, 1, 0, 0, 0, 0) := by decide +kernel
theorem tX9_read_82 : gAt mX9_read 82 = some (.iaload, 1, 112, 0, 0, 0) := by decide +kernel
theorem tX9_read_83 : gAt mX9_read 83 = some (.goto 22, 3, 105, 0, 0, 0) := by decide +kernel
theorem tX9_read_86 : gAt mX9_read 86 = some (.iload_n 2, 1, 0, 0, 0, 0) := by decide +kernel
theorem tX9_read_87 : gAt mX9_read 87 = some (.iconst 2, 1, 2, 0, 0, 0) := by decide +kernel
theorem tX9_read_88 : gAt mX9_read 88 = some (.if_icmp .ne 12, 3, 100, 0, 0, 0) := by decide +kernel
theorem tX9_read_91 : gAt mX9_read 91 = some (.aload_n 0, 1, 0, 0, 0, 0) := by decide +kernel
theorem tX9_read_92 : gAt mX9_read 92 = some (.getfield 94, 3, 10, 34, 2, 1073) := by decide +kernel
theorem tX9_read_95 : gAt mX9_read 95 = some (.iload_n 1, 1, 0, 0, 0, 0) := by decide +kernel
theorem tX9_read_96 : gAt mX9_read 96 = some (.iaload, 1, 112, 0, 0, 0) := by decide +kernel
theorem tX9_read_97 : gAt mX9_read 97 = some (.goto 8, 3, 105, 0, 0, 0) := by decide +kernel
theorem tX9_read_100 : gAt mX9_read 100 = some (.aload_n 0, 1, 0, 0, 0, 0) := by decide +kernel
theorem tX9_read_101 : gAt mX9_read 101 = some (.iload_n 1, 1, 0, 0, 0, 0) := by decide +kernel
theorem tX9_read_102 : gAt mX9_read 102 = some (.invokevirtual 329, 3, 149, 1, 10, 1415) := by decide +kernel
theorem tX9_read_105 : gAt mX9_read 105 = some (.ireturn, 1, 0, 0, 0, 0) := by decide +kernel
set_option maxRecDepth 100000 in
theorem okX9_ask : (gTb mX9_ask).all (okE gF gNM mX9_ask) = true := by decide +kernel
theorem pnX9_ask : plainName (gY mX9_ask).cls = true := by decide +kernel
theorem tX9_ask_0 : gAt mX9_ask 0 = some (.aload_n 0, 1, 0, 0, 0, 0) := by decide +kernel
theorem tX9_ask_1 : gAt mX9_ask 1 = some (.iconst 0, 1, 0, 0, 0, 0) := by decide +kernel
theorem tX9_ask_2 : gAt mX9_ask 2 = some (.putfield 174, 3, 10, 0, 0, 1039) := by decide +kernel
theorem tX9_ask_5 : gAt mX9_ask 5 = some (.aload_n 0, 1, 0, 0, 0, 0) := by decide +kernel
theorem tX9_ask_6 : gAt mX9_ask 6 = some (.iload_n 1, 1, 0, 0, 0, 0) := by decide +kernel
theorem tX9_ask_7 : gAt mX9_ask 7 = some (.invokevirtual 276, 3, 127, 1, 10, 1330) := by decide +kernel
theorem tX9_ask_10 : gAt mX9_ask 10 = some (.ifCond .eq 36, 3, 46, 0, 0, 0) := by decide +kernel
theorem tX9_ask_13 : gAt mX9_ask 13 = some (.iload_n 2, 1, 0, 0, 0, 0) := by decide +kernel
theorem tX9_ask_14 : gAt mX9_ask 14 = some (.ifCond .lt 32, 3, 46, 0, 0, 0) := by decide +kernel
theorem tX9_ask_17 : gAt mX9_ask 17 = some (.iload_n 3, 1, 0, 0, 0, 0) := by decide +kernel
theorem tX9_ask_18 : gAt mX9_ask 18 = some (.sipush 5000, 3, 5000, 0, 0, 0) := by decide +kernel
theorem tX9_ask_21 : gAt mX9_ask 21 = some (.if_icmp .ge 25, 3, 46, 0, 0, 0) := by decide +kernel
theorem tX9_ask_24 : gAt mX9_ask 24 = some (.iload_n 2, 1, 0, 0, 0, 0) := by decide +kernel
theorem tX9_ask_25 : gAt mX9_ask 25 = some (.iload_n 3, 1, 0, 0, 0, 0) := by decide +kernel
theorem tX9_ask_26 : gAt mX9_ask 26 = some (.if_icmp .gt 20, 3, 46, 0, 0, 0) := by decide +kernel
theorem tX9_ask_29 : gAt mX9_ask 29 = some (.aload_n 0, 1, 0, 0, 0, 0) := by decide +kernel
theorem tX9_ask_30 : gAt mX9_ask 30 = some (.getfield 282, 3, 10, 44, 0, 1083) := by decide +kernel
theorem tX9_ask_33 : gAt mX9_ask 33 = some (.iconst 4, 1, 4, 0, 0, 0) := by decide +kernel
theorem tX9_ask_34 : gAt mX9_ask 34 = some (.if_icmp .gt 12, 3, 46, 0, 0, 0) := by decide +kernel
theorem tX9_ask_37 : gAt mX9_ask 37 = some (.aload_n 0, 1, 0, 0, 0, 0) := by decide +kernel
theorem tX9_ask_38 : gAt mX9_ask 38 = some (.getfield 332, 3, 10, 46, 0, 1085) := by decide +kernel
theorem tX9_ask_41 : gAt mX9_ask 41 = some (.bipush 20, 2, 20, 0, 0, 0) := by decide +kernel
theorem tX9_ask_43 : gAt mX9_ask 43 = some (.if_icmp .ne 5, 3, 48, 0, 0, 0) := by decide +kernel
theorem tX9_ask_46 : gAt mX9_ask 46 = some (.iconst (-1), 1, 1, 1, 0, 0) := by decide +kernel
theorem tX9_ask_47 : gAt mX9_ask 47 = some (.ireturn, 1, 0, 0, 0, 0) := by decide +kernel
theorem tX9_ask_48 : gAt mX9_ask 48 = some (.aload_n 0, 1, 0, 0, 0, 0) := by decide +kernel
theorem tX9_ask_49 : gAt mX9_ask 49 = some (.getfield 332, 3, 10, 46, 0, 1085) := by decide +kernel
theorem tX9_ask_52 : gAt mX9_ask 52 = some (.istore 4, 2, 0, 0, 0, 0) := by decide +kernel
theorem tX9_ask_54 : gAt mX9_ask 54 = some (.aload_n 0, 1, 0, 0, 0, 0) := by decide +kernel
theorem tX9_ask_55 : gAt mX9_ask 55 = some (.getfield 125, 3, 10, 47, 2, 1086) := by decide +kernel
theorem tX9_ask_58 : gAt mX9_ask 58 = some (.iload 4, 2, 0, 0, 0, 0) := by decide +kernel
theorem tX9_ask_60 : gAt mX9_ask 60 = some (.iload_n 1, 1, 0, 0, 0, 0) := by decide +kernel
theorem tX9_ask_61 : gAt mX9_ask 61 = some (.iastore, 1, 112, 0, 0, 0) := by decide +kernel
theorem tX9_ask_62 : gAt mX9_ask 62 = some (.aload_n 0, 1, 0, 0, 0, 0) := by decide +kernel
theorem tX9_ask_63 : gAt mX9_ask 63 = some (.getfield 128, 3, 10, 48, 2, 1087) := by decide +kernel
theorem tX9_ask_66 : gAt mX9_ask 66 = some (.iload 4, 2, 0, 0, 0, 0) := by decide +kernel
theorem tX9_ask_68 : gAt mX9_ask 68 = some (.iload_n 2, 1, 0, 0, 0, 0) := by decide +kernel
theorem tX9_ask_69 : gAt mX9_ask 69 = some (.iastore, 1, 112, 0, 0, 0) := by decide +kernel
theorem tX9_ask_70 : gAt mX9_ask 70 = some (.aload_n 0, 1, 0, 0, 0, 0) := by decide +kernel
theorem tX9_ask_71 : gAt mX9_ask 71 = some (.getfield 131, 3, 10, 49, 2, 1088) := by decide +kernel
theorem tX9_ask_74 : gAt mX9_ask 74 = some (.iload 4, 2, 0, 0, 0, 0) := by decide +kernel
theorem tX9_ask_76 : gAt mX9_ask 76 = some (.iload_n 3, 1, 0, 0, 0, 0) := by decide +kernel
theorem tX9_ask_77 : gAt mX9_ask 77 = some (.iastore, 1, 112, 0, 0, 0) := by decide +kernel
theorem tX9_ask_78 : gAt mX9_ask 78 = some (.aload_n 0, 1, 0, 0, 0, 0) := by decide +kernel
theorem tX9_ask_79 : gAt mX9_ask 79 = some (.getfield 134, 3, 10, 50, 2, 1089) := by decide +kernel
theorem tX9_ask_82 : gAt mX9_ask 82 = some (.iload 4, 2, 0, 0, 0, 0) := by decide +kernel
theorem tX9_ask_84 : gAt mX9_ask 84 = some (.aload_n 0, 1, 0, 0, 0, 0) := by decide +kernel
theorem tX9_ask_85 : gAt mX9_ask 85 = some (.getfield 282, 3, 10, 44, 0, 1083) := by decide +kernel
theorem tX9_ask_88 : gAt mX9_ask 88 = some (.iastore, 1, 112, 0, 0, 0) := by decide +kernel
theorem tX9_ask_89 : gAt mX9_ask 89 = some (.iconst 0, 1, 0, 0, 0, 0) := by decide +kernel
theorem tX9_ask_90 : gAt mX9_ask 90 = some (.istore 5, 2, 0, 0, 0, 0) := by decide +kernel
theorem tX9_ask_92 : gAt mX9_ask 92 = some (.iload 5, 2, 0, 0, 0, 0) := by decide +kernel
theorem tX9_ask_94 : gAt mX9_ask 94 = some (.aload_n 0, 1, 0, 0, 0, 0) := by decide +kernel
theorem tX9_ask_95 : gAt mX9_ask 95 = some (.getfield 282, 3, 10, 44, 0, 1083) := by decide +kernel
theorem tX9_ask_98 : gAt mX9_ask 98 = some (.if_icmp .ge 28, 3, 126, 0, 0, 0) := by decide +kernel
theorem tX9_ask_101 : gAt mX9_ask 101 = some (.aload_n 0, 1, 0, 0, 0, 0) := by decide +kernel
theorem tX9_ask_102 : gAt mX9_ask 102 = some (.getfield 137, 3, 10, 51, 2, 1090) := by decide +kernel
theorem tX9_ask_105 : gAt mX9_ask 105 = some (.iconst 4, 1, 4, 0, 0, 0) := by decide +kernel
theorem tX9_ask_106 : gAt mX9_ask 106 = some (.iload 4, 2, 0, 0, 0, 0) := by decide +kernel
theorem tX9_ask_108 : gAt mX9_ask 108 = some (.imul, 1, 0, 0, 0, 0) := by decide +kernel
theorem tX9_ask_109 : gAt mX9_ask 109 = some (.iload 5, 2, 0, 0, 0, 0) := by decide +kernel
theorem tX9_ask_111 : gAt mX9_ask 111 = some (.iadd, 1, 0, 0, 0, 0) := by decide +kernel
theorem tX9_ask_112 : gAt mX9_ask 112 = some (.aload_n 0, 1, 0, 0, 0, 0) := by decide +kernel
theorem tX9_ask_113 : gAt mX9_ask 113 = some (.getfield 122, 3, 10, 45, 2, 1084) := by decide +kernel
theorem tX9_ask_116 : gAt mX9_ask 116 = some (.iload 5, 2, 0, 0, 0, 0) := by decide +kernel
theorem tX9_ask_118 : gAt mX9_ask 118 = some (.iaload, 1, 112, 0, 0, 0) := by decide +kernel
theorem tX9_ask_119 : gAt mX9_ask 119 = some (.iastore, 1, 112, 0, 0, 0) := by decide +kernel
theorem tX9_ask_120 : gAt mX9_ask 120 = some (.iinc 5 1, 3, 1, 0, 0, 0) := by decide +kernel
theorem tX9_ask_123 : gAt mX9_ask 123 = some (.goto (-31), 3, 92, 0, 0, 0) := by decide +kernel
theorem tX9_ask_126 : gAt mX9_ask 126 = some (.aload_n 0, 1, 0, 0, 0, 0) := by decide +kernel
theorem tX9_ask_127 : gAt mX9_ask 127 = some (.iconst 0, 1, 0, 0, 0, 0) := by decide +kernel
theorem tX9_ask_128 : gAt mX9_ask 128 = some (.putfield 282, 3, 10, 44, 0, 1083) := by decide +kernel
theorem tX9_ask_131 : gAt mX9_ask 131 = some (.aload_n 0, 1, 0, 0, 0, 0) := by decide +kernel
theorem tX9_ask_132 : gAt mX9_ask 132 = some (.getfield 140, 3, 10, 52, 2, 1091) := by decide +kernel
theorem tX9_ask_135 : gAt mX9_ask 135 = some (.iload 4, 2, 0, 0, 0, 0) := by decide +kernel
theorem tX9_ask_137 : gAt mX9_ask 137 = some (.aload_n 0, 1, 0, 0, 0, 0) := by decide +kernel
theorem tX9_ask_138 : gAt mX9_ask 138 = some (.getfield 273, 3, 10, 24, 0, 1063) := by decide +kernel
theorem tX9_ask_141 : gAt mX9_ask 141 = some (.iastore, 1, 112, 0, 0, 0) := by decide +kernel
theorem tX9_ask_142 : gAt mX9_ask 142 = some (.aload_n 0, 1, 0, 0, 0, 0) := by decide +kernel
theorem tX9_ask_143 : gAt mX9_ask 143 = some (.getfield 146, 3, 10, 54, 2, 1093) := by decide +kernel
theorem tX9_ask_146 : gAt mX9_ask 146 = some (.iload 4, 2, 0, 0, 0, 0) := by decide +kernel
theorem tX9_ask_148 : gAt mX9_ask 148 = some (.iconst (-1), 1, 1, 1, 0, 0) := by decide +kernel
theorem tX9_ask_149 : gAt mX9_ask 149 = some (.iastore, 1, 112, 0, 0, 0) := by decide +kernel
theorem tX9_ask_150 : gAt mX9_ask 150 = some (.aload_n 0, 1, 0, 0, 0, 0) := by decide +kernel
theorem tX9_ask_151 : gAt mX9_ask 151 = some (.getfield 143, 3, 10, 53, 2, 1092) := by decide +kernel
theorem tX9_ask_154 : gAt mX9_ask 154 = some (.iload 4, 2, 0, 0, 0, 0) := by decide +kernel
theorem tX9_ask_156 : gAt mX9_ask 156 = some (.iconst (-1), 1, 1, 1, 0, 0) := by decide +kernel
theorem tX9_ask_157 : gAt mX9_ask 157 = some (.iastore, 1, 112, 0, 0, 0) := by decide +kernel
theorem tX9_ask_158 : gAt mX9_ask 158 = some (.iload 4, 2, 0, 0, 0, 0) := by decide +kernel
theorem tX9_ask_160 : gAt mX9_ask 160 = some (.iconst 1, 1, 1, 0, 0, 0) := by decide +kernel
theorem tX9_ask_161 : gAt mX9_ask 161 = some (.isub, 1, 0, 0, 0, 0) := by decide +kernel
theorem tX9_ask_162 : gAt mX9_ask 162 = some (.istore 5, 2, 0, 0, 0, 0) := by decide +kernel
theorem tX9_ask_164 : gAt mX9_ask 164 = some (.iload 5, 2, 0, 0, 0, 0) := by decide +kernel
theorem tX9_ask_166 : gAt mX9_ask 166 = some (.ifCond .lt 95, 3, 261, 0, 0, 0) := by decide +kernel
theorem tX9_ask_169 : gAt mX9_ask 169 = some (.aload_n 0, 1, 0, 0, 0, 0) := by decide +kernel
theorem tX9_ask_170 : gAt mX9_ask 170 = some (.getfield 125, 3, 10, 47, 2, 1086) := by decide +kernel
theorem tX9_ask_173 : gAt mX9_ask 173 = some (.iload 5, 2, 0, 0, 0, 0) := by decide +kernel
theorem tX9_ask_175 : gAt mX9_ask 175 = some (.iaload, 1, 112, 0, 0, 0) := by decide +kernel
theorem tX9_ask_176 : gAt mX9_ask 176 = some (.iload_n 1, 1, 0, 0, 0, 0) := by decide +kernel
theorem tX9_ask_177 : gAt mX9_ask 177 = some (.if_icmp .ne 51, 3, 228, 0, 0, 0) := by decide +kernel
theorem tX9_ask_180 : gAt mX9_ask 180 = some (.aload_n 0, 1, 0, 0, 0, 0) := by decide +kernel
theorem tX9_ask_181 : gAt mX9_ask 181 = some (.getfield 128, 3, 10, 48, 2, 1087) := by decide +kernel
theorem tX9_ask_184 : gAt mX9_ask 184 = some (.iload 5, 2, 0, 0, 0, 0) := by decide +kernel
theorem tX9_ask_186 : gAt mX9_ask 186 = some (.iaload, 1, 112, 0, 0, 0) := by decide +kernel
theorem tX9_ask_187 : gAt mX9_ask 187 = some (.iload_n 2, 1, 0, 0, 0, 0) := by decide +kernel
theorem tX9_ask_188 : gAt mX9_ask 188 = some (.if_icmp .ne 40, 3, 228, 0, 0, 0) := by decide +kernel
theorem tX9_ask_191 : gAt mX9_ask 191 = some (.aload_n 0, 1, 0, 0, 0, 0) := by decide +kernel
theorem tX9_ask_192 : gAt mX9_ask 192 = some (.getfield 131, 3, 10, 49, 2, 1088) := by decide +kernel
theorem tX9_ask_195 : gAt mX9_ask 195 = some (.iload 5, 2, 0, 0, 0, 0) := by decide +kernel
theorem tX9_ask_197 : gAt mX9_ask 197 = some (.iaload, 1, 112, 0, 0, 0) := by decide +kernel
theorem tX9_ask_198 : gAt mX9_ask 198 = some (.iload_n 3, 1, 0, 0, 0, 0) := by decide +kernel
theorem tX9_ask_199 : gAt mX9_ask 199 = some (.if_icmp .ne 29, 3, 228, 0, 0, 0) := by decide +kernel
theorem tX9_ask_202 : gAt mX9_ask 202 = some (.aload_n 0, 1, 0, 0, 0, 0) := by decide +kernel
theorem tX9_ask_203 : gAt mX9_ask 203 = some (.iload 4, 2, 0, 0, 0, 0) := by decide +kernel
theorem tX9_ask_205 : gAt mX9_ask 205 = some (.iload 5, 2, 0, 0, 0, 0) := by decide +kernel
theorem tX9_ask_207 : gAt mX9_ask 207 = some (.invokevirtual 335, 3, 153, 2, 10, 1423) := by decide +kernel
theorem tX9_ask_210 : gAt mX9_ask 210 = some (.ifCond .eq 18, 3, 228, 0, 0, 0) := by decide +kernel
theorem tX9_ask_213 : gAt mX9_ask 213 = some (.aload_n 0, 1, 0, 0, 0, 0) := by decide +kernel
theorem tX9_ask_214 : gAt mX9_ask 214 = some (.iload 5, 2, 0, 0, 0, 0) := by decide +kernel
theorem tX9_ask_216 : gAt mX9_ask 216 = some (.iload 4, 2, 0, 0, 0, 0) := by decide +kernel
theorem tX9_ask_218 : gAt mX9_ask 218 = some (.invokevirtual 335, 3, 153, 2, 10, 1423) := by decide +kernel
theorem tX9_ask_221 : gAt mX9_ask 221 = some (.ifCond .eq 7, 3, 228, 0, 0, 0) := by decide +kernel
theorem tX9_ask_224 : gAt mX9_ask 224 = some (.iconst 1, 1, 1, 0, 0, 0) := by decide +kernel
theorem tX9_ask_225 : gAt mX9_ask 225 = some (.goto 4, 3, 229, 0, 0, 0) := by decide +kernel
theorem tX9_ask_228 : gAt mX9_ask 228 = some (.iconst 0, 1, 0, 0, 0, 0) := by decide +kernel
theorem tX9_ask_229 : gAt mX9_ask 229 = some (.istore 6, 2, 0, 0, 0, 0) := by decide +kernel
theorem tX9_ask_231 : gAt mX9_ask 231 = some (.aload_n 0, 1, 0, 0, 0, 0) := by decide +kernel
theorem tX9_ask_232 : gAt mX9_ask 232 = some (.getfield 143, 3, 10, 53, 2, 1092) := by decide +kernel
theorem tX9_ask_235 : gAt mX9_ask 235 = some (.iload 4, 2, 0, 0, 0, 0) := by decide +kernel
theorem tX9_ask_237 : gAt mX9_ask 237 = some (.iload 6, 2, 0, 0, 0, 0) := by decide +kernel
theorem tX9_ask_239 : gAt mX9_ask 239 = some (.ifCond .eq 8, 3, 247, 0, 0, 0) := by decide +kernel
theorem tX9_ask_242 : gAt mX9_ask 242 = some (.iload 5, 2, 0, 0, 0, 0) := by decide +kernel
theorem tX9_ask_244 : gAt mX9_ask 244 = some (.goto 10, 3, 254, 0, 0, 0) := by decide +kernel
theorem tX9_ask_247 : gAt mX9_ask 247 = some (.aload_n 0, 1, 0, 0, 0, 0) := by decide +kernel
theorem tX9_ask_248 : gAt mX9_ask 248 = some (.getfield 143, 3, 10, 53, 2, 1092) := by decide +kernel
theorem tX9_ask_251 : gAt mX9_ask 251 = some (.iload 4, 2, 0, 0, 0, 0) := by decide +kernel
theorem tX9_ask_253 : gAt mX9_ask 253 = some (.iaload, 1, 112, 0, 0, 0) := by decide +kernel
theorem tX9_ask_254 : gAt mX9_ask 254 = some (.iastore, 1, 112, 0, 0, 0) := by decide +kernel
theorem tX9_ask_255 : gAt mX9_ask 255 = some (.iinc 5 (-1), 3, 1, 1, 0, 0) := by decide +kernel
theorem tX9_ask_258 : gAt mX9_ask 258 = some (.goto (-94), 3, 164, 0, 0, 0) := by decide +kernel
theorem tX9_ask_261 : gAt mX9_ask 261 = some (.aload_n 0, 1, 0, 0, 0, 0) := by decide +kernel
theorem tX9_ask_262 : gAt mX9_ask 262 = some (.dup, 1, 0, 0, 0, 0) := by decide +kernel
theorem tX9_ask_263 : gAt mX9_ask 263 = some (.getfield 332, 3, 10, 46, 0, 1085) := by decide +kernel
theorem tX9_ask_266 : gAt mX9_ask 266 = some (.iconst 1, 1, 1, 0, 0, 0) := by decide +kernel
theorem tX9_ask_267 : gAt mX9_ask 267 = some (.iadd, 1, 0, 0, 0, 0) := by decide +kernel
theorem tX9_ask_268 : gAt mX9_ask 268 = some (.putfield 332, 3, 10, 46, 0, 1085) := by decide +kernel
theorem tX9_ask_271 : gAt mX9_ask 271 = some (.iload 4, 2, 0, 0, 0, 0) := by decide +kernel
theorem tX9_ask_273 : gAt mX9_ask 273 = some (.ireturn, 1, 0, 0, 0, 0) := by decide +kernel
set_option maxRecDepth 100000 in
theorem okX9_asksFor : (gTb mX9_asksFor).all (okE gF gNM mX9_asksFor) = true := by decide +kernel
theorem pnX9_asksFor : plainName (gY mX9_asksFor).cls = true := by decide +kernel
theorem tX9_asksFor_0 : gAt mX9_asksFor 0 = some (.iconst 0, 1, 0, 0, 0, 0) := by decide +kernel
theorem tX9_asksFor_1 : gAt mX9_asksFor 1 = some (.istore_n 3, 1, 0, 0, 0, 0) := by decide +kernel
theorem tX9_asksFor_2 : gAt mX9_asksFor 2 = some (.iconst 4, 1, 4, 0, 0, 0) := by decide +kernel
theorem tX9_asksFor_3 : gAt mX9_asksFor 3 = some (.iload_n 1, 1, 0, 0, 0, 0) := by decide +kernel
theorem tX9_asksFor_4 : gAt mX9_asksFor 4 = some (.imul, 1, 0, 0, 0, 0) := by decide +kernel
theorem tX9_asksFor_5 : gAt mX9_asksFor 5 = some (.istore 4, 2, 0, 0, 0, 0) := by decide +kernel
theorem tX9_asksFor_7 : gAt mX9_asksFor 7 = some (.iload 4, 2, 0, 0, 0, 0) := by decide +kernel
theorem tX9_asksFor_9 : gAt mX9_asksFor 9 = some (.iconst 4, 1, 4, 0, 0, 0) := by decide +kernel
theorem tX9_asksFor_10 : gAt mX9_asksFor 10 = some (.iload_n 1, 1, 0, 0, 0, 0) := by decide +kernel
theorem tX9_asksFor_11 : gAt mX9_asksFor 11 = some (.imul, 1, 0, 0, 0, 0) := by decide +kernel
theorem tX9_asksFor_12 : gAt mX9_asksFor 12 = some (.aload_n 0, 1, 0, 0, 0, 0) := by decide +kernel
theorem tX9_asksFor_13 : gAt mX9_asksFor 13 = some (.getfield 134, 3, 10, 50, 2, 1089) := by decide +kernel
theorem tX9_asksFor_16 : gAt mX9_asksFor 16 = some (.iload_n 1, 1, 0, 0, 0, 0) := by decide +kernel
theorem tX9_asksFor_17 : gAt mX9_asksFor 17 = some (.iaload, 1, 112, 0, 0, 0) := by decide +kernel
theorem tX9_asksFor_18 : gAt mX9_asksFor 18 = some (.iadd, 1, 0, 0, 0, 0) := by decide +kernel
theorem tX9_asksFor_19 : gAt mX9_asksFor 19 = some (.if_icmp .ge 30, 3, 49, 0, 0, 0) := by decide +kernel
theorem tX9_asksFor_22 : gAt mX9_asksFor 22 = some (.iload_n 3, 1, 0, 0, 0, 0) := by decide +kernel
theorem tX9_asksFor_23 : gAt mX9_asksFor 23 = some (.ifCond .ne 14, 3, 37, 0, 0, 0) := by decide +kernel
theorem tX9_asksFor_26 : gAt mX9_asksFor 26 = some (.aload_n 0, 1, 0, 0, 0, 0) := by decide +kernel
theorem tX9_asksFor_27 : gAt mX9_asksFor 27 = some (.getfield 137, 3, 10, 51, 2, 1090) := by decide +kernel
theorem tX9_asksFor_30 : gAt mX9_asksFor 30 = some (.iload 4, 2, 0, 0, 0, 0) := by decide +kernel
theorem tX9_asksFor_32 : gAt mX9_asksFor 32 = some (.iaload, 1, 112, 0, 0, 0) := by decide +kernel
theorem tX9_asksFor_33 : gAt mX9_asksFor 33 = some (.iload_n 2, 1, 0, 0, 0, 0) := by decide +kernel
theorem tX9_asksFor_34 : gAt mX9_asksFor 34 = some (.if_icmp .ne 7, 3, 41, 0, 0, 0) := by decide +kernel
theorem tX9_asksFor_37 : gAt mX9_asksFor 37 = some (.iconst 1, 1, 1, 0, 0, 0) := by decide +kernel
theorem tX9_asksFor_38 : gAt mX9_asksFor 38 = some (.goto 4, 3, 42, 0, 0, 0) := by decide +kernel
theorem tX9_asksFor_41 : gAt mX9_asksFor 41 = some (.iconst 0, 1, 0, 0, 0, 0) := by decide +kernel
theorem tX9_asksFor_42 : gAt mX9_asksFor 42 = some (.istore_n 3, 1, 0, 0, 0, 0) := by decide +kernel
theorem tX9_asksFor_43 : gAt mX9_asksFor 43 = some (.iinc 4 1, 3, 1, 0, 0, 0) := by decide +kernel
theorem tX9_asksFor_46 : gAt mX9_asksFor 46 = some (.goto (-39), 3, 7, 0, 0, 0) := by decide +kernel
theorem tX9_asksFor_49 : gAt mX9_asksFor 49 = some (.iload_n 3, 1, 0, 0, 0, 0) := by decide +kernel
theorem tX9_asksFor_50 : gAt mX9_asksFor 50 = some (.ireturn, 1, 1, 0, 0, 0) := by decide +kernel
set_option maxRecDepth 100000 in
theorem okX9_hasAll : (gTb mX9_hasAll).all (okE gF gNM mX9_hasAll) = true := by decide +kernel
theorem pnX9_hasAll : plainName (gY mX9_hasAll).cls = true := by decide +kernel
theorem tX9_hasAll_0 : gAt mX9_hasAll 0 = some (.iconst 1, 1, 1, 0, 0, 0) := by decide +kernel
theorem tX9_hasAll_1 : gAt mX9_hasAll 1 = some (.istore_n 3, 1, 0, 0, 0, 0) := by decide +kernel
theorem tX9_hasAll_2 : gAt mX9_hasAll 2 = some (.iconst 4, 1, 4, 0, 0, 0) := by decide +kernel
theorem tX9_hasAll_3 : gAt mX9_hasAll 3 = some (.iload_n 2, 1, 0, 0, 0, 0) := by decide +kernel
theorem tX9_hasAll_4 : gAt mX9_hasAll 4 = some (.imul, 1, 0, 0, 0, 0) := by decide +kernel
theorem tX9_hasAll_5 : gAt mX9_hasAll 5 = some (.istore 4, 2, 0, 0, 0, 0) := by decide +kernel
theorem tX9_hasAll_7 : gAt mX9_hasAll 7 = some (.iload 4, 2, 0, 0, 0, 0) := by decide +kernel
theorem tX9_hasAll_9 : gAt mX9_hasAll 9 = some (.iconst 4, 1, 4, 0, 0, 0) := by decide +kernel
theorem tX9_hasAll_10 : gAt mX9_hasAll 10 = some (.iload_n 2, 1, 0, 0, 0, 0) := by decide +kernel
theorem tX9_hasAll_11 : gAt mX9_hasAll 11 = some (.imul, 1, 0, 0, 0, 0) := by decide +kernel
theorem tX9_hasAll_12 : gAt mX9_hasAll 12 = some (.aload_n 0, 1, 0, 0, 0, 0) := by decide +kernel
theorem tX9_hasAll_13 : gAt mX9_hasAll 13 = some (.getfield 134, 3, 10, 50, 2, 1089) := by decide +kernel
theorem tX9_hasAll_16 : gAt mX9_hasAll 16 = some (.iload_n 2, 1, 0, 0, 0, 0) := by decide +kernel
theorem tX9_hasAll_17 : gAt mX9_hasAll 17 = some (.iaload, 1, 112, 0, 0, 0) := by decide +kernel
theorem tX9_hasAll_18 : gAt mX9_hasAll 18 = some (.iadd, 1, 0, 0, 0, 0) := by decide +kernel
theorem tX9_hasAll_19 : gAt mX9_hasAll 19 = some (.if_icmp .ge 34, 3, 53, 0, 0, 0) := by decide +kernel
theorem tX9_hasAll_22 : gAt mX9_hasAll 22 = some (.iload_n 3, 1, 0, 0, 0, 0) := by decide +kernel
theorem tX9_hasAll_23 : gAt mX9_hasAll 23 = some (.ifCond .eq 22, 3, 45, 0, 0, 0) := by decide +kernel
theorem tX9_hasAll_26 : gAt mX9_hasAll 26 = some (.aload_n 0, 1, 0, 0, 0, 0) := by decide +kernel
theorem tX9_hasAll_27 : gAt mX9_hasAll 27 = some (.iload_n 1, 1, 0, 0, 0, 0) := by decide +kernel
theorem tX9_hasAll_28 : gAt mX9_hasAll 28 = some (.aload_n 0, 1, 0, 0, 0, 0) := by decide +kernel
theorem tX9_hasAll_29 : gAt mX9_hasAll 29 = some (.getfield 137, 3, 10, 51, 2, 1090) := by decide +kernel
theorem tX9_hasAll_32 : gAt mX9_hasAll 32 = some (.iload 4, 2, 0, 0, 0, 0) := by decide +kernel
theorem tX9_hasAll_34 : gAt mX9_hasAll 34 = some (.iaload, 1, 112, 0, 0, 0) := by decide +kernel
theorem tX9_hasAll_35 : gAt mX9_hasAll 35 = some (.invokevirtual 338, 3, 152, 2, 10, 1427) := by decide +kernel
theorem tX9_hasAll_38 : gAt mX9_hasAll 38 = some (.ifCond .eq 7, 3, 45, 0, 0, 0) := by decide +kernel
theorem tX9_hasAll_41 : gAt mX9_hasAll 41 = some (.iconst 1, 1, 1, 0, 0, 0) := by decide +kernel
theorem tX9_hasAll_42 : gAt mX9_hasAll 42 = some (.goto 4, 3, 46, 0, 0, 0) := by decide +kernel
theorem tX9_hasAll_45 : gAt mX9_hasAll 45 = some (.iconst 0, 1, 0, 0, 0, 0) := by decide +kernel
theorem tX9_hasAll_46 : gAt mX9_hasAll 46 = some (.istore_n 3, 1, 0, 0, 0, 0) := by decide +kernel
theorem tX9_hasAll_47 : gAt mX9_hasAll 47 = some (.iinc 4 1, 3, 1, 0, 0, 0) := by decide +kernel
theorem tX9_hasAll_50 : gAt mX9_hasAll 50 = some (.goto (-43), 3, 7, 0, 0, 0) := by decide +kernel
theorem tX9_hasAll_53 : gAt mX9_hasAll 53 = some (.iload_n 3, 1, 0, 0, 0, 0) := by decide +kernel
theorem tX9_hasAll_54 : gAt mX9_hasAll 54 = some (.ireturn, 1, 1, 0, 0, 0) := by decide +kernel
set_option maxRecDepth 100000 in
theorem okX9_isAsk : (gTb mX9_isAsk).all (okE gF gNM mX9_isAsk) = true := by decide +kernel
theorem pnX9_isAsk : plainName (gY mX9_isAsk).cls = true := by decide +kernel
theorem tX9_isAsk_0 : gAt mX9_isAsk 0 = some (.iload_n 1, 1, 0, 0, 0, 0) := by decide +kernel
theorem tX9_isAsk_1 : gAt mX9_isAsk 1 = some (.ifCond .lt 15, 3, 16, 0, 0, 0) := by decide +kernel
theorem tX9_isAsk_4 : gAt mX9_isAsk 4 = some (.iload_n 1, 1, 0, 0, 0, 0) := by decide +kernel
theorem tX9_isAsk_5 : gAt mX9_isAsk 5 = some (.aload_n 0, 1, 0, 0, 0, 0) := by decide +kernel
theorem tX9_isAsk_6 : gAt mX9_isAsk 6 = some (.getfield 332, 3, 10, 46, 0, 1085) := by decide +kernel
theorem tX9_isAsk_9 : gAt mX9_isAsk 9 = some (.if_icmp .ge 7, 3, 16, 0, 0, 0) := by decide +kernel
theorem tX9_isAsk_12 : gAt mX9_isAsk 12 = some (.iconst 1, 1, 1, 0, 0, 0) := by decide +kernel
theorem tX9_isAsk_13 : gAt mX9_isAsk 13 = some (.goto 4, 3, 17, 0, 0, 0) := by decide +kernel
theorem tX9_isAsk_16 : gAt mX9_isAsk 16 = some (.iconst 0, 1, 0, 0, 0, 0) := by decide +kernel
theorem tX9_isAsk_17 : gAt mX9_isAsk 17 = some (.ireturn, 1, 1, 0, 0, 0) := by decide +kernel
set_option maxRecDepth 100000 in
theorem okX9_stands : (gTb mX9_stands).all (okE gF gNM mX9_stands) = true := by decide +kernel
theorem pnX9_stands : plainName (gY mX9_stands).cls = true := by decide +kernel
theorem tX9_stands_0 : gAt mX9_stands 0 = some (.iconst 0, 1, 0, 0, 0, 0) := by decide +kernel
theorem tX9_stands_1 : gAt mX9_stands 1 = some (.istore_n 3, 1, 0, 0, 0, 0) := by decide +kernel
theorem tX9_stands_2 : gAt mX9_stands 2 = some (.iconst 0, 1, 0, 0, 0, 0) := by decide +kernel
theorem tX9_stands_3 : gAt mX9_stands 3 = some (.istore 4, 2, 0, 0, 0, 0) := by decide +kernel
theorem tX9_stands_5 : gAt mX9_stands 5 = some (.iload 4, 2, 0, 0, 0, 0) := by decide +kernel
theorem tX9_stands_7 : gAt mX9_stands 7 = some (.aload_n 0, 1, 0, 0, 0, 0) := by decide +kernel
theorem tX9_stands_8 : gAt mX9_stands 8 = some (.getfield 291, 3, 10, 31, 0, 1070) := by decide +kernel
theorem tX9_stands_11 : gAt mX9_stands 11 = some (.if_icmp .ge 79, 3, 90, 0, 0, 0) := by decide +kernel
theorem tX9_stands_14 : gAt mX9_stands 14 = some (.iconst 0, 1, 0, 0, 0, 0) := by decide +kernel
theorem tX9_stands_15 : gAt mX9_stands 15 = some (.istore 5, 2, 0, 0, 0, 0) := by decide +kernel
theorem tX9_stands_17 : gAt mX9_stands 17 = some (.iload 5, 2, 0, 0, 0, 0) := by decide +kernel
theorem tX9_stands_19 : gAt mX9_stands 19 = some (.aload_n 0, 1, 0, 0, 0, 0) := by decide +kernel
theorem tX9_stands_20 : gAt mX9_stands 20 = some (.getfield 94, 3, 10, 34, 2, 1073) := by decide +kernel
theorem tX9_stands_23 : gAt mX9_stands 23 = some (.iload 4, 2, 0, 0, 0, 0) := by decide +kernel
theorem tX9_stands_25 : gAt mX9_stands 25 = some (.iaload, 1, 112, 0, 0, 0) := by decide +kernel
theorem tX9_stands_26 : gAt mX9_stands 26 = some (.if_icmp .ge 58, 3, 84, 0, 0, 0) := by decide +kernel
theorem tX9_stands_29 : gAt mX9_stands 29 = some (.aload_n 0, 1, 0, 0, 0, 0) := by decide +kernel
theorem tX9_stands_30 : gAt mX9_stands 30 = some (.getfield 88, 3, 10, 32, 2, 1071) := by decide +kernel
theorem tX9_stands_33 : gAt mX9_stands 33 = some (.iload 4, 2, 0, 0, 0, 0) := by decide +kernel
theorem tX9_stands_35 : gAt mX9_stands 35 = some (.iaload, 1, 112, 0, 0, 0) := by decide +kernel
theorem tX9_stands_36 : gAt mX9_stands 36 = some (.iload_n 2, 1, 0, 0, 0, 0) := by decide +kernel
theorem tX9_stands_37 : gAt mX9_stands 37 = some (.if_icmp .ne 47, 3, 84, 0, 0, 0) := by decide +kernel
theorem tX9_stands_40 : gAt mX9_stands 40 = some (.iload_n 3, 1, 0, 0, 0, 0) := by decide +kernel
theorem tX9_stands_41 : gAt mX9_stands 41 = some (.ifCond .ne 43, 3, 84, 0, 0, 0) := by decide +kernel
theorem tX9_stands_44 : gAt mX9_stands 44 = some (.aload_n 0, 1, 0, 0, 0, 0) := by decide +kernel
theorem tX9_stands_45 : gAt mX9_stands 45 = some (.getfield 97, 3, 10, 35, 2, 1074) := by decide +kernel
theorem tX9_stands_48 : gAt mX9_stands 48 = some (.bipush 12, 2, 12, 0, 0, 0) := by decide +kernel
theorem tX9_stands_50 : gAt mX9_stands 50 = some (.iload 4, 2, 0, 0, 0, 0) := by decide +kernel
theorem tX9_stands_52 : gAt mX9_stands 52 = some (.imul, 1, 0, 0, 0, 0) := by decide +kernel
theorem tX9_stands_53 : gAt mX9_stands 53 = some (.iload 5, 2, 0, 0, 0, 0) := by decide +kernel
theorem tX9_stands_55 : gAt mX9_stands 55 = some (.iadd, 1, 0, 0, 0, 0) := by decide +kernel
theorem tX9_stands_56 : gAt mX9_stands 56 = some (.iaload, 1, 112, 0, 0, 0) := by decide +kernel
theorem tX9_stands_57 : gAt mX9_stands 57 = some (.iload_n 1, 1, 0, 0, 0, 0) := by decide +kernel
theorem tX9_stands_58 : gAt mX9_stands 58 = some (.if_icmp .ne 18, 3, 76, 0, 0, 0) := by decide +kernel
theorem tX9_stands_61 : gAt mX9_stands 61 = some (.aload_n 0, 1, 0, 0, 0, 0) := by decide +kernel
theorem tX9_stands_62 : gAt mX9_stands 62 = some (.iload 4, 2, 0, 0, 0, 0) := by decide +kernel
theorem tX9_stands_64 : gAt mX9_stands 64 = some (.iload 5, 2, 0, 0, 0, 0) := by decide +kernel
theorem tX9_stands_66 : gAt mX9_stands 66 = some (.invokevirtual 322, 3, 147, 2, 10, 1396) := by decide +kernel
theorem tX9_stands_69 : gAt mX9_stands 69 = some (.ifCond .ne 7, 3, 76, 0, 0, 0) := by decide +kernel
theorem tX9_stands_72 : gAt mX9_stands 72 = some (.iconst 1, 1, 1, 0, 0, 0) := by decide +kernel
theorem tX9_stands_73 : gAt mX9_stands 73 = some (.goto 4, 3, 77, 0, 0, 0) := by decide +kernel
theorem tX9_stands_76 : gAt mX9_stands 76 = some (.iconst 0, 1, 0, 0, 0, 0) := by decide +kernel
theorem tX9_stands_77 : gAt mX9_stands 77 = some (.istore_n 3, 1, 0, 0, 0, 0) := by decide +kernel
theorem tX9_stands_78 : gAt mX9_stands 78 = some (.iinc 5 1, 3, 1, 0, 0, 0) := by decide +kernel
theorem tX9_stands_81 : gAt mX9_stands 81 = some (.goto (-64), 3, 17, 0, 0, 0) := by decide +kernel
theorem tX9_stands_84 : gAt mX9_stands 84 = some (.iinc 4 1, 3, 1, 0, 0, 0) := by decide +kernel
theorem tX9_stands_87 : gAt mX9_stands 87 = some (.goto (-82), 3, 5, 0, 0, 0) := by decide +kernel
theorem tX9_stands_90 : gAt mX9_stands 90 = some (.iload_n 3, 1, 0, 0, 0, 0) := by decide +kernel
theorem tX9_stands_91 : gAt mX9_stands 91 = some (.ireturn, 1, 1, 0, 0, 0) := by decide +kernel
set_option maxRecDepth 100000 in
theorem okX9_fits : (gTb mX9_fits).all (okE gF gNM mX9_fits) = true := by decide +kernel
theorem pnX9_fits : plainName (gY mX9_fits).cls = true := by decide +kernel
theorem tX9_fits_0 : gAt mX9_fits 0 = some (.aload_n 0, 1, 0, 0, 0, 0) := by decide +kernel
theorem tX9_fits_1 : gAt mX9_fits 1 = some (.aload_n 0, 1, 0, 0, 0, 0) := by decide +kernel
theorem tX9_fits_2 : gAt mX9_fits 2 = some (.getfield 79, 3, 10, 28, 2, 1067) := by decide +kernel
theorem tX9_fits_5 : gAt mX9_fits 5 = some (.iload_n 2, 1, 0, 0, 0, 0) := by decide +kernel
theorem tX9_fits_6 : gAt mX9_fits 6 = some (.iaload, 1, 112, 0, 0, 0) := by decide +kernel
theorem tX9_fits_7 : gAt mX9_fits 7 = some (.aload_n 0, 1, 0, 0, 0, 0) := by decide +kernel
theorem tX9_fits_8 : gAt mX9_fits 8 = some (.getfield 125, 3, 10, 47, 2, 1086) := by decide +kernel
theorem tX9_fits_11 : gAt mX9_fits 11 = some (.iload_n 1, 1, 0, 0, 0, 0) := by decide +kernel
theorem tX9_fits_12 : gAt mX9_fits 12 = some (.iaload, 1, 112, 0, 0, 0) := by decide +kernel
theorem tX9_fits_13 : gAt mX9_fits 13 = some (.invokevirtual 341, 3, 129, 2, 10, 1447) := by decide +kernel
theorem tX9_fits_16 : gAt mX9_fits 16 = some (.ifCond .eq 37, 3, 53, 0, 0, 0) := by decide +kernel
theorem tX9_fits_19 : gAt mX9_fits 19 = some (.aload_n 0, 1, 0, 0, 0, 0) := by decide +kernel
theorem tX9_fits_20 : gAt mX9_fits 20 = some (.getfield 82, 3, 10, 29, 2, 1068) := by decide +kernel
theorem tX9_fits_23 : gAt mX9_fits 23 = some (.iload_n 2, 1, 0, 0, 0, 0) := by decide +kernel
theorem tX9_fits_24 : gAt mX9_fits 24 = some (.iaload, 1, 112, 0, 0, 0) := by decide +kernel
theorem tX9_fits_25 : gAt mX9_fits 25 = some (.aload_n 0, 1, 0, 0, 0, 0) := by decide +kernel
theorem tX9_fits_26 : gAt mX9_fits 26 = some (.getfield 128, 3, 10, 48, 2, 1087) := by decide +kernel
theorem tX9_fits_29 : gAt mX9_fits 29 = some (.iload_n 1, 1, 0, 0, 0, 0) := by decide +kernel
theorem tX9_fits_30 : gAt mX9_fits 30 = some (.iaload, 1, 112, 0, 0, 0) := by decide +kernel
theorem tX9_fits_31 : gAt mX9_fits 31 = some (.if_icmp .lt 22, 3, 53, 0, 0, 0) := by decide +kernel
theorem tX9_fits_34 : gAt mX9_fits 34 = some (.aload_n 0, 1, 0, 0, 0, 0) := by decide +kernel
theorem tX9_fits_35 : gAt mX9_fits 35 = some (.getfield 82, 3, 10, 29, 2, 1068) := by decide +kernel
theorem tX9_fits_38 : gAt mX9_fits 38 = some (.iload_n 2, 1, 0, 0, 0, 0) := by decide +kernel
theorem tX9_fits_39 : gAt mX9_fits 39 = some (.iaload, 1, 112, 0, 0, 0) := by decide +kernel
theorem tX9_fits_40 : gAt mX9_fits 40 = some (.aload_n 0, 1, 0, 0, 0, 0) := by decide +kernel
theorem tX9_fits_41 : gAt mX9_fits 41 = some (.getfield 131, 3, 10, 49, 2, 1088) := by decide +kernel
theorem tX9_fits_44 : gAt mX9_fits 44 = some (.iload_n 1, 1, 0, 0, 0, 0) := by decide +kernel
theorem tX9_fits_45 : gAt mX9_fits 45 = some (.iaload, 1, 112, 0, 0, 0) := by decide +kernel
theorem tX9_fits_46 : gAt mX9_fits 46 = some (.if_icmp .gt 7, 3, 53, 0, 0, 0) := by decide +kernel
theorem tX9_fits_49 : gAt mX9_fits 49 = some (.iconst 1, 1, 1, 0, 0, 0) := by decide +kernel
theorem tX9_fits_50 : gAt mX9_fits 50 = some (.goto 4, 3, 54, 0, 0, 0) := by decide +kernel
theorem tX9_fits_53 : gAt mX9_fits 53 = some (.iconst 0, 1, 0, 0, 0, 0) := by decide +kernel
theorem tX9_fits_54 : gAt mX9_fits 54 = some (.istore_n 3, 1, 0, 0, 0, 0) := by decide +kernel
theorem tX9_fits_55 : gAt mX9_fits 55 = some (.iconst 4, 1, 4, 0, 0, 0) := by decide +kernel
theorem tX9_fits_56 : gAt mX9_fits 56 = some (.iload_n 1, 1, 0, 0, 0, 0) := by decide +kernel
theorem tX9_fits_57 : gAt mX9_fits 57 = some (.imul, 1, 0, 0, 0, 0) := by decide +kernel
theorem tX9_fits_58 : gAt mX9_fits 58 = some (.istore 4, 2, 0, 0, 0, 0) := by decide +kernel
theorem tX9_fits_60 : gAt mX9_fits 60 = some (.iload 4, 2, 0, 0, 0, 0) := by decide +kernel
theorem tX9_fits_62 : gAt mX9_fits 62 = some (.iconst 4, 1, 4, 0, 0, 0) := by decide +kernel
theorem tX9_fits_63 : gAt mX9_fits 63 = some (.iload_n 1, 1, 0, 0, 0, 0) := by decide +kernel
theorem tX9_fits_64 : gAt mX9_fits 64 = some (.imul, 1, 0, 0, 0, 0) := by decide +kernel
theorem tX9_fits_65 : gAt mX9_fits 65 = some (.aload_n 0, 1, 0, 0, 0, 0) := by decide +kernel
theorem tX9_fits_66 : gAt mX9_fits 66 = some (.getfield 134, 3, 10, 50, 2, 1089) := by decide +kernel
theorem tX9_fits_69 : gAt mX9_fits 69 = some (.iload_n 1, 1, 0, 0, 0, 0) := by decide +kernel
theorem tX9_fits_70 : gAt mX9_fits 70 = some (.iaload, 1, 112, 0, 0, 0) := by decide +kernel
theorem tX9_fits_71 : gAt mX9_fits 71 = some (.iadd, 1, 0, 0, 0, 0) := by decide +kernel
theorem tX9_fits_72 : gAt mX9_fits 72 = some (.if_icmp .ge 26, 3, 98, 0, 0, 0) := by decide +kernel
theorem tX9_fits_75 : gAt mX9_fits 75 = some (.iload_n 3, 1, 0, 0, 0, 0) := by decide +kernel
theorem tX9_fits_76 : gAt mX9_fits 76 = some (.ifCond .eq 22, 3, 98, 0, 0, 0) := by decide +kernel
theorem tX9_fits_79 : gAt mX9_fits 79 = some (.aload_n 0, 1, 0, 0, 0, 0) := by decide +kernel
theorem tX9_fits_80 : gAt mX9_fits 80 = some (.aload_n 0, 1, 0, 0, 0, 0) := by decide +kernel
theorem tX9_fits_81 : gAt mX9_fits 81 = some (.getfield 137, 3, 10, 51, 2, 1090) := by decide +kernel
theorem tX9_fits_84 : gAt mX9_fits 84 = some (.iload 4, 2, 0, 0, 0, 0) := by decide +kernel
theorem tX9_fits_86 : gAt mX9_fits 86 = some (.iaload, 1, 112, 0, 0, 0) := by decide +kernel
theorem tX9_fits_87 : gAt mX9_fits 87 = some (.iload_n 2, 1, 0, 0, 0, 0) := by decide +kernel
theorem tX9_fits_88 : gAt mX9_fits 88 = some (.invokevirtual 344, 3, 155, 2, 10, 1451) := by decide +kernel
theorem tX9_fits_91 : gAt mX9_fits 91 = some (.istore_n 3, 1, 0, 0, 0, 0) := by decide +kernel
theorem tX9_fits_92 : gAt mX9_fits 92 = some (.iinc 4 1, 3, 1, 0, 0, 0) := by decide +kernel
theorem tX9_fits_95 : gAt mX9_fits 95 = some (.goto (-35), 3, 60, 0, 0, 0) := by decide +kernel
theorem tX9_fits_98 : gAt mX9_fits 98 = some (.iload_n 3, 1, 0, 0, 0, 0) := by decide +kernel
theorem tX9_fits_99 : gAt mX9_fits 99 = some (.ireturn, 1, 1, 0, 0, 0) := by decide +kernel
set_option maxRecDepth 100000 in
theorem okX9_found : (gTb mX9_found).all (okE gF gNM mX9_found) = true := by decide +kernel
theorem pnX9_found : plainName (gY mX9_found).cls = true := by decide +kernel
theorem tX9_found_0 : gAt mX9_found 0 = some (.aload_n 0, 1, 0, 0, 0, 0) := by decide +kernel
theorem tX9_found_1 : gAt mX9_found 1 = some (.iconst 0, 1, 0, 0, 0, 0) := by decide +kernel
theorem tX9_found_2 : gAt mX9_found 2 = some (.putfield 174, 3, 10, 0, 0, 1039) := by decide +kernel
theorem tX9_found_5 : gAt mX9_found 5 = some (.aload_n 0, 1, 0, 0, 0, 0) := by decide +kernel
theorem tX9_found_6 : gAt mX9_found 6 = some (.iload_n 1, 1, 0, 0, 0, 0) := by decide +kernel
theorem tX9_found_7 : gAt mX9_found 7 = some (.invokevirtual 347, 3, 154, 1, 10, 1435) := by decide +kernel
theorem tX9_found_10 : gAt mX9_found 10 = some (.ifCond .eq 11, 3, 21, 0, 0, 0) := by decide +kernel
theorem tX9_found_13 : gAt mX9_found 13 = some (.aload_n 0, 1, 0, 0, 0, 0) := by decide +kernel
theorem tX9_found_14 : gAt mX9_found 14 = some (.iload_n 1, 1, 0, 0, 0, 0) := by decide +kernel
theorem tX9_found_15 : gAt mX9_found 15 = some (.invokevirtual 350, 3, 158, 1, 10, 1439) := by decide +kernel
theorem tX9_found_18 : gAt mX9_found 18 = some (.goto 4, 3, 22, 0, 0, 0) := by decide +kernel
theorem tX9_found_21 : gAt mX9_found 21 = some (.iconst (-1), 1, 1, 1, 0, 0) := by decide +kernel
theorem tX9_found_22 : gAt mX9_found 22 = some (.ireturn, 1, 0, 0, 0, 0) := by decide +kernel
set_option maxRecDepth 100000 in
theorem okX9_countOf : (gTb mX9_countOf).all (okE gF gNM mX9_countOf) = true := by decide +kernel
theorem pnX9_countOf : plainName (gY mX9_countOf).cls = true := by decide +kernel
theorem tX9_countOf_0 : gAt mX9_countOf 0 = some (.iconst 0, 1, 0, 0, 0, 0) := by decide +kernel
theorem tX9_countOf_1 : gAt mX9_countOf 1 = some (.istore_n 2, 1, 0, 0, 0, 0) := by decide +kernel
theorem tX9_countOf_2 : gAt mX9_countOf 2 = some (.iconst 0, 1, 0, 0, 0, 0) := by decide +kernel
theorem tX9_countOf_3 : gAt mX9_countOf 3 = some (.istore_n 3, 1, 0, 0, 0, 0) := by decide +kernel
theorem tX9_countOf_4 : gAt mX9_countOf 4 = some (.iload_n 3, 1, 0, 0, 0, 0) := by decide +kernel
theorem tX9_countOf_5 : gAt mX9_countOf 5 = some (.aload_n 0, 1, 0, 0, 0, 0) := by decide +kernel
theorem tX9_countOf_6 : gAt mX9_countOf 6 = some (.getfield 294, 3, 10, 27, 0, 1066) := by decide +kernel
theorem tX9_countOf_9 : gAt mX9_countOf 9 = some (.if_icmp .ge 26, 3, 35, 0, 0, 0) := by decide +kernel
theorem tX9_countOf_12 : gAt mX9_countOf 12 = some (.iload_n 2, 1, 0, 0, 0, 0) := by decide +kernel
theorem tX9_countOf_13 : gAt mX9_countOf 13 = some (.aload_n 0, 1, 0, 0, 0, 0) := by decide +kernel
theorem tX9_countOf_14 : gAt mX9_countOf 14 = some (.iload_n 1, 1, 0, 0, 0, 0) := by decide +kernel
theorem tX9_countOf_15 : gAt mX9_countOf 15 = some (.iload_n 3, 1, 0, 0, 0, 0) := by decide +kernel
theorem tX9_countOf_16 : gAt mX9_countOf 16 = some (.invokevirtual 353, 3, 156, 2, 10, 1443) := by decide +kernel
theorem tX9_countOf_19 : gAt mX9_countOf 19 = some (.ifCond .eq 7, 3, 26, 0, 0, 0) := by decide +kernel
theorem tX9_countOf_22 : gAt mX9_countOf 22 = some (.iconst 1, 1, 1, 0, 0, 0) := by decide +kernel
theorem tX9_countOf_23 : gAt mX9_countOf 23 = some (.goto 4, 3, 27, 0, 0, 0) := by decide +kernel
theorem tX9_countOf_26 : gAt mX9_countOf 26 = some (.iconst 0, 1, 0, 0, 0, 0) := by decide +kernel
theorem tX9_countOf_27 : gAt mX9_countOf 27 = some (.iadd, 1, 0, 0, 0, 0) := by decide +kernel
theorem tX9_countOf_28 : gAt mX9_countOf 28 = some (.istore_n 2, 1, 0, 0, 0, 0) := by decide +kernel
theorem tX9_countOf_29 : gAt mX9_countOf 29 = some (.iinc 3 1, 3, 1, 0, 0, 0) := by decide +kernel
theorem tX9_countOf_32 : gAt mX9_countOf 32 = some (.goto (-28), 3, 4, 0, 0, 0) := by decide +kernel
theorem tX9_countOf_35 : gAt mX9_countOf 35 = some (.iload_n 2, 1, 0, 0, 0, 0) := by decide +kernel
theorem tX9_countOf_36 : gAt mX9_countOf 36 = some (.ireturn, 1, 0, 0, 0, 0) := by decide +kernel
set_option maxRecDepth 100000 in
theorem okX9_finds : (gTb mX9_finds).all (okE gF gNM mX9_finds) = true := by decide +kernel
theorem pnX9_finds : plainName (gY mX9_finds).cls = true := by decide +kernel
theorem tX9_finds_0 : gAt mX9_finds 0 = some (.aload_n 0, 1, 0, 0, 0, 0) := by decide +kernel
theorem tX9_finds_1 : gAt mX9_finds 1 = some (.iconst 0, 1, 0, 0, 0, 0) := by decide +kernel
theorem tX9_finds_2 : gAt mX9_finds 2 = some (.putfield 174, 3, 10, 0, 0, 1039) := by decide +kernel
theorem tX9_finds_5 : gAt mX9_finds 5 = some (.iload_n 2, 1, 0, 0, 0, 0) := by decide +kernel
theorem tX9_finds_6 : gAt mX9_finds 6 = some (.istore_n 3, 1, 0, 0, 0, 0) := by decide +kernel
theorem tX9_finds_7 : gAt mX9_finds 7 = some (.iconst 0, 1, 0, 0, 0, 0) := by decide +kernel
theorem tX9_finds_8 : gAt mX9_finds 8 = some (.istore 4, 2, 0, 0, 0, 0) := by decide +kernel
theorem tX9_finds_10 : gAt mX9_finds 10 = some (.iload 4, 2, 0, 0, 0, 0) := by decide +kernel
theorem tX9_finds_12 : gAt mX9_finds 12 = some (.aload_n 0, 1, 0, 0, 0, 0) := by decide +kernel
theorem tX9_finds_13 : gAt mX9_finds 13 = some (.getfield 294, 3, 10, 27, 0, 1066) := by decide +kernel
theorem tX9_finds_16 : gAt mX9_finds 16 = some (.if_icmp .ge 41, 3, 57, 0, 0, 0) := by decide +kernel
theorem tX9_finds_19 : gAt mX9_finds 19 = some (.aload_n 0, 1, 0, 0, 0, 0) := by decide +kernel
theorem tX9_finds_20 : gAt mX9_finds 20 = some (.iload_n 1, 1, 0, 0, 0, 0) := by decide +kernel
theorem tX9_finds_21 : gAt mX9_finds 21 = some (.invokevirtual 347, 3, 154, 1, 10, 1435) := by decide +kernel
theorem tX9_finds_24 : gAt mX9_finds 24 = some (.ifCond .eq 33, 3, 57, 0, 0, 0) := by decide +kernel
theorem tX9_finds_27 : gAt mX9_finds 27 = some (.iload_n 2, 1, 0, 0, 0, 0) := by decide +kernel
theorem tX9_finds_28 : gAt mX9_finds 28 = some (.ifCond .lt 29, 3, 57, 0, 0, 0) := by decide +kernel
theorem tX9_finds_31 : gAt mX9_finds 31 = some (.aload_n 0, 1, 0, 0, 0, 0) := by decide +kernel
theorem tX9_finds_32 : gAt mX9_finds 32 = some (.iload_n 1, 1, 0, 0, 0, 0) := by decide +kernel
theorem tX9_finds_33 : gAt mX9_finds 33 = some (.iload 4, 2, 0, 0, 0, 0) := by decide +kernel
theorem tX9_finds_35 : gAt mX9_finds 35 = some (.invokevirtual 353, 3, 156, 2, 10, 1443) := by decide +kernel
theorem tX9_finds_38 : gAt mX9_finds 38 = some (.ifCond .eq 13, 3, 51, 0, 0, 0) := by decide +kernel
theorem tX9_finds_41 : gAt mX9_finds 41 = some (.iload_n 3, 1, 0, 0, 0, 0) := by decide +kernel
theorem tX9_finds_42 : gAt mX9_finds 42 = some (.ifCond .ne 6, 3, 48, 0, 0, 0) := by decide +kernel
theorem tX9_finds_45 : gAt mX9_finds 45 = some (.iload 4, 2, 0, 0, 0, 0) := by decide +kernel
theorem tX9_finds_47 : gAt mX9_finds 47 = some (.ireturn, 1, 0, 0, 0, 0) := by decide +kernel
theorem tX9_finds_48 : gAt mX9_finds 48 = some (.iinc 3 (-1), 3, 1, 1, 0, 0) := by decide +kernel
theorem tX9_finds_51 : gAt mX9_finds 51 = some (.iinc 4 1, 3, 1, 0, 0, 0) := by decide +kernel
theorem tX9_finds_54 : gAt mX9_finds 54 = some (.goto (-44), 3, 10, 0, 0, 0) := by decide +kernel
theorem tX9_finds_57 : gAt mX9_finds 57 = some (.iconst (-1), 1, 1, 1, 0, 0) := by decide +kernel
theorem tX9_finds_58 : gAt mX9_finds 58 = some (.ireturn, 1, 0, 0, 0, 0) := by decide +kernel
set_option maxRecDepth 100000 in
theorem okX9_narrow : (gTb mX9_narrow).all (okE gF gNM mX9_narrow) = true := by decide +kernel
theorem pnX9_narrow : plainName (gY mX9_narrow).cls = true := by decide +kernel
theorem tX9_narrow_0 : gAt mX9_narrow 0 = some (.aload_n 0, 1, 0, 0, 0, 0) := by decide +kernel
theorem tX9_narrow_1 : gAt mX9_narrow 1 = some (.iconst 0, 1, 0, 0, 0, 0) := by decide +kernel
theorem tX9_narrow_2 : gAt mX9_narrow 2 = some (.putfield 174, 3, 10, 0, 0, 1039) := by decide +kernel
theorem tX9_narrow_5 : gAt mX9_narrow 5 = some (.aload_n 0, 1, 0, 0, 0, 0) := by decide +kernel
theorem tX9_narrow_6 : gAt mX9_narrow 6 = some (.iload_n 1, 1, 0, 0, 0, 0) := by decide +kernel
theorem tX9_narrow_7 : gAt mX9_narrow 7 = some (.invokevirtual 347, 3, 154, 1, 10, 1435) := by decide +kernel
theorem tX9_narrow_10 : gAt mX9_narrow 10 = some (.ifCond .eq 29, 3, 39, 0, 0, 0) := by decide +kernel
theorem tX9_narrow_13 : gAt mX9_narrow 13 = some (.iload_n 2, 1, 0, 0, 0, 0) := by decide +kernel
theorem tX9_narrow_14 : gAt mX9_narrow 14 = some (.invokestatic 279, 3, 130, 1, 10, 1338) := by decide +kernel
theorem tX9_narrow_17 : gAt mX9_narrow 17 = some (.ifCond .eq 22, 3, 39, 0, 0, 0) := by decide +kernel
theorem tX9_narrow_20 : gAt mX9_narrow 20 = some (.aload_n 0, 1, 0, 0, 0, 0) := by decide +kernel
theorem tX9_narrow_21 : gAt mX9_narrow 21 = some (.getfield 134, 3, 10, 50, 2, 1089) := by decide +kernel
theorem tX9_narrow_24 : gAt mX9_narrow 24 = some (.iload_n 1, 1, 0, 0, 0, 0) := by decide +kernel
theorem tX9_narrow_25 : gAt mX9_narrow 25 = some (.iaload, 1, 112, 0, 0, 0) := by decide +kernel
theorem tX9_narrow_26 : gAt mX9_narrow 26 = some (.iconst 4, 1, 4, 0, 0, 0) := by decide +kernel
theorem tX9_narrow_27 : gAt mX9_narrow 27 = some (.if_icmp .eq 12, 3, 39, 0, 0, 0) := by decide +kernel
theorem tX9_narrow_30 : gAt mX9_narrow 30 = some (.aload_n 0, 1, 0, 0, 0, 0) := by decide +kernel
theorem tX9_narrow_31 : gAt mX9_narrow 31 = some (.iload_n 1, 1, 0, 0, 0, 0) := by decide +kernel
theorem tX9_narrow_32 : gAt mX9_narrow 32 = some (.iload_n 2, 1, 0, 0, 0, 0) := by decide +kernel
theorem tX9_narrow_33 : gAt mX9_narrow 33 = some (.invokevirtual 338, 3, 152, 2, 10, 1427) := by decide +kernel
theorem tX9_narrow_36 : gAt mX9_narrow 36 = some (.ifCond .eq 5, 3, 41, 0, 0, 0) := by decide +kernel
theorem tX9_narrow_39 : gAt mX9_narrow 39 = some (.iconst (-1), 1, 1, 1, 0, 0) := by decide +kernel
theorem tX9_narrow_40 : gAt mX9_narrow 40 = some (.ireturn, 1, 0, 0, 0, 0) := by decide +kernel
theorem tX9_narrow_41 : gAt mX9_narrow 41 = some (.aload_n 0, 1, 0, 0, 0, 0) := by decide +kernel
theorem tX9_narrow_42 : gAt mX9_narrow 42 = some (.iload_n 1, 1, 0, 0, 0, 0) := by decide +kernel
theorem tX9_narrow_43 : gAt mX9_narrow 43 = some (.invokevirtual 350, 3, 158, 1, 10, 1439) := by decide +kernel
theorem tX9_narrow_46 : gAt mX9_narrow 46 = some (.istore_n 3, 1, 0, 0, 0, 0) := by decide +kernel
theorem tX9_narrow_47 : gAt mX9_narrow 47 = some (.aload_n 0, 1, 0, 0, 0, 0) := by decide +kernel
theorem tX9_narrow_48 : gAt mX9_narrow 48 = some (.getfield 137, 3, 10, 51, 2, 1090) := by decide +kernel
theorem tX9_narrow_51 : gAt mX9_narrow 51 = some (.iconst 4, 1, 4, 0, 0, 0) := by decide +kernel
theorem tX9_narrow_52 : gAt mX9_narrow 52 = some (.iload_n 1, 1, 0, 0, 0, 0) := by decide +kernel
theorem tX9_narrow_53 : gAt mX9_narrow 53 = some (.imul, 1, 0, 0, 0, 0) := by decide +kernel
theorem tX9_narrow_54 : gAt mX9_narrow 54 = some (.aload_n 0, 1, 0, 0, 0, 0) := by decide +kernel
theorem tX9_narrow_55 : gAt mX9_narrow 55 = some (.getfield 134, 3, 10, 50, 2, 1089) := by decide +kernel
theorem tX9_narrow_58 : gAt mX9_narrow 58 = some (.iload_n 1, 1, 0, 0, 0, 0) := by decide +kernel
theorem tX9_narrow_59 : gAt mX9_narrow 59 = some (.iaload, 1, 112, 0, 0, 0) := by decide +kernel
theorem tX9_narrow_60 : gAt mX9_narrow 60 = some (.iadd, 1, 0, 0, 0, 0) := by decide +kernel
theorem tX9_narrow_61 : gAt mX9_narrow 61 = some (.iload_n 2, 1, 0, 0, 0, 0) := by decide +kernel
theorem tX9_narrow_62 : gAt mX9_narrow 62 = some (.iastore, 1, 112, 0, 0, 0) := by decide +kernel
theorem tX9_narrow_63 : gAt mX9_narrow 63 = some (.aload_n 0, 1, 0, 0, 0, 0) := by decide +kernel
theorem tX9_narrow_64 : gAt mX9_narrow 64 = some (.getfield 134, 3, 10, 50, 2, 1089) := by decide +kernel
theorem tX9_narrow_67 : gAt mX9_narrow 67 = some (.iload_n 1, 1, 0, 0, 0, 0) := by decide +kernel
theorem tX9_narrow_68 : gAt mX9_narrow 68 = some (.dup2, 1, 0, 0, 0, 0) := by decide +kernel
theorem tX9_narrow_69 : gAt mX9_narrow 69 = some (.iaload, 1, 112, 0, 0, 0) := by decide +kernel
theorem tX9_narrow_70 : gAt mX9_narrow 70 = some (.iconst 1, 1, 1, 0, 0, 0) := by decide +kernel
theorem tX9_narrow_71 : gAt mX9_narrow 71 = some (.iadd, 1, 0, 0, 0, 0) := by decide +kernel
theorem tX9_narrow_72 : gAt mX9_narrow 72 = some (.iastore, 1, 112, 0, 0, 0) := by decide +kernel
theorem tX9_narrow_73 : gAt mX9_narrow 73 = some (.iload_n 3, 1, 0, 0, 0, 0) := by decide +kernel
theorem tX9_narrow_74 : gAt mX9_narrow 74 = some (.aload_n 0, 1, 0, 0, 0, 0) := by decide +kernel
theorem tX9_narrow_75 : gAt mX9_narrow 75 = some (.iload_n 1, 1, 0, 0, 0, 0) := by decide +kernel
theorem tX9_narrow_76 : gAt mX9_narrow 76 = some (.invokevirtual 350, 3, 158, 1, 10, 1439) := by decide +kernel
theorem tX9_narrow_79 : gAt mX9_narrow 79 = some (.isub, 1, 0, 0, 0, 0) := by decide +kernel
theorem tX9_narrow_80 : gAt mX9_narrow 80 = some (.ireturn, 1, 0, 0, 0, 0) := by decide +kernel
set_option maxRecDepth 100000 in
theorem okX9_stop : (gTb mX9_stop).all (okE gF gNM mX9_stop) = true := by decide +kernel
theorem pnX9_stop : plainName (gY mX9_stop).cls = true := by decide +kernel
theorem tX9_stop_0 : gAt mX9_stop 0 = some (.aload_n 0, 1, 0, 0, 0, 0) := by decide +kernel
theorem tX9_stop_1 : gAt mX9_stop 1 = some (.iconst 0, 1, 0, 0, 0, 0) := by decide +kernel
theorem tX9_stop_2 : gAt mX9_stop 2 = some (.putfield 174, 3, 10, 0, 0, 1039) := by decide +kernel
theorem tX9_stop_5 : gAt mX9_stop 5 = some (.aload_n 0, 1, 0, 0, 0, 0) := by decide +kernel
theorem tX9_stop_6 : gAt mX9_stop 6 = some (.iload_n 1, 1, 0, 0, 0, 0) := by decide +kernel
theorem tX9_stop_7 : gAt mX9_stop 7 = some (.invokevirtual 347, 3, 154, 1, 10, 1435) := by decide +kernel
theorem tX9_stop_10 : gAt mX9_stop 10 = some (.ifCond .eq 21, 3, 31, 0, 0, 0) := by decide +kernel
theorem tX9_stop_13 : gAt mX9_stop 13 = some (.aload_n 0, 1, 0, 0, 0, 0) := by decide +kernel
theorem tX9_stop_14 : gAt mX9_stop 14 = some (.getfield 146, 3, 10, 54, 2, 1093) := by decide +kernel
theorem tX9_stop_17 : gAt mX9_stop 17 = some (.iload_n 1, 1, 0, 0, 0, 0) := by decide +kernel
theorem tX9_stop_18 : gAt mX9_stop 18 = some (.iaload, 1, 112, 0, 0, 0) := by decide +kernel
theorem tX9_stop_19 : gAt mX9_stop 19 = some (.ifCond .lt 7, 3, 26, 0, 0, 0) := by decide +kernel
theorem tX9_stop_22 : gAt mX9_stop 22 = some (.iconst 1, 1, 1, 0, 0, 0) := by decide +kernel
theorem tX9_stop_23 : gAt mX9_stop 23 = some (.goto 4, 3, 27, 0, 0, 0) := by decide +kernel
theorem tX9_stop_26 : gAt mX9_stop 26 = some (.iconst 0, 1, 0, 0, 0, 0) := by decide +kernel
theorem tX9_stop_27 : gAt mX9_stop 27 = some (.iload_n 2, 1, 0, 0, 0, 0) := by decide +kernel
theorem tX9_stop_28 : gAt mX9_stop 28 = some (.if_icmp .ne 5, 3, 33, 0, 0, 0) := by decide +kernel
theorem tX9_stop_31 : gAt mX9_stop 31 = some (.iconst 0, 1, 0, 0, 0, 0) := by decide +kernel
theorem tX9_stop_32 : gAt mX9_stop 32 = some (.ireturn, 1, 1, 0, 0, 0) := by decide +kernel
theorem tX9_stop_33 : gAt mX9_stop 33 = some (.aload_n 0, 1, 0, 0, 0, 0) := by decide +kernel
theorem tX9_stop_34 : gAt mX9_stop 34 = some (.getfield 146, 3, 10, 54, 2, 1093) := by decide +kernel
theorem tX9_stop_37 : gAt mX9_stop 37 = some (.iload_n 1, 1, 0, 0, 0, 0) := by decide +kernel
theorem tX9_stop_38 : gAt mX9_stop 38 = some (.iaload, 1, 112, 0, 0, 0) := by decide +kernel
theorem tX9_stop_39 : gAt mX9_stop 39 = some (.istore_n 3, 1, 0, 0, 0, 0) := by decide +kernel
theorem tX9_stop_40 : gAt mX9_stop 40 = some (.iload_n 3, 1, 0, 0, 0, 0) := by decide +kernel
theorem tX9_stop_41 : gAt mX9_stop 41 = some (.ifCond .lt 30, 3, 71, 0, 0, 0) := by decide +kernel
theorem tX9_stop_44 : gAt mX9_stop 44 = some (.iload_n 3, 1, 0, 0, 0, 0) := by decide +kernel
theorem tX9_stop_45 : gAt mX9_stop 45 = some (.aload_n 0, 1, 0, 0, 0, 0) := by decide +kernel
theorem tX9_stop_46 : gAt mX9_stop 46 = some (.getfield 273, 3, 10, 24, 0, 1063) := by decide +kernel
theorem tX9_stop_49 : gAt mX9_stop 49 = some (.if_icmp .ge 22, 3, 71, 0, 0, 0) := by decide +kernel
theorem tX9_stop_52 : gAt mX9_stop 52 = some (.aload_n 0, 1, 0, 0, 0, 0) := by decide +kernel
theorem tX9_stop_53 : gAt mX9_stop 53 = some (.getfield 150, 3, 10, 55, 2, 1094) := by decide +kernel
theorem tX9_stop_56 : gAt mX9_stop 56 = some (.sipush 5000, 3, 5000, 0, 0, 0) := by decide +kernel
theorem tX9_stop_59 : gAt mX9_stop 59 = some (.iload_n 1, 1, 0, 0, 0, 0) := by decide +kernel
theorem tX9_stop_60 : gAt mX9_stop 60 = some (.imul, 1, 0, 0, 0, 0) := by decide +kernel
theorem tX9_stop_61 : gAt mX9_stop 61 = some (.iload_n 3, 1, 0, 0, 0, 0) := by decide +kernel
theorem tX9_stop_62 : gAt mX9_stop 62 = some (.iadd, 1, 0, 0, 0, 0) := by decide +kernel
theorem tX9_stop_63 : gAt mX9_stop 63 = some (.iconst 1, 1, 1, 0, 0, 0) := by decide +kernel
theorem tX9_stop_64 : gAt mX9_stop 64 = some (.bastore, 1, 114, 0, 0, 0) := by decide +kernel
theorem tX9_stop_65 : gAt mX9_stop 65 = some (.iinc 3 1, 3, 1, 0, 0, 0) := by decide +kernel
theorem tX9_stop_68 : gAt mX9_stop 68 = some (.goto (-28), 3, 40, 0, 0, 0) := by decide +kernel
theorem tX9_stop_71 : gAt mX9_stop 71 = some (.aload_n 0, 1, 0, 0, 0, 0) := by decide +kernel
theorem tX9_stop_72 : gAt mX9_stop 72 = some (.getfield 146, 3, 10, 54, 2, 1093) := by decide +kernel
theorem tX9_stop_75 : gAt mX9_stop 75 = some (.iload_n 1, 1, 0, 0, 0, 0) := by decide +kernel
theorem tX9_stop_76 : gAt mX9_stop 76 = some (.iload_n 2, 1, 0, 0, 0, 0) := by decide +kernel
theorem tX9_stop_77 : gAt mX9_stop 77 = some (.ifCond .eq 10, 3, 87, 0, 0, 0) := by decide +kernel
theorem tX9_stop_80 : gAt mX9_stop 80 = some (.aload_n 0, 1, 0, 0, 0, 0) := by decide +kernel
theorem tX9_stop_81 : gAt mX9_stop 81 = some (.getfield 273, 3, 10, 24, 0, 1063) := by decide +kernel
theorem tX9_stop_84 : gAt mX9_stop 84 = some (.goto 4, 3, 88, 0, 0, 0) := by decide +kernel
theorem tX9_stop_87 : gAt mX9_stop 87 = some (.iconst (-1), 1, 1, 1, 0, 0) := by decide +kernel
theorem tX9_stop_88 : gAt mX9_stop 88 = some (.iastore, 1, 112, 0, 0, 0) := by decide +kernel
theorem tX9_stop_89 : gAt mX9_stop 89 = some (.iconst 1, 1, 1, 0, 0, 0) := by decide +kernel
theorem tX9_stop_90 : gAt mX9_stop 90 = some (.ireturn, 1, 1, 0, 0, 0) := by decide +kernel
set_option maxRecDepth 100000 in
theorem okX9_dueOf : (gTb mX9_dueOf).all (okE gF gNM mX9_dueOf) = true := by decide +kernel
theorem pnX9_dueOf : plainName (gY mX9_dueOf).cls = true := by decide +kernel
theorem tX9_dueOf_0 : gAt mX9_dueOf 0 = some (.iconst 0, 1, 0, 0, 0, 0) := by decide +kernel
theorem tX9_dueOf_1 : gAt mX9_dueOf 1 = some (.istore_n 2, 1, 0, 0, 0, 0) := by decide +kernel
theorem tX9_dueOf_2 : gAt mX9_dueOf 2 = some (.aload_n 0, 1, 0, 0, 0, 0) := by decide +kernel
theorem tX9_dueOf_3 : gAt mX9_dueOf 3 = some (.getfield 140, 3, 10, 52, 2, 1091) := by decide +kernel
theorem tX9_dueOf_6 : gAt mX9_dueOf 6 = some (.iload_n 1, 1, 0, 0, 0, 0) := by decide +kernel
theorem tX9_dueOf_7 : gAt mX9_dueOf 7 = some (.iaload, 1, 112, 0, 0, 0) := by decide +kernel
theorem tX9_dueOf_8 : gAt mX9_dueOf 8 = some (.istore_n 3, 1, 0, 0, 0, 0) := by decide +kernel
theorem tX9_dueOf_9 : gAt mX9_dueOf 9 = some (.iload_n 2, 1, 0, 0, 0, 0) := by decide +kernel
theorem tX9_dueOf_10 : gAt mX9_dueOf 10 = some (.bipush 20, 2, 20, 0, 0, 0) := by decide +kernel
theorem tX9_dueOf_12 : gAt mX9_dueOf 12 = some (.if_icmp .ge 47, 3, 59, 0, 0, 0) := by decide +kernel
theorem tX9_dueOf_15 : gAt mX9_dueOf 15 = some (.iload_n 3, 1, 0, 0, 0, 0) := by decide +kernel
theorem tX9_dueOf_16 : gAt mX9_dueOf 16 = some (.sipush 4999, 3, 4999, 0, 0, 0) := by decide +kernel
theorem tX9_dueOf_19 : gAt mX9_dueOf 19 = some (.if_icmp .ge 40, 3, 59, 0, 0, 0) := by decide +kernel
theorem tX9_dueOf_22 : gAt mX9_dueOf 22 = some (.iinc 3 1, 3, 1, 0, 0, 0) := by decide +kernel
theorem tX9_dueOf_25 : gAt mX9_dueOf 25 = some (.iload_n 2, 1, 0, 0, 0, 0) := by decide +kernel
theorem tX9_dueOf_26 : gAt mX9_dueOf 26 = some (.iload_n 3, 1, 0, 0, 0, 0) := by decide +kernel
theorem tX9_dueOf_27 : gAt mX9_dueOf 27 = some (.bipush 7, 2, 7, 0, 0, 0) := by decide +kernel
theorem tX9_dueOf_29 : gAt mX9_dueOf 29 = some (.irem, 1, 0, 0, 0, 0) := by decide +kernel
theorem tX9_dueOf_30 : gAt mX9_dueOf 30 = some (.iconst 5, 1, 5, 0, 0, 0) := by decide +kernel
theorem tX9_dueOf_31 : gAt mX9_dueOf 31 = some (.if_icmp .ge 22, 3, 53, 0, 0, 0) := by decide +kernel
theorem tX9_dueOf_34 : gAt mX9_dueOf 34 = some (.aload_n 0, 1, 0, 0, 0, 0) := by decide +kernel
theorem tX9_dueOf_35 : gAt mX9_dueOf 35 = some (.getfield 150, 3, 10, 55, 2, 1094) := by decide +kernel
theorem tX9_dueOf_38 : gAt mX9_dueOf 38 = some (.sipush 5000, 3, 5000, 0, 0, 0) := by decide +kernel
theorem tX9_dueOf_41 : gAt mX9_dueOf 41 = some (.iload_n 1, 1, 0, 0, 0, 0) := by decide +kernel
theorem tX9_dueOf_42 : gAt mX9_dueOf 42 = some (.imul, 1, 0, 0, 0, 0) := by decide +kernel
theorem tX9_dueOf_43 : gAt mX9_dueOf 43 = some (.iload_n 3, 1, 0, 0, 0, 0) := by decide +kernel
theorem tX9_dueOf_44 : gAt mX9_dueOf 44 = some (.iadd, 1, 0, 0, 0, 0) := by decide +kernel
theorem tX9_dueOf_45 : gAt mX9_dueOf 45 = some (.baload, 1, 114, 0, 0, 0) := by decide +kernel
theorem tX9_dueOf_46 : gAt mX9_dueOf 46 = some (.ifCond .ne 7, 3, 53, 0, 0, 0) := by decide +kernel
theorem tX9_dueOf_49 : gAt mX9_dueOf 49 = some (.iconst 1, 1, 1, 0, 0, 0) := by decide +kernel
theorem tX9_dueOf_50 : gAt mX9_dueOf 50 = some (.goto 4, 3, 54, 0, 0, 0) := by decide +kernel
theorem tX9_dueOf_53 : gAt mX9_dueOf 53 = some (.iconst 0, 1, 0, 0, 0, 0) := by decide +kernel
theorem tX9_dueOf_54 : gAt mX9_dueOf 54 = some (.iadd, 1, 0, 0, 0, 0) := by decide +kernel
theorem tX9_dueOf_55 : gAt mX9_dueOf 55 = some (.istore_n 2, 1, 0, 0, 0, 0) := by decide +kernel
theorem tX9_dueOf_56 : gAt mX9_dueOf 56 = some (.goto (-47), 3, 9, 0, 0, 0) := by decide +kernel
theorem tX9_dueOf_59 : gAt mX9_dueOf 59 = some (.iload_n 3, 1, 0, 0, 0, 0) := by decide +kernel
theorem tX9_dueOf_60 : gAt mX9_dueOf 60 = some (.ireturn, 1, 0, 0, 0, 0) := by decide +kernel
set_option maxRecDepth 100000 in
theorem okX9_due : (gTb mX9_due).all (okE gF gNM mX9_due) = true := by decide +kernel
theorem pnX9_due : plainName (gY mX9_due).cls = true := by decide +kernel
theorem tX9_due_0 : gAt mX9_due 0 = some (.aload_n 0, 1, 0, 0, 0, 0) := by decide +kernel
theorem tX9_due_1 : gAt mX9_due 1 = some (.iconst 0, 1, 0, 0, 0, 0) := by decide +kernel
theorem tX9_due_2 : gAt mX9_due 2 = some (.putfield 174, 3, 10, 0, 0, 1039) := by decide +kernel
theorem tX9_due_5 : gAt mX9_due 5 = some (.aload_n 0, 1, 0, 0, 0, 0) := by decide +kernel
theorem tX9_due_6 : gAt mX9_due 6 = some (.iload_n 1, 1, 0, 0, 0, 0) := by decide +kernel
theorem tX9_due_7 : gAt mX9_due 7 = some (.invokevirtual 347, 3, 154, 1, 10, 1435) := by decide +kernel
theorem tX9_due_10 : gAt mX9_due 10 = some (.ifCond .eq 12, 3, 22, 0, 0, 0) := by decide +kernel
theorem tX9_due_13 : gAt mX9_due 13 = some (.aload_n 0, 1, 0, 0, 0, 0) := by decide +kernel
theorem tX9_due_14 : gAt mX9_due 14 = some (.getfield 146, 3, 10, 54, 2, 1093) := by decide +kernel
theorem tX9_due_17 : gAt mX9_due 17 = some (.iload_n 1, 1, 0, 0, 0, 0) := by decide +kernel
theorem tX9_due_18 : gAt mX9_due 18 = some (.iaload, 1, 112, 0, 0, 0) := by decide +kernel
theorem tX9_due_19 : gAt mX9_due 19 = some (.ifCond .lt 7, 3, 26, 0, 0, 0) := by decide +kernel
theorem tX9_due_22 : gAt mX9_due 22 = some (.iconst (-1), 1, 1, 1, 0, 0) := by decide +kernel
theorem tX9_due_23 : gAt mX9_due 23 = some (.goto 8, 3, 31, 0, 0, 0) := by decide +kernel
theorem tX9_due_26 : gAt mX9_due 26 = some (.aload_n 0, 1, 0, 0, 0, 0) := by decide +kernel
theorem tX9_due_27 : gAt mX9_due 27 = some (.iload_n 1, 1, 0, 0, 0, 0) := by decide +kernel
theorem tX9_due_28 : gAt mX9_due 28 = some (.invokevirtual 356, 3, 162, 1, 10, 1471) := by decide +kernel
theorem tX9_due_31 : gAt mX9_due 31 = some (.ireturn, 1, 0, 0, 0, 0) := by decide +kernel
set_option maxRecDepth 100000 in
theorem okX9_findFits : (gTb mX9_findFits).all (okE gF gNM mX9_findFits) = true := by decide +kernel
theorem pnX9_findFits : plainName (gY mX9_findFits).cls = true := by decide +kernel
theorem tX9_findFits_0 : gAt mX9_findFits 0 = some (.iconst 0, 1, 0, 0, 0, 0) := by decide +kernel
theorem tX9_findFits_1 : gAt mX9_findFits 1 = some (.istore_n 2, 1, 0, 0, 0, 0) := by decide +kernel
theorem tX9_findFits_2 : gAt mX9_findFits 2 = some (.iload_n 2, 1, 0, 0, 0, 0) := by decide +kernel
theorem tX9_findFits_3 : gAt mX9_findFits 3 = some (.aload_n 0, 1, 0, 0, 0, 0) := by decide +kernel
theorem tX9_findFits_4 : gAt mX9_findFits 4 = some (.getfield 294, 3, 10, 27, 0, 1066) := by decide +kernel
theorem tX9_findFits_7 : gAt mX9_findFits 7 = some (.if_icmp .ge 21, 3, 28, 0, 0, 0) := by decide +kernel
theorem tX9_findFits_10 : gAt mX9_findFits 10 = some (.aload_n 0, 1, 0, 0, 0, 0) := by decide +kernel
theorem tX9_findFits_11 : gAt mX9_findFits 11 = some (.getfield 168, 3, 10, 62, 2, 1101) := by decide +kernel
theorem tX9_findFits_14 : gAt mX9_findFits 14 = some (.iload_n 2, 1, 0, 0, 0, 0) := by decide +kernel
theorem tX9_findFits_15 : gAt mX9_findFits 15 = some (.aload_n 0, 1, 0, 0, 0, 0) := by decide +kernel
theorem tX9_findFits_16 : gAt mX9_findFits 16 = some (.iload_n 1, 1, 0, 0, 0, 0) := by decide +kernel
theorem tX9_findFits_17 : gAt mX9_findFits 17 = some (.iload_n 2, 1, 0, 0, 0, 0) := by decide +kernel
theorem tX9_findFits_18 : gAt mX9_findFits 18 = some (.invokevirtual 353, 3, 156, 2, 10, 1443) := by decide +kernel
theorem tX9_findFits_21 : gAt mX9_findFits 21 = some (.bastore, 1, 114, 0, 0, 0) := by decide +kernel
theorem tX9_findFits_22 : gAt mX9_findFits 22 = some (.iinc 2 1, 3, 1, 0, 0, 0) := by decide +kernel
theorem tX9_findFits_25 : gAt mX9_findFits 25 = some (.goto (-23), 3, 2, 0, 0, 0) := by decide +kernel
theorem tX9_findFits_28 : gAt mX9_findFits 28 = some (.return_, 1, 0, 0, 0, 0) := by decide +kernel
set_option maxRecDepth 100000 in
theorem okX9_mayGo : (gTb mX9_mayGo).all (okE gF gNM mX9_mayGo) = true := by decide +kernel
theorem pnX9_mayGo : plainName (gY mX9_mayGo).cls = true := by decide +kernel
theorem tX9_mayGo_0 : gAt mX9_mayGo 0 = some (.aload_n 0, 1, 0, 0, 0, 0) := by decide +kernel
theorem tX9_mayGo_1 : gAt mX9_mayGo 1 = some (.getfield 103, 3, 10, 38, 2, 1077) := by decide +kernel
theorem tX9_mayGo_4 : gAt mX9_mayGo 4 = some (.aload_n 0, 1, 0, 0, 0, 0) := by decide +kernel
theorem tX9_mayGo_5 : gAt mX9_mayGo 5 = some (.getfield 91, 3, 10, 33, 2, 1072) := by decide +kernel
theorem tX9_mayGo_8 : gAt mX9_mayGo 8 = some (.iload_n 1, 1, 0, 0, 0, 0) := by decide +kernel
theorem tX9_mayGo_9 : gAt mX9_mayGo 9 = some (.iaload, 1, 112, 0, 0, 0) := by decide +kernel
theorem tX9_mayGo_10 : gAt mX9_mayGo 10 = some (.baload, 1, 114, 0, 0, 0) := by decide +kernel
theorem tX9_mayGo_11 : gAt mX9_mayGo 11 = some (.istore_n 2, 1, 0, 0, 0, 0) := by decide +kernel
theorem tX9_mayGo_12 : gAt mX9_mayGo 12 = some (.iconst 0, 1, 0, 0, 0, 0) := by decide +kernel
theorem tX9_mayGo_13 : gAt mX9_mayGo 13 = some (.istore_n 3, 1, 0, 0, 0, 0) := by decide +kernel
theorem tX9_mayGo_14 : gAt mX9_mayGo 14 = some (.iload_n 3, 1, 0, 0, 0, 0) := by decide +kernel
theorem tX9_mayGo_15 : gAt mX9_mayGo 15 = some (.bipush 8, 2, 8, 0, 0, 0) := by decide +kernel
theorem tX9_mayGo_17 : gAt mX9_mayGo 17 = some (.if_icmp .ge 46, 3, 63, 0, 0, 0) := by decide +kernel
theorem tX9_mayGo_20 : gAt mX9_mayGo 20 = some (.iload_n 2, 1, 0, 0, 0, 0) := by decide +kernel
theorem tX9_mayGo_21 : gAt mX9_mayGo 21 = some (.ifCond .eq 34, 3, 55, 0, 0, 0) := by decide +kernel
theorem tX9_mayGo_24 : gAt mX9_mayGo 24 = some (.aload_n 0, 1, 0, 0, 0, 0) := by decide +kernel
theorem tX9_mayGo_25 : gAt mX9_mayGo 25 = some (.getfield 85, 3, 10, 30, 2, 1069) := by decide +kernel
theorem tX9_mayGo_28 : gAt mX9_mayGo 28 = some (.aload_n 0, 1, 0, 0, 0, 0) := by decide +kernel
theorem tX9_mayGo_29 : gAt mX9_mayGo 29 = some (.getfield 88, 3, 10, 32, 2, 1071) := by decide +kernel
theorem tX9_mayGo_32 : gAt mX9_mayGo 32 = some (.iload_n 1, 1, 0, 0, 0, 0) := by decide +kernel
theorem tX9_mayGo_33 : gAt mX9_mayGo 33 = some (.iaload, 1, 112, 0, 0, 0) := by decide +kernel
theorem tX9_mayGo_34 : gAt mX9_mayGo 34 = some (.iaload, 1, 112, 0, 0, 0) := by decide +kernel
theorem tX9_mayGo_35 : gAt mX9_mayGo 35 = some (.iload_n 3, 1, 0, 0, 0, 0) := by decide +kernel
theorem tX9_mayGo_36 : gAt mX9_mayGo 36 = some (.ishr, 1, 0, 0, 0, 0) := by decide +kernel
theorem tX9_mayGo_37 : gAt mX9_mayGo 37 = some (.iconst 1, 1, 1, 0, 0, 0) := by decide +kernel
theorem tX9_mayGo_38 : gAt mX9_mayGo 38 = some (.iand, 1, 0, 0, 0, 0) := by decide +kernel
theorem tX9_mayGo_39 : gAt mX9_mayGo 39 = some (.ifCond .eq 12, 3, 51, 0, 0, 0) := by decide +kernel
theorem tX9_mayGo_42 : gAt mX9_mayGo 42 = some (.aload_n 0, 1, 0, 0, 0, 0) := by decide +kernel
theorem tX9_mayGo_43 : gAt mX9_mayGo 43 = some (.getfield 119, 3, 10, 43, 2, 1082) := by decide +kernel
theorem tX9_mayGo_46 : gAt mX9_mayGo 46 = some (.iload_n 3, 1, 0, 0, 0, 0) := by decide +kernel
theorem tX9_mayGo_47 : gAt mX9_mayGo 47 = some (.baload, 1, 114, 0, 0, 0) := by decide +kernel
theorem tX9_mayGo_48 : gAt mX9_mayGo 48 = some (.ifCond .eq 7, 3, 55, 0, 0, 0) := by decide +kernel
theorem tX9_mayGo_51 : gAt mX9_mayGo 51 = some (.iconst 1, 1, 1, 0, 0, 0) := by decide +kernel
theorem tX9_mayGo_52 : gAt mX9_mayGo 52 = some (.goto 4, 3, 56, 0, 0, 0) := by decide +kernel
theorem tX9_mayGo_55 : gAt mX9_mayGo 55 = some (.iconst 0, 1, 0, 0, 0, 0) := by decide +kernel
theorem tX9_mayGo_56 : gAt mX9_mayGo 56 = some (.istore_n 2, 1, 0, 0, 0, 0) := by decide +kernel
theorem tX9_mayGo_57 : gAt mX9_mayGo 57 = some (.iinc 3 1, 3, 1, 0, 0, 0) := by decide +kernel
theorem tX9_mayGo_60 : gAt mX9_mayGo 60 = some (.goto (-46), 3, 14, 0, 0, 0) := by decide +kernel
theorem tX9_mayGo_63 : gAt mX9_mayGo 63 = some (.iload_n 2, 1, 0, 0, 0, 0) := by decide +kernel
theorem tX9_mayGo_64 : gAt mX9_mayGo 64 = some (.ireturn, 1, 1, 0, 0, 0) := by decide +kernel
set_option maxRecDepth 100000 in
theorem okX9_wasGivenAhead : (gTb mX9_wasGivenAhead).all (okE gF gNM mX9_wasGivenAhead) = true := by decide +kernel
theorem pnX9_wasGivenAhead : plainName (gY mX9_wasGivenAhead).cls = true := by decide +kernel
theorem tX9_wasGivenAhead_0 : gAt mX9_wasGivenAhead 0 = some (.aload_n 0, 1, 0, 0, 0, 0) := by decide +kernel
theorem tX9_wasGivenAhead_1 : gAt mX9_wasGivenAhead 1 = some (.getfield 143, 3, 10, 53, 2, 1092) := by decide +kernel
theorem tX9_wasGivenAhead_4 : gAt mX9_wasGivenAhead 4 = some (.iload_n 1, 1, 0, 0, 0, 0) := by decide +kernel
theorem tX9_wasGivenAhead_5 : gAt mX9_wasGivenAhead 5 = some (.iaload, 1, 112, 0, 0, 0) := by decide +kernel
theorem tX9_wasGivenAhead_6 : gAt mX9_wasGivenAhead 6 = some (.ifCond .lt 26, 3, 32, 0, 0, 0) := by decide +kernel
theorem tX9_wasGivenAhead_9 : gAt mX9_wasGivenAhead 9 = some (.aload_n 0, 1, 0, 0, 0, 0) := by decide +kernel
theorem tX9_wasGivenAhead_10 : gAt mX9_wasGivenAhead 10 = some (.getfield 153, 3, 10, 56, 2, 1095) := by decide +kernel
theorem tX9_wasGivenAhead_13 : gAt mX9_wasGivenAhead 13 = some (.bipush 120, 2, 120, 0, 0, 0) := by decide +kernel
theorem tX9_wasGivenAhead_15 : gAt mX9_wasGivenAhead 15 = some (.aload_n 0, 1, 0, 0, 0, 0) := by decide +kernel
theorem tX9_wasGivenAhead_16 : gAt mX9_wasGivenAhead 16 = some (.getfield 143, 3, 10, 53, 2, 1092) := by decide +kernel
theorem tX9_wasGivenAhead_19 : gAt mX9_wasGivenAhead 19 = some (.iload_n 1, 1, 0, 0, 0, 0) := by decide +kernel
theorem tX9_wasGivenAhead_20 : gAt mX9_wasGivenAhead 20 = some (.iaload, 1, 112, 0, 0, 0) := by decide +kernel
theorem tX9_wasGivenAhead_21 : gAt mX9_wasGivenAhead 21 = some (.imul, 1, 0, 0, 0, 0) := by decide +kernel
theorem tX9_wasGivenAhead_22 : gAt mX9_wasGivenAhead 22 = some (.iload_n 2, 1, 0, 0, 0, 0) := by decide +kernel
theorem tX9_wasGivenAhead_23 : gAt mX9_wasGivenAhead 23 = some (.iadd, 1, 0, 0, 0, 0) := by decide +kernel
theorem tX9_wasGivenAhead_24 : gAt mX9_wasGivenAhead 24 = some (.baload, 1, 114, 0, 0, 0) := by decide +kernel
theorem tX9_wasGivenAhead_25 : gAt mX9_wasGivenAhead 25 = some (.ifCond .eq 7, 3, 32, 0, 0, 0) := by decide +kernel
theorem tX9_wasGivenAhead_28 : gAt mX9_wasGivenAhead 28 = some (.iconst 1, 1, 1, 0, 0, 0) := by decide +kernel
theorem tX9_wasGivenAhead_29 : gAt mX9_wasGivenAhead 29 = some (.goto 4, 3, 33, 0, 0, 0) := by decide +kernel
theorem tX9_wasGivenAhead_32 : gAt mX9_wasGivenAhead 32 = some (.iconst 0, 1, 0, 0, 0, 0) := by decide +kernel
theorem tX9_wasGivenAhead_33 : gAt mX9_wasGivenAhead 33 = some (.ireturn, 1, 1, 0, 0, 0) := by decide +kernel
set_option maxRecDepth 100000 in
theorem okX9_gives : (gTb mX9_gives).all (okE gF gNM mX9_gives) = true := by decide +kernel
theorem pnX9_gives : plainName (gY mX9_gives).cls = true := by decide +kernel
theorem tX9_gives_0 : gAt mX9_gives 0 = some (.aload_n 0, 1, 0, 0, 0, 0) := by decide +kernel
theorem tX9_gives_1 : gAt mX9_gives 1 = some (.getfield 156, 3, 10, 58, 2, 1097) := by decide +kernel
theorem tX9_gives_4 : gAt mX9_gives 4 = some (.aload_n 0, 1, 0, 0, 0, 0) := by decide +kernel
theorem tX9_gives_5 : gAt mX9_gives 5 = some (.getfield 359, 3, 10, 57, 0, 1096) := by decide +kernel
theorem tX9_gives_8 : gAt mX9_gives 8 = some (.iload_n 1, 1, 0, 0, 0, 0) := by decide +kernel
theorem tX9_gives_9 : gAt mX9_gives 9 = some (.iastore, 1, 112, 0, 0, 0) := by decide +kernel
theorem tX9_gives_10 : gAt mX9_gives 10 = some (.aload_n 0, 1, 0, 0, 0, 0) := by decide +kernel
theorem tX9_gives_11 : gAt mX9_gives 11 = some (.getfield 159, 3, 10, 59, 2, 1098) := by decide +kernel
theorem tX9_gives_14 : gAt mX9_gives 14 = some (.aload_n 0, 1, 0, 0, 0, 0) := by decide +kernel
theorem tX9_gives_15 : gAt mX9_gives 15 = some (.getfield 359, 3, 10, 57, 0, 1096) := by decide +kernel
theorem tX9_gives_18 : gAt mX9_gives 18 = some (.iload_n 2, 1, 0, 0, 0, 0) := by decide +kernel
theorem tX9_gives_19 : gAt mX9_gives 19 = some (.iastore, 1, 112, 0, 0, 0) := by decide +kernel
theorem tX9_gives_20 : gAt mX9_gives 20 = some (.aload_n 0, 1, 0, 0, 0, 0) := by decide +kernel
theorem tX9_gives_21 : gAt mX9_gives 21 = some (.getfield 162, 3, 10, 60, 2, 1099) := by decide +kernel
theorem tX9_gives_24 : gAt mX9_gives 24 = some (.aload_n 0, 1, 0, 0, 0, 0) := by decide +kernel
theorem tX9_gives_25 : gAt mX9_gives 25 = some (.getfield 359, 3, 10, 57, 0, 1096) := by decide +kernel
theorem tX9_gives_28 : gAt mX9_gives 28 = some (.aload_n 0, 1, 0, 0, 0, 0) := by decide +kernel
theorem tX9_gives_29 : gAt mX9_gives 29 = some (.getfield 273, 3, 10, 24, 0, 1063) := by decide +kernel
theorem tX9_gives_32 : gAt mX9_gives 32 = some (.iastore, 1, 112, 0, 0, 0) := by decide +kernel
theorem tX9_gives_33 : gAt mX9_gives 33 = some (.iconst 0, 1, 0, 0, 0, 0) := by decide +kernel
theorem tX9_gives_34 : gAt mX9_gives 34 = some (.istore_n 3, 1, 0, 0, 0, 0) := by decide +kernel
theorem tX9_gives_35 : gAt mX9_gives 35 = some (.iload_n 3, 1, 0, 0, 0, 0) := by decide +kernel
theorem tX9_gives_36 : gAt mX9_gives 36 = some (.aload_n 0, 1, 0, 0, 0, 0) := by decide +kernel
theorem tX9_gives_37 : gAt mX9_gives 37 = some (.getfield 94, 3, 10, 34, 2, 1073) := by decide +kernel
theorem tX9_gives_40 : gAt mX9_gives 40 = some (.iload_n 2, 1, 0, 0, 0, 0) := by decide +kernel
theorem tX9_gives_41 : gAt mX9_gives 41 = some (.iaload, 1, 112, 0, 0, 0) := by decide +kernel
theorem tX9_gives_42 : gAt mX9_gives 42 = some (.if_icmp .ge 29, 3, 71, 0, 0, 0) := by decide +kernel
theorem tX9_gives_45 : gAt mX9_gives 45 = some (.aload_n 0, 1, 0, 0, 0, 0) := by decide +kernel
theorem tX9_gives_46 : gAt mX9_gives 46 = some (.getfield 165, 3, 10, 61, 2, 1100) := by decide +kernel
theorem tX9_gives_49 : gAt mX9_gives 49 = some (.bipush 12, 2, 12, 0, 0, 0) := by decide +kernel
theorem tX9_gives_51 : gAt mX9_gives 51 = some (.aload_n 0, 1, 0, 0, 0, 0) := by decide +kernel
theorem tX9_gives_52 : gAt mX9_gives 52 = some (.getfield 359, 3, 10, 57, 0, 1096) := by decide +kernel
theorem tX9_gives_55 : gAt mX9_gives 55 = some (.imul, 1, 0, 0, 0, 0) := by decide +kernel
theorem tX9_gives_56 : gAt mX9_gives 56 = some (.iload_n 3, 1, 0, 0, 0, 0) := by decide +kernel
theorem tX9_gives_57 : gAt mX9_gives 57 = some (.iadd, 1, 0, 0, 0, 0) := by decide +kernel
theorem tX9_gives_58 : gAt mX9_gives 58 = some (.aload_n 0, 1, 0, 0, 0, 0) := by decide +kernel
theorem tX9_gives_59 : gAt mX9_gives 59 = some (.iload_n 2, 1, 0, 0, 0, 0) := by decide +kernel
theorem tX9_gives_60 : gAt mX9_gives 60 = some (.iload_n 3, 1, 0, 0, 0, 0) := by decide +kernel
theorem tX9_gives_61 : gAt mX9_gives 61 = some (.invokevirtual 325, 3, 148, 2, 10, 1392) := by decide +kernel
theorem tX9_gives_64 : gAt mX9_gives 64 = some (.iastore, 1, 112, 0, 0, 0) := by decide +kernel
theorem tX9_gives_65 : gAt mX9_gives 65 = some (.iinc 3 1, 3, 1, 0, 0, 0) := by decide +kernel
theorem tX9_gives_68 : gAt mX9_gives 68 = some (.goto (-33), 3, 35, 0, 0, 0) := by decide +kernel
theorem tX9_gives_71 : gAt mX9_gives 71 = some (.aload_n 0, 1, 0, 0, 0, 0) := by decide +kernel
theorem tX9_gives_72 : gAt mX9_gives 72 = some (.getfield 153, 3, 10, 56, 2, 1095) := by decide +kernel
theorem tX9_gives_75 : gAt mX9_gives 75 = some (.bipush 120, 2, 120, 0, 0, 0) := by decide +kernel
theorem tX9_gives_77 : gAt mX9_gives 77 = some (.iload_n 1, 1, 0, 0, 0, 0) := by decide +kernel
theorem tX9_gives_78 : gAt mX9_gives 78 = some (.imul, 1, 0, 0, 0, 0) := by decide +kernel
theorem tX9_gives_79 : gAt mX9_gives 79 = some (.aload_n 0, 1, 0, 0, 0, 0) := by decide +kernel
theorem tX9_gives_80 : gAt mX9_gives 80 = some (.getfield 91, 3, 10, 33, 2, 1072) := by decide +kernel
theorem tX9_gives_83 : gAt mX9_gives 83 = some (.iload_n 2, 1, 0, 0, 0, 0) := by decide +kernel
theorem tX9_gives_84 : gAt mX9_gives 84 = some (.iaload, 1, 112, 0, 0, 0) := by decide +kernel
theorem tX9_gives_85 : gAt mX9_gives 85 = some (.iadd, 1, 0, 0, 0, 0) := by decide +kernel
theorem tX9_gives_86 : gAt mX9_gives 86 = some (.iconst 1, 1, 1, 0, 0, 0) := by decide +kernel
theorem tX9_gives_87 : gAt mX9_gives 87 = some (.bastore, 1, 114, 0, 0, 0) := by decide +kernel
theorem tX9_gives_88 : gAt mX9_gives 88 = some (.aload_n 0, 1, 0, 0, 0, 0) := by decide +kernel
theorem tX9_gives_89 : gAt mX9_gives 89 = some (.dup, 1, 0, 0, 0, 0) := by decide +kernel
theorem tX9_gives_90 : gAt mX9_gives 90 = some (.getfield 359, 3, 10, 57, 0, 1096) := by decide +kernel
theorem tX9_gives_93 : gAt mX9_gives 93 = some (.iconst 1, 1, 1, 0, 0, 0) := by decide +kernel
theorem tX9_gives_94 : gAt mX9_gives 94 = some (.iadd, 1, 0, 0, 0, 0) := by decide +kernel
theorem tX9_gives_95 : gAt mX9_gives 95 = some (.putfield 359, 3, 10, 57, 0, 1096) := by decide +kernel
theorem tX9_gives_98 : gAt mX9_gives 98 = some (.return_, 1, 0, 0, 0, 0) := by decide +kernel
set_option maxRecDepth 100000 in
theorem okX9_answer : (gTb mX9_answer).all (okE gF gNM mX9_answer) = true := by decide +kernel
theorem pnX9_answer : plainName (gY mX9_answer).cls = true := by decide +kernel
theorem tX9_answer_0 : gAt mX9_answer 0 = some (.aload_n 0, 1, 0, 0, 0, 0) := by decide +kernel
theorem tX9_answer_1 : gAt mX9_answer 1 = some (.iconst 0, 1, 0, 0, 0, 0) := by decide +kernel
theorem tX9_answer_2 : gAt mX9_answer 2 = some (.putfield 174, 3, 10, 0, 0, 1039) := by decide +kernel
theorem tX9_answer_5 : gAt mX9_answer 5 = some (.aload_n 0, 1, 0, 0, 0, 0) := by decide +kernel
theorem tX9_answer_6 : gAt mX9_answer 6 = some (.iload_n 1, 1, 0, 0, 0, 0) := by decide +kernel
theorem tX9_answer_7 : gAt mX9_answer 7 = some (.invokevirtual 347, 3, 154, 1, 10, 1435) := by decide +kernel
theorem tX9_answer_10 : gAt mX9_answer 10 = some (.ifCond .eq 14, 3, 24, 0, 0, 0) := by decide +kernel
theorem tX9_answer_13 : gAt mX9_answer 13 = some (.iload_n 2, 1, 0, 0, 0, 0) := by decide +kernel
theorem tX9_answer_14 : gAt mX9_answer 14 = some (.iconst 1, 1, 1, 0, 0, 0) := by decide +kernel
theorem tX9_answer_15 : gAt mX9_answer 15 = some (.if_icmp .lt 9, 3, 24, 0, 0, 0) := by decide +kernel
theorem tX9_answer_18 : gAt mX9_answer 18 = some (.iload_n 2, 1, 0, 0, 0, 0) := by decide +kernel
theorem tX9_answer_19 : gAt mX9_answer 19 = some (.bipush 50, 2, 50, 0, 0, 0) := by decide +kernel
theorem tX9_answer_21 : gAt mX9_answer 21 = some (.if_icmp .le 5, 3, 26, 0, 0, 0) := by decide +kernel
theorem tX9_answer_24 : gAt mX9_answer 24 = some (.iconst (-1), 1, 1, 1, 0, 0) := by decide +kernel
theorem tX9_answer_25 : gAt mX9_answer 25 = some (.ireturn, 1, 0, 0, 0, 0) := by decide +kernel
theorem tX9_answer_26 : gAt mX9_answer 26 = some (.aload_n 0, 1, 0, 0, 0, 0) := by decide +kernel
theorem tX9_answer_27 : gAt mX9_answer 27 = some (.iload_n 1, 1, 0, 0, 0, 0) := by decide +kernel
theorem tX9_answer_28 : gAt mX9_answer 28 = some (.invokevirtual 362, 3, 164, 1, 10, 1479) := by decide +kernel
theorem tX9_answer_31 : gAt mX9_answer 31 = some (.iconst 0, 1, 0, 0, 0, 0) := by decide +kernel
theorem tX9_answer_32 : gAt mX9_answer 32 = some (.istore_n 3, 1, 0, 0, 0, 0) := by decide +kernel
theorem tX9_answer_33 : gAt mX9_answer 33 = some (.iconst 0, 1, 0, 0, 0, 0) := by decide +kernel
theorem tX9_answer_34 : gAt mX9_answer 34 = some (.istore 4, 2, 0, 0, 0, 0) := by decide +kernel
theorem tX9_answer_36 : gAt mX9_answer 36 = some (.iload 4, 2, 0, 0, 0, 0) := by decide +kernel
theorem tX9_answer_38 : gAt mX9_answer 38 = some (.iconst 2, 1, 2, 0, 0, 0) := by decide +kernel
theorem tX9_answer_39 : gAt mX9_answer 39 = some (.if_icmp .ge 133, 3, 172, 0, 0, 0) := by decide +kernel
theorem tX9_answer_42 : gAt mX9_answer 42 = some (.iconst 0, 1, 0, 0, 0, 0) := by decide +kernel
theorem tX9_answer_43 : gAt mX9_answer 43 = some (.istore 5, 2, 0, 0, 0, 0) := by decide +kernel
theorem tX9_answer_45 : gAt mX9_answer 45 = some (.iload 5, 2, 0, 0, 0, 0) := by decide +kernel
theorem tX9_answer_47 : gAt mX9_answer 47 = some (.aload_n 0, 1, 0, 0, 0, 0) := by decide +kernel
theorem tX9_answer_48 : gAt mX9_answer 48 = some (.getfield 291, 3, 10, 31, 0, 1070) := by decide +kernel
theorem tX9_answer_51 : gAt mX9_answer 51 = some (.if_icmp .ge 115, 3, 166, 0, 0, 0) := by decide +kernel
theorem tX9_answer_54 : gAt mX9_answer 54 = some (.aload_n 0, 1, 0, 0, 0, 0) := by decide +kernel
theorem tX9_answer_55 : gAt mX9_answer 55 = some (.iload_n 1, 1, 0, 0, 0, 0) := by decide +kernel
theorem tX9_answer_56 : gAt mX9_answer 56 = some (.aload_n 0, 1, 0, 0, 0, 0) := by decide +kernel
theorem tX9_answer_57 : gAt mX9_answer 57 = some (.getfield 91, 3, 10, 33, 2, 1072) := by decide +kernel
theorem tX9_answer_60 : gAt mX9_answer 60 = some (.iload 5, 2, 0, 0, 0, 0) := by decide +kernel
theorem tX9_answer_62 : gAt mX9_answer 62 = some (.iaload, 1, 112, 0, 0, 0) := by decide +kernel
theorem tX9_answer_63 : gAt mX9_answer 63 = some (.invokevirtual 365, 3, 166, 2, 10, 1483) := by decide +kernel
theorem tX9_answer_66 : gAt mX9_answer 66 = some (.iload 4, 2, 0, 0, 0, 0) := by decide +kernel
theorem tX9_answer_68 : gAt mX9_answer 68 = some (.ifCond .ne 7, 3, 75, 0, 0, 0) := by decide +kernel
theorem tX9_answer_71 : gAt mX9_answer 71 = some (.iconst 1, 1, 1, 0, 0, 0) := by decide +kernel
theorem tX9_answer_72 : gAt mX9_answer 72 = some (.goto 4, 3, 76, 0, 0, 0) := by decide +kernel
theorem tX9_answer_75 : gAt mX9_answer 75 = some (.iconst 0, 1, 0, 0, 0, 0) := by decide +kernel
theorem tX9_answer_76 : gAt mX9_answer 76 = some (.if_icmp .ne 7, 3, 83, 0, 0, 0) := by decide +kernel
theorem tX9_answer_79 : gAt mX9_answer 79 = some (.iconst 1, 1, 1, 0, 0, 0) := by decide +kernel
theorem tX9_answer_80 : gAt mX9_answer 80 = some (.goto 4, 3, 84, 0, 0, 0) := by decide +kernel
theorem tX9_answer_83 : gAt mX9_answer 83 = some (.iconst 0, 1, 0, 0, 0, 0) := by decide +kernel
theorem tX9_answer_84 : gAt mX9_answer 84 = some (.istore 6, 2, 0, 0, 0, 0) := by decide +kernel
theorem tX9_answer_86 : gAt mX9_answer 86 = some (.iload 6, 2, 0, 0, 0, 0) := by decide +kernel
theorem tX9_answer_88 : gAt mX9_answer 88 = some (.ifCond .eq 72, 3, 160, 0, 0, 0) := by decide +kernel
theorem tX9_answer_91 : gAt mX9_answer 91 = some (.iload_n 3, 1, 0, 0, 0, 0) := by decide +kernel
theorem tX9_answer_92 : gAt mX9_answer 92 = some (.iload_n 2, 1, 0, 0, 0, 0) := by decide +kernel
theorem tX9_answer_93 : gAt mX9_answer 93 = some (.if_icmp .ge 67, 3, 160, 0, 0, 0) := by decide +kernel
theorem tX9_answer_96 : gAt mX9_answer 96 = some (.aload_n 0, 1, 0, 0, 0, 0) := by decide +kernel
theorem tX9_answer_97 : gAt mX9_answer 97 = some (.getfield 359, 3, 10, 57, 0, 1096) := by decide +kernel
theorem tX9_answer_100 : gAt mX9_answer 100 = some (.sipush 300, 3, 300, 0, 0, 0) := by decide +kernel
theorem tX9_answer_103 : gAt mX9_answer 103 = some (.if_icmp .ge 57, 3, 160, 0, 0, 0) := by decide +kernel
theorem tX9_answer_106 : gAt mX9_answer 106 = some (.aload_n 0, 1, 0, 0, 0, 0) := by decide +kernel
theorem tX9_answer_107 : gAt mX9_answer 107 = some (.getfield 168, 3, 10, 62, 2, 1101) := by decide +kernel
theorem tX9_answer_110 : gAt mX9_answer 110 = some (.aload_n 0, 1, 0, 0, 0, 0) := by decide +kernel
theorem tX9_answer_111 : gAt mX9_answer 111 = some (.getfield 88, 3, 10, 32, 2, 1071) := by decide +kernel
theorem tX9_answer_114 : gAt mX9_answer 114 = some (.iload 5, 2, 0, 0, 0, 0) := by decide +kernel
theorem tX9_answer_116 : gAt mX9_answer 116 = some (.iaload, 1, 112, 0, 0, 0) := by decide +kernel
theorem tX9_answer_117 : gAt mX9_answer 117 = some (.baload, 1, 114, 0, 0, 0) := by decide +kernel
theorem tX9_answer_118 : gAt mX9_answer 118 = some (.ifCond .eq 42, 3, 160, 0, 0, 0) := by decide +kernel
theorem tX9_answer_121 : gAt mX9_answer 121 = some (.aload_n 0, 1, 0, 0, 0, 0) := by decide +kernel
theorem tX9_answer_122 : gAt mX9_answer 122 = some (.getfield 153, 3, 10, 56, 2, 1095) := by decide +kernel
theorem tX9_answer_125 : gAt mX9_answer 125 = some (.bipush 120, 2, 120, 0, 0, 0) := by decide +kernel
theorem tX9_answer_127 : gAt mX9_answer 127 = some (.iload_n 1, 1, 0, 0, 0, 0) := by decide +kernel
theorem tX9_answer_128 : gAt mX9_answer 128 = some (.imul, 1, 0, 0, 0, 0) := by decide +kernel
theorem tX9_answer_129 : gAt mX9_answer 129 = some (.aload_n 0, 1, 0, 0, 0, 0) := by decide +kernel
theorem tX9_answer_130 : gAt mX9_answer 130 = some (.getfield 91, 3, 10, 33, 2, 1072) := by decide +kernel
theorem tX9_answer_133 : gAt mX9_answer 133 = some (.iload 5, 2, 0, 0, 0, 0) := by decide +kernel
theorem tX9_answer_135 : gAt mX9_answer 135 = some (.iaload, 1, 112, 0, 0, 0) := by decide +kernel
theorem tX9_answer_136 : gAt mX9_answer 136 = some (.iadd, 1, 0, 0, 0, 0) := by decide +kernel
theorem tX9_answer_137 : gAt mX9_answer 137 = some (.baload, 1, 114, 0, 0, 0) := by decide +kernel
theorem tX9_answer_138 : gAt mX9_answer 138 = some (.ifCond .ne 22, 3, 160, 0, 0, 0) := by decide +kernel
theorem tX9_answer_141 : gAt mX9_answer 141 = some (.aload_n 0, 1, 0, 0, 0, 0) := by decide +kernel
theorem tX9_answer_142 : gAt mX9_answer 142 = some (.iload 5, 2, 0, 0, 0, 0) := by decide +kernel
theorem tX9_answer_144 : gAt mX9_answer 144 = some (.invokevirtual 368, 3, 165, 1, 10, 1487) := by decide +kernel
theorem tX9_answer_147 : gAt mX9_answer 147 = some (.ifCond .eq 13, 3, 160, 0, 0, 0) := by decide +kernel
theorem tX9_answer_150 : gAt mX9_answer 150 = some (.aload_n 0, 1, 0, 0, 0, 0) := by decide +kernel
theorem tX9_answer_151 : gAt mX9_answer 151 = some (.iload_n 1, 1, 0, 0, 0, 0) := by decide +kernel
theorem tX9_answer_152 : gAt mX9_answer 152 = some (.iload 5, 2, 0, 0, 0, 0) := by decide +kernel
theorem tX9_answer_154 : gAt mX9_answer 154 = some (.invokevirtual 371, 3, 167, 2, 10, 1491) := by decide +kernel
theorem tX9_answer_157 : gAt mX9_answer 157 = some (.iinc 3 1, 3, 1, 0, 0, 0) := by decide +kernel
theorem tX9_answer_160 : gAt mX9_answer 160 = some (.iinc 5 1, 3, 1, 0, 0, 0) := by decide +kernel
theorem tX9_answer_163 : gAt mX9_answer 163 = some (.goto (-118), 3, 45, 0, 0, 0) := by decide +kernel
theorem tX9_answer_166 : gAt mX9_answer 166 = some (.iinc 4 1, 3, 1, 0, 0, 0) := by decide +kernel
theorem tX9_answer_169 : gAt mX9_answer 169 = some (.goto (-133), 3, 36, 0, 0, 0) := by decide +kernel
theorem tX9_answer_172 : gAt mX9_answer 172 = some (.iload_n 3, 1, 0, 0, 0, 0) := by decide +kernel
theorem tX9_answer_173 : gAt mX9_answer 173 = some (.ireturn, 1, 0, 0, 0, 0) := by decide +kernel
set_option maxRecDepth 100000 in
theorem okX9_given : (gTb mX9_given).all (okE gF gNM mX9_given) = true := by decide +kernel
theorem pnX9_given : plainName (gY mX9_given).cls = true := by decide +kernel
theorem tX9_given_0 : gAt mX9_given 0 = some (.aload_n 0, 1, 0, 0, 0, 0) := by decide +kernel
theorem tX9_given_1 : gAt mX9_given 1 = some (.iconst 0, 1, 0, 0, 0, 0) := by decide +kernel
theorem tX9_given_2 : gAt mX9_given 2 = some (.putfield 174, 3, 10, 0, 0, 1039) := by decide +kernel
theorem tX9_given_5 : gAt mX9_given 5 = some (.iload_n 1, 1, 0, 0, 0, 0) := by decide +kernel
theorem tX9_given_6 : gAt mX9_given 6 = some (.ifCond .lt 21, 3, 27, 0, 0, 0) := by decide +kernel
theorem tX9_given_9 : gAt mX9_given 9 = some (.iload_n 1, 1, 0, 0, 0, 0) := by decide +kernel
theorem tX9_given_10 : gAt mX9_given 10 = some (.aload_n 0, 1, 0, 0, 0, 0) := by decide +kernel
theorem tX9_given_11 : gAt mX9_given 11 = some (.getfield 359, 3, 10, 57, 0, 1096) := by decide +kernel
theorem tX9_given_14 : gAt mX9_given 14 = some (.if_icmp .ge 13, 3, 27, 0, 0, 0) := by decide +kernel
theorem tX9_given_17 : gAt mX9_given 17 = some (.iload_n 2, 1, 0, 0, 0, 0) := by decide +kernel
theorem tX9_given_18 : gAt mX9_given 18 = some (.ifCond .lt 9, 3, 27, 0, 0, 0) := by decide +kernel
theorem tX9_given_21 : gAt mX9_given 21 = some (.iload_n 2, 1, 0, 0, 0, 0) := by decide +kernel
theorem tX9_given_22 : gAt mX9_given 22 = some (.bipush 15, 2, 15, 0, 0, 0) := by decide +kernel
theorem tX9_given_24 : gAt mX9_given 24 = some (.if_icmp .le 5, 3, 29, 0, 0, 0) := by decide +kernel
theorem tX9_given_27 : gAt mX9_given 27 = some (.iconst (-1), 1, 1, 1, 0, 0) := by decide +kernel
theorem tX9_given_28 : gAt mX9_given 28 = some (.ireturn, 1, 0, 0, 0, 0) := by decide +kernel
theorem tX9_given_29 : gAt mX9_given 29 = some (.aload_n 0, 1, 0, 0, 0, 0) := by decide +kernel
theorem tX9_given_30 : gAt mX9_given 30 = some (.getfield 94, 3, 10, 34, 2, 1073) := by decide +kernel
theorem tX9_given_33 : gAt mX9_given 33 = some (.aload_n 0, 1, 0, 0, 0, 0) := by decide +kernel
theorem tX9_given_34 : gAt mX9_given 34 = some (.getfield 159, 3, 10, 59, 2, 1098) := by decide +kernel
theorem tX9_given_37 : gAt mX9_given 37 = some (.iload_n 1, 1, 0, 0, 0, 0) := by decide +kernel
theorem tX9_given_38 : gAt mX9_given 38 = some (.iaload, 1, 112, 0, 0, 0) := by decide +kernel
theorem tX9_given_39 : gAt mX9_given 39 = some (.iaload, 1, 112, 0, 0, 0) := by decide +kernel
theorem tX9_given_40 : gAt mX9_given 40 = some (.istore_n 3, 1, 0, 0, 0, 0) := by decide +kernel
theorem tX9_given_41 : gAt mX9_given 41 = some (.iload_n 2, 1, 0, 0, 0, 0) := by decide +kernel
theorem tX9_given_42 : gAt mX9_given 42 = some (.iconst 3, 1, 3, 0, 0, 0) := by decide +kernel
theorem tX9_given_43 : gAt mX9_given 43 = some (.if_icmp .le 28, 3, 71, 0, 0, 0) := by decide +kernel
theorem tX9_given_46 : gAt mX9_given 46 = some (.iload_n 2, 1, 0, 0, 0, 0) := by decide +kernel
theorem tX9_given_47 : gAt mX9_given 47 = some (.iconst 4, 1, 4, 0, 0, 0) := by decide +kernel
theorem tX9_given_48 : gAt mX9_given 48 = some (.isub, 1, 0, 0, 0, 0) := by decide +kernel
theorem tX9_given_49 : gAt mX9_given 49 = some (.iload_n 3, 1, 0, 0, 0, 0) := by decide +kernel
theorem tX9_given_50 : gAt mX9_given 50 = some (.if_icmp .ge 19, 3, 69, 0, 0, 0) := by decide +kernel
theorem tX9_given_53 : gAt mX9_given 53 = some (.aload_n 0, 1, 0, 0, 0, 0) := by decide +kernel
theorem tX9_given_54 : gAt mX9_given 54 = some (.getfield 165, 3, 10, 61, 2, 1100) := by decide +kernel
theorem tX9_given_57 : gAt mX9_given 57 = some (.bipush 12, 2, 12, 0, 0, 0) := by decide +kernel
theorem tX9_given_59 : gAt mX9_given 59 = some (.iload_n 1, 1, 0, 0, 0, 0) := by decide +kernel
theorem tX9_given_60 : gAt mX9_given 60 = some (.imul, 1, 0, 0, 0, 0) := by decide +kernel
theorem tX9_given_61 : gAt mX9_given 61 = some (.iload_n 2, 1, 0, 0, 0, 0) := by decide +kernel
theorem tX9_given_62 : gAt mX9_given 62 = some (.iadd, 1, 0, 0, 0, 0) := by decide +kernel
theorem tX9_given_63 : gAt mX9_given 63 = some (.iconst 4, 1, 4, 0, 0, 0) := by decide +kernel
theorem tX9_given_64 : gAt mX9_given 64 = some (.isub, 1, 0, 0, 0, 0) := by decide +kernel
theorem tX9_given_65 : gAt mX9_given 65 = some (.iaload, 1, 112, 0, 0, 0) := by decide +kernel
theorem tX9_given_66 : gAt mX9_given 66 = some (.goto 4, 3, 70, 0, 0, 0) := by decide +kernel
theorem tX9_given_69 : gAt mX9_given 69 = some (.iconst (-1), 1, 1, 1, 0, 0) := by decide +kernel
theorem tX9_given_70 : gAt mX9_given 70 = some (.ireturn, 1, 0, 0, 0, 0) := by decide +kernel
theorem tX9_given_71 : gAt mX9_given 71 = some (.iconst 0, 1, 0, 0, 0, 0) := by decide +kernel
theorem tX9_given_72 : gAt mX9_given 72 = some (.istore 4, 2, 0, 0, 0, 0) := by decide +kernel
theorem tX9_given_74 : gAt mX9_given 74 = some (.iconst 0, 1, 0, 0, 0, 0) := by decide +kernel
theorem tX9_given_75 : gAt mX9_given 75 = some (.istore 5, 2, 0, 0, 0, 0) := by decide +kernel
theorem tX9_given_77 : gAt mX9_given 77 = some (.iload 5, 2, 0, 0, 0, 0) := by decide +kernel
theorem tX9_given_79 : gAt mX9_given 79 = some (.iload_n 3, 1, 0, 0, 0, 0) := by decide +kernel
theorem tX9_given_80 : gAt mX9_given 80 = some (.if_icmp .ge 34, 3, 114, 0, 0, 0) := by decide +kernel
theorem tX9_given_83 : gAt mX9_given 83 = some (.iload 4, 2, 0, 0, 0, 0) := by decide +kernel
theorem tX9_given_85 : gAt mX9_given 85 = some (.aload_n 0, 1, 0, 0, 0, 0) := by decide +kernel
theorem tX9_given_86 : gAt mX9_given 86 = some (.getfield 165, 3, 10, 61, 2, 1100) := by decide +kernel
theorem tX9_given_89 : gAt mX9_given 89 = some (.bipush 12, 2, 12, 0, 0, 0) := by decide +kernel
theorem tX9_given_91 : gAt mX9_given 91 = some (.iload_n 1, 1, 0, 0, 0, 0) := by decide +kernel
theorem tX9_given_92 : gAt mX9_given 92 = some (.imul, 1, 0, 0, 0, 0) := by decide +kernel
theorem tX9_given_93 : gAt mX9_given 93 = some (.iload 5, 2, 0, 0, 0, 0) := by decide +kernel
theorem tX9_given_95 : gAt mX9_given 95 = some (.iadd, 1, 0, 0, 0, 0) := by decide +kernel
theorem tX9_given_96 : gAt mX9_given 96 = some (.iaload, 1, 112, 0, 0, 0) := by decide +kernel
theorem tX9_given_97 : gAt mX9_given 97 = some (.ifCond .ne 7, 3, 104, 0, 0, 0) := by decide +kernel
theorem tX9_given_100 : gAt mX9_given 100 = some (.iconst 1, 1, 1, 0, 0, 0) := by decide +kernel
theorem tX9_given_101 : gAt mX9_given 101 = some (.goto 4, 3, 105, 0, 0, 0) := by decide +kernel
theorem tX9_given_104 : gAt mX9_given 104 = some (.iconst 0, 1, 0, 0, 0, 0) := by decide +kernel
theorem tX9_given_105 : gAt mX9_given 105 = some (.iadd, 1, 0, 0, 0, 0) := by decide +kernel
theorem tX9_given_106 : gAt mX9_given 106 = some (.istore 4, 2, 0, 0, 0, 0) := by decide +kernel
theorem tX9_given_108 : gAt mX9_given 108 = some (.iinc 5 1, 3, 1, 0, 0, 0) := by decide +kernel
theorem tX9_given_111 : gAt mX9_given 111 = some (.goto (-34), 3, 77, 0, 0, 0) := by decide +kernel
theorem tX9_given_114 : gAt mX9_given 114 = some (.iload_n 2, 1, 0, 0, 0, 0) := by decide +kernel
theorem tX9_given_115 : gAt mX9_given 115 = some (.ifCond .ne 12, 3, 127, 0, 0, 0) := by decide +kernel
theorem tX9_given_118 : gAt mX9_given 118 = some (.aload_n 0, 1, 0, 0, 0, 0) := by decide +kernel
theorem tX9_given_119 : gAt mX9_given 119 = some (.getfield 156, 3, 10, 58, 2, 1097) := by decide +kernel
theorem tX9_given_122 : gAt mX9_given 122 = some (.iload_n 1, 1, 0, 0, 0, 0) := by decide +kernel
theorem tX9_given_123 : gAt mX9_given 123 = some (.iaload, 1, 112, 0, 0, 0) := by decide +kernel
theorem tX9_given_124 : gAt mX9_given 124 = some (.goto 33, 3, 157, 0, 0, 0) := by decide +kernel
theorem tX9_given_127 : gAt mX9_given 127 = some (.iload_n 2, 1, 0, 0, 0, 0) := by decide +kernel
theorem tX9_given_128 : gAt mX9_given 128 = some (.iconst 1, 1, 1, 0, 0, 0) := by decide +kernel
theorem tX9_given_129 : gAt mX9_given 129 = some (.if_icmp .ne 12, 3, 141, 0, 0, 0) := by decide +kernel
theorem tX9_given_132 : gAt mX9_given 132 = some (.aload_n 0, 1, 0, 0, 0, 0) := by decide +kernel
theorem tX9_given_133 : gAt mX9_given 133 = some (.getfield 159, 3, 10, 59, 2, 1098) := by decide +kernel
theorem tX9_given_136 : gAt mX9_given 136 = some (.iload_n 1, 1, 0, 0, 0, 0) := by decide +kernel
theorem tX9_given_137 : gAt mX9_given 137 = some (.iaload, 1, 112, 0, 0, 0) := by decide +kernel
theorem tX9_given_138 : gAt mX9_given 138 = some (.goto 19, 3, 157, 0, 0, 0) := by decide +kernel
theorem tX9_given_141 : gAt mX9_given 141 = some (.iload_n 2, 1, 0, 0, 0, 0) := by decide +kernel
theorem tX9_given_142 : gAt mX9_given 142 = some (.iconst 2, 1, 2, 0, 0, 0) := by decide +kernel
theorem tX9_given_143 : gAt mX9_given 143 = some (.if_icmp .ne 12, 3, 155, 0, 0, 0) := by decide +kernel
theorem tX9_given_146 : gAt mX9_given 146 = some (.aload_n 0, 1, 0, 0, 0, 0) := by decide +kernel
theorem tX9_given_147 : gAt mX9_given 147 = some (.getfield 162, 3, 10, 60, 2, 1099) := by decide +kernel
theorem tX9_given_150 : gAt mX9_given 150 = some (.iload_n 1, 1, 0, 0, 0, 0) := by decide +kernel
theorem tX9_given_151 : gAt mX9_given 151 = some (.iaload, 1, 112, 0, 0, 0) := by decide +kernel
theorem tX9_given_152 : gAt mX9_given 152 = some (.goto 5, 3, 157, 0, 0, 0) := by decide +kernel
theorem tX9_given_155 : gAt mX9_given 155 = some (.iload 4, 2, 0, 0, 0, 0) := by decide +kernel
theorem tX9_given_157 : gAt mX9_given 157 = some (.ireturn, 1, 0, 0, 0, 0) := by decide +kernel
set_option maxRecDepth 100000 in
theorem okX9_left : (gTb mX9_left).all (okE gF gNM mX9_left) = true := by decide +kernel
theorem pnX9_left : plainName (gY mX9_left).cls = true := by decide +kernel
theorem tX9_left_0 : gAt mX9_left 0 = some (.aload_n 0, 1, 0, 0, 0, 0) := by decide +kernel
theorem tX9_left_1 : gAt mX9_left 1 = some (.iload_n 1, 1, 0, 0, 0, 0) := by decide +kernel
theorem tX9_left_2 : gAt mX9_left 2 = some (.invokevirtual 362, 3, 164, 1, 10, 1479) := by decide +kernel
theorem tX9_left_5 : gAt mX9_left 5 = some (.iconst 0, 1, 0, 0, 0, 0) := by decide +kernel
theorem tX9_left_6 : gAt mX9_left 6 = some (.istore_n 3, 1, 0, 0, 0, 0) := by decide +kernel
theorem tX9_left_7 : gAt mX9_left 7 = some (.iload_n 3, 1, 0, 0, 0, 0) := by decide +kernel
theorem tX9_left_8 : gAt mX9_left 8 = some (.aload_n 0, 1, 0, 0, 0, 0) := by decide +kernel
theorem tX9_left_9 : gAt mX9_left 9 = some (.getfield 285, 3, 10, 36, 0, 1075) := by decide +kernel
theorem tX9_left_12 : gAt mX9_left 12 = some (.if_icmp .ge 16, 3, 28, 0, 0, 0) := by decide +kernel
theorem tX9_left_15 : gAt mX9_left 15 = some (.aload_n 0, 1, 0, 0, 0, 0) := by decide +kernel
theorem tX9_left_16 : gAt mX9_left 16 = some (.getfield 171, 3, 10, 63, 2, 1102) := by decide +kernel
theorem tX9_left_19 : gAt mX9_left 19 = some (.iload_n 3, 1, 0, 0, 0, 0) := by decide +kernel
theorem tX9_left_20 : gAt mX9_left 20 = some (.iconst 0, 1, 0, 0, 0, 0) := by decide +kernel
theorem tX9_left_21 : gAt mX9_left 21 = some (.bastore, 1, 114, 0, 0, 0) := by decide +kernel
theorem tX9_left_22 : gAt mX9_left 22 = some (.iinc 3 1, 3, 1, 0, 0, 0) := by decide +kernel
theorem tX9_left_25 : gAt mX9_left 25 = some (.goto (-18), 3, 7, 0, 0, 0) := by decide +kernel
theorem tX9_left_28 : gAt mX9_left 28 = some (.iconst 0, 1, 0, 0, 0, 0) := by decide +kernel
theorem tX9_left_29 : gAt mX9_left 29 = some (.istore_n 3, 1, 0, 0, 0, 0) := by decide +kernel
theorem tX9_left_30 : gAt mX9_left 30 = some (.iload_n 3, 1, 0, 0, 0, 0) := by decide +kernel
theorem tX9_left_31 : gAt mX9_left 31 = some (.aload_n 0, 1, 0, 0, 0, 0) := by decide +kernel
theorem tX9_left_32 : gAt mX9_left 32 = some (.getfield 291, 3, 10, 31, 0, 1070) := by decide +kernel
theorem tX9_left_35 : gAt mX9_left 35 = some (.if_icmp .ge 72, 3, 107, 0, 0, 0) := by decide +kernel
theorem tX9_left_38 : gAt mX9_left 38 = some (.aload_n 0, 1, 0, 0, 0, 0) := by decide +kernel
theorem tX9_left_39 : gAt mX9_left 39 = some (.getfield 171, 3, 10, 63, 2, 1102) := by decide +kernel
theorem tX9_left_42 : gAt mX9_left 42 = some (.aload_n 0, 1, 0, 0, 0, 0) := by decide +kernel
theorem tX9_left_43 : gAt mX9_left 43 = some (.getfield 91, 3, 10, 33, 2, 1072) := by decide +kernel
theorem tX9_left_46 : gAt mX9_left 46 = some (.iload_n 3, 1, 0, 0, 0, 0) := by decide +kernel
theorem tX9_left_47 : gAt mX9_left 47 = some (.iaload, 1, 112, 0, 0, 0) := by decide +kernel
theorem tX9_left_48 : gAt mX9_left 48 = some (.aload_n 0, 1, 0, 0, 0, 0) := by decide +kernel
theorem tX9_left_49 : gAt mX9_left 49 = some (.getfield 171, 3, 10, 63, 2, 1102) := by decide +kernel
theorem tX9_left_52 : gAt mX9_left 52 = some (.aload_n 0, 1, 0, 0, 0, 0) := by decide +kernel
theorem tX9_left_53 : gAt mX9_left 53 = some (.getfield 91, 3, 10, 33, 2, 1072) := by decide +kernel
theorem tX9_left_56 : gAt mX9_left 56 = some (.iload_n 3, 1, 0, 0, 0, 0) := by decide +kernel
theorem tX9_left_57 : gAt mX9_left 57 = some (.iaload, 1, 112, 0, 0, 0) := by decide +kernel
theorem tX9_left_58 : gAt mX9_left 58 = some (.baload, 1, 114, 0, 0, 0) := by decide +kernel
theorem tX9_left_59 : gAt mX9_left 59 = some (.ifCond .ne 36, 3, 95, 0, 0, 0) := by decide +kernel
theorem tX9_left_62 : gAt mX9_left 62 = some (.aload_n 0, 1, 0, 0, 0, 0) := by decide +kernel
theorem tX9_left_63 : gAt mX9_left 63 = some (.getfield 168, 3, 10, 62, 2, 1101) := by decide +kernel
theorem tX9_left_66 : gAt mX9_left 66 = some (.aload_n 0, 1, 0, 0, 0, 0) := by decide +kernel
theorem tX9_left_67 : gAt mX9_left 67 = some (.getfield 88, 3, 10, 32, 2, 1071) := by decide +kernel
theorem tX9_left_70 : gAt mX9_left 70 = some (.iload_n 3, 1, 0, 0, 0, 0) := by decide +kernel
theorem tX9_left_71 : gAt mX9_left 71 = some (.iaload, 1, 112, 0, 0, 0) := by decide +kernel
theorem tX9_left_72 : gAt mX9_left 72 = some (.baload, 1, 114, 0, 0, 0) := by decide +kernel
theorem tX9_left_73 : gAt mX9_left 73 = some (.ifCond .eq 26, 3, 99, 0, 0, 0) := by decide +kernel
theorem tX9_left_76 : gAt mX9_left 76 = some (.aload_n 0, 1, 0, 0, 0, 0) := by decide +kernel
theorem tX9_left_77 : gAt mX9_left 77 = some (.getfield 153, 3, 10, 56, 2, 1095) := by decide +kernel
theorem tX9_left_80 : gAt mX9_left 80 = some (.bipush 120, 2, 120, 0, 0, 0) := by decide +kernel
theorem tX9_left_82 : gAt mX9_left 82 = some (.iload_n 1, 1, 0, 0, 0, 0) := by decide +kernel
theorem tX9_left_83 : gAt mX9_left 83 = some (.imul, 1, 0, 0, 0, 0) := by decide +kernel
theorem tX9_left_84 : gAt mX9_left 84 = some (.aload_n 0, 1, 0, 0, 0, 0) := by decide +kernel
theorem tX9_left_85 : gAt mX9_left 85 = some (.getfield 91, 3, 10, 33, 2, 1072) := by decide +kernel
theorem tX9_left_88 : gAt mX9_left 88 = some (.iload_n 3, 1, 0, 0, 0, 0) := by decide +kernel
theorem tX9_left_89 : gAt mX9_left 89 = some (.iaload, 1, 112, 0, 0, 0) := by decide +kernel
theorem tX9_left_90 : gAt mX9_left 90 = some (.iadd, 1, 0, 0, 0, 0) := by decide +kernel
theorem tX9_left_91 : gAt mX9_left 91 = some (.baload, 1, 114, 0, 0, 0) := by decide +kernel
theorem tX9_left_92 : gAt mX9_left 92 = some (.ifCond .ne 7, 3, 99, 0, 0, 0) := by decide +kernel
theorem tX9_left_95 : gAt mX9_left 95 = some (.iconst 1, 1, 1, 0, 0, 0) := by decide +kernel
theorem tX9_left_96 : gAt mX9_left 96 = some (.goto 4, 3, 100, 0, 0, 0) := by decide +kernel
theorem tX9_left_99 : gAt mX9_left 99 = some (.iconst 0, 1, 0, 0, 0, 0) := by decide +kernel
theorem tX9_left_100 : gAt mX9_left 100 = some (.bastore, 1, 114, 0, 0, 0) := by decide +kernel
theorem tX9_left_101 : gAt mX9_left 101 = some (.iinc 3 1, 3, 1, 0, 0, 0) := by decide +kernel
theorem tX9_left_104 : gAt mX9_left 104 = some (.goto (-74), 3, 30, 0, 0, 0) := by decide +kernel
theorem tX9_left_107 : gAt mX9_left 107 = some (.iconst 0, 1, 0, 0, 0, 0) := by decide +kernel
theorem tX9_left_108 : gAt mX9_left 108 = some (.istore_n 3, 1, 0, 0, 0, 0) := by decide +kernel
theorem tX9_left_109 : gAt mX9_left 109 = some (.iconst 0, 1, 0, 0, 0, 0) := by decide +kernel
theorem tX9_left_110 : gAt mX9_left 110 = some (.istore 4, 2, 0, 0, 0, 0) := by decide +kernel
theorem tX9_left_112 : gAt mX9_left 112 = some (.iload 4, 2, 0, 0, 0, 0) := by decide +kernel
theorem tX9_left_114 : gAt mX9_left 114 = some (.aload_n 0, 1, 0, 0, 0, 0) := by decide +kernel
theorem tX9_left_115 : gAt mX9_left 115 = some (.getfield 285, 3, 10, 36, 0, 1075) := by decide +kernel
theorem tX9_left_118 : gAt mX9_left 118 = some (.if_icmp .ge 41, 3, 159, 0, 0, 0) := by decide +kernel
theorem tX9_left_121 : gAt mX9_left 121 = some (.iload_n 3, 1, 0, 0, 0, 0) := by decide +kernel
theorem tX9_left_122 : gAt mX9_left 122 = some (.aload_n 0, 1, 0, 0, 0, 0) := by decide +kernel
theorem tX9_left_123 : gAt mX9_left 123 = some (.getfield 171, 3, 10, 63, 2, 1102) := by decide +kernel
theorem tX9_left_126 : gAt mX9_left 126 = some (.iload 4, 2, 0, 0, 0, 0) := by decide +kernel
theorem tX9_left_128 : gAt mX9_left 128 = some (.baload, 1, 114, 0, 0, 0) := by decide +kernel
theorem tX9_left_129 : gAt mX9_left 129 = some (.ifCond .eq 21, 3, 150, 0, 0, 0) := by decide +kernel
theorem tX9_left_132 : gAt mX9_left 132 = some (.iload_n 2, 1, 0, 0, 0, 0) := by decide +kernel
theorem tX9_left_133 : gAt mX9_left 133 = some (.ifCond .eq 13, 3, 146, 0, 0, 0) := by decide +kernel
theorem tX9_left_136 : gAt mX9_left 136 = some (.aload_n 0, 1, 0, 0, 0, 0) := by decide +kernel
theorem tX9_left_137 : gAt mX9_left 137 = some (.getfield 103, 3, 10, 38, 2, 1077) := by decide +kernel
theorem tX9_left_140 : gAt mX9_left 140 = some (.iload 4, 2, 0, 0, 0, 0) := by decide +kernel
theorem tX9_left_142 : gAt mX9_left 142 = some (.baload, 1, 114, 0, 0, 0) := by decide +kernel
theorem tX9_left_143 : gAt mX9_left 143 = some (.ifCond .ne 7, 3, 150, 0, 0, 0) := by decide +kernel
theorem tX9_left_146 : gAt mX9_left 146 = some (.iconst 1, 1, 1, 0, 0, 0) := by decide +kernel
theorem tX9_left_147 : gAt mX9_left 147 = some (.goto 4, 3, 151, 0, 0, 0) := by decide +kernel
theorem tX9_left_150 : gAt mX9_left 150 = some (.iconst 0, 1, 0, 0, 0, 0) := by decide +kernel
theorem tX9_left_151 : gAt mX9_left 151 = some (.iadd, 1, 0, 0, 0, 0) := by decide +kernel
theorem tX9_left_152 : gAt mX9_left 152 = some (.istore_n 3, 1, 0, 0, 0, 0) := by decide +kernel
theorem tX9_left_153 : gAt mX9_left 153 = some (.iinc 4 1, 3, 1, 0, 0, 0) := by decide +kernel
theorem tX9_left_156 : gAt mX9_left 156 = some (.goto (-44), 3, 112, 0, 0, 0) := by decide +kernel
theorem tX9_left_159 : gAt mX9_left 159 = some (.iload_n 3, 1, 0, 0, 0, 0) := by decide +kernel
theorem tX9_left_160 : gAt mX9_left 160 = some (.ireturn, 1, 0, 0, 0, 0) := by decide +kernel
set_option maxRecDepth 100000 in
theorem okX9_givenFor : (gTb mX9_givenFor).all (okE gF gNM mX9_givenFor) = true := by decide +kernel
theorem pnX9_givenFor : plainName (gY mX9_givenFor).cls = true := by decide +kernel
theorem tX9_givenFor_0 : gAt mX9_givenFor 0 = some (.iconst 0, 1, 0, 0, 0, 0) := by decide +kernel
theorem tX9_givenFor_1 : gAt mX9_givenFor 1 = some (.istore_n 2, 1, 0, 0, 0, 0) := by decide +kernel
theorem tX9_givenFor_2 : gAt mX9_givenFor 2 = some (.iconst 0, 1, 0, 0, 0, 0) := by decide +kernel
theorem tX9_givenFor_3 : gAt mX9_givenFor 3 = some (.istore_n 3, 1, 0, 0, 0, 0) := by decide +kernel
theorem tX9_givenFor_4 : gAt mX9_givenFor 4 = some (.iload_n 3, 1, 0, 0, 0, 0) := by decide +kernel
theorem tX9_givenFor_5 : gAt mX9_givenFor 5 = some (.aload_n 0, 1, 0, 0, 0, 0) := by decide +kernel
theorem tX9_givenFor_6 : gAt mX9_givenFor 6 = some (.getfield 359, 3, 10, 57, 0, 1096) := by decide +kernel
theorem tX9_givenFor_9 : gAt mX9_givenFor 9 = some (.if_icmp .ge 27, 3, 36, 0, 0, 0) := by decide +kernel
theorem tX9_givenFor_12 : gAt mX9_givenFor 12 = some (.iload_n 2, 1, 0, 0, 0, 0) := by decide +kernel
theorem tX9_givenFor_13 : gAt mX9_givenFor 13 = some (.aload_n 0, 1, 0, 0, 0, 0) := by decide +kernel
theorem tX9_givenFor_14 : gAt mX9_givenFor 14 = some (.getfield 156, 3, 10, 58, 2, 1097) := by decide +kernel
theorem tX9_givenFor_17 : gAt mX9_givenFor 17 = some (.iload_n 3, 1, 0, 0, 0, 0) := by decide +kernel
theorem tX9_givenFor_18 : gAt mX9_givenFor 18 = some (.iaload, 1, 112, 0, 0, 0) := by decide +kernel
theorem tX9_givenFor_19 : gAt mX9_givenFor 19 = some (.iload_n 1, 1, 0, 0, 0, 0) := by decide +kernel
theorem tX9_givenFor_20 : gAt mX9_givenFor 20 = some (.if_icmp .ne 7, 3, 27, 0, 0, 0) := by decide +kernel
theorem tX9_givenFor_23 : gAt mX9_givenFor 23 = some (.iconst 1, 1, 1, 0, 0, 0) := by decide +kernel
theorem tX9_givenFor_24 : gAt mX9_givenFor 24 = some (.goto 4, 3, 28, 0, 0, 0) := by decide +kernel
theorem tX9_givenFor_27 : gAt mX9_givenFor 27 = some (.iconst 0, 1, 0, 0, 0, 0) := by decide +kernel
theorem tX9_givenFor_28 : gAt mX9_givenFor 28 = some (.iadd, 1, 0, 0, 0, 0) := by decide +kernel
theorem tX9_givenFor_29 : gAt mX9_givenFor 29 = some (.istore_n 2, 1, 0, 0, 0, 0) := by decide +kernel
theorem tX9_givenFor_30 : gAt mX9_givenFor 30 = some (.iinc 3 1, 3, 1, 0, 0, 0) := by decide +kernel
theorem tX9_givenFor_33 : gAt mX9_givenFor 33 = some (.goto (-29), 3, 4, 0, 0, 0) := by decide +kernel
theorem tX9_givenFor_36 : gAt mX9_givenFor 36 = some (.iload_n 2, 1, 0, 0, 0, 0) := by decide +kernel
theorem tX9_givenFor_37 : gAt mX9_givenFor 37 = some (.ireturn, 1, 0, 0, 0, 0) := by decide +kernel
set_option maxRecDepth 100000 in
theorem okX9_look : (gTb mX9_look).all (okE gF gNM mX9_look) = true := by decide +kernel
theorem pnX9_look : plainName (gY mX9_look).cls = true := by decide +kernel
theorem tX9_look_0 : gAt mX9_look 0 = some (.aload_n 0, 1, 0, 0, 0, 0) := by decide +kernel
theorem tX9_look_1 : gAt mX9_look 1 = some (.aload_n 0, 1, 0, 0, 0, 0) := by decide +kernel
theorem tX9_look_2 : gAt mX9_look 2 = some (.iload_n 1, 1, 0, 0, 0, 0) := by decide +kernel
theorem tX9_look_3 : gAt mX9_look 3 = some (.invokevirtual 347, 3, 154, 1, 10, 1435) := by decide +kernel
theorem tX9_look_6 : gAt mX9_look 6 = some (.ifCond .eq 17, 3, 23, 0, 0, 0) := by decide +kernel
theorem tX9_look_9 : gAt mX9_look 9 = some (.iload_n 2, 1, 0, 0, 0, 0) := by decide +kernel
theorem tX9_look_10 : gAt mX9_look 10 = some (.ifCond .lt 13, 3, 23, 0, 0, 0) := by decide +kernel
theorem tX9_look_13 : gAt mX9_look 13 = some (.iload_n 2, 1, 0, 0, 0, 0) := by decide +kernel
theorem tX9_look_14 : gAt mX9_look 14 = some (.bipush 7, 2, 7, 0, 0, 0) := by decide +kernel
theorem tX9_look_16 : gAt mX9_look 16 = some (.if_icmp .gt 7, 3, 23, 0, 0, 0) := by decide +kernel
theorem tX9_look_19 : gAt mX9_look 19 = some (.iconst 0, 1, 0, 0, 0, 0) := by decide +kernel
theorem tX9_look_20 : gAt mX9_look 20 = some (.goto 4, 3, 24, 0, 0, 0) := by decide +kernel
theorem tX9_look_23 : gAt mX9_look 23 = some (.iconst 1, 1, 1, 0, 0, 0) := by decide +kernel
theorem tX9_look_24 : gAt mX9_look 24 = some (.putfield 174, 3, 10, 0, 0, 1039) := by decide +kernel
theorem tX9_look_27 : gAt mX9_look 27 = some (.aload_n 0, 1, 0, 0, 0, 0) := by decide +kernel
theorem tX9_look_28 : gAt mX9_look 28 = some (.getfield 174, 3, 10, 0, 0, 1039) := by decide +kernel
theorem tX9_look_31 : gAt mX9_look 31 = some (.ifCond .le 5, 3, 36, 0, 0, 0) := by decide +kernel
theorem tX9_look_34 : gAt mX9_look 34 = some (.iconst 0, 1, 0, 0, 0, 0) := by decide +kernel
theorem tX9_look_35 : gAt mX9_look 35 = some (.ireturn, 1, 0, 0, 0, 0) := by decide +kernel
theorem tX9_look_36 : gAt mX9_look 36 = some (.iload_n 2, 1, 0, 0, 0, 0) := by decide +kernel
theorem tX9_look_37 : gAt mX9_look 37 = some (.tableswitch 99 0 6 #[43, 50, 56, 63, 70, 77, 92], 43, 0, 0, 0, 0) := by decide +kernel
theorem tX9_look_80 : gAt mX9_look 80 = some (.aload_n 0, 1, 0, 0, 0, 0) := by decide +kernel
theorem tX9_look_81 : gAt mX9_look 81 = some (.getfield 140, 3, 10, 52, 2, 1091) := by decide +kernel
theorem tX9_look_84 : gAt mX9_look 84 = some (.iload_n 1, 1, 0, 0, 0, 0) := by decide +kernel
theorem tX9_look_85 : gAt mX9_look 85 = some (.iaload, 1, 112, 0, 0, 0) := by decide +kernel
theorem tX9_look_86 : gAt mX9_look 86 = some (.ireturn, 1, 0, 0, 0, 0) := by decide +kernel
theorem tX9_look_87 : gAt mX9_look 87 = some (.aload_n 0, 1, 0, 0, 0, 0) := by decide +kernel
theorem tX9_look_88 : gAt mX9_look 88 = some (.iload_n 1, 1, 0, 0, 0, 0) := by decide +kernel
theorem tX9_look_89 : gAt mX9_look 89 = some (.invokevirtual 374, 3, 171, 1, 10, 1503) := by decide +kernel
theorem tX9_look_92 : gAt mX9_look 92 = some (.ireturn, 1, 0, 0, 0, 0) := by decide +kernel
theorem tX9_look_93 : gAt mX9_look 93 = some (.aload_n 0, 1, 0, 0, 0, 0) := by decide +kernel
theorem tX9_look_94 : gAt mX9_look 94 = some (.iload_n 1, 1, 0, 0, 0, 0) := by decide +kernel
theorem tX9_look_95 : gAt mX9_look 95 = some (.iconst 0, 1, 0, 0, 0, 0) := by decide +kernel
theorem tX9_look_96 : gAt mX9_look 96 = some (.invokevirtual 377, 3, 170, 2, 10, 1507) := by decide +kernel
theorem tX9_look_99 : gAt mX9_look 99 = some (.ireturn, 1, 0, 0, 0, 0) := by decide +kernel
theorem tX9_look_100 : gAt mX9_look 100 = some (.aload_n 0, 1, 0, 0, 0, 0) := by decide +kernel
theorem tX9_look_101 : gAt mX9_look 101 = some (.iload_n 1, 1, 0, 0, 0, 0) := by decide +kernel
theorem tX9_look_102 : gAt mX9_look 102 = some (.iconst 1, 1, 1, 0, 0, 0) := by decide +kernel
theorem tX9_look_103 : gAt mX9_look 103 = some (.invokevirtual 377, 3, 170, 2, 10, 1507) := by decide +kernel
theorem tX9_look_106 : gAt mX9_look 106 = some (.ireturn, 1, 0, 0, 0, 0) := by decide +kernel
theorem tX9_look_107 : gAt mX9_look 107 = some (.aload_n 0, 1, 0, 0, 0, 0) := by decide +kernel
theorem tX9_look_108 : gAt mX9_look 108 = some (.getfield 143, 3, 10, 53, 2, 1092) := by decide +kernel
theorem tX9_look_111 : gAt mX9_look 111 = some (.iload_n 1, 1, 0, 0, 0, 0) := by decide +kernel
theorem tX9_look_112 : gAt mX9_look 112 = some (.iaload, 1, 112, 0, 0, 0) := by decide +kernel
theorem tX9_look_113 : gAt mX9_look 113 = some (.ireturn, 1, 0, 0, 0, 0) := by decide +kernel
theorem tX9_look_114 : gAt mX9_look 114 = some (.aload_n 0, 1, 0, 0, 0, 0) := by decide +kernel
theorem tX9_look_115 : gAt mX9_look 115 = some (.getfield 146, 3, 10, 54, 2, 1093) := by decide +kernel
theorem tX9_look_118 : gAt mX9_look 118 = some (.iload_n 1, 1, 0, 0, 0, 0) := by decide +kernel
theorem tX9_look_119 : gAt mX9_look 119 = some (.iaload, 1, 112, 0, 0, 0) := by decide +kernel
theorem tX9_look_120 : gAt mX9_look 120 = some (.ifCond .lt 7, 3, 127, 0, 0, 0) := by decide +kernel
theorem tX9_look_123 : gAt mX9_look 123 = some (.iconst 1, 1, 1, 0, 0, 0) := by decide +kernel
theorem tX9_look_124 : gAt mX9_look 124 = some (.goto 4, 3, 128, 0, 0, 0) := by decide +kernel
theorem tX9_look_127 : gAt mX9_look 127 = some (.iconst 0, 1, 0, 0, 0, 0) := by decide +kernel
theorem tX9_look_128 : gAt mX9_look 128 = some (.ireturn, 1, 0, 0, 0, 0) := by decide +kernel
theorem tX9_look_129 : gAt mX9_look 129 = some (.aload_n 0, 1, 0, 0, 0, 0) := by decide +kernel
theorem tX9_look_130 : gAt mX9_look 130 = some (.getfield 134, 3, 10, 50, 2, 1089) := by decide +kernel
theorem tX9_look_133 : gAt mX9_look 133 = some (.iload_n 1, 1, 0, 0, 0, 0) := by decide +kernel
theorem tX9_look_134 : gAt mX9_look 134 = some (.iaload, 1, 112, 0, 0, 0) := by decide +kernel
theorem tX9_look_135 : gAt mX9_look 135 = some (.ireturn, 1, 0, 0, 0, 0) := by decide +kernel
theorem tX9_look_136 : gAt mX9_look 136 = some (.aload_n 0, 1, 0, 0, 0, 0) := by decide +kernel
theorem tX9_look_137 : gAt mX9_look 137 = some (.getfield 146, 3, 10, 54, 2, 1093) := by decide +kernel
theorem tX9_look_140 : gAt mX9_look 140 = some (.iload_n 1, 1, 0, 0, 0, 0) := by decide +kernel
theorem tX9_look_141 : gAt mX9_look 141 = some (.iaload, 1, 112, 0, 0, 0) := by decide +kernel
theorem tX9_look_142 : gAt mX9_look 142 = some (.ifCond .ge 28, 3, 170, 0, 0, 0) := by decide +kernel
theorem tX9_look_145 : gAt mX9_look 145 = some (.aload_n 0, 1, 0, 0, 0, 0) := by decide +kernel
theorem tX9_look_146 : gAt mX9_look 146 = some (.getfield 273, 3, 10, 24, 0, 1063) := by decide +kernel
theorem tX9_look_149 : gAt mX9_look 149 = some (.aload_n 0, 1, 0, 0, 0, 0) := by decide +kernel
theorem tX9_look_150 : gAt mX9_look 150 = some (.iload_n 1, 1, 0, 0, 0, 0) := by decide +kernel
theorem tX9_look_151 : gAt mX9_look 151 = some (.invokevirtual 356, 3, 162, 1, 10, 1471) := by decide +kernel
theorem tX9_look_154 : gAt mX9_look 154 = some (.if_icmp .le 16, 3, 170, 0, 0, 0) := by decide +kernel
theorem tX9_look_157 : gAt mX9_look 157 = some (.aload_n 0, 1, 0, 0, 0, 0) := by decide +kernel
theorem tX9_look_158 : gAt mX9_look 158 = some (.iload_n 1, 1, 0, 0, 0, 0) := by decide +kernel
theorem tX9_look_159 : gAt mX9_look 159 = some (.iconst 0, 1, 0, 0, 0, 0) := by decide +kernel
theorem tX9_look_160 : gAt mX9_look 160 = some (.invokevirtual 377, 3, 170, 2, 10, 1507) := by decide +kernel
theorem tX9_look_163 : gAt mX9_look 163 = some (.ifCond .le 7, 3, 170, 0, 0, 0) := by decide +kernel
theorem tX9_look_166 : gAt mX9_look 166 = some (.iconst 1, 1, 1, 0, 0, 0) := by decide +kernel
theorem tX9_look_167 : gAt mX9_look 167 = some (.goto 4, 3, 171, 0, 0, 0) := by decide +kernel
theorem tX9_look_170 : gAt mX9_look 170 = some (.iconst 0, 1, 0, 0, 0, 0) := by decide +kernel
theorem tX9_look_171 : gAt mX9_look 171 = some (.ireturn, 1, 0, 0, 0, 0) := by decide +kernel
set_option maxRecDepth 100000 in
theorem okX9_count : (gTb mX9_count).all (okE gF gNM mX9_count) = true := by decide +kernel
theorem pnX9_count : plainName (gY mX9_count).cls = true := by decide +kernel
theorem tX9_count_0 : gAt mX9_count 0 = some (.aload_n 0, 1, 0, 0, 0, 0) := by decide +kernel
theorem tX9_count_1 : gAt mX9_count 1 = some (.iconst 0, 1, 0, 0, 0, 0) := by decide +kernel
theorem tX9_count_2 : gAt mX9_count 2 = some (.putfield 174, 3, 10, 0, 0, 1039) := by decide +kernel
theorem tX9_count_5 : gAt mX9_count 5 = some (.iconst 0, 1, 0, 0, 0, 0) := by decide +kernel
theorem tX9_count_6 : gAt mX9_count 6 = some (.istore_n 2, 1, 0, 0, 0, 0) := by decide +kernel
theorem tX9_count_7 : gAt mX9_count 7 = some (.iconst 0, 1, 0, 0, 0, 0) := by decide +kernel
theorem tX9_count_8 : gAt mX9_count 8 = some (.istore_n 3, 1, 0, 0, 0, 0) := by decide +kernel
theorem tX9_count_9 : gAt mX9_count 9 = some (.iload_n 3, 1, 0, 0, 0, 0) := by decide +kernel
theorem tX9_count_10 : gAt mX9_count 10 = some (.aload_n 0, 1, 0, 0, 0, 0) := by decide +kernel
theorem tX9_count_11 : gAt mX9_count 11 = some (.getfield 285, 3, 10, 36, 0, 1075) := by decide +kernel
theorem tX9_count_14 : gAt mX9_count 14 = some (.if_icmp .ge 26, 3, 40, 0, 0, 0) := by decide +kernel
theorem tX9_count_17 : gAt mX9_count 17 = some (.iload_n 2, 1, 0, 0, 0, 0) := by decide +kernel
theorem tX9_count_18 : gAt mX9_count 18 = some (.aload_n 0, 1, 0, 0, 0, 0) := by decide +kernel
theorem tX9_count_19 : gAt mX9_count 19 = some (.getfield 103, 3, 10, 38, 2, 1077) := by decide +kernel
theorem tX9_count_22 : gAt mX9_count 22 = some (.iload_n 3, 1, 0, 0, 0, 0) := by decide +kernel
theorem tX9_count_23 : gAt mX9_count 23 = some (.baload, 1, 114, 0, 0, 0) := by decide +kernel
theorem tX9_count_24 : gAt mX9_count 24 = some (.ifCond .eq 7, 3, 31, 0, 0, 0) := by decide +kernel
theorem tX9_count_27 : gAt mX9_count 27 = some (.iconst 1, 1, 1, 0, 0, 0) := by decide +kernel
theorem tX9_count_28 : gAt mX9_count 28 = some (.goto 4, 3, 32, 0, 0, 0) := by decide +kernel
theorem tX9_count_31 : gAt mX9_count 31 = some (.iconst 0, 1, 0, 0, 0, 0) := by decide +kernel
theorem tX9_count_32 : gAt mX9_count 32 = some (.iadd, 1, 0, 0, 0, 0) := by decide +kernel
theorem tX9_count_33 : gAt mX9_count 33 = some (.istore_n 2, 1, 0, 0, 0, 0) := by decide +kernel
theorem tX9_count_34 : gAt mX9_count 34 = some (.iinc 3 1, 3, 1, 0, 0, 0) := by decide +kernel
theorem tX9_count_37 : gAt mX9_count 37 = some (.goto (-28), 3, 9, 0, 0, 0) := by decide +kernel
theorem tX9_count_40 : gAt mX9_count 40 = some (.iload_n 1, 1, 0, 0, 0, 0) := by decide +kernel
theorem tX9_count_41 : gAt mX9_count 41 = some (.tableswitch 116 0 10 #[59, 64, 69, 74, 79, 81, 86, 91, 96, 106, 111], 59, 0, 0, 0, 0) := by decide +kernel
theorem tX9_count_100 : gAt mX9_count 100 = some (.aload_n 0, 1, 0, 0, 0, 0) := by decide +kernel
theorem tX9_count_101 : gAt mX9_count 101 = some (.getfield 72, 3, 10, 25, 0, 1064) := by decide +kernel
theorem tX9_count_104 : gAt mX9_count 104 = some (.ireturn, 1, 0, 0, 0, 0) := by decide +kernel
theorem tX9_count_105 : gAt mX9_count 105 = some (.aload_n 0, 1, 0, 0, 0, 0) := by decide +kernel
theorem tX9_count_106 : gAt mX9_count 106 = some (.getfield 294, 3, 10, 27, 0, 1066) := by decide +kernel
theorem tX9_count_109 : gAt mX9_count 109 = some (.ireturn, 1, 0, 0, 0, 0) := by decide +kernel
theorem tX9_count_110 : gAt mX9_count 110 = some (.aload_n 0, 1, 0, 0, 0, 0) := by decide +kernel
theorem tX9_count_111 : gAt mX9_count 111 = some (.getfield 291, 3, 10, 31, 0, 1070) := by decide +kernel
theorem tX9_count_114 : gAt mX9_count 114 = some (.ireturn, 1, 0, 0, 0, 0) := by decide +kernel
theorem tX9_count_115 : gAt mX9_count 115 = some (.aload_n 0, 1, 0, 0, 0, 0) := by decide +kernel
theorem tX9_count_116 : gAt mX9_count 116 = some (.getfield 285, 3, 10, 36, 0, 1075) := by decide +kernel
theorem tX9_count_119 : gAt mX9_count 119 = some (.ireturn, 1, 0, 0, 0, 0) := by decide +kernel
theorem tX9_count_120 : gAt mX9_count 120 = some (.iload_n 2, 1, 0, 0, 0, 0) := by decide +kernel
theorem tX9_count_121 : gAt mX9_count 121 = some (.ireturn, 1, 0, 0, 0, 0) := by decide +kernel
theorem tX9_count_122 : gAt mX9_count 122 = some (.aload_n 0, 1, 0, 0, 0, 0) := by decide +kernel
theorem tX9_count_123 : gAt mX9_count 123 = some (.getfield 332, 3, 10, 46, 0, 1085) := by decide +kernel
theorem tX9_count_126 : gAt mX9_count 126 = some (.ireturn, 1, 0, 0, 0, 0) := by decide +kernel
theorem tX9_count_127 : gAt mX9_count 127 = some (.aload_n 0, 1, 0, 0, 0, 0) := by decide +kernel
theorem tX9_count_128 : gAt mX9_count 128 = some (.getfield 359, 3, 10, 57, 0, 1096) := by decide +kernel
theorem tX9_count_131 : gAt mX9_count 131 = some (.ireturn, 1, 0, 0, 0, 0) := by decide +kernel
theorem tX9_count_132 : gAt mX9_count 132 = some (.aload_n 0, 1, 0, 0, 0, 0) := by decide +kernel
theorem tX9_count_133 : gAt mX9_count 133 = some (.getfield 273, 3, 10, 24, 0, 1063) := by decide +kernel
theorem tX9_count_136 : gAt mX9_count 136 = some (.ireturn, 1, 0, 0, 0, 0) := by decide +kernel
theorem tX9_count_137 : gAt mX9_count 137 = some (.aload_n 0, 1, 0, 0, 0, 0) := by decide +kernel
theorem tX9_count_138 : gAt mX9_count 138 = some (.getfield 42, 3, 10, 10, 2, 1049) := by decide +kernel
theorem tX9_count_141 : gAt mX9_count 141 = some (.aload_n 0, 1, 0, 0, 0, 0) := by decide +kernel
theorem tX9_count_142 : gAt mX9_count 142 = some (.getfield 235, 3, 10, 15, 0, 1054) := by decide +kernel
theorem tX9_count_145 : gAt mX9_count 145 = some (.iaload, 1, 112, 0, 0, 0) := by decide +kernel
theorem tX9_count_146 : gAt mX9_count 146 = some (.ireturn, 1, 0, 0, 0, 0) := by decide +kernel
theorem tX9_count_147 : gAt mX9_count 147 = some (.aload_n 0, 1, 0, 0, 0, 0) := by decide +kernel
theorem tX9_count_148 : gAt mX9_count 148 = some (.getfield 181, 3, 10, 2, 0, 1041) := by decide +kernel
theorem tX9_count_151 : gAt mX9_count 151 = some (.ireturn, 1, 0, 0, 0, 0) := by decide +kernel
theorem tX9_count_152 : gAt mX9_count 152 = some (.aload_n 0, 1, 0, 0, 0, 0) := by decide +kernel
theorem tX9_count_153 : gAt mX9_count 153 = some (.getfield 282, 3, 10, 44, 0, 1083) := by decide +kernel
theorem tX9_count_156 : gAt mX9_count 156 = some (.ireturn, 1, 0, 0, 0, 0) := by decide +kernel
theorem tX9_count_157 : gAt mX9_count 157 = some (.iconst (-1), 1, 1, 1, 0, 0) := by decide +kernel
theorem tX9_count_158 : gAt mX9_count 158 = some (.ireturn, 1, 0, 0, 0, 0) := by decide +kernel
