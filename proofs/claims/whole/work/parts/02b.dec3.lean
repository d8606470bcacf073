theorem dX12_init_0 : decode cX12_init 0 = .ok (.aload_n 0, 1) := by decide +kernel
theorem dX12_init_1 : decode cX12_init 1 = .ok (.invokespecial 1, 3) := by decide +kernel
theorem dX12_init_4 : decode cX12_init 4 = .ok (.aload_n 0, 1) := by decide +kernel
theorem dX12_init_5 : decode cX12_init 5 = .ok (.bipush 100, 2) := by decide +kernel
theorem dX12_init_7 : decode cX12_init 7 = .ok (.newarray .int, 2) := by decide +kernel
theorem dX12_init_9 : decode cX12_init 9 = .ok (.putfield 7, 3) := by decide +kernel
theorem dX12_init_12 : decode cX12_init 12 = .ok (.aload_n 0, 1) := by decide +kernel
theorem dX12_init_13 : decode cX12_init 13 = .ok (.sipush 240, 3) := by decide +kernel
theorem dX12_init_16 : decode cX12_init 16 = .ok (.newarray .int, 2) := by decide +kernel
theorem dX12_init_18 : decode cX12_init 18 = .ok (.putfield 13, 3) := by decide +kernel
theorem dX12_init_21 : decode cX12_init 21 = .ok (.aload_n 0, 1) := by decide +kernel
theorem dX12_init_22 : decode cX12_init 22 = .ok (.bipush 20, 2) := by decide +kernel
theorem dX12_init_24 : decode cX12_init 24 = .ok (.newarray .int, 2) := by decide +kernel
theorem dX12_init_26 : decode cX12_init 26 = .ok (.putfield 16, 3) := by decide +kernel
theorem dX12_init_29 : decode cX12_init 29 = .ok (.aload_n 0, 1) := by decide +kernel
theorem dX12_init_30 : decode cX12_init 30 = .ok (.iconst 4, 1) := by decide +kernel
theorem dX12_init_31 : decode cX12_init 31 = .ok (.newarray .int, 2) := by decide +kernel
theorem dX12_init_33 : decode cX12_init 33 = .ok (.putfield 19, 3) := by decide +kernel
theorem dX12_init_36 : decode cX12_init 36 = .ok (.aload_n 0, 1) := by decide +kernel
theorem dX12_init_37 : decode cX12_init 37 = .ok (.iconst 4, 1) := by decide +kernel
theorem dX12_init_38 : decode cX12_init 38 = .ok (.newarray .int, 2) := by decide +kernel
theorem dX12_init_40 : decode cX12_init 40 = .ok (.dup, 1) := by decide +kernel
theorem dX12_init_41 : decode cX12_init 41 = .ok (.iconst 0, 1) := by decide +kernel
theorem dX12_init_42 : decode cX12_init 42 = .ok (.iconst 4, 1) := by decide +kernel
theorem dX12_init_43 : decode cX12_init 43 = .ok (.iastore, 1) := by decide +kernel
theorem dX12_init_44 : decode cX12_init 44 = .ok (.dup, 1) := by decide +kernel
theorem dX12_init_45 : decode cX12_init 45 = .ok (.iconst 1, 1) := by decide +kernel
theorem dX12_init_46 : decode cX12_init 46 = .ok (.iconst 4, 1) := by decide +kernel
theorem dX12_init_47 : decode cX12_init 47 = .ok (.iastore, 1) := by decide +kernel
theorem dX12_init_48 : decode cX12_init 48 = .ok (.dup, 1) := by decide +kernel
theorem dX12_init_49 : decode cX12_init 49 = .ok (.iconst 2, 1) := by decide +kernel
theorem dX12_init_50 : decode cX12_init 50 = .ok (.iconst 4, 1) := by decide +kernel
theorem dX12_init_51 : decode cX12_init 51 = .ok (.iastore, 1) := by decide +kernel
theorem dX12_init_52 : decode cX12_init 52 = .ok (.dup, 1) := by decide +kernel
theorem dX12_init_53 : decode cX12_init 53 = .ok (.iconst 3, 1) := by decide +kernel
theorem dX12_init_54 : decode cX12_init 54 = .ok (.iconst 4, 1) := by decide +kernel
theorem dX12_init_55 : decode cX12_init 55 = .ok (.iastore, 1) := by decide +kernel
theorem dX12_init_56 : decode cX12_init 56 = .ok (.putfield 22, 3) := by decide +kernel
theorem dX12_init_59 : decode cX12_init 59 = .ok (.aload_n 0, 1) := by decide +kernel
theorem dX12_init_60 : decode cX12_init 60 = .ok (.iconst 4, 1) := by decide +kernel
theorem dX12_init_61 : decode cX12_init 61 = .ok (.newarray .int, 2) := by decide +kernel
theorem dX12_init_63 : decode cX12_init 63 = .ok (.dup, 1) := by decide +kernel
theorem dX12_init_64 : decode cX12_init 64 = .ok (.iconst 0, 1) := by decide +kernel
theorem dX12_init_65 : decode cX12_init 65 = .ok (.bipush 7, 2) := by decide +kernel
theorem dX12_init_67 : decode cX12_init 67 = .ok (.iastore, 1) := by decide +kernel
theorem dX12_init_68 : decode cX12_init 68 = .ok (.dup, 1) := by decide +kernel
theorem dX12_init_69 : decode cX12_init 69 = .ok (.iconst 1, 1) := by decide +kernel
theorem dX12_init_70 : decode cX12_init 70 = .ok (.bipush 7, 2) := by decide +kernel
theorem dX12_init_72 : decode cX12_init 72 = .ok (.iastore, 1) := by decide +kernel
theorem dX12_init_73 : decode cX12_init 73 = .ok (.dup, 1) := by decide +kernel
theorem dX12_init_74 : decode cX12_init 74 = .ok (.iconst 2, 1) := by decide +kernel
theorem dX12_init_75 : decode cX12_init 75 = .ok (.bipush 7, 2) := by decide +kernel
theorem dX12_init_77 : decode cX12_init 77 = .ok (.iastore, 1) := by decide +kernel
theorem dX12_init_78 : decode cX12_init 78 = .ok (.dup, 1) := by decide +kernel
theorem dX12_init_79 : decode cX12_init 79 = .ok (.iconst 3, 1) := by decide +kernel
theorem dX12_init_80 : decode cX12_init 80 = .ok (.bipush 7, 2) := by decide +kernel
theorem dX12_init_82 : decode cX12_init 82 = .ok (.iastore, 1) := by decide +kernel
theorem dX12_init_83 : decode cX12_init 83 = .ok (.putfield 25, 3) := by decide +kernel
theorem dX12_init_86 : decode cX12_init 86 = .ok (.aload_n 0, 1) := by decide +kernel
theorem dX12_init_87 : decode cX12_init 87 = .ok (.iconst 4, 1) := by decide +kernel
theorem dX12_init_88 : decode cX12_init 88 = .ok (.newarray .int, 2) := by decide +kernel
theorem dX12_init_90 : decode cX12_init 90 = .ok (.putfield 28, 3) := by decide +kernel
theorem dX12_init_93 : decode cX12_init 93 = .ok (.aload_n 0, 1) := by decide +kernel
theorem dX12_init_94 : decode cX12_init 94 = .ok (.iconst 4, 1) := by decide +kernel
theorem dX12_init_95 : decode cX12_init 95 = .ok (.newarray .int, 2) := by decide +kernel
theorem dX12_init_97 : decode cX12_init 97 = .ok (.putfield 31, 3) := by decide +kernel
theorem dX12_init_100 : decode cX12_init 100 = .ok (.aload_n 0, 1) := by decide +kernel
theorem dX12_init_101 : decode cX12_init 101 = .ok (.bipush 120, 2) := by decide +kernel
theorem dX12_init_103 : decode cX12_init 103 = .ok (.newarray .int, 2) := by decide +kernel
theorem dX12_init_105 : decode cX12_init 105 = .ok (.putfield 34, 3) := by decide +kernel
theorem dX12_init_108 : decode cX12_init 108 = .ok (.aload_n 0, 1) := by decide +kernel
theorem dX12_init_109 : decode cX12_init 109 = .ok (.iconst 4, 1) := by decide +kernel
theorem dX12_init_110 : decode cX12_init 110 = .ok (.newarray .int, 2) := by decide +kernel
theorem dX12_init_112 : decode cX12_init 112 = .ok (.putfield 37, 3) := by decide +kernel
theorem dX12_init_115 : decode cX12_init 115 = .ok (.aload_n 0, 1) := by decide +kernel
theorem dX12_init_116 : decode cX12_init 116 = .ok (.bipush 48, 2) := by decide +kernel
theorem dX12_init_118 : decode cX12_init 118 = .ok (.newarray .int, 2) := by decide +kernel
theorem dX12_init_120 : decode cX12_init 120 = .ok (.putfield 40, 3) := by decide +kernel
theorem dX12_init_123 : decode cX12_init 123 = .ok (.aload_n 0, 1) := by decide +kernel
theorem dX12_init_124 : decode cX12_init 124 = .ok (.iconst 4, 1) := by decide +kernel
theorem dX12_init_125 : decode cX12_init 125 = .ok (.newarray .int, 2) := by decide +kernel
theorem dX12_init_127 : decode cX12_init 127 = .ok (.putfield 43, 3) := by decide +kernel
theorem dX12_init_130 : decode cX12_init 130 = .ok (.aload_n 0, 1) := by decide +kernel
theorem dX12_init_131 : decode cX12_init 131 = .ok (.bipush 48, 2) := by decide +kernel
theorem dX12_init_133 : decode cX12_init 133 = .ok (.newarray .int, 2) := by decide +kernel
theorem dX12_init_135 : decode cX12_init 135 = .ok (.putfield 46, 3) := by decide +kernel
theorem dX12_init_138 : decode cX12_init 138 = .ok (.aload_n 0, 1) := by decide +kernel
theorem dX12_init_139 : decode cX12_init 139 = .ok (.bipush 6, 2) := by decide +kernel
theorem dX12_init_141 : decode cX12_init 141 = .ok (.newarray .int, 2) := by decide +kernel
theorem dX12_init_143 : decode cX12_init 143 = .ok (.putfield 49, 3) := by decide +kernel
theorem dX12_init_146 : decode cX12_init 146 = .ok (.aload_n 0, 1) := by decide +kernel
theorem dX12_init_147 : decode cX12_init 147 = .ok (.bipush 96, 2) := by decide +kernel
theorem dX12_init_149 : decode cX12_init 149 = .ok (.newarray .int, 2) := by decide +kernel
theorem dX12_init_151 : decode cX12_init 151 = .ok (.putfield 52, 3) := by decide +kernel
theorem dX12_init_154 : decode cX12_init 154 = .ok (.aload_n 0, 1) := by decide +kernel
theorem dX12_init_155 : decode cX12_init 155 = .ok (.bipush 8, 2) := by decide +kernel
theorem dX12_init_157 : decode cX12_init 157 = .ok (.newarray .int, 2) := by decide +kernel
theorem dX12_init_159 : decode cX12_init 159 = .ok (.putfield 55, 3) := by decide +kernel
theorem dX12_init_162 : decode cX12_init 162 = .ok (.aload_n 0, 1) := by decide +kernel
theorem dX12_init_163 : decode cX12_init 163 = .ok (.iconst 4, 1) := by decide +kernel
theorem dX12_init_164 : decode cX12_init 164 = .ok (.newarray .int, 2) := by decide +kernel
theorem dX12_init_166 : decode cX12_init 166 = .ok (.putfield 58, 3) := by decide +kernel
theorem dX12_init_169 : decode cX12_init 169 = .ok (.aload_n 0, 1) := by decide +kernel
theorem dX12_init_170 : decode cX12_init 170 = .ok (.iconst 4, 1) := by decide +kernel
theorem dX12_init_171 : decode cX12_init 171 = .ok (.newarray .int, 2) := by decide +kernel
theorem dX12_init_173 : decode cX12_init 173 = .ok (.putfield 61, 3) := by decide +kernel
theorem dX12_init_176 : decode cX12_init 176 = .ok (.aload_n 0, 1) := by decide +kernel
theorem dX12_init_177 : decode cX12_init 177 = .ok (.bipush 35, 2) := by decide +kernel
theorem dX12_init_179 : decode cX12_init 179 = .ok (.newarray .int, 2) := by decide +kernel
theorem dX12_init_181 : decode cX12_init 181 = .ok (.putfield 64, 3) := by decide +kernel
theorem dX12_init_184 : decode cX12_init 184 = .ok (.aload_n 0, 1) := by decide +kernel
theorem dX12_init_185 : decode cX12_init 185 = .ok (.bipush 35, 2) := by decide +kernel
theorem dX12_init_187 : decode cX12_init 187 = .ok (.newarray .int, 2) := by decide +kernel
theorem dX12_init_189 : decode cX12_init 189 = .ok (.putfield 67, 3) := by decide +kernel
theorem dX12_init_192 : decode cX12_init 192 = .ok (.aload_n 0, 1) := by decide +kernel
theorem dX12_init_193 : decode cX12_init 193 = .ok (.ldc 70, 2) := by decide +kernel
theorem dX12_init_195 : decode cX12_init 195 = .ok (.newarray .int, 2) := by decide +kernel
theorem dX12_init_197 : decode cX12_init 197 = .ok (.putfield 71, 3) := by decide +kernel
theorem dX12_init_200 : decode cX12_init 200 = .ok (.aload_n 0, 1) := by decide +kernel
theorem dX12_init_201 : decode cX12_init 201 = .ok (.sipush 1500, 3) := by decide +kernel
theorem dX12_init_204 : decode cX12_init 204 = .ok (.newarray .int, 2) := by decide +kernel
theorem dX12_init_206 : decode cX12_init 206 = .ok (.putfield 74, 3) := by decide +kernel
theorem dX12_init_209 : decode cX12_init 209 = .ok (.aload_n 0, 1) := by decide +kernel
theorem dX12_init_210 : decode cX12_init 210 = .ok (.sipush 1500, 3) := by decide +kernel
theorem dX12_init_213 : decode cX12_init 213 = .ok (.newarray .int, 2) := by decide +kernel
theorem dX12_init_215 : decode cX12_init 215 = .ok (.putfield 77, 3) := by decide +kernel
theorem dX12_init_218 : decode cX12_init 218 = .ok (.aload_n 0, 1) := by decide +kernel
theorem dX12_init_219 : decode cX12_init 219 = .ok (.sipush 6000, 3) := by decide +kernel
theorem dX12_init_222 : decode cX12_init 222 = .ok (.newarray .int, 2) := by decide +kernel
theorem dX12_init_224 : decode cX12_init 224 = .ok (.putfield 80, 3) := by decide +kernel
theorem dX12_init_227 : decode cX12_init 227 = .ok (.aload_n 0, 1) := by decide +kernel
theorem dX12_init_228 : decode cX12_init 228 = .ok (.sipush 6000, 3) := by decide +kernel
theorem dX12_init_231 : decode cX12_init 231 = .ok (.newarray .boolean, 2) := by decide +kernel
theorem dX12_init_233 : decode cX12_init 233 = .ok (.putfield 83, 3) := by decide +kernel
theorem dX12_init_236 : decode cX12_init 236 = .ok (.aload_n 0, 1) := by decide +kernel
theorem dX12_init_237 : decode cX12_init 237 = .ok (.sipush 1500, 3) := by decide +kernel
theorem dX12_init_240 : decode cX12_init 240 = .ok (.newarray .int, 2) := by decide +kernel
theorem dX12_init_242 : decode cX12_init 242 = .ok (.putfield 87, 3) := by decide +kernel
theorem dX12_init_245 : decode cX12_init 245 = .ok (.aload_n 0, 1) := by decide +kernel
theorem dX12_init_246 : decode cX12_init 246 = .ok (.sipush 4096, 3) := by decide +kernel
theorem dX12_init_249 : decode cX12_init 249 = .ok (.newarray .int, 2) := by decide +kernel
theorem dX12_init_251 : decode cX12_init 251 = .ok (.putfield 90, 3) := by decide +kernel
theorem dX12_init_254 : decode cX12_init 254 = .ok (.aload_n 0, 1) := by decide +kernel
theorem dX12_init_255 : decode cX12_init 255 = .ok (.bipush 60, 2) := by decide +kernel
theorem dX12_init_257 : decode cX12_init 257 = .ok (.newarray .int, 2) := by decide +kernel
theorem dX12_init_259 : decode cX12_init 259 = .ok (.putfield 93, 3) := by decide +kernel
theorem dX12_init_262 : decode cX12_init 262 = .ok (.aload_n 0, 1) := by decide +kernel
theorem dX12_init_263 : decode cX12_init 263 = .ok (.bipush 60, 2) := by decide +kernel
theorem dX12_init_265 : decode cX12_init 265 = .ok (.newarray .int, 2) := by decide +kernel
theorem dX12_init_267 : decode cX12_init 267 = .ok (.putfield 96, 3) := by decide +kernel
theorem dX12_init_270 : decode cX12_init 270 = .ok (.aload_n 0, 1) := by decide +kernel
theorem dX12_init_271 : decode cX12_init 271 = .ok (.sipush 1500, 3) := by decide +kernel
theorem dX12_init_274 : decode cX12_init 274 = .ok (.newarray .int, 2) := by decide +kernel
theorem dX12_init_276 : decode cX12_init 276 = .ok (.putfield 99, 3) := by decide +kernel
theorem dX12_init_279 : decode cX12_init 279 = .ok (.aload_n 0, 1) := by decide +kernel
theorem dX12_init_280 : decode cX12_init 280 = .ok (.sipush 1501, 3) := by decide +kernel
theorem dX12_init_283 : decode cX12_init 283 = .ok (.newarray .int, 2) := by decide +kernel
theorem dX12_init_285 : decode cX12_init 285 = .ok (.putfield 102, 3) := by decide +kernel
theorem dX12_init_288 : decode cX12_init 288 = .ok (.aload_n 0, 1) := by decide +kernel
theorem dX12_init_289 : decode cX12_init 289 = .ok (.sipush 1501, 3) := by decide +kernel
theorem dX12_init_292 : decode cX12_init 292 = .ok (.newarray .int, 2) := by decide +kernel
theorem dX12_init_294 : decode cX12_init 294 = .ok (.putfield 105, 3) := by decide +kernel
theorem dX12_init_297 : decode cX12_init 297 = .ok (.aload_n 0, 1) := by decide +kernel
theorem dX12_init_298 : decode cX12_init 298 = .ok (.sipush 1204, 3) := by decide +kernel
theorem dX12_init_301 : decode cX12_init 301 = .ok (.newarray .int, 2) := by decide +kernel
theorem dX12_init_303 : decode cX12_init 303 = .ok (.putfield 108, 3) := by decide +kernel
theorem dX12_init_306 : decode cX12_init 306 = .ok (.aload_n 0, 1) := by decide +kernel
theorem dX12_init_307 : decode cX12_init 307 = .ok (.iconst 4, 1) := by decide +kernel
theorem dX12_init_308 : decode cX12_init 308 = .ok (.newarray .int, 2) := by decide +kernel
theorem dX12_init_310 : decode cX12_init 310 = .ok (.putfield 111, 3) := by decide +kernel
theorem dX12_init_313 : decode cX12_init 313 = .ok (.aload_n 0, 1) := by decide +kernel
theorem dX12_init_314 : decode cX12_init 314 = .ok (.bipush 60, 2) := by decide +kernel
theorem dX12_init_316 : decode cX12_init 316 = .ok (.newarray .int, 2) := by decide +kernel
theorem dX12_init_318 : decode cX12_init 318 = .ok (.putfield 114, 3) := by decide +kernel
theorem dX12_init_321 : decode cX12_init 321 = .ok (.aload_n 0, 1) := by decide +kernel
theorem dX12_init_322 : decode cX12_init 322 = .ok (.bipush 30, 2) := by decide +kernel
theorem dX12_init_324 : decode cX12_init 324 = .ok (.newarray .int, 2) := by decide +kernel
theorem dX12_init_326 : decode cX12_init 326 = .ok (.putfield 117, 3) := by decide +kernel
theorem dX12_init_329 : decode cX12_init 329 = .ok (.aload_n 0, 1) := by decide +kernel
theorem dX12_init_330 : decode cX12_init 330 = .ok (.bipush 12, 2) := by decide +kernel
theorem dX12_init_332 : decode cX12_init 332 = .ok (.newarray .int, 2) := by decide +kernel
theorem dX12_init_334 : decode cX12_init 334 = .ok (.putfield 120, 3) := by decide +kernel
theorem dX12_init_337 : decode cX12_init 337 = .ok (.aload_n 0, 1) := by decide +kernel
theorem dX12_init_338 : decode cX12_init 338 = .ok (.iconst 4, 1) := by decide +kernel
theorem dX12_init_339 : decode cX12_init 339 = .ok (.newarray .int, 2) := by decide +kernel
theorem dX12_init_341 : decode cX12_init 341 = .ok (.putfield 123, 3) := by decide +kernel
theorem dX12_init_344 : decode cX12_init 344 = .ok (.aload_n 0, 1) := by decide +kernel
theorem dX12_init_345 : decode cX12_init 345 = .ok (.iconst 4, 1) := by decide +kernel
theorem dX12_init_346 : decode cX12_init 346 = .ok (.newarray .int, 2) := by decide +kernel
theorem dX12_init_348 : decode cX12_init 348 = .ok (.putfield 126, 3) := by decide +kernel
theorem dX12_init_351 : decode cX12_init 351 = .ok (.return_, 1) := by decide +kernel
theorem dX12_in_0 : decode cX12_in 0 = .ok (.lload_n 0, 1) := by decide +kernel
theorem dX12_in_1 : decode cX12_in 1 = .ok (.lload_n 2, 1) := by decide +kernel
theorem dX12_in_2 : decode cX12_in 2 = .ok (.lcmp, 1) := by decide +kernel
theorem dX12_in_3 : decode cX12_in 3 = .ok (.ifCond .lt 14, 3) := by decide +kernel
theorem dX12_in_6 : decode cX12_in 6 = .ok (.lload_n 0, 1) := by decide +kernel
theorem dX12_in_7 : decode cX12_in 7 = .ok (.lload 4, 2) := by decide +kernel
theorem dX12_in_9 : decode cX12_in 9 = .ok (.lcmp, 1) := by decide +kernel
theorem dX12_in_10 : decode cX12_in 10 = .ok (.ifCond .gt 7, 3) := by decide +kernel
theorem dX12_in_13 : decode cX12_in 13 = .ok (.iconst 1, 1) := by decide +kernel
theorem dX12_in_14 : decode cX12_in 14 = .ok (.goto 4, 3) := by decide +kernel
theorem dX12_in_17 : decode cX12_in 17 = .ok (.iconst 0, 1) := by decide +kernel
theorem dX12_in_18 : decode cX12_in 18 = .ok (.ireturn, 1) := by decide +kernel
theorem dX12_isName_0 : decode cX12_isName 0 = .ok (.iload_n 0, 1) := by decide +kernel
theorem dX12_isName_1 : decode cX12_isName 1 = .ok (.i2l, 1) := by decide +kernel
theorem dX12_isName_2 : decode cX12_isName 2 = .ok (.lconst 0, 1) := by decide +kernel
theorem dX12_isName_3 : decode cX12_isName 3 = .ok (.ldc2_w 129, 3) := by decide +kernel
theorem dX12_isName_6 : decode cX12_isName 6 = .ok (.invokestatic 131, 3) := by decide +kernel
theorem dX12_isName_9 : decode cX12_isName 9 = .ok (.ireturn, 1) := by decide +kernel
theorem dX12_write_0 : decode cX12_write 0 = .ok (.iload_n 3, 1) := by decide +kernel
theorem dX12_write_1 : decode cX12_write 1 = .ok (.i2l, 1) := by decide +kernel
theorem dX12_write_2 : decode cX12_write 2 = .ok (.lconst 1, 1) := by decide +kernel
theorem dX12_write_3 : decode cX12_write 3 = .ok (.ldc2_w 135, 3) := by decide +kernel
theorem dX12_write_6 : decode cX12_write 6 = .ok (.invokestatic 131, 3) := by decide +kernel
theorem dX12_write_9 : decode cX12_write 9 = .ok (.ifCond .ne 6, 3) := by decide +kernel
theorem dX12_write_12 : decode cX12_write 12 = .ok (.bipush (-3), 2) := by decide +kernel
theorem dX12_write_14 : decode cX12_write 14 = .ok (.ireturn, 1) := by decide +kernel
theorem dX12_write_15 : decode cX12_write 15 = .ok (.aload_n 0, 1) := by decide +kernel
theorem dX12_write_16 : decode cX12_write 16 = .ok (.getfield 137, 3) := by decide +kernel
theorem dX12_write_19 : decode cX12_write 19 = .ok (.iload_n 3, 1) := by decide +kernel
theorem dX12_write_20 : decode cX12_write 20 = .ok (.iadd, 1) := by decide +kernel
theorem dX12_write_21 : decode cX12_write 21 = .ok (.bipush 100, 2) := by decide +kernel
theorem dX12_write_23 : decode cX12_write 23 = .ok (.if_icmp .le 6, 3) := by decide +kernel
theorem dX12_write_26 : decode cX12_write 26 = .ok (.bipush (-5), 2) := by decide +kernel
theorem dX12_write_28 : decode cX12_write 28 = .ok (.ireturn, 1) := by decide +kernel
theorem dX12_write_29 : decode cX12_write 29 = .ok (.iconst 0, 1) := by decide +kernel
theorem dX12_write_30 : decode cX12_write 30 = .ok (.istore 4, 2) := by decide +kernel
theorem dX12_write_32 : decode cX12_write 32 = .ok (.iload 4, 2) := by decide +kernel
theorem dX12_write_34 : decode cX12_write 34 = .ok (.iload_n 3, 1) := by decide +kernel
theorem dX12_write_35 : decode cX12_write 35 = .ok (.if_icmp .ge 40, 3) := by decide +kernel
theorem dX12_write_38 : decode cX12_write 38 = .ok (.aload_n 0, 1) := by decide +kernel
theorem dX12_write_39 : decode cX12_write 39 = .ok (.getfield 7, 3) := by decide +kernel
theorem dX12_write_42 : decode cX12_write 42 = .ok (.aload_n 0, 1) := by decide +kernel
theorem dX12_write_43 : decode cX12_write 43 = .ok (.getfield 137, 3) := by decide +kernel
theorem dX12_write_46 : decode cX12_write 46 = .ok (.lload_n 1, 1) := by decide +kernel
theorem dX12_write_47 : decode cX12_write 47 = .ok (.bipush 8, 2) := by decide +kernel
theorem dX12_write_49 : decode cX12_write 49 = .ok (.iload 4, 2) := by decide +kernel
theorem dX12_write_51 : decode cX12_write 51 = .ok (.imul, 1) := by decide +kernel
theorem dX12_write_52 : decode cX12_write 52 = .ok (.lshr, 1) := by decide +kernel
theorem dX12_write_53 : decode cX12_write 53 = .ok (.ldc2_w 141, 3) := by decide +kernel
theorem dX12_write_56 : decode cX12_write 56 = .ok (.land, 1) := by decide +kernel
theorem dX12_write_57 : decode cX12_write 57 = .ok (.l2i, 1) := by decide +kernel
theorem dX12_write_58 : decode cX12_write 58 = .ok (.iastore, 1) := by decide +kernel
theorem dX12_write_59 : decode cX12_write 59 = .ok (.aload_n 0, 1) := by decide +kernel
theorem dX12_write_60 : decode cX12_write 60 = .ok (.dup, 1) := by decide +kernel
theorem dX12_write_61 : decode cX12_write 61 = .ok (.getfield 137, 3) := by decide +kernel
theorem dX12_write_64 : decode cX12_write 64 = .ok (.iconst 1, 1) := by decide +kernel
theorem dX12_write_65 : decode cX12_write 65 = .ok (.iadd, 1) := by decide +kernel
theorem dX12_write_66 : decode cX12_write 66 = .ok (.putfield 137, 3) := by decide +kernel
theorem dX12_write_69 : decode cX12_write 69 = .ok (.iinc 4 1, 3) := by decide +kernel
theorem dX12_write_72 : decode cX12_write 72 = .ok (.goto (-40), 3) := by decide +kernel
theorem dX12_write_75 : decode cX12_write 75 = .ok (.aload_n 0, 1) := by decide +kernel
theorem dX12_write_76 : decode cX12_write 76 = .ok (.getfield 137, 3) := by decide +kernel
theorem dX12_write_79 : decode cX12_write 79 = .ok (.ireturn, 1) := by decide +kernel
theorem dX12_erase_0 : decode cX12_erase 0 = .ok (.aload_n 0, 1) := by decide +kernel
theorem dX12_erase_1 : decode cX12_erase 1 = .ok (.getfield 137, 3) := by decide +kernel
theorem dX12_erase_4 : decode cX12_erase 4 = .ok (.istore_n 1, 1) := by decide +kernel
theorem dX12_erase_5 : decode cX12_erase 5 = .ok (.aload_n 0, 1) := by decide +kernel
theorem dX12_erase_6 : decode cX12_erase 6 = .ok (.iconst 0, 1) := by decide +kernel
theorem dX12_erase_7 : decode cX12_erase 7 = .ok (.putfield 137, 3) := by decide +kernel
theorem dX12_erase_10 : decode cX12_erase 10 = .ok (.iload_n 1, 1) := by decide +kernel
theorem dX12_erase_11 : decode cX12_erase 11 = .ok (.ireturn, 1) := by decide +kernel
theorem dX12_itemOf_0 : decode cX12_itemOf 0 = .ok (.iload_n 0, 1) := by decide +kernel
theorem dX12_itemOf_1 : decode cX12_itemOf 1 = .ok (.bipush 97, 2) := by decide +kernel
theorem dX12_itemOf_3 : decode cX12_itemOf 3 = .ok (.if_icmp .lt 16, 3) := by decide +kernel
theorem dX12_itemOf_6 : decode cX12_itemOf 6 = .ok (.iload_n 0, 1) := by decide +kernel
theorem dX12_itemOf_7 : decode cX12_itemOf 7 = .ok (.bipush 99, 2) := by decide +kernel
theorem dX12_itemOf_9 : decode cX12_itemOf 9 = .ok (.if_icmp .gt 10, 3) := by decide +kernel
theorem dX12_itemOf_12 : decode cX12_itemOf 12 = .ok (.iload_n 0, 1) := by decide +kernel
theorem dX12_itemOf_13 : decode cX12_itemOf 13 = .ok (.bipush 97, 2) := by decide +kernel
theorem dX12_itemOf_15 : decode cX12_itemOf 15 = .ok (.isub, 1) := by decide +kernel
theorem dX12_itemOf_16 : decode cX12_itemOf 16 = .ok (.goto 23, 3) := by decide +kernel
theorem dX12_itemOf_19 : decode cX12_itemOf 19 = .ok (.iload_n 0, 1) := by decide +kernel
theorem dX12_itemOf_20 : decode cX12_itemOf 20 = .ok (.bipush 119, 2) := by decide +kernel
theorem dX12_itemOf_22 : decode cX12_itemOf 22 = .ok (.if_icmp .lt 16, 3) := by decide +kernel
theorem dX12_itemOf_25 : decode cX12_itemOf 25 = .ok (.iload_n 0, 1) := by decide +kernel
theorem dX12_itemOf_26 : decode cX12_itemOf 26 = .ok (.bipush 122, 2) := by decide +kernel
theorem dX12_itemOf_28 : decode cX12_itemOf 28 = .ok (.if_icmp .gt 10, 3) := by decide +kernel
theorem dX12_itemOf_31 : decode cX12_itemOf 31 = .ok (.iload_n 0, 1) := by decide +kernel
theorem dX12_itemOf_32 : decode cX12_itemOf 32 = .ok (.bipush 115, 2) := by decide +kernel
theorem dX12_itemOf_34 : decode cX12_itemOf 34 = .ok (.isub, 1) := by decide +kernel
theorem dX12_itemOf_35 : decode cX12_itemOf 35 = .ok (.goto 4, 3) := by decide +kernel
theorem dX12_itemOf_38 : decode cX12_itemOf 38 = .ok (.iconst (-1), 1) := by decide +kernel
theorem dX12_itemOf_39 : decode cX12_itemOf 39 = .ok (.ireturn, 1) := by decide +kernel
theorem dX12_fault_0 : decode cX12_fault 0 = .ok (.iconst 0, 1) := by decide +kernel
theorem dX12_fault_1 : decode cX12_fault 1 = .ok (.istore_n 1, 1) := by decide +kernel
theorem dX12_fault_2 : decode cX12_fault 2 = .ok (.iconst 0, 1) := by decide +kernel
theorem dX12_fault_3 : decode cX12_fault 3 = .ok (.istore_n 2, 1) := by decide +kernel
theorem dX12_fault_4 : decode cX12_fault 4 = .ok (.aload_n 0, 1) := by decide +kernel
theorem dX12_fault_5 : decode cX12_fault 5 = .ok (.getfield 55, 3) := by decide +kernel
theorem dX12_fault_8 : decode cX12_fault 8 = .ok (.iconst 0, 1) := by decide +kernel
theorem dX12_fault_9 : decode cX12_fault 9 = .ok (.iconst 0, 1) := by decide +kernel
theorem dX12_fault_10 : decode cX12_fault 10 = .ok (.iastore, 1) := by decide +kernel
theorem dX12_fault_11 : decode cX12_fault 11 = .ok (.aload_n 0, 1) := by decide +kernel
theorem dX12_fault_12 : decode cX12_fault 12 = .ok (.getfield 55, 3) := by decide +kernel
theorem dX12_fault_15 : decode cX12_fault 15 = .ok (.iconst 1, 1) := by decide +kernel
theorem dX12_fault_16 : decode cX12_fault 16 = .ok (.iconst 0, 1) := by decide +kernel
theorem dX12_fault_17 : decode cX12_fault 17 = .ok (.iastore, 1) := by decide +kernel
theorem dX12_fault_18 : decode cX12_fault 18 = .ok (.iconst 0, 1) := by decide +kernel
theorem dX12_fault_19 : decode cX12_fault 19 = .ok (.istore_n 3, 1) := by decide +kernel
theorem dX12_fault_20 : decode cX12_fault 20 = .ok (.iload_n 3, 1) := by decide +kernel
theorem dX12_fault_21 : decode cX12_fault 21 = .ok (.aload_n 0, 1) := by decide +kernel
theorem dX12_fault_22 : decode cX12_fault 22 = .ok (.getfield 137, 3) := by decide +kernel
theorem dX12_fault_25 : decode cX12_fault 25 = .ok (.if_icmp .ge 159, 3) := by decide +kernel
theorem dX12_fault_28 : decode cX12_fault 28 = .ok (.aload_n 0, 1) := by decide +kernel
theorem dX12_fault_29 : decode cX12_fault 29 = .ok (.getfield 7, 3) := by decide +kernel
theorem dX12_fault_32 : decode cX12_fault 32 = .ok (.iload_n 3, 1) := by decide +kernel
theorem dX12_fault_33 : decode cX12_fault 33 = .ok (.iaload, 1) := by decide +kernel
theorem dX12_fault_34 : decode cX12_fault 34 = .ok (.istore 4, 2) := by decide +kernel
theorem dX12_fault_36 : decode cX12_fault 36 = .ok (.iload 4, 2) := by decide +kernel
theorem dX12_fault_38 : decode cX12_fault 38 = .ok (.invokestatic 143, 3) := by decide +kernel
theorem dX12_fault_41 : decode cX12_fault 41 = .ok (.istore 5, 2) := by decide +kernel
theorem dX12_fault_43 : decode cX12_fault 43 = .ok (.iconst 2, 1) := by decide +kernel
theorem dX12_fault_44 : decode cX12_fault 44 = .ok (.iload_n 1, 1) := by decide +kernel
theorem dX12_fault_45 : decode cX12_fault 45 = .ok (.imul, 1) := by decide +kernel
theorem dX12_fault_46 : decode cX12_fault 46 = .ok (.iload_n 2, 1) := by decide +kernel
theorem dX12_fault_47 : decode cX12_fault 47 = .ok (.iadd, 1) := by decide +kernel
theorem dX12_fault_48 : decode cX12_fault 48 = .ok (.istore 6, 2) := by decide +kernel
theorem dX12_fault_50 : decode cX12_fault 50 = .ok (.iload 5, 2) := by decide +kernel
theorem dX12_fault_52 : decode cX12_fault 52 = .ok (.iconst (-1), 1) := by decide +kernel
theorem dX12_fault_53 : decode cX12_fault 53 = .ok (.if_icmp .eq 51, 3) := by decide +kernel
theorem dX12_fault_56 : decode cX12_fault 56 = .ok (.aload_n 0, 1) := by decide +kernel
theorem dX12_fault_57 : decode cX12_fault 57 = .ok (.getfield 55, 3) := by decide +kernel
theorem dX12_fault_60 : decode cX12_fault 60 = .ok (.iload 6, 2) := by decide +kernel
theorem dX12_fault_62 : decode cX12_fault 62 = .ok (.iaload, 1) := by decide +kernel
theorem dX12_fault_63 : decode cX12_fault 63 = .ok (.bipush 12, 2) := by decide +kernel
theorem dX12_fault_65 : decode cX12_fault 65 = .ok (.if_icmp .ne 5, 3) := by decide +kernel
theorem dX12_fault_68 : decode cX12_fault 68 = .ok (.iload_n 3, 1) := by decide +kernel
theorem dX12_fault_69 : decode cX12_fault 69 = .ok (.ireturn, 1) := by decide +kernel
theorem dX12_fault_70 : decode cX12_fault 70 = .ok (.aload_n 0, 1) := by decide +kernel
theorem dX12_fault_71 : decode cX12_fault 71 = .ok (.getfield 52, 3) := by decide +kernel
theorem dX12_fault_74 : decode cX12_fault 74 = .ok (.bipush 12, 2) := by decide +kernel
theorem dX12_fault_76 : decode cX12_fault 76 = .ok (.iload 6, 2) := by decide +kernel
theorem dX12_fault_78 : decode cX12_fault 78 = .ok (.imul, 1) := by decide +kernel
theorem dX12_fault_79 : decode cX12_fault 79 = .ok (.aload_n 0, 1) := by decide +kernel
theorem dX12_fault_80 : decode cX12_fault 80 = .ok (.getfield 55, 3) := by decide +kernel
theorem dX12_fault_83 : decode cX12_fault 83 = .ok (.iload 6, 2) := by decide +kernel
theorem dX12_fault_85 : decode cX12_fault 85 = .ok (.iaload, 1) := by decide +kernel
theorem dX12_fault_86 : decode cX12_fault 86 = .ok (.iadd, 1) := by decide +kernel
theorem dX12_fault_87 : decode cX12_fault 87 = .ok (.iload 5, 2) := by decide +kernel
theorem dX12_fault_89 : decode cX12_fault 89 = .ok (.iastore, 1) := by decide +kernel
theorem dX12_fault_90 : decode cX12_fault 90 = .ok (.aload_n 0, 1) := by decide +kernel
theorem dX12_fault_91 : decode cX12_fault 91 = .ok (.getfield 55, 3) := by decide +kernel
theorem dX12_fault_94 : decode cX12_fault 94 = .ok (.iload 6, 2) := by decide +kernel
theorem dX12_fault_96 : decode cX12_fault 96 = .ok (.dup2, 1) := by decide +kernel
theorem dX12_fault_97 : decode cX12_fault 97 = .ok (.iaload, 1) := by decide +kernel
theorem dX12_fault_98 : decode cX12_fault 98 = .ok (.iconst 1, 1) := by decide +kernel
theorem dX12_fault_99 : decode cX12_fault 99 = .ok (.iadd, 1) := by decide +kernel
theorem dX12_fault_100 : decode cX12_fault 100 = .ok (.iastore, 1) := by decide +kernel
theorem dX12_fault_101 : decode cX12_fault 101 = .ok (.goto 77, 3) := by decide +kernel
theorem dX12_fault_104 : decode cX12_fault 104 = .ok (.iload 4, 2) := by decide +kernel
theorem dX12_fault_106 : decode cX12_fault 106 = .ok (.bipush 61, 2) := by decide +kernel
theorem dX12_fault_108 : decode cX12_fault 108 = .ok (.if_icmp .ne 15, 3) := by decide +kernel
theorem dX12_fault_111 : decode cX12_fault 111 = .ok (.iload_n 2, 1) := by decide +kernel
theorem dX12_fault_112 : decode cX12_fault 112 = .ok (.iconst 1, 1) := by decide +kernel
theorem dX12_fault_113 : decode cX12_fault 113 = .ok (.if_icmp .ne 5, 3) := by decide +kernel
theorem dX12_fault_116 : decode cX12_fault 116 = .ok (.iload_n 3, 1) := by decide +kernel
theorem dX12_fault_117 : decode cX12_fault 117 = .ok (.ireturn, 1) := by decide +kernel
theorem dX12_fault_118 : decode cX12_fault 118 = .ok (.iconst 1, 1) := by decide +kernel
theorem dX12_fault_119 : decode cX12_fault 119 = .ok (.istore_n 2, 1) := by decide +kernel
theorem dX12_fault_120 : decode cX12_fault 120 = .ok (.goto 58, 3) := by decide +kernel
theorem dX12_fault_123 : decode cX12_fault 123 = .ok (.iload 4, 2) := by decide +kernel
theorem dX12_fault_125 : decode cX12_fault 125 = .ok (.bipush 59, 2) := by decide +kernel
theorem dX12_fault_127 : decode cX12_fault 127 = .ok (.if_icmp .ne 42, 3) := by decide +kernel
theorem dX12_fault_130 : decode cX12_fault 130 = .ok (.iload_n 2, 1) := by decide +kernel
theorem dX12_fault_131 : decode cX12_fault 131 = .ok (.ifCond .eq 8, 3) := by decide +kernel
theorem dX12_fault_134 : decode cX12_fault 134 = .ok (.iload_n 1, 1) := by decide +kernel
theorem dX12_fault_135 : decode cX12_fault 135 = .ok (.iconst 3, 1) := by decide +kernel
theorem dX12_fault_136 : decode cX12_fault 136 = .ok (.if_icmp .ne 5, 3) := by decide +kernel
theorem dX12_fault_139 : decode cX12_fault 139 = .ok (.iload_n 3, 1) := by decide +kernel
theorem dX12_fault_140 : decode cX12_fault 140 = .ok (.ireturn, 1) := by decide +kernel
theorem dX12_fault_141 : decode cX12_fault 141 = .ok (.iinc 1 1, 3) := by decide +kernel
theorem dX12_fault_144 : decode cX12_fault 144 = .ok (.iconst 0, 1) := by decide +kernel
theorem dX12_fault_145 : decode cX12_fault 145 = .ok (.istore_n 2, 1) := by decide +kernel
theorem dX12_fault_146 : decode cX12_fault 146 = .ok (.aload_n 0, 1) := by decide +kernel
theorem dX12_fault_147 : decode cX12_fault 147 = .ok (.getfield 55, 3) := by decide +kernel
theorem dX12_fault_150 : decode cX12_fault 150 = .ok (.iconst 2, 1) := by decide +kernel
theorem dX12_fault_151 : decode cX12_fault 151 = .ok (.iload_n 1, 1) := by decide +kernel
theorem dX12_fault_152 : decode cX12_fault 152 = .ok (.imul, 1) := by decide +kernel
theorem dX12_fault_153 : decode cX12_fault 153 = .ok (.iconst 0, 1) := by decide +kernel
theorem dX12_fault_154 : decode cX12_fault 154 = .ok (.iastore, 1) := by decide +kernel
theorem dX12_fault_155 : decode cX12_fault 155 = .ok (.aload_n 0, 1) := by decide +kernel
theorem dX12_fault_156 : decode cX12_fault 156 = .ok (.getfield 55, 3) := by decide +kernel
theorem dX12_fault_159 : decode cX12_fault 159 = .ok (.iconst 2, 1) := by decide +kernel
theorem dX12_fault_160 : decode cX12_fault 160 = .ok (.iload_n 1, 1) := by decide +kernel
theorem dX12_fault_161 : decode cX12_fault 161 = .ok (.imul, 1) := by decide +kernel
theorem dX12_fault_162 : decode cX12_fault 162 = .ok (.iconst 1, 1) := by decide +kernel
theorem dX12_fault_163 : decode cX12_fault 163 = .ok (.iadd, 1) := by decide +kernel
theorem dX12_fault_164 : decode cX12_fault 164 = .ok (.iconst 0, 1) := by decide +kernel
theorem dX12_fault_165 : decode cX12_fault 165 = .ok (.iastore, 1) := by decide +kernel
theorem dX12_fault_166 : decode cX12_fault 166 = .ok (.goto 12, 3) := by decide +kernel
theorem dX12_fault_169 : decode cX12_fault 169 = .ok (.iload 4, 2) := by decide +kernel
theorem dX12_fault_171 : decode cX12_fault 171 = .ok (.bipush 32, 2) := by decide +kernel
theorem dX12_fault_173 : decode cX12_fault 173 = .ok (.if_icmp .eq 5, 3) := by decide +kernel
theorem dX12_fault_176 : decode cX12_fault 176 = .ok (.iload_n 3, 1) := by decide +kernel
theorem dX12_fault_177 : decode cX12_fault 177 = .ok (.ireturn, 1) := by decide +kernel
theorem dX12_fault_178 : decode cX12_fault 178 = .ok (.iinc 3 1, 3) := by decide +kernel
theorem dX12_fault_181 : decode cX12_fault 181 = .ok (.goto (-161), 3) := by decide +kernel
theorem dX12_fault_184 : decode cX12_fault 184 = .ok (.aload_n 0, 1) := by decide +kernel
theorem dX12_fault_185 : decode cX12_fault 185 = .ok (.iload_n 1, 1) := by decide +kernel
theorem dX12_fault_186 : decode cX12_fault 186 = .ok (.iconst 1, 1) := by decide +kernel
theorem dX12_fault_187 : decode cX12_fault 187 = .ok (.iadd, 1) := by decide +kernel
theorem dX12_fault_188 : decode cX12_fault 188 = .ok (.putfield 147, 3) := by decide +kernel
theorem dX12_fault_191 : decode cX12_fault 191 = .ok (.iload_n 2, 1) := by decide +kernel
theorem dX12_fault_192 : decode cX12_fault 192 = .ok (.iconst 1, 1) := by decide +kernel
theorem dX12_fault_193 : decode cX12_fault 193 = .ok (.if_icmp .ne 7, 3) := by decide +kernel
theorem dX12_fault_196 : decode cX12_fault 196 = .ok (.iconst (-1), 1) := by decide +kernel
theorem dX12_fault_197 : decode cX12_fault 197 = .ok (.goto 7, 3) := by decide +kernel
theorem dX12_fault_200 : decode cX12_fault 200 = .ok (.aload_n 0, 1) := by decide +kernel
theorem dX12_fault_201 : decode cX12_fault 201 = .ok (.getfield 137, 3) := by decide +kernel
theorem dX12_fault_204 : decode cX12_fault 204 = .ok (.ireturn, 1) := by decide +kernel
theorem dX12_take_0 : decode cX12_take 0 = .ok (.aload_n 0, 1) := by decide +kernel
theorem dX12_take_1 : decode cX12_take 1 = .ok (.invokevirtual 150, 3) := by decide +kernel
theorem dX12_take_4 : decode cX12_take 4 = .ok (.iconst (-1), 1) := by decide +kernel
theorem dX12_take_5 : decode cX12_take 5 = .ok (.if_icmp .eq 6, 3) := by decide +kernel
theorem dX12_take_8 : decode cX12_take 8 = .ok (.bipush (-4), 2) := by decide +kernel
theorem dX12_take_10 : decode cX12_take 10 = .ok (.ireturn, 1) := by decide +kernel
theorem dX12_take_11 : decode cX12_take 11 = .ok (.aload_n 0, 1) := by decide +kernel
theorem dX12_take_12 : decode cX12_take 12 = .ok (.aload_n 0, 1) := by decide +kernel
theorem dX12_take_13 : decode cX12_take 13 = .ok (.getfield 147, 3) := by decide +kernel
theorem dX12_take_16 : decode cX12_take 16 = .ok (.putfield 154, 3) := by decide +kernel
theorem dX12_take_19 : decode cX12_take 19 = .ok (.iconst 0, 1) := by decide +kernel
theorem dX12_take_20 : decode cX12_take 20 = .ok (.istore_n 1, 1) := by decide +kernel
theorem dX12_take_21 : decode cX12_take 21 = .ok (.iload_n 1, 1) := by decide +kernel
theorem dX12_take_22 : decode cX12_take 22 = .ok (.iconst 2, 1) := by decide +kernel
theorem dX12_take_23 : decode cX12_take 23 = .ok (.aload_n 0, 1) := by decide +kernel
theorem dX12_take_24 : decode cX12_take 24 = .ok (.getfield 154, 3) := by decide +kernel
theorem dX12_take_27 : decode cX12_take 27 = .ok (.imul, 1) := by decide +kernel
theorem dX12_take_28 : decode cX12_take 28 = .ok (.if_icmp .ge 61, 3) := by decide +kernel
theorem dX12_take_31 : decode cX12_take 31 = .ok (.aload_n 0, 1) := by decide +kernel
theorem dX12_take_32 : decode cX12_take 32 = .ok (.getfield 16, 3) := by decide +kernel
theorem dX12_take_35 : decode cX12_take 35 = .ok (.iload_n 1, 1) := by decide +kernel
theorem dX12_take_36 : decode cX12_take 36 = .ok (.aload_n 0, 1) := by decide +kernel
theorem dX12_take_37 : decode cX12_take 37 = .ok (.getfield 55, 3) := by decide +kernel
theorem dX12_take_40 : decode cX12_take 40 = .ok (.iload_n 1, 1) := by decide +kernel
theorem dX12_take_41 : decode cX12_take 41 = .ok (.iaload, 1) := by decide +kernel
theorem dX12_take_42 : decode cX12_take 42 = .ok (.iastore, 1) := by decide +kernel
theorem dX12_take_43 : decode cX12_take 43 = .ok (.iconst 0, 1) := by decide +kernel
theorem dX12_take_44 : decode cX12_take 44 = .ok (.istore_n 2, 1) := by decide +kernel
theorem dX12_take_45 : decode cX12_take 45 = .ok (.iload_n 2, 1) := by decide +kernel
theorem dX12_take_46 : decode cX12_take 46 = .ok (.aload_n 0, 1) := by decide +kernel
theorem dX12_take_47 : decode cX12_take 47 = .ok (.getfield 55, 3) := by decide +kernel
theorem dX12_take_50 : decode cX12_take 50 = .ok (.iload_n 1, 1) := by decide +kernel
theorem dX12_take_51 : decode cX12_take 51 = .ok (.iaload, 1) := by decide +kernel
theorem dX12_take_52 : decode cX12_take 52 = .ok (.if_icmp .ge 31, 3) := by decide +kernel
theorem dX12_take_55 : decode cX12_take 55 = .ok (.aload_n 0, 1) := by decide +kernel
theorem dX12_take_56 : decode cX12_take 56 = .ok (.getfield 13, 3) := by decide +kernel
theorem dX12_take_59 : decode cX12_take 59 = .ok (.bipush 12, 2) := by decide +kernel
theorem dX12_take_61 : decode cX12_take 61 = .ok (.iload_n 1, 1) := by decide +kernel
theorem dX12_take_62 : decode cX12_take 62 = .ok (.imul, 1) := by decide +kernel
theorem dX12_take_63 : decode cX12_take 63 = .ok (.iload_n 2, 1) := by decide +kernel
theorem dX12_take_64 : decode cX12_take 64 = .ok (.iadd, 1) := by decide +kernel
theorem dX12_take_65 : decode cX12_take 65 = .ok (.aload_n 0, 1) := by decide +kernel
theorem dX12_take_66 : decode cX12_take 66 = .ok (.getfield 52, 3) := by decide +kernel
theorem dX12_take_69 : decode cX12_take 69 = .ok (.bipush 12, 2) := by decide +kernel
theorem dX12_take_71 : decode cX12_take 71 = .ok (.iload_n 1, 1) := by decide +kernel
theorem dX12_take_72 : decode cX12_take 72 = .ok (.imul, 1) := by decide +kernel
theorem dX12_take_73 : decode cX12_take 73 = .ok (.iload_n 2, 1) := by decide +kernel
theorem dX12_take_74 : decode cX12_take 74 = .ok (.iadd, 1) := by decide +kernel
theorem dX12_take_75 : decode cX12_take 75 = .ok (.iaload, 1) := by decide +kernel
theorem dX12_take_76 : decode cX12_take 76 = .ok (.iastore, 1) := by decide +kernel
theorem dX12_take_77 : decode cX12_take 77 = .ok (.iinc 2 1, 3) := by decide +kernel
theorem dX12_take_80 : decode cX12_take 80 = .ok (.goto (-35), 3) := by decide +kernel
theorem dX12_take_83 : decode cX12_take 83 = .ok (.iinc 1 1, 3) := by decide +kernel
theorem dX12_take_86 : decode cX12_take 86 = .ok (.goto (-65), 3) := by decide +kernel
theorem dX12_take_89 : decode cX12_take 89 = .ok (.aload_n 0, 1) := by decide +kernel
theorem dX12_take_90 : decode cX12_take 90 = .ok (.iconst 0, 1) := by decide +kernel
theorem dX12_take_91 : decode cX12_take 91 = .ok (.putfield 137, 3) := by decide +kernel
theorem dX12_take_94 : decode cX12_take 94 = .ok (.aload_n 0, 1) := by decide +kernel
theorem dX12_take_95 : decode cX12_take 95 = .ok (.getfield 154, 3) := by decide +kernel
theorem dX12_take_98 : decode cX12_take 98 = .ok (.ireturn, 1) := by decide +kernel
theorem dX12_isEquation_0 : decode cX12_isEquation 0 = .ok (.iload_n 1, 1) := by decide +kernel
theorem dX12_isEquation_1 : decode cX12_isEquation 1 = .ok (.i2l, 1) := by decide +kernel
theorem dX12_isEquation_2 : decode cX12_isEquation 2 = .ok (.lconst 0, 1) := by decide +kernel
theorem dX12_isEquation_3 : decode cX12_isEquation 3 = .ok (.aload_n 0, 1) := by decide +kernel
theorem dX12_isEquation_4 : decode cX12_isEquation 4 = .ok (.getfield 154, 3) := by decide +kernel
theorem dX12_isEquation_7 : decode cX12_isEquation 7 = .ok (.iconst 1, 1) := by decide +kernel
theorem dX12_isEquation_8 : decode cX12_isEquation 8 = .ok (.isub, 1) := by decide +kernel
theorem dX12_isEquation_9 : decode cX12_isEquation 9 = .ok (.i2l, 1) := by decide +kernel
theorem dX12_isEquation_10 : decode cX12_isEquation 10 = .ok (.invokestatic 131, 3) := by decide +kernel
theorem dX12_isEquation_13 : decode cX12_isEquation 13 = .ok (.ireturn, 1) := by decide +kernel
theorem dX12_item_0 : decode cX12_item 0 = .ok (.aload_n 0, 1) := by decide +kernel
theorem dX12_item_1 : decode cX12_item 1 = .ok (.iload_n 1, 1) := by decide +kernel
theorem dX12_item_2 : decode cX12_item 2 = .ok (.invokevirtual 157, 3) := by decide +kernel
theorem dX12_item_5 : decode cX12_item 5 = .ok (.ifCond .ne 6, 3) := by decide +kernel
theorem dX12_item_8 : decode cX12_item 8 = .ok (.bipush (-2), 2) := by decide +kernel
theorem dX12_item_10 : decode cX12_item 10 = .ok (.ireturn, 1) := by decide +kernel
theorem dX12_item_11 : decode cX12_item 11 = .ok (.iload_n 2, 1) := by decide +kernel
theorem dX12_item_12 : decode cX12_item 12 = .ok (.i2l, 1) := by decide +kernel
theorem dX12_item_13 : decode cX12_item 13 = .ok (.lconst 0, 1) := by decide +kernel
theorem dX12_item_14 : decode cX12_item 14 = .ok (.lconst 1, 1) := by decide +kernel
theorem dX12_item_15 : decode cX12_item 15 = .ok (.invokestatic 131, 3) := by decide +kernel
theorem dX12_item_18 : decode cX12_item 18 = .ok (.ifCond .eq 7, 3) := by decide +kernel
theorem dX12_item_21 : decode cX12_item 21 = .ok (.iload_n 3, 1) := by decide +kernel
theorem dX12_item_22 : decode cX12_item 22 = .ok (.ifCond .ge 6, 3) := by decide +kernel
theorem dX12_item_25 : decode cX12_item 25 = .ok (.bipush (-3), 2) := by decide +kernel
theorem dX12_item_27 : decode cX12_item 27 = .ok (.ireturn, 1) := by decide +kernel
theorem dX12_item_28 : decode cX12_item 28 = .ok (.iload_n 3, 1) := by decide +kernel
theorem dX12_item_29 : decode cX12_item 29 = .ok (.aload_n 0, 1) := by decide +kernel
theorem dX12_item_30 : decode cX12_item 30 = .ok (.getfield 16, 3) := by decide +kernel
theorem dX12_item_33 : decode cX12_item 33 = .ok (.iconst 2, 1) := by decide +kernel
theorem dX12_item_34 : decode cX12_item 34 = .ok (.iload_n 1, 1) := by decide +kernel
theorem dX12_item_35 : decode cX12_item 35 = .ok (.imul, 1) := by decide +kernel
theorem dX12_item_36 : decode cX12_item 36 = .ok (.iload_n 2, 1) := by decide +kernel
theorem dX12_item_37 : decode cX12_item 37 = .ok (.iadd, 1) := by decide +kernel
theorem dX12_item_38 : decode cX12_item 38 = .ok (.iaload, 1) := by decide +kernel
theorem dX12_item_39 : decode cX12_item 39 = .ok (.if_icmp .ge 21, 3) := by decide +kernel
theorem dX12_item_42 : decode cX12_item 42 = .ok (.aload_n 0, 1) := by decide +kernel
theorem dX12_item_43 : decode cX12_item 43 = .ok (.getfield 13, 3) := by decide +kernel
theorem dX12_item_46 : decode cX12_item 46 = .ok (.bipush 12, 2) := by decide +kernel
theorem dX12_item_48 : decode cX12_item 48 = .ok (.iconst 2, 1) := by decide +kernel
theorem dX12_item_49 : decode cX12_item 49 = .ok (.iload_n 1, 1) := by decide +kernel
theorem dX12_item_50 : decode cX12_item 50 = .ok (.imul, 1) := by decide +kernel
theorem dX12_item_51 : decode cX12_item 51 = .ok (.iload_n 2, 1) := by decide +kernel
theorem dX12_item_52 : decode cX12_item 52 = .ok (.iadd, 1) := by decide +kernel
theorem dX12_item_53 : decode cX12_item 53 = .ok (.imul, 1) := by decide +kernel
theorem dX12_item_54 : decode cX12_item 54 = .ok (.iload_n 3, 1) := by decide +kernel
theorem dX12_item_55 : decode cX12_item 55 = .ok (.iadd, 1) := by decide +kernel
theorem dX12_item_56 : decode cX12_item 56 = .ok (.iaload, 1) := by decide +kernel
theorem dX12_item_57 : decode cX12_item 57 = .ok (.goto 4, 3) := by decide +kernel
theorem dX12_item_60 : decode cX12_item 60 = .ok (.iconst (-1), 1) := by decide +kernel
theorem dX12_item_61 : decode cX12_item 61 = .ok (.ireturn, 1) := by decide +kernel
theorem dX12_bounds_0 : decode cX12_bounds 0 = .ok (.iload_n 1, 1) := by decide +kernel
theorem dX12_bounds_1 : decode cX12_bounds 1 = .ok (.invokestatic 161, 3) := by decide +kernel
theorem dX12_bounds_4 : decode cX12_bounds 4 = .ok (.ifCond .ne 6, 3) := by decide +kernel
theorem dX12_bounds_7 : decode cX12_bounds 7 = .ok (.bipush (-2), 2) := by decide +kernel
theorem dX12_bounds_9 : decode cX12_bounds 9 = .ok (.ireturn, 1) := by decide +kernel
theorem dX12_bounds_10 : decode cX12_bounds 10 = .ok (.iload_n 2, 1) := by decide +kernel
theorem dX12_bounds_11 : decode cX12_bounds 11 = .ok (.i2l, 1) := by decide +kernel
theorem dX12_bounds_12 : decode cX12_bounds 12 = .ok (.lconst 0, 1) := by decide +kernel
theorem dX12_bounds_13 : decode cX12_bounds 13 = .ok (.ldc2_w 135, 3) := by decide +kernel
theorem dX12_bounds_16 : decode cX12_bounds 16 = .ok (.invokestatic 131, 3) := by decide +kernel
theorem dX12_bounds_19 : decode cX12_bounds 19 = .ok (.ifCond .eq 29, 3) := by decide +kernel
theorem dX12_bounds_22 : decode cX12_bounds 22 = .ok (.iload_n 3, 1) := by decide +kernel
theorem dX12_bounds_23 : decode cX12_bounds 23 = .ok (.i2l, 1) := by decide +kernel
theorem dX12_bounds_24 : decode cX12_bounds 24 = .ok (.iload_n 2, 1) := by decide +kernel
theorem dX12_bounds_25 : decode cX12_bounds 25 = .ok (.i2l, 1) := by decide +kernel
theorem dX12_bounds_26 : decode cX12_bounds 26 = .ok (.ldc2_w 135, 3) := by decide +kernel
theorem dX12_bounds_29 : decode cX12_bounds 29 = .ok (.invokestatic 131, 3) := by decide +kernel
theorem dX12_bounds_32 : decode cX12_bounds 32 = .ok (.ifCond .eq 16, 3) := by decide +kernel
theorem dX12_bounds_35 : decode cX12_bounds 35 = .ok (.iload 4, 2) := by decide +kernel
theorem dX12_bounds_37 : decode cX12_bounds 37 = .ok (.i2l, 1) := by decide +kernel
theorem dX12_bounds_38 : decode cX12_bounds 38 = .ok (.lconst 0, 1) := by decide +kernel
theorem dX12_bounds_39 : decode cX12_bounds 39 = .ok (.ldc2_w 164, 3) := by decide +kernel
theorem dX12_bounds_42 : decode cX12_bounds 42 = .ok (.invokestatic 131, 3) := by decide +kernel
theorem dX12_bounds_45 : decode cX12_bounds 45 = .ok (.ifCond .ne 6, 3) := by decide +kernel
theorem dX12_bounds_48 : decode cX12_bounds 48 = .ok (.bipush (-3), 2) := by decide +kernel
theorem dX12_bounds_50 : decode cX12_bounds 50 = .ok (.ireturn, 1) := by decide +kernel
theorem dX12_bounds_51 : decode cX12_bounds 51 = .ok (.aload_n 0, 1) := by decide +kernel
theorem dX12_bounds_52 : decode cX12_bounds 52 = .ok (.getfield 19, 3) := by decide +kernel
theorem dX12_bounds_55 : decode cX12_bounds 55 = .ok (.iload_n 1, 1) := by decide +kernel
theorem dX12_bounds_56 : decode cX12_bounds 56 = .ok (.iload_n 2, 1) := by decide +kernel
theorem dX12_bounds_57 : decode cX12_bounds 57 = .ok (.iastore, 1) := by decide +kernel
theorem dX12_bounds_58 : decode cX12_bounds 58 = .ok (.aload_n 0, 1) := by decide +kernel
theorem dX12_bounds_59 : decode cX12_bounds 59 = .ok (.getfield 22, 3) := by decide +kernel
theorem dX12_bounds_62 : decode cX12_bounds 62 = .ok (.iload_n 1, 1) := by decide +kernel
theorem dX12_bounds_63 : decode cX12_bounds 63 = .ok (.iload_n 3, 1) := by decide +kernel
theorem dX12_bounds_64 : decode cX12_bounds 64 = .ok (.iastore, 1) := by decide +kernel
theorem dX12_bounds_65 : decode cX12_bounds 65 = .ok (.aload_n 0, 1) := by decide +kernel
theorem dX12_bounds_66 : decode cX12_bounds 66 = .ok (.getfield 25, 3) := by decide +kernel
theorem dX12_bounds_69 : decode cX12_bounds 69 = .ok (.iload_n 1, 1) := by decide +kernel
theorem dX12_bounds_70 : decode cX12_bounds 70 = .ok (.iload 4, 2) := by decide +kernel
theorem dX12_bounds_72 : decode cX12_bounds 72 = .ok (.iastore, 1) := by decide +kernel
theorem dX12_bounds_73 : decode cX12_bounds 73 = .ok (.iconst 1, 1) := by decide +kernel
theorem dX12_bounds_74 : decode cX12_bounds 74 = .ok (.ireturn, 1) := by decide +kernel
theorem dX12_usedNames_0 : decode cX12_usedNames 0 = .ok (.iconst 0, 1) := by decide +kernel
theorem dX12_usedNames_1 : decode cX12_usedNames 1 = .ok (.istore_n 1, 1) := by decide +kernel
theorem dX12_usedNames_2 : decode cX12_usedNames 2 = .ok (.iconst 0, 1) := by decide +kernel
theorem dX12_usedNames_3 : decode cX12_usedNames 3 = .ok (.istore_n 2, 1) := by decide +kernel
theorem dX12_usedNames_4 : decode cX12_usedNames 4 = .ok (.iload_n 2, 1) := by decide +kernel
theorem dX12_usedNames_5 : decode cX12_usedNames 5 = .ok (.iconst 2, 1) := by decide +kernel
theorem dX12_usedNames_6 : decode cX12_usedNames 6 = .ok (.aload_n 0, 1) := by decide +kernel
theorem dX12_usedNames_7 : decode cX12_usedNames 7 = .ok (.getfield 154, 3) := by decide +kernel
theorem dX12_usedNames_10 : decode cX12_usedNames 10 = .ok (.imul, 1) := by decide +kernel
theorem dX12_usedNames_11 : decode cX12_usedNames 11 = .ok (.if_icmp .ge 59, 3) := by decide +kernel
theorem dX12_usedNames_14 : decode cX12_usedNames 14 = .ok (.iconst 0, 1) := by decide +kernel
theorem dX12_usedNames_15 : decode cX12_usedNames 15 = .ok (.istore_n 3, 1) := by decide +kernel
theorem dX12_usedNames_16 : decode cX12_usedNames 16 = .ok (.iload_n 3, 1) := by decide +kernel
theorem dX12_usedNames_17 : decode cX12_usedNames 17 = .ok (.aload_n 0, 1) := by decide +kernel
theorem dX12_usedNames_18 : decode cX12_usedNames 18 = .ok (.getfield 16, 3) := by decide +kernel
theorem dX12_usedNames_21 : decode cX12_usedNames 21 = .ok (.iload_n 2, 1) := by decide +kernel
theorem dX12_usedNames_22 : decode cX12_usedNames 22 = .ok (.iaload, 1) := by decide +kernel
theorem dX12_usedNames_23 : decode cX12_usedNames 23 = .ok (.if_icmp .ge 41, 3) := by decide +kernel
theorem dX12_usedNames_26 : decode cX12_usedNames 26 = .ok (.aload_n 0, 1) := by decide +kernel
theorem dX12_usedNames_27 : decode cX12_usedNames 27 = .ok (.getfield 13, 3) := by decide +kernel
theorem dX12_usedNames_30 : decode cX12_usedNames 30 = .ok (.bipush 12, 2) := by decide +kernel
theorem dX12_usedNames_32 : decode cX12_usedNames 32 = .ok (.iload_n 2, 1) := by decide +kernel
theorem dX12_usedNames_33 : decode cX12_usedNames 33 = .ok (.imul, 1) := by decide +kernel
theorem dX12_usedNames_34 : decode cX12_usedNames 34 = .ok (.iload_n 3, 1) := by decide +kernel
theorem dX12_usedNames_35 : decode cX12_usedNames 35 = .ok (.iadd, 1) := by decide +kernel
theorem dX12_usedNames_36 : decode cX12_usedNames 36 = .ok (.iaload, 1) := by decide +kernel
theorem dX12_usedNames_37 : decode cX12_usedNames 37 = .ok (.istore 4, 2) := by decide +kernel
theorem dX12_usedNames_39 : decode cX12_usedNames 39 = .ok (.iload_n 1, 1) := by decide +kernel
theorem dX12_usedNames_40 : decode cX12_usedNames 40 = .ok (.iload 4, 2) := by decide +kernel
theorem dX12_usedNames_42 : decode cX12_usedNames 42 = .ok (.iconst 3, 1) := by decide +kernel
theorem dX12_usedNames_43 : decode cX12_usedNames 43 = .ok (.if_icmp .le 12, 3) := by decide +kernel
theorem dX12_usedNames_46 : decode cX12_usedNames 46 = .ok (.iconst 1, 1) := by decide +kernel
theorem dX12_usedNames_47 : decode cX12_usedNames 47 = .ok (.iload 4, 2) := by decide +kernel
theorem dX12_usedNames_49 : decode cX12_usedNames 49 = .ok (.iconst 4, 1) := by decide +kernel
theorem dX12_usedNames_50 : decode cX12_usedNames 50 = .ok (.isub, 1) := by decide +kernel
theorem dX12_usedNames_51 : decode cX12_usedNames 51 = .ok (.ishl, 1) := by decide +kernel
theorem dX12_usedNames_52 : decode cX12_usedNames 52 = .ok (.goto 4, 3) := by decide +kernel
theorem dX12_usedNames_55 : decode cX12_usedNames 55 = .ok (.iconst 0, 1) := by decide +kernel
theorem dX12_usedNames_56 : decode cX12_usedNames 56 = .ok (.ior, 1) := by decide +kernel
theorem dX12_usedNames_57 : decode cX12_usedNames 57 = .ok (.istore_n 1, 1) := by decide +kernel
theorem dX12_usedNames_58 : decode cX12_usedNames 58 = .ok (.iinc 3 1, 3) := by decide +kernel
theorem dX12_usedNames_61 : decode cX12_usedNames 61 = .ok (.goto (-45), 3) := by decide +kernel
theorem dX12_usedNames_64 : decode cX12_usedNames 64 = .ok (.iinc 2 1, 3) := by decide +kernel
theorem dX12_usedNames_67 : decode cX12_usedNames 67 = .ok (.goto (-63), 3) := by decide +kernel
theorem dX12_usedNames_70 : decode cX12_usedNames 70 = .ok (.iload_n 1, 1) := by decide +kernel
theorem dX12_usedNames_71 : decode cX12_usedNames 71 = .ok (.ireturn, 1) := by decide +kernel
theorem dX12_leadOf_0 : decode cX12_leadOf 0 = .ok (.iload_n 1, 1) := by decide +kernel
theorem dX12_leadOf_1 : decode cX12_leadOf 1 = .ok (.istore_n 2, 1) := by decide +kernel
theorem dX12_leadOf_2 : decode cX12_leadOf 2 = .ok (.aload_n 0, 1) := by decide +kernel
theorem dX12_leadOf_3 : decode cX12_leadOf 3 = .ok (.getfield 64, 3) := by decide +kernel
theorem dX12_leadOf_6 : decode cX12_leadOf 6 = .ok (.iload_n 2, 1) := by decide +kernel
theorem dX12_leadOf_7 : decode cX12_leadOf 7 = .ok (.iaload, 1) := by decide +kernel
theorem dX12_leadOf_8 : decode cX12_leadOf 8 = .ok (.iload_n 2, 1) := by decide +kernel
theorem dX12_leadOf_9 : decode cX12_leadOf 9 = .ok (.if_icmp .eq 13, 3) := by decide +kernel
theorem dX12_leadOf_12 : decode cX12_leadOf 12 = .ok (.aload_n 0, 1) := by decide +kernel
theorem dX12_leadOf_13 : decode cX12_leadOf 13 = .ok (.getfield 64, 3) := by decide +kernel
theorem dX12_leadOf_16 : decode cX12_leadOf 16 = .ok (.iload_n 2, 1) := by decide +kernel
theorem dX12_leadOf_17 : decode cX12_leadOf 17 = .ok (.iaload, 1) := by decide +kernel
theorem dX12_leadOf_18 : decode cX12_leadOf 18 = .ok (.istore_n 2, 1) := by decide +kernel
theorem dX12_leadOf_19 : decode cX12_leadOf 19 = .ok (.goto (-17), 3) := by decide +kernel
theorem dX12_leadOf_22 : decode cX12_leadOf 22 = .ok (.iload_n 2, 1) := by decide +kernel
theorem dX12_leadOf_23 : decode cX12_leadOf 23 = .ok (.ireturn, 1) := by decide +kernel
theorem dX12_makeOne_0 : decode cX12_makeOne 0 = .ok (.aload_n 0, 1) := by decide +kernel
theorem dX12_makeOne_1 : decode cX12_makeOne 1 = .ok (.iload_n 1, 1) := by decide +kernel
theorem dX12_makeOne_2 : decode cX12_makeOne 2 = .ok (.invokevirtual 166, 3) := by decide +kernel
theorem dX12_makeOne_5 : decode cX12_makeOne 5 = .ok (.istore_n 3, 1) := by decide +kernel
theorem dX12_makeOne_6 : decode cX12_makeOne 6 = .ok (.aload_n 0, 1) := by decide +kernel
theorem dX12_makeOne_7 : decode cX12_makeOne 7 = .ok (.iload_n 2, 1) := by decide +kernel
theorem dX12_makeOne_8 : decode cX12_makeOne 8 = .ok (.invokevirtual 166, 3) := by decide +kernel
theorem dX12_makeOne_11 : decode cX12_makeOne 11 = .ok (.istore 4, 2) := by decide +kernel
theorem dX12_makeOne_13 : decode cX12_makeOne 13 = .ok (.aload_n 0, 1) := by decide +kernel
theorem dX12_makeOne_14 : decode cX12_makeOne 14 = .ok (.getfield 64, 3) := by decide +kernel
theorem dX12_makeOne_17 : decode cX12_makeOne 17 = .ok (.iload_n 3, 1) := by decide +kernel
theorem dX12_makeOne_18 : decode cX12_makeOne 18 = .ok (.iload 4, 2) := by decide +kernel
theorem dX12_makeOne_20 : decode cX12_makeOne 20 = .ok (.if_icmp .le 7, 3) := by decide +kernel
theorem dX12_makeOne_23 : decode cX12_makeOne 23 = .ok (.iload_n 3, 1) := by decide +kernel
theorem dX12_makeOne_24 : decode cX12_makeOne 24 = .ok (.goto 5, 3) := by decide +kernel
theorem dX12_makeOne_27 : decode cX12_makeOne 27 = .ok (.iload 4, 2) := by decide +kernel
theorem dX12_makeOne_29 : decode cX12_makeOne 29 = .ok (.iload_n 3, 1) := by decide +kernel
theorem dX12_makeOne_30 : decode cX12_makeOne 30 = .ok (.iload 4, 2) := by decide +kernel
theorem dX12_makeOne_32 : decode cX12_makeOne 32 = .ok (.if_icmp .le 8, 3) := by decide +kernel
theorem dX12_makeOne_35 : decode cX12_makeOne 35 = .ok (.iload 4, 2) := by decide +kernel
theorem dX12_makeOne_37 : decode cX12_makeOne 37 = .ok (.goto 4, 3) := by decide +kernel
theorem dX12_makeOne_40 : decode cX12_makeOne 40 = .ok (.iload_n 3, 1) := by decide +kernel
theorem dX12_makeOne_41 : decode cX12_makeOne 41 = .ok (.iastore, 1) := by decide +kernel
theorem dX12_makeOne_42 : decode cX12_makeOne 42 = .ok (.return_, 1) := by decide +kernel
theorem dX12_lengthOf_0 : decode cX12_lengthOf 0 = .ok (.iconst 0, 1) := by decide +kernel
theorem dX12_lengthOf_1 : decode cX12_lengthOf 1 = .ok (.istore_n 2, 1) := by decide +kernel
theorem dX12_lengthOf_2 : decode cX12_lengthOf 2 = .ok (.iconst 0, 1) := by decide +kernel
theorem dX12_lengthOf_3 : decode cX12_lengthOf 3 = .ok (.istore_n 3, 1) := by decide +kernel
theorem dX12_lengthOf_4 : decode cX12_lengthOf 4 = .ok (.iload_n 3, 1) := by decide +kernel
theorem dX12_lengthOf_5 : decode cX12_lengthOf 5 = .ok (.aload_n 0, 1) := by decide +kernel
theorem dX12_lengthOf_6 : decode cX12_lengthOf 6 = .ok (.getfield 16, 3) := by decide +kernel
theorem dX12_lengthOf_9 : decode cX12_lengthOf 9 = .ok (.iload_n 1, 1) := by decide +kernel
theorem dX12_lengthOf_10 : decode cX12_lengthOf 10 = .ok (.iaload, 1) := by decide +kernel
theorem dX12_lengthOf_11 : decode cX12_lengthOf 11 = .ok (.if_icmp .ge 44, 3) := by decide +kernel
theorem dX12_lengthOf_14 : decode cX12_lengthOf 14 = .ok (.aload_n 0, 1) := by decide +kernel
theorem dX12_lengthOf_15 : decode cX12_lengthOf 15 = .ok (.getfield 13, 3) := by decide +kernel
theorem dX12_lengthOf_18 : decode cX12_lengthOf 18 = .ok (.bipush 12, 2) := by decide +kernel
theorem dX12_lengthOf_20 : decode cX12_lengthOf 20 = .ok (.iload_n 1, 1) := by decide +kernel
theorem dX12_lengthOf_21 : decode cX12_lengthOf 21 = .ok (.imul, 1) := by decide +kernel
theorem dX12_lengthOf_22 : decode cX12_lengthOf 22 = .ok (.iload_n 3, 1) := by decide +kernel
theorem dX12_lengthOf_23 : decode cX12_lengthOf 23 = .ok (.iadd, 1) := by decide +kernel
theorem dX12_lengthOf_24 : decode cX12_lengthOf 24 = .ok (.iaload, 1) := by decide +kernel
theorem dX12_lengthOf_25 : decode cX12_lengthOf 25 = .ok (.istore 4, 2) := by decide +kernel
theorem dX12_lengthOf_27 : decode cX12_lengthOf 27 = .ok (.iload_n 2, 1) := by decide +kernel
theorem dX12_lengthOf_28 : decode cX12_lengthOf 28 = .ok (.iload 4, 2) := by decide +kernel
theorem dX12_lengthOf_30 : decode cX12_lengthOf 30 = .ok (.iconst 3, 1) := by decide +kernel
theorem dX12_lengthOf_31 : decode cX12_lengthOf 31 = .ok (.if_icmp .le 15, 3) := by decide +kernel
theorem dX12_lengthOf_34 : decode cX12_lengthOf 34 = .ok (.aload_n 0, 1) := by decide +kernel
theorem dX12_lengthOf_35 : decode cX12_lengthOf 35 = .ok (.getfield 58, 3) := by decide +kernel
theorem dX12_lengthOf_38 : decode cX12_lengthOf 38 = .ok (.iload 4, 2) := by decide +kernel
theorem dX12_lengthOf_40 : decode cX12_lengthOf 40 = .ok (.iconst 4, 1) := by decide +kernel
theorem dX12_lengthOf_41 : decode cX12_lengthOf 41 = .ok (.isub, 1) := by decide +kernel
theorem dX12_lengthOf_42 : decode cX12_lengthOf 42 = .ok (.iaload, 1) := by decide +kernel
theorem dX12_lengthOf_43 : decode cX12_lengthOf 43 = .ok (.goto 4, 3) := by decide +kernel
theorem dX12_lengthOf_46 : decode cX12_lengthOf 46 = .ok (.iconst 1, 1) := by decide +kernel
theorem dX12_lengthOf_47 : decode cX12_lengthOf 47 = .ok (.iadd, 1) := by decide +kernel
theorem dX12_lengthOf_48 : decode cX12_lengthOf 48 = .ok (.istore_n 2, 1) := by decide +kernel
theorem dX12_lengthOf_49 : decode cX12_lengthOf 49 = .ok (.iinc 3 1, 3) := by decide +kernel
theorem dX12_lengthOf_52 : decode cX12_lengthOf 52 = .ok (.goto (-48), 3) := by decide +kernel
theorem dX12_lengthOf_55 : decode cX12_lengthOf 55 = .ok (.iload_n 2, 1) := by decide +kernel
theorem dX12_lengthOf_56 : decode cX12_lengthOf 56 = .ok (.ireturn, 1) := by decide +kernel
theorem dX12_placeAt_0 : decode cX12_placeAt 0 = .ok (.iload_n 2, 1) := by decide +kernel
theorem dX12_placeAt_1 : decode cX12_placeAt 1 = .ok (.istore_n 3, 1) := by decide +kernel
theorem dX12_placeAt_2 : decode cX12_placeAt 2 = .ok (.iconst 0, 1) := by decide +kernel
theorem dX12_placeAt_3 : decode cX12_placeAt 3 = .ok (.istore 4, 2) := by decide +kernel
theorem dX12_placeAt_5 : decode cX12_placeAt 5 = .ok (.iconst 1, 1) := by decide +kernel
theorem dX12_placeAt_6 : decode cX12_placeAt 6 = .ok (.istore 5, 2) := by decide +kernel
theorem dX12_placeAt_8 : decode cX12_placeAt 8 = .ok (.iload 5, 2) := by decide +kernel
theorem dX12_placeAt_10 : decode cX12_placeAt 10 = .ok (.ifCond .eq 61, 3) := by decide +kernel
theorem dX12_placeAt_13 : decode cX12_placeAt 13 = .ok (.aload_n 0, 1) := by decide +kernel
theorem dX12_placeAt_14 : decode cX12_placeAt 14 = .ok (.getfield 13, 3) := by decide +kernel
theorem dX12_placeAt_17 : decode cX12_placeAt 17 = .ok (.bipush 12, 2) := by decide +kernel
theorem dX12_placeAt_19 : decode cX12_placeAt 19 = .ok (.iload_n 1, 1) := by decide +kernel
theorem dX12_placeAt_20 : decode cX12_placeAt 20 = .ok (.imul, 1) := by decide +kernel
theorem dX12_placeAt_21 : decode cX12_placeAt 21 = .ok (.iload 4, 2) := by decide +kernel
theorem dX12_placeAt_23 : decode cX12_placeAt 23 = .ok (.iadd, 1) := by decide +kernel
theorem dX12_placeAt_24 : decode cX12_placeAt 24 = .ok (.iaload, 1) := by decide +kernel
theorem dX12_placeAt_25 : decode cX12_placeAt 25 = .ok (.istore 6, 2) := by decide +kernel
theorem dX12_placeAt_27 : decode cX12_placeAt 27 = .ok (.iload 6, 2) := by decide +kernel
theorem dX12_placeAt_29 : decode cX12_placeAt 29 = .ok (.iconst 3, 1) := by decide +kernel
theorem dX12_placeAt_30 : decode cX12_placeAt 30 = .ok (.if_icmp .le 15, 3) := by decide +kernel
theorem dX12_placeAt_33 : decode cX12_placeAt 33 = .ok (.aload_n 0, 1) := by decide +kernel
theorem dX12_placeAt_34 : decode cX12_placeAt 34 = .ok (.getfield 58, 3) := by decide +kernel
theorem dX12_placeAt_37 : decode cX12_placeAt 37 = .ok (.iload 6, 2) := by decide +kernel
theorem dX12_placeAt_39 : decode cX12_placeAt 39 = .ok (.iconst 4, 1) := by decide +kernel
theorem dX12_placeAt_40 : decode cX12_placeAt 40 = .ok (.isub, 1) := by decide +kernel
theorem dX12_placeAt_41 : decode cX12_placeAt 41 = .ok (.iaload, 1) := by decide +kernel
theorem dX12_placeAt_42 : decode cX12_placeAt 42 = .ok (.goto 4, 3) := by decide +kernel
theorem dX12_placeAt_45 : decode cX12_placeAt 45 = .ok (.iconst 1, 1) := by decide +kernel
theorem dX12_placeAt_46 : decode cX12_placeAt 46 = .ok (.istore 7, 2) := by decide +kernel
theorem dX12_placeAt_48 : decode cX12_placeAt 48 = .ok (.iload_n 3, 1) := by decide +kernel
theorem dX12_placeAt_49 : decode cX12_placeAt 49 = .ok (.iload 7, 2) := by decide +kernel
theorem dX12_placeAt_51 : decode cX12_placeAt 51 = .ok (.if_icmp .ge 9, 3) := by decide +kernel
theorem dX12_placeAt_54 : decode cX12_placeAt 54 = .ok (.iconst 0, 1) := by decide +kernel
theorem dX12_placeAt_55 : decode cX12_placeAt 55 = .ok (.istore 5, 2) := by decide +kernel
theorem dX12_placeAt_57 : decode cX12_placeAt 57 = .ok (.goto 11, 3) := by decide +kernel
theorem dX12_placeAt_60 : decode cX12_placeAt 60 = .ok (.iload_n 3, 1) := by decide +kernel
theorem dX12_placeAt_61 : decode cX12_placeAt 61 = .ok (.iload 7, 2) := by decide +kernel
theorem dX12_placeAt_63 : decode cX12_placeAt 63 = .ok (.isub, 1) := by decide +kernel
theorem dX12_placeAt_64 : decode cX12_placeAt 64 = .ok (.istore_n 3, 1) := by decide +kernel
theorem dX12_placeAt_65 : decode cX12_placeAt 65 = .ok (.iinc 4 1, 3) := by decide +kernel
theorem dX12_placeAt_68 : decode cX12_placeAt 68 = .ok (.goto (-60), 3) := by decide +kernel
theorem dX12_placeAt_71 : decode cX12_placeAt 71 = .ok (.aload_n 0, 1) := by decide +kernel
theorem dX12_placeAt_72 : decode cX12_placeAt 72 = .ok (.getfield 13, 3) := by decide +kernel
theorem dX12_placeAt_75 : decode cX12_placeAt 75 = .ok (.bipush 12, 2) := by decide +kernel
theorem dX12_placeAt_77 : decode cX12_placeAt 77 = .ok (.iload_n 1, 1) := by decide +kernel
theorem dX12_placeAt_78 : decode cX12_placeAt 78 = .ok (.imul, 1) := by decide +kernel
theorem dX12_placeAt_79 : decode cX12_placeAt 79 = .ok (.iload 4, 2) := by decide +kernel
theorem dX12_placeAt_81 : decode cX12_placeAt 81 = .ok (.iadd, 1) := by decide +kernel
theorem dX12_placeAt_82 : decode cX12_placeAt 82 = .ok (.iaload, 1) := by decide +kernel
theorem dX12_placeAt_83 : decode cX12_placeAt 83 = .ok (.istore 6, 2) := by decide +kernel
theorem dX12_placeAt_85 : decode cX12_placeAt 85 = .ok (.iload 6, 2) := by decide +kernel
theorem dX12_placeAt_87 : decode cX12_placeAt 87 = .ok (.iconst 3, 1) := by decide +kernel
theorem dX12_placeAt_88 : decode cX12_placeAt 88 = .ok (.if_icmp .le 17, 3) := by decide +kernel
theorem dX12_placeAt_91 : decode cX12_placeAt 91 = .ok (.aload_n 0, 1) := by decide +kernel
theorem dX12_placeAt_92 : decode cX12_placeAt 92 = .ok (.getfield 61, 3) := by decide +kernel
theorem dX12_placeAt_95 : decode cX12_placeAt 95 = .ok (.iload 6, 2) := by decide +kernel
theorem dX12_placeAt_97 : decode cX12_placeAt 97 = .ok (.iconst 4, 1) := by decide +kernel
theorem dX12_placeAt_98 : decode cX12_placeAt 98 = .ok (.isub, 1) := by decide +kernel
theorem dX12_placeAt_99 : decode cX12_placeAt 99 = .ok (.iaload, 1) := by decide +kernel
theorem dX12_placeAt_100 : decode cX12_placeAt 100 = .ok (.iload_n 3, 1) := by decide +kernel
theorem dX12_placeAt_101 : decode cX12_placeAt 101 = .ok (.iadd, 1) := by decide +kernel
theorem dX12_placeAt_102 : decode cX12_placeAt 102 = .ok (.goto 8, 3) := by decide +kernel
theorem dX12_placeAt_105 : decode cX12_placeAt 105 = .ok (.bipush 32, 2) := by decide +kernel
theorem dX12_placeAt_107 : decode cX12_placeAt 107 = .ok (.iload 6, 2) := by decide +kernel
theorem dX12_placeAt_109 : decode cX12_placeAt 109 = .ok (.iadd, 1) := by decide +kernel
theorem dX12_placeAt_110 : decode cX12_placeAt 110 = .ok (.ireturn, 1) := by decide +kernel
theorem dX12_waysNow_0 : decode cX12_waysNow 0 = .ok (.aload_n 0, 1) := by decide +kernel
theorem dX12_waysNow_1 : decode cX12_waysNow 1 = .ok (.invokevirtual 169, 3) := by decide +kernel
theorem dX12_waysNow_4 : decode cX12_waysNow 4 = .ok (.istore_n 1, 1) := by decide +kernel
theorem dX12_waysNow_5 : decode cX12_waysNow 5 = .ok (.aload_n 0, 1) := by decide +kernel
theorem dX12_waysNow_6 : decode cX12_waysNow 6 = .ok (.iconst 0, 1) := by decide +kernel
theorem dX12_waysNow_7 : decode cX12_waysNow 7 = .ok (.putfield 172, 3) := by decide +kernel
theorem dX12_waysNow_10 : decode cX12_waysNow 10 = .ok (.iconst 0, 1) := by decide +kernel
theorem dX12_waysNow_11 : decode cX12_waysNow 11 = .ok (.istore_n 2, 1) := by decide +kernel
theorem dX12_waysNow_12 : decode cX12_waysNow 12 = .ok (.iload_n 2, 1) := by decide +kernel
theorem dX12_waysNow_13 : decode cX12_waysNow 13 = .ok (.iconst 4, 1) := by decide +kernel
theorem dX12_waysNow_14 : decode cX12_waysNow 14 = .ok (.if_icmp .ge 83, 3) := by decide +kernel
theorem dX12_waysNow_17 : decode cX12_waysNow 17 = .ok (.aload_n 0, 1) := by decide +kernel
theorem dX12_waysNow_18 : decode cX12_waysNow 18 = .ok (.getfield 58, 3) := by decide +kernel
theorem dX12_waysNow_21 : decode cX12_waysNow 21 = .ok (.iload_n 2, 1) := by decide +kernel
theorem dX12_waysNow_22 : decode cX12_waysNow 22 = .ok (.iaload, 1) := by decide +kernel
theorem dX12_waysNow_23 : decode cX12_waysNow 23 = .ok (.aload_n 0, 1) := by decide +kernel
theorem dX12_waysNow_24 : decode cX12_waysNow 24 = .ok (.getfield 19, 3) := by decide +kernel
theorem dX12_waysNow_27 : decode cX12_waysNow 27 = .ok (.iload_n 2, 1) := by decide +kernel
theorem dX12_waysNow_28 : decode cX12_waysNow 28 = .ok (.iaload, 1) := by decide +kernel
theorem dX12_waysNow_29 : decode cX12_waysNow 29 = .ok (.if_icmp .lt 35, 3) := by decide +kernel
theorem dX12_waysNow_32 : decode cX12_waysNow 32 = .ok (.aload_n 0, 1) := by decide +kernel
theorem dX12_waysNow_33 : decode cX12_waysNow 33 = .ok (.getfield 58, 3) := by decide +kernel
theorem dX12_waysNow_36 : decode cX12_waysNow 36 = .ok (.iload_n 2, 1) := by decide +kernel
theorem dX12_waysNow_37 : decode cX12_waysNow 37 = .ok (.iaload, 1) := by decide +kernel
theorem dX12_waysNow_38 : decode cX12_waysNow 38 = .ok (.aload_n 0, 1) := by decide +kernel
theorem dX12_waysNow_39 : decode cX12_waysNow 39 = .ok (.getfield 22, 3) := by decide +kernel
theorem dX12_waysNow_42 : decode cX12_waysNow 42 = .ok (.iload_n 2, 1) := by decide +kernel
theorem dX12_waysNow_43 : decode cX12_waysNow 43 = .ok (.iaload, 1) := by decide +kernel
theorem dX12_waysNow_44 : decode cX12_waysNow 44 = .ok (.if_icmp .gt 20, 3) := by decide +kernel
theorem dX12_waysNow_47 : decode cX12_waysNow 47 = .ok (.aload_n 0, 1) := by decide +kernel
theorem dX12_waysNow_48 : decode cX12_waysNow 48 = .ok (.getfield 58, 3) := by decide +kernel
theorem dX12_waysNow_51 : decode cX12_waysNow 51 = .ok (.iload_n 2, 1) := by decide +kernel
theorem dX12_waysNow_52 : decode cX12_waysNow 52 = .ok (.iaload, 1) := by decide +kernel
theorem dX12_waysNow_53 : decode cX12_waysNow 53 = .ok (.ifCond .le 13, 3) := by decide +kernel
theorem dX12_waysNow_56 : decode cX12_waysNow 56 = .ok (.iload_n 1, 1) := by decide +kernel
theorem dX12_waysNow_57 : decode cX12_waysNow 57 = .ok (.iload_n 2, 1) := by decide +kernel
theorem dX12_waysNow_58 : decode cX12_waysNow 58 = .ok (.ishr, 1) := by decide +kernel
theorem dX12_waysNow_59 : decode cX12_waysNow 59 = .ok (.iconst 1, 1) := by decide +kernel
theorem dX12_waysNow_60 : decode cX12_waysNow 60 = .ok (.iand, 1) := by decide +kernel
theorem dX12_waysNow_61 : decode cX12_waysNow 61 = .ok (.ifCond .ne 5, 3) := by decide +kernel
theorem dX12_waysNow_64 : decode cX12_waysNow 64 = .ok (.lconst 0, 1) := by decide +kernel
theorem dX12_waysNow_65 : decode cX12_waysNow 65 = .ok (.lreturn, 1) := by decide +kernel
theorem dX12_waysNow_66 : decode cX12_waysNow 66 = .ok (.aload_n 0, 1) := by decide +kernel
theorem dX12_waysNow_67 : decode cX12_waysNow 67 = .ok (.getfield 61, 3) := by decide +kernel
theorem dX12_waysNow_70 : decode cX12_waysNow 70 = .ok (.iload_n 2, 1) := by decide +kernel
theorem dX12_waysNow_71 : decode cX12_waysNow 71 = .ok (.aload_n 0, 1) := by decide +kernel
theorem dX12_waysNow_72 : decode cX12_waysNow 72 = .ok (.getfield 172, 3) := by decide +kernel
theorem dX12_waysNow_75 : decode cX12_waysNow 75 = .ok (.iastore, 1) := by decide +kernel
theorem dX12_waysNow_76 : decode cX12_waysNow 76 = .ok (.aload_n 0, 1) := by decide +kernel
theorem dX12_waysNow_77 : decode cX12_waysNow 77 = .ok (.dup, 1) := by decide +kernel
theorem dX12_waysNow_78 : decode cX12_waysNow 78 = .ok (.getfield 172, 3) := by decide +kernel
theorem dX12_waysNow_81 : decode cX12_waysNow 81 = .ok (.aload_n 0, 1) := by decide +kernel
theorem dX12_waysNow_82 : decode cX12_waysNow 82 = .ok (.getfield 58, 3) := by decide +kernel
theorem dX12_waysNow_85 : decode cX12_waysNow 85 = .ok (.iload_n 2, 1) := by decide +kernel
theorem dX12_waysNow_86 : decode cX12_waysNow 86 = .ok (.iaload, 1) := by decide +kernel
theorem dX12_waysNow_87 : decode cX12_waysNow 87 = .ok (.iadd, 1) := by decide +kernel
theorem dX12_waysNow_88 : decode cX12_waysNow 88 = .ok (.putfield 172, 3) := by decide +kernel
theorem dX12_waysNow_91 : decode cX12_waysNow 91 = .ok (.iinc 2 1, 3) := by decide +kernel
theorem dX12_waysNow_94 : decode cX12_waysNow 94 = .ok (.goto (-82), 3) := by decide +kernel
theorem dX12_waysNow_97 : decode cX12_waysNow 97 = .ok (.iconst 0, 1) := by decide +kernel
theorem dX12_waysNow_98 : decode cX12_waysNow 98 = .ok (.istore_n 2, 1) := by decide +kernel
theorem dX12_waysNow_99 : decode cX12_waysNow 99 = .ok (.iload_n 2, 1) := by decide +kernel
theorem dX12_waysNow_100 : decode cX12_waysNow 100 = .ok (.aload_n 0, 1) := by decide +kernel
theorem dX12_waysNow_101 : decode cX12_waysNow 101 = .ok (.getfield 154, 3) := by decide +kernel
theorem dX12_waysNow_104 : decode cX12_waysNow 104 = .ok (.if_icmp .ge 30, 3) := by decide +kernel
theorem dX12_waysNow_107 : decode cX12_waysNow 107 = .ok (.aload_n 0, 1) := by decide +kernel
theorem dX12_waysNow_108 : decode cX12_waysNow 108 = .ok (.iconst 2, 1) := by decide +kernel
theorem dX12_waysNow_109 : decode cX12_waysNow 109 = .ok (.iload_n 2, 1) := by decide +kernel
theorem dX12_waysNow_110 : decode cX12_waysNow 110 = .ok (.imul, 1) := by decide +kernel
theorem dX12_waysNow_111 : decode cX12_waysNow 111 = .ok (.invokevirtual 175, 3) := by decide +kernel
theorem dX12_waysNow_114 : decode cX12_waysNow 114 = .ok (.aload_n 0, 1) := by decide +kernel
theorem dX12_waysNow_115 : decode cX12_waysNow 115 = .ok (.iconst 2, 1) := by decide +kernel
theorem dX12_waysNow_116 : decode cX12_waysNow 116 = .ok (.iload_n 2, 1) := by decide +kernel
theorem dX12_waysNow_117 : decode cX12_waysNow 117 = .ok (.imul, 1) := by decide +kernel
theorem dX12_waysNow_118 : decode cX12_waysNow 118 = .ok (.iconst 1, 1) := by decide +kernel
theorem dX12_waysNow_119 : decode cX12_waysNow 119 = .ok (.iadd, 1) := by decide +kernel
theorem dX12_waysNow_120 : decode cX12_waysNow 120 = .ok (.invokevirtual 175, 3) := by decide +kernel
theorem dX12_waysNow_123 : decode cX12_waysNow 123 = .ok (.if_icmp .eq 5, 3) := by decide +kernel
theorem dX12_waysNow_126 : decode cX12_waysNow 126 = .ok (.lconst 0, 1) := by decide +kernel
theorem dX12_waysNow_127 : decode cX12_waysNow 127 = .ok (.lreturn, 1) := by decide +kernel
theorem dX12_waysNow_128 : decode cX12_waysNow 128 = .ok (.iinc 2 1, 3) := by decide +kernel
theorem dX12_waysNow_131 : decode cX12_waysNow 131 = .ok (.goto (-32), 3) := by decide +kernel
theorem dX12_waysNow_134 : decode cX12_waysNow 134 = .ok (.iconst 0, 1) := by decide +kernel
theorem dX12_waysNow_135 : decode cX12_waysNow 135 = .ok (.istore_n 2, 1) := by decide +kernel
theorem dX12_waysNow_136 : decode cX12_waysNow 136 = .ok (.iload_n 2, 1) := by decide +kernel
theorem dX12_waysNow_137 : decode cX12_waysNow 137 = .ok (.bipush 35, 2) := by decide +kernel
theorem dX12_waysNow_139 : decode cX12_waysNow 139 = .ok (.if_icmp .ge 39, 3) := by decide +kernel
theorem dX12_waysNow_142 : decode cX12_waysNow 142 = .ok (.aload_n 0, 1) := by decide +kernel
theorem dX12_waysNow_143 : decode cX12_waysNow 143 = .ok (.getfield 64, 3) := by decide +kernel
theorem dX12_waysNow_146 : decode cX12_waysNow 146 = .ok (.iload_n 2, 1) := by decide +kernel
theorem dX12_waysNow_147 : decode cX12_waysNow 147 = .ok (.iload_n 2, 1) := by decide +kernel
theorem dX12_waysNow_148 : decode cX12_waysNow 148 = .ok (.iastore, 1) := by decide +kernel
theorem dX12_waysNow_149 : decode cX12_waysNow 149 = .ok (.aload_n 0, 1) := by decide +kernel
theorem dX12_waysNow_150 : decode cX12_waysNow 150 = .ok (.getfield 67, 3) := by decide +kernel
theorem dX12_waysNow_153 : decode cX12_waysNow 153 = .ok (.iload_n 2, 1) := by decide +kernel
theorem dX12_waysNow_154 : decode cX12_waysNow 154 = .ok (.iload_n 2, 1) := by decide +kernel
theorem dX12_waysNow_155 : decode cX12_waysNow 155 = .ok (.bipush 32, 2) := by decide +kernel
theorem dX12_waysNow_157 : decode cX12_waysNow 157 = .ok (.if_icmp .ge 8, 3) := by decide +kernel
theorem dX12_waysNow_160 : decode cX12_waysNow 160 = .ok (.bipush 7, 2) := by decide +kernel
theorem dX12_waysNow_162 : decode cX12_waysNow 162 = .ok (.goto 9, 3) := by decide +kernel
theorem dX12_waysNow_165 : decode cX12_waysNow 165 = .ok (.iconst 1, 1) := by decide +kernel
theorem dX12_waysNow_166 : decode cX12_waysNow 166 = .ok (.iload_n 2, 1) := by decide +kernel
theorem dX12_waysNow_167 : decode cX12_waysNow 167 = .ok (.bipush 32, 2) := by decide +kernel
theorem dX12_waysNow_169 : decode cX12_waysNow 169 = .ok (.isub, 1) := by decide +kernel
theorem dX12_waysNow_170 : decode cX12_waysNow 170 = .ok (.ishl, 1) := by decide +kernel
theorem dX12_waysNow_171 : decode cX12_waysNow 171 = .ok (.iastore, 1) := by decide +kernel
theorem dX12_waysNow_172 : decode cX12_waysNow 172 = .ok (.iinc 2 1, 3) := by decide +kernel
theorem dX12_waysNow_175 : decode cX12_waysNow 175 = .ok (.goto (-39), 3) := by decide +kernel
theorem dX12_waysNow_178 : decode cX12_waysNow 178 = .ok (.iconst 0, 1) := by decide +kernel
theorem dX12_waysNow_179 : decode cX12_waysNow 179 = .ok (.istore_n 2, 1) := by decide +kernel
theorem dX12_waysNow_180 : decode cX12_waysNow 180 = .ok (.iload_n 2, 1) := by decide +kernel
theorem dX12_waysNow_181 : decode cX12_waysNow 181 = .ok (.aload_n 0, 1) := by decide +kernel
theorem dX12_waysNow_182 : decode cX12_waysNow 182 = .ok (.getfield 154, 3) := by decide +kernel
theorem dX12_waysNow_185 : decode cX12_waysNow 185 = .ok (.if_icmp .ge 56, 3) := by decide +kernel
theorem dX12_waysNow_188 : decode cX12_waysNow 188 = .ok (.aload_n 0, 1) := by decide +kernel
theorem dX12_waysNow_189 : decode cX12_waysNow 189 = .ok (.iconst 2, 1) := by decide +kernel
theorem dX12_waysNow_190 : decode cX12_waysNow 190 = .ok (.iload_n 2, 1) := by decide +kernel
theorem dX12_waysNow_191 : decode cX12_waysNow 191 = .ok (.imul, 1) := by decide +kernel
theorem dX12_waysNow_192 : decode cX12_waysNow 192 = .ok (.invokevirtual 175, 3) := by decide +kernel
theorem dX12_waysNow_195 : decode cX12_waysNow 195 = .ok (.istore_n 3, 1) := by decide +kernel
theorem dX12_waysNow_196 : decode cX12_waysNow 196 = .ok (.iconst 0, 1) := by decide +kernel
theorem dX12_waysNow_197 : decode cX12_waysNow 197 = .ok (.istore 4, 2) := by decide +kernel
theorem dX12_waysNow_199 : decode cX12_waysNow 199 = .ok (.iload 4, 2) := by decide +kernel
theorem dX12_waysNow_201 : decode cX12_waysNow 201 = .ok (.iload_n 3, 1) := by decide +kernel
theorem dX12_waysNow_202 : decode cX12_waysNow 202 = .ok (.if_icmp .ge 33, 3) := by decide +kernel
theorem dX12_waysNow_205 : decode cX12_waysNow 205 = .ok (.aload_n 0, 1) := by decide +kernel
theorem dX12_waysNow_206 : decode cX12_waysNow 206 = .ok (.aload_n 0, 1) := by decide +kernel
theorem dX12_waysNow_207 : decode cX12_waysNow 207 = .ok (.iconst 2, 1) := by decide +kernel
theorem dX12_waysNow_208 : decode cX12_waysNow 208 = .ok (.iload_n 2, 1) := by decide +kernel
theorem dX12_waysNow_209 : decode cX12_waysNow 209 = .ok (.imul, 1) := by decide +kernel
theorem dX12_waysNow_210 : decode cX12_waysNow 210 = .ok (.iload 4, 2) := by decide +kernel
theorem dX12_waysNow_212 : decode cX12_waysNow 212 = .ok (.invokevirtual 178, 3) := by decide +kernel
theorem dX12_waysNow_215 : decode cX12_waysNow 215 = .ok (.aload_n 0, 1) := by decide +kernel
theorem dX12_waysNow_216 : decode cX12_waysNow 216 = .ok (.iconst 2, 1) := by decide +kernel
theorem dX12_waysNow_217 : decode cX12_waysNow 217 = .ok (.iload_n 2, 1) := by decide +kernel
theorem dX12_waysNow_218 : decode cX12_waysNow 218 = .ok (.imul, 1) := by decide +kernel
theorem dX12_waysNow_219 : decode cX12_waysNow 219 = .ok (.iconst 1, 1) := by decide +kernel
theorem dX12_waysNow_220 : decode cX12_waysNow 220 = .ok (.iadd, 1) := by decide +kernel
theorem dX12_waysNow_221 : decode cX12_waysNow 221 = .ok (.iload 4, 2) := by decide +kernel
theorem dX12_waysNow_223 : decode cX12_waysNow 223 = .ok (.invokevirtual 178, 3) := by decide +kernel
theorem dX12_waysNow_226 : decode cX12_waysNow 226 = .ok (.invokevirtual 182, 3) := by decide +kernel
theorem dX12_waysNow_229 : decode cX12_waysNow 229 = .ok (.iinc 4 1, 3) := by decide +kernel
theorem dX12_waysNow_232 : decode cX12_waysNow 232 = .ok (.goto (-33), 3) := by decide +kernel
theorem dX12_waysNow_235 : decode cX12_waysNow 235 = .ok (.iinc 2 1, 3) := by decide +kernel
theorem dX12_waysNow_238 : decode cX12_waysNow 238 = .ok (.goto (-58), 3) := by decide +kernel
theorem dX12_waysNow_241 : decode cX12_waysNow 241 = .ok (.iconst 0, 1) := by decide +kernel
theorem dX12_waysNow_242 : decode cX12_waysNow 242 = .ok (.istore_n 2, 1) := by decide +kernel
theorem dX12_waysNow_243 : decode cX12_waysNow 243 = .ok (.iload_n 2, 1) := by decide +kernel
theorem dX12_waysNow_244 : decode cX12_waysNow 244 = .ok (.iconst 4, 1) := by decide +kernel
theorem dX12_waysNow_245 : decode cX12_waysNow 245 = .ok (.if_icmp .ge 53, 3) := by decide +kernel
theorem dX12_waysNow_248 : decode cX12_waysNow 248 = .ok (.iconst 0, 1) := by decide +kernel
theorem dX12_waysNow_249 : decode cX12_waysNow 249 = .ok (.istore_n 3, 1) := by decide +kernel
theorem dX12_waysNow_250 : decode cX12_waysNow 250 = .ok (.iload_n 3, 1) := by decide +kernel
theorem dX12_waysNow_251 : decode cX12_waysNow 251 = .ok (.aload_n 0, 1) := by decide +kernel
theorem dX12_waysNow_252 : decode cX12_waysNow 252 = .ok (.getfield 58, 3) := by decide +kernel
theorem dX12_waysNow_255 : decode cX12_waysNow 255 = .ok (.iload_n 2, 1) := by decide +kernel
theorem dX12_waysNow_256 : decode cX12_waysNow 256 = .ok (.iaload, 1) := by decide +kernel
theorem dX12_waysNow_257 : decode cX12_waysNow 257 = .ok (.if_icmp .ge 35, 3) := by decide +kernel
theorem dX12_waysNow_260 : decode cX12_waysNow 260 = .ok (.aload_n 0, 1) := by decide +kernel
theorem dX12_waysNow_261 : decode cX12_waysNow 261 = .ok (.getfield 67, 3) := by decide +kernel
theorem dX12_waysNow_264 : decode cX12_waysNow 264 = .ok (.aload_n 0, 1) := by decide +kernel
theorem dX12_waysNow_265 : decode cX12_waysNow 265 = .ok (.aload_n 0, 1) := by decide +kernel
theorem dX12_waysNow_266 : decode cX12_waysNow 266 = .ok (.getfield 61, 3) := by decide +kernel
theorem dX12_waysNow_269 : decode cX12_waysNow 269 = .ok (.iload_n 2, 1) := by decide +kernel
theorem dX12_waysNow_270 : decode cX12_waysNow 270 = .ok (.iaload, 1) := by decide +kernel
theorem dX12_waysNow_271 : decode cX12_waysNow 271 = .ok (.iload_n 3, 1) := by decide +kernel
theorem dX12_waysNow_272 : decode cX12_waysNow 272 = .ok (.iadd, 1) := by decide +kernel
theorem dX12_waysNow_273 : decode cX12_waysNow 273 = .ok (.invokevirtual 166, 3) := by decide +kernel
theorem dX12_waysNow_276 : decode cX12_waysNow 276 = .ok (.dup2, 1) := by decide +kernel
theorem dX12_waysNow_277 : decode cX12_waysNow 277 = .ok (.iaload, 1) := by decide +kernel
theorem dX12_waysNow_278 : decode cX12_waysNow 278 = .ok (.aload_n 0, 1) := by decide +kernel
theorem dX12_waysNow_279 : decode cX12_waysNow 279 = .ok (.getfield 25, 3) := by decide +kernel
theorem dX12_waysNow_282 : decode cX12_waysNow 282 = .ok (.iload_n 2, 1) := by decide +kernel
theorem dX12_waysNow_283 : decode cX12_waysNow 283 = .ok (.iaload, 1) := by decide +kernel
theorem dX12_waysNow_284 : decode cX12_waysNow 284 = .ok (.iand, 1) := by decide +kernel
theorem dX12_waysNow_285 : decode cX12_waysNow 285 = .ok (.iastore, 1) := by decide +kernel
theorem dX12_waysNow_286 : decode cX12_waysNow 286 = .ok (.iinc 3 1, 3) := by decide +kernel
theorem dX12_waysNow_289 : decode cX12_waysNow 289 = .ok (.goto (-39), 3) := by decide +kernel
theorem dX12_waysNow_292 : decode cX12_waysNow 292 = .ok (.iinc 2 1, 3) := by decide +kernel
theorem dX12_waysNow_295 : decode cX12_waysNow 295 = .ok (.goto (-52), 3) := by decide +kernel
theorem dX12_waysNow_298 : decode cX12_waysNow 298 = .ok (.bipush 32, 2) := by decide +kernel
theorem dX12_waysNow_300 : decode cX12_waysNow 300 = .ok (.istore_n 2, 1) := by decide +kernel
theorem dX12_waysNow_301 : decode cX12_waysNow 301 = .ok (.iload_n 2, 1) := by decide +kernel
theorem dX12_waysNow_302 : decode cX12_waysNow 302 = .ok (.bipush 35, 2) := by decide +kernel
theorem dX12_waysNow_304 : decode cX12_waysNow 304 = .ok (.if_icmp .ge 30, 3) := by decide +kernel
theorem dX12_waysNow_307 : decode cX12_waysNow 307 = .ok (.aload_n 0, 1) := by decide +kernel
theorem dX12_waysNow_308 : decode cX12_waysNow 308 = .ok (.iload_n 2, 1) := by decide +kernel
theorem dX12_waysNow_309 : decode cX12_waysNow 309 = .ok (.invokevirtual 166, 3) := by decide +kernel
theorem dX12_waysNow_312 : decode cX12_waysNow 312 = .ok (.istore_n 3, 1) := by decide +kernel
theorem dX12_waysNow_313 : decode cX12_waysNow 313 = .ok (.aload_n 0, 1) := by decide +kernel
theorem dX12_waysNow_314 : decode cX12_waysNow 314 = .ok (.getfield 67, 3) := by decide +kernel
theorem dX12_waysNow_317 : decode cX12_waysNow 317 = .ok (.iload_n 3, 1) := by decide +kernel
theorem dX12_waysNow_318 : decode cX12_waysNow 318 = .ok (.dup2, 1) := by decide +kernel
theorem dX12_waysNow_319 : decode cX12_waysNow 319 = .ok (.iaload, 1) := by decide +kernel
theorem dX12_waysNow_320 : decode cX12_waysNow 320 = .ok (.iconst 1, 1) := by decide +kernel
theorem dX12_waysNow_321 : decode cX12_waysNow 321 = .ok (.iload_n 2, 1) := by decide +kernel
theorem dX12_waysNow_322 : decode cX12_waysNow 322 = .ok (.bipush 32, 2) := by decide +kernel
theorem dX12_waysNow_324 : decode cX12_waysNow 324 = .ok (.isub, 1) := by decide +kernel
theorem dX12_waysNow_325 : decode cX12_waysNow 325 = .ok (.ishl, 1) := by decide +kernel
theorem dX12_waysNow_326 : decode cX12_waysNow 326 = .ok (.iand, 1) := by decide +kernel
theorem dX12_waysNow_327 : decode cX12_waysNow 327 = .ok (.iastore, 1) := by decide +kernel
theorem dX12_waysNow_328 : decode cX12_waysNow 328 = .ok (.iinc 2 1, 3) := by decide +kernel
theorem dX12_waysNow_331 : decode cX12_waysNow 331 = .ok (.goto (-30), 3) := by decide +kernel
theorem dX12_waysNow_334 : decode cX12_waysNow 334 = .ok (.lconst 1, 1) := by decide +kernel
theorem dX12_waysNow_335 : decode cX12_waysNow 335 = .ok (.lstore_n 2, 1) := by decide +kernel
theorem dX12_waysNow_336 : decode cX12_waysNow 336 = .ok (.iconst 0, 1) := by decide +kernel
theorem dX12_waysNow_337 : decode cX12_waysNow 337 = .ok (.istore 4, 2) := by decide +kernel
theorem dX12_waysNow_339 : decode cX12_waysNow 339 = .ok (.iload 4, 2) := by decide +kernel
theorem dX12_waysNow_341 : decode cX12_waysNow 341 = .ok (.aload_n 0, 1) := by decide +kernel
theorem dX12_waysNow_342 : decode cX12_waysNow 342 = .ok (.getfield 172, 3) := by decide +kernel
theorem dX12_waysNow_345 : decode cX12_waysNow 345 = .ok (.if_icmp .ge 80, 3) := by decide +kernel
theorem dX12_waysNow_348 : decode cX12_waysNow 348 = .ok (.aload_n 0, 1) := by decide +kernel
theorem dX12_waysNow_349 : decode cX12_waysNow 349 = .ok (.getfield 64, 3) := by decide +kernel
theorem dX12_waysNow_352 : decode cX12_waysNow 352 = .ok (.iload 4, 2) := by decide +kernel
theorem dX12_waysNow_354 : decode cX12_waysNow 354 = .ok (.iaload, 1) := by decide +kernel
theorem dX12_waysNow_355 : decode cX12_waysNow 355 = .ok (.iload 4, 2) := by decide +kernel
theorem dX12_waysNow_357 : decode cX12_waysNow 357 = .ok (.if_icmp .ne 62, 3) := by decide +kernel
theorem dX12_waysNow_360 : decode cX12_waysNow 360 = .ok (.aload_n 0, 1) := by decide +kernel
theorem dX12_waysNow_361 : decode cX12_waysNow 361 = .ok (.getfield 67, 3) := by decide +kernel
theorem dX12_waysNow_364 : decode cX12_waysNow 364 = .ok (.iload 4, 2) := by decide +kernel
theorem dX12_waysNow_366 : decode cX12_waysNow 366 = .ok (.iaload, 1) := by decide +kernel
theorem dX12_waysNow_367 : decode cX12_waysNow 367 = .ok (.iconst 1, 1) := by decide +kernel
theorem dX12_waysNow_368 : decode cX12_waysNow 368 = .ok (.iand, 1) := by decide +kernel
theorem dX12_waysNow_369 : decode cX12_waysNow 369 = .ok (.aload_n 0, 1) := by decide +kernel
theorem dX12_waysNow_370 : decode cX12_waysNow 370 = .ok (.getfield 67, 3) := by decide +kernel
theorem dX12_waysNow_373 : decode cX12_waysNow 373 = .ok (.iload 4, 2) := by decide +kernel
theorem dX12_waysNow_375 : decode cX12_waysNow 375 = .ok (.iaload, 1) := by decide +kernel
theorem dX12_waysNow_376 : decode cX12_waysNow 376 = .ok (.iconst 1, 1) := by decide +kernel
theorem dX12_waysNow_377 : decode cX12_waysNow 377 = .ok (.ishr, 1) := by decide +kernel
theorem dX12_waysNow_378 : decode cX12_waysNow 378 = .ok (.iconst 1, 1) := by decide +kernel
theorem dX12_waysNow_379 : decode cX12_waysNow 379 = .ok (.iand, 1) := by decide +kernel
theorem dX12_waysNow_380 : decode cX12_waysNow 380 = .ok (.iadd, 1) := by decide +kernel
theorem dX12_waysNow_381 : decode cX12_waysNow 381 = .ok (.aload_n 0, 1) := by decide +kernel
theorem dX12_waysNow_382 : decode cX12_waysNow 382 = .ok (.getfield 67, 3) := by decide +kernel
theorem dX12_waysNow_385 : decode cX12_waysNow 385 = .ok (.iload 4, 2) := by decide +kernel
theorem dX12_waysNow_387 : decode cX12_waysNow 387 = .ok (.iaload, 1) := by decide +kernel
theorem dX12_waysNow_388 : decode cX12_waysNow 388 = .ok (.iconst 2, 1) := by decide +kernel
theorem dX12_waysNow_389 : decode cX12_waysNow 389 = .ok (.ishr, 1) := by decide +kernel
theorem dX12_waysNow_390 : decode cX12_waysNow 390 = .ok (.iconst 1, 1) := by decide +kernel
theorem dX12_waysNow_391 : decode cX12_waysNow 391 = .ok (.iand, 1) := by decide +kernel
theorem dX12_waysNow_392 : decode cX12_waysNow 392 = .ok (.iadd, 1) := by decide +kernel
theorem dX12_waysNow_393 : decode cX12_waysNow 393 = .ok (.istore 5, 2) := by decide +kernel
theorem dX12_waysNow_395 : decode cX12_waysNow 395 = .ok (.lload_n 2, 1) := by decide +kernel
theorem dX12_waysNow_396 : decode cX12_waysNow 396 = .ok (.iload 5, 2) := by decide +kernel
theorem dX12_waysNow_398 : decode cX12_waysNow 398 = .ok (.i2l, 1) := by decide +kernel
theorem dX12_waysNow_399 : decode cX12_waysNow 399 = .ok (.lmul, 1) := by decide +kernel
theorem dX12_waysNow_400 : decode cX12_waysNow 400 = .ok (.ldc2_w 186, 3) := by decide +kernel
theorem dX12_waysNow_403 : decode cX12_waysNow 403 = .ok (.lcmp, 1) := by decide +kernel
theorem dX12_waysNow_404 : decode cX12_waysNow 404 = .ok (.ifCond .le 9, 3) := by decide +kernel
theorem dX12_waysNow_407 : decode cX12_waysNow 407 = .ok (.ldc2_w 186, 3) := by decide +kernel
theorem dX12_waysNow_410 : decode cX12_waysNow 410 = .ok (.goto 8, 3) := by decide +kernel
theorem dX12_waysNow_413 : decode cX12_waysNow 413 = .ok (.lload_n 2, 1) := by decide +kernel
theorem dX12_waysNow_414 : decode cX12_waysNow 414 = .ok (.iload 5, 2) := by decide +kernel
theorem dX12_waysNow_416 : decode cX12_waysNow 416 = .ok (.i2l, 1) := by decide +kernel
theorem dX12_waysNow_417 : decode cX12_waysNow 417 = .ok (.lmul, 1) := by decide +kernel
theorem dX12_waysNow_418 : decode cX12_waysNow 418 = .ok (.lstore_n 2, 1) := by decide +kernel
theorem dX12_waysNow_419 : decode cX12_waysNow 419 = .ok (.iinc 4 1, 3) := by decide +kernel
theorem dX12_waysNow_422 : decode cX12_waysNow 422 = .ok (.goto (-83), 3) := by decide +kernel
theorem dX12_waysNow_425 : decode cX12_waysNow 425 = .ok (.bipush 33, 2) := by decide +kernel
theorem dX12_waysNow_427 : decode cX12_waysNow 427 = .ok (.istore 4, 2) := by decide +kernel
theorem dX12_waysNow_429 : decode cX12_waysNow 429 = .ok (.iload 4, 2) := by decide +kernel
theorem dX12_waysNow_431 : decode cX12_waysNow 431 = .ok (.bipush 35, 2) := by decide +kernel
theorem dX12_waysNow_433 : decode cX12_waysNow 433 = .ok (.if_icmp .ge 37, 3) := by decide +kernel
theorem dX12_waysNow_436 : decode cX12_waysNow 436 = .ok (.aload_n 0, 1) := by decide +kernel
theorem dX12_waysNow_437 : decode cX12_waysNow 437 = .ok (.iload 4, 2) := by decide +kernel
theorem dX12_waysNow_439 : decode cX12_waysNow 439 = .ok (.invokevirtual 166, 3) := by decide +kernel
theorem dX12_waysNow_442 : decode cX12_waysNow 442 = .ok (.iload 4, 2) := by decide +kernel
theorem dX12_waysNow_444 : decode cX12_waysNow 444 = .ok (.if_icmp .eq 18, 3) := by decide +kernel
theorem dX12_waysNow_447 : decode cX12_waysNow 447 = .ok (.aload_n 0, 1) := by decide +kernel
theorem dX12_waysNow_448 : decode cX12_waysNow 448 = .ok (.iload 4, 2) := by decide +kernel
theorem dX12_waysNow_450 : decode cX12_waysNow 450 = .ok (.invokevirtual 166, 3) := by decide +kernel
theorem dX12_waysNow_453 : decode cX12_waysNow 453 = .ok (.bipush 32, 2) := by decide +kernel
theorem dX12_waysNow_455 : decode cX12_waysNow 455 = .ok (.if_icmp .lt 7, 3) := by decide +kernel
theorem dX12_waysNow_458 : decode cX12_waysNow 458 = .ok (.lconst 0, 1) := by decide +kernel
theorem dX12_waysNow_459 : decode cX12_waysNow 459 = .ok (.goto 4, 3) := by decide +kernel
theorem dX12_waysNow_462 : decode cX12_waysNow 462 = .ok (.lload_n 2, 1) := by decide +kernel
theorem dX12_waysNow_463 : decode cX12_waysNow 463 = .ok (.lstore_n 2, 1) := by decide +kernel
theorem dX12_waysNow_464 : decode cX12_waysNow 464 = .ok (.iinc 4 1, 3) := by decide +kernel
theorem dX12_waysNow_467 : decode cX12_waysNow 467 = .ok (.goto (-38), 3) := by decide +kernel
theorem dX12_waysNow_470 : decode cX12_waysNow 470 = .ok (.lload_n 2, 1) := by decide +kernel
theorem dX12_waysNow_471 : decode cX12_waysNow 471 = .ok (.lreturn, 1) := by decide +kernel
theorem dX12_firstLengths_0 : decode cX12_firstLengths 0 = .ok (.aload_n 0, 1) := by decide +kernel
theorem dX12_firstLengths_1 : decode cX12_firstLengths 1 = .ok (.iconst 0, 1) := by decide +kernel
theorem dX12_firstLengths_2 : decode cX12_firstLengths 2 = .ok (.putfield 188, 3) := by decide +kernel
theorem dX12_firstLengths_5 : decode cX12_firstLengths 5 = .ok (.aload_n 0, 1) := by decide +kernel
theorem dX12_firstLengths_6 : decode cX12_firstLengths 6 = .ok (.getfield 58, 3) := by decide +kernel
theorem dX12_firstLengths_9 : decode cX12_firstLengths 9 = .ok (.iconst 0, 1) := by decide +kernel
theorem dX12_firstLengths_10 : decode cX12_firstLengths 10 = .ok (.iconst 0, 1) := by decide +kernel
theorem dX12_firstLengths_11 : decode cX12_firstLengths 11 = .ok (.iastore, 1) := by decide +kernel
theorem dX12_firstLengths_12 : decode cX12_firstLengths 12 = .ok (.aload_n 0, 1) := by decide +kernel
theorem dX12_firstLengths_13 : decode cX12_firstLengths 13 = .ok (.getfield 58, 3) := by decide +kernel
theorem dX12_firstLengths_16 : decode cX12_firstLengths 16 = .ok (.iconst 1, 1) := by decide +kernel
theorem dX12_firstLengths_17 : decode cX12_firstLengths 17 = .ok (.iconst 0, 1) := by decide +kernel
theorem dX12_firstLengths_18 : decode cX12_firstLengths 18 = .ok (.iastore, 1) := by decide +kernel
theorem dX12_firstLengths_19 : decode cX12_firstLengths 19 = .ok (.aload_n 0, 1) := by decide +kernel
theorem dX12_firstLengths_20 : decode cX12_firstLengths 20 = .ok (.getfield 58, 3) := by decide +kernel
theorem dX12_firstLengths_23 : decode cX12_firstLengths 23 = .ok (.iconst 2, 1) := by decide +kernel
theorem dX12_firstLengths_24 : decode cX12_firstLengths 24 = .ok (.iconst 0, 1) := by decide +kernel
theorem dX12_firstLengths_25 : decode cX12_firstLengths 25 = .ok (.iastore, 1) := by decide +kernel
theorem dX12_firstLengths_26 : decode cX12_firstLengths 26 = .ok (.aload_n 0, 1) := by decide +kernel
theorem dX12_firstLengths_27 : decode cX12_firstLengths 27 = .ok (.getfield 58, 3) := by decide +kernel
theorem dX12_firstLengths_30 : decode cX12_firstLengths 30 = .ok (.iconst 3, 1) := by decide +kernel
theorem dX12_firstLengths_31 : decode cX12_firstLengths 31 = .ok (.iconst 0, 1) := by decide +kernel
theorem dX12_firstLengths_32 : decode cX12_firstLengths 32 = .ok (.iastore, 1) := by decide +kernel
theorem dX12_firstLengths_33 : decode cX12_firstLengths 33 = .ok (.return_, 1) := by decide +kernel
theorem dX12_nextLengths_0 : decode cX12_nextLengths 0 = .ok (.iconst 0, 1) := by decide +kernel
theorem dX12_nextLengths_1 : decode cX12_nextLengths 1 = .ok (.istore_n 1, 1) := by decide +kernel
theorem dX12_nextLengths_2 : decode cX12_nextLengths 2 = .ok (.iload_n 1, 1) := by decide +kernel
theorem dX12_nextLengths_3 : decode cX12_nextLengths 3 = .ok (.ifCond .ne 172, 3) := by decide +kernel
theorem dX12_nextLengths_6 : decode cX12_nextLengths 6 = .ok (.aload_n 0, 1) := by decide +kernel
theorem dX12_nextLengths_7 : decode cX12_nextLengths 7 = .ok (.getfield 188, 3) := by decide +kernel
theorem dX12_nextLengths_10 : decode cX12_nextLengths 10 = .ok (.bipush 32, 2) := by decide +kernel
theorem dX12_nextLengths_12 : decode cX12_nextLengths 12 = .ok (.if_icmp .gt 163, 3) := by decide +kernel
theorem dX12_nextLengths_15 : decode cX12_nextLengths 15 = .ok (.aload_n 0, 1) := by decide +kernel
theorem dX12_nextLengths_16 : decode cX12_nextLengths 16 = .ok (.getfield 58, 3) := by decide +kernel
theorem dX12_nextLengths_19 : decode cX12_nextLengths 19 = .ok (.iconst 2, 1) := by decide +kernel
theorem dX12_nextLengths_20 : decode cX12_nextLengths 20 = .ok (.dup2, 1) := by decide +kernel
theorem dX12_nextLengths_21 : decode cX12_nextLengths 21 = .ok (.iaload, 1) := by decide +kernel
theorem dX12_nextLengths_22 : decode cX12_nextLengths 22 = .ok (.iconst 1, 1) := by decide +kernel
theorem dX12_nextLengths_23 : decode cX12_nextLengths 23 = .ok (.iadd, 1) := by decide +kernel
theorem dX12_nextLengths_24 : decode cX12_nextLengths 24 = .ok (.iastore, 1) := by decide +kernel
theorem dX12_nextLengths_25 : decode cX12_nextLengths 25 = .ok (.aload_n 0, 1) := by decide +kernel
theorem dX12_nextLengths_26 : decode cX12_nextLengths 26 = .ok (.getfield 58, 3) := by decide +kernel
theorem dX12_nextLengths_29 : decode cX12_nextLengths 29 = .ok (.iconst 2, 1) := by decide +kernel
theorem dX12_nextLengths_30 : decode cX12_nextLengths 30 = .ok (.iaload, 1) := by decide +kernel
theorem dX12_nextLengths_31 : decode cX12_nextLengths 31 = .ok (.bipush 8, 2) := by decide +kernel
theorem dX12_nextLengths_33 : decode cX12_nextLengths 33 = .ok (.if_icmp .le 20, 3) := by decide +kernel
theorem dX12_nextLengths_36 : decode cX12_nextLengths 36 = .ok (.aload_n 0, 1) := by decide +kernel
theorem dX12_nextLengths_37 : decode cX12_nextLengths 37 = .ok (.getfield 58, 3) := by decide +kernel
theorem dX12_nextLengths_40 : decode cX12_nextLengths 40 = .ok (.iconst 2, 1) := by decide +kernel
theorem dX12_nextLengths_41 : decode cX12_nextLengths 41 = .ok (.iconst 0, 1) := by decide +kernel
theorem dX12_nextLengths_42 : decode cX12_nextLengths 42 = .ok (.iastore, 1) := by decide +kernel
theorem dX12_nextLengths_43 : decode cX12_nextLengths 43 = .ok (.aload_n 0, 1) := by decide +kernel
theorem dX12_nextLengths_44 : decode cX12_nextLengths 44 = .ok (.getfield 58, 3) := by decide +kernel
theorem dX12_nextLengths_47 : decode cX12_nextLengths 47 = .ok (.iconst 1, 1) := by decide +kernel
theorem dX12_nextLengths_48 : decode cX12_nextLengths 48 = .ok (.dup2, 1) := by decide +kernel
theorem dX12_nextLengths_49 : decode cX12_nextLengths 49 = .ok (.iaload, 1) := by decide +kernel
theorem dX12_nextLengths_50 : decode cX12_nextLengths 50 = .ok (.iconst 1, 1) := by decide +kernel
theorem dX12_nextLengths_51 : decode cX12_nextLengths 51 = .ok (.iadd, 1) := by decide +kernel
theorem dX12_nextLengths_52 : decode cX12_nextLengths 52 = .ok (.iastore, 1) := by decide +kernel
theorem dX12_nextLengths_53 : decode cX12_nextLengths 53 = .ok (.aload_n 0, 1) := by decide +kernel
theorem dX12_nextLengths_54 : decode cX12_nextLengths 54 = .ok (.getfield 58, 3) := by decide +kernel
theorem dX12_nextLengths_57 : decode cX12_nextLengths 57 = .ok (.iconst 1, 1) := by decide +kernel
theorem dX12_nextLengths_58 : decode cX12_nextLengths 58 = .ok (.iaload, 1) := by decide +kernel
theorem dX12_nextLengths_59 : decode cX12_nextLengths 59 = .ok (.bipush 8, 2) := by decide +kernel
theorem dX12_nextLengths_61 : decode cX12_nextLengths 61 = .ok (.if_icmp .le 20, 3) := by decide +kernel
theorem dX12_nextLengths_64 : decode cX12_nextLengths 64 = .ok (.aload_n 0, 1) := by decide +kernel
theorem dX12_nextLengths_65 : decode cX12_nextLengths 65 = .ok (.getfield 58, 3) := by decide +kernel
theorem dX12_nextLengths_68 : decode cX12_nextLengths 68 = .ok (.iconst 1, 1) := by decide +kernel
theorem dX12_nextLengths_69 : decode cX12_nextLengths 69 = .ok (.iconst 0, 1) := by decide +kernel
theorem dX12_nextLengths_70 : decode cX12_nextLengths 70 = .ok (.iastore, 1) := by decide +kernel
theorem dX12_nextLengths_71 : decode cX12_nextLengths 71 = .ok (.aload_n 0, 1) := by decide +kernel
theorem dX12_nextLengths_72 : decode cX12_nextLengths 72 = .ok (.getfield 58, 3) := by decide +kernel
theorem dX12_nextLengths_75 : decode cX12_nextLengths 75 = .ok (.iconst 0, 1) := by decide +kernel
theorem dX12_nextLengths_76 : decode cX12_nextLengths 76 = .ok (.dup2, 1) := by decide +kernel
theorem dX12_nextLengths_77 : decode cX12_nextLengths 77 = .ok (.iaload, 1) := by decide +kernel
theorem dX12_nextLengths_78 : decode cX12_nextLengths 78 = .ok (.iconst 1, 1) := by decide +kernel
theorem dX12_nextLengths_79 : decode cX12_nextLengths 79 = .ok (.iadd, 1) := by decide +kernel
theorem dX12_nextLengths_80 : decode cX12_nextLengths 80 = .ok (.iastore, 1) := by decide +kernel
theorem dX12_nextLengths_81 : decode cX12_nextLengths 81 = .ok (.aload_n 0, 1) := by decide +kernel
theorem dX12_nextLengths_82 : decode cX12_nextLengths 82 = .ok (.getfield 58, 3) := by decide +kernel
theorem dX12_nextLengths_85 : decode cX12_nextLengths 85 = .ok (.iconst 0, 1) := by decide +kernel
theorem dX12_nextLengths_86 : decode cX12_nextLengths 86 = .ok (.iaload, 1) := by decide +kernel
theorem dX12_nextLengths_87 : decode cX12_nextLengths 87 = .ok (.bipush 8, 2) := by decide +kernel
theorem dX12_nextLengths_89 : decode cX12_nextLengths 89 = .ok (.if_icmp .le 20, 3) := by decide +kernel
theorem dX12_nextLengths_92 : decode cX12_nextLengths 92 = .ok (.aload_n 0, 1) := by decide +kernel
theorem dX12_nextLengths_93 : decode cX12_nextLengths 93 = .ok (.getfield 58, 3) := by decide +kernel
theorem dX12_nextLengths_96 : decode cX12_nextLengths 96 = .ok (.iconst 0, 1) := by decide +kernel
theorem dX12_nextLengths_97 : decode cX12_nextLengths 97 = .ok (.iconst 0, 1) := by decide +kernel
theorem dX12_nextLengths_98 : decode cX12_nextLengths 98 = .ok (.iastore, 1) := by decide +kernel
theorem dX12_nextLengths_99 : decode cX12_nextLengths 99 = .ok (.aload_n 0, 1) := by decide +kernel
theorem dX12_nextLengths_100 : decode cX12_nextLengths 100 = .ok (.dup, 1) := by decide +kernel
theorem dX12_nextLengths_101 : decode cX12_nextLengths 101 = .ok (.getfield 188, 3) := by decide +kernel
theorem dX12_nextLengths_104 : decode cX12_nextLengths 104 = .ok (.iconst 1, 1) := by decide +kernel
theorem dX12_nextLengths_105 : decode cX12_nextLengths 105 = .ok (.iadd, 1) := by decide +kernel
theorem dX12_nextLengths_106 : decode cX12_nextLengths 106 = .ok (.putfield 188, 3) := by decide +kernel
theorem dX12_nextLengths_109 : decode cX12_nextLengths 109 = .ok (.aload_n 0, 1) := by decide +kernel
theorem dX12_nextLengths_110 : decode cX12_nextLengths 110 = .ok (.getfield 58, 3) := by decide +kernel
theorem dX12_nextLengths_113 : decode cX12_nextLengths 113 = .ok (.iconst 3, 1) := by decide +kernel
theorem dX12_nextLengths_114 : decode cX12_nextLengths 114 = .ok (.aload_n 0, 1) := by decide +kernel
theorem dX12_nextLengths_115 : decode cX12_nextLengths 115 = .ok (.getfield 188, 3) := by decide +kernel
theorem dX12_nextLengths_118 : decode cX12_nextLengths 118 = .ok (.aload_n 0, 1) := by decide +kernel
theorem dX12_nextLengths_119 : decode cX12_nextLengths 119 = .ok (.getfield 58, 3) := by decide +kernel
theorem dX12_nextLengths_122 : decode cX12_nextLengths 122 = .ok (.iconst 0, 1) := by decide +kernel
theorem dX12_nextLengths_123 : decode cX12_nextLengths 123 = .ok (.iaload, 1) := by decide +kernel
theorem dX12_nextLengths_124 : decode cX12_nextLengths 124 = .ok (.isub, 1) := by decide +kernel
theorem dX12_nextLengths_125 : decode cX12_nextLengths 125 = .ok (.aload_n 0, 1) := by decide +kernel
theorem dX12_nextLengths_126 : decode cX12_nextLengths 126 = .ok (.getfield 58, 3) := by decide +kernel
theorem dX12_nextLengths_129 : decode cX12_nextLengths 129 = .ok (.iconst 1, 1) := by decide +kernel
theorem dX12_nextLengths_130 : decode cX12_nextLengths 130 = .ok (.iaload, 1) := by decide +kernel
theorem dX12_nextLengths_131 : decode cX12_nextLengths 131 = .ok (.isub, 1) := by decide +kernel
theorem dX12_nextLengths_132 : decode cX12_nextLengths 132 = .ok (.aload_n 0, 1) := by decide +kernel
theorem dX12_nextLengths_133 : decode cX12_nextLengths 133 = .ok (.getfield 58, 3) := by decide +kernel
theorem dX12_nextLengths_136 : decode cX12_nextLengths 136 = .ok (.iconst 2, 1) := by decide +kernel
theorem dX12_nextLengths_137 : decode cX12_nextLengths 137 = .ok (.iaload, 1) := by decide +kernel
theorem dX12_nextLengths_138 : decode cX12_nextLengths 138 = .ok (.isub, 1) := by decide +kernel
theorem dX12_nextLengths_139 : decode cX12_nextLengths 139 = .ok (.iastore, 1) := by decide +kernel
theorem dX12_nextLengths_140 : decode cX12_nextLengths 140 = .ok (.aload_n 0, 1) := by decide +kernel
theorem dX12_nextLengths_141 : decode cX12_nextLengths 141 = .ok (.getfield 188, 3) := by decide +kernel
theorem dX12_nextLengths_144 : decode cX12_nextLengths 144 = .ok (.bipush 32, 2) := by decide +kernel
theorem dX12_nextLengths_146 : decode cX12_nextLengths 146 = .ok (.if_icmp .gt 24, 3) := by decide +kernel
theorem dX12_nextLengths_149 : decode cX12_nextLengths 149 = .ok (.aload_n 0, 1) := by decide +kernel
theorem dX12_nextLengths_150 : decode cX12_nextLengths 150 = .ok (.getfield 58, 3) := by decide +kernel
theorem dX12_nextLengths_153 : decode cX12_nextLengths 153 = .ok (.iconst 3, 1) := by decide +kernel
theorem dX12_nextLengths_154 : decode cX12_nextLengths 154 = .ok (.iaload, 1) := by decide +kernel
theorem dX12_nextLengths_155 : decode cX12_nextLengths 155 = .ok (.i2l, 1) := by decide +kernel
theorem dX12_nextLengths_156 : decode cX12_nextLengths 156 = .ok (.lconst 0, 1) := by decide +kernel
theorem dX12_nextLengths_157 : decode cX12_nextLengths 157 = .ok (.ldc2_w 135, 3) := by decide +kernel
theorem dX12_nextLengths_160 : decode cX12_nextLengths 160 = .ok (.invokestatic 131, 3) := by decide +kernel
theorem dX12_nextLengths_163 : decode cX12_nextLengths 163 = .ok (.ifCond .eq 7, 3) := by decide +kernel
theorem dX12_nextLengths_166 : decode cX12_nextLengths 166 = .ok (.iconst 1, 1) := by decide +kernel
theorem dX12_nextLengths_167 : decode cX12_nextLengths 167 = .ok (.goto 4, 3) := by decide +kernel
theorem dX12_nextLengths_170 : decode cX12_nextLengths 170 = .ok (.iconst 0, 1) := by decide +kernel
theorem dX12_nextLengths_171 : decode cX12_nextLengths 171 = .ok (.istore_n 1, 1) := by decide +kernel
theorem dX12_nextLengths_172 : decode cX12_nextLengths 172 = .ok (.goto (-170), 3) := by decide +kernel
theorem dX12_nextLengths_175 : decode cX12_nextLengths 175 = .ok (.iload_n 1, 1) := by decide +kernel
theorem dX12_nextLengths_176 : decode cX12_nextLengths 176 = .ok (.ireturn, 1) := by decide +kernel
theorem dX12_answers_0 : decode cX12_answers 0 = .ok (.lconst 0, 1) := by decide +kernel
theorem dX12_answers_1 : decode cX12_answers 1 = .ok (.lstore_n 1, 1) := by decide +kernel
theorem dX12_answers_2 : decode cX12_answers 2 = .ok (.aload_n 0, 1) := by decide +kernel
theorem dX12_answers_3 : decode cX12_answers 3 = .ok (.invokevirtual 191, 3) := by decide +kernel
theorem dX12_answers_6 : decode cX12_answers 6 = .ok (.iconst 1, 1) := by decide +kernel
theorem dX12_answers_7 : decode cX12_answers 7 = .ok (.istore_n 3, 1) := by decide +kernel
theorem dX12_answers_8 : decode cX12_answers 8 = .ok (.iload_n 3, 1) := by decide +kernel
theorem dX12_answers_9 : decode cX12_answers 9 = .ok (.ifCond .eq 34, 3) := by decide +kernel
theorem dX12_answers_12 : decode cX12_answers 12 = .ok (.lload_n 1, 1) := by decide +kernel
theorem dX12_answers_13 : decode cX12_answers 13 = .ok (.aload_n 0, 1) := by decide +kernel
theorem dX12_answers_14 : decode cX12_answers 14 = .ok (.invokevirtual 194, 3) := by decide +kernel
theorem dX12_answers_17 : decode cX12_answers 17 = .ok (.ladd, 1) := by decide +kernel
theorem dX12_answers_18 : decode cX12_answers 18 = .ok (.lstore_n 1, 1) := by decide +kernel
theorem dX12_answers_19 : decode cX12_answers 19 = .ok (.lload_n 1, 1) := by decide +kernel
theorem dX12_answers_20 : decode cX12_answers 20 = .ok (.ldc2_w 186, 3) := by decide +kernel
theorem dX12_answers_23 : decode cX12_answers 23 = .ok (.lcmp, 1) := by decide +kernel
theorem dX12_answers_24 : decode cX12_answers 24 = .ok (.ifCond .le 9, 3) := by decide +kernel
theorem dX12_answers_27 : decode cX12_answers 27 = .ok (.ldc2_w 186, 3) := by decide +kernel
theorem dX12_answers_30 : decode cX12_answers 30 = .ok (.goto 4, 3) := by decide +kernel
theorem dX12_answers_33 : decode cX12_answers 33 = .ok (.lload_n 1, 1) := by decide +kernel
theorem dX12_answers_34 : decode cX12_answers 34 = .ok (.lstore_n 1, 1) := by decide +kernel
theorem dX12_answers_35 : decode cX12_answers 35 = .ok (.aload_n 0, 1) := by decide +kernel
theorem dX12_answers_36 : decode cX12_answers 36 = .ok (.invokevirtual 198, 3) := by decide +kernel
theorem dX12_answers_39 : decode cX12_answers 39 = .ok (.istore_n 3, 1) := by decide +kernel
theorem dX12_answers_40 : decode cX12_answers 40 = .ok (.goto (-32), 3) := by decide +kernel
theorem dX12_answers_43 : decode cX12_answers 43 = .ok (.lload_n 1, 1) := by decide +kernel
theorem dX12_answers_44 : decode cX12_answers 44 = .ok (.l2i, 1) := by decide +kernel
theorem dX12_answers_45 : decode cX12_answers 45 = .ok (.ireturn, 1) := by decide +kernel
theorem dX12_letterOf_0 : decode cX12_letterOf 0 = .ok (.lload_n 1, 1) := by decide +kernel
theorem dX12_letterOf_1 : decode cX12_letterOf 1 = .ok (.lstore 4, 2) := by decide +kernel
theorem dX12_letterOf_3 : decode cX12_letterOf 3 = .ok (.aload_n 0, 1) := by decide +kernel
theorem dX12_letterOf_4 : decode cX12_letterOf 4 = .ok (.iload_n 3, 1) := by decide +kernel
theorem dX12_letterOf_5 : decode cX12_letterOf 5 = .ok (.invokevirtual 166, 3) := by decide +kernel
theorem dX12_letterOf_8 : decode cX12_letterOf 8 = .ok (.istore 6, 2) := by decide +kernel
theorem dX12_letterOf_10 : decode cX12_letterOf 10 = .ok (.iconst (-1), 1) := by decide +kernel
theorem dX12_letterOf_11 : decode cX12_letterOf 11 = .ok (.istore 7, 2) := by decide +kernel
theorem dX12_letterOf_13 : decode cX12_letterOf 13 = .ok (.aload_n 0, 1) := by decide +kernel
theorem dX12_letterOf_14 : decode cX12_letterOf 14 = .ok (.getfield 172, 3) := by decide +kernel
theorem dX12_letterOf_17 : decode cX12_letterOf 17 = .ok (.iconst 1, 1) := by decide +kernel
theorem dX12_letterOf_18 : decode cX12_letterOf 18 = .ok (.isub, 1) := by decide +kernel
theorem dX12_letterOf_19 : decode cX12_letterOf 19 = .ok (.istore 8, 2) := by decide +kernel
theorem dX12_letterOf_21 : decode cX12_letterOf 21 = .ok (.iload 8, 2) := by decide +kernel
theorem dX12_letterOf_23 : decode cX12_letterOf 23 = .ok (.ifCond .lt 99, 3) := by decide +kernel
theorem dX12_letterOf_26 : decode cX12_letterOf 26 = .ok (.aload_n 0, 1) := by decide +kernel
theorem dX12_letterOf_27 : decode cX12_letterOf 27 = .ok (.getfield 64, 3) := by decide +kernel
theorem dX12_letterOf_30 : decode cX12_letterOf 30 = .ok (.iload 8, 2) := by decide +kernel
theorem dX12_letterOf_32 : decode cX12_letterOf 32 = .ok (.iaload, 1) := by decide +kernel
theorem dX12_letterOf_33 : decode cX12_letterOf 33 = .ok (.iload 8, 2) := by decide +kernel
theorem dX12_letterOf_35 : decode cX12_letterOf 35 = .ok (.if_icmp .ne 81, 3) := by decide +kernel
theorem dX12_letterOf_38 : decode cX12_letterOf 38 = .ok (.aload_n 0, 1) := by decide +kernel
theorem dX12_letterOf_39 : decode cX12_letterOf 39 = .ok (.getfield 67, 3) := by decide +kernel
theorem dX12_letterOf_42 : decode cX12_letterOf 42 = .ok (.iload 8, 2) := by decide +kernel
theorem dX12_letterOf_44 : decode cX12_letterOf 44 = .ok (.iaload, 1) := by decide +kernel
theorem dX12_letterOf_45 : decode cX12_letterOf 45 = .ok (.iconst 1, 1) := by decide +kernel
theorem dX12_letterOf_46 : decode cX12_letterOf 46 = .ok (.iand, 1) := by decide +kernel
theorem dX12_letterOf_47 : decode cX12_letterOf 47 = .ok (.aload_n 0, 1) := by decide +kernel
theorem dX12_letterOf_48 : decode cX12_letterOf 48 = .ok (.getfield 67, 3) := by decide +kernel
theorem dX12_letterOf_51 : decode cX12_letterOf 51 = .ok (.iload 8, 2) := by decide +kernel
theorem dX12_letterOf_53 : decode cX12_letterOf 53 = .ok (.iaload, 1) := by decide +kernel
theorem dX12_letterOf_54 : decode cX12_letterOf 54 = .ok (.iconst 1, 1) := by decide +kernel
theorem dX12_letterOf_55 : decode cX12_letterOf 55 = .ok (.ishr, 1) := by decide +kernel
theorem dX12_letterOf_56 : decode cX12_letterOf 56 = .ok (.iconst 1, 1) := by decide +kernel
theorem dX12_letterOf_57 : decode cX12_letterOf 57 = .ok (.iand, 1) := by decide +kernel
theorem dX12_letterOf_58 : decode cX12_letterOf 58 = .ok (.iadd, 1) := by decide +kernel
theorem dX12_letterOf_59 : decode cX12_letterOf 59 = .ok (.aload_n 0, 1) := by decide +kernel
theorem dX12_letterOf_60 : decode cX12_letterOf 60 = .ok (.getfield 67, 3) := by decide +kernel
theorem dX12_letterOf_63 : decode cX12_letterOf 63 = .ok (.iload 8, 2) := by decide +kernel
theorem dX12_letterOf_65 : decode cX12_letterOf 65 = .ok (.iaload, 1) := by decide +kernel
theorem dX12_letterOf_66 : decode cX12_letterOf 66 = .ok (.iconst 2, 1) := by decide +kernel
theorem dX12_letterOf_67 : decode cX12_letterOf 67 = .ok (.ishr, 1) := by decide +kernel
theorem dX12_letterOf_68 : decode cX12_letterOf 68 = .ok (.iconst 1, 1) := by decide +kernel
theorem dX12_letterOf_69 : decode cX12_letterOf 69 = .ok (.iand, 1) := by decide +kernel
theorem dX12_letterOf_70 : decode cX12_letterOf 70 = .ok (.iadd, 1) := by decide +kernel
theorem dX12_letterOf_71 : decode cX12_letterOf 71 = .ok (.istore 9, 2) := by decide +kernel
theorem dX12_letterOf_73 : decode cX12_letterOf 73 = .ok (.lload 4, 2) := by decide +kernel
theorem dX12_letterOf_75 : decode cX12_letterOf 75 = .ok (.iload 9, 2) := by decide +kernel
theorem dX12_letterOf_77 : decode cX12_letterOf 77 = .ok (.i2l, 1) := by decide +kernel
theorem dX12_letterOf_78 : decode cX12_letterOf 78 = .ok (.lrem, 1) := by decide +kernel
theorem dX12_letterOf_79 : decode cX12_letterOf 79 = .ok (.l2i, 1) := by decide +kernel
theorem dX12_letterOf_80 : decode cX12_letterOf 80 = .ok (.istore 10, 2) := by decide +kernel
theorem dX12_letterOf_82 : decode cX12_letterOf 82 = .ok (.lload 4, 2) := by decide +kernel
theorem dX12_letterOf_84 : decode cX12_letterOf 84 = .ok (.iload 9, 2) := by decide +kernel
theorem dX12_letterOf_86 : decode cX12_letterOf 86 = .ok (.i2l, 1) := by decide +kernel
theorem dX12_letterOf_87 : decode cX12_letterOf 87 = .ok (.ldiv, 1) := by decide +kernel
theorem dX12_letterOf_88 : decode cX12_letterOf 88 = .ok (.lstore 4, 2) := by decide +kernel
theorem dX12_letterOf_90 : decode cX12_letterOf 90 = .ok (.iload 8, 2) := by decide +kernel
theorem dX12_letterOf_92 : decode cX12_letterOf 92 = .ok (.iload 6, 2) := by decide +kernel
theorem dX12_letterOf_94 : decode cX12_letterOf 94 = .ok (.if_icmp .ne 18, 3) := by decide +kernel
theorem dX12_letterOf_97 : decode cX12_letterOf 97 = .ok (.aload_n 0, 1) := by decide +kernel
theorem dX12_letterOf_98 : decode cX12_letterOf 98 = .ok (.getfield 67, 3) := by decide +kernel
theorem dX12_letterOf_101 : decode cX12_letterOf 101 = .ok (.iload 8, 2) := by decide +kernel
theorem dX12_letterOf_103 : decode cX12_letterOf 103 = .ok (.iaload, 1) := by decide +kernel
theorem dX12_letterOf_104 : decode cX12_letterOf 104 = .ok (.iload 10, 2) := by decide +kernel
theorem dX12_letterOf_106 : decode cX12_letterOf 106 = .ok (.invokestatic 202, 3) := by decide +kernel
theorem dX12_letterOf_109 : decode cX12_letterOf 109 = .ok (.goto 5, 3) := by decide +kernel
theorem dX12_letterOf_112 : decode cX12_letterOf 112 = .ok (.iload 7, 2) := by decide +kernel
theorem dX12_letterOf_114 : decode cX12_letterOf 114 = .ok (.istore 7, 2) := by decide +kernel
theorem dX12_letterOf_116 : decode cX12_letterOf 116 = .ok (.iinc 8 (-1), 3) := by decide +kernel
theorem dX12_letterOf_119 : decode cX12_letterOf 119 = .ok (.goto (-98), 3) := by decide +kernel
theorem dX12_letterOf_122 : decode cX12_letterOf 122 = .ok (.iload 7, 2) := by decide +kernel
theorem dX12_letterOf_124 : decode cX12_letterOf 124 = .ok (.ireturn, 1) := by decide +kernel
theorem dX12_pick_0 : decode cX12_pick 0 = .ok (.iload_n 1, 1) := by decide +kernel
theorem dX12_pick_1 : decode cX12_pick 1 = .ok (.istore_n 2, 1) := by decide +kernel
theorem dX12_pick_2 : decode cX12_pick 2 = .ok (.iconst 0, 1) := by decide +kernel
theorem dX12_pick_3 : decode cX12_pick 3 = .ok (.istore_n 3, 1) := by decide +kernel
theorem dX12_pick_4 : decode cX12_pick 4 = .ok (.iconst 2, 1) := by decide +kernel
theorem dX12_pick_5 : decode cX12_pick 5 = .ok (.istore 4, 2) := by decide +kernel
theorem dX12_pick_7 : decode cX12_pick 7 = .ok (.iload 4, 2) := by decide +kernel
theorem dX12_pick_9 : decode cX12_pick 9 = .ok (.ifCond .lt 26, 3) := by decide +kernel
theorem dX12_pick_12 : decode cX12_pick 12 = .ok (.iload_n 0, 1) := by decide +kernel
theorem dX12_pick_13 : decode cX12_pick 13 = .ok (.iload 4, 2) := by decide +kernel
theorem dX12_pick_15 : decode cX12_pick 15 = .ok (.ishr, 1) := by decide +kernel
theorem dX12_pick_16 : decode cX12_pick 16 = .ok (.iconst 1, 1) := by decide +kernel
theorem dX12_pick_17 : decode cX12_pick 17 = .ok (.iand, 1) := by decide +kernel
theorem dX12_pick_18 : decode cX12_pick 18 = .ok (.iconst 1, 1) := by decide +kernel
theorem dX12_pick_19 : decode cX12_pick 19 = .ok (.if_icmp .ne 8, 3) := by decide +kernel
theorem dX12_pick_22 : decode cX12_pick 22 = .ok (.iload 4, 2) := by decide +kernel
theorem dX12_pick_24 : decode cX12_pick 24 = .ok (.goto 4, 3) := by decide +kernel
theorem dX12_pick_27 : decode cX12_pick 27 = .ok (.iload_n 3, 1) := by decide +kernel
theorem dX12_pick_28 : decode cX12_pick 28 = .ok (.istore_n 3, 1) := by decide +kernel
theorem dX12_pick_29 : decode cX12_pick 29 = .ok (.iinc 4 (-1), 3) := by decide +kernel
theorem dX12_pick_32 : decode cX12_pick 32 = .ok (.goto (-25), 3) := by decide +kernel
theorem dX12_pick_35 : decode cX12_pick 35 = .ok (.iconst 0, 1) := by decide +kernel
theorem dX12_pick_36 : decode cX12_pick 36 = .ok (.istore 4, 2) := by decide +kernel
theorem dX12_pick_38 : decode cX12_pick 38 = .ok (.iload 4, 2) := by decide +kernel
theorem dX12_pick_40 : decode cX12_pick 40 = .ok (.iconst 3, 1) := by decide +kernel
theorem dX12_pick_41 : decode cX12_pick 41 = .ok (.if_icmp .ge 33, 3) := by decide +kernel
theorem dX12_pick_44 : decode cX12_pick 44 = .ok (.iload_n 0, 1) := by decide +kernel
theorem dX12_pick_45 : decode cX12_pick 45 = .ok (.iload 4, 2) := by decide +kernel
theorem dX12_pick_47 : decode cX12_pick 47 = .ok (.ishr, 1) := by decide +kernel
theorem dX12_pick_48 : decode cX12_pick 48 = .ok (.iconst 1, 1) := by decide +kernel
theorem dX12_pick_49 : decode cX12_pick 49 = .ok (.iand, 1) := by decide +kernel
theorem dX12_pick_50 : decode cX12_pick 50 = .ok (.iconst 1, 1) := by decide +kernel
theorem dX12_pick_51 : decode cX12_pick 51 = .ok (.if_icmp .ne 17, 3) := by decide +kernel
theorem dX12_pick_54 : decode cX12_pick 54 = .ok (.iload_n 2, 1) := by decide +kernel
theorem dX12_pick_55 : decode cX12_pick 55 = .ok (.ifCond .ne 8, 3) := by decide +kernel
theorem dX12_pick_58 : decode cX12_pick 58 = .ok (.iload 4, 2) := by decide +kernel
theorem dX12_pick_60 : decode cX12_pick 60 = .ok (.goto 4, 3) := by decide +kernel
theorem dX12_pick_63 : decode cX12_pick 63 = .ok (.iload_n 3, 1) := by decide +kernel
theorem dX12_pick_64 : decode cX12_pick 64 = .ok (.istore_n 3, 1) := by decide +kernel
theorem dX12_pick_65 : decode cX12_pick 65 = .ok (.iinc 2 (-1), 3) := by decide +kernel
theorem dX12_pick_68 : decode cX12_pick 68 = .ok (.iinc 4 1, 3) := by decide +kernel
theorem dX12_pick_71 : decode cX12_pick 71 = .ok (.goto (-33), 3) := by decide +kernel
theorem dX12_pick_74 : decode cX12_pick 74 = .ok (.iload_n 3, 1) := by decide +kernel
theorem dX12_pick_75 : decode cX12_pick 75 = .ok (.ireturn, 1) := by decide +kernel
theorem dX12_answer_0 : decode cX12_answer 0 = .ok (.iload_n 2, 1) := by decide +kernel
theorem dX12_answer_1 : decode cX12_answer 1 = .ok (.invokestatic 161, 3) := by decide +kernel
theorem dX12_answer_4 : decode cX12_answer 4 = .ok (.ifCond .ne 6, 3) := by decide +kernel
theorem dX12_answer_7 : decode cX12_answer 7 = .ok (.bipush (-2), 2) := by decide +kernel
theorem dX12_answer_9 : decode cX12_answer 9 = .ok (.ireturn, 1) := by decide +kernel
theorem dX12_answer_10 : decode cX12_answer 10 = .ok (.iload_n 1, 1) := by decide +kernel
theorem dX12_answer_11 : decode cX12_answer 11 = .ok (.i2l, 1) := by decide +kernel
theorem dX12_answer_12 : decode cX12_answer 12 = .ok (.lconst 0, 1) := by decide +kernel
theorem dX12_answer_13 : decode cX12_answer 13 = .ok (.ldc2_w 205, 3) := by decide +kernel
theorem dX12_answer_16 : decode cX12_answer 16 = .ok (.invokestatic 131, 3) := by decide +kernel
theorem dX12_answer_19 : decode cX12_answer 19 = .ok (.ifCond .eq 8, 3) := by decide +kernel
theorem dX12_answer_22 : decode cX12_answer 22 = .ok (.iload_n 3, 1) := by decide +kernel
theorem dX12_answer_23 : decode cX12_answer 23 = .ok (.iconst (-1), 1) := by decide +kernel
theorem dX12_answer_24 : decode cX12_answer 24 = .ok (.if_icmp .ge 6, 3) := by decide +kernel
theorem dX12_answer_27 : decode cX12_answer 27 = .ok (.bipush (-3), 2) := by decide +kernel
theorem dX12_answer_29 : decode cX12_answer 29 = .ok (.ireturn, 1) := by decide +kernel
theorem dX12_answer_30 : decode cX12_answer 30 = .ok (.iload_n 1, 1) := by decide +kernel
theorem dX12_answer_31 : decode cX12_answer 31 = .ok (.i2l, 1) := by decide +kernel
theorem dX12_answer_32 : decode cX12_answer 32 = .ok (.lstore 4, 2) := by decide +kernel
theorem dX12_answer_34 : decode cX12_answer 34 = .ok (.aload_n 0, 1) := by decide +kernel
theorem dX12_answer_35 : decode cX12_answer 35 = .ok (.invokevirtual 191, 3) := by decide +kernel
theorem dX12_answer_38 : decode cX12_answer 38 = .ok (.iconst 1, 1) := by decide +kernel
theorem dX12_answer_39 : decode cX12_answer 39 = .ok (.istore 6, 2) := by decide +kernel
theorem dX12_answer_41 : decode cX12_answer 41 = .ok (.iload 6, 2) := by decide +kernel
theorem dX12_answer_43 : decode cX12_answer 43 = .ok (.ifCond .eq 76, 3) := by decide +kernel
theorem dX12_answer_46 : decode cX12_answer 46 = .ok (.aload_n 0, 1) := by decide +kernel
theorem dX12_answer_47 : decode cX12_answer 47 = .ok (.invokevirtual 194, 3) := by decide +kernel
theorem dX12_answer_50 : decode cX12_answer 50 = .ok (.lstore 7, 2) := by decide +kernel
theorem dX12_answer_52 : decode cX12_answer 52 = .ok (.lload 4, 2) := by decide +kernel
theorem dX12_answer_54 : decode cX12_answer 54 = .ok (.lload 7, 2) := by decide +kernel
theorem dX12_answer_56 : decode cX12_answer 56 = .ok (.lcmp, 1) := by decide +kernel
theorem dX12_answer_57 : decode cX12_answer 57 = .ok (.ifCond .ge 46, 3) := by decide +kernel
theorem dX12_answer_60 : decode cX12_answer 60 = .ok (.iload_n 3, 1) := by decide +kernel
theorem dX12_answer_61 : decode cX12_answer 61 = .ok (.iconst (-1), 1) := by decide +kernel
theorem dX12_answer_62 : decode cX12_answer 62 = .ok (.if_icmp .ne 12, 3) := by decide +kernel
theorem dX12_answer_65 : decode cX12_answer 65 = .ok (.aload_n 0, 1) := by decide +kernel
theorem dX12_answer_66 : decode cX12_answer 66 = .ok (.getfield 58, 3) := by decide +kernel
theorem dX12_answer_69 : decode cX12_answer 69 = .ok (.iload_n 2, 1) := by decide +kernel
theorem dX12_answer_70 : decode cX12_answer 70 = .ok (.iaload, 1) := by decide +kernel
theorem dX12_answer_71 : decode cX12_answer 71 = .ok (.goto 31, 3) := by decide +kernel
theorem dX12_answer_74 : decode cX12_answer 74 = .ok (.iload_n 3, 1) := by decide +kernel
theorem dX12_answer_75 : decode cX12_answer 75 = .ok (.aload_n 0, 1) := by decide +kernel
theorem dX12_answer_76 : decode cX12_answer 76 = .ok (.getfield 58, 3) := by decide +kernel
theorem dX12_answer_79 : decode cX12_answer 79 = .ok (.iload_n 2, 1) := by decide +kernel
theorem dX12_answer_80 : decode cX12_answer 80 = .ok (.iaload, 1) := by decide +kernel
theorem dX12_answer_81 : decode cX12_answer 81 = .ok (.if_icmp .ge 20, 3) := by decide +kernel
theorem dX12_answer_84 : decode cX12_answer 84 = .ok (.aload_n 0, 1) := by decide +kernel
theorem dX12_answer_85 : decode cX12_answer 85 = .ok (.lload 4, 2) := by decide +kernel
theorem dX12_answer_87 : decode cX12_answer 87 = .ok (.aload_n 0, 1) := by decide +kernel
theorem dX12_answer_88 : decode cX12_answer 88 = .ok (.getfield 61, 3) := by decide +kernel
theorem dX12_answer_91 : decode cX12_answer 91 = .ok (.iload_n 2, 1) := by decide +kernel
theorem dX12_answer_92 : decode cX12_answer 92 = .ok (.iaload, 1) := by decide +kernel
theorem dX12_answer_93 : decode cX12_answer 93 = .ok (.iload_n 3, 1) := by decide +kernel
theorem dX12_answer_94 : decode cX12_answer 94 = .ok (.iadd, 1) := by decide +kernel
theorem dX12_answer_95 : decode cX12_answer 95 = .ok (.invokevirtual 207, 3) := by decide +kernel
theorem dX12_answer_98 : decode cX12_answer 98 = .ok (.goto 4, 3) := by decide +kernel
theorem dX12_answer_101 : decode cX12_answer 101 = .ok (.iconst (-1), 1) := by decide +kernel
theorem dX12_answer_102 : decode cX12_answer 102 = .ok (.ireturn, 1) := by decide +kernel
theorem dX12_answer_103 : decode cX12_answer 103 = .ok (.lload 4, 2) := by decide +kernel
theorem dX12_answer_105 : decode cX12_answer 105 = .ok (.lload 7, 2) := by decide +kernel
theorem dX12_answer_107 : decode cX12_answer 107 = .ok (.lsub, 1) := by decide +kernel
theorem dX12_answer_108 : decode cX12_answer 108 = .ok (.lstore 4, 2) := by decide +kernel
theorem dX12_answer_110 : decode cX12_answer 110 = .ok (.aload_n 0, 1) := by decide +kernel
theorem dX12_answer_111 : decode cX12_answer 111 = .ok (.invokevirtual 198, 3) := by decide +kernel
theorem dX12_answer_114 : decode cX12_answer 114 = .ok (.istore 6, 2) := by decide +kernel
theorem dX12_answer_116 : decode cX12_answer 116 = .ok (.goto (-75), 3) := by decide +kernel
theorem dX12_answer_119 : decode cX12_answer 119 = .ok (.iconst (-1), 1) := by decide +kernel
theorem dX12_answer_120 : decode cX12_answer 120 = .ok (.ireturn, 1) := by decide +kernel
theorem dX12_tell_0 : decode cX12_tell 0 = .ok (.iload_n 1, 1) := by decide +kernel
theorem dX12_tell_1 : decode cX12_tell 1 = .ok (.invokestatic 161, 3) := by decide +kernel
theorem dX12_tell_4 : decode cX12_tell 4 = .ok (.ifCond .ne 6, 3) := by decide +kernel
theorem dX12_tell_7 : decode cX12_tell 7 = .ok (.bipush (-2), 2) := by decide +kernel
theorem dX12_tell_9 : decode cX12_tell 9 = .ok (.ireturn, 1) := by decide +kernel
theorem dX12_tell_10 : decode cX12_tell 10 = .ok (.iload_n 3, 1) := by decide +kernel
theorem dX12_tell_11 : decode cX12_tell 11 = .ok (.i2l, 1) := by decide +kernel
theorem dX12_tell_12 : decode cX12_tell 12 = .ok (.lconst 0, 1) := by decide +kernel
theorem dX12_tell_13 : decode cX12_tell 13 = .ok (.ldc2_w 135, 3) := by decide +kernel
theorem dX12_tell_16 : decode cX12_tell 16 = .ok (.invokestatic 131, 3) := by decide +kernel
theorem dX12_tell_19 : decode cX12_tell 19 = .ok (.istore 4, 2) := by decide +kernel
theorem dX12_tell_21 : decode cX12_tell 21 = .ok (.iconst 0, 1) := by decide +kernel
theorem dX12_tell_22 : decode cX12_tell 22 = .ok (.istore 5, 2) := by decide +kernel
theorem dX12_tell_24 : decode cX12_tell 24 = .ok (.iload 4, 2) := by decide +kernel
theorem dX12_tell_26 : decode cX12_tell 26 = .ok (.ifCond .eq 34, 3) := by decide +kernel
theorem dX12_tell_29 : decode cX12_tell 29 = .ok (.iload 5, 2) := by decide +kernel
theorem dX12_tell_31 : decode cX12_tell 31 = .ok (.iload_n 3, 1) := by decide +kernel
theorem dX12_tell_32 : decode cX12_tell 32 = .ok (.if_icmp .ge 28, 3) := by decide +kernel
theorem dX12_tell_35 : decode cX12_tell 35 = .ok (.iload_n 2, 1) := by decide +kernel
theorem dX12_tell_36 : decode cX12_tell 36 = .ok (.iconst 2, 1) := by decide +kernel
theorem dX12_tell_37 : decode cX12_tell 37 = .ok (.iload 5, 2) := by decide +kernel
theorem dX12_tell_39 : decode cX12_tell 39 = .ok (.imul, 1) := by decide +kernel
theorem dX12_tell_40 : decode cX12_tell 40 = .ok (.ishr, 1) := by decide +kernel
theorem dX12_tell_41 : decode cX12_tell 41 = .ok (.iconst 3, 1) := by decide +kernel
theorem dX12_tell_42 : decode cX12_tell 42 = .ok (.iand, 1) := by decide +kernel
theorem dX12_tell_43 : decode cX12_tell 43 = .ok (.iconst 3, 1) := by decide +kernel
theorem dX12_tell_44 : decode cX12_tell 44 = .ok (.if_icmp .ge 7, 3) := by decide +kernel
theorem dX12_tell_47 : decode cX12_tell 47 = .ok (.iconst 1, 1) := by decide +kernel
theorem dX12_tell_48 : decode cX12_tell 48 = .ok (.goto 4, 3) := by decide +kernel
theorem dX12_tell_51 : decode cX12_tell 51 = .ok (.iconst 0, 1) := by decide +kernel
theorem dX12_tell_52 : decode cX12_tell 52 = .ok (.istore 4, 2) := by decide +kernel
theorem dX12_tell_54 : decode cX12_tell 54 = .ok (.iinc 5 1, 3) := by decide +kernel
theorem dX12_tell_57 : decode cX12_tell 57 = .ok (.goto (-33), 3) := by decide +kernel
theorem dX12_tell_60 : decode cX12_tell 60 = .ok (.iload 4, 2) := by decide +kernel
theorem dX12_tell_62 : decode cX12_tell 62 = .ok (.ifCond .ne 6, 3) := by decide +kernel
theorem dX12_tell_65 : decode cX12_tell 65 = .ok (.bipush (-3), 2) := by decide +kernel
theorem dX12_tell_67 : decode cX12_tell 67 = .ok (.ireturn, 1) := by decide +kernel
theorem dX12_tell_68 : decode cX12_tell 68 = .ok (.aload_n 0, 1) := by decide +kernel
theorem dX12_tell_69 : decode cX12_tell 69 = .ok (.getfield 28, 3) := by decide +kernel
theorem dX12_tell_72 : decode cX12_tell 72 = .ok (.iload_n 1, 1) := by decide +kernel
theorem dX12_tell_73 : decode cX12_tell 73 = .ok (.iload_n 2, 1) := by decide +kernel
theorem dX12_tell_74 : decode cX12_tell 74 = .ok (.iastore, 1) := by decide +kernel
theorem dX12_tell_75 : decode cX12_tell 75 = .ok (.aload_n 0, 1) := by decide +kernel
theorem dX12_tell_76 : decode cX12_tell 76 = .ok (.getfield 31, 3) := by decide +kernel
theorem dX12_tell_79 : decode cX12_tell 79 = .ok (.iload_n 1, 1) := by decide +kernel
theorem dX12_tell_80 : decode cX12_tell 80 = .ok (.iload_n 3, 1) := by decide +kernel
theorem dX12_tell_81 : decode cX12_tell 81 = .ok (.iastore, 1) := by decide +kernel
theorem dX12_tell_82 : decode cX12_tell 82 = .ok (.iconst 1, 1) := by decide +kernel
theorem dX12_tell_83 : decode cX12_tell 83 = .ok (.ireturn, 1) := by decide +kernel
theorem dX12_areTold_0 : decode cX12_areTold 0 = .ok (.iconst 1, 1) := by decide +kernel
theorem dX12_areTold_1 : decode cX12_areTold 1 = .ok (.istore_n 1, 1) := by decide +kernel
theorem dX12_areTold_2 : decode cX12_areTold 2 = .ok (.iconst 0, 1) := by decide +kernel
theorem dX12_areTold_3 : decode cX12_areTold 3 = .ok (.istore_n 2, 1) := by decide +kernel
theorem dX12_areTold_4 : decode cX12_areTold 4 = .ok (.iload_n 2, 1) := by decide +kernel
theorem dX12_areTold_5 : decode cX12_areTold 5 = .ok (.iconst 4, 1) := by decide +kernel
theorem dX12_areTold_6 : decode cX12_areTold 6 = .ok (.if_icmp .ge 34, 3) := by decide +kernel
theorem dX12_areTold_9 : decode cX12_areTold 9 = .ok (.iload_n 1, 1) := by decide +kernel
theorem dX12_areTold_10 : decode cX12_areTold 10 = .ok (.ifCond .eq 22, 3) := by decide +kernel
theorem dX12_areTold_13 : decode cX12_areTold 13 = .ok (.aload_n 0, 1) := by decide +kernel
theorem dX12_areTold_14 : decode cX12_areTold 14 = .ok (.getfield 58, 3) := by decide +kernel
theorem dX12_areTold_17 : decode cX12_areTold 17 = .ok (.iload_n 2, 1) := by decide +kernel
theorem dX12_areTold_18 : decode cX12_areTold 18 = .ok (.iaload, 1) := by decide +kernel
theorem dX12_areTold_19 : decode cX12_areTold 19 = .ok (.aload_n 0, 1) := by decide +kernel
theorem dX12_areTold_20 : decode cX12_areTold 20 = .ok (.getfield 31, 3) := by decide +kernel
theorem dX12_areTold_23 : decode cX12_areTold 23 = .ok (.iload_n 2, 1) := by decide +kernel
theorem dX12_areTold_24 : decode cX12_areTold 24 = .ok (.iaload, 1) := by decide +kernel
theorem dX12_areTold_25 : decode cX12_areTold 25 = .ok (.if_icmp .ne 7, 3) := by decide +kernel
theorem dX12_areTold_28 : decode cX12_areTold 28 = .ok (.iconst 1, 1) := by decide +kernel
theorem dX12_areTold_29 : decode cX12_areTold 29 = .ok (.goto 4, 3) := by decide +kernel
theorem dX12_areTold_32 : decode cX12_areTold 32 = .ok (.iconst 0, 1) := by decide +kernel
theorem dX12_areTold_33 : decode cX12_areTold 33 = .ok (.istore_n 1, 1) := by decide +kernel
theorem dX12_areTold_34 : decode cX12_areTold 34 = .ok (.iinc 2 1, 3) := by decide +kernel
theorem dX12_areTold_37 : decode cX12_areTold 37 = .ok (.goto (-33), 3) := by decide +kernel
theorem dX12_areTold_40 : decode cX12_areTold 40 = .ok (.iload_n 1, 1) := by decide +kernel
theorem dX12_areTold_41 : decode cX12_areTold 41 = .ok (.ireturn, 1) := by decide +kernel
theorem dX12_toldAt_0 : decode cX12_toldAt 0 = .ok (.iconst 3, 1) := by decide +kernel
theorem dX12_toldAt_1 : decode cX12_toldAt 1 = .ok (.istore_n 2, 1) := by decide +kernel
theorem dX12_toldAt_2 : decode cX12_toldAt 2 = .ok (.aload_n 0, 1) := by decide +kernel
theorem dX12_toldAt_3 : decode cX12_toldAt 3 = .ok (.getfield 61, 3) := by decide +kernel
theorem dX12_toldAt_6 : decode cX12_toldAt 6 = .ok (.iload_n 2, 1) := by decide +kernel
theorem dX12_toldAt_7 : decode cX12_toldAt 7 = .ok (.iaload, 1) := by decide +kernel
theorem dX12_toldAt_8 : decode cX12_toldAt 8 = .ok (.iload_n 1, 1) := by decide +kernel
theorem dX12_toldAt_9 : decode cX12_toldAt 9 = .ok (.if_icmp .gt 12, 3) := by decide +kernel
theorem dX12_toldAt_12 : decode cX12_toldAt 12 = .ok (.aload_n 0, 1) := by decide +kernel
theorem dX12_toldAt_13 : decode cX12_toldAt 13 = .ok (.getfield 58, 3) := by decide +kernel
theorem dX12_toldAt_16 : decode cX12_toldAt 16 = .ok (.iload_n 2, 1) := by decide +kernel
theorem dX12_toldAt_17 : decode cX12_toldAt 17 = .ok (.iaload, 1) := by decide +kernel
theorem dX12_toldAt_18 : decode cX12_toldAt 18 = .ok (.ifCond .ne 9, 3) := by decide +kernel
theorem dX12_toldAt_21 : decode cX12_toldAt 21 = .ok (.iinc 2 (-1), 3) := by decide +kernel
theorem dX12_toldAt_24 : decode cX12_toldAt 24 = .ok (.goto (-22), 3) := by decide +kernel
theorem dX12_toldAt_27 : decode cX12_toldAt 27 = .ok (.aload_n 0, 1) := by decide +kernel
theorem dX12_toldAt_28 : decode cX12_toldAt 28 = .ok (.getfield 28, 3) := by decide +kernel
theorem dX12_toldAt_31 : decode cX12_toldAt 31 = .ok (.iload_n 2, 1) := by decide +kernel
theorem dX12_toldAt_32 : decode cX12_toldAt 32 = .ok (.iaload, 1) := by decide +kernel
theorem dX12_toldAt_33 : decode cX12_toldAt 33 = .ok (.iconst 2, 1) := by decide +kernel
theorem dX12_toldAt_34 : decode cX12_toldAt 34 = .ok (.iload_n 1, 1) := by decide +kernel
theorem dX12_toldAt_35 : decode cX12_toldAt 35 = .ok (.aload_n 0, 1) := by decide +kernel
theorem dX12_toldAt_36 : decode cX12_toldAt 36 = .ok (.getfield 61, 3) := by decide +kernel
theorem dX12_toldAt_39 : decode cX12_toldAt 39 = .ok (.iload_n 2, 1) := by decide +kernel
theorem dX12_toldAt_40 : decode cX12_toldAt 40 = .ok (.iaload, 1) := by decide +kernel
theorem dX12_toldAt_41 : decode cX12_toldAt 41 = .ok (.isub, 1) := by decide +kernel
theorem dX12_toldAt_42 : decode cX12_toldAt 42 = .ok (.imul, 1) := by decide +kernel
theorem dX12_toldAt_43 : decode cX12_toldAt 43 = .ok (.ishr, 1) := by decide +kernel
theorem dX12_toldAt_44 : decode cX12_toldAt 44 = .ok (.iconst 3, 1) := by decide +kernel
theorem dX12_toldAt_45 : decode cX12_toldAt 45 = .ok (.iand, 1) := by decide +kernel
theorem dX12_toldAt_46 : decode cX12_toldAt 46 = .ok (.ireturn, 1) := by decide +kernel
theorem dX12_rank_0 : decode cX12_rank 0 = .ok (.lconst 0, 1) := by decide +kernel
theorem dX12_rank_1 : decode cX12_rank 1 = .ok (.lstore_n 1, 1) := by decide +kernel
theorem dX12_rank_2 : decode cX12_rank 2 = .ok (.aload_n 0, 1) := by decide +kernel
theorem dX12_rank_3 : decode cX12_rank 3 = .ok (.invokevirtual 191, 3) := by decide +kernel
theorem dX12_rank_6 : decode cX12_rank 6 = .ok (.iconst 1, 1) := by decide +kernel
theorem dX12_rank_7 : decode cX12_rank 7 = .ok (.istore_n 3, 1) := by decide +kernel
theorem dX12_rank_8 : decode cX12_rank 8 = .ok (.iload_n 3, 1) := by decide +kernel
theorem dX12_rank_9 : decode cX12_rank 9 = .ok (.ifCond .eq 46, 3) := by decide +kernel
theorem dX12_rank_12 : decode cX12_rank 12 = .ok (.aload_n 0, 1) := by decide +kernel
theorem dX12_rank_13 : decode cX12_rank 13 = .ok (.invokevirtual 194, 3) := by decide +kernel
theorem dX12_rank_16 : decode cX12_rank 16 = .ok (.lstore 4, 2) := by decide +kernel
theorem dX12_rank_18 : decode cX12_rank 18 = .ok (.aload_n 0, 1) := by decide +kernel
theorem dX12_rank_19 : decode cX12_rank 19 = .ok (.invokevirtual 211, 3) := by decide +kernel
theorem dX12_rank_22 : decode cX12_rank 22 = .ok (.ifCond .eq 20, 3) := by decide +kernel
theorem dX12_rank_25 : decode cX12_rank 25 = .ok (.lload 4, 2) := by decide +kernel
theorem dX12_rank_27 : decode cX12_rank 27 = .ok (.lconst 0, 1) := by decide +kernel
theorem dX12_rank_28 : decode cX12_rank 28 = .ok (.lcmp, 1) := by decide +kernel
theorem dX12_rank_29 : decode cX12_rank 29 = .ok (.ifCond .ne 7, 3) := by decide +kernel
theorem dX12_rank_32 : decode cX12_rank 32 = .ok (.iconst (-1), 1) := by decide +kernel
theorem dX12_rank_33 : decode cX12_rank 33 = .ok (.goto 8, 3) := by decide +kernel
theorem dX12_rank_36 : decode cX12_rank 36 = .ok (.aload_n 0, 1) := by decide +kernel
theorem dX12_rank_37 : decode cX12_rank 37 = .ok (.lload_n 1, 1) := by decide +kernel
theorem dX12_rank_38 : decode cX12_rank 38 = .ok (.invokevirtual 214, 3) := by decide +kernel
theorem dX12_rank_41 : decode cX12_rank 41 = .ok (.ireturn, 1) := by decide +kernel
theorem dX12_rank_42 : decode cX12_rank 42 = .ok (.lload_n 1, 1) := by decide +kernel
theorem dX12_rank_43 : decode cX12_rank 43 = .ok (.lload 4, 2) := by decide +kernel
theorem dX12_rank_45 : decode cX12_rank 45 = .ok (.ladd, 1) := by decide +kernel
theorem dX12_rank_46 : decode cX12_rank 46 = .ok (.lstore_n 1, 1) := by decide +kernel
theorem dX12_rank_47 : decode cX12_rank 47 = .ok (.aload_n 0, 1) := by decide +kernel
theorem dX12_rank_48 : decode cX12_rank 48 = .ok (.invokevirtual 198, 3) := by decide +kernel
theorem dX12_rank_51 : decode cX12_rank 51 = .ok (.istore_n 3, 1) := by decide +kernel
theorem dX12_rank_52 : decode cX12_rank 52 = .ok (.goto (-44), 3) := by decide +kernel
theorem dX12_rank_55 : decode cX12_rank 55 = .ok (.iconst (-1), 1) := by decide +kernel
theorem dX12_rank_56 : decode cX12_rank 56 = .ok (.ireturn, 1) := by decide +kernel
theorem dX12_rankNow_0 : decode cX12_rankNow 0 = .ok (.lconst 0, 1) := by decide +kernel
theorem dX12_rankNow_1 : decode cX12_rankNow 1 = .ok (.lstore_n 3, 1) := by decide +kernel
theorem dX12_rankNow_2 : decode cX12_rankNow 2 = .ok (.iconst 0, 1) := by decide +kernel
theorem dX12_rankNow_3 : decode cX12_rankNow 3 = .ok (.istore 5, 2) := by decide +kernel
theorem dX12_rankNow_5 : decode cX12_rankNow 5 = .ok (.iload 5, 2) := by decide +kernel
theorem dX12_rankNow_7 : decode cX12_rankNow 7 = .ok (.aload_n 0, 1) := by decide +kernel
theorem dX12_rankNow_8 : decode cX12_rankNow 8 = .ok (.getfield 172, 3) := by decide +kernel
theorem dX12_rankNow_11 : decode cX12_rankNow 11 = .ok (.if_icmp .ge 163, 3) := by decide +kernel
theorem dX12_rankNow_14 : decode cX12_rankNow 14 = .ok (.aload_n 0, 1) := by decide +kernel
theorem dX12_rankNow_15 : decode cX12_rankNow 15 = .ok (.iload 5, 2) := by decide +kernel
theorem dX12_rankNow_17 : decode cX12_rankNow 17 = .ok (.invokevirtual 218, 3) := by decide +kernel
theorem dX12_rankNow_20 : decode cX12_rankNow 20 = .ok (.istore 6, 2) := by decide +kernel
theorem dX12_rankNow_22 : decode cX12_rankNow 22 = .ok (.aload_n 0, 1) := by decide +kernel
theorem dX12_rankNow_23 : decode cX12_rankNow 23 = .ok (.iload 5, 2) := by decide +kernel
theorem dX12_rankNow_25 : decode cX12_rankNow 25 = .ok (.invokevirtual 166, 3) := by decide +kernel
theorem dX12_rankNow_28 : decode cX12_rankNow 28 = .ok (.istore 7, 2) := by decide +kernel
theorem dX12_rankNow_30 : decode cX12_rankNow 30 = .ok (.aload_n 0, 1) := by decide +kernel
theorem dX12_rankNow_31 : decode cX12_rankNow 31 = .ok (.getfield 67, 3) := by decide +kernel
theorem dX12_rankNow_34 : decode cX12_rankNow 34 = .ok (.iload 7, 2) := by decide +kernel
theorem dX12_rankNow_36 : decode cX12_rankNow 36 = .ok (.iaload, 1) := by decide +kernel
theorem dX12_rankNow_37 : decode cX12_rankNow 37 = .ok (.iload 6, 2) := by decide +kernel
theorem dX12_rankNow_39 : decode cX12_rankNow 39 = .ok (.ishr, 1) := by decide +kernel
theorem dX12_rankNow_40 : decode cX12_rankNow 40 = .ok (.iconst 1, 1) := by decide +kernel
theorem dX12_rankNow_41 : decode cX12_rankNow 41 = .ok (.iand, 1) := by decide +kernel
theorem dX12_rankNow_42 : decode cX12_rankNow 42 = .ok (.ifCond .eq 14, 3) := by decide +kernel
theorem dX12_rankNow_45 : decode cX12_rankNow 45 = .ok (.aload_n 0, 1) := by decide +kernel
theorem dX12_rankNow_46 : decode cX12_rankNow 46 = .ok (.iload 7, 2) := by decide +kernel
theorem dX12_rankNow_48 : decode cX12_rankNow 48 = .ok (.invokevirtual 218, 3) := by decide +kernel
theorem dX12_rankNow_51 : decode cX12_rankNow 51 = .ok (.iload 6, 2) := by decide +kernel
theorem dX12_rankNow_53 : decode cX12_rankNow 53 = .ok (.if_icmp .eq 5, 3) := by decide +kernel
theorem dX12_rankNow_56 : decode cX12_rankNow 56 = .ok (.iconst (-1), 1) := by decide +kernel
theorem dX12_rankNow_57 : decode cX12_rankNow 57 = .ok (.ireturn, 1) := by decide +kernel
theorem dX12_rankNow_58 : decode cX12_rankNow 58 = .ok (.iload 7, 2) := by decide +kernel
theorem dX12_rankNow_60 : decode cX12_rankNow 60 = .ok (.iload 5, 2) := by decide +kernel
theorem dX12_rankNow_62 : decode cX12_rankNow 62 = .ok (.if_icmp .ne 106, 3) := by decide +kernel
theorem dX12_rankNow_65 : decode cX12_rankNow 65 = .ok (.aload_n 0, 1) := by decide +kernel
theorem dX12_rankNow_66 : decode cX12_rankNow 66 = .ok (.getfield 67, 3) := by decide +kernel
theorem dX12_rankNow_69 : decode cX12_rankNow 69 = .ok (.iload 5, 2) := by decide +kernel
theorem dX12_rankNow_71 : decode cX12_rankNow 71 = .ok (.iaload, 1) := by decide +kernel
theorem dX12_rankNow_72 : decode cX12_rankNow 72 = .ok (.iconst 1, 1) := by decide +kernel
theorem dX12_rankNow_73 : decode cX12_rankNow 73 = .ok (.iand, 1) := by decide +kernel
theorem dX12_rankNow_74 : decode cX12_rankNow 74 = .ok (.aload_n 0, 1) := by decide +kernel
theorem dX12_rankNow_75 : decode cX12_rankNow 75 = .ok (.getfield 67, 3) := by decide +kernel
theorem dX12_rankNow_78 : decode cX12_rankNow 78 = .ok (.iload 5, 2) := by decide +kernel
theorem dX12_rankNow_80 : decode cX12_rankNow 80 = .ok (.iaload, 1) := by decide +kernel
theorem dX12_rankNow_81 : decode cX12_rankNow 81 = .ok (.iconst 1, 1) := by decide +kernel
theorem dX12_rankNow_82 : decode cX12_rankNow 82 = .ok (.ishr, 1) := by decide +kernel
theorem dX12_rankNow_83 : decode cX12_rankNow 83 = .ok (.iconst 1, 1) := by decide +kernel
theorem dX12_rankNow_84 : decode cX12_rankNow 84 = .ok (.iand, 1) := by decide +kernel
theorem dX12_rankNow_85 : decode cX12_rankNow 85 = .ok (.iadd, 1) := by decide +kernel
theorem dX12_rankNow_86 : decode cX12_rankNow 86 = .ok (.aload_n 0, 1) := by decide +kernel
theorem dX12_rankNow_87 : decode cX12_rankNow 87 = .ok (.getfield 67, 3) := by decide +kernel
theorem dX12_rankNow_90 : decode cX12_rankNow 90 = .ok (.iload 5, 2) := by decide +kernel
theorem dX12_rankNow_92 : decode cX12_rankNow 92 = .ok (.iaload, 1) := by decide +kernel
theorem dX12_rankNow_93 : decode cX12_rankNow 93 = .ok (.iconst 2, 1) := by decide +kernel
theorem dX12_rankNow_94 : decode cX12_rankNow 94 = .ok (.ishr, 1) := by decide +kernel
theorem dX12_rankNow_95 : decode cX12_rankNow 95 = .ok (.iconst 1, 1) := by decide +kernel
theorem dX12_rankNow_96 : decode cX12_rankNow 96 = .ok (.iand, 1) := by decide +kernel
theorem dX12_rankNow_97 : decode cX12_rankNow 97 = .ok (.iadd, 1) := by decide +kernel
theorem dX12_rankNow_98 : decode cX12_rankNow 98 = .ok (.istore 8, 2) := by decide +kernel
theorem dX12_rankNow_100 : decode cX12_rankNow 100 = .ok (.iconst 0, 1) := by decide +kernel
theorem dX12_rankNow_101 : decode cX12_rankNow 101 = .ok (.istore 9, 2) := by decide +kernel
theorem dX12_rankNow_103 : decode cX12_rankNow 103 = .ok (.iconst 0, 1) := by decide +kernel
theorem dX12_rankNow_104 : decode cX12_rankNow 104 = .ok (.istore 10, 2) := by decide +kernel
theorem dX12_rankNow_106 : decode cX12_rankNow 106 = .ok (.iload 10, 2) := by decide +kernel
theorem dX12_rankNow_108 : decode cX12_rankNow 108 = .ok (.iload 6, 2) := by decide +kernel
theorem dX12_rankNow_110 : decode cX12_rankNow 110 = .ok (.if_icmp .ge 26, 3) := by decide +kernel
theorem dX12_rankNow_113 : decode cX12_rankNow 113 = .ok (.iload 9, 2) := by decide +kernel
theorem dX12_rankNow_115 : decode cX12_rankNow 115 = .ok (.aload_n 0, 1) := by decide +kernel
theorem dX12_rankNow_116 : decode cX12_rankNow 116 = .ok (.getfield 67, 3) := by decide +kernel
theorem dX12_rankNow_119 : decode cX12_rankNow 119 = .ok (.iload 5, 2) := by decide +kernel
theorem dX12_rankNow_121 : decode cX12_rankNow 121 = .ok (.iaload, 1) := by decide +kernel
theorem dX12_rankNow_122 : decode cX12_rankNow 122 = .ok (.iload 10, 2) := by decide +kernel
theorem dX12_rankNow_124 : decode cX12_rankNow 124 = .ok (.ishr, 1) := by decide +kernel
theorem dX12_rankNow_125 : decode cX12_rankNow 125 = .ok (.iconst 1, 1) := by decide +kernel
theorem dX12_rankNow_126 : decode cX12_rankNow 126 = .ok (.iand, 1) := by decide +kernel
theorem dX12_rankNow_127 : decode cX12_rankNow 127 = .ok (.iadd, 1) := by decide +kernel
theorem dX12_rankNow_128 : decode cX12_rankNow 128 = .ok (.istore 9, 2) := by decide +kernel
theorem dX12_rankNow_130 : decode cX12_rankNow 130 = .ok (.iinc 10 1, 3) := by decide +kernel
theorem dX12_rankNow_133 : decode cX12_rankNow 133 = .ok (.goto (-27), 3) := by decide +kernel
theorem dX12_rankNow_136 : decode cX12_rankNow 136 = .ok (.lload_n 3, 1) := by decide +kernel
theorem dX12_rankNow_137 : decode cX12_rankNow 137 = .ok (.iload 8, 2) := by decide +kernel
theorem dX12_rankNow_139 : decode cX12_rankNow 139 = .ok (.i2l, 1) := by decide +kernel
theorem dX12_rankNow_140 : decode cX12_rankNow 140 = .ok (.lmul, 1) := by decide +kernel
theorem dX12_rankNow_141 : decode cX12_rankNow 141 = .ok (.iload 9, 2) := by decide +kernel
theorem dX12_rankNow_143 : decode cX12_rankNow 143 = .ok (.i2l, 1) := by decide +kernel
theorem dX12_rankNow_144 : decode cX12_rankNow 144 = .ok (.ladd, 1) := by decide +kernel
theorem dX12_rankNow_145 : decode cX12_rankNow 145 = .ok (.ldc2_w 186, 3) := by decide +kernel
theorem dX12_rankNow_148 : decode cX12_rankNow 148 = .ok (.lcmp, 1) := by decide +kernel
theorem dX12_rankNow_149 : decode cX12_rankNow 149 = .ok (.ifCond .le 9, 3) := by decide +kernel
theorem dX12_rankNow_152 : decode cX12_rankNow 152 = .ok (.ldc2_w 186, 3) := by decide +kernel
theorem dX12_rankNow_155 : decode cX12_rankNow 155 = .ok (.goto 12, 3) := by decide +kernel
theorem dX12_rankNow_158 : decode cX12_rankNow 158 = .ok (.lload_n 3, 1) := by decide +kernel
theorem dX12_rankNow_159 : decode cX12_rankNow 159 = .ok (.iload 8, 2) := by decide +kernel
theorem dX12_rankNow_161 : decode cX12_rankNow 161 = .ok (.i2l, 1) := by decide +kernel
theorem dX12_rankNow_162 : decode cX12_rankNow 162 = .ok (.lmul, 1) := by decide +kernel
theorem dX12_rankNow_163 : decode cX12_rankNow 163 = .ok (.iload 9, 2) := by decide +kernel
theorem dX12_rankNow_165 : decode cX12_rankNow 165 = .ok (.i2l, 1) := by decide +kernel
theorem dX12_rankNow_166 : decode cX12_rankNow 166 = .ok (.ladd, 1) := by decide +kernel
theorem dX12_rankNow_167 : decode cX12_rankNow 167 = .ok (.lstore_n 3, 1) := by decide +kernel
theorem dX12_rankNow_168 : decode cX12_rankNow 168 = .ok (.iinc 5 1, 3) := by decide +kernel
theorem dX12_rankNow_171 : decode cX12_rankNow 171 = .ok (.goto (-166), 3) := by decide +kernel
theorem dX12_rankNow_174 : decode cX12_rankNow 174 = .ok (.lload_n 1, 1) := by decide +kernel
theorem dX12_rankNow_175 : decode cX12_rankNow 175 = .ok (.lload_n 3, 1) := by decide +kernel
theorem dX12_rankNow_176 : decode cX12_rankNow 176 = .ok (.ladd, 1) := by decide +kernel
theorem dX12_rankNow_177 : decode cX12_rankNow 177 = .ok (.ldc2_w 221, 3) := by decide +kernel
theorem dX12_rankNow_180 : decode cX12_rankNow 180 = .ok (.lcmp, 1) := by decide +kernel
theorem dX12_rankNow_181 : decode cX12_rankNow 181 = .ok (.ifCond .le 8, 3) := by decide +kernel
theorem dX12_rankNow_184 : decode cX12_rankNow 184 = .ok (.ldc 223, 2) := by decide +kernel
theorem dX12_rankNow_186 : decode cX12_rankNow 186 = .ok (.goto 7, 3) := by decide +kernel
theorem dX12_rankNow_189 : decode cX12_rankNow 189 = .ok (.lload_n 1, 1) := by decide +kernel
theorem dX12_rankNow_190 : decode cX12_rankNow 190 = .ok (.lload_n 3, 1) := by decide +kernel
theorem dX12_rankNow_191 : decode cX12_rankNow 191 = .ok (.ladd, 1) := by decide +kernel
theorem dX12_rankNow_192 : decode cX12_rankNow 192 = .ok (.l2i, 1) := by decide +kernel
theorem dX12_rankNow_193 : decode cX12_rankNow 193 = .ok (.ireturn, 1) := by decide +kernel
theorem dX12_sure_0 : decode cX12_sure 0 = .ok (.iload_n 1, 1) := by decide +kernel
theorem dX12_sure_1 : decode cX12_sure 1 = .ok (.invokestatic 161, 3) := by decide +kernel
theorem dX12_sure_4 : decode cX12_sure 4 = .ok (.ifCond .ne 6, 3) := by decide +kernel
theorem dX12_sure_7 : decode cX12_sure 7 = .ok (.bipush (-2), 2) := by decide +kernel
theorem dX12_sure_9 : decode cX12_sure 9 = .ok (.ireturn, 1) := by decide +kernel
theorem dX12_sure_10 : decode cX12_sure 10 = .ok (.iload_n 2, 1) := by decide +kernel
theorem dX12_sure_11 : decode cX12_sure 11 = .ok (.i2l, 1) := by decide +kernel
theorem dX12_sure_12 : decode cX12_sure 12 = .ok (.lconst 0, 1) := by decide +kernel
theorem dX12_sure_13 : decode cX12_sure 13 = .ok (.ldc2_w 164, 3) := by decide +kernel
theorem dX12_sure_16 : decode cX12_sure 16 = .ok (.invokestatic 131, 3) := by decide +kernel
theorem dX12_sure_19 : decode cX12_sure 19 = .ok (.ifCond .ne 6, 3) := by decide +kernel
theorem dX12_sure_22 : decode cX12_sure 22 = .ok (.bipush (-3), 2) := by decide +kernel
theorem dX12_sure_24 : decode cX12_sure 24 = .ok (.ireturn, 1) := by decide +kernel
theorem dX12_sure_25 : decode cX12_sure 25 = .ok (.iconst 0, 1) := by decide +kernel
theorem dX12_sure_26 : decode cX12_sure 26 = .ok (.istore_n 3, 1) := by decide +kernel
theorem dX12_sure_27 : decode cX12_sure 27 = .ok (.iconst 0, 1) := by decide +kernel
theorem dX12_sure_28 : decode cX12_sure 28 = .ok (.istore 4, 2) := by decide +kernel
theorem dX12_sure_30 : decode cX12_sure 30 = .ok (.aload_n 0, 1) := by decide +kernel
theorem dX12_sure_31 : decode cX12_sure 31 = .ok (.invokevirtual 191, 3) := by decide +kernel
theorem dX12_sure_34 : decode cX12_sure 34 = .ok (.iconst 1, 1) := by decide +kernel
theorem dX12_sure_35 : decode cX12_sure 35 = .ok (.istore 5, 2) := by decide +kernel
theorem dX12_sure_37 : decode cX12_sure 37 = .ok (.iload 5, 2) := by decide +kernel
theorem dX12_sure_39 : decode cX12_sure 39 = .ok (.ifCond .eq 59, 3) := by decide +kernel
theorem dX12_sure_42 : decode cX12_sure 42 = .ok (.aload_n 0, 1) := by decide +kernel
theorem dX12_sure_43 : decode cX12_sure 43 = .ok (.invokevirtual 194, 3) := by decide +kernel
theorem dX12_sure_46 : decode cX12_sure 46 = .ok (.lconst 0, 1) := by decide +kernel
theorem dX12_sure_47 : decode cX12_sure 47 = .ok (.lcmp, 1) := by decide +kernel
theorem dX12_sure_48 : decode cX12_sure 48 = .ok (.ifCond .le 41, 3) := by decide +kernel
theorem dX12_sure_51 : decode cX12_sure 51 = .ok (.iconst 1, 1) := by decide +kernel
theorem dX12_sure_52 : decode cX12_sure 52 = .ok (.istore 4, 2) := by decide +kernel
theorem dX12_sure_54 : decode cX12_sure 54 = .ok (.iload_n 3, 1) := by decide +kernel
theorem dX12_sure_55 : decode cX12_sure 55 = .ok (.iload_n 2, 1) := by decide +kernel
theorem dX12_sure_56 : decode cX12_sure 56 = .ok (.aload_n 0, 1) := by decide +kernel
theorem dX12_sure_57 : decode cX12_sure 57 = .ok (.getfield 58, 3) := by decide +kernel
theorem dX12_sure_60 : decode cX12_sure 60 = .ok (.iload_n 1, 1) := by decide +kernel
theorem dX12_sure_61 : decode cX12_sure 61 = .ok (.iaload, 1) := by decide +kernel
theorem dX12_sure_62 : decode cX12_sure 62 = .ok (.if_icmp .ge 23, 3) := by decide +kernel
theorem dX12_sure_65 : decode cX12_sure 65 = .ok (.aload_n 0, 1) := by decide +kernel
theorem dX12_sure_66 : decode cX12_sure 66 = .ok (.getfield 67, 3) := by decide +kernel
theorem dX12_sure_69 : decode cX12_sure 69 = .ok (.aload_n 0, 1) := by decide +kernel
theorem dX12_sure_70 : decode cX12_sure 70 = .ok (.aload_n 0, 1) := by decide +kernel
theorem dX12_sure_71 : decode cX12_sure 71 = .ok (.getfield 61, 3) := by decide +kernel
theorem dX12_sure_74 : decode cX12_sure 74 = .ok (.iload_n 1, 1) := by decide +kernel
theorem dX12_sure_75 : decode cX12_sure 75 = .ok (.iaload, 1) := by decide +kernel
theorem dX12_sure_76 : decode cX12_sure 76 = .ok (.iload_n 2, 1) := by decide +kernel
theorem dX12_sure_77 : decode cX12_sure 77 = .ok (.iadd, 1) := by decide +kernel
theorem dX12_sure_78 : decode cX12_sure 78 = .ok (.invokevirtual 166, 3) := by decide +kernel
theorem dX12_sure_81 : decode cX12_sure 81 = .ok (.iaload, 1) := by decide +kernel
theorem dX12_sure_82 : decode cX12_sure 82 = .ok (.goto 5, 3) := by decide +kernel
theorem dX12_sure_85 : decode cX12_sure 85 = .ok (.bipush 8, 2) := by decide +kernel
theorem dX12_sure_87 : decode cX12_sure 87 = .ok (.ior, 1) := by decide +kernel
theorem dX12_sure_88 : decode cX12_sure 88 = .ok (.istore_n 3, 1) := by decide +kernel
theorem dX12_sure_89 : decode cX12_sure 89 = .ok (.aload_n 0, 1) := by decide +kernel
theorem dX12_sure_90 : decode cX12_sure 90 = .ok (.invokevirtual 198, 3) := by decide +kernel
theorem dX12_sure_93 : decode cX12_sure 93 = .ok (.istore 5, 2) := by decide +kernel
theorem dX12_sure_95 : decode cX12_sure 95 = .ok (.goto (-58), 3) := by decide +kernel
theorem dX12_sure_98 : decode cX12_sure 98 = .ok (.iload 4, 2) := by decide +kernel
theorem dX12_sure_100 : decode cX12_sure 100 = .ok (.ifCond .eq 24, 3) := by decide +kernel
theorem dX12_sure_103 : decode cX12_sure 103 = .ok (.iload_n 3, 1) := by decide +kernel
theorem dX12_sure_104 : decode cX12_sure 104 = .ok (.iconst 1, 1) := by decide +kernel
theorem dX12_sure_105 : decode cX12_sure 105 = .ok (.if_icmp .eq 13, 3) := by decide +kernel
theorem dX12_sure_108 : decode cX12_sure 108 = .ok (.iload_n 3, 1) := by decide +kernel
theorem dX12_sure_109 : decode cX12_sure 109 = .ok (.iconst 2, 1) := by decide +kernel
theorem dX12_sure_110 : decode cX12_sure 110 = .ok (.if_icmp .eq 8, 3) := by decide +kernel
theorem dX12_sure_113 : decode cX12_sure 113 = .ok (.iload_n 3, 1) := by decide +kernel
theorem dX12_sure_114 : decode cX12_sure 114 = .ok (.iconst 4, 1) := by decide +kernel
theorem dX12_sure_115 : decode cX12_sure 115 = .ok (.if_icmp .ne 9, 3) := by decide +kernel
theorem dX12_sure_118 : decode cX12_sure 118 = .ok (.iload_n 3, 1) := by decide +kernel
theorem dX12_sure_119 : decode cX12_sure 119 = .ok (.iconst 2, 1) := by decide +kernel
theorem dX12_sure_120 : decode cX12_sure 120 = .ok (.idiv, 1) := by decide +kernel
theorem dX12_sure_121 : decode cX12_sure 121 = .ok (.goto 4, 3) := by decide +kernel
theorem dX12_sure_124 : decode cX12_sure 124 = .ok (.iconst (-1), 1) := by decide +kernel
theorem dX12_sure_125 : decode cX12_sure 125 = .ok (.ireturn, 1) := by decide +kernel
theorem dX12_strike_0 : decode cX12_strike 0 = .ok (.iconst 0, 1) := by decide +kernel
theorem dX12_strike_1 : decode cX12_strike 1 = .ok (.istore_n 1, 1) := by decide +kernel
theorem dX12_strike_2 : decode cX12_strike 2 = .ok (.iload_n 1, 1) := by decide +kernel
theorem dX12_strike_3 : decode cX12_strike 3 = .ok (.aload_n 0, 1) := by decide +kernel
theorem dX12_strike_4 : decode cX12_strike 4 = .ok (.getfield 224, 3) := by decide +kernel
theorem dX12_strike_7 : decode cX12_strike 7 = .ok (.if_icmp .ge 32, 3) := by decide +kernel
theorem dX12_strike_10 : decode cX12_strike 10 = .ok (.iload_n 1, 1) := by decide +kernel
theorem dX12_strike_11 : decode cX12_strike 11 = .ok (.aload_n 0, 1) := by decide +kernel
theorem dX12_strike_12 : decode cX12_strike 12 = .ok (.getfield 227, 3) := by decide +kernel
theorem dX12_strike_15 : decode cX12_strike 15 = .ok (.if_icmp .ge 24, 3) := by decide +kernel
theorem dX12_strike_18 : decode cX12_strike 18 = .ok (.aload_n 0, 1) := by decide +kernel
theorem dX12_strike_19 : decode cX12_strike 19 = .ok (.getfield 93, 3) := by decide +kernel
theorem dX12_strike_22 : decode cX12_strike 22 = .ok (.iload_n 1, 1) := by decide +kernel
theorem dX12_strike_23 : decode cX12_strike 23 = .ok (.iaload, 1) := by decide +kernel
theorem dX12_strike_24 : decode cX12_strike 24 = .ok (.aload_n 0, 1) := by decide +kernel
theorem dX12_strike_25 : decode cX12_strike 25 = .ok (.getfield 96, 3) := by decide +kernel
theorem dX12_strike_28 : decode cX12_strike 28 = .ok (.iload_n 1, 1) := by decide +kernel
theorem dX12_strike_29 : decode cX12_strike 29 = .ok (.iaload, 1) := by decide +kernel
theorem dX12_strike_30 : decode cX12_strike 30 = .ok (.if_icmp .ne 9, 3) := by decide +kernel
theorem dX12_strike_33 : decode cX12_strike 33 = .ok (.iinc 1 1, 3) := by decide +kernel
theorem dX12_strike_36 : decode cX12_strike 36 = .ok (.goto (-34), 3) := by decide +kernel
theorem dX12_strike_39 : decode cX12_strike 39 = .ok (.iload_n 1, 1) := by decide +kernel
theorem dX12_strike_40 : decode cX12_strike 40 = .ok (.istore_n 2, 1) := by decide +kernel
theorem dX12_strike_41 : decode cX12_strike 41 = .ok (.iload_n 2, 1) := by decide +kernel
theorem dX12_strike_42 : decode cX12_strike 42 = .ok (.aload_n 0, 1) := by decide +kernel
theorem dX12_strike_43 : decode cX12_strike 43 = .ok (.getfield 224, 3) := by decide +kernel
theorem dX12_strike_46 : decode cX12_strike 46 = .ok (.if_icmp .ge 23, 3) := by decide +kernel
theorem dX12_strike_49 : decode cX12_strike 49 = .ok (.aload_n 0, 1) := by decide +kernel
theorem dX12_strike_50 : decode cX12_strike 50 = .ok (.getfield 93, 3) := by decide +kernel
theorem dX12_strike_53 : decode cX12_strike 53 = .ok (.iload_n 2, 1) := by decide +kernel
theorem dX12_strike_54 : decode cX12_strike 54 = .ok (.iload_n 1, 1) := by decide +kernel
theorem dX12_strike_55 : decode cX12_strike 55 = .ok (.isub, 1) := by decide +kernel
theorem dX12_strike_56 : decode cX12_strike 56 = .ok (.aload_n 0, 1) := by decide +kernel
theorem dX12_strike_57 : decode cX12_strike 57 = .ok (.getfield 93, 3) := by decide +kernel
theorem dX12_strike_60 : decode cX12_strike 60 = .ok (.iload_n 2, 1) := by decide +kernel
theorem dX12_strike_61 : decode cX12_strike 61 = .ok (.iaload, 1) := by decide +kernel
theorem dX12_strike_62 : decode cX12_strike 62 = .ok (.iastore, 1) := by decide +kernel
theorem dX12_strike_63 : decode cX12_strike 63 = .ok (.iinc 2 1, 3) := by decide +kernel
theorem dX12_strike_66 : decode cX12_strike 66 = .ok (.goto (-25), 3) := by decide +kernel
theorem dX12_strike_69 : decode cX12_strike 69 = .ok (.iload_n 1, 1) := by decide +kernel
theorem dX12_strike_70 : decode cX12_strike 70 = .ok (.istore_n 2, 1) := by decide +kernel
theorem dX12_strike_71 : decode cX12_strike 71 = .ok (.iload_n 2, 1) := by decide +kernel
theorem dX12_strike_72 : decode cX12_strike 72 = .ok (.aload_n 0, 1) := by decide +kernel
theorem dX12_strike_73 : decode cX12_strike 73 = .ok (.getfield 227, 3) := by decide +kernel
theorem dX12_strike_76 : decode cX12_strike 76 = .ok (.if_icmp .ge 23, 3) := by decide +kernel
theorem dX12_strike_79 : decode cX12_strike 79 = .ok (.aload_n 0, 1) := by decide +kernel
theorem dX12_strike_80 : decode cX12_strike 80 = .ok (.getfield 96, 3) := by decide +kernel
theorem dX12_strike_83 : decode cX12_strike 83 = .ok (.iload_n 2, 1) := by decide +kernel
theorem dX12_strike_84 : decode cX12_strike 84 = .ok (.iload_n 1, 1) := by decide +kernel
theorem dX12_strike_85 : decode cX12_strike 85 = .ok (.isub, 1) := by decide +kernel
theorem dX12_strike_86 : decode cX12_strike 86 = .ok (.aload_n 0, 1) := by decide +kernel
theorem dX12_strike_87 : decode cX12_strike 87 = .ok (.getfield 96, 3) := by decide +kernel
theorem dX12_strike_90 : decode cX12_strike 90 = .ok (.iload_n 2, 1) := by decide +kernel
theorem dX12_strike_91 : decode cX12_strike 91 = .ok (.iaload, 1) := by decide +kernel
theorem dX12_strike_92 : decode cX12_strike 92 = .ok (.iastore, 1) := by decide +kernel
theorem dX12_strike_93 : decode cX12_strike 93 = .ok (.iinc 2 1, 3) := by decide +kernel
theorem dX12_strike_96 : decode cX12_strike 96 = .ok (.goto (-25), 3) := by decide +kernel
theorem dX12_strike_99 : decode cX12_strike 99 = .ok (.aload_n 0, 1) := by decide +kernel
theorem dX12_strike_100 : decode cX12_strike 100 = .ok (.dup, 1) := by decide +kernel
theorem dX12_strike_101 : decode cX12_strike 101 = .ok (.getfield 224, 3) := by decide +kernel
theorem dX12_strike_104 : decode cX12_strike 104 = .ok (.iload_n 1, 1) := by decide +kernel
theorem dX12_strike_105 : decode cX12_strike 105 = .ok (.isub, 1) := by decide +kernel
theorem dX12_strike_106 : decode cX12_strike 106 = .ok (.putfield 224, 3) := by decide +kernel
theorem dX12_strike_109 : decode cX12_strike 109 = .ok (.aload_n 0, 1) := by decide +kernel
theorem dX12_strike_110 : decode cX12_strike 110 = .ok (.dup, 1) := by decide +kernel
theorem dX12_strike_111 : decode cX12_strike 111 = .ok (.getfield 227, 3) := by decide +kernel
theorem dX12_strike_114 : decode cX12_strike 114 = .ok (.iload_n 1, 1) := by decide +kernel
theorem dX12_strike_115 : decode cX12_strike 115 = .ok (.isub, 1) := by decide +kernel
theorem dX12_strike_116 : decode cX12_strike 116 = .ok (.putfield 227, 3) := by decide +kernel
theorem dX12_strike_119 : decode cX12_strike 119 = .ok (.return_, 1) := by decide +kernel
theorem dX12_namesNow_0 : decode cX12_namesNow 0 = .ok (.iconst 0, 1) := by decide +kernel
theorem dX12_namesNow_1 : decode cX12_namesNow 1 = .ok (.istore_n 1, 1) := by decide +kernel
theorem dX12_namesNow_2 : decode cX12_namesNow 2 = .ok (.iconst 0, 1) := by decide +kernel
theorem dX12_namesNow_3 : decode cX12_namesNow 3 = .ok (.istore_n 2, 1) := by decide +kernel
theorem dX12_namesNow_4 : decode cX12_namesNow 4 = .ok (.iload_n 2, 1) := by decide +kernel
theorem dX12_namesNow_5 : decode cX12_namesNow 5 = .ok (.aload_n 0, 1) := by decide +kernel
theorem dX12_namesNow_6 : decode cX12_namesNow 6 = .ok (.getfield 224, 3) := by decide +kernel
theorem dX12_namesNow_9 : decode cX12_namesNow 9 = .ok (.if_icmp .ge 36, 3) := by decide +kernel
theorem dX12_namesNow_12 : decode cX12_namesNow 12 = .ok (.iload_n 1, 1) := by decide +kernel
theorem dX12_namesNow_13 : decode cX12_namesNow 13 = .ok (.aload_n 0, 1) := by decide +kernel
theorem dX12_namesNow_14 : decode cX12_namesNow 14 = .ok (.getfield 93, 3) := by decide +kernel
theorem dX12_namesNow_17 : decode cX12_namesNow 17 = .ok (.iload_n 2, 1) := by decide +kernel
theorem dX12_namesNow_18 : decode cX12_namesNow 18 = .ok (.iaload, 1) := by decide +kernel
theorem dX12_namesNow_19 : decode cX12_namesNow 19 = .ok (.iconst 3, 1) := by decide +kernel
theorem dX12_namesNow_20 : decode cX12_namesNow 20 = .ok (.if_icmp .le 16, 3) := by decide +kernel
theorem dX12_namesNow_23 : decode cX12_namesNow 23 = .ok (.iconst 1, 1) := by decide +kernel
theorem dX12_namesNow_24 : decode cX12_namesNow 24 = .ok (.aload_n 0, 1) := by decide +kernel
theorem dX12_namesNow_25 : decode cX12_namesNow 25 = .ok (.getfield 93, 3) := by decide +kernel
theorem dX12_namesNow_28 : decode cX12_namesNow 28 = .ok (.iload_n 2, 1) := by decide +kernel
theorem dX12_namesNow_29 : decode cX12_namesNow 29 = .ok (.iaload, 1) := by decide +kernel
theorem dX12_namesNow_30 : decode cX12_namesNow 30 = .ok (.iconst 4, 1) := by decide +kernel
theorem dX12_namesNow_31 : decode cX12_namesNow 31 = .ok (.isub, 1) := by decide +kernel
theorem dX12_namesNow_32 : decode cX12_namesNow 32 = .ok (.ishl, 1) := by decide +kernel
theorem dX12_namesNow_33 : decode cX12_namesNow 33 = .ok (.goto 4, 3) := by decide +kernel
theorem dX12_namesNow_36 : decode cX12_namesNow 36 = .ok (.iconst 0, 1) := by decide +kernel
theorem dX12_namesNow_37 : decode cX12_namesNow 37 = .ok (.ior, 1) := by decide +kernel
theorem dX12_namesNow_38 : decode cX12_namesNow 38 = .ok (.istore_n 1, 1) := by decide +kernel
theorem dX12_namesNow_39 : decode cX12_namesNow 39 = .ok (.iinc 2 1, 3) := by decide +kernel
theorem dX12_namesNow_42 : decode cX12_namesNow 42 = .ok (.goto (-38), 3) := by decide +kernel
theorem dX12_namesNow_45 : decode cX12_namesNow 45 = .ok (.iconst 0, 1) := by decide +kernel
theorem dX12_namesNow_46 : decode cX12_namesNow 46 = .ok (.istore_n 2, 1) := by decide +kernel
theorem dX12_namesNow_47 : decode cX12_namesNow 47 = .ok (.iload_n 2, 1) := by decide +kernel
theorem dX12_namesNow_48 : decode cX12_namesNow 48 = .ok (.aload_n 0, 1) := by decide +kernel
theorem dX12_namesNow_49 : decode cX12_namesNow 49 = .ok (.getfield 227, 3) := by decide +kernel
theorem dX12_namesNow_52 : decode cX12_namesNow 52 = .ok (.if_icmp .ge 36, 3) := by decide +kernel
theorem dX12_namesNow_55 : decode cX12_namesNow 55 = .ok (.iload_n 1, 1) := by decide +kernel
theorem dX12_namesNow_56 : decode cX12_namesNow 56 = .ok (.aload_n 0, 1) := by decide +kernel
theorem dX12_namesNow_57 : decode cX12_namesNow 57 = .ok (.getfield 96, 3) := by decide +kernel
theorem dX12_namesNow_60 : decode cX12_namesNow 60 = .ok (.iload_n 2, 1) := by decide +kernel
theorem dX12_namesNow_61 : decode cX12_namesNow 61 = .ok (.iaload, 1) := by decide +kernel
theorem dX12_namesNow_62 : decode cX12_namesNow 62 = .ok (.iconst 3, 1) := by decide +kernel
theorem dX12_namesNow_63 : decode cX12_namesNow 63 = .ok (.if_icmp .le 16, 3) := by decide +kernel
theorem dX12_namesNow_66 : decode cX12_namesNow 66 = .ok (.iconst 1, 1) := by decide +kernel
theorem dX12_namesNow_67 : decode cX12_namesNow 67 = .ok (.aload_n 0, 1) := by decide +kernel
theorem dX12_namesNow_68 : decode cX12_namesNow 68 = .ok (.getfield 96, 3) := by decide +kernel
theorem dX12_namesNow_71 : decode cX12_namesNow 71 = .ok (.iload_n 2, 1) := by decide +kernel
theorem dX12_namesNow_72 : decode cX12_namesNow 72 = .ok (.iaload, 1) := by decide +kernel
theorem dX12_namesNow_73 : decode cX12_namesNow 73 = .ok (.iconst 4, 1) := by decide +kernel
theorem dX12_namesNow_74 : decode cX12_namesNow 74 = .ok (.isub, 1) := by decide +kernel
theorem dX12_namesNow_75 : decode cX12_namesNow 75 = .ok (.ishl, 1) := by decide +kernel
theorem dX12_namesNow_76 : decode cX12_namesNow 76 = .ok (.goto 4, 3) := by decide +kernel
theorem dX12_namesNow_79 : decode cX12_namesNow 79 = .ok (.iconst 0, 1) := by decide +kernel
theorem dX12_namesNow_80 : decode cX12_namesNow 80 = .ok (.ior, 1) := by decide +kernel
theorem dX12_namesNow_81 : decode cX12_namesNow 81 = .ok (.istore_n 1, 1) := by decide +kernel
theorem dX12_namesNow_82 : decode cX12_namesNow 82 = .ok (.iinc 2 1, 3) := by decide +kernel
theorem dX12_namesNow_85 : decode cX12_namesNow 85 = .ok (.goto (-38), 3) := by decide +kernel
theorem dX12_namesNow_88 : decode cX12_namesNow 88 = .ok (.iload_n 1, 1) := by decide +kernel
theorem dX12_namesNow_89 : decode cX12_namesNow 89 = .ok (.ireturn, 1) := by decide +kernel
theorem dX12_namesMet_0 : decode cX12_namesMet 0 = .ok (.iconst 0, 1) := by decide +kernel
theorem dX12_namesMet_1 : decode cX12_namesMet 1 = .ok (.istore_n 2, 1) := by decide +kernel
theorem dX12_namesMet_2 : decode cX12_namesMet 2 = .ok (.iconst 0, 1) := by decide +kernel
theorem dX12_namesMet_3 : decode cX12_namesMet 3 = .ok (.istore_n 3, 1) := by decide +kernel
theorem dX12_namesMet_4 : decode cX12_namesMet 4 = .ok (.iload_n 3, 1) := by decide +kernel
theorem dX12_namesMet_5 : decode cX12_namesMet 5 = .ok (.aload_n 0, 1) := by decide +kernel
theorem dX12_namesMet_6 : decode cX12_namesMet 6 = .ok (.getfield 77, 3) := by decide +kernel
theorem dX12_namesMet_9 : decode cX12_namesMet 9 = .ok (.iload_n 1, 1) := by decide +kernel
theorem dX12_namesMet_10 : decode cX12_namesMet 10 = .ok (.iaload, 1) := by decide +kernel
theorem dX12_namesMet_11 : decode cX12_namesMet 11 = .ok (.if_icmp .ge 41, 3) := by decide +kernel
theorem dX12_namesMet_14 : decode cX12_namesMet 14 = .ok (.aload_n 0, 1) := by decide +kernel
theorem dX12_namesMet_15 : decode cX12_namesMet 15 = .ok (.getfield 71, 3) := by decide +kernel
theorem dX12_namesMet_18 : decode cX12_namesMet 18 = .ok (.bipush 24, 2) := by decide +kernel
theorem dX12_namesMet_20 : decode cX12_namesMet 20 = .ok (.iload_n 1, 1) := by decide +kernel
theorem dX12_namesMet_21 : decode cX12_namesMet 21 = .ok (.imul, 1) := by decide +kernel
theorem dX12_namesMet_22 : decode cX12_namesMet 22 = .ok (.iload_n 3, 1) := by decide +kernel
theorem dX12_namesMet_23 : decode cX12_namesMet 23 = .ok (.iadd, 1) := by decide +kernel
theorem dX12_namesMet_24 : decode cX12_namesMet 24 = .ok (.iaload, 1) := by decide +kernel
theorem dX12_namesMet_25 : decode cX12_namesMet 25 = .ok (.istore 4, 2) := by decide +kernel
theorem dX12_namesMet_27 : decode cX12_namesMet 27 = .ok (.iload_n 2, 1) := by decide +kernel
theorem dX12_namesMet_28 : decode cX12_namesMet 28 = .ok (.iload 4, 2) := by decide +kernel
theorem dX12_namesMet_30 : decode cX12_namesMet 30 = .ok (.iconst 3, 1) := by decide +kernel
theorem dX12_namesMet_31 : decode cX12_namesMet 31 = .ok (.if_icmp .le 12, 3) := by decide +kernel
theorem dX12_namesMet_34 : decode cX12_namesMet 34 = .ok (.iconst 1, 1) := by decide +kernel
theorem dX12_namesMet_35 : decode cX12_namesMet 35 = .ok (.iload 4, 2) := by decide +kernel
theorem dX12_namesMet_37 : decode cX12_namesMet 37 = .ok (.iconst 4, 1) := by decide +kernel
theorem dX12_namesMet_38 : decode cX12_namesMet 38 = .ok (.isub, 1) := by decide +kernel
theorem dX12_namesMet_39 : decode cX12_namesMet 39 = .ok (.ishl, 1) := by decide +kernel
theorem dX12_namesMet_40 : decode cX12_namesMet 40 = .ok (.goto 4, 3) := by decide +kernel
theorem dX12_namesMet_43 : decode cX12_namesMet 43 = .ok (.iconst 0, 1) := by decide +kernel
theorem dX12_namesMet_44 : decode cX12_namesMet 44 = .ok (.ior, 1) := by decide +kernel
theorem dX12_namesMet_45 : decode cX12_namesMet 45 = .ok (.istore_n 2, 1) := by decide +kernel
theorem dX12_namesMet_46 : decode cX12_namesMet 46 = .ok (.iinc 3 1, 3) := by decide +kernel
theorem dX12_namesMet_49 : decode cX12_namesMet 49 = .ok (.goto (-45), 3) := by decide +kernel
theorem dX12_namesMet_52 : decode cX12_namesMet 52 = .ok (.iload_n 2, 1) := by decide +kernel
theorem dX12_namesMet_53 : decode cX12_namesMet 53 = .ok (.ireturn, 1) := by decide +kernel
theorem dX12_isMet_0 : decode cX12_isMet 0 = .ok (.aload_n 0, 1) := by decide +kernel
theorem dX12_isMet_1 : decode cX12_isMet 1 = .ok (.getfield 74, 3) := by decide +kernel
theorem dX12_isMet_4 : decode cX12_isMet 4 = .ok (.iload_n 1, 1) := by decide +kernel
theorem dX12_isMet_5 : decode cX12_isMet 5 = .ok (.iaload, 1) := by decide +kernel
theorem dX12_isMet_6 : decode cX12_isMet 6 = .ok (.aload_n 0, 1) := by decide +kernel
theorem dX12_isMet_7 : decode cX12_isMet 7 = .ok (.getfield 224, 3) := by decide +kernel
theorem dX12_isMet_10 : decode cX12_isMet 10 = .ok (.if_icmp .ne 25, 3) := by decide +kernel
theorem dX12_isMet_13 : decode cX12_isMet 13 = .ok (.aload_n 0, 1) := by decide +kernel
theorem dX12_isMet_14 : decode cX12_isMet 14 = .ok (.getfield 77, 3) := by decide +kernel
theorem dX12_isMet_17 : decode cX12_isMet 17 = .ok (.iload_n 1, 1) := by decide +kernel
theorem dX12_isMet_18 : decode cX12_isMet 18 = .ok (.iaload, 1) := by decide +kernel
theorem dX12_isMet_19 : decode cX12_isMet 19 = .ok (.aload_n 0, 1) := by decide +kernel
theorem dX12_isMet_20 : decode cX12_isMet 20 = .ok (.getfield 224, 3) := by decide +kernel
theorem dX12_isMet_23 : decode cX12_isMet 23 = .ok (.aload_n 0, 1) := by decide +kernel
theorem dX12_isMet_24 : decode cX12_isMet 24 = .ok (.getfield 227, 3) := by decide +kernel
theorem dX12_isMet_27 : decode cX12_isMet 27 = .ok (.iadd, 1) := by decide +kernel
theorem dX12_isMet_28 : decode cX12_isMet 28 = .ok (.if_icmp .ne 7, 3) := by decide +kernel
theorem dX12_isMet_31 : decode cX12_isMet 31 = .ok (.iconst 1, 1) := by decide +kernel
theorem dX12_isMet_32 : decode cX12_isMet 32 = .ok (.goto 4, 3) := by decide +kernel
theorem dX12_isMet_35 : decode cX12_isMet 35 = .ok (.iconst 0, 1) := by decide +kernel
theorem dX12_isMet_36 : decode cX12_isMet 36 = .ok (.istore_n 2, 1) := by decide +kernel
theorem dX12_isMet_37 : decode cX12_isMet 37 = .ok (.iconst 0, 1) := by decide +kernel
theorem dX12_isMet_38 : decode cX12_isMet 38 = .ok (.istore_n 3, 1) := by decide +kernel
theorem dX12_isMet_39 : decode cX12_isMet 39 = .ok (.iload_n 2, 1) := by decide +kernel
theorem dX12_isMet_40 : decode cX12_isMet 40 = .ok (.ifCond .eq 43, 3) := by decide +kernel
theorem dX12_isMet_43 : decode cX12_isMet 43 = .ok (.iload_n 3, 1) := by decide +kernel
theorem dX12_isMet_44 : decode cX12_isMet 44 = .ok (.aload_n 0, 1) := by decide +kernel
theorem dX12_isMet_45 : decode cX12_isMet 45 = .ok (.getfield 224, 3) := by decide +kernel
theorem dX12_isMet_48 : decode cX12_isMet 48 = .ok (.if_icmp .ge 35, 3) := by decide +kernel
theorem dX12_isMet_51 : decode cX12_isMet 51 = .ok (.aload_n 0, 1) := by decide +kernel
theorem dX12_isMet_52 : decode cX12_isMet 52 = .ok (.getfield 71, 3) := by decide +kernel
theorem dX12_isMet_55 : decode cX12_isMet 55 = .ok (.bipush 24, 2) := by decide +kernel
theorem dX12_isMet_57 : decode cX12_isMet 57 = .ok (.iload_n 1, 1) := by decide +kernel
theorem dX12_isMet_58 : decode cX12_isMet 58 = .ok (.imul, 1) := by decide +kernel
theorem dX12_isMet_59 : decode cX12_isMet 59 = .ok (.iload_n 3, 1) := by decide +kernel
theorem dX12_isMet_60 : decode cX12_isMet 60 = .ok (.iadd, 1) := by decide +kernel
theorem dX12_isMet_61 : decode cX12_isMet 61 = .ok (.iaload, 1) := by decide +kernel
theorem dX12_isMet_62 : decode cX12_isMet 62 = .ok (.aload_n 0, 1) := by decide +kernel
theorem dX12_isMet_63 : decode cX12_isMet 63 = .ok (.getfield 93, 3) := by decide +kernel
theorem dX12_isMet_66 : decode cX12_isMet 66 = .ok (.iload_n 3, 1) := by decide +kernel
theorem dX12_isMet_67 : decode cX12_isMet 67 = .ok (.iaload, 1) := by decide +kernel
theorem dX12_isMet_68 : decode cX12_isMet 68 = .ok (.if_icmp .ne 7, 3) := by decide +kernel
theorem dX12_isMet_71 : decode cX12_isMet 71 = .ok (.iconst 1, 1) := by decide +kernel
theorem dX12_isMet_72 : decode cX12_isMet 72 = .ok (.goto 4, 3) := by decide +kernel
theorem dX12_isMet_75 : decode cX12_isMet 75 = .ok (.iconst 0, 1) := by decide +kernel
theorem dX12_isMet_76 : decode cX12_isMet 76 = .ok (.istore_n 2, 1) := by decide +kernel
theorem dX12_isMet_77 : decode cX12_isMet 77 = .ok (.iinc 3 1, 3) := by decide +kernel
theorem dX12_isMet_80 : decode cX12_isMet 80 = .ok (.goto (-41), 3) := by decide +kernel
theorem dX12_isMet_83 : decode cX12_isMet 83 = .ok (.iconst 0, 1) := by decide +kernel
theorem dX12_isMet_84 : decode cX12_isMet 84 = .ok (.istore_n 3, 1) := by decide +kernel
theorem dX12_isMet_85 : decode cX12_isMet 85 = .ok (.iload_n 2, 1) := by decide +kernel
theorem dX12_isMet_86 : decode cX12_isMet 86 = .ok (.ifCond .eq 48, 3) := by decide +kernel
theorem dX12_isMet_89 : decode cX12_isMet 89 = .ok (.iload_n 3, 1) := by decide +kernel
theorem dX12_isMet_90 : decode cX12_isMet 90 = .ok (.aload_n 0, 1) := by decide +kernel
theorem dX12_isMet_91 : decode cX12_isMet 91 = .ok (.getfield 227, 3) := by decide +kernel
theorem dX12_isMet_94 : decode cX12_isMet 94 = .ok (.if_icmp .ge 40, 3) := by decide +kernel
theorem dX12_isMet_97 : decode cX12_isMet 97 = .ok (.aload_n 0, 1) := by decide +kernel
theorem dX12_isMet_98 : decode cX12_isMet 98 = .ok (.getfield 71, 3) := by decide +kernel
theorem dX12_isMet_101 : decode cX12_isMet 101 = .ok (.bipush 24, 2) := by decide +kernel
theorem dX12_isMet_103 : decode cX12_isMet 103 = .ok (.iload_n 1, 1) := by decide +kernel
theorem dX12_isMet_104 : decode cX12_isMet 104 = .ok (.imul, 1) := by decide +kernel
theorem dX12_isMet_105 : decode cX12_isMet 105 = .ok (.aload_n 0, 1) := by decide +kernel
theorem dX12_isMet_106 : decode cX12_isMet 106 = .ok (.getfield 224, 3) := by decide +kernel
theorem dX12_isMet_109 : decode cX12_isMet 109 = .ok (.iadd, 1) := by decide +kernel
theorem dX12_isMet_110 : decode cX12_isMet 110 = .ok (.iload_n 3, 1) := by decide +kernel
theorem dX12_isMet_111 : decode cX12_isMet 111 = .ok (.iadd, 1) := by decide +kernel
theorem dX12_isMet_112 : decode cX12_isMet 112 = .ok (.iaload, 1) := by decide +kernel
theorem dX12_isMet_113 : decode cX12_isMet 113 = .ok (.aload_n 0, 1) := by decide +kernel
theorem dX12_isMet_114 : decode cX12_isMet 114 = .ok (.getfield 96, 3) := by decide +kernel
theorem dX12_isMet_117 : decode cX12_isMet 117 = .ok (.iload_n 3, 1) := by decide +kernel
theorem dX12_isMet_118 : decode cX12_isMet 118 = .ok (.iaload, 1) := by decide +kernel
theorem dX12_isMet_119 : decode cX12_isMet 119 = .ok (.if_icmp .ne 7, 3) := by decide +kernel
theorem dX12_isMet_122 : decode cX12_isMet 122 = .ok (.iconst 1, 1) := by decide +kernel
theorem dX12_isMet_123 : decode cX12_isMet 123 = .ok (.goto 4, 3) := by decide +kernel
theorem dX12_isMet_126 : decode cX12_isMet 126 = .ok (.iconst 0, 1) := by decide +kernel
theorem dX12_isMet_127 : decode cX12_isMet 127 = .ok (.istore_n 2, 1) := by decide +kernel
theorem dX12_isMet_128 : decode cX12_isMet 128 = .ok (.iinc 3 1, 3) := by decide +kernel
theorem dX12_isMet_131 : decode cX12_isMet 131 = .ok (.goto (-46), 3) := by decide +kernel
theorem dX12_isMet_134 : decode cX12_isMet 134 = .ok (.iload_n 2, 1) := by decide +kernel
theorem dX12_isMet_135 : decode cX12_isMet 135 = .ok (.ireturn, 1) := by decide +kernel
theorem dX12_numberOf_0 : decode cX12_numberOf 0 = .ok (.aload_n 0, 1) := by decide +kernel
theorem dX12_numberOf_1 : decode cX12_numberOf 1 = .ok (.getfield 224, 3) := by decide +kernel
theorem dX12_numberOf_4 : decode cX12_numberOf 4 = .ok (.istore_n 1, 1) := by decide +kernel
theorem dX12_numberOf_5 : decode cX12_numberOf 5 = .ok (.iconst 0, 1) := by decide +kernel
theorem dX12_numberOf_6 : decode cX12_numberOf 6 = .ok (.istore_n 2, 1) := by decide +kernel
theorem dX12_numberOf_7 : decode cX12_numberOf 7 = .ok (.iload_n 2, 1) := by decide +kernel
theorem dX12_numberOf_8 : decode cX12_numberOf 8 = .ok (.aload_n 0, 1) := by decide +kernel
theorem dX12_numberOf_9 : decode cX12_numberOf 9 = .ok (.getfield 224, 3) := by decide +kernel
theorem dX12_numberOf_12 : decode cX12_numberOf 12 = .ok (.if_icmp .ge 23, 3) := by decide +kernel
theorem dX12_numberOf_15 : decode cX12_numberOf 15 = .ok (.bipush 31, 2) := by decide +kernel
theorem dX12_numberOf_17 : decode cX12_numberOf 17 = .ok (.iload_n 1, 1) := by decide +kernel
theorem dX12_numberOf_18 : decode cX12_numberOf 18 = .ok (.imul, 1) := by decide +kernel
theorem dX12_numberOf_19 : decode cX12_numberOf 19 = .ok (.aload_n 0, 1) := by decide +kernel
theorem dX12_numberOf_20 : decode cX12_numberOf 20 = .ok (.getfield 93, 3) := by decide +kernel
theorem dX12_numberOf_23 : decode cX12_numberOf 23 = .ok (.iload_n 2, 1) := by decide +kernel
theorem dX12_numberOf_24 : decode cX12_numberOf 24 = .ok (.iaload, 1) := by decide +kernel
theorem dX12_numberOf_25 : decode cX12_numberOf 25 = .ok (.iadd, 1) := by decide +kernel
theorem dX12_numberOf_26 : decode cX12_numberOf 26 = .ok (.iconst 1, 1) := by decide +kernel
theorem dX12_numberOf_27 : decode cX12_numberOf 27 = .ok (.iadd, 1) := by decide +kernel
theorem dX12_numberOf_28 : decode cX12_numberOf 28 = .ok (.istore_n 1, 1) := by decide +kernel
theorem dX12_numberOf_29 : decode cX12_numberOf 29 = .ok (.iinc 2 1, 3) := by decide +kernel
theorem dX12_numberOf_32 : decode cX12_numberOf 32 = .ok (.goto (-25), 3) := by decide +kernel
theorem dX12_numberOf_35 : decode cX12_numberOf 35 = .ok (.iconst 0, 1) := by decide +kernel
theorem dX12_numberOf_36 : decode cX12_numberOf 36 = .ok (.istore_n 2, 1) := by decide +kernel
theorem dX12_numberOf_37 : decode cX12_numberOf 37 = .ok (.iload_n 2, 1) := by decide +kernel
theorem dX12_numberOf_38 : decode cX12_numberOf 38 = .ok (.aload_n 0, 1) := by decide +kernel
theorem dX12_numberOf_39 : decode cX12_numberOf 39 = .ok (.getfield 227, 3) := by decide +kernel
theorem dX12_numberOf_42 : decode cX12_numberOf 42 = .ok (.if_icmp .ge 23, 3) := by decide +kernel
theorem dX12_numberOf_45 : decode cX12_numberOf 45 = .ok (.bipush 37, 2) := by decide +kernel
theorem dX12_numberOf_47 : decode cX12_numberOf 47 = .ok (.iload_n 1, 1) := by decide +kernel
theorem dX12_numberOf_48 : decode cX12_numberOf 48 = .ok (.imul, 1) := by decide +kernel
theorem dX12_numberOf_49 : decode cX12_numberOf 49 = .ok (.aload_n 0, 1) := by decide +kernel
theorem dX12_numberOf_50 : decode cX12_numberOf 50 = .ok (.getfield 96, 3) := by decide +kernel
theorem dX12_numberOf_53 : decode cX12_numberOf 53 = .ok (.iload_n 2, 1) := by decide +kernel
theorem dX12_numberOf_54 : decode cX12_numberOf 54 = .ok (.iaload, 1) := by decide +kernel
theorem dX12_numberOf_55 : decode cX12_numberOf 55 = .ok (.iadd, 1) := by decide +kernel
theorem dX12_numberOf_56 : decode cX12_numberOf 56 = .ok (.iconst 1, 1) := by decide +kernel
theorem dX12_numberOf_57 : decode cX12_numberOf 57 = .ok (.iadd, 1) := by decide +kernel
theorem dX12_numberOf_58 : decode cX12_numberOf 58 = .ok (.istore_n 1, 1) := by decide +kernel
theorem dX12_numberOf_59 : decode cX12_numberOf 59 = .ok (.iinc 2 1, 3) := by decide +kernel
theorem dX12_numberOf_62 : decode cX12_numberOf 62 = .ok (.goto (-25), 3) := by decide +kernel
theorem dX12_numberOf_65 : decode cX12_numberOf 65 = .ok (.iload_n 1, 1) := by decide +kernel
theorem dX12_numberOf_66 : decode cX12_numberOf 66 = .ok (.ldc 230, 2) := by decide +kernel
theorem dX12_numberOf_68 : decode cX12_numberOf 68 = .ok (.iand, 1) := by decide +kernel
theorem dX12_numberOf_69 : decode cX12_numberOf 69 = .ok (.sipush 4096, 3) := by decide +kernel
theorem dX12_numberOf_72 : decode cX12_numberOf 72 = .ok (.irem, 1) := by decide +kernel
theorem dX12_numberOf_73 : decode cX12_numberOf 73 = .ok (.istore_n 1, 1) := by decide +kernel
theorem dX12_numberOf_74 : decode cX12_numberOf 74 = .ok (.aload_n 0, 1) := by decide +kernel
theorem dX12_numberOf_75 : decode cX12_numberOf 75 = .ok (.getfield 90, 3) := by decide +kernel
theorem dX12_numberOf_78 : decode cX12_numberOf 78 = .ok (.iload_n 1, 1) := by decide +kernel
theorem dX12_numberOf_79 : decode cX12_numberOf 79 = .ok (.iaload, 1) := by decide +kernel
theorem dX12_numberOf_80 : decode cX12_numberOf 80 = .ok (.ifCond .lt 27, 3) := by decide +kernel
theorem dX12_numberOf_83 : decode cX12_numberOf 83 = .ok (.aload_n 0, 1) := by decide +kernel
theorem dX12_numberOf_84 : decode cX12_numberOf 84 = .ok (.aload_n 0, 1) := by decide +kernel
theorem dX12_numberOf_85 : decode cX12_numberOf 85 = .ok (.getfield 90, 3) := by decide +kernel
theorem dX12_numberOf_88 : decode cX12_numberOf 88 = .ok (.iload_n 1, 1) := by decide +kernel
theorem dX12_numberOf_89 : decode cX12_numberOf 89 = .ok (.iaload, 1) := by decide +kernel
theorem dX12_numberOf_90 : decode cX12_numberOf 90 = .ok (.invokevirtual 231, 3) := by decide +kernel
theorem dX12_numberOf_93 : decode cX12_numberOf 93 = .ok (.ifCond .ne 14, 3) := by decide +kernel
theorem dX12_numberOf_96 : decode cX12_numberOf 96 = .ok (.iload_n 1, 1) := by decide +kernel
theorem dX12_numberOf_97 : decode cX12_numberOf 97 = .ok (.iconst 1, 1) := by decide +kernel
theorem dX12_numberOf_98 : decode cX12_numberOf 98 = .ok (.iadd, 1) := by decide +kernel
theorem dX12_numberOf_99 : decode cX12_numberOf 99 = .ok (.sipush 4096, 3) := by decide +kernel
theorem dX12_numberOf_102 : decode cX12_numberOf 102 = .ok (.irem, 1) := by decide +kernel
theorem dX12_numberOf_103 : decode cX12_numberOf 103 = .ok (.istore_n 1, 1) := by decide +kernel
theorem dX12_numberOf_104 : decode cX12_numberOf 104 = .ok (.goto (-30), 3) := by decide +kernel
theorem dX12_numberOf_107 : decode cX12_numberOf 107 = .ok (.aload_n 0, 1) := by decide +kernel
theorem dX12_numberOf_108 : decode cX12_numberOf 108 = .ok (.getfield 90, 3) := by decide +kernel
theorem dX12_numberOf_111 : decode cX12_numberOf 111 = .ok (.iload_n 1, 1) := by decide +kernel
theorem dX12_numberOf_112 : decode cX12_numberOf 112 = .ok (.iaload, 1) := by decide +kernel
theorem dX12_numberOf_113 : decode cX12_numberOf 113 = .ok (.ifCond .lt 10, 3) := by decide +kernel
theorem dX12_numberOf_116 : decode cX12_numberOf 116 = .ok (.aload_n 0, 1) := by decide +kernel
theorem dX12_numberOf_117 : decode cX12_numberOf 117 = .ok (.getfield 90, 3) := by decide +kernel
theorem dX12_numberOf_120 : decode cX12_numberOf 120 = .ok (.iload_n 1, 1) := by decide +kernel
theorem dX12_numberOf_121 : decode cX12_numberOf 121 = .ok (.iaload, 1) := by decide +kernel
theorem dX12_numberOf_122 : decode cX12_numberOf 122 = .ok (.ireturn, 1) := by decide +kernel
theorem dX12_numberOf_123 : decode cX12_numberOf 123 = .ok (.aload_n 0, 1) := by decide +kernel
theorem dX12_numberOf_124 : decode cX12_numberOf 124 = .ok (.getfield 234, 3) := by decide +kernel
theorem dX12_numberOf_127 : decode cX12_numberOf 127 = .ok (.sipush 1500, 3) := by decide +kernel
theorem dX12_numberOf_130 : decode cX12_numberOf 130 = .ok (.if_icmp .ne 5, 3) := by decide +kernel
theorem dX12_numberOf_133 : decode cX12_numberOf 133 = .ok (.iconst (-1), 1) := by decide +kernel
theorem dX12_numberOf_134 : decode cX12_numberOf 134 = .ok (.ireturn, 1) := by decide +kernel
theorem dX12_numberOf_135 : decode cX12_numberOf 135 = .ok (.aload_n 0, 1) := by decide +kernel
theorem dX12_numberOf_136 : decode cX12_numberOf 136 = .ok (.getfield 90, 3) := by decide +kernel
theorem dX12_numberOf_139 : decode cX12_numberOf 139 = .ok (.iload_n 1, 1) := by decide +kernel
theorem dX12_numberOf_140 : decode cX12_numberOf 140 = .ok (.aload_n 0, 1) := by decide +kernel
theorem dX12_numberOf_141 : decode cX12_numberOf 141 = .ok (.getfield 234, 3) := by decide +kernel
theorem dX12_numberOf_144 : decode cX12_numberOf 144 = .ok (.iastore, 1) := by decide +kernel
theorem dX12_numberOf_145 : decode cX12_numberOf 145 = .ok (.aload_n 0, 1) := by decide +kernel
theorem dX12_numberOf_146 : decode cX12_numberOf 146 = .ok (.getfield 74, 3) := by decide +kernel
theorem dX12_numberOf_149 : decode cX12_numberOf 149 = .ok (.aload_n 0, 1) := by decide +kernel
theorem dX12_numberOf_150 : decode cX12_numberOf 150 = .ok (.getfield 234, 3) := by decide +kernel
theorem dX12_numberOf_153 : decode cX12_numberOf 153 = .ok (.aload_n 0, 1) := by decide +kernel
theorem dX12_numberOf_154 : decode cX12_numberOf 154 = .ok (.getfield 224, 3) := by decide +kernel
theorem dX12_numberOf_157 : decode cX12_numberOf 157 = .ok (.iastore, 1) := by decide +kernel
theorem dX12_numberOf_158 : decode cX12_numberOf 158 = .ok (.aload_n 0, 1) := by decide +kernel
theorem dX12_numberOf_159 : decode cX12_numberOf 159 = .ok (.getfield 77, 3) := by decide +kernel
theorem dX12_numberOf_162 : decode cX12_numberOf 162 = .ok (.aload_n 0, 1) := by decide +kernel
theorem dX12_numberOf_163 : decode cX12_numberOf 163 = .ok (.getfield 234, 3) := by decide +kernel
theorem dX12_numberOf_166 : decode cX12_numberOf 166 = .ok (.aload_n 0, 1) := by decide +kernel
theorem dX12_numberOf_167 : decode cX12_numberOf 167 = .ok (.getfield 224, 3) := by decide +kernel
theorem dX12_numberOf_170 : decode cX12_numberOf 170 = .ok (.aload_n 0, 1) := by decide +kernel
theorem dX12_numberOf_171 : decode cX12_numberOf 171 = .ok (.getfield 227, 3) := by decide +kernel
theorem dX12_numberOf_174 : decode cX12_numberOf 174 = .ok (.iadd, 1) := by decide +kernel
theorem dX12_numberOf_175 : decode cX12_numberOf 175 = .ok (.iastore, 1) := by decide +kernel
theorem dX12_numberOf_176 : decode cX12_numberOf 176 = .ok (.iconst 0, 1) := by decide +kernel
theorem dX12_numberOf_177 : decode cX12_numberOf 177 = .ok (.istore_n 2, 1) := by decide +kernel
theorem dX12_numberOf_178 : decode cX12_numberOf 178 = .ok (.iload_n 2, 1) := by decide +kernel
theorem dX12_numberOf_179 : decode cX12_numberOf 179 = .ok (.aload_n 0, 1) := by decide +kernel
theorem dX12_numberOf_180 : decode cX12_numberOf 180 = .ok (.getfield 224, 3) := by decide +kernel
theorem dX12_numberOf_183 : decode cX12_numberOf 183 = .ok (.if_icmp .ge 29, 3) := by decide +kernel
theorem dX12_numberOf_186 : decode cX12_numberOf 186 = .ok (.aload_n 0, 1) := by decide +kernel
theorem dX12_numberOf_187 : decode cX12_numberOf 187 = .ok (.getfield 71, 3) := by decide +kernel
theorem dX12_numberOf_190 : decode cX12_numberOf 190 = .ok (.bipush 24, 2) := by decide +kernel
theorem dX12_numberOf_192 : decode cX12_numberOf 192 = .ok (.aload_n 0, 1) := by decide +kernel
theorem dX12_numberOf_193 : decode cX12_numberOf 193 = .ok (.getfield 234, 3) := by decide +kernel
theorem dX12_numberOf_196 : decode cX12_numberOf 196 = .ok (.imul, 1) := by decide +kernel
theorem dX12_numberOf_197 : decode cX12_numberOf 197 = .ok (.iload_n 2, 1) := by decide +kernel
theorem dX12_numberOf_198 : decode cX12_numberOf 198 = .ok (.iadd, 1) := by decide +kernel
theorem dX12_numberOf_199 : decode cX12_numberOf 199 = .ok (.aload_n 0, 1) := by decide +kernel
theorem dX12_numberOf_200 : decode cX12_numberOf 200 = .ok (.getfield 93, 3) := by decide +kernel
theorem dX12_numberOf_203 : decode cX12_numberOf 203 = .ok (.iload_n 2, 1) := by decide +kernel
theorem dX12_numberOf_204 : decode cX12_numberOf 204 = .ok (.iaload, 1) := by decide +kernel
theorem dX12_numberOf_205 : decode cX12_numberOf 205 = .ok (.iastore, 1) := by decide +kernel
theorem dX12_numberOf_206 : decode cX12_numberOf 206 = .ok (.iinc 2 1, 3) := by decide +kernel
theorem dX12_numberOf_209 : decode cX12_numberOf 209 = .ok (.goto (-31), 3) := by decide +kernel
theorem dX12_numberOf_212 : decode cX12_numberOf 212 = .ok (.iconst 0, 1) := by decide +kernel
theorem dX12_numberOf_213 : decode cX12_numberOf 213 = .ok (.istore_n 2, 1) := by decide +kernel
theorem dX12_numberOf_214 : decode cX12_numberOf 214 = .ok (.iload_n 2, 1) := by decide +kernel
theorem dX12_numberOf_215 : decode cX12_numberOf 215 = .ok (.aload_n 0, 1) := by decide +kernel
theorem dX12_numberOf_216 : decode cX12_numberOf 216 = .ok (.getfield 227, 3) := by decide +kernel
theorem dX12_numberOf_219 : decode cX12_numberOf 219 = .ok (.if_icmp .ge 34, 3) := by decide +kernel
theorem dX12_numberOf_222 : decode cX12_numberOf 222 = .ok (.aload_n 0, 1) := by decide +kernel
theorem dX12_numberOf_223 : decode cX12_numberOf 223 = .ok (.getfield 71, 3) := by decide +kernel
theorem dX12_numberOf_226 : decode cX12_numberOf 226 = .ok (.bipush 24, 2) := by decide +kernel
theorem dX12_numberOf_228 : decode cX12_numberOf 228 = .ok (.aload_n 0, 1) := by decide +kernel
theorem dX12_numberOf_229 : decode cX12_numberOf 229 = .ok (.getfield 234, 3) := by decide +kernel
theorem dX12_numberOf_232 : decode cX12_numberOf 232 = .ok (.imul, 1) := by decide +kernel
theorem dX12_numberOf_233 : decode cX12_numberOf 233 = .ok (.aload_n 0, 1) := by decide +kernel
theorem dX12_numberOf_234 : decode cX12_numberOf 234 = .ok (.getfield 224, 3) := by decide +kernel
theorem dX12_numberOf_237 : decode cX12_numberOf 237 = .ok (.iadd, 1) := by decide +kernel
theorem dX12_numberOf_238 : decode cX12_numberOf 238 = .ok (.iload_n 2, 1) := by decide +kernel
theorem dX12_numberOf_239 : decode cX12_numberOf 239 = .ok (.iadd, 1) := by decide +kernel
theorem dX12_numberOf_240 : decode cX12_numberOf 240 = .ok (.aload_n 0, 1) := by decide +kernel
theorem dX12_numberOf_241 : decode cX12_numberOf 241 = .ok (.getfield 96, 3) := by decide +kernel
theorem dX12_numberOf_244 : decode cX12_numberOf 244 = .ok (.iload_n 2, 1) := by decide +kernel
theorem dX12_numberOf_245 : decode cX12_numberOf 245 = .ok (.iaload, 1) := by decide +kernel
theorem dX12_numberOf_246 : decode cX12_numberOf 246 = .ok (.iastore, 1) := by decide +kernel
theorem dX12_numberOf_247 : decode cX12_numberOf 247 = .ok (.iinc 2 1, 3) := by decide +kernel
theorem dX12_numberOf_250 : decode cX12_numberOf 250 = .ok (.goto (-36), 3) := by decide +kernel
theorem dX12_numberOf_253 : decode cX12_numberOf 253 = .ok (.aload_n 0, 1) := by decide +kernel
theorem dX12_numberOf_254 : decode cX12_numberOf 254 = .ok (.dup, 1) := by decide +kernel
theorem dX12_numberOf_255 : decode cX12_numberOf 255 = .ok (.getfield 234, 3) := by decide +kernel
theorem dX12_numberOf_258 : decode cX12_numberOf 258 = .ok (.iconst 1, 1) := by decide +kernel
theorem dX12_numberOf_259 : decode cX12_numberOf 259 = .ok (.iadd, 1) := by decide +kernel
theorem dX12_numberOf_260 : decode cX12_numberOf 260 = .ok (.putfield 234, 3) := by decide +kernel
theorem dX12_numberOf_263 : decode cX12_numberOf 263 = .ok (.aload_n 0, 1) := by decide +kernel
theorem dX12_numberOf_264 : decode cX12_numberOf 264 = .ok (.getfield 234, 3) := by decide +kernel
theorem dX12_numberOf_267 : decode cX12_numberOf 267 = .ok (.iconst 1, 1) := by decide +kernel
theorem dX12_numberOf_268 : decode cX12_numberOf 268 = .ok (.isub, 1) := by decide +kernel
theorem dX12_numberOf_269 : decode cX12_numberOf 269 = .ok (.ireturn, 1) := by decide +kernel
theorem dX12_hasPutting_0 : decode cX12_hasPutting 0 = .ok (.aload_n 0, 1) := by decide +kernel
theorem dX12_hasPutting_1 : decode cX12_hasPutting 1 = .ok (.getfield 74, 3) := by decide +kernel
theorem dX12_hasPutting_4 : decode cX12_hasPutting 4 = .ok (.iload_n 1, 1) := by decide +kernel
theorem dX12_hasPutting_5 : decode cX12_hasPutting 5 = .ok (.iaload, 1) := by decide +kernel
theorem dX12_hasPutting_6 : decode cX12_hasPutting 6 = .ok (.ifCond .le 15, 3) := by decide +kernel
theorem dX12_hasPutting_9 : decode cX12_hasPutting 9 = .ok (.aload_n 0, 1) := by decide +kernel
theorem dX12_hasPutting_10 : decode cX12_hasPutting 10 = .ok (.getfield 71, 3) := by decide +kernel
theorem dX12_hasPutting_13 : decode cX12_hasPutting 13 = .ok (.bipush 24, 2) := by decide +kernel
theorem dX12_hasPutting_15 : decode cX12_hasPutting 15 = .ok (.iload_n 1, 1) := by decide +kernel
theorem dX12_hasPutting_16 : decode cX12_hasPutting 16 = .ok (.imul, 1) := by decide +kernel
theorem dX12_hasPutting_17 : decode cX12_hasPutting 17 = .ok (.iaload, 1) := by decide +kernel
theorem dX12_hasPutting_18 : decode cX12_hasPutting 18 = .ok (.goto 4, 3) := by decide +kernel
theorem dX12_hasPutting_21 : decode cX12_hasPutting 21 = .ok (.iconst (-1), 1) := by decide +kernel
theorem dX12_hasPutting_22 : decode cX12_hasPutting 22 = .ok (.istore_n 3, 1) := by decide +kernel
theorem dX12_hasPutting_23 : decode cX12_hasPutting 23 = .ok (.aload_n 0, 1) := by decide +kernel
theorem dX12_hasPutting_24 : decode cX12_hasPutting 24 = .ok (.getfield 77, 3) := by decide +kernel
theorem dX12_hasPutting_27 : decode cX12_hasPutting 27 = .ok (.iload_n 1, 1) := by decide +kernel
theorem dX12_hasPutting_28 : decode cX12_hasPutting 28 = .ok (.iaload, 1) := by decide +kernel
theorem dX12_hasPutting_29 : decode cX12_hasPutting 29 = .ok (.aload_n 0, 1) := by decide +kernel
theorem dX12_hasPutting_30 : decode cX12_hasPutting 30 = .ok (.getfield 74, 3) := by decide +kernel
theorem dX12_hasPutting_33 : decode cX12_hasPutting 33 = .ok (.iload_n 1, 1) := by decide +kernel
theorem dX12_hasPutting_34 : decode cX12_hasPutting 34 = .ok (.iaload, 1) := by decide +kernel
theorem dX12_hasPutting_35 : decode cX12_hasPutting 35 = .ok (.if_icmp .le 22, 3) := by decide +kernel
theorem dX12_hasPutting_38 : decode cX12_hasPutting 38 = .ok (.aload_n 0, 1) := by decide +kernel
theorem dX12_hasPutting_39 : decode cX12_hasPutting 39 = .ok (.getfield 71, 3) := by decide +kernel
theorem dX12_hasPutting_42 : decode cX12_hasPutting 42 = .ok (.bipush 24, 2) := by decide +kernel
theorem dX12_hasPutting_44 : decode cX12_hasPutting 44 = .ok (.iload_n 1, 1) := by decide +kernel
theorem dX12_hasPutting_45 : decode cX12_hasPutting 45 = .ok (.imul, 1) := by decide +kernel
theorem dX12_hasPutting_46 : decode cX12_hasPutting 46 = .ok (.aload_n 0, 1) := by decide +kernel
theorem dX12_hasPutting_47 : decode cX12_hasPutting 47 = .ok (.getfield 74, 3) := by decide +kernel
theorem dX12_hasPutting_50 : decode cX12_hasPutting 50 = .ok (.iload_n 1, 1) := by decide +kernel
theorem dX12_hasPutting_51 : decode cX12_hasPutting 51 = .ok (.iaload, 1) := by decide +kernel
theorem dX12_hasPutting_52 : decode cX12_hasPutting 52 = .ok (.iadd, 1) := by decide +kernel
theorem dX12_hasPutting_53 : decode cX12_hasPutting 53 = .ok (.iaload, 1) := by decide +kernel
theorem dX12_hasPutting_54 : decode cX12_hasPutting 54 = .ok (.goto 4, 3) := by decide +kernel
theorem dX12_hasPutting_57 : decode cX12_hasPutting 57 = .ok (.iconst (-1), 1) := by decide +kernel
theorem dX12_hasPutting_58 : decode cX12_hasPutting 58 = .ok (.istore 4, 2) := by decide +kernel
theorem dX12_hasPutting_60 : decode cX12_hasPutting 60 = .ok (.aload_n 0, 1) := by decide +kernel
theorem dX12_hasPutting_61 : decode cX12_hasPutting 61 = .ok (.iconst (-1), 1) := by decide +kernel
theorem dX12_hasPutting_62 : decode cX12_hasPutting 62 = .ok (.putfield 237, 3) := by decide +kernel
theorem dX12_hasPutting_65 : decode cX12_hasPutting 65 = .ok (.iload_n 3, 1) := by decide +kernel
theorem dX12_hasPutting_66 : decode cX12_hasPutting 66 = .ok (.iconst (-1), 1) := by decide +kernel
theorem dX12_hasPutting_67 : decode cX12_hasPutting 67 = .ok (.if_icmp .eq 9, 3) := by decide +kernel
theorem dX12_hasPutting_70 : decode cX12_hasPutting 70 = .ok (.iload 4, 2) := by decide +kernel
theorem dX12_hasPutting_72 : decode cX12_hasPutting 72 = .ok (.iconst (-1), 1) := by decide +kernel
theorem dX12_hasPutting_73 : decode cX12_hasPutting 73 = .ok (.if_icmp .ne 36, 3) := by decide +kernel
theorem dX12_hasPutting_76 : decode cX12_hasPutting 76 = .ok (.aload_n 0, 1) := by decide +kernel
theorem dX12_hasPutting_77 : decode cX12_hasPutting 77 = .ok (.iload_n 3, 1) := by decide +kernel
theorem dX12_hasPutting_78 : decode cX12_hasPutting 78 = .ok (.iconst (-1), 1) := by decide +kernel
theorem dX12_hasPutting_79 : decode cX12_hasPutting 79 = .ok (.if_icmp .ne 8, 3) := by decide +kernel
theorem dX12_hasPutting_82 : decode cX12_hasPutting 82 = .ok (.iload 4, 2) := by decide +kernel
theorem dX12_hasPutting_84 : decode cX12_hasPutting 84 = .ok (.goto 4, 3) := by decide +kernel
theorem dX12_hasPutting_87 : decode cX12_hasPutting 87 = .ok (.iload_n 3, 1) := by decide +kernel
theorem dX12_hasPutting_88 : decode cX12_hasPutting 88 = .ok (.putfield 240, 3) := by decide +kernel
theorem dX12_hasPutting_91 : decode cX12_hasPutting 91 = .ok (.iload_n 2, 1) := by decide +kernel
theorem dX12_hasPutting_92 : decode cX12_hasPutting 92 = .ok (.ifCond .ne 15, 3) := by decide +kernel
theorem dX12_hasPutting_95 : decode cX12_hasPutting 95 = .ok (.aload_n 0, 1) := by decide +kernel
theorem dX12_hasPutting_96 : decode cX12_hasPutting 96 = .ok (.getfield 240, 3) := by decide +kernel
theorem dX12_hasPutting_99 : decode cX12_hasPutting 99 = .ok (.iconst 3, 1) := by decide +kernel
theorem dX12_hasPutting_100 : decode cX12_hasPutting 100 = .ok (.if_icmp .le 7, 3) := by decide +kernel
theorem dX12_hasPutting_103 : decode cX12_hasPutting 103 = .ok (.iconst 1, 1) := by decide +kernel
theorem dX12_hasPutting_104 : decode cX12_hasPutting 104 = .ok (.goto 4, 3) := by decide +kernel
theorem dX12_hasPutting_107 : decode cX12_hasPutting 107 = .ok (.iconst 0, 1) := by decide +kernel
theorem dX12_hasPutting_108 : decode cX12_hasPutting 108 = .ok (.ireturn, 1) := by decide +kernel
theorem dX12_hasPutting_109 : decode cX12_hasPutting 109 = .ok (.iload_n 3, 1) := by decide +kernel
theorem dX12_hasPutting_110 : decode cX12_hasPutting 110 = .ok (.iconst 3, 1) := by decide +kernel
theorem dX12_hasPutting_111 : decode cX12_hasPutting 111 = .ok (.if_icmp .le 60, 3) := by decide +kernel
theorem dX12_hasPutting_114 : decode cX12_hasPutting 114 = .ok (.iload 4, 2) := by decide +kernel
theorem dX12_hasPutting_116 : decode cX12_hasPutting 116 = .ok (.iconst 3, 1) := by decide +kernel
theorem dX12_hasPutting_117 : decode cX12_hasPutting 117 = .ok (.if_icmp .le 54, 3) := by decide +kernel
theorem dX12_hasPutting_120 : decode cX12_hasPutting 120 = .ok (.aload_n 0, 1) := by decide +kernel
theorem dX12_hasPutting_121 : decode cX12_hasPutting 121 = .ok (.iload_n 2, 1) := by decide +kernel
theorem dX12_hasPutting_122 : decode cX12_hasPutting 122 = .ok (.iconst 2, 1) := by decide +kernel
theorem dX12_hasPutting_123 : decode cX12_hasPutting 123 = .ok (.irem, 1) := by decide +kernel
theorem dX12_hasPutting_124 : decode cX12_hasPutting 124 = .ok (.ifCond .ne 7, 3) := by decide +kernel
theorem dX12_hasPutting_127 : decode cX12_hasPutting 127 = .ok (.iload_n 3, 1) := by decide +kernel
theorem dX12_hasPutting_128 : decode cX12_hasPutting 128 = .ok (.goto 5, 3) := by decide +kernel
theorem dX12_hasPutting_131 : decode cX12_hasPutting 131 = .ok (.iload 4, 2) := by decide +kernel
theorem dX12_hasPutting_133 : decode cX12_hasPutting 133 = .ok (.putfield 240, 3) := by decide +kernel
theorem dX12_hasPutting_136 : decode cX12_hasPutting 136 = .ok (.aload_n 0, 1) := by decide +kernel
theorem dX12_hasPutting_137 : decode cX12_hasPutting 137 = .ok (.iload_n 2, 1) := by decide +kernel
theorem dX12_hasPutting_138 : decode cX12_hasPutting 138 = .ok (.iconst 2, 1) := by decide +kernel
theorem dX12_hasPutting_139 : decode cX12_hasPutting 139 = .ok (.if_icmp .ge 7, 3) := by decide +kernel
theorem dX12_hasPutting_142 : decode cX12_hasPutting 142 = .ok (.iconst (-1), 1) := by decide +kernel
theorem dX12_hasPutting_143 : decode cX12_hasPutting 143 = .ok (.goto 14, 3) := by decide +kernel
theorem dX12_hasPutting_146 : decode cX12_hasPutting 146 = .ok (.iload_n 2, 1) := by decide +kernel
theorem dX12_hasPutting_147 : decode cX12_hasPutting 147 = .ok (.iconst 2, 1) := by decide +kernel
theorem dX12_hasPutting_148 : decode cX12_hasPutting 148 = .ok (.if_icmp .ne 8, 3) := by decide +kernel
theorem dX12_hasPutting_151 : decode cX12_hasPutting 151 = .ok (.iload 4, 2) := by decide +kernel
theorem dX12_hasPutting_153 : decode cX12_hasPutting 153 = .ok (.goto 4, 3) := by decide +kernel
theorem dX12_hasPutting_156 : decode cX12_hasPutting 156 = .ok (.iload_n 3, 1) := by decide +kernel
theorem dX12_hasPutting_157 : decode cX12_hasPutting 157 = .ok (.putfield 237, 3) := by decide +kernel
theorem dX12_hasPutting_160 : decode cX12_hasPutting 160 = .ok (.iload_n 2, 1) := by decide +kernel
theorem dX12_hasPutting_161 : decode cX12_hasPutting 161 = .ok (.iconst 4, 1) := by decide +kernel
theorem dX12_hasPutting_162 : decode cX12_hasPutting 162 = .ok (.if_icmp .ge 7, 3) := by decide +kernel
theorem dX12_hasPutting_165 : decode cX12_hasPutting 165 = .ok (.iconst 1, 1) := by decide +kernel
theorem dX12_hasPutting_166 : decode cX12_hasPutting 166 = .ok (.goto 4, 3) := by decide +kernel
theorem dX12_hasPutting_169 : decode cX12_hasPutting 169 = .ok (.iconst 0, 1) := by decide +kernel
theorem dX12_hasPutting_170 : decode cX12_hasPutting 170 = .ok (.ireturn, 1) := by decide +kernel
theorem dX12_hasPutting_171 : decode cX12_hasPutting 171 = .ok (.aload_n 0, 1) := by decide +kernel
theorem dX12_hasPutting_172 : decode cX12_hasPutting 172 = .ok (.iload_n 3, 1) := by decide +kernel
theorem dX12_hasPutting_173 : decode cX12_hasPutting 173 = .ok (.iconst 3, 1) := by decide +kernel
theorem dX12_hasPutting_174 : decode cX12_hasPutting 174 = .ok (.if_icmp .le 7, 3) := by decide +kernel
theorem dX12_hasPutting_177 : decode cX12_hasPutting 177 = .ok (.iload_n 3, 1) := by decide +kernel
theorem dX12_hasPutting_178 : decode cX12_hasPutting 178 = .ok (.goto 5, 3) := by decide +kernel
theorem dX12_hasPutting_181 : decode cX12_hasPutting 181 = .ok (.iload 4, 2) := by decide +kernel
theorem dX12_hasPutting_183 : decode cX12_hasPutting 183 = .ok (.putfield 240, 3) := by decide +kernel
theorem dX12_hasPutting_186 : decode cX12_hasPutting 186 = .ok (.aload_n 0, 1) := by decide +kernel
theorem dX12_hasPutting_187 : decode cX12_hasPutting 187 = .ok (.iload_n 2, 1) := by decide +kernel
theorem dX12_hasPutting_188 : decode cX12_hasPutting 188 = .ok (.ifCond .ne 7, 3) := by decide +kernel
theorem dX12_hasPutting_191 : decode cX12_hasPutting 191 = .ok (.iconst (-1), 1) := by decide +kernel
theorem dX12_hasPutting_192 : decode cX12_hasPutting 192 = .ok (.goto 14, 3) := by decide +kernel
theorem dX12_hasPutting_195 : decode cX12_hasPutting 195 = .ok (.iload_n 3, 1) := by decide +kernel
theorem dX12_hasPutting_196 : decode cX12_hasPutting 196 = .ok (.iconst 3, 1) := by decide +kernel
theorem dX12_hasPutting_197 : decode cX12_hasPutting 197 = .ok (.if_icmp .le 8, 3) := by decide +kernel
theorem dX12_hasPutting_200 : decode cX12_hasPutting 200 = .ok (.iload 4, 2) := by decide +kernel
theorem dX12_hasPutting_202 : decode cX12_hasPutting 202 = .ok (.goto 4, 3) := by decide +kernel
theorem dX12_hasPutting_205 : decode cX12_hasPutting 205 = .ok (.iload_n 3, 1) := by decide +kernel
theorem dX12_hasPutting_206 : decode cX12_hasPutting 206 = .ok (.putfield 237, 3) := by decide +kernel
theorem dX12_hasPutting_209 : decode cX12_hasPutting 209 = .ok (.aload_n 0, 1) := by decide +kernel
theorem dX12_hasPutting_210 : decode cX12_hasPutting 210 = .ok (.getfield 240, 3) := by decide +kernel
theorem dX12_hasPutting_213 : decode cX12_hasPutting 213 = .ok (.iconst 3, 1) := by decide +kernel
theorem dX12_hasPutting_214 : decode cX12_hasPutting 214 = .ok (.if_icmp .le 12, 3) := by decide +kernel
theorem dX12_hasPutting_217 : decode cX12_hasPutting 217 = .ok (.iload_n 2, 1) := by decide +kernel
theorem dX12_hasPutting_218 : decode cX12_hasPutting 218 = .ok (.iconst 2, 1) := by decide +kernel
theorem dX12_hasPutting_219 : decode cX12_hasPutting 219 = .ok (.if_icmp .ge 7, 3) := by decide +kernel
theorem dX12_hasPutting_222 : decode cX12_hasPutting 222 = .ok (.iconst 1, 1) := by decide +kernel
theorem dX12_hasPutting_223 : decode cX12_hasPutting 223 = .ok (.goto 4, 3) := by decide +kernel
theorem dX12_hasPutting_226 : decode cX12_hasPutting 226 = .ok (.iconst 0, 1) := by decide +kernel
theorem dX12_hasPutting_227 : decode cX12_hasPutting 227 = .ok (.ireturn, 1) := by decide +kernel
theorem dX12_layPut_0 : decode cX12_layPut 0 = .ok (.aload_n 0, 1) := by decide +kernel
theorem dX12_layPut_1 : decode cX12_layPut 1 = .ok (.iconst 0, 1) := by decide +kernel
theorem dX12_layPut_2 : decode cX12_layPut 2 = .ok (.putfield 224, 3) := by decide +kernel
theorem dX12_layPut_5 : decode cX12_layPut 5 = .ok (.aload_n 0, 1) := by decide +kernel
theorem dX12_layPut_6 : decode cX12_layPut 6 = .ok (.iconst 0, 1) := by decide +kernel
theorem dX12_layPut_7 : decode cX12_layPut 7 = .ok (.putfield 227, 3) := by decide +kernel
theorem dX12_layPut_10 : decode cX12_layPut 10 = .ok (.iconst 0, 1) := by decide +kernel
theorem dX12_layPut_11 : decode cX12_layPut 11 = .ok (.istore_n 2, 1) := by decide +kernel
theorem dX12_layPut_12 : decode cX12_layPut 12 = .ok (.iload_n 2, 1) := by decide +kernel
theorem dX12_layPut_13 : decode cX12_layPut 13 = .ok (.aload_n 0, 1) := by decide +kernel
theorem dX12_layPut_14 : decode cX12_layPut 14 = .ok (.getfield 77, 3) := by decide +kernel
theorem dX12_layPut_17 : decode cX12_layPut 17 = .ok (.iload_n 1, 1) := by decide +kernel
theorem dX12_layPut_18 : decode cX12_layPut 18 = .ok (.iaload, 1) := by decide +kernel
theorem dX12_layPut_19 : decode cX12_layPut 19 = .ok (.if_icmp .ge 105, 3) := by decide +kernel
theorem dX12_layPut_22 : decode cX12_layPut 22 = .ok (.aload_n 0, 1) := by decide +kernel
theorem dX12_layPut_23 : decode cX12_layPut 23 = .ok (.getfield 71, 3) := by decide +kernel
theorem dX12_layPut_26 : decode cX12_layPut 26 = .ok (.bipush 24, 2) := by decide +kernel
theorem dX12_layPut_28 : decode cX12_layPut 28 = .ok (.iload_n 1, 1) := by decide +kernel
theorem dX12_layPut_29 : decode cX12_layPut 29 = .ok (.imul, 1) := by decide +kernel
theorem dX12_layPut_30 : decode cX12_layPut 30 = .ok (.iload_n 2, 1) := by decide +kernel
theorem dX12_layPut_31 : decode cX12_layPut 31 = .ok (.iadd, 1) := by decide +kernel
theorem dX12_layPut_32 : decode cX12_layPut 32 = .ok (.iaload, 1) := by decide +kernel
theorem dX12_layPut_33 : decode cX12_layPut 33 = .ok (.istore_n 3, 1) := by decide +kernel
theorem dX12_layPut_34 : decode cX12_layPut 34 = .ok (.iload_n 3, 1) := by decide +kernel
theorem dX12_layPut_35 : decode cX12_layPut 35 = .ok (.aload_n 0, 1) := by decide +kernel
theorem dX12_layPut_36 : decode cX12_layPut 36 = .ok (.getfield 240, 3) := by decide +kernel
theorem dX12_layPut_39 : decode cX12_layPut 39 = .ok (.if_icmp .ne 7, 3) := by decide +kernel
theorem dX12_layPut_42 : decode cX12_layPut 42 = .ok (.iconst 1, 1) := by decide +kernel
theorem dX12_layPut_43 : decode cX12_layPut 43 = .ok (.goto 4, 3) := by decide +kernel
theorem dX12_layPut_46 : decode cX12_layPut 46 = .ok (.iconst 0, 1) := by decide +kernel
theorem dX12_layPut_47 : decode cX12_layPut 47 = .ok (.istore 4, 2) := by decide +kernel
theorem dX12_layPut_49 : decode cX12_layPut 49 = .ok (.iload 4, 2) := by decide +kernel
theorem dX12_layPut_51 : decode cX12_layPut 51 = .ok (.ifCond .eq 34, 3) := by decide +kernel
theorem dX12_layPut_54 : decode cX12_layPut 54 = .ok (.aload_n 0, 1) := by decide +kernel
theorem dX12_layPut_55 : decode cX12_layPut 55 = .ok (.getfield 237, 3) := by decide +kernel
theorem dX12_layPut_58 : decode cX12_layPut 58 = .ok (.iconst (-1), 1) := by decide +kernel
theorem dX12_layPut_59 : decode cX12_layPut 59 = .ok (.if_icmp .eq 26, 3) := by decide +kernel
theorem dX12_layPut_62 : decode cX12_layPut 62 = .ok (.aload_n 0, 1) := by decide +kernel
theorem dX12_layPut_63 : decode cX12_layPut 63 = .ok (.aload_n 0, 1) := by decide +kernel
theorem dX12_layPut_64 : decode cX12_layPut 64 = .ok (.getfield 237, 3) := by decide +kernel
theorem dX12_layPut_67 : decode cX12_layPut 67 = .ok (.iload_n 2, 1) := by decide +kernel
theorem dX12_layPut_68 : decode cX12_layPut 68 = .ok (.aload_n 0, 1) := by decide +kernel
theorem dX12_layPut_69 : decode cX12_layPut 69 = .ok (.getfield 74, 3) := by decide +kernel
theorem dX12_layPut_72 : decode cX12_layPut 72 = .ok (.iload_n 1, 1) := by decide +kernel
theorem dX12_layPut_73 : decode cX12_layPut 73 = .ok (.iaload, 1) := by decide +kernel
theorem dX12_layPut_74 : decode cX12_layPut 74 = .ok (.if_icmp .ge 7, 3) := by decide +kernel
theorem dX12_layPut_77 : decode cX12_layPut 77 = .ok (.iconst 1, 1) := by decide +kernel
theorem dX12_layPut_78 : decode cX12_layPut 78 = .ok (.goto 4, 3) := by decide +kernel
theorem dX12_layPut_81 : decode cX12_layPut 81 = .ok (.iconst 0, 1) := by decide +kernel
theorem dX12_layPut_82 : decode cX12_layPut 82 = .ok (.invokevirtual 243, 3) := by decide +kernel
theorem dX12_layPut_85 : decode cX12_layPut 85 = .ok (.iload 4, 2) := by decide +kernel
theorem dX12_layPut_87 : decode cX12_layPut 87 = .ok (.ifCond .eq 11, 3) := by decide +kernel
theorem dX12_layPut_90 : decode cX12_layPut 90 = .ok (.aload_n 0, 1) := by decide +kernel
theorem dX12_layPut_91 : decode cX12_layPut 91 = .ok (.getfield 237, 3) := by decide +kernel
theorem dX12_layPut_94 : decode cX12_layPut 94 = .ok (.iconst (-1), 1) := by decide +kernel
theorem dX12_layPut_95 : decode cX12_layPut 95 = .ok (.if_icmp .eq 23, 3) := by decide +kernel
theorem dX12_layPut_98 : decode cX12_layPut 98 = .ok (.aload_n 0, 1) := by decide +kernel
theorem dX12_layPut_99 : decode cX12_layPut 99 = .ok (.iload_n 3, 1) := by decide +kernel
theorem dX12_layPut_100 : decode cX12_layPut 100 = .ok (.iload_n 2, 1) := by decide +kernel
theorem dX12_layPut_101 : decode cX12_layPut 101 = .ok (.aload_n 0, 1) := by decide +kernel
theorem dX12_layPut_102 : decode cX12_layPut 102 = .ok (.getfield 74, 3) := by decide +kernel
theorem dX12_layPut_105 : decode cX12_layPut 105 = .ok (.iload_n 1, 1) := by decide +kernel
theorem dX12_layPut_106 : decode cX12_layPut 106 = .ok (.iaload, 1) := by decide +kernel
theorem dX12_layPut_107 : decode cX12_layPut 107 = .ok (.if_icmp .ge 7, 3) := by decide +kernel
theorem dX12_layPut_110 : decode cX12_layPut 110 = .ok (.iconst 1, 1) := by decide +kernel
theorem dX12_layPut_111 : decode cX12_layPut 111 = .ok (.goto 4, 3) := by decide +kernel
theorem dX12_layPut_114 : decode cX12_layPut 114 = .ok (.iconst 0, 1) := by decide +kernel
theorem dX12_layPut_115 : decode cX12_layPut 115 = .ok (.invokevirtual 243, 3) := by decide +kernel
theorem dX12_layPut_118 : decode cX12_layPut 118 = .ok (.iinc 2 1, 3) := by decide +kernel
theorem dX12_layPut_121 : decode cX12_layPut 121 = .ok (.goto (-109), 3) := by decide +kernel
theorem dX12_layPut_124 : decode cX12_layPut 124 = .ok (.aload_n 0, 1) := by decide +kernel
theorem dX12_layPut_125 : decode cX12_layPut 125 = .ok (.invokevirtual 247, 3) := by decide +kernel
theorem dX12_layPut_128 : decode cX12_layPut 128 = .ok (.return_, 1) := by decide +kernel
theorem dX12_add_0 : decode cX12_add 0 = .ok (.iload_n 2, 1) := by decide +kernel
theorem dX12_add_1 : decode cX12_add 1 = .ok (.ifCond .eq 26, 3) := by decide +kernel
theorem dX12_add_4 : decode cX12_add 4 = .ok (.aload_n 0, 1) := by decide +kernel
theorem dX12_add_5 : decode cX12_add 5 = .ok (.getfield 93, 3) := by decide +kernel
theorem dX12_add_8 : decode cX12_add 8 = .ok (.aload_n 0, 1) := by decide +kernel
theorem dX12_add_9 : decode cX12_add 9 = .ok (.getfield 224, 3) := by decide +kernel
theorem dX12_add_12 : decode cX12_add 12 = .ok (.iload_n 1, 1) := by decide +kernel
theorem dX12_add_13 : decode cX12_add 13 = .ok (.iastore, 1) := by decide +kernel
theorem dX12_add_14 : decode cX12_add 14 = .ok (.aload_n 0, 1) := by decide +kernel
theorem dX12_add_15 : decode cX12_add 15 = .ok (.dup, 1) := by decide +kernel
theorem dX12_add_16 : decode cX12_add 16 = .ok (.getfield 224, 3) := by decide +kernel
theorem dX12_add_19 : decode cX12_add 19 = .ok (.iconst 1, 1) := by decide +kernel
theorem dX12_add_20 : decode cX12_add 20 = .ok (.iadd, 1) := by decide +kernel
theorem dX12_add_21 : decode cX12_add 21 = .ok (.putfield 224, 3) := by decide +kernel
theorem dX12_add_24 : decode cX12_add 24 = .ok (.goto 23, 3) := by decide +kernel
theorem dX12_add_27 : decode cX12_add 27 = .ok (.aload_n 0, 1) := by decide +kernel
theorem dX12_add_28 : decode cX12_add 28 = .ok (.getfield 96, 3) := by decide +kernel
theorem dX12_add_31 : decode cX12_add 31 = .ok (.aload_n 0, 1) := by decide +kernel
theorem dX12_add_32 : decode cX12_add 32 = .ok (.getfield 227, 3) := by decide +kernel
theorem dX12_add_35 : decode cX12_add 35 = .ok (.iload_n 1, 1) := by decide +kernel
theorem dX12_add_36 : decode cX12_add 36 = .ok (.iastore, 1) := by decide +kernel
theorem dX12_add_37 : decode cX12_add 37 = .ok (.aload_n 0, 1) := by decide +kernel
theorem dX12_add_38 : decode cX12_add 38 = .ok (.dup, 1) := by decide +kernel
theorem dX12_add_39 : decode cX12_add 39 = .ok (.getfield 227, 3) := by decide +kernel
theorem dX12_add_42 : decode cX12_add 42 = .ok (.iconst 1, 1) := by decide +kernel
theorem dX12_add_43 : decode cX12_add 43 = .ok (.iadd, 1) := by decide +kernel
theorem dX12_add_44 : decode cX12_add 44 = .ok (.putfield 227, 3) := by decide +kernel
theorem dX12_add_47 : decode cX12_add 47 = .ok (.return_, 1) := by decide +kernel
theorem dX12_chase_0 : decode cX12_chase 0 = .ok (.aload_n 0, 1) := by decide +kernel
theorem dX12_chase_1 : decode cX12_chase 1 = .ok (.iload_n 1, 1) := by decide +kernel
theorem dX12_chase_2 : decode cX12_chase 2 = .ok (.invokevirtual 157, 3) := by decide +kernel
theorem dX12_chase_5 : decode cX12_chase 5 = .ok (.ifCond .ne 6, 3) := by decide +kernel
theorem dX12_chase_8 : decode cX12_chase 8 = .ok (.bipush (-2), 2) := by decide +kernel
theorem dX12_chase_10 : decode cX12_chase 10 = .ok (.ireturn, 1) := by decide +kernel
theorem dX12_chase_11 : decode cX12_chase 11 = .ok (.iconst 4, 1) := by decide +kernel
theorem dX12_chase_12 : decode cX12_chase 12 = .ok (.istore_n 2, 1) := by decide +kernel
theorem dX12_chase_13 : decode cX12_chase 13 = .ok (.iload_n 2, 1) := by decide +kernel
theorem dX12_chase_14 : decode cX12_chase 14 = .ok (.bipush 8, 2) := by decide +kernel
theorem dX12_chase_16 : decode cX12_chase 16 = .ok (.if_icmp .ge 88, 3) := by decide +kernel
theorem dX12_chase_19 : decode cX12_chase 19 = .ok (.iconst 0, 1) := by decide +kernel
theorem dX12_chase_20 : decode cX12_chase 20 = .ok (.istore_n 3, 1) := by decide +kernel
theorem dX12_chase_21 : decode cX12_chase 21 = .ok (.iconst 0, 1) := by decide +kernel
theorem dX12_chase_22 : decode cX12_chase 22 = .ok (.istore 4, 2) := by decide +kernel
theorem dX12_chase_24 : decode cX12_chase 24 = .ok (.iload 4, 2) := by decide +kernel
theorem dX12_chase_26 : decode cX12_chase 26 = .ok (.iconst 2, 1) := by decide +kernel
theorem dX12_chase_27 : decode cX12_chase 27 = .ok (.if_icmp .ge 63, 3) := by decide +kernel
theorem dX12_chase_30 : decode cX12_chase 30 = .ok (.iconst 0, 1) := by decide +kernel
theorem dX12_chase_31 : decode cX12_chase 31 = .ok (.istore 5, 2) := by decide +kernel
theorem dX12_chase_33 : decode cX12_chase 33 = .ok (.iload 5, 2) := by decide +kernel
theorem dX12_chase_35 : decode cX12_chase 35 = .ok (.aload_n 0, 1) := by decide +kernel
theorem dX12_chase_36 : decode cX12_chase 36 = .ok (.getfield 16, 3) := by decide +kernel
theorem dX12_chase_39 : decode cX12_chase 39 = .ok (.iconst 2, 1) := by decide +kernel
theorem dX12_chase_40 : decode cX12_chase 40 = .ok (.iload_n 1, 1) := by decide +kernel
theorem dX12_chase_41 : decode cX12_chase 41 = .ok (.imul, 1) := by decide +kernel
theorem dX12_chase_42 : decode cX12_chase 42 = .ok (.iload 4, 2) := by decide +kernel
theorem dX12_chase_44 : decode cX12_chase 44 = .ok (.iadd, 1) := by decide +kernel
theorem dX12_chase_45 : decode cX12_chase 45 = .ok (.iaload, 1) := by decide +kernel
theorem dX12_chase_46 : decode cX12_chase 46 = .ok (.if_icmp .ge 38, 3) := by decide +kernel
theorem dX12_chase_49 : decode cX12_chase 49 = .ok (.iload_n 3, 1) := by decide +kernel
theorem dX12_chase_50 : decode cX12_chase 50 = .ok (.aload_n 0, 1) := by decide +kernel
theorem dX12_chase_51 : decode cX12_chase 51 = .ok (.getfield 13, 3) := by decide +kernel
theorem dX12_chase_54 : decode cX12_chase 54 = .ok (.bipush 12, 2) := by decide +kernel
theorem dX12_chase_56 : decode cX12_chase 56 = .ok (.iconst 2, 1) := by decide +kernel
theorem dX12_chase_57 : decode cX12_chase 57 = .ok (.iload_n 1, 1) := by decide +kernel
theorem dX12_chase_58 : decode cX12_chase 58 = .ok (.imul, 1) := by decide +kernel
theorem dX12_chase_59 : decode cX12_chase 59 = .ok (.iload 4, 2) := by decide +kernel
theorem dX12_chase_61 : decode cX12_chase 61 = .ok (.iadd, 1) := by decide +kernel
theorem dX12_chase_62 : decode cX12_chase 62 = .ok (.imul, 1) := by decide +kernel
theorem dX12_chase_63 : decode cX12_chase 63 = .ok (.iload 5, 2) := by decide +kernel
theorem dX12_chase_65 : decode cX12_chase 65 = .ok (.iadd, 1) := by decide +kernel
theorem dX12_chase_66 : decode cX12_chase 66 = .ok (.iaload, 1) := by decide +kernel
theorem dX12_chase_67 : decode cX12_chase 67 = .ok (.iload_n 2, 1) := by decide +kernel
theorem dX12_chase_68 : decode cX12_chase 68 = .ok (.if_icmp .ne 7, 3) := by decide +kernel
theorem dX12_chase_71 : decode cX12_chase 71 = .ok (.iconst 1, 1) := by decide +kernel
theorem dX12_chase_72 : decode cX12_chase 72 = .ok (.goto 4, 3) := by decide +kernel
theorem dX12_chase_75 : decode cX12_chase 75 = .ok (.iconst 0, 1) := by decide +kernel
theorem dX12_chase_76 : decode cX12_chase 76 = .ok (.iadd, 1) := by decide +kernel
theorem dX12_chase_77 : decode cX12_chase 77 = .ok (.istore_n 3, 1) := by decide +kernel
theorem dX12_chase_78 : decode cX12_chase 78 = .ok (.iinc 5 1, 3) := by decide +kernel
theorem dX12_chase_81 : decode cX12_chase 81 = .ok (.goto (-48), 3) := by decide +kernel
theorem dX12_chase_84 : decode cX12_chase 84 = .ok (.iinc 4 1, 3) := by decide +kernel
theorem dX12_chase_87 : decode cX12_chase 87 = .ok (.goto (-63), 3) := by decide +kernel
theorem dX12_chase_90 : decode cX12_chase 90 = .ok (.iload_n 3, 1) := by decide +kernel
theorem dX12_chase_91 : decode cX12_chase 91 = .ok (.iconst 2, 1) := by decide +kernel
theorem dX12_chase_92 : decode cX12_chase 92 = .ok (.if_icmp .le 6, 3) := by decide +kernel
theorem dX12_chase_95 : decode cX12_chase 95 = .ok (.bipush (-4), 2) := by decide +kernel
theorem dX12_chase_97 : decode cX12_chase 97 = .ok (.ireturn, 1) := by decide +kernel
theorem dX12_chase_98 : decode cX12_chase 98 = .ok (.iinc 2 1, 3) := by decide +kernel
theorem dX12_chase_101 : decode cX12_chase 101 = .ok (.goto (-88), 3) := by decide +kernel
theorem dX12_chase_104 : decode cX12_chase 104 = .ok (.iconst 0, 1) := by decide +kernel
theorem dX12_chase_105 : decode cX12_chase 105 = .ok (.istore_n 2, 1) := by decide +kernel
theorem dX12_chase_106 : decode cX12_chase 106 = .ok (.iload_n 2, 1) := by decide +kernel
theorem dX12_chase_107 : decode cX12_chase 107 = .ok (.sipush 4096, 3) := by decide +kernel
theorem dX12_chase_110 : decode cX12_chase 110 = .ok (.if_icmp .ge 16, 3) := by decide +kernel
theorem dX12_chase_113 : decode cX12_chase 113 = .ok (.aload_n 0, 1) := by decide +kernel
theorem dX12_chase_114 : decode cX12_chase 114 = .ok (.getfield 90, 3) := by decide +kernel
theorem dX12_chase_117 : decode cX12_chase 117 = .ok (.iload_n 2, 1) := by decide +kernel
theorem dX12_chase_118 : decode cX12_chase 118 = .ok (.iconst (-1), 1) := by decide +kernel
theorem dX12_chase_119 : decode cX12_chase 119 = .ok (.iastore, 1) := by decide +kernel
theorem dX12_chase_120 : decode cX12_chase 120 = .ok (.iinc 2 1, 3) := by decide +kernel
theorem dX12_chase_123 : decode cX12_chase 123 = .ok (.goto (-17), 3) := by decide +kernel
theorem dX12_chase_126 : decode cX12_chase 126 = .ok (.aload_n 0, 1) := by decide +kernel
theorem dX12_chase_127 : decode cX12_chase 127 = .ok (.iconst 0, 1) := by decide +kernel
theorem dX12_chase_128 : decode cX12_chase 128 = .ok (.putfield 234, 3) := by decide +kernel
theorem dX12_chase_131 : decode cX12_chase 131 = .ok (.aload_n 0, 1) := by decide +kernel
theorem dX12_chase_132 : decode cX12_chase 132 = .ok (.aload_n 0, 1) := by decide +kernel
theorem dX12_chase_133 : decode cX12_chase 133 = .ok (.getfield 16, 3) := by decide +kernel
theorem dX12_chase_136 : decode cX12_chase 136 = .ok (.iconst 2, 1) := by decide +kernel
theorem dX12_chase_137 : decode cX12_chase 137 = .ok (.iload_n 1, 1) := by decide +kernel
theorem dX12_chase_138 : decode cX12_chase 138 = .ok (.imul, 1) := by decide +kernel
theorem dX12_chase_139 : decode cX12_chase 139 = .ok (.iaload, 1) := by decide +kernel
theorem dX12_chase_140 : decode cX12_chase 140 = .ok (.putfield 224, 3) := by decide +kernel
theorem dX12_chase_143 : decode cX12_chase 143 = .ok (.aload_n 0, 1) := by decide +kernel
theorem dX12_chase_144 : decode cX12_chase 144 = .ok (.aload_n 0, 1) := by decide +kernel
theorem dX12_chase_145 : decode cX12_chase 145 = .ok (.getfield 16, 3) := by decide +kernel
theorem dX12_chase_148 : decode cX12_chase 148 = .ok (.iconst 2, 1) := by decide +kernel
theorem dX12_chase_149 : decode cX12_chase 149 = .ok (.iload_n 1, 1) := by decide +kernel
theorem dX12_chase_150 : decode cX12_chase 150 = .ok (.imul, 1) := by decide +kernel
theorem dX12_chase_151 : decode cX12_chase 151 = .ok (.iconst 1, 1) := by decide +kernel
theorem dX12_chase_152 : decode cX12_chase 152 = .ok (.iadd, 1) := by decide +kernel
theorem dX12_chase_153 : decode cX12_chase 153 = .ok (.iaload, 1) := by decide +kernel
theorem dX12_chase_154 : decode cX12_chase 154 = .ok (.putfield 227, 3) := by decide +kernel
theorem dX12_chase_157 : decode cX12_chase 157 = .ok (.iconst 0, 1) := by decide +kernel
theorem dX12_chase_158 : decode cX12_chase 158 = .ok (.istore_n 2, 1) := by decide +kernel
theorem dX12_chase_159 : decode cX12_chase 159 = .ok (.iload_n 2, 1) := by decide +kernel
theorem dX12_chase_160 : decode cX12_chase 160 = .ok (.aload_n 0, 1) := by decide +kernel
theorem dX12_chase_161 : decode cX12_chase 161 = .ok (.getfield 224, 3) := by decide +kernel
theorem dX12_chase_164 : decode cX12_chase 164 = .ok (.if_icmp .ge 26, 3) := by decide +kernel
theorem dX12_chase_167 : decode cX12_chase 167 = .ok (.aload_n 0, 1) := by decide +kernel
theorem dX12_chase_168 : decode cX12_chase 168 = .ok (.getfield 93, 3) := by decide +kernel
theorem dX12_chase_171 : decode cX12_chase 171 = .ok (.iload_n 2, 1) := by decide +kernel
theorem dX12_chase_172 : decode cX12_chase 172 = .ok (.aload_n 0, 1) := by decide +kernel
theorem dX12_chase_173 : decode cX12_chase 173 = .ok (.getfield 13, 3) := by decide +kernel
theorem dX12_chase_176 : decode cX12_chase 176 = .ok (.bipush 24, 2) := by decide +kernel
theorem dX12_chase_178 : decode cX12_chase 178 = .ok (.iload_n 1, 1) := by decide +kernel
theorem dX12_chase_179 : decode cX12_chase 179 = .ok (.imul, 1) := by decide +kernel
theorem dX12_chase_180 : decode cX12_chase 180 = .ok (.iload_n 2, 1) := by decide +kernel
theorem dX12_chase_181 : decode cX12_chase 181 = .ok (.iadd, 1) := by decide +kernel
theorem dX12_chase_182 : decode cX12_chase 182 = .ok (.iaload, 1) := by decide +kernel
theorem dX12_chase_183 : decode cX12_chase 183 = .ok (.iastore, 1) := by decide +kernel
theorem dX12_chase_184 : decode cX12_chase 184 = .ok (.iinc 2 1, 3) := by decide +kernel
theorem dX12_chase_187 : decode cX12_chase 187 = .ok (.goto (-28), 3) := by decide +kernel
theorem dX12_chase_190 : decode cX12_chase 190 = .ok (.iconst 0, 1) := by decide +kernel
theorem dX12_chase_191 : decode cX12_chase 191 = .ok (.istore_n 2, 1) := by decide +kernel
theorem dX12_chase_192 : decode cX12_chase 192 = .ok (.iload_n 2, 1) := by decide +kernel
theorem dX12_chase_193 : decode cX12_chase 193 = .ok (.aload_n 0, 1) := by decide +kernel
theorem dX12_chase_194 : decode cX12_chase 194 = .ok (.getfield 227, 3) := by decide +kernel
theorem dX12_chase_197 : decode cX12_chase 197 = .ok (.if_icmp .ge 30, 3) := by decide +kernel
theorem dX12_chase_200 : decode cX12_chase 200 = .ok (.aload_n 0, 1) := by decide +kernel
theorem dX12_chase_201 : decode cX12_chase 201 = .ok (.getfield 96, 3) := by decide +kernel
theorem dX12_chase_204 : decode cX12_chase 204 = .ok (.iload_n 2, 1) := by decide +kernel
theorem dX12_chase_205 : decode cX12_chase 205 = .ok (.aload_n 0, 1) := by decide +kernel
theorem dX12_chase_206 : decode cX12_chase 206 = .ok (.getfield 13, 3) := by decide +kernel
theorem dX12_chase_209 : decode cX12_chase 209 = .ok (.bipush 12, 2) := by decide +kernel
theorem dX12_chase_211 : decode cX12_chase 211 = .ok (.iconst 2, 1) := by decide +kernel
theorem dX12_chase_212 : decode cX12_chase 212 = .ok (.iload_n 1, 1) := by decide +kernel
theorem dX12_chase_213 : decode cX12_chase 213 = .ok (.imul, 1) := by decide +kernel
theorem dX12_chase_214 : decode cX12_chase 214 = .ok (.iconst 1, 1) := by decide +kernel
theorem dX12_chase_215 : decode cX12_chase 215 = .ok (.iadd, 1) := by decide +kernel
theorem dX12_chase_216 : decode cX12_chase 216 = .ok (.imul, 1) := by decide +kernel
theorem dX12_chase_217 : decode cX12_chase 217 = .ok (.iload_n 2, 1) := by decide +kernel
theorem dX12_chase_218 : decode cX12_chase 218 = .ok (.iadd, 1) := by decide +kernel
theorem dX12_chase_219 : decode cX12_chase 219 = .ok (.iaload, 1) := by decide +kernel
theorem dX12_chase_220 : decode cX12_chase 220 = .ok (.iastore, 1) := by decide +kernel
theorem dX12_chase_221 : decode cX12_chase 221 = .ok (.iinc 2 1, 3) := by decide +kernel
theorem dX12_chase_224 : decode cX12_chase 224 = .ok (.goto (-32), 3) := by decide +kernel
theorem dX12_chase_227 : decode cX12_chase 227 = .ok (.aload_n 0, 1) := by decide +kernel
theorem dX12_chase_228 : decode cX12_chase 228 = .ok (.invokevirtual 250, 3) := by decide +kernel
theorem dX12_chase_231 : decode cX12_chase 231 = .ok (.istore_n 2, 1) := by decide +kernel
theorem dX12_chase_232 : decode cX12_chase 232 = .ok (.aload_n 0, 1) := by decide +kernel
theorem dX12_chase_233 : decode cX12_chase 233 = .ok (.invokevirtual 247, 3) := by decide +kernel
theorem dX12_chase_236 : decode cX12_chase 236 = .ok (.aload_n 0, 1) := by decide +kernel
theorem dX12_chase_237 : decode cX12_chase 237 = .ok (.iload_n 2, 1) := by decide +kernel
theorem dX12_chase_238 : decode cX12_chase 238 = .ok (.aload_n 0, 1) := by decide +kernel
theorem dX12_chase_239 : decode cX12_chase 239 = .ok (.invokevirtual 250, 3) := by decide +kernel
theorem dX12_chase_242 : decode cX12_chase 242 = .ok (.iconst (-1), 1) := by decide +kernel
theorem dX12_chase_243 : decode cX12_chase 243 = .ok (.ixor, 1) := by decide +kernel
theorem dX12_chase_244 : decode cX12_chase 244 = .ok (.iand, 1) := by decide +kernel
theorem dX12_chase_245 : decode cX12_chase 245 = .ok (.ifCond .eq 7, 3) := by decide +kernel
theorem dX12_chase_248 : decode cX12_chase 248 = .ok (.iconst 1, 1) := by decide +kernel
theorem dX12_chase_249 : decode cX12_chase 249 = .ok (.goto 4, 3) := by decide +kernel
theorem dX12_chase_252 : decode cX12_chase 252 = .ok (.iconst 0, 1) := by decide +kernel
theorem dX12_chase_253 : decode cX12_chase 253 = .ok (.putfield 253, 3) := by decide +kernel
theorem dX12_chase_256 : decode cX12_chase 256 = .ok (.aload_n 0, 1) := by decide +kernel
theorem dX12_chase_257 : decode cX12_chase 257 = .ok (.invokevirtual 257, 3) := by decide +kernel
theorem dX12_chase_260 : decode cX12_chase 260 = .ok (.pop, 1) := by decide +kernel
theorem dX12_chase_261 : decode cX12_chase 261 = .ok (.iconst 0, 1) := by decide +kernel
theorem dX12_chase_262 : decode cX12_chase 262 = .ok (.istore_n 3, 1) := by decide +kernel
theorem dX12_chase_263 : decode cX12_chase 263 = .ok (.iload_n 3, 1) := by decide +kernel
theorem dX12_chase_264 : decode cX12_chase 264 = .ok (.aload_n 0, 1) := by decide +kernel
theorem dX12_chase_265 : decode cX12_chase 265 = .ok (.getfield 234, 3) := by decide +kernel
theorem dX12_chase_268 : decode cX12_chase 268 = .ok (.if_icmp .ge 163, 3) := by decide +kernel
theorem dX12_chase_271 : decode cX12_chase 271 = .ok (.iconst 0, 1) := by decide +kernel
theorem dX12_chase_272 : decode cX12_chase 272 = .ok (.istore 4, 2) := by decide +kernel
theorem dX12_chase_274 : decode cX12_chase 274 = .ok (.iload 4, 2) := by decide +kernel
theorem dX12_chase_276 : decode cX12_chase 276 = .ok (.iconst 4, 1) := by decide +kernel
theorem dX12_chase_277 : decode cX12_chase 277 = .ok (.if_icmp .ge 148, 3) := by decide +kernel
theorem dX12_chase_280 : decode cX12_chase 280 = .ok (.aload_n 0, 1) := by decide +kernel
theorem dX12_chase_281 : decode cX12_chase 281 = .ok (.getfield 80, 3) := by decide +kernel
theorem dX12_chase_284 : decode cX12_chase 284 = .ok (.iconst 4, 1) := by decide +kernel
theorem dX12_chase_285 : decode cX12_chase 285 = .ok (.iload_n 3, 1) := by decide +kernel
theorem dX12_chase_286 : decode cX12_chase 286 = .ok (.imul, 1) := by decide +kernel
theorem dX12_chase_287 : decode cX12_chase 287 = .ok (.iload 4, 2) := by decide +kernel
theorem dX12_chase_289 : decode cX12_chase 289 = .ok (.iadd, 1) := by decide +kernel
theorem dX12_chase_290 : decode cX12_chase 290 = .ok (.iconst (-1), 1) := by decide +kernel
theorem dX12_chase_291 : decode cX12_chase 291 = .ok (.iastore, 1) := by decide +kernel
theorem dX12_chase_292 : decode cX12_chase 292 = .ok (.aload_n 0, 1) := by decide +kernel
theorem dX12_chase_293 : decode cX12_chase 293 = .ok (.getfield 83, 3) := by decide +kernel
theorem dX12_chase_296 : decode cX12_chase 296 = .ok (.iconst 4, 1) := by decide +kernel
theorem dX12_chase_297 : decode cX12_chase 297 = .ok (.iload_n 3, 1) := by decide +kernel
theorem dX12_chase_298 : decode cX12_chase 298 = .ok (.imul, 1) := by decide +kernel
theorem dX12_chase_299 : decode cX12_chase 299 = .ok (.iload 4, 2) := by decide +kernel
theorem dX12_chase_301 : decode cX12_chase 301 = .ok (.iadd, 1) := by decide +kernel
theorem dX12_chase_302 : decode cX12_chase 302 = .ok (.iconst 0, 1) := by decide +kernel
theorem dX12_chase_303 : decode cX12_chase 303 = .ok (.bastore, 1) := by decide +kernel
theorem dX12_chase_304 : decode cX12_chase 304 = .ok (.aload_n 0, 1) := by decide +kernel
theorem dX12_chase_305 : decode cX12_chase 305 = .ok (.getfield 77, 3) := by decide +kernel
theorem dX12_chase_308 : decode cX12_chase 308 = .ok (.iload_n 3, 1) := by decide +kernel
theorem dX12_chase_309 : decode cX12_chase 309 = .ok (.iaload, 1) := by decide +kernel
theorem dX12_chase_310 : decode cX12_chase 310 = .ok (.ifCond .le 109, 3) := by decide +kernel
theorem dX12_chase_313 : decode cX12_chase 313 = .ok (.aload_n 0, 1) := by decide +kernel
theorem dX12_chase_314 : decode cX12_chase 314 = .ok (.iload_n 3, 1) := by decide +kernel
theorem dX12_chase_315 : decode cX12_chase 315 = .ok (.iload 4, 2) := by decide +kernel
theorem dX12_chase_317 : decode cX12_chase 317 = .ok (.invokevirtual 260, 3) := by decide +kernel
theorem dX12_chase_320 : decode cX12_chase 320 = .ok (.ifCond .eq 99, 3) := by decide +kernel
theorem dX12_chase_323 : decode cX12_chase 323 = .ok (.aload_n 0, 1) := by decide +kernel
theorem dX12_chase_324 : decode cX12_chase 324 = .ok (.getfield 237, 3) := by decide +kernel
theorem dX12_chase_327 : decode cX12_chase 327 = .ok (.iconst (-1), 1) := by decide +kernel
theorem dX12_chase_328 : decode cX12_chase 328 = .ok (.if_icmp .ne 14, 3) := by decide +kernel
theorem dX12_chase_331 : decode cX12_chase 331 = .ok (.iconst 1, 1) := by decide +kernel
theorem dX12_chase_332 : decode cX12_chase 332 = .ok (.aload_n 0, 1) := by decide +kernel
theorem dX12_chase_333 : decode cX12_chase 333 = .ok (.getfield 240, 3) := by decide +kernel
theorem dX12_chase_336 : decode cX12_chase 336 = .ok (.iconst 4, 1) := by decide +kernel
theorem dX12_chase_337 : decode cX12_chase 337 = .ok (.isub, 1) := by decide +kernel
theorem dX12_chase_338 : decode cX12_chase 338 = .ok (.ishl, 1) := by decide +kernel
theorem dX12_chase_339 : decode cX12_chase 339 = .ok (.goto 4, 3) := by decide +kernel
theorem dX12_chase_342 : decode cX12_chase 342 = .ok (.iconst 0, 1) := by decide +kernel
theorem dX12_chase_343 : decode cX12_chase 343 = .ok (.istore 5, 2) := by decide +kernel
theorem dX12_chase_345 : decode cX12_chase 345 = .ok (.aload_n 0, 1) := by decide +kernel
theorem dX12_chase_346 : decode cX12_chase 346 = .ok (.iload_n 3, 1) := by decide +kernel
theorem dX12_chase_347 : decode cX12_chase 347 = .ok (.invokevirtual 264, 3) := by decide +kernel
theorem dX12_chase_350 : decode cX12_chase 350 = .ok (.aload_n 0, 1) := by decide +kernel
theorem dX12_chase_351 : decode cX12_chase 351 = .ok (.getfield 83, 3) := by decide +kernel
theorem dX12_chase_354 : decode cX12_chase 354 = .ok (.iconst 4, 1) := by decide +kernel
theorem dX12_chase_355 : decode cX12_chase 355 = .ok (.iload_n 3, 1) := by decide +kernel
theorem dX12_chase_356 : decode cX12_chase 356 = .ok (.imul, 1) := by decide +kernel
theorem dX12_chase_357 : decode cX12_chase 357 = .ok (.iload 4, 2) := by decide +kernel
theorem dX12_chase_359 : decode cX12_chase 359 = .ok (.iadd, 1) := by decide +kernel
theorem dX12_chase_360 : decode cX12_chase 360 = .ok (.aload_n 0, 1) := by decide +kernel
theorem dX12_chase_361 : decode cX12_chase 361 = .ok (.iload_n 3, 1) := by decide +kernel
theorem dX12_chase_362 : decode cX12_chase 362 = .ok (.invokevirtual 268, 3) := by decide +kernel
theorem dX12_chase_365 : decode cX12_chase 365 = .ok (.aload_n 0, 1) := by decide +kernel
theorem dX12_chase_366 : decode cX12_chase 366 = .ok (.invokevirtual 250, 3) := by decide +kernel
theorem dX12_chase_369 : decode cX12_chase 369 = .ok (.iconst (-1), 1) := by decide +kernel
theorem dX12_chase_370 : decode cX12_chase 370 = .ok (.ixor, 1) := by decide +kernel
theorem dX12_chase_371 : decode cX12_chase 371 = .ok (.iand, 1) := by decide +kernel
theorem dX12_chase_372 : decode cX12_chase 372 = .ok (.iload 5, 2) := by decide +kernel
theorem dX12_chase_374 : decode cX12_chase 374 = .ok (.iconst (-1), 1) := by decide +kernel
theorem dX12_chase_375 : decode cX12_chase 375 = .ok (.ixor, 1) := by decide +kernel
theorem dX12_chase_376 : decode cX12_chase 376 = .ok (.iand, 1) := by decide +kernel
theorem dX12_chase_377 : decode cX12_chase 377 = .ok (.ifCond .eq 7, 3) := by decide +kernel
theorem dX12_chase_380 : decode cX12_chase 380 = .ok (.iconst 1, 1) := by decide +kernel
theorem dX12_chase_381 : decode cX12_chase 381 = .ok (.goto 4, 3) := by decide +kernel
theorem dX12_chase_384 : decode cX12_chase 384 = .ok (.iconst 0, 1) := by decide +kernel
theorem dX12_chase_385 : decode cX12_chase 385 = .ok (.bastore, 1) := by decide +kernel
theorem dX12_chase_386 : decode cX12_chase 386 = .ok (.aload_n 0, 1) := by decide +kernel
theorem dX12_chase_387 : decode cX12_chase 387 = .ok (.getfield 80, 3) := by decide +kernel
theorem dX12_chase_390 : decode cX12_chase 390 = .ok (.iconst 4, 1) := by decide +kernel
theorem dX12_chase_391 : decode cX12_chase 391 = .ok (.iload_n 3, 1) := by decide +kernel
theorem dX12_chase_392 : decode cX12_chase 392 = .ok (.imul, 1) := by decide +kernel
theorem dX12_chase_393 : decode cX12_chase 393 = .ok (.iload 4, 2) := by decide +kernel
theorem dX12_chase_395 : decode cX12_chase 395 = .ok (.iadd, 1) := by decide +kernel
theorem dX12_chase_396 : decode cX12_chase 396 = .ok (.aload_n 0, 1) := by decide +kernel
theorem dX12_chase_397 : decode cX12_chase 397 = .ok (.invokevirtual 257, 3) := by decide +kernel
theorem dX12_chase_400 : decode cX12_chase 400 = .ok (.iastore, 1) := by decide +kernel
theorem dX12_chase_401 : decode cX12_chase 401 = .ok (.aload_n 0, 1) := by decide +kernel
theorem dX12_chase_402 : decode cX12_chase 402 = .ok (.getfield 80, 3) := by decide +kernel
theorem dX12_chase_405 : decode cX12_chase 405 = .ok (.iconst 4, 1) := by decide +kernel
theorem dX12_chase_406 : decode cX12_chase 406 = .ok (.iload_n 3, 1) := by decide +kernel
theorem dX12_chase_407 : decode cX12_chase 407 = .ok (.imul, 1) := by decide +kernel
theorem dX12_chase_408 : decode cX12_chase 408 = .ok (.iload 4, 2) := by decide +kernel
theorem dX12_chase_410 : decode cX12_chase 410 = .ok (.iadd, 1) := by decide +kernel
theorem dX12_chase_411 : decode cX12_chase 411 = .ok (.iaload, 1) := by decide +kernel
theorem dX12_chase_412 : decode cX12_chase 412 = .ok (.iconst (-1), 1) := by decide +kernel
theorem dX12_chase_413 : decode cX12_chase 413 = .ok (.if_icmp .ne 6, 3) := by decide +kernel
theorem dX12_chase_416 : decode cX12_chase 416 = .ok (.bipush (-6), 2) := by decide +kernel
theorem dX12_chase_418 : decode cX12_chase 418 = .ok (.ireturn, 1) := by decide +kernel
theorem dX12_chase_419 : decode cX12_chase 419 = .ok (.iinc 4 1, 3) := by decide +kernel
theorem dX12_chase_422 : decode cX12_chase 422 = .ok (.goto (-148), 3) := by decide +kernel
theorem dX12_chase_425 : decode cX12_chase 425 = .ok (.iinc 3 1, 3) := by decide +kernel
theorem dX12_chase_428 : decode cX12_chase 428 = .ok (.goto (-165), 3) := by decide +kernel
theorem dX12_chase_431 : decode cX12_chase 431 = .ok (.aload_n 0, 1) := by decide +kernel
theorem dX12_chase_432 : decode cX12_chase 432 = .ok (.invokevirtual 271, 3) := by decide +kernel
theorem dX12_chase_435 : decode cX12_chase 435 = .ok (.iconst 0, 1) := by decide +kernel
theorem dX12_chase_436 : decode cX12_chase 436 = .ok (.ireturn, 1) := by decide +kernel
theorem dX12_layDist_0 : decode cX12_layDist 0 = .ok (.iconst 0, 1) := by decide +kernel
theorem dX12_layDist_1 : decode cX12_layDist 1 = .ok (.istore_n 1, 1) := by decide +kernel
theorem dX12_layDist_2 : decode cX12_layDist 2 = .ok (.iload_n 1, 1) := by decide +kernel
theorem dX12_layDist_3 : decode cX12_layDist 3 = .ok (.aload_n 0, 1) := by decide +kernel
theorem dX12_layDist_4 : decode cX12_layDist 4 = .ok (.getfield 234, 3) := by decide +kernel
theorem dX12_layDist_7 : decode cX12_layDist 7 = .ok (.if_icmp .ge 29, 3) := by decide +kernel
theorem dX12_layDist_10 : decode cX12_layDist 10 = .ok (.aload_n 0, 1) := by decide +kernel
theorem dX12_layDist_11 : decode cX12_layDist 11 = .ok (.getfield 87, 3) := by decide +kernel
theorem dX12_layDist_14 : decode cX12_layDist 14 = .ok (.iload_n 1, 1) := by decide +kernel
theorem dX12_layDist_15 : decode cX12_layDist 15 = .ok (.aload_n 0, 1) := by decide +kernel
theorem dX12_layDist_16 : decode cX12_layDist 16 = .ok (.getfield 77, 3) := by decide +kernel
theorem dX12_layDist_19 : decode cX12_layDist 19 = .ok (.iload_n 1, 1) := by decide +kernel
theorem dX12_layDist_20 : decode cX12_layDist 20 = .ok (.iaload, 1) := by decide +kernel
theorem dX12_layDist_21 : decode cX12_layDist 21 = .ok (.ifCond .ne 7, 3) := by decide +kernel
theorem dX12_layDist_24 : decode cX12_layDist 24 = .ok (.iconst 0, 1) := by decide +kernel
theorem dX12_layDist_25 : decode cX12_layDist 25 = .ok (.goto 4, 3) := by decide +kernel
theorem dX12_layDist_28 : decode cX12_layDist 28 = .ok (.iconst (-1), 1) := by decide +kernel
theorem dX12_layDist_29 : decode cX12_layDist 29 = .ok (.iastore, 1) := by decide +kernel
theorem dX12_layDist_30 : decode cX12_layDist 30 = .ok (.iinc 1 1, 3) := by decide +kernel
theorem dX12_layDist_33 : decode cX12_layDist 33 = .ok (.goto (-31), 3) := by decide +kernel
theorem dX12_layDist_36 : decode cX12_layDist 36 = .ok (.iconst 1, 1) := by decide +kernel
theorem dX12_layDist_37 : decode cX12_layDist 37 = .ok (.istore_n 1, 1) := by decide +kernel
theorem dX12_layDist_38 : decode cX12_layDist 38 = .ok (.iconst 1, 1) := by decide +kernel
theorem dX12_layDist_39 : decode cX12_layDist 39 = .ok (.istore_n 2, 1) := by decide +kernel
theorem dX12_layDist_40 : decode cX12_layDist 40 = .ok (.iload_n 1, 1) := by decide +kernel
theorem dX12_layDist_41 : decode cX12_layDist 41 = .ok (.ifCond .eq 93, 3) := by decide +kernel
theorem dX12_layDist_44 : decode cX12_layDist 44 = .ok (.iconst 0, 1) := by decide +kernel
theorem dX12_layDist_45 : decode cX12_layDist 45 = .ok (.istore_n 1, 1) := by decide +kernel
theorem dX12_layDist_46 : decode cX12_layDist 46 = .ok (.iconst 0, 1) := by decide +kernel
theorem dX12_layDist_47 : decode cX12_layDist 47 = .ok (.istore_n 3, 1) := by decide +kernel
theorem dX12_layDist_48 : decode cX12_layDist 48 = .ok (.iload_n 3, 1) := by decide +kernel
theorem dX12_layDist_49 : decode cX12_layDist 49 = .ok (.aload_n 0, 1) := by decide +kernel
theorem dX12_layDist_50 : decode cX12_layDist 50 = .ok (.getfield 234, 3) := by decide +kernel
theorem dX12_layDist_53 : decode cX12_layDist 53 = .ok (.if_icmp .ge 75, 3) := by decide +kernel
theorem dX12_layDist_56 : decode cX12_layDist 56 = .ok (.iconst 0, 1) := by decide +kernel
theorem dX12_layDist_57 : decode cX12_layDist 57 = .ok (.istore 4, 2) := by decide +kernel
theorem dX12_layDist_59 : decode cX12_layDist 59 = .ok (.iload 4, 2) := by decide +kernel
theorem dX12_layDist_61 : decode cX12_layDist 61 = .ok (.iconst 4, 1) := by decide +kernel
theorem dX12_layDist_62 : decode cX12_layDist 62 = .ok (.if_icmp .ge 60, 3) := by decide +kernel
theorem dX12_layDist_65 : decode cX12_layDist 65 = .ok (.aload_n 0, 1) := by decide +kernel
theorem dX12_layDist_66 : decode cX12_layDist 66 = .ok (.getfield 80, 3) := by decide +kernel
theorem dX12_layDist_69 : decode cX12_layDist 69 = .ok (.iconst 4, 1) := by decide +kernel
theorem dX12_layDist_70 : decode cX12_layDist 70 = .ok (.iload_n 3, 1) := by decide +kernel
theorem dX12_layDist_71 : decode cX12_layDist 71 = .ok (.imul, 1) := by decide +kernel
theorem dX12_layDist_72 : decode cX12_layDist 72 = .ok (.iload 4, 2) := by decide +kernel
theorem dX12_layDist_74 : decode cX12_layDist 74 = .ok (.iadd, 1) := by decide +kernel
theorem dX12_layDist_75 : decode cX12_layDist 75 = .ok (.iaload, 1) := by decide +kernel
theorem dX12_layDist_76 : decode cX12_layDist 76 = .ok (.istore 5, 2) := by decide +kernel
theorem dX12_layDist_78 : decode cX12_layDist 78 = .ok (.aload_n 0, 1) := by decide +kernel
theorem dX12_layDist_79 : decode cX12_layDist 79 = .ok (.getfield 87, 3) := by decide +kernel
theorem dX12_layDist_82 : decode cX12_layDist 82 = .ok (.iload_n 3, 1) := by decide +kernel
theorem dX12_layDist_83 : decode cX12_layDist 83 = .ok (.iaload, 1) := by decide +kernel
theorem dX12_layDist_84 : decode cX12_layDist 84 = .ok (.iconst (-1), 1) := by decide +kernel
theorem dX12_layDist_85 : decode cX12_layDist 85 = .ok (.if_icmp .ne 31, 3) := by decide +kernel
theorem dX12_layDist_88 : decode cX12_layDist 88 = .ok (.iload 5, 2) := by decide +kernel
theorem dX12_layDist_90 : decode cX12_layDist 90 = .ok (.iconst (-1), 1) := by decide +kernel
theorem dX12_layDist_91 : decode cX12_layDist 91 = .ok (.if_icmp .eq 25, 3) := by decide +kernel
theorem dX12_layDist_94 : decode cX12_layDist 94 = .ok (.aload_n 0, 1) := by decide +kernel
theorem dX12_layDist_95 : decode cX12_layDist 95 = .ok (.getfield 87, 3) := by decide +kernel
theorem dX12_layDist_98 : decode cX12_layDist 98 = .ok (.iload 5, 2) := by decide +kernel
theorem dX12_layDist_100 : decode cX12_layDist 100 = .ok (.iaload, 1) := by decide +kernel
theorem dX12_layDist_101 : decode cX12_layDist 101 = .ok (.iload_n 2, 1) := by decide +kernel
theorem dX12_layDist_102 : decode cX12_layDist 102 = .ok (.iconst 1, 1) := by decide +kernel
theorem dX12_layDist_103 : decode cX12_layDist 103 = .ok (.isub, 1) := by decide +kernel
theorem dX12_layDist_104 : decode cX12_layDist 104 = .ok (.if_icmp .ne 12, 3) := by decide +kernel
theorem dX12_layDist_107 : decode cX12_layDist 107 = .ok (.aload_n 0, 1) := by decide +kernel
theorem dX12_layDist_108 : decode cX12_layDist 108 = .ok (.getfield 87, 3) := by decide +kernel
theorem dX12_layDist_111 : decode cX12_layDist 111 = .ok (.iload_n 3, 1) := by decide +kernel
theorem dX12_layDist_112 : decode cX12_layDist 112 = .ok (.iload_n 2, 1) := by decide +kernel
theorem dX12_layDist_113 : decode cX12_layDist 113 = .ok (.iastore, 1) := by decide +kernel
theorem dX12_layDist_114 : decode cX12_layDist 114 = .ok (.iconst 1, 1) := by decide +kernel
theorem dX12_layDist_115 : decode cX12_layDist 115 = .ok (.istore_n 1, 1) := by decide +kernel
theorem dX12_layDist_116 : decode cX12_layDist 116 = .ok (.iinc 4 1, 3) := by decide +kernel
theorem dX12_layDist_119 : decode cX12_layDist 119 = .ok (.goto (-60), 3) := by decide +kernel
theorem dX12_layDist_122 : decode cX12_layDist 122 = .ok (.iinc 3 1, 3) := by decide +kernel
theorem dX12_layDist_125 : decode cX12_layDist 125 = .ok (.goto (-77), 3) := by decide +kernel
theorem dX12_layDist_128 : decode cX12_layDist 128 = .ok (.iinc 2 1, 3) := by decide +kernel
theorem dX12_layDist_131 : decode cX12_layDist 131 = .ok (.goto (-91), 3) := by decide +kernel
theorem dX12_layDist_134 : decode cX12_layDist 134 = .ok (.return_, 1) := by decide +kernel
theorem dX12_met_0 : decode cX12_met 0 = .ok (.aload_n 0, 1) := by decide +kernel
theorem dX12_met_1 : decode cX12_met 1 = .ok (.iload_n 1, 1) := by decide +kernel
theorem dX12_met_2 : decode cX12_met 2 = .ok (.invokevirtual 274, 3) := by decide +kernel
theorem dX12_met_5 : decode cX12_met 5 = .ok (.istore_n 2, 1) := by decide +kernel
theorem dX12_met_6 : decode cX12_met 6 = .ok (.iload_n 2, 1) := by decide +kernel
theorem dX12_met_7 : decode cX12_met 7 = .ok (.ifCond .eq 7, 3) := by decide +kernel
theorem dX12_met_10 : decode cX12_met 10 = .ok (.iload_n 2, 1) := by decide +kernel
theorem dX12_met_11 : decode cX12_met 11 = .ok (.goto 7, 3) := by decide +kernel
theorem dX12_met_14 : decode cX12_met 14 = .ok (.aload_n 0, 1) := by decide +kernel
theorem dX12_met_15 : decode cX12_met 15 = .ok (.getfield 234, 3) := by decide +kernel
theorem dX12_met_18 : decode cX12_met 18 = .ok (.ireturn, 1) := by decide +kernel
theorem dX12_fewest_0 : decode cX12_fewest 0 = .ok (.aload_n 0, 1) := by decide +kernel
theorem dX12_fewest_1 : decode cX12_fewest 1 = .ok (.iload_n 1, 1) := by decide +kernel
theorem dX12_fewest_2 : decode cX12_fewest 2 = .ok (.invokevirtual 274, 3) := by decide +kernel
theorem dX12_fewest_5 : decode cX12_fewest 5 = .ok (.istore_n 2, 1) := by decide +kernel
theorem dX12_fewest_6 : decode cX12_fewest 6 = .ok (.iload_n 2, 1) := by decide +kernel
theorem dX12_fewest_7 : decode cX12_fewest 7 = .ok (.ifCond .eq 7, 3) := by decide +kernel
theorem dX12_fewest_10 : decode cX12_fewest 10 = .ok (.iload_n 2, 1) := by decide +kernel
theorem dX12_fewest_11 : decode cX12_fewest 11 = .ok (.goto 9, 3) := by decide +kernel
theorem dX12_fewest_14 : decode cX12_fewest 14 = .ok (.aload_n 0, 1) := by decide +kernel
theorem dX12_fewest_15 : decode cX12_fewest 15 = .ok (.getfield 87, 3) := by decide +kernel
theorem dX12_fewest_18 : decode cX12_fewest 18 = .ok (.iconst 0, 1) := by decide +kernel
theorem dX12_fewest_19 : decode cX12_fewest 19 = .ok (.iaload, 1) := by decide +kernel
theorem dX12_fewest_20 : decode cX12_fewest 20 = .ok (.ireturn, 1) := by decide +kernel
theorem dX12_ring_0 : decode cX12_ring 0 = .ok (.aload_n 0, 1) := by decide +kernel
theorem dX12_ring_1 : decode cX12_ring 1 = .ok (.iload_n 1, 1) := by decide +kernel
theorem dX12_ring_2 : decode cX12_ring 2 = .ok (.invokevirtual 274, 3) := by decide +kernel
theorem dX12_ring_5 : decode cX12_ring 5 = .ok (.istore_n 2, 1) := by decide +kernel
theorem dX12_ring_6 : decode cX12_ring 6 = .ok (.iload_n 2, 1) := by decide +kernel
theorem dX12_ring_7 : decode cX12_ring 7 = .ok (.ifCond .ne 13, 3) := by decide +kernel
theorem dX12_ring_10 : decode cX12_ring 10 = .ok (.aload_n 0, 1) := by decide +kernel
theorem dX12_ring_11 : decode cX12_ring 11 = .ok (.getfield 87, 3) := by decide +kernel
theorem dX12_ring_14 : decode cX12_ring 14 = .ok (.iconst 0, 1) := by decide +kernel
theorem dX12_ring_15 : decode cX12_ring 15 = .ok (.iaload, 1) := by decide +kernel
theorem dX12_ring_16 : decode cX12_ring 16 = .ok (.iconst (-1), 1) := by decide +kernel
theorem dX12_ring_17 : decode cX12_ring 17 = .ok (.if_icmp .ne 13, 3) := by decide +kernel
theorem dX12_ring_20 : decode cX12_ring 20 = .ok (.iload_n 2, 1) := by decide +kernel
theorem dX12_ring_21 : decode cX12_ring 21 = .ok (.ifCond .eq 7, 3) := by decide +kernel
theorem dX12_ring_24 : decode cX12_ring 24 = .ok (.iload_n 2, 1) := by decide +kernel
theorem dX12_ring_25 : decode cX12_ring 25 = .ok (.goto 4, 3) := by decide +kernel
theorem dX12_ring_28 : decode cX12_ring 28 = .ok (.iconst (-1), 1) := by decide +kernel
theorem dX12_ring_29 : decode cX12_ring 29 = .ok (.ireturn, 1) := by decide +kernel
theorem dX12_ring_30 : decode cX12_ring 30 = .ok (.aload_n 0, 1) := by decide +kernel
theorem dX12_ring_31 : decode cX12_ring 31 = .ok (.getfield 253, 3) := by decide +kernel
theorem dX12_ring_34 : decode cX12_ring 34 = .ok (.istore_n 3, 1) := by decide +kernel
theorem dX12_ring_35 : decode cX12_ring 35 = .ok (.iconst 0, 1) := by decide +kernel
theorem dX12_ring_36 : decode cX12_ring 36 = .ok (.istore 4, 2) := by decide +kernel
theorem dX12_ring_38 : decode cX12_ring 38 = .ok (.iload 4, 2) := by decide +kernel
theorem dX12_ring_40 : decode cX12_ring 40 = .ok (.aload_n 0, 1) := by decide +kernel
theorem dX12_ring_41 : decode cX12_ring 41 = .ok (.getfield 234, 3) := by decide +kernel
theorem dX12_ring_44 : decode cX12_ring 44 = .ok (.if_icmp .ge 110, 3) := by decide +kernel
theorem dX12_ring_47 : decode cX12_ring 47 = .ok (.aload_n 0, 1) := by decide +kernel
theorem dX12_ring_48 : decode cX12_ring 48 = .ok (.getfield 99, 3) := by decide +kernel
theorem dX12_ring_51 : decode cX12_ring 51 = .ok (.iload 4, 2) := by decide +kernel
theorem dX12_ring_53 : decode cX12_ring 53 = .ok (.iconst 0, 1) := by decide +kernel
theorem dX12_ring_54 : decode cX12_ring 54 = .ok (.iastore, 1) := by decide +kernel
theorem dX12_ring_55 : decode cX12_ring 55 = .ok (.iconst 0, 1) := by decide +kernel
theorem dX12_ring_56 : decode cX12_ring 56 = .ok (.istore 5, 2) := by decide +kernel
theorem dX12_ring_58 : decode cX12_ring 58 = .ok (.iload 5, 2) := by decide +kernel
theorem dX12_ring_60 : decode cX12_ring 60 = .ok (.iconst 4, 1) := by decide +kernel
theorem dX12_ring_61 : decode cX12_ring 61 = .ok (.if_icmp .ge 87, 3) := by decide +kernel
theorem dX12_ring_64 : decode cX12_ring 64 = .ok (.aload_n 0, 1) := by decide +kernel
theorem dX12_ring_65 : decode cX12_ring 65 = .ok (.getfield 80, 3) := by decide +kernel
theorem dX12_ring_68 : decode cX12_ring 68 = .ok (.iconst 4, 1) := by decide +kernel
theorem dX12_ring_69 : decode cX12_ring 69 = .ok (.iload 4, 2) := by decide +kernel
theorem dX12_ring_71 : decode cX12_ring 71 = .ok (.imul, 1) := by decide +kernel
theorem dX12_ring_72 : decode cX12_ring 72 = .ok (.iload 5, 2) := by decide +kernel
theorem dX12_ring_74 : decode cX12_ring 74 = .ok (.iadd, 1) := by decide +kernel
theorem dX12_ring_75 : decode cX12_ring 75 = .ok (.iaload, 1) := by decide +kernel
theorem dX12_ring_76 : decode cX12_ring 76 = .ok (.istore 6, 2) := by decide +kernel
theorem dX12_ring_78 : decode cX12_ring 78 = .ok (.aload_n 0, 1) := by decide +kernel
theorem dX12_ring_79 : decode cX12_ring 79 = .ok (.getfield 87, 3) := by decide +kernel
theorem dX12_ring_82 : decode cX12_ring 82 = .ok (.iload 4, 2) := by decide +kernel
theorem dX12_ring_84 : decode cX12_ring 84 = .ok (.iaload, 1) := by decide +kernel
theorem dX12_ring_85 : decode cX12_ring 85 = .ok (.iconst (-1), 1) := by decide +kernel
theorem dX12_ring_86 : decode cX12_ring 86 = .ok (.if_icmp .eq 56, 3) := by decide +kernel
theorem dX12_ring_89 : decode cX12_ring 89 = .ok (.iload 6, 2) := by decide +kernel
theorem dX12_ring_91 : decode cX12_ring 91 = .ok (.iconst (-1), 1) := by decide +kernel
theorem dX12_ring_92 : decode cX12_ring 92 = .ok (.if_icmp .eq 50, 3) := by decide +kernel
theorem dX12_ring_95 : decode cX12_ring 95 = .ok (.aload_n 0, 1) := by decide +kernel
theorem dX12_ring_96 : decode cX12_ring 96 = .ok (.getfield 87, 3) := by decide +kernel
theorem dX12_ring_99 : decode cX12_ring 99 = .ok (.iload 6, 2) := by decide +kernel
theorem dX12_ring_101 : decode cX12_ring 101 = .ok (.iaload, 1) := by decide +kernel
theorem dX12_ring_102 : decode cX12_ring 102 = .ok (.iconst (-1), 1) := by decide +kernel
theorem dX12_ring_103 : decode cX12_ring 103 = .ok (.if_icmp .eq 39, 3) := by decide +kernel
theorem dX12_ring_106 : decode cX12_ring 106 = .ok (.aload_n 0, 1) := by decide +kernel
theorem dX12_ring_107 : decode cX12_ring 107 = .ok (.getfield 99, 3) := by decide +kernel
theorem dX12_ring_110 : decode cX12_ring 110 = .ok (.iload 4, 2) := by decide +kernel
theorem dX12_ring_112 : decode cX12_ring 112 = .ok (.dup2, 1) := by decide +kernel
theorem dX12_ring_113 : decode cX12_ring 113 = .ok (.iaload, 1) := by decide +kernel
theorem dX12_ring_114 : decode cX12_ring 114 = .ok (.iconst 1, 1) := by decide +kernel
theorem dX12_ring_115 : decode cX12_ring 115 = .ok (.iadd, 1) := by decide +kernel
theorem dX12_ring_116 : decode cX12_ring 116 = .ok (.iastore, 1) := by decide +kernel
theorem dX12_ring_117 : decode cX12_ring 117 = .ok (.iload_n 3, 1) := by decide +kernel
theorem dX12_ring_118 : decode cX12_ring 118 = .ok (.ifCond .ne 18, 3) := by decide +kernel
theorem dX12_ring_121 : decode cX12_ring 121 = .ok (.aload_n 0, 1) := by decide +kernel
theorem dX12_ring_122 : decode cX12_ring 122 = .ok (.getfield 83, 3) := by decide +kernel
theorem dX12_ring_125 : decode cX12_ring 125 = .ok (.iconst 4, 1) := by decide +kernel
theorem dX12_ring_126 : decode cX12_ring 126 = .ok (.iload 4, 2) := by decide +kernel
theorem dX12_ring_128 : decode cX12_ring 128 = .ok (.imul, 1) := by decide +kernel
theorem dX12_ring_129 : decode cX12_ring 129 = .ok (.iload 5, 2) := by decide +kernel
theorem dX12_ring_131 : decode cX12_ring 131 = .ok (.iadd, 1) := by decide +kernel
theorem dX12_ring_132 : decode cX12_ring 132 = .ok (.baload, 1) := by decide +kernel
theorem dX12_ring_133 : decode cX12_ring 133 = .ok (.ifCond .eq 7, 3) := by decide +kernel
theorem dX12_ring_136 : decode cX12_ring 136 = .ok (.iconst 1, 1) := by decide +kernel
theorem dX12_ring_137 : decode cX12_ring 137 = .ok (.goto 4, 3) := by decide +kernel
theorem dX12_ring_140 : decode cX12_ring 140 = .ok (.iconst 0, 1) := by decide +kernel
theorem dX12_ring_141 : decode cX12_ring 141 = .ok (.istore_n 3, 1) := by decide +kernel
theorem dX12_ring_142 : decode cX12_ring 142 = .ok (.iinc 5 1, 3) := by decide +kernel
theorem dX12_ring_145 : decode cX12_ring 145 = .ok (.goto (-87), 3) := by decide +kernel
theorem dX12_ring_148 : decode cX12_ring 148 = .ok (.iinc 4 1, 3) := by decide +kernel
theorem dX12_ring_151 : decode cX12_ring 151 = .ok (.goto (-113), 3) := by decide +kernel
theorem dX12_ring_154 : decode cX12_ring 154 = .ok (.iconst 1, 1) := by decide +kernel
theorem dX12_ring_155 : decode cX12_ring 155 = .ok (.istore 4, 2) := by decide +kernel
theorem dX12_ring_157 : decode cX12_ring 157 = .ok (.aload_n 0, 1) := by decide +kernel
theorem dX12_ring_158 : decode cX12_ring 158 = .ok (.getfield 234, 3) := by decide +kernel
theorem dX12_ring_161 : decode cX12_ring 161 = .ok (.istore 5, 2) := by decide +kernel
theorem dX12_ring_163 : decode cX12_ring 163 = .ok (.iload 4, 2) := by decide +kernel
theorem dX12_ring_165 : decode cX12_ring 165 = .ok (.ifCond .eq 57, 3) := by decide +kernel
theorem dX12_ring_168 : decode cX12_ring 168 = .ok (.iconst 0, 1) := by decide +kernel
theorem dX12_ring_169 : decode cX12_ring 169 = .ok (.istore 4, 2) := by decide +kernel
theorem dX12_ring_171 : decode cX12_ring 171 = .ok (.iconst 0, 1) := by decide +kernel
theorem dX12_ring_172 : decode cX12_ring 172 = .ok (.istore 6, 2) := by decide +kernel
theorem dX12_ring_174 : decode cX12_ring 174 = .ok (.iload 6, 2) := by decide +kernel
theorem dX12_ring_176 : decode cX12_ring 176 = .ok (.aload_n 0, 1) := by decide +kernel
theorem dX12_ring_177 : decode cX12_ring 177 = .ok (.getfield 234, 3) := by decide +kernel
theorem dX12_ring_180 : decode cX12_ring 180 = .ok (.if_icmp .ge 39, 3) := by decide +kernel
theorem dX12_ring_183 : decode cX12_ring 183 = .ok (.aload_n 0, 1) := by decide +kernel
theorem dX12_ring_184 : decode cX12_ring 184 = .ok (.getfield 99, 3) := by decide +kernel
theorem dX12_ring_187 : decode cX12_ring 187 = .ok (.iload 6, 2) := by decide +kernel
theorem dX12_ring_189 : decode cX12_ring 189 = .ok (.iaload, 1) := by decide +kernel
theorem dX12_ring_190 : decode cX12_ring 190 = .ok (.ifCond .ne 23, 3) := by decide +kernel
theorem dX12_ring_193 : decode cX12_ring 193 = .ok (.aload_n 0, 1) := by decide +kernel
theorem dX12_ring_194 : decode cX12_ring 194 = .ok (.getfield 99, 3) := by decide +kernel
theorem dX12_ring_197 : decode cX12_ring 197 = .ok (.iload 6, 2) := by decide +kernel
theorem dX12_ring_199 : decode cX12_ring 199 = .ok (.iconst (-1), 1) := by decide +kernel
theorem dX12_ring_200 : decode cX12_ring 200 = .ok (.iastore, 1) := by decide +kernel
theorem dX12_ring_201 : decode cX12_ring 201 = .ok (.iinc 5 (-1), 3) := by decide +kernel
theorem dX12_ring_204 : decode cX12_ring 204 = .ok (.iconst 1, 1) := by decide +kernel
theorem dX12_ring_205 : decode cX12_ring 205 = .ok (.istore 4, 2) := by decide +kernel
theorem dX12_ring_207 : decode cX12_ring 207 = .ok (.aload_n 0, 1) := by decide +kernel
theorem dX12_ring_208 : decode cX12_ring 208 = .ok (.iload 6, 2) := by decide +kernel
theorem dX12_ring_210 : decode cX12_ring 210 = .ok (.invokevirtual 277, 3) := by decide +kernel
theorem dX12_ring_213 : decode cX12_ring 213 = .ok (.iinc 6 1, 3) := by decide +kernel
theorem dX12_ring_216 : decode cX12_ring 216 = .ok (.goto (-42), 3) := by decide +kernel
theorem dX12_ring_219 : decode cX12_ring 219 = .ok (.goto (-56), 3) := by decide +kernel
theorem dX12_ring_222 : decode cX12_ring 222 = .ok (.iload_n 3, 1) := by decide +kernel
theorem dX12_ring_223 : decode cX12_ring 223 = .ok (.ifCond .eq 7, 3) := by decide +kernel
theorem dX12_ring_226 : decode cX12_ring 226 = .ok (.iconst 2, 1) := by decide +kernel
theorem dX12_ring_227 : decode cX12_ring 227 = .ok (.goto 13, 3) := by decide +kernel
theorem dX12_ring_230 : decode cX12_ring 230 = .ok (.iload 5, 2) := by decide +kernel
theorem dX12_ring_232 : decode cX12_ring 232 = .ok (.ifCond .le 7, 3) := by decide +kernel
theorem dX12_ring_235 : decode cX12_ring 235 = .ok (.iconst 1, 1) := by decide +kernel
theorem dX12_ring_236 : decode cX12_ring 236 = .ok (.goto 4, 3) := by decide +kernel
theorem dX12_ring_239 : decode cX12_ring 239 = .ok (.iconst 0, 1) := by decide +kernel
theorem dX12_ring_240 : decode cX12_ring 240 = .ok (.ireturn, 1) := by decide +kernel
theorem dX12_takeOff_0 : decode cX12_takeOff 0 = .ok (.iconst 0, 1) := by decide +kernel
theorem dX12_takeOff_1 : decode cX12_takeOff 1 = .ok (.istore_n 2, 1) := by decide +kernel
theorem dX12_takeOff_2 : decode cX12_takeOff 2 = .ok (.iload_n 2, 1) := by decide +kernel
theorem dX12_takeOff_3 : decode cX12_takeOff 3 = .ok (.aload_n 0, 1) := by decide +kernel
theorem dX12_takeOff_4 : decode cX12_takeOff 4 = .ok (.getfield 234, 3) := by decide +kernel
theorem dX12_takeOff_7 : decode cX12_takeOff 7 = .ok (.if_icmp .ge 70, 3) := by decide +kernel
theorem dX12_takeOff_10 : decode cX12_takeOff 10 = .ok (.iconst 0, 1) := by decide +kernel
theorem dX12_takeOff_11 : decode cX12_takeOff 11 = .ok (.istore_n 3, 1) := by decide +kernel
theorem dX12_takeOff_12 : decode cX12_takeOff 12 = .ok (.iload_n 3, 1) := by decide +kernel
theorem dX12_takeOff_13 : decode cX12_takeOff 13 = .ok (.iconst 4, 1) := by decide +kernel
theorem dX12_takeOff_14 : decode cX12_takeOff 14 = .ok (.if_icmp .ge 57, 3) := by decide +kernel
theorem dX12_takeOff_17 : decode cX12_takeOff 17 = .ok (.aload_n 0, 1) := by decide +kernel
theorem dX12_takeOff_18 : decode cX12_takeOff 18 = .ok (.getfield 99, 3) := by decide +kernel
theorem dX12_takeOff_21 : decode cX12_takeOff 21 = .ok (.iload_n 2, 1) := by decide +kernel
theorem dX12_takeOff_22 : decode cX12_takeOff 22 = .ok (.dup2, 1) := by decide +kernel
theorem dX12_takeOff_23 : decode cX12_takeOff 23 = .ok (.iaload, 1) := by decide +kernel
theorem dX12_takeOff_24 : decode cX12_takeOff 24 = .ok (.aload_n 0, 1) := by decide +kernel
theorem dX12_takeOff_25 : decode cX12_takeOff 25 = .ok (.getfield 87, 3) := by decide +kernel
theorem dX12_takeOff_28 : decode cX12_takeOff 28 = .ok (.iload_n 2, 1) := by decide +kernel
theorem dX12_takeOff_29 : decode cX12_takeOff 29 = .ok (.iaload, 1) := by decide +kernel
theorem dX12_takeOff_30 : decode cX12_takeOff 30 = .ok (.iconst (-1), 1) := by decide +kernel
theorem dX12_takeOff_31 : decode cX12_takeOff 31 = .ok (.if_icmp .eq 31, 3) := by decide +kernel
theorem dX12_takeOff_34 : decode cX12_takeOff 34 = .ok (.aload_n 0, 1) := by decide +kernel
theorem dX12_takeOff_35 : decode cX12_takeOff 35 = .ok (.getfield 87, 3) := by decide +kernel
theorem dX12_takeOff_38 : decode cX12_takeOff 38 = .ok (.iload_n 1, 1) := by decide +kernel
theorem dX12_takeOff_39 : decode cX12_takeOff 39 = .ok (.iaload, 1) := by decide +kernel
theorem dX12_takeOff_40 : decode cX12_takeOff 40 = .ok (.iconst (-1), 1) := by decide +kernel
theorem dX12_takeOff_41 : decode cX12_takeOff 41 = .ok (.if_icmp .eq 21, 3) := by decide +kernel
theorem dX12_takeOff_44 : decode cX12_takeOff 44 = .ok (.aload_n 0, 1) := by decide +kernel
theorem dX12_takeOff_45 : decode cX12_takeOff 45 = .ok (.getfield 80, 3) := by decide +kernel
theorem dX12_takeOff_48 : decode cX12_takeOff 48 = .ok (.iconst 4, 1) := by decide +kernel
theorem dX12_takeOff_49 : decode cX12_takeOff 49 = .ok (.iload_n 2, 1) := by decide +kernel
theorem dX12_takeOff_50 : decode cX12_takeOff 50 = .ok (.imul, 1) := by decide +kernel
theorem dX12_takeOff_51 : decode cX12_takeOff 51 = .ok (.iload_n 3, 1) := by decide +kernel
theorem dX12_takeOff_52 : decode cX12_takeOff 52 = .ok (.iadd, 1) := by decide +kernel
theorem dX12_takeOff_53 : decode cX12_takeOff 53 = .ok (.iaload, 1) := by decide +kernel
theorem dX12_takeOff_54 : decode cX12_takeOff 54 = .ok (.iload_n 1, 1) := by decide +kernel
theorem dX12_takeOff_55 : decode cX12_takeOff 55 = .ok (.if_icmp .ne 7, 3) := by decide +kernel
theorem dX12_takeOff_58 : decode cX12_takeOff 58 = .ok (.iconst 1, 1) := by decide +kernel
theorem dX12_takeOff_59 : decode cX12_takeOff 59 = .ok (.goto 4, 3) := by decide +kernel
theorem dX12_takeOff_62 : decode cX12_takeOff 62 = .ok (.iconst 0, 1) := by decide +kernel
theorem dX12_takeOff_63 : decode cX12_takeOff 63 = .ok (.isub, 1) := by decide +kernel
theorem dX12_takeOff_64 : decode cX12_takeOff 64 = .ok (.iastore, 1) := by decide +kernel
theorem dX12_takeOff_65 : decode cX12_takeOff 65 = .ok (.iinc 3 1, 3) := by decide +kernel
theorem dX12_takeOff_68 : decode cX12_takeOff 68 = .ok (.goto (-56), 3) := by decide +kernel
theorem dX12_takeOff_71 : decode cX12_takeOff 71 = .ok (.iinc 2 1, 3) := by decide +kernel
theorem dX12_takeOff_74 : decode cX12_takeOff 74 = .ok (.goto (-72), 3) := by decide +kernel
theorem dX12_takeOff_77 : decode cX12_takeOff 77 = .ok (.return_, 1) := by decide +kernel
theorem dX12_layChain_0 : decode cX12_layChain 0 = .ok (.iconst 0, 1) := by decide +kernel
theorem dX12_layChain_1 : decode cX12_layChain 1 = .ok (.istore_n 1, 1) := by decide +kernel
theorem dX12_layChain_2 : decode cX12_layChain 2 = .ok (.iconst 0, 1) := by decide +kernel
theorem dX12_layChain_3 : decode cX12_layChain 3 = .ok (.istore_n 2, 1) := by decide +kernel
theorem dX12_layChain_4 : decode cX12_layChain 4 = .ok (.aload_n 0, 1) := by decide +kernel
theorem dX12_layChain_5 : decode cX12_layChain 5 = .ok (.getfield 87, 3) := by decide +kernel
theorem dX12_layChain_8 : decode cX12_layChain 8 = .ok (.iload_n 2, 1) := by decide +kernel
theorem dX12_layChain_9 : decode cX12_layChain 9 = .ok (.iaload, 1) := by decide +kernel
theorem dX12_layChain_10 : decode cX12_layChain 10 = .ok (.ifCond .le 82, 3) := by decide +kernel
theorem dX12_layChain_13 : decode cX12_layChain 13 = .ok (.iconst 0, 1) := by decide +kernel
theorem dX12_layChain_14 : decode cX12_layChain 14 = .ok (.istore_n 3, 1) := by decide +kernel
theorem dX12_layChain_15 : decode cX12_layChain 15 = .ok (.aload_n 0, 1) := by decide +kernel
theorem dX12_layChain_16 : decode cX12_layChain 16 = .ok (.getfield 80, 3) := by decide +kernel
theorem dX12_layChain_19 : decode cX12_layChain 19 = .ok (.iconst 4, 1) := by decide +kernel
theorem dX12_layChain_20 : decode cX12_layChain 20 = .ok (.iload_n 2, 1) := by decide +kernel
theorem dX12_layChain_21 : decode cX12_layChain 21 = .ok (.imul, 1) := by decide +kernel
theorem dX12_layChain_22 : decode cX12_layChain 22 = .ok (.iload_n 3, 1) := by decide +kernel
theorem dX12_layChain_23 : decode cX12_layChain 23 = .ok (.iadd, 1) := by decide +kernel
theorem dX12_layChain_24 : decode cX12_layChain 24 = .ok (.iaload, 1) := by decide +kernel
theorem dX12_layChain_25 : decode cX12_layChain 25 = .ok (.iconst (-1), 1) := by decide +kernel
theorem dX12_layChain_26 : decode cX12_layChain 26 = .ok (.if_icmp .eq 29, 3) := by decide +kernel
theorem dX12_layChain_29 : decode cX12_layChain 29 = .ok (.aload_n 0, 1) := by decide +kernel
theorem dX12_layChain_30 : decode cX12_layChain 30 = .ok (.getfield 87, 3) := by decide +kernel
theorem dX12_layChain_33 : decode cX12_layChain 33 = .ok (.aload_n 0, 1) := by decide +kernel
theorem dX12_layChain_34 : decode cX12_layChain 34 = .ok (.getfield 80, 3) := by decide +kernel
theorem dX12_layChain_37 : decode cX12_layChain 37 = .ok (.iconst 4, 1) := by decide +kernel
theorem dX12_layChain_38 : decode cX12_layChain 38 = .ok (.iload_n 2, 1) := by decide +kernel
theorem dX12_layChain_39 : decode cX12_layChain 39 = .ok (.imul, 1) := by decide +kernel
theorem dX12_layChain_40 : decode cX12_layChain 40 = .ok (.iload_n 3, 1) := by decide +kernel
theorem dX12_layChain_41 : decode cX12_layChain 41 = .ok (.iadd, 1) := by decide +kernel
theorem dX12_layChain_42 : decode cX12_layChain 42 = .ok (.iaload, 1) := by decide +kernel
theorem dX12_layChain_43 : decode cX12_layChain 43 = .ok (.iaload, 1) := by decide +kernel
theorem dX12_layChain_44 : decode cX12_layChain 44 = .ok (.aload_n 0, 1) := by decide +kernel
theorem dX12_layChain_45 : decode cX12_layChain 45 = .ok (.getfield 87, 3) := by decide +kernel
theorem dX12_layChain_48 : decode cX12_layChain 48 = .ok (.iload_n 2, 1) := by decide +kernel
theorem dX12_layChain_49 : decode cX12_layChain 49 = .ok (.iaload, 1) := by decide +kernel
theorem dX12_layChain_50 : decode cX12_layChain 50 = .ok (.iconst 1, 1) := by decide +kernel
theorem dX12_layChain_51 : decode cX12_layChain 51 = .ok (.isub, 1) := by decide +kernel
theorem dX12_layChain_52 : decode cX12_layChain 52 = .ok (.if_icmp .eq 9, 3) := by decide +kernel
theorem dX12_layChain_55 : decode cX12_layChain 55 = .ok (.iinc 3 1, 3) := by decide +kernel
theorem dX12_layChain_58 : decode cX12_layChain 58 = .ok (.goto (-43), 3) := by decide +kernel
theorem dX12_layChain_61 : decode cX12_layChain 61 = .ok (.aload_n 0, 1) := by decide +kernel
theorem dX12_layChain_62 : decode cX12_layChain 62 = .ok (.getfield 102, 3) := by decide +kernel
theorem dX12_layChain_65 : decode cX12_layChain 65 = .ok (.iload_n 1, 1) := by decide +kernel
theorem dX12_layChain_66 : decode cX12_layChain 66 = .ok (.iload_n 2, 1) := by decide +kernel
theorem dX12_layChain_67 : decode cX12_layChain 67 = .ok (.iastore, 1) := by decide +kernel
theorem dX12_layChain_68 : decode cX12_layChain 68 = .ok (.aload_n 0, 1) := by decide +kernel
theorem dX12_layChain_69 : decode cX12_layChain 69 = .ok (.getfield 105, 3) := by decide +kernel
theorem dX12_layChain_72 : decode cX12_layChain 72 = .ok (.iload_n 1, 1) := by decide +kernel
theorem dX12_layChain_73 : decode cX12_layChain 73 = .ok (.iload_n 3, 1) := by decide +kernel
theorem dX12_layChain_74 : decode cX12_layChain 74 = .ok (.iastore, 1) := by decide +kernel
theorem dX12_layChain_75 : decode cX12_layChain 75 = .ok (.aload_n 0, 1) := by decide +kernel
theorem dX12_layChain_76 : decode cX12_layChain 76 = .ok (.getfield 80, 3) := by decide +kernel
theorem dX12_layChain_79 : decode cX12_layChain 79 = .ok (.iconst 4, 1) := by decide +kernel
theorem dX12_layChain_80 : decode cX12_layChain 80 = .ok (.iload_n 2, 1) := by decide +kernel
theorem dX12_layChain_81 : decode cX12_layChain 81 = .ok (.imul, 1) := by decide +kernel
theorem dX12_layChain_82 : decode cX12_layChain 82 = .ok (.iload_n 3, 1) := by decide +kernel
theorem dX12_layChain_83 : decode cX12_layChain 83 = .ok (.iadd, 1) := by decide +kernel
theorem dX12_layChain_84 : decode cX12_layChain 84 = .ok (.iaload, 1) := by decide +kernel
theorem dX12_layChain_85 : decode cX12_layChain 85 = .ok (.istore_n 2, 1) := by decide +kernel
theorem dX12_layChain_86 : decode cX12_layChain 86 = .ok (.iinc 1 1, 3) := by decide +kernel
theorem dX12_layChain_89 : decode cX12_layChain 89 = .ok (.goto (-85), 3) := by decide +kernel
theorem dX12_layChain_92 : decode cX12_layChain 92 = .ok (.iload_n 1, 1) := by decide +kernel
theorem dX12_layChain_93 : decode cX12_layChain 93 = .ok (.ireturn, 1) := by decide +kernel
theorem dX12_putting_0 : decode cX12_putting 0 = .ok (.aload_n 0, 1) := by decide +kernel
theorem dX12_putting_1 : decode cX12_putting 1 = .ok (.iload_n 1, 1) := by decide +kernel
theorem dX12_putting_2 : decode cX12_putting 2 = .ok (.invokevirtual 157, 3) := by decide +kernel
theorem dX12_putting_5 : decode cX12_putting 5 = .ok (.ifCond .ne 6, 3) := by decide +kernel
theorem dX12_putting_8 : decode cX12_putting 8 = .ok (.bipush (-2), 2) := by decide +kernel
theorem dX12_putting_10 : decode cX12_putting 10 = .ok (.ireturn, 1) := by decide +kernel
theorem dX12_putting_11 : decode cX12_putting 11 = .ok (.iload_n 2, 1) := by decide +kernel
theorem dX12_putting_12 : decode cX12_putting 12 = .ok (.ifCond .ge 6, 3) := by decide +kernel
theorem dX12_putting_15 : decode cX12_putting 15 = .ok (.bipush (-3), 2) := by decide +kernel
theorem dX12_putting_17 : decode cX12_putting 17 = .ok (.ireturn, 1) := by decide +kernel
theorem dX12_putting_18 : decode cX12_putting 18 = .ok (.aload_n 0, 1) := by decide +kernel
theorem dX12_putting_19 : decode cX12_putting 19 = .ok (.iload_n 1, 1) := by decide +kernel
theorem dX12_putting_20 : decode cX12_putting 20 = .ok (.invokevirtual 274, 3) := by decide +kernel
theorem dX12_putting_23 : decode cX12_putting 23 = .ok (.istore_n 3, 1) := by decide +kernel
theorem dX12_putting_24 : decode cX12_putting 24 = .ok (.iload_n 3, 1) := by decide +kernel
theorem dX12_putting_25 : decode cX12_putting 25 = .ok (.ifCond .eq 5, 3) := by decide +kernel
theorem dX12_putting_28 : decode cX12_putting 28 = .ok (.iload_n 3, 1) := by decide +kernel
theorem dX12_putting_29 : decode cX12_putting 29 = .ok (.ireturn, 1) := by decide +kernel
theorem dX12_putting_30 : decode cX12_putting 30 = .ok (.aload_n 0, 1) := by decide +kernel
theorem dX12_putting_31 : decode cX12_putting 31 = .ok (.getfield 87, 3) := by decide +kernel
theorem dX12_putting_34 : decode cX12_putting 34 = .ok (.iconst 0, 1) := by decide +kernel
theorem dX12_putting_35 : decode cX12_putting 35 = .ok (.iaload, 1) := by decide +kernel
theorem dX12_putting_36 : decode cX12_putting 36 = .ok (.iconst (-1), 1) := by decide +kernel
theorem dX12_putting_37 : decode cX12_putting 37 = .ok (.if_icmp .eq 20, 3) := by decide +kernel
theorem dX12_putting_40 : decode cX12_putting 40 = .ok (.iload_n 2, 1) := by decide +kernel
theorem dX12_putting_41 : decode cX12_putting 41 = .ok (.aload_n 0, 1) := by decide +kernel
theorem dX12_putting_42 : decode cX12_putting 42 = .ok (.invokevirtual 280, 3) := by decide +kernel
theorem dX12_putting_45 : decode cX12_putting 45 = .ok (.if_icmp .ge 12, 3) := by decide +kernel
theorem dX12_putting_48 : decode cX12_putting 48 = .ok (.aload_n 0, 1) := by decide +kernel
theorem dX12_putting_49 : decode cX12_putting 49 = .ok (.getfield 105, 3) := by decide +kernel
theorem dX12_putting_52 : decode cX12_putting 52 = .ok (.iload_n 2, 1) := by decide +kernel
theorem dX12_putting_53 : decode cX12_putting 53 = .ok (.iaload, 1) := by decide +kernel
theorem dX12_putting_54 : decode cX12_putting 54 = .ok (.goto 4, 3) := by decide +kernel
theorem dX12_putting_57 : decode cX12_putting 57 = .ok (.iconst (-1), 1) := by decide +kernel
theorem dX12_putting_58 : decode cX12_putting 58 = .ok (.ireturn, 1) := by decide +kernel
theorem dX12_putAheadOf_0 : decode cX12_putAheadOf 0 = .ok (.aload_n 0, 1) := by decide +kernel
theorem dX12_putAheadOf_1 : decode cX12_putAheadOf 1 = .ok (.getfield 237, 3) := by decide +kernel
theorem dX12_putAheadOf_4 : decode cX12_putAheadOf 4 = .ok (.iconst 4, 1) := by decide +kernel
theorem dX12_putAheadOf_5 : decode cX12_putAheadOf 5 = .ok (.if_icmp .ge 7, 3) := by decide +kernel
theorem dX12_putAheadOf_8 : decode cX12_putAheadOf 8 = .ok (.iconst 1, 1) := by decide +kernel
theorem dX12_putAheadOf_9 : decode cX12_putAheadOf 9 = .ok (.goto 14, 3) := by decide +kernel
theorem dX12_putAheadOf_12 : decode cX12_putAheadOf 12 = .ok (.aload_n 0, 1) := by decide +kernel
theorem dX12_putAheadOf_13 : decode cX12_putAheadOf 13 = .ok (.getfield 111, 3) := by decide +kernel
theorem dX12_putAheadOf_16 : decode cX12_putAheadOf 16 = .ok (.aload_n 0, 1) := by decide +kernel
theorem dX12_putAheadOf_17 : decode cX12_putAheadOf 17 = .ok (.getfield 237, 3) := by decide +kernel
theorem dX12_putAheadOf_20 : decode cX12_putAheadOf 20 = .ok (.iconst 4, 1) := by decide +kernel
theorem dX12_putAheadOf_21 : decode cX12_putAheadOf 21 = .ok (.isub, 1) := by decide +kernel
theorem dX12_putAheadOf_22 : decode cX12_putAheadOf 22 = .ok (.iaload, 1) := by decide +kernel
theorem dX12_putAheadOf_23 : decode cX12_putAheadOf 23 = .ok (.istore_n 2, 1) := by decide +kernel
theorem dX12_putAheadOf_24 : decode cX12_putAheadOf 24 = .ok (.aload_n 0, 1) := by decide +kernel
theorem dX12_putAheadOf_25 : decode cX12_putAheadOf 25 = .ok (.getfield 111, 3) := by decide +kernel
theorem dX12_putAheadOf_28 : decode cX12_putAheadOf 28 = .ok (.iload_n 1, 1) := by decide +kernel
theorem dX12_putAheadOf_29 : decode cX12_putAheadOf 29 = .ok (.iaload, 1) := by decide +kernel
theorem dX12_putAheadOf_30 : decode cX12_putAheadOf 30 = .ok (.iload_n 2, 1) := by decide +kernel
theorem dX12_putAheadOf_31 : decode cX12_putAheadOf 31 = .ok (.iadd, 1) := by decide +kernel
theorem dX12_putAheadOf_32 : decode cX12_putAheadOf 32 = .ok (.sipush 300, 3) := by decide +kernel
theorem dX12_putAheadOf_35 : decode cX12_putAheadOf 35 = .ok (.if_icmp .le 5, 3) := by decide +kernel
theorem dX12_putAheadOf_38 : decode cX12_putAheadOf 38 = .ok (.iconst 0, 1) := by decide +kernel
theorem dX12_putAheadOf_39 : decode cX12_putAheadOf 39 = .ok (.ireturn, 1) := by decide +kernel
theorem dX12_putAheadOf_40 : decode cX12_putAheadOf 40 = .ok (.aload_n 0, 1) := by decide +kernel
theorem dX12_putAheadOf_41 : decode cX12_putAheadOf 41 = .ok (.getfield 111, 3) := by decide +kernel
theorem dX12_putAheadOf_44 : decode cX12_putAheadOf 44 = .ok (.iload_n 1, 1) := by decide +kernel
theorem dX12_putAheadOf_45 : decode cX12_putAheadOf 45 = .ok (.iaload, 1) := by decide +kernel
theorem dX12_putAheadOf_46 : decode cX12_putAheadOf 46 = .ok (.iconst 1, 1) := by decide +kernel
theorem dX12_putAheadOf_47 : decode cX12_putAheadOf 47 = .ok (.isub, 1) := by decide +kernel
theorem dX12_putAheadOf_48 : decode cX12_putAheadOf 48 = .ok (.istore_n 3, 1) := by decide +kernel
theorem dX12_putAheadOf_49 : decode cX12_putAheadOf 49 = .ok (.iload_n 3, 1) := by decide +kernel
theorem dX12_putAheadOf_50 : decode cX12_putAheadOf 50 = .ok (.ifCond .lt 35, 3) := by decide +kernel
theorem dX12_putAheadOf_53 : decode cX12_putAheadOf 53 = .ok (.aload_n 0, 1) := by decide +kernel
theorem dX12_putAheadOf_54 : decode cX12_putAheadOf 54 = .ok (.getfield 108, 3) := by decide +kernel
theorem dX12_putAheadOf_57 : decode cX12_putAheadOf 57 = .ok (.sipush 301, 3) := by decide +kernel
theorem dX12_putAheadOf_60 : decode cX12_putAheadOf 60 = .ok (.iload_n 1, 1) := by decide +kernel
theorem dX12_putAheadOf_61 : decode cX12_putAheadOf 61 = .ok (.imul, 1) := by decide +kernel
theorem dX12_putAheadOf_62 : decode cX12_putAheadOf 62 = .ok (.iload_n 3, 1) := by decide +kernel
theorem dX12_putAheadOf_63 : decode cX12_putAheadOf 63 = .ok (.iadd, 1) := by decide +kernel
theorem dX12_putAheadOf_64 : decode cX12_putAheadOf 64 = .ok (.iload_n 2, 1) := by decide +kernel
theorem dX12_putAheadOf_65 : decode cX12_putAheadOf 65 = .ok (.iadd, 1) := by decide +kernel
theorem dX12_putAheadOf_66 : decode cX12_putAheadOf 66 = .ok (.aload_n 0, 1) := by decide +kernel
theorem dX12_putAheadOf_67 : decode cX12_putAheadOf 67 = .ok (.getfield 108, 3) := by decide +kernel
theorem dX12_putAheadOf_70 : decode cX12_putAheadOf 70 = .ok (.sipush 301, 3) := by decide +kernel
theorem dX12_putAheadOf_73 : decode cX12_putAheadOf 73 = .ok (.iload_n 1, 1) := by decide +kernel
theorem dX12_putAheadOf_74 : decode cX12_putAheadOf 74 = .ok (.imul, 1) := by decide +kernel
theorem dX12_putAheadOf_75 : decode cX12_putAheadOf 75 = .ok (.iload_n 3, 1) := by decide +kernel
theorem dX12_putAheadOf_76 : decode cX12_putAheadOf 76 = .ok (.iadd, 1) := by decide +kernel
theorem dX12_putAheadOf_77 : decode cX12_putAheadOf 77 = .ok (.iaload, 1) := by decide +kernel
theorem dX12_putAheadOf_78 : decode cX12_putAheadOf 78 = .ok (.iastore, 1) := by decide +kernel
theorem dX12_putAheadOf_79 : decode cX12_putAheadOf 79 = .ok (.iinc 3 (-1), 3) := by decide +kernel
theorem dX12_putAheadOf_82 : decode cX12_putAheadOf 82 = .ok (.goto (-33), 3) := by decide +kernel
theorem dX12_putAheadOf_85 : decode cX12_putAheadOf 85 = .ok (.iconst 0, 1) := by decide +kernel
theorem dX12_putAheadOf_86 : decode cX12_putAheadOf 86 = .ok (.istore_n 3, 1) := by decide +kernel
theorem dX12_putAheadOf_87 : decode cX12_putAheadOf 87 = .ok (.iload_n 3, 1) := by decide +kernel
theorem dX12_putAheadOf_88 : decode cX12_putAheadOf 88 = .ok (.iload_n 2, 1) := by decide +kernel
theorem dX12_putAheadOf_89 : decode cX12_putAheadOf 89 = .ok (.if_icmp .ge 53, 3) := by decide +kernel
theorem dX12_putAheadOf_92 : decode cX12_putAheadOf 92 = .ok (.aload_n 0, 1) := by decide +kernel
theorem dX12_putAheadOf_93 : decode cX12_putAheadOf 93 = .ok (.getfield 108, 3) := by decide +kernel
theorem dX12_putAheadOf_96 : decode cX12_putAheadOf 96 = .ok (.sipush 301, 3) := by decide +kernel
theorem dX12_putAheadOf_99 : decode cX12_putAheadOf 99 = .ok (.iload_n 1, 1) := by decide +kernel
theorem dX12_putAheadOf_100 : decode cX12_putAheadOf 100 = .ok (.imul, 1) := by decide +kernel
theorem dX12_putAheadOf_101 : decode cX12_putAheadOf 101 = .ok (.iload_n 3, 1) := by decide +kernel
theorem dX12_putAheadOf_102 : decode cX12_putAheadOf 102 = .ok (.iadd, 1) := by decide +kernel
theorem dX12_putAheadOf_103 : decode cX12_putAheadOf 103 = .ok (.aload_n 0, 1) := by decide +kernel
theorem dX12_putAheadOf_104 : decode cX12_putAheadOf 104 = .ok (.getfield 237, 3) := by decide +kernel
theorem dX12_putAheadOf_107 : decode cX12_putAheadOf 107 = .ok (.iconst 4, 1) := by decide +kernel
theorem dX12_putAheadOf_108 : decode cX12_putAheadOf 108 = .ok (.if_icmp .ge 10, 3) := by decide +kernel
theorem dX12_putAheadOf_111 : decode cX12_putAheadOf 111 = .ok (.aload_n 0, 1) := by decide +kernel
theorem dX12_putAheadOf_112 : decode cX12_putAheadOf 112 = .ok (.getfield 237, 3) := by decide +kernel
theorem dX12_putAheadOf_115 : decode cX12_putAheadOf 115 = .ok (.goto 20, 3) := by decide +kernel
theorem dX12_putAheadOf_118 : decode cX12_putAheadOf 118 = .ok (.aload_n 0, 1) := by decide +kernel
theorem dX12_putAheadOf_119 : decode cX12_putAheadOf 119 = .ok (.getfield 108, 3) := by decide +kernel
theorem dX12_putAheadOf_122 : decode cX12_putAheadOf 122 = .ok (.sipush 301, 3) := by decide +kernel
theorem dX12_putAheadOf_125 : decode cX12_putAheadOf 125 = .ok (.aload_n 0, 1) := by decide +kernel
theorem dX12_putAheadOf_126 : decode cX12_putAheadOf 126 = .ok (.getfield 237, 3) := by decide +kernel
theorem dX12_putAheadOf_129 : decode cX12_putAheadOf 129 = .ok (.iconst 4, 1) := by decide +kernel
theorem dX12_putAheadOf_130 : decode cX12_putAheadOf 130 = .ok (.isub, 1) := by decide +kernel
theorem dX12_putAheadOf_131 : decode cX12_putAheadOf 131 = .ok (.imul, 1) := by decide +kernel
theorem dX12_putAheadOf_132 : decode cX12_putAheadOf 132 = .ok (.iload_n 3, 1) := by decide +kernel
theorem dX12_putAheadOf_133 : decode cX12_putAheadOf 133 = .ok (.iadd, 1) := by decide +kernel
theorem dX12_putAheadOf_134 : decode cX12_putAheadOf 134 = .ok (.iaload, 1) := by decide +kernel
theorem dX12_putAheadOf_135 : decode cX12_putAheadOf 135 = .ok (.iastore, 1) := by decide +kernel
theorem dX12_putAheadOf_136 : decode cX12_putAheadOf 136 = .ok (.iinc 3 1, 3) := by decide +kernel
theorem dX12_putAheadOf_139 : decode cX12_putAheadOf 139 = .ok (.goto (-52), 3) := by decide +kernel
theorem dX12_putAheadOf_142 : decode cX12_putAheadOf 142 = .ok (.aload_n 0, 1) := by decide +kernel
theorem dX12_putAheadOf_143 : decode cX12_putAheadOf 143 = .ok (.getfield 111, 3) := by decide +kernel
theorem dX12_putAheadOf_146 : decode cX12_putAheadOf 146 = .ok (.iload_n 1, 1) := by decide +kernel
theorem dX12_putAheadOf_147 : decode cX12_putAheadOf 147 = .ok (.dup2, 1) := by decide +kernel
theorem dX12_putAheadOf_148 : decode cX12_putAheadOf 148 = .ok (.iaload, 1) := by decide +kernel
theorem dX12_putAheadOf_149 : decode cX12_putAheadOf 149 = .ok (.iload_n 2, 1) := by decide +kernel
theorem dX12_putAheadOf_150 : decode cX12_putAheadOf 150 = .ok (.iadd, 1) := by decide +kernel
theorem dX12_putAheadOf_151 : decode cX12_putAheadOf 151 = .ok (.iastore, 1) := by decide +kernel
theorem dX12_putAheadOf_152 : decode cX12_putAheadOf 152 = .ok (.iconst 1, 1) := by decide +kernel
theorem dX12_putAheadOf_153 : decode cX12_putAheadOf 153 = .ok (.ireturn, 1) := by decide +kernel
theorem dX12_found_0 : decode cX12_found 0 = .ok (.aload_n 0, 1) := by decide +kernel
theorem dX12_found_1 : decode cX12_found 1 = .ok (.iload_n 1, 1) := by decide +kernel
theorem dX12_found_2 : decode cX12_found 2 = .ok (.invokevirtual 157, 3) := by decide +kernel
theorem dX12_found_5 : decode cX12_found 5 = .ok (.ifCond .eq 10, 3) := by decide +kernel
theorem dX12_found_8 : decode cX12_found 8 = .ok (.iload_n 2, 1) := by decide +kernel
theorem dX12_found_9 : decode cX12_found 9 = .ok (.invokestatic 161, 3) := by decide +kernel
theorem dX12_found_12 : decode cX12_found 12 = .ok (.ifCond .ne 6, 3) := by decide +kernel
theorem dX12_found_15 : decode cX12_found 15 = .ok (.bipush (-2), 2) := by decide +kernel
theorem dX12_found_17 : decode cX12_found 17 = .ok (.ireturn, 1) := by decide +kernel
theorem dX12_found_18 : decode cX12_found 18 = .ok (.iload_n 3, 1) := by decide +kernel
theorem dX12_found_19 : decode cX12_found 19 = .ok (.iconst (-1), 1) := by decide +kernel
theorem dX12_found_20 : decode cX12_found 20 = .ok (.if_icmp .ge 6, 3) := by decide +kernel
theorem dX12_found_23 : decode cX12_found 23 = .ok (.bipush (-3), 2) := by decide +kernel
theorem dX12_found_25 : decode cX12_found 25 = .ok (.ireturn, 1) := by decide +kernel
theorem dX12_found_26 : decode cX12_found 26 = .ok (.aload_n 0, 1) := by decide +kernel
theorem dX12_found_27 : decode cX12_found 27 = .ok (.iload_n 1, 1) := by decide +kernel
theorem dX12_found_28 : decode cX12_found 28 = .ok (.invokevirtual 274, 3) := by decide +kernel
theorem dX12_found_31 : decode cX12_found 31 = .ok (.istore 4, 2) := by decide +kernel
theorem dX12_found_33 : decode cX12_found 33 = .ok (.iload 4, 2) := by decide +kernel
theorem dX12_found_35 : decode cX12_found 35 = .ok (.ifCond .eq 6, 3) := by decide +kernel
theorem dX12_found_38 : decode cX12_found 38 = .ok (.iload 4, 2) := by decide +kernel
theorem dX12_found_40 : decode cX12_found 40 = .ok (.ireturn, 1) := by decide +kernel
theorem dX12_found_41 : decode cX12_found 41 = .ok (.aload_n 0, 1) := by decide +kernel
theorem dX12_found_42 : decode cX12_found 42 = .ok (.getfield 87, 3) := by decide +kernel
theorem dX12_found_45 : decode cX12_found 45 = .ok (.iconst 0, 1) := by decide +kernel
theorem dX12_found_46 : decode cX12_found 46 = .ok (.iaload, 1) := by decide +kernel
theorem dX12_found_47 : decode cX12_found 47 = .ok (.iconst (-1), 1) := by decide +kernel
theorem dX12_found_48 : decode cX12_found 48 = .ok (.if_icmp .ne 5, 3) := by decide +kernel
theorem dX12_found_51 : decode cX12_found 51 = .ok (.iconst (-1), 1) := by decide +kernel
theorem dX12_found_52 : decode cX12_found 52 = .ok (.ireturn, 1) := by decide +kernel
theorem dX12_found_53 : decode cX12_found 53 = .ok (.iconst 0, 1) := by decide +kernel
theorem dX12_found_54 : decode cX12_found 54 = .ok (.istore 5, 2) := by decide +kernel
theorem dX12_found_56 : decode cX12_found 56 = .ok (.iload 5, 2) := by decide +kernel
theorem dX12_found_58 : decode cX12_found 58 = .ok (.iconst 4, 1) := by decide +kernel
theorem dX12_found_59 : decode cX12_found 59 = .ok (.if_icmp .ge 17, 3) := by decide +kernel
theorem dX12_found_62 : decode cX12_found 62 = .ok (.aload_n 0, 1) := by decide +kernel
theorem dX12_found_63 : decode cX12_found 63 = .ok (.getfield 111, 3) := by decide +kernel
theorem dX12_found_66 : decode cX12_found 66 = .ok (.iload 5, 2) := by decide +kernel
theorem dX12_found_68 : decode cX12_found 68 = .ok (.iconst 0, 1) := by decide +kernel
theorem dX12_found_69 : decode cX12_found 69 = .ok (.iastore, 1) := by decide +kernel
theorem dX12_found_70 : decode cX12_found 70 = .ok (.iinc 5 1, 3) := by decide +kernel
theorem dX12_found_73 : decode cX12_found 73 = .ok (.goto (-17), 3) := by decide +kernel
theorem dX12_found_76 : decode cX12_found 76 = .ok (.aload_n 0, 1) := by decide +kernel
theorem dX12_found_77 : decode cX12_found 77 = .ok (.invokevirtual 280, 3) := by decide +kernel
theorem dX12_found_80 : decode cX12_found 80 = .ok (.iconst 1, 1) := by decide +kernel
theorem dX12_found_81 : decode cX12_found 81 = .ok (.isub, 1) := by decide +kernel
theorem dX12_found_82 : decode cX12_found 82 = .ok (.istore 5, 2) := by decide +kernel
theorem dX12_found_84 : decode cX12_found 84 = .ok (.iload 5, 2) := by decide +kernel
theorem dX12_found_86 : decode cX12_found 86 = .ok (.ifCond .lt 67, 3) := by decide +kernel
theorem dX12_found_89 : decode cX12_found 89 = .ok (.aload_n 0, 1) := by decide +kernel
theorem dX12_found_90 : decode cX12_found 90 = .ok (.aload_n 0, 1) := by decide +kernel
theorem dX12_found_91 : decode cX12_found 91 = .ok (.getfield 102, 3) := by decide +kernel
theorem dX12_found_94 : decode cX12_found 94 = .ok (.iload 5, 2) := by decide +kernel
theorem dX12_found_96 : decode cX12_found 96 = .ok (.iaload, 1) := by decide +kernel
theorem dX12_found_97 : decode cX12_found 97 = .ok (.aload_n 0, 1) := by decide +kernel
theorem dX12_found_98 : decode cX12_found 98 = .ok (.getfield 105, 3) := by decide +kernel
theorem dX12_found_101 : decode cX12_found 101 = .ok (.iload 5, 2) := by decide +kernel
theorem dX12_found_103 : decode cX12_found 103 = .ok (.iaload, 1) := by decide +kernel
theorem dX12_found_104 : decode cX12_found 104 = .ok (.invokevirtual 260, 3) := by decide +kernel
theorem dX12_found_107 : decode cX12_found 107 = .ok (.pop, 1) := by decide +kernel
theorem dX12_found_108 : decode cX12_found 108 = .ok (.aload_n 0, 1) := by decide +kernel
theorem dX12_found_109 : decode cX12_found 109 = .ok (.getfield 240, 3) := by decide +kernel
theorem dX12_found_112 : decode cX12_found 112 = .ok (.iconst 4, 1) := by decide +kernel
theorem dX12_found_113 : decode cX12_found 113 = .ok (.isub, 1) := by decide +kernel
theorem dX12_found_114 : decode cX12_found 114 = .ok (.istore 6, 2) := by decide +kernel
theorem dX12_found_116 : decode cX12_found 116 = .ok (.aload_n 0, 1) := by decide +kernel
theorem dX12_found_117 : decode cX12_found 117 = .ok (.getfield 237, 3) := by decide +kernel
theorem dX12_found_120 : decode cX12_found 120 = .ok (.iconst (-1), 1) := by decide +kernel
theorem dX12_found_121 : decode cX12_found 121 = .ok (.if_icmp .ne 14, 3) := by decide +kernel
theorem dX12_found_124 : decode cX12_found 124 = .ok (.aload_n 0, 1) := by decide +kernel
theorem dX12_found_125 : decode cX12_found 125 = .ok (.getfield 111, 3) := by decide +kernel
theorem dX12_found_128 : decode cX12_found 128 = .ok (.iload 6, 2) := by decide +kernel
theorem dX12_found_130 : decode cX12_found 130 = .ok (.iconst 0, 1) := by decide +kernel
theorem dX12_found_131 : decode cX12_found 131 = .ok (.iastore, 1) := by decide +kernel
theorem dX12_found_132 : decode cX12_found 132 = .ok (.goto 15, 3) := by decide +kernel
theorem dX12_found_135 : decode cX12_found 135 = .ok (.aload_n 0, 1) := by decide +kernel
theorem dX12_found_136 : decode cX12_found 136 = .ok (.iload 6, 2) := by decide +kernel
theorem dX12_found_138 : decode cX12_found 138 = .ok (.invokevirtual 283, 3) := by decide +kernel
theorem dX12_found_141 : decode cX12_found 141 = .ok (.ifCond .ne 6, 3) := by decide +kernel
theorem dX12_found_144 : decode cX12_found 144 = .ok (.bipush (-6), 2) := by decide +kernel
theorem dX12_found_146 : decode cX12_found 146 = .ok (.ireturn, 1) := by decide +kernel
theorem dX12_found_147 : decode cX12_found 147 = .ok (.iinc 5 (-1), 3) := by decide +kernel
theorem dX12_found_150 : decode cX12_found 150 = .ok (.goto (-66), 3) := by decide +kernel
theorem dX12_found_153 : decode cX12_found 153 = .ok (.iload_n 3, 1) := by decide +kernel
theorem dX12_found_154 : decode cX12_found 154 = .ok (.iconst (-1), 1) := by decide +kernel
theorem dX12_found_155 : decode cX12_found 155 = .ok (.if_icmp .ne 12, 3) := by decide +kernel
theorem dX12_found_158 : decode cX12_found 158 = .ok (.aload_n 0, 1) := by decide +kernel
theorem dX12_found_159 : decode cX12_found 159 = .ok (.getfield 111, 3) := by decide +kernel
theorem dX12_found_162 : decode cX12_found 162 = .ok (.iload_n 2, 1) := by decide +kernel
theorem dX12_found_163 : decode cX12_found 163 = .ok (.iaload, 1) := by decide +kernel
theorem dX12_found_164 : decode cX12_found 164 = .ok (.goto 29, 3) := by decide +kernel
theorem dX12_found_167 : decode cX12_found 167 = .ok (.iload_n 3, 1) := by decide +kernel
theorem dX12_found_168 : decode cX12_found 168 = .ok (.aload_n 0, 1) := by decide +kernel
theorem dX12_found_169 : decode cX12_found 169 = .ok (.getfield 111, 3) := by decide +kernel
theorem dX12_found_172 : decode cX12_found 172 = .ok (.iload_n 2, 1) := by decide +kernel
theorem dX12_found_173 : decode cX12_found 173 = .ok (.iaload, 1) := by decide +kernel
theorem dX12_found_174 : decode cX12_found 174 = .ok (.if_icmp .ge 18, 3) := by decide +kernel
theorem dX12_found_177 : decode cX12_found 177 = .ok (.aload_n 0, 1) := by decide +kernel
theorem dX12_found_178 : decode cX12_found 178 = .ok (.getfield 108, 3) := by decide +kernel
theorem dX12_found_181 : decode cX12_found 181 = .ok (.sipush 301, 3) := by decide +kernel
theorem dX12_found_184 : decode cX12_found 184 = .ok (.iload_n 2, 1) := by decide +kernel
theorem dX12_found_185 : decode cX12_found 185 = .ok (.imul, 1) := by decide +kernel
theorem dX12_found_186 : decode cX12_found 186 = .ok (.iload_n 3, 1) := by decide +kernel
theorem dX12_found_187 : decode cX12_found 187 = .ok (.iadd, 1) := by decide +kernel
theorem dX12_found_188 : decode cX12_found 188 = .ok (.iaload, 1) := by decide +kernel
theorem dX12_found_189 : decode cX12_found 189 = .ok (.goto 4, 3) := by decide +kernel
theorem dX12_found_192 : decode cX12_found 192 = .ok (.iconst (-1), 1) := by decide +kernel
theorem dX12_found_193 : decode cX12_found 193 = .ok (.ireturn, 1) := by decide +kernel
theorem dX12_isWord_0 : decode cX12_isWord 0 = .ok (.iload_n 0, 1) := by decide +kernel
theorem dX12_isWord_1 : decode cX12_isWord 1 = .ok (.i2l, 1) := by decide +kernel
theorem dX12_isWord_2 : decode cX12_isWord 2 = .ok (.lconst 0, 1) := by decide +kernel
theorem dX12_isWord_3 : decode cX12_isWord 3 = .ok (.ldc2_w 129, 3) := by decide +kernel
theorem dX12_isWord_6 : decode cX12_isWord 6 = .ok (.invokestatic 131, 3) := by decide +kernel
theorem dX12_isWord_9 : decode cX12_isWord 9 = .ok (.ireturn, 1) := by decide +kernel
theorem dX12_word_0 : decode cX12_word 0 = .ok (.iload_n 1, 1) := by decide +kernel
theorem dX12_word_1 : decode cX12_word 1 = .ok (.invokestatic 286, 3) := by decide +kernel
theorem dX12_word_4 : decode cX12_word 4 = .ok (.ifCond .ne 6, 3) := by decide +kernel
theorem dX12_word_7 : decode cX12_word 7 = .ok (.bipush (-2), 2) := by decide +kernel
theorem dX12_word_9 : decode cX12_word 9 = .ok (.ireturn, 1) := by decide +kernel
theorem dX12_word_10 : decode cX12_word 10 = .ok (.iload 4, 2) := by decide +kernel
theorem dX12_word_12 : decode cX12_word 12 = .ok (.i2l, 1) := by decide +kernel
theorem dX12_word_13 : decode cX12_word 13 = .ok (.lconst 0, 1) := by decide +kernel
theorem dX12_word_14 : decode cX12_word 14 = .ok (.ldc2_w 289, 3) := by decide +kernel
theorem dX12_word_17 : decode cX12_word 17 = .ok (.invokestatic 131, 3) := by decide +kernel
theorem dX12_word_20 : decode cX12_word 20 = .ok (.istore 5, 2) := by decide +kernel
theorem dX12_word_22 : decode cX12_word 22 = .ok (.iconst 0, 1) := by decide +kernel
theorem dX12_word_23 : decode cX12_word 23 = .ok (.istore 6, 2) := by decide +kernel
theorem dX12_word_25 : decode cX12_word 25 = .ok (.iload 5, 2) := by decide +kernel
theorem dX12_word_27 : decode cX12_word 27 = .ok (.ifCond .eq 40, 3) := by decide +kernel
theorem dX12_word_30 : decode cX12_word 30 = .ok (.iload 6, 2) := by decide +kernel
theorem dX12_word_32 : decode cX12_word 32 = .ok (.iload 4, 2) := by decide +kernel
theorem dX12_word_34 : decode cX12_word 34 = .ok (.if_icmp .ge 33, 3) := by decide +kernel
theorem dX12_word_37 : decode cX12_word 37 = .ok (.lload_n 2, 1) := by decide +kernel
theorem dX12_word_38 : decode cX12_word 38 = .ok (.iconst 2, 1) := by decide +kernel
theorem dX12_word_39 : decode cX12_word 39 = .ok (.iload 6, 2) := by decide +kernel
theorem dX12_word_41 : decode cX12_word 41 = .ok (.imul, 1) := by decide +kernel
theorem dX12_word_42 : decode cX12_word 42 = .ok (.lshr, 1) := by decide +kernel
theorem dX12_word_43 : decode cX12_word 43 = .ok (.ldc2_w 129, 3) := by decide +kernel
theorem dX12_word_46 : decode cX12_word 46 = .ok (.land, 1) := by decide +kernel
theorem dX12_word_47 : decode cX12_word 47 = .ok (.ldc2_w 129, 3) := by decide +kernel
theorem dX12_word_50 : decode cX12_word 50 = .ok (.lcmp, 1) := by decide +kernel
theorem dX12_word_51 : decode cX12_word 51 = .ok (.ifCond .ge 7, 3) := by decide +kernel
theorem dX12_word_54 : decode cX12_word 54 = .ok (.iconst 1, 1) := by decide +kernel
theorem dX12_word_55 : decode cX12_word 55 = .ok (.goto 4, 3) := by decide +kernel
theorem dX12_word_58 : decode cX12_word 58 = .ok (.iconst 0, 1) := by decide +kernel
theorem dX12_word_59 : decode cX12_word 59 = .ok (.istore 5, 2) := by decide +kernel
theorem dX12_word_61 : decode cX12_word 61 = .ok (.iinc 6 1, 3) := by decide +kernel
theorem dX12_word_64 : decode cX12_word 64 = .ok (.goto (-39), 3) := by decide +kernel
theorem dX12_word_67 : decode cX12_word 67 = .ok (.iload 5, 2) := by decide +kernel
theorem dX12_word_69 : decode cX12_word 69 = .ok (.ifCond .ne 6, 3) := by decide +kernel
theorem dX12_word_72 : decode cX12_word 72 = .ok (.bipush (-3), 2) := by decide +kernel
theorem dX12_word_74 : decode cX12_word 74 = .ok (.ireturn, 1) := by decide +kernel
theorem dX12_word_75 : decode cX12_word 75 = .ok (.iconst 0, 1) := by decide +kernel
theorem dX12_word_76 : decode cX12_word 76 = .ok (.istore 6, 2) := by decide +kernel
theorem dX12_word_78 : decode cX12_word 78 = .ok (.iload 6, 2) := by decide +kernel
theorem dX12_word_80 : decode cX12_word 80 = .ok (.iload 4, 2) := by decide +kernel
theorem dX12_word_82 : decode cX12_word 82 = .ok (.if_icmp .ge 32, 3) := by decide +kernel
theorem dX12_word_85 : decode cX12_word 85 = .ok (.aload_n 0, 1) := by decide +kernel
theorem dX12_word_86 : decode cX12_word 86 = .ok (.getfield 34, 3) := by decide +kernel
theorem dX12_word_89 : decode cX12_word 89 = .ok (.bipush 30, 2) := by decide +kernel
theorem dX12_word_91 : decode cX12_word 91 = .ok (.iload_n 1, 1) := by decide +kernel
theorem dX12_word_92 : decode cX12_word 92 = .ok (.imul, 1) := by decide +kernel
theorem dX12_word_93 : decode cX12_word 93 = .ok (.iload 6, 2) := by decide +kernel
theorem dX12_word_95 : decode cX12_word 95 = .ok (.iadd, 1) := by decide +kernel
theorem dX12_word_96 : decode cX12_word 96 = .ok (.lload_n 2, 1) := by decide +kernel
theorem dX12_word_97 : decode cX12_word 97 = .ok (.iconst 2, 1) := by decide +kernel
theorem dX12_word_98 : decode cX12_word 98 = .ok (.iload 6, 2) := by decide +kernel
theorem dX12_word_100 : decode cX12_word 100 = .ok (.imul, 1) := by decide +kernel
theorem dX12_word_101 : decode cX12_word 101 = .ok (.lshr, 1) := by decide +kernel
theorem dX12_word_102 : decode cX12_word 102 = .ok (.ldc2_w 129, 3) := by decide +kernel
theorem dX12_word_105 : decode cX12_word 105 = .ok (.land, 1) := by decide +kernel
theorem dX12_word_106 : decode cX12_word 106 = .ok (.l2i, 1) := by decide +kernel
theorem dX12_word_107 : decode cX12_word 107 = .ok (.iastore, 1) := by decide +kernel
theorem dX12_word_108 : decode cX12_word 108 = .ok (.iinc 6 1, 3) := by decide +kernel
theorem dX12_word_111 : decode cX12_word 111 = .ok (.goto (-33), 3) := by decide +kernel
theorem dX12_word_114 : decode cX12_word 114 = .ok (.aload_n 0, 1) := by decide +kernel
theorem dX12_word_115 : decode cX12_word 115 = .ok (.getfield 37, 3) := by decide +kernel
theorem dX12_word_118 : decode cX12_word 118 = .ok (.iload_n 1, 1) := by decide +kernel
theorem dX12_word_119 : decode cX12_word 119 = .ok (.iload 4, 2) := by decide +kernel
theorem dX12_word_121 : decode cX12_word 121 = .ok (.iastore, 1) := by decide +kernel
theorem dX12_word_122 : decode cX12_word 122 = .ok (.iconst 1, 1) := by decide +kernel
theorem dX12_word_123 : decode cX12_word 123 = .ok (.ireturn, 1) := by decide +kernel
theorem dX12_isPeriod_0 : decode cX12_isPeriod 0 = .ok (.iconst 1, 1) := by decide +kernel
theorem dX12_isPeriod_1 : decode cX12_isPeriod 1 = .ok (.istore_n 3, 1) := by decide +kernel
theorem dX12_isPeriod_2 : decode cX12_isPeriod 2 = .ok (.iload_n 2, 1) := by decide +kernel
theorem dX12_isPeriod_3 : decode cX12_isPeriod 3 = .ok (.istore 4, 2) := by decide +kernel
theorem dX12_isPeriod_5 : decode cX12_isPeriod 5 = .ok (.iload 4, 2) := by decide +kernel
theorem dX12_isPeriod_7 : decode cX12_isPeriod 7 = .ok (.aload_n 0, 1) := by decide +kernel
theorem dX12_isPeriod_8 : decode cX12_isPeriod 8 = .ok (.getfield 37, 3) := by decide +kernel
theorem dX12_isPeriod_11 : decode cX12_isPeriod 11 = .ok (.iload_n 1, 1) := by decide +kernel
theorem dX12_isPeriod_12 : decode cX12_isPeriod 12 = .ok (.iaload, 1) := by decide +kernel
theorem dX12_isPeriod_13 : decode cX12_isPeriod 13 = .ok (.if_icmp .ge 48, 3) := by decide +kernel
theorem dX12_isPeriod_16 : decode cX12_isPeriod 16 = .ok (.iload_n 3, 1) := by decide +kernel
theorem dX12_isPeriod_17 : decode cX12_isPeriod 17 = .ok (.ifCond .eq 36, 3) := by decide +kernel
theorem dX12_isPeriod_20 : decode cX12_isPeriod 20 = .ok (.aload_n 0, 1) := by decide +kernel
theorem dX12_isPeriod_21 : decode cX12_isPeriod 21 = .ok (.getfield 34, 3) := by decide +kernel
theorem dX12_isPeriod_24 : decode cX12_isPeriod 24 = .ok (.bipush 30, 2) := by decide +kernel
theorem dX12_isPeriod_26 : decode cX12_isPeriod 26 = .ok (.iload_n 1, 1) := by decide +kernel
theorem dX12_isPeriod_27 : decode cX12_isPeriod 27 = .ok (.imul, 1) := by decide +kernel
theorem dX12_isPeriod_28 : decode cX12_isPeriod 28 = .ok (.iload 4, 2) := by decide +kernel
theorem dX12_isPeriod_30 : decode cX12_isPeriod 30 = .ok (.iadd, 1) := by decide +kernel
theorem dX12_isPeriod_31 : decode cX12_isPeriod 31 = .ok (.iaload, 1) := by decide +kernel
theorem dX12_isPeriod_32 : decode cX12_isPeriod 32 = .ok (.aload_n 0, 1) := by decide +kernel
theorem dX12_isPeriod_33 : decode cX12_isPeriod 33 = .ok (.getfield 34, 3) := by decide +kernel
theorem dX12_isPeriod_36 : decode cX12_isPeriod 36 = .ok (.bipush 30, 2) := by decide +kernel
theorem dX12_isPeriod_38 : decode cX12_isPeriod 38 = .ok (.iload_n 1, 1) := by decide +kernel
theorem dX12_isPeriod_39 : decode cX12_isPeriod 39 = .ok (.imul, 1) := by decide +kernel
theorem dX12_isPeriod_40 : decode cX12_isPeriod 40 = .ok (.iload 4, 2) := by decide +kernel
theorem dX12_isPeriod_42 : decode cX12_isPeriod 42 = .ok (.iadd, 1) := by decide +kernel
theorem dX12_isPeriod_43 : decode cX12_isPeriod 43 = .ok (.iload_n 2, 1) := by decide +kernel
theorem dX12_isPeriod_44 : decode cX12_isPeriod 44 = .ok (.isub, 1) := by decide +kernel
theorem dX12_isPeriod_45 : decode cX12_isPeriod 45 = .ok (.iaload, 1) := by decide +kernel
theorem dX12_isPeriod_46 : decode cX12_isPeriod 46 = .ok (.if_icmp .ne 7, 3) := by decide +kernel
theorem dX12_isPeriod_49 : decode cX12_isPeriod 49 = .ok (.iconst 1, 1) := by decide +kernel
theorem dX12_isPeriod_50 : decode cX12_isPeriod 50 = .ok (.goto 4, 3) := by decide +kernel
theorem dX12_isPeriod_53 : decode cX12_isPeriod 53 = .ok (.iconst 0, 1) := by decide +kernel
theorem dX12_isPeriod_54 : decode cX12_isPeriod 54 = .ok (.istore_n 3, 1) := by decide +kernel
theorem dX12_isPeriod_55 : decode cX12_isPeriod 55 = .ok (.iinc 4 1, 3) := by decide +kernel
theorem dX12_isPeriod_58 : decode cX12_isPeriod 58 = .ok (.goto (-53), 3) := by decide +kernel
theorem dX12_isPeriod_61 : decode cX12_isPeriod 61 = .ok (.iload_n 3, 1) := by decide +kernel
theorem dX12_isPeriod_62 : decode cX12_isPeriod 62 = .ok (.ireturn, 1) := by decide +kernel
theorem dX12_leastPeriod_0 : decode cX12_leastPeriod 0 = .ok (.aload_n 0, 1) := by decide +kernel
theorem dX12_leastPeriod_1 : decode cX12_leastPeriod 1 = .ok (.getfield 37, 3) := by decide +kernel
theorem dX12_leastPeriod_4 : decode cX12_leastPeriod 4 = .ok (.iload_n 1, 1) := by decide +kernel
theorem dX12_leastPeriod_5 : decode cX12_leastPeriod 5 = .ok (.iaload, 1) := by decide +kernel
theorem dX12_leastPeriod_6 : decode cX12_leastPeriod 6 = .ok (.ifCond .ne 7, 3) := by decide +kernel
theorem dX12_leastPeriod_9 : decode cX12_leastPeriod 9 = .ok (.iconst 0, 1) := by decide +kernel
theorem dX12_leastPeriod_10 : decode cX12_leastPeriod 10 = .ok (.goto 4, 3) := by decide +kernel
theorem dX12_leastPeriod_13 : decode cX12_leastPeriod 13 = .ok (.iconst 1, 1) := by decide +kernel
theorem dX12_leastPeriod_14 : decode cX12_leastPeriod 14 = .ok (.istore_n 3, 1) := by decide +kernel
theorem dX12_leastPeriod_15 : decode cX12_leastPeriod 15 = .ok (.iload_n 3, 1) := by decide +kernel
theorem dX12_leastPeriod_16 : decode cX12_leastPeriod 16 = .ok (.ifCond .le 33, 3) := by decide +kernel
theorem dX12_leastPeriod_19 : decode cX12_leastPeriod 19 = .ok (.aload_n 0, 1) := by decide +kernel
theorem dX12_leastPeriod_20 : decode cX12_leastPeriod 20 = .ok (.iload_n 1, 1) := by decide +kernel
theorem dX12_leastPeriod_21 : decode cX12_leastPeriod 21 = .ok (.iload_n 3, 1) := by decide +kernel
theorem dX12_leastPeriod_22 : decode cX12_leastPeriod 22 = .ok (.invokevirtual 291, 3) := by decide +kernel
theorem dX12_leastPeriod_25 : decode cX12_leastPeriod 25 = .ok (.ifCond .eq 18, 3) := by decide +kernel
theorem dX12_leastPeriod_28 : decode cX12_leastPeriod 28 = .ok (.iload_n 2, 1) := by decide +kernel
theorem dX12_leastPeriod_29 : decode cX12_leastPeriod 29 = .ok (.ifCond .eq 20, 3) := by decide +kernel
theorem dX12_leastPeriod_32 : decode cX12_leastPeriod 32 = .ok (.aload_n 0, 1) := by decide +kernel
theorem dX12_leastPeriod_33 : decode cX12_leastPeriod 33 = .ok (.getfield 37, 3) := by decide +kernel
theorem dX12_leastPeriod_36 : decode cX12_leastPeriod 36 = .ok (.iload_n 1, 1) := by decide +kernel
theorem dX12_leastPeriod_37 : decode cX12_leastPeriod 37 = .ok (.iaload, 1) := by decide +kernel
theorem dX12_leastPeriod_38 : decode cX12_leastPeriod 38 = .ok (.iload_n 3, 1) := by decide +kernel
theorem dX12_leastPeriod_39 : decode cX12_leastPeriod 39 = .ok (.irem, 1) := by decide +kernel
theorem dX12_leastPeriod_40 : decode cX12_leastPeriod 40 = .ok (.ifCond .eq 9, 3) := by decide +kernel
theorem dX12_leastPeriod_43 : decode cX12_leastPeriod 43 = .ok (.iinc 3 1, 3) := by decide +kernel
theorem dX12_leastPeriod_46 : decode cX12_leastPeriod 46 = .ok (.goto (-31), 3) := by decide +kernel
theorem dX12_leastPeriod_49 : decode cX12_leastPeriod 49 = .ok (.iload_n 3, 1) := by decide +kernel
theorem dX12_leastPeriod_50 : decode cX12_leastPeriod 50 = .ok (.ireturn, 1) := by decide +kernel
theorem dX12_turnAt_0 : decode cX12_turnAt 0 = .ok (.aload_n 0, 1) := by decide +kernel
theorem dX12_turnAt_1 : decode cX12_turnAt 1 = .ok (.getfield 34, 3) := by decide +kernel
theorem dX12_turnAt_4 : decode cX12_turnAt 4 = .ok (.bipush 30, 2) := by decide +kernel
theorem dX12_turnAt_6 : decode cX12_turnAt 6 = .ok (.iload_n 1, 1) := by decide +kernel
theorem dX12_turnAt_7 : decode cX12_turnAt 7 = .ok (.imul, 1) := by decide +kernel
theorem dX12_turnAt_8 : decode cX12_turnAt 8 = .ok (.iload_n 2, 1) := by decide +kernel
theorem dX12_turnAt_9 : decode cX12_turnAt 9 = .ok (.iload_n 3, 1) := by decide +kernel
theorem dX12_turnAt_10 : decode cX12_turnAt 10 = .ok (.iadd, 1) := by decide +kernel
theorem dX12_turnAt_11 : decode cX12_turnAt 11 = .ok (.aload_n 0, 1) := by decide +kernel
theorem dX12_turnAt_12 : decode cX12_turnAt 12 = .ok (.getfield 37, 3) := by decide +kernel
theorem dX12_turnAt_15 : decode cX12_turnAt 15 = .ok (.iload_n 1, 1) := by decide +kernel
theorem dX12_turnAt_16 : decode cX12_turnAt 16 = .ok (.iaload, 1) := by decide +kernel
theorem dX12_turnAt_17 : decode cX12_turnAt 17 = .ok (.irem, 1) := by decide +kernel
theorem dX12_turnAt_18 : decode cX12_turnAt 18 = .ok (.iadd, 1) := by decide +kernel
theorem dX12_turnAt_19 : decode cX12_turnAt 19 = .ok (.iaload, 1) := by decide +kernel
theorem dX12_turnAt_20 : decode cX12_turnAt 20 = .ok (.ireturn, 1) := by decide +kernel
theorem dX12_leastTurn_0 : decode cX12_leastTurn 0 = .ok (.iconst 0, 1) := by decide +kernel
theorem dX12_leastTurn_1 : decode cX12_leastTurn 1 = .ok (.istore_n 2, 1) := by decide +kernel
theorem dX12_leastTurn_2 : decode cX12_leastTurn 2 = .ok (.iconst 1, 1) := by decide +kernel
theorem dX12_leastTurn_3 : decode cX12_leastTurn 3 = .ok (.istore_n 3, 1) := by decide +kernel
theorem dX12_leastTurn_4 : decode cX12_leastTurn 4 = .ok (.iload_n 3, 1) := by decide +kernel
theorem dX12_leastTurn_5 : decode cX12_leastTurn 5 = .ok (.aload_n 0, 1) := by decide +kernel
theorem dX12_leastTurn_6 : decode cX12_leastTurn 6 = .ok (.getfield 37, 3) := by decide +kernel
theorem dX12_leastTurn_9 : decode cX12_leastTurn 9 = .ok (.iload_n 1, 1) := by decide +kernel
theorem dX12_leastTurn_10 : decode cX12_leastTurn 10 = .ok (.iaload, 1) := by decide +kernel
theorem dX12_leastTurn_11 : decode cX12_leastTurn 11 = .ok (.if_icmp .ge 84, 3) := by decide +kernel
theorem dX12_leastTurn_14 : decode cX12_leastTurn 14 = .ok (.iconst 0, 1) := by decide +kernel
theorem dX12_leastTurn_15 : decode cX12_leastTurn 15 = .ok (.istore 4, 2) := by decide +kernel
theorem dX12_leastTurn_17 : decode cX12_leastTurn 17 = .ok (.iload 4, 2) := by decide +kernel
theorem dX12_leastTurn_19 : decode cX12_leastTurn 19 = .ok (.aload_n 0, 1) := by decide +kernel
theorem dX12_leastTurn_20 : decode cX12_leastTurn 20 = .ok (.getfield 37, 3) := by decide +kernel
theorem dX12_leastTurn_23 : decode cX12_leastTurn 23 = .ok (.iload_n 1, 1) := by decide +kernel
theorem dX12_leastTurn_24 : decode cX12_leastTurn 24 = .ok (.iaload, 1) := by decide +kernel
theorem dX12_leastTurn_25 : decode cX12_leastTurn 25 = .ok (.if_icmp .ge 28, 3) := by decide +kernel
theorem dX12_leastTurn_28 : decode cX12_leastTurn 28 = .ok (.aload_n 0, 1) := by decide +kernel
theorem dX12_leastTurn_29 : decode cX12_leastTurn 29 = .ok (.iload_n 1, 1) := by decide +kernel
theorem dX12_leastTurn_30 : decode cX12_leastTurn 30 = .ok (.iload_n 3, 1) := by decide +kernel
theorem dX12_leastTurn_31 : decode cX12_leastTurn 31 = .ok (.iload 4, 2) := by decide +kernel
theorem dX12_leastTurn_33 : decode cX12_leastTurn 33 = .ok (.invokevirtual 294, 3) := by decide +kernel
theorem dX12_leastTurn_36 : decode cX12_leastTurn 36 = .ok (.aload_n 0, 1) := by decide +kernel
theorem dX12_leastTurn_37 : decode cX12_leastTurn 37 = .ok (.iload_n 1, 1) := by decide +kernel
theorem dX12_leastTurn_38 : decode cX12_leastTurn 38 = .ok (.iload_n 2, 1) := by decide +kernel
theorem dX12_leastTurn_39 : decode cX12_leastTurn 39 = .ok (.iload 4, 2) := by decide +kernel
theorem dX12_leastTurn_41 : decode cX12_leastTurn 41 = .ok (.invokevirtual 294, 3) := by decide +kernel
theorem dX12_leastTurn_44 : decode cX12_leastTurn 44 = .ok (.if_icmp .ne 9, 3) := by decide +kernel
theorem dX12_leastTurn_47 : decode cX12_leastTurn 47 = .ok (.iinc 4 1, 3) := by decide +kernel
theorem dX12_leastTurn_50 : decode cX12_leastTurn 50 = .ok (.goto (-33), 3) := by decide +kernel
theorem dX12_leastTurn_53 : decode cX12_leastTurn 53 = .ok (.iload 4, 2) := by decide +kernel
theorem dX12_leastTurn_55 : decode cX12_leastTurn 55 = .ok (.aload_n 0, 1) := by decide +kernel
theorem dX12_leastTurn_56 : decode cX12_leastTurn 56 = .ok (.getfield 37, 3) := by decide +kernel
theorem dX12_leastTurn_59 : decode cX12_leastTurn 59 = .ok (.iload_n 1, 1) := by decide +kernel
theorem dX12_leastTurn_60 : decode cX12_leastTurn 60 = .ok (.iaload, 1) := by decide +kernel
theorem dX12_leastTurn_61 : decode cX12_leastTurn 61 = .ok (.if_icmp .ge 26, 3) := by decide +kernel
theorem dX12_leastTurn_64 : decode cX12_leastTurn 64 = .ok (.aload_n 0, 1) := by decide +kernel
theorem dX12_leastTurn_65 : decode cX12_leastTurn 65 = .ok (.iload_n 1, 1) := by decide +kernel
theorem dX12_leastTurn_66 : decode cX12_leastTurn 66 = .ok (.iload_n 3, 1) := by decide +kernel
theorem dX12_leastTurn_67 : decode cX12_leastTurn 67 = .ok (.iload 4, 2) := by decide +kernel
theorem dX12_leastTurn_69 : decode cX12_leastTurn 69 = .ok (.invokevirtual 294, 3) := by decide +kernel
theorem dX12_leastTurn_72 : decode cX12_leastTurn 72 = .ok (.aload_n 0, 1) := by decide +kernel
theorem dX12_leastTurn_73 : decode cX12_leastTurn 73 = .ok (.iload_n 1, 1) := by decide +kernel
theorem dX12_leastTurn_74 : decode cX12_leastTurn 74 = .ok (.iload_n 2, 1) := by decide +kernel
theorem dX12_leastTurn_75 : decode cX12_leastTurn 75 = .ok (.iload 4, 2) := by decide +kernel
theorem dX12_leastTurn_77 : decode cX12_leastTurn 77 = .ok (.invokevirtual 294, 3) := by decide +kernel
theorem dX12_leastTurn_80 : decode cX12_leastTurn 80 = .ok (.if_icmp .ge 7, 3) := by decide +kernel
theorem dX12_leastTurn_83 : decode cX12_leastTurn 83 = .ok (.iload_n 3, 1) := by decide +kernel
theorem dX12_leastTurn_84 : decode cX12_leastTurn 84 = .ok (.goto 4, 3) := by decide +kernel
theorem dX12_leastTurn_87 : decode cX12_leastTurn 87 = .ok (.iload_n 2, 1) := by decide +kernel
theorem dX12_leastTurn_88 : decode cX12_leastTurn 88 = .ok (.istore_n 2, 1) := by decide +kernel
theorem dX12_leastTurn_89 : decode cX12_leastTurn 89 = .ok (.iinc 3 1, 3) := by decide +kernel
theorem dX12_leastTurn_92 : decode cX12_leastTurn 92 = .ok (.goto (-88), 3) := by decide +kernel
theorem dX12_leastTurn_95 : decode cX12_leastTurn 95 = .ok (.iload_n 2, 1) := by decide +kernel
theorem dX12_leastTurn_96 : decode cX12_leastTurn 96 = .ok (.ireturn, 1) := by decide +kernel
theorem dX12_partFrom_0 : decode cX12_partFrom 0 = .ok (.iconst 1, 1) := by decide +kernel
theorem dX12_partFrom_1 : decode cX12_partFrom 1 = .ok (.istore_n 3, 1) := by decide +kernel
theorem dX12_partFrom_2 : decode cX12_partFrom 2 = .ok (.iconst 2, 1) := by decide +kernel
theorem dX12_partFrom_3 : decode cX12_partFrom 3 = .ok (.istore 4, 2) := by decide +kernel
theorem dX12_partFrom_5 : decode cX12_partFrom 5 = .ok (.iload_n 2, 1) := by decide +kernel
theorem dX12_partFrom_6 : decode cX12_partFrom 6 = .ok (.iload 4, 2) := by decide +kernel
theorem dX12_partFrom_8 : decode cX12_partFrom 8 = .ok (.iadd, 1) := by decide +kernel
theorem dX12_partFrom_9 : decode cX12_partFrom 9 = .ok (.aload_n 0, 1) := by decide +kernel
theorem dX12_partFrom_10 : decode cX12_partFrom 10 = .ok (.getfield 37, 3) := by decide +kernel
theorem dX12_partFrom_13 : decode cX12_partFrom 13 = .ok (.iload_n 1, 1) := by decide +kernel
theorem dX12_partFrom_14 : decode cX12_partFrom 14 = .ok (.iaload, 1) := by decide +kernel
theorem dX12_partFrom_15 : decode cX12_partFrom 15 = .ok (.if_icmp .gt 59, 3) := by decide +kernel
theorem dX12_partFrom_18 : decode cX12_partFrom 18 = .ok (.iconst 1, 1) := by decide +kernel
theorem dX12_partFrom_19 : decode cX12_partFrom 19 = .ok (.istore 5, 2) := by decide +kernel
theorem dX12_partFrom_21 : decode cX12_partFrom 21 = .ok (.iconst 1, 1) := by decide +kernel
theorem dX12_partFrom_22 : decode cX12_partFrom 22 = .ok (.istore 6, 2) := by decide +kernel
theorem dX12_partFrom_24 : decode cX12_partFrom 24 = .ok (.iload 5, 2) := by decide +kernel
theorem dX12_partFrom_26 : decode cX12_partFrom 26 = .ok (.ifCond .eq 30, 3) := by decide +kernel
theorem dX12_partFrom_29 : decode cX12_partFrom 29 = .ok (.iload 6, 2) := by decide +kernel
theorem dX12_partFrom_31 : decode cX12_partFrom 31 = .ok (.iload 4, 2) := by decide +kernel
theorem dX12_partFrom_33 : decode cX12_partFrom 33 = .ok (.if_icmp .ge 23, 3) := by decide +kernel
theorem dX12_partFrom_36 : decode cX12_partFrom 36 = .ok (.aload_n 0, 1) := by decide +kernel
theorem dX12_partFrom_37 : decode cX12_partFrom 37 = .ok (.iload_n 1, 1) := by decide +kernel
theorem dX12_partFrom_38 : decode cX12_partFrom 38 = .ok (.iload_n 2, 1) := by decide +kernel
theorem dX12_partFrom_39 : decode cX12_partFrom 39 = .ok (.iload 4, 2) := by decide +kernel
theorem dX12_partFrom_41 : decode cX12_partFrom 41 = .ok (.iload_n 2, 1) := by decide +kernel
theorem dX12_partFrom_42 : decode cX12_partFrom 42 = .ok (.iload 6, 2) := by decide +kernel
theorem dX12_partFrom_44 : decode cX12_partFrom 44 = .ok (.iadd, 1) := by decide +kernel
theorem dX12_partFrom_45 : decode cX12_partFrom 45 = .ok (.invokevirtual 298, 3) := by decide +kernel
theorem dX12_partFrom_48 : decode cX12_partFrom 48 = .ok (.istore 5, 2) := by decide +kernel
theorem dX12_partFrom_50 : decode cX12_partFrom 50 = .ok (.iinc 6 1, 3) := by decide +kernel
theorem dX12_partFrom_53 : decode cX12_partFrom 53 = .ok (.goto (-29), 3) := by decide +kernel
theorem dX12_partFrom_56 : decode cX12_partFrom 56 = .ok (.iload 5, 2) := by decide +kernel
theorem dX12_partFrom_58 : decode cX12_partFrom 58 = .ok (.ifCond .eq 8, 3) := by decide +kernel
theorem dX12_partFrom_61 : decode cX12_partFrom 61 = .ok (.iload 4, 2) := by decide +kernel
theorem dX12_partFrom_63 : decode cX12_partFrom 63 = .ok (.goto 4, 3) := by decide +kernel
theorem dX12_partFrom_66 : decode cX12_partFrom 66 = .ok (.iload_n 3, 1) := by decide +kernel
theorem dX12_partFrom_67 : decode cX12_partFrom 67 = .ok (.istore_n 3, 1) := by decide +kernel
theorem dX12_partFrom_68 : decode cX12_partFrom 68 = .ok (.iinc 4 1, 3) := by decide +kernel
theorem dX12_partFrom_71 : decode cX12_partFrom 71 = .ok (.goto (-66), 3) := by decide +kernel
theorem dX12_partFrom_74 : decode cX12_partFrom 74 = .ok (.iload_n 3, 1) := by decide +kernel
theorem dX12_partFrom_75 : decode cX12_partFrom 75 = .ok (.ireturn, 1) := by decide +kernel
theorem dX12_isAheadOf_0 : decode cX12_isAheadOf 0 = .ok (.iconst 0, 1) := by decide +kernel
theorem dX12_isAheadOf_1 : decode cX12_isAheadOf 1 = .ok (.istore 5, 2) := by decide +kernel
theorem dX12_isAheadOf_3 : decode cX12_isAheadOf 3 = .ok (.iload 4, 2) := by decide +kernel
theorem dX12_isAheadOf_5 : decode cX12_isAheadOf 5 = .ok (.iload 5, 2) := by decide +kernel
theorem dX12_isAheadOf_7 : decode cX12_isAheadOf 7 = .ok (.iadd, 1) := by decide +kernel
theorem dX12_isAheadOf_8 : decode cX12_isAheadOf 8 = .ok (.iload_n 2, 1) := by decide +kernel
theorem dX12_isAheadOf_9 : decode cX12_isAheadOf 9 = .ok (.iload_n 3, 1) := by decide +kernel
theorem dX12_isAheadOf_10 : decode cX12_isAheadOf 10 = .ok (.iadd, 1) := by decide +kernel
theorem dX12_isAheadOf_11 : decode cX12_isAheadOf 11 = .ok (.if_icmp .ge 41, 3) := by decide +kernel
theorem dX12_isAheadOf_14 : decode cX12_isAheadOf 14 = .ok (.aload_n 0, 1) := by decide +kernel
theorem dX12_isAheadOf_15 : decode cX12_isAheadOf 15 = .ok (.getfield 34, 3) := by decide +kernel
theorem dX12_isAheadOf_18 : decode cX12_isAheadOf 18 = .ok (.bipush 30, 2) := by decide +kernel
theorem dX12_isAheadOf_20 : decode cX12_isAheadOf 20 = .ok (.iload_n 1, 1) := by decide +kernel
theorem dX12_isAheadOf_21 : decode cX12_isAheadOf 21 = .ok (.imul, 1) := by decide +kernel
theorem dX12_isAheadOf_22 : decode cX12_isAheadOf 22 = .ok (.iload_n 2, 1) := by decide +kernel
theorem dX12_isAheadOf_23 : decode cX12_isAheadOf 23 = .ok (.iadd, 1) := by decide +kernel
theorem dX12_isAheadOf_24 : decode cX12_isAheadOf 24 = .ok (.iload 5, 2) := by decide +kernel
theorem dX12_isAheadOf_26 : decode cX12_isAheadOf 26 = .ok (.iadd, 1) := by decide +kernel
theorem dX12_isAheadOf_27 : decode cX12_isAheadOf 27 = .ok (.iaload, 1) := by decide +kernel
theorem dX12_isAheadOf_28 : decode cX12_isAheadOf 28 = .ok (.aload_n 0, 1) := by decide +kernel
theorem dX12_isAheadOf_29 : decode cX12_isAheadOf 29 = .ok (.getfield 34, 3) := by decide +kernel
theorem dX12_isAheadOf_32 : decode cX12_isAheadOf 32 = .ok (.bipush 30, 2) := by decide +kernel
theorem dX12_isAheadOf_34 : decode cX12_isAheadOf 34 = .ok (.iload_n 1, 1) := by decide +kernel
theorem dX12_isAheadOf_35 : decode cX12_isAheadOf 35 = .ok (.imul, 1) := by decide +kernel
theorem dX12_isAheadOf_36 : decode cX12_isAheadOf 36 = .ok (.iload 4, 2) := by decide +kernel
theorem dX12_isAheadOf_38 : decode cX12_isAheadOf 38 = .ok (.iadd, 1) := by decide +kernel
theorem dX12_isAheadOf_39 : decode cX12_isAheadOf 39 = .ok (.iload 5, 2) := by decide +kernel
theorem dX12_isAheadOf_41 : decode cX12_isAheadOf 41 = .ok (.iadd, 1) := by decide +kernel
theorem dX12_isAheadOf_42 : decode cX12_isAheadOf 42 = .ok (.iaload, 1) := by decide +kernel
theorem dX12_isAheadOf_43 : decode cX12_isAheadOf 43 = .ok (.if_icmp .ne 9, 3) := by decide +kernel
theorem dX12_isAheadOf_46 : decode cX12_isAheadOf 46 = .ok (.iinc 5 1, 3) := by decide +kernel
theorem dX12_isAheadOf_49 : decode cX12_isAheadOf 49 = .ok (.goto (-46), 3) := by decide +kernel
theorem dX12_isAheadOf_52 : decode cX12_isAheadOf 52 = .ok (.iload 4, 2) := by decide +kernel
theorem dX12_isAheadOf_54 : decode cX12_isAheadOf 54 = .ok (.iload 5, 2) := by decide +kernel
theorem dX12_isAheadOf_56 : decode cX12_isAheadOf 56 = .ok (.iadd, 1) := by decide +kernel
theorem dX12_isAheadOf_57 : decode cX12_isAheadOf 57 = .ok (.iload_n 2, 1) := by decide +kernel
theorem dX12_isAheadOf_58 : decode cX12_isAheadOf 58 = .ok (.iload_n 3, 1) := by decide +kernel
theorem dX12_isAheadOf_59 : decode cX12_isAheadOf 59 = .ok (.iadd, 1) := by decide +kernel
theorem dX12_isAheadOf_60 : decode cX12_isAheadOf 60 = .ok (.if_icmp .ge 39, 3) := by decide +kernel
theorem dX12_isAheadOf_63 : decode cX12_isAheadOf 63 = .ok (.aload_n 0, 1) := by decide +kernel
theorem dX12_isAheadOf_64 : decode cX12_isAheadOf 64 = .ok (.getfield 34, 3) := by decide +kernel
theorem dX12_isAheadOf_67 : decode cX12_isAheadOf 67 = .ok (.bipush 30, 2) := by decide +kernel
theorem dX12_isAheadOf_69 : decode cX12_isAheadOf 69 = .ok (.iload_n 1, 1) := by decide +kernel
theorem dX12_isAheadOf_70 : decode cX12_isAheadOf 70 = .ok (.imul, 1) := by decide +kernel
theorem dX12_isAheadOf_71 : decode cX12_isAheadOf 71 = .ok (.iload_n 2, 1) := by decide +kernel
theorem dX12_isAheadOf_72 : decode cX12_isAheadOf 72 = .ok (.iadd, 1) := by decide +kernel
theorem dX12_isAheadOf_73 : decode cX12_isAheadOf 73 = .ok (.iload 5, 2) := by decide +kernel
theorem dX12_isAheadOf_75 : decode cX12_isAheadOf 75 = .ok (.iadd, 1) := by decide +kernel
theorem dX12_isAheadOf_76 : decode cX12_isAheadOf 76 = .ok (.iaload, 1) := by decide +kernel
theorem dX12_isAheadOf_77 : decode cX12_isAheadOf 77 = .ok (.aload_n 0, 1) := by decide +kernel
theorem dX12_isAheadOf_78 : decode cX12_isAheadOf 78 = .ok (.getfield 34, 3) := by decide +kernel
theorem dX12_isAheadOf_81 : decode cX12_isAheadOf 81 = .ok (.bipush 30, 2) := by decide +kernel
theorem dX12_isAheadOf_83 : decode cX12_isAheadOf 83 = .ok (.iload_n 1, 1) := by decide +kernel
theorem dX12_isAheadOf_84 : decode cX12_isAheadOf 84 = .ok (.imul, 1) := by decide +kernel
theorem dX12_isAheadOf_85 : decode cX12_isAheadOf 85 = .ok (.iload 4, 2) := by decide +kernel
theorem dX12_isAheadOf_87 : decode cX12_isAheadOf 87 = .ok (.iadd, 1) := by decide +kernel
theorem dX12_isAheadOf_88 : decode cX12_isAheadOf 88 = .ok (.iload 5, 2) := by decide +kernel
theorem dX12_isAheadOf_90 : decode cX12_isAheadOf 90 = .ok (.iadd, 1) := by decide +kernel
theorem dX12_isAheadOf_91 : decode cX12_isAheadOf 91 = .ok (.iaload, 1) := by decide +kernel
theorem dX12_isAheadOf_92 : decode cX12_isAheadOf 92 = .ok (.if_icmp .ge 7, 3) := by decide +kernel
theorem dX12_isAheadOf_95 : decode cX12_isAheadOf 95 = .ok (.iconst 1, 1) := by decide +kernel
theorem dX12_isAheadOf_96 : decode cX12_isAheadOf 96 = .ok (.goto 4, 3) := by decide +kernel
theorem dX12_isAheadOf_99 : decode cX12_isAheadOf 99 = .ok (.iconst 0, 1) := by decide +kernel
theorem dX12_isAheadOf_100 : decode cX12_isAheadOf 100 = .ok (.ireturn, 1) := by decide +kernel
theorem dX12_parts_0 : decode cX12_parts 0 = .ok (.iconst 0, 1) := by decide +kernel
theorem dX12_parts_1 : decode cX12_parts 1 = .ok (.istore_n 2, 1) := by decide +kernel
theorem dX12_parts_2 : decode cX12_parts 2 = .ok (.iconst 0, 1) := by decide +kernel
theorem dX12_parts_3 : decode cX12_parts 3 = .ok (.istore_n 3, 1) := by decide +kernel
theorem dX12_parts_4 : decode cX12_parts 4 = .ok (.iload_n 3, 1) := by decide +kernel
theorem dX12_parts_5 : decode cX12_parts 5 = .ok (.aload_n 0, 1) := by decide +kernel
theorem dX12_parts_6 : decode cX12_parts 6 = .ok (.getfield 37, 3) := by decide +kernel
theorem dX12_parts_9 : decode cX12_parts 9 = .ok (.iload_n 1, 1) := by decide +kernel
theorem dX12_parts_10 : decode cX12_parts 10 = .ok (.iaload, 1) := by decide +kernel
theorem dX12_parts_11 : decode cX12_parts 11 = .ok (.if_icmp .ge 18, 3) := by decide +kernel
theorem dX12_parts_14 : decode cX12_parts 14 = .ok (.iinc 2 1, 3) := by decide +kernel
theorem dX12_parts_17 : decode cX12_parts 17 = .ok (.iload_n 3, 1) := by decide +kernel
theorem dX12_parts_18 : decode cX12_parts 18 = .ok (.aload_n 0, 1) := by decide +kernel
theorem dX12_parts_19 : decode cX12_parts 19 = .ok (.iload_n 1, 1) := by decide +kernel
theorem dX12_parts_20 : decode cX12_parts 20 = .ok (.iload_n 3, 1) := by decide +kernel
theorem dX12_parts_21 : decode cX12_parts 21 = .ok (.invokevirtual 302, 3) := by decide +kernel
theorem dX12_parts_24 : decode cX12_parts 24 = .ok (.iadd, 1) := by decide +kernel
theorem dX12_parts_25 : decode cX12_parts 25 = .ok (.istore_n 3, 1) := by decide +kernel
theorem dX12_parts_26 : decode cX12_parts 26 = .ok (.goto (-22), 3) := by decide +kernel
theorem dX12_parts_29 : decode cX12_parts 29 = .ok (.iload_n 2, 1) := by decide +kernel
theorem dX12_parts_30 : decode cX12_parts 30 = .ok (.ireturn, 1) := by decide +kernel
theorem dX12_of_0 : decode cX12_of 0 = .ok (.iload_n 1, 1) := by decide +kernel
theorem dX12_of_1 : decode cX12_of 1 = .ok (.invokestatic 286, 3) := by decide +kernel
theorem dX12_of_4 : decode cX12_of 4 = .ok (.ifCond .ne 6, 3) := by decide +kernel
theorem dX12_of_7 : decode cX12_of 7 = .ok (.bipush (-2), 2) := by decide +kernel
theorem dX12_of_9 : decode cX12_of 9 = .ok (.ireturn, 1) := by decide +kernel
theorem dX12_of_10 : decode cX12_of 10 = .ok (.iload_n 2, 1) := by decide +kernel
theorem dX12_of_11 : decode cX12_of 11 = .ok (.tableswitch 130 0 6 #[41, 48, 55, 69, 75, 81, 88], 41) := by decide +kernel
theorem dX12_of_52 : decode cX12_of 52 = .ok (.aload_n 0, 1) := by decide +kernel
theorem dX12_of_53 : decode cX12_of 53 = .ok (.getfield 37, 3) := by decide +kernel
theorem dX12_of_56 : decode cX12_of 56 = .ok (.iload_n 1, 1) := by decide +kernel
theorem dX12_of_57 : decode cX12_of 57 = .ok (.iaload, 1) := by decide +kernel
theorem dX12_of_58 : decode cX12_of 58 = .ok (.ireturn, 1) := by decide +kernel
theorem dX12_of_59 : decode cX12_of 59 = .ok (.aload_n 0, 1) := by decide +kernel
theorem dX12_of_60 : decode cX12_of 60 = .ok (.iload_n 1, 1) := by decide +kernel
theorem dX12_of_61 : decode cX12_of 61 = .ok (.iconst 1, 1) := by decide +kernel
theorem dX12_of_62 : decode cX12_of 62 = .ok (.invokevirtual 305, 3) := by decide +kernel
theorem dX12_of_65 : decode cX12_of 65 = .ok (.ireturn, 1) := by decide +kernel
theorem dX12_of_66 : decode cX12_of 66 = .ok (.aload_n 0, 1) := by decide +kernel
theorem dX12_of_67 : decode cX12_of 67 = .ok (.getfield 37, 3) := by decide +kernel
theorem dX12_of_70 : decode cX12_of 70 = .ok (.iload_n 1, 1) := by decide +kernel
theorem dX12_of_71 : decode cX12_of 71 = .ok (.iaload, 1) := by decide +kernel
theorem dX12_of_72 : decode cX12_of 72 = .ok (.aload_n 0, 1) := by decide +kernel
theorem dX12_of_73 : decode cX12_of 73 = .ok (.iload_n 1, 1) := by decide +kernel
theorem dX12_of_74 : decode cX12_of 74 = .ok (.iconst 0, 1) := by decide +kernel
theorem dX12_of_75 : decode cX12_of 75 = .ok (.invokevirtual 305, 3) := by decide +kernel
theorem dX12_of_78 : decode cX12_of 78 = .ok (.isub, 1) := by decide +kernel
theorem dX12_of_79 : decode cX12_of 79 = .ok (.ireturn, 1) := by decide +kernel
theorem dX12_of_80 : decode cX12_of 80 = .ok (.aload_n 0, 1) := by decide +kernel
theorem dX12_of_81 : decode cX12_of 81 = .ok (.iload_n 1, 1) := by decide +kernel
theorem dX12_of_82 : decode cX12_of 82 = .ok (.invokevirtual 309, 3) := by decide +kernel
theorem dX12_of_85 : decode cX12_of 85 = .ok (.ireturn, 1) := by decide +kernel
theorem dX12_of_86 : decode cX12_of 86 = .ok (.aload_n 0, 1) := by decide +kernel
theorem dX12_of_87 : decode cX12_of 87 = .ok (.iload_n 1, 1) := by decide +kernel
theorem dX12_of_88 : decode cX12_of 88 = .ok (.invokevirtual 312, 3) := by decide +kernel
theorem dX12_of_91 : decode cX12_of 91 = .ok (.ireturn, 1) := by decide +kernel
theorem dX12_of_92 : decode cX12_of 92 = .ok (.aload_n 0, 1) := by decide +kernel
theorem dX12_of_93 : decode cX12_of 93 = .ok (.iload_n 1, 1) := by decide +kernel
theorem dX12_of_94 : decode cX12_of 94 = .ok (.iconst 0, 1) := by decide +kernel
theorem dX12_of_95 : decode cX12_of 95 = .ok (.invokevirtual 305, 3) := by decide +kernel
theorem dX12_of_98 : decode cX12_of 98 = .ok (.ireturn, 1) := by decide +kernel
theorem dX12_of_99 : decode cX12_of 99 = .ok (.iconst 0, 1) := by decide +kernel
theorem dX12_of_100 : decode cX12_of 100 = .ok (.istore_n 3, 1) := by decide +kernel
theorem dX12_of_101 : decode cX12_of 101 = .ok (.iconst 1, 1) := by decide +kernel
theorem dX12_of_102 : decode cX12_of 102 = .ok (.istore 4, 2) := by decide +kernel
theorem dX12_of_104 : decode cX12_of 104 = .ok (.iload 4, 2) := by decide +kernel
theorem dX12_of_106 : decode cX12_of 106 = .ok (.aload_n 0, 1) := by decide +kernel
theorem dX12_of_107 : decode cX12_of 107 = .ok (.getfield 37, 3) := by decide +kernel
theorem dX12_of_110 : decode cX12_of 110 = .ok (.iload_n 1, 1) := by decide +kernel
theorem dX12_of_111 : decode cX12_of 111 = .ok (.iaload, 1) := by decide +kernel
theorem dX12_of_112 : decode cX12_of 112 = .ok (.if_icmp .gt 27, 3) := by decide +kernel
theorem dX12_of_115 : decode cX12_of 115 = .ok (.iload_n 3, 1) := by decide +kernel
theorem dX12_of_116 : decode cX12_of 116 = .ok (.aload_n 0, 1) := by decide +kernel
theorem dX12_of_117 : decode cX12_of 117 = .ok (.iload_n 1, 1) := by decide +kernel
theorem dX12_of_118 : decode cX12_of 118 = .ok (.iload 4, 2) := by decide +kernel
theorem dX12_of_120 : decode cX12_of 120 = .ok (.invokevirtual 291, 3) := by decide +kernel
theorem dX12_of_123 : decode cX12_of 123 = .ok (.ifCond .eq 7, 3) := by decide +kernel
theorem dX12_of_126 : decode cX12_of 126 = .ok (.iconst 1, 1) := by decide +kernel
theorem dX12_of_127 : decode cX12_of 127 = .ok (.goto 4, 3) := by decide +kernel
theorem dX12_of_130 : decode cX12_of 130 = .ok (.iconst 0, 1) := by decide +kernel
theorem dX12_of_131 : decode cX12_of 131 = .ok (.iadd, 1) := by decide +kernel
theorem dX12_of_132 : decode cX12_of 132 = .ok (.istore_n 3, 1) := by decide +kernel
theorem dX12_of_133 : decode cX12_of 133 = .ok (.iinc 4 1, 3) := by decide +kernel
theorem dX12_of_136 : decode cX12_of 136 = .ok (.goto (-32), 3) := by decide +kernel
theorem dX12_of_139 : decode cX12_of 139 = .ok (.iload_n 3, 1) := by decide +kernel
theorem dX12_of_140 : decode cX12_of 140 = .ok (.ireturn, 1) := by decide +kernel
theorem dX12_of_141 : decode cX12_of 141 = .ok (.bipush (-3), 2) := by decide +kernel
theorem dX12_of_143 : decode cX12_of 143 = .ok (.ireturn, 1) := by decide +kernel
theorem dX12_part_0 : decode cX12_part 0 = .ok (.iload_n 1, 1) := by decide +kernel
theorem dX12_part_1 : decode cX12_part 1 = .ok (.invokestatic 286, 3) := by decide +kernel
theorem dX12_part_4 : decode cX12_part 4 = .ok (.ifCond .ne 6, 3) := by decide +kernel
theorem dX12_part_7 : decode cX12_part 7 = .ok (.bipush (-2), 2) := by decide +kernel
theorem dX12_part_9 : decode cX12_part 9 = .ok (.ireturn, 1) := by decide +kernel
theorem dX12_part_10 : decode cX12_part 10 = .ok (.iload_n 2, 1) := by decide +kernel
theorem dX12_part_11 : decode cX12_part 11 = .ok (.ifCond .ge 6, 3) := by decide +kernel
theorem dX12_part_14 : decode cX12_part 14 = .ok (.bipush (-3), 2) := by decide +kernel
theorem dX12_part_16 : decode cX12_part 16 = .ok (.ireturn, 1) := by decide +kernel
theorem dX12_part_17 : decode cX12_part 17 = .ok (.iconst 0, 1) := by decide +kernel
theorem dX12_part_18 : decode cX12_part 18 = .ok (.istore_n 3, 1) := by decide +kernel
theorem dX12_part_19 : decode cX12_part 19 = .ok (.iconst 0, 1) := by decide +kernel
theorem dX12_part_20 : decode cX12_part 20 = .ok (.istore 4, 2) := by decide +kernel
theorem dX12_part_22 : decode cX12_part 22 = .ok (.iload 4, 2) := by decide +kernel
theorem dX12_part_24 : decode cX12_part 24 = .ok (.aload_n 0, 1) := by decide +kernel
theorem dX12_part_25 : decode cX12_part 25 = .ok (.getfield 37, 3) := by decide +kernel
theorem dX12_part_28 : decode cX12_part 28 = .ok (.iload_n 1, 1) := by decide +kernel
theorem dX12_part_29 : decode cX12_part 29 = .ok (.iaload, 1) := by decide +kernel
theorem dX12_part_30 : decode cX12_part 30 = .ok (.if_icmp .ge 34, 3) := by decide +kernel
theorem dX12_part_33 : decode cX12_part 33 = .ok (.iload_n 3, 1) := by decide +kernel
theorem dX12_part_34 : decode cX12_part 34 = .ok (.iload_n 2, 1) := by decide +kernel
theorem dX12_part_35 : decode cX12_part 35 = .ok (.if_icmp .ne 11, 3) := by decide +kernel
theorem dX12_part_38 : decode cX12_part 38 = .ok (.aload_n 0, 1) := by decide +kernel
theorem dX12_part_39 : decode cX12_part 39 = .ok (.iload_n 1, 1) := by decide +kernel
theorem dX12_part_40 : decode cX12_part 40 = .ok (.iload 4, 2) := by decide +kernel
theorem dX12_part_42 : decode cX12_part 42 = .ok (.invokevirtual 302, 3) := by decide +kernel
theorem dX12_part_45 : decode cX12_part 45 = .ok (.ireturn, 1) := by decide +kernel
theorem dX12_part_46 : decode cX12_part 46 = .ok (.iinc 3 1, 3) := by decide +kernel
theorem dX12_part_49 : decode cX12_part 49 = .ok (.iload 4, 2) := by decide +kernel
theorem dX12_part_51 : decode cX12_part 51 = .ok (.aload_n 0, 1) := by decide +kernel
theorem dX12_part_52 : decode cX12_part 52 = .ok (.iload_n 1, 1) := by decide +kernel
theorem dX12_part_53 : decode cX12_part 53 = .ok (.iload 4, 2) := by decide +kernel
theorem dX12_part_55 : decode cX12_part 55 = .ok (.invokevirtual 302, 3) := by decide +kernel
theorem dX12_part_58 : decode cX12_part 58 = .ok (.iadd, 1) := by decide +kernel
theorem dX12_part_59 : decode cX12_part 59 = .ok (.istore 4, 2) := by decide +kernel
theorem dX12_part_61 : decode cX12_part 61 = .ok (.goto (-39), 3) := by decide +kernel
theorem dX12_part_64 : decode cX12_part 64 = .ok (.iconst (-1), 1) := by decide +kernel
theorem dX12_part_65 : decode cX12_part 65 = .ok (.ireturn, 1) := by decide +kernel
theorem dX12_behind_0 : decode cX12_behind 0 = .ok (.iload_n 3, 1) := by decide +kernel
theorem dX12_behind_1 : decode cX12_behind 1 = .ok (.aload_n 0, 1) := by decide +kernel
theorem dX12_behind_2 : decode cX12_behind 2 = .ok (.getfield 37, 3) := by decide +kernel
theorem dX12_behind_5 : decode cX12_behind 5 = .ok (.iload_n 1, 1) := by decide +kernel
theorem dX12_behind_6 : decode cX12_behind 6 = .ok (.iaload, 1) := by decide +kernel
theorem dX12_behind_7 : decode cX12_behind 7 = .ok (.if_icmp .ge 17, 3) := by decide +kernel
theorem dX12_behind_10 : decode cX12_behind 10 = .ok (.aload_n 0, 1) := by decide +kernel
theorem dX12_behind_11 : decode cX12_behind 11 = .ok (.getfield 34, 3) := by decide +kernel
theorem dX12_behind_14 : decode cX12_behind 14 = .ok (.bipush 30, 2) := by decide +kernel
theorem dX12_behind_16 : decode cX12_behind 16 = .ok (.iload_n 1, 1) := by decide +kernel
theorem dX12_behind_17 : decode cX12_behind 17 = .ok (.imul, 1) := by decide +kernel
theorem dX12_behind_18 : decode cX12_behind 18 = .ok (.iload_n 3, 1) := by decide +kernel
theorem dX12_behind_19 : decode cX12_behind 19 = .ok (.iadd, 1) := by decide +kernel
theorem dX12_behind_20 : decode cX12_behind 20 = .ok (.iaload, 1) := by decide +kernel
theorem dX12_behind_21 : decode cX12_behind 21 = .ok (.goto 21, 3) := by decide +kernel
theorem dX12_behind_24 : decode cX12_behind 24 = .ok (.aload_n 0, 1) := by decide +kernel
theorem dX12_behind_25 : decode cX12_behind 25 = .ok (.getfield 34, 3) := by decide +kernel
theorem dX12_behind_28 : decode cX12_behind 28 = .ok (.bipush 30, 2) := by decide +kernel
theorem dX12_behind_30 : decode cX12_behind 30 = .ok (.iload_n 2, 1) := by decide +kernel
theorem dX12_behind_31 : decode cX12_behind 31 = .ok (.imul, 1) := by decide +kernel
theorem dX12_behind_32 : decode cX12_behind 32 = .ok (.iload_n 3, 1) := by decide +kernel
theorem dX12_behind_33 : decode cX12_behind 33 = .ok (.iadd, 1) := by decide +kernel
theorem dX12_behind_34 : decode cX12_behind 34 = .ok (.aload_n 0, 1) := by decide +kernel
theorem dX12_behind_35 : decode cX12_behind 35 = .ok (.getfield 37, 3) := by decide +kernel
theorem dX12_behind_38 : decode cX12_behind 38 = .ok (.iload_n 1, 1) := by decide +kernel
theorem dX12_behind_39 : decode cX12_behind 39 = .ok (.iaload, 1) := by decide +kernel
theorem dX12_behind_40 : decode cX12_behind 40 = .ok (.isub, 1) := by decide +kernel
theorem dX12_behind_41 : decode cX12_behind 41 = .ok (.iaload, 1) := by decide +kernel
theorem dX12_behind_42 : decode cX12_behind 42 = .ok (.ireturn, 1) := by decide +kernel
theorem dX12_agree_0 : decode cX12_agree 0 = .ok (.iload_n 1, 1) := by decide +kernel
theorem dX12_agree_1 : decode cX12_agree 1 = .ok (.invokestatic 286, 3) := by decide +kernel
theorem dX12_agree_4 : decode cX12_agree 4 = .ok (.ifCond .eq 10, 3) := by decide +kernel
theorem dX12_agree_7 : decode cX12_agree 7 = .ok (.iload_n 2, 1) := by decide +kernel
theorem dX12_agree_8 : decode cX12_agree 8 = .ok (.invokestatic 286, 3) := by decide +kernel
theorem dX12_agree_11 : decode cX12_agree 11 = .ok (.ifCond .ne 6, 3) := by decide +kernel
theorem dX12_agree_14 : decode cX12_agree 14 = .ok (.bipush (-2), 2) := by decide +kernel
theorem dX12_agree_16 : decode cX12_agree 16 = .ok (.ireturn, 1) := by decide +kernel
theorem dX12_agree_17 : decode cX12_agree 17 = .ok (.iconst 1, 1) := by decide +kernel
theorem dX12_agree_18 : decode cX12_agree 18 = .ok (.istore_n 3, 1) := by decide +kernel
theorem dX12_agree_19 : decode cX12_agree 19 = .ok (.iconst 0, 1) := by decide +kernel
theorem dX12_agree_20 : decode cX12_agree 20 = .ok (.istore 4, 2) := by decide +kernel
theorem dX12_agree_22 : decode cX12_agree 22 = .ok (.iload 4, 2) := by decide +kernel
theorem dX12_agree_24 : decode cX12_agree 24 = .ok (.aload_n 0, 1) := by decide +kernel
theorem dX12_agree_25 : decode cX12_agree 25 = .ok (.getfield 37, 3) := by decide +kernel
theorem dX12_agree_28 : decode cX12_agree 28 = .ok (.iload_n 1, 1) := by decide +kernel
theorem dX12_agree_29 : decode cX12_agree 29 = .ok (.iaload, 1) := by decide +kernel
theorem dX12_agree_30 : decode cX12_agree 30 = .ok (.aload_n 0, 1) := by decide +kernel
theorem dX12_agree_31 : decode cX12_agree 31 = .ok (.getfield 37, 3) := by decide +kernel
theorem dX12_agree_34 : decode cX12_agree 34 = .ok (.iload_n 2, 1) := by decide +kernel
theorem dX12_agree_35 : decode cX12_agree 35 = .ok (.iaload, 1) := by decide +kernel
theorem dX12_agree_36 : decode cX12_agree 36 = .ok (.iadd, 1) := by decide +kernel
theorem dX12_agree_37 : decode cX12_agree 37 = .ok (.if_icmp .ge 38, 3) := by decide +kernel
theorem dX12_agree_40 : decode cX12_agree 40 = .ok (.iload_n 3, 1) := by decide +kernel
theorem dX12_agree_41 : decode cX12_agree 41 = .ok (.ifCond .eq 26, 3) := by decide +kernel
theorem dX12_agree_44 : decode cX12_agree 44 = .ok (.aload_n 0, 1) := by decide +kernel
theorem dX12_agree_45 : decode cX12_agree 45 = .ok (.iload_n 1, 1) := by decide +kernel
theorem dX12_agree_46 : decode cX12_agree 46 = .ok (.iload_n 2, 1) := by decide +kernel
theorem dX12_agree_47 : decode cX12_agree 47 = .ok (.iload 4, 2) := by decide +kernel
theorem dX12_agree_49 : decode cX12_agree 49 = .ok (.invokevirtual 315, 3) := by decide +kernel
theorem dX12_agree_52 : decode cX12_agree 52 = .ok (.aload_n 0, 1) := by decide +kernel
theorem dX12_agree_53 : decode cX12_agree 53 = .ok (.iload_n 2, 1) := by decide +kernel
theorem dX12_agree_54 : decode cX12_agree 54 = .ok (.iload_n 1, 1) := by decide +kernel
theorem dX12_agree_55 : decode cX12_agree 55 = .ok (.iload 4, 2) := by decide +kernel
theorem dX12_agree_57 : decode cX12_agree 57 = .ok (.invokevirtual 315, 3) := by decide +kernel
theorem dX12_agree_60 : decode cX12_agree 60 = .ok (.if_icmp .ne 7, 3) := by decide +kernel
theorem dX12_agree_63 : decode cX12_agree 63 = .ok (.iconst 1, 1) := by decide +kernel
theorem dX12_agree_64 : decode cX12_agree 64 = .ok (.goto 4, 3) := by decide +kernel
theorem dX12_agree_67 : decode cX12_agree 67 = .ok (.iconst 0, 1) := by decide +kernel
theorem dX12_agree_68 : decode cX12_agree 68 = .ok (.istore_n 3, 1) := by decide +kernel
theorem dX12_agree_69 : decode cX12_agree 69 = .ok (.iinc 4 1, 3) := by decide +kernel
theorem dX12_agree_72 : decode cX12_agree 72 = .ok (.goto (-50), 3) := by decide +kernel
theorem dX12_agree_75 : decode cX12_agree 75 = .ok (.iload_n 3, 1) := by decide +kernel
theorem dX12_agree_76 : decode cX12_agree 76 = .ok (.ifCond .eq 7, 3) := by decide +kernel
theorem dX12_agree_79 : decode cX12_agree 79 = .ok (.iconst 1, 1) := by decide +kernel
theorem dX12_agree_80 : decode cX12_agree 80 = .ok (.goto 4, 3) := by decide +kernel
theorem dX12_agree_83 : decode cX12_agree 83 = .ok (.iconst 0, 1) := by decide +kernel
theorem dX12_agree_84 : decode cX12_agree 84 = .ok (.ireturn, 1) := by decide +kernel
theorem dX12_turned_0 : decode cX12_turned 0 = .ok (.iload_n 1, 1) := by decide +kernel
theorem dX12_turned_1 : decode cX12_turned 1 = .ok (.invokestatic 286, 3) := by decide +kernel
theorem dX12_turned_4 : decode cX12_turned 4 = .ok (.ifCond .eq 10, 3) := by decide +kernel
theorem dX12_turned_7 : decode cX12_turned 7 = .ok (.iload_n 2, 1) := by decide +kernel
theorem dX12_turned_8 : decode cX12_turned 8 = .ok (.invokestatic 286, 3) := by decide +kernel
theorem dX12_turned_11 : decode cX12_turned 11 = .ok (.ifCond .ne 6, 3) := by decide +kernel
theorem dX12_turned_14 : decode cX12_turned 14 = .ok (.bipush (-2), 2) := by decide +kernel
theorem dX12_turned_16 : decode cX12_turned 16 = .ok (.ireturn, 1) := by decide +kernel
theorem dX12_turned_17 : decode cX12_turned 17 = .ok (.aload_n 0, 1) := by decide +kernel
theorem dX12_turned_18 : decode cX12_turned 18 = .ok (.getfield 37, 3) := by decide +kernel
theorem dX12_turned_21 : decode cX12_turned 21 = .ok (.iload_n 1, 1) := by decide +kernel
theorem dX12_turned_22 : decode cX12_turned 22 = .ok (.iaload, 1) := by decide +kernel
theorem dX12_turned_23 : decode cX12_turned 23 = .ok (.aload_n 0, 1) := by decide +kernel
theorem dX12_turned_24 : decode cX12_turned 24 = .ok (.getfield 37, 3) := by decide +kernel
theorem dX12_turned_27 : decode cX12_turned 27 = .ok (.iload_n 2, 1) := by decide +kernel
theorem dX12_turned_28 : decode cX12_turned 28 = .ok (.iaload, 1) := by decide +kernel
theorem dX12_turned_29 : decode cX12_turned 29 = .ok (.if_icmp .eq 5, 3) := by decide +kernel
theorem dX12_turned_32 : decode cX12_turned 32 = .ok (.iconst (-1), 1) := by decide +kernel
theorem dX12_turned_33 : decode cX12_turned 33 = .ok (.ireturn, 1) := by decide +kernel
theorem dX12_turned_34 : decode cX12_turned 34 = .ok (.aload_n 0, 1) := by decide +kernel
theorem dX12_turned_35 : decode cX12_turned 35 = .ok (.getfield 37, 3) := by decide +kernel
theorem dX12_turned_38 : decode cX12_turned 38 = .ok (.iload_n 1, 1) := by decide +kernel
theorem dX12_turned_39 : decode cX12_turned 39 = .ok (.iaload, 1) := by decide +kernel
theorem dX12_turned_40 : decode cX12_turned 40 = .ok (.ifCond .ne 5, 3) := by decide +kernel
theorem dX12_turned_43 : decode cX12_turned 43 = .ok (.iconst 0, 1) := by decide +kernel
theorem dX12_turned_44 : decode cX12_turned 44 = .ok (.ireturn, 1) := by decide +kernel
theorem dX12_turned_45 : decode cX12_turned 45 = .ok (.iconst 0, 1) := by decide +kernel
theorem dX12_turned_46 : decode cX12_turned 46 = .ok (.istore_n 3, 1) := by decide +kernel
theorem dX12_turned_47 : decode cX12_turned 47 = .ok (.iload_n 3, 1) := by decide +kernel
theorem dX12_turned_48 : decode cX12_turned 48 = .ok (.aload_n 0, 1) := by decide +kernel
theorem dX12_turned_49 : decode cX12_turned 49 = .ok (.getfield 37, 3) := by decide +kernel
theorem dX12_turned_52 : decode cX12_turned 52 = .ok (.iload_n 1, 1) := by decide +kernel
theorem dX12_turned_53 : decode cX12_turned 53 = .ok (.iaload, 1) := by decide +kernel
theorem dX12_turned_54 : decode cX12_turned 54 = .ok (.if_icmp .ge 74, 3) := by decide +kernel
theorem dX12_turned_57 : decode cX12_turned 57 = .ok (.iconst 1, 1) := by decide +kernel
theorem dX12_turned_58 : decode cX12_turned 58 = .ok (.istore 4, 2) := by decide +kernel
theorem dX12_turned_60 : decode cX12_turned 60 = .ok (.iconst 0, 1) := by decide +kernel
theorem dX12_turned_61 : decode cX12_turned 61 = .ok (.istore 5, 2) := by decide +kernel
theorem dX12_turned_63 : decode cX12_turned 63 = .ok (.iload 5, 2) := by decide +kernel
theorem dX12_turned_65 : decode cX12_turned 65 = .ok (.aload_n 0, 1) := by decide +kernel
theorem dX12_turned_66 : decode cX12_turned 66 = .ok (.getfield 37, 3) := by decide +kernel
theorem dX12_turned_69 : decode cX12_turned 69 = .ok (.iload_n 1, 1) := by decide +kernel
theorem dX12_turned_70 : decode cX12_turned 70 = .ok (.iaload, 1) := by decide +kernel
theorem dX12_turned_71 : decode cX12_turned 71 = .ok (.if_icmp .ge 44, 3) := by decide +kernel
theorem dX12_turned_74 : decode cX12_turned 74 = .ok (.iload 4, 2) := by decide +kernel
theorem dX12_turned_76 : decode cX12_turned 76 = .ok (.ifCond .eq 30, 3) := by decide +kernel
theorem dX12_turned_79 : decode cX12_turned 79 = .ok (.aload_n 0, 1) := by decide +kernel
theorem dX12_turned_80 : decode cX12_turned 80 = .ok (.iload_n 1, 1) := by decide +kernel
theorem dX12_turned_81 : decode cX12_turned 81 = .ok (.iload_n 3, 1) := by decide +kernel
theorem dX12_turned_82 : decode cX12_turned 82 = .ok (.iload 5, 2) := by decide +kernel
theorem dX12_turned_84 : decode cX12_turned 84 = .ok (.invokevirtual 294, 3) := by decide +kernel
theorem dX12_turned_87 : decode cX12_turned 87 = .ok (.aload_n 0, 1) := by decide +kernel
theorem dX12_turned_88 : decode cX12_turned 88 = .ok (.getfield 34, 3) := by decide +kernel
theorem dX12_turned_91 : decode cX12_turned 91 = .ok (.bipush 30, 2) := by decide +kernel
theorem dX12_turned_93 : decode cX12_turned 93 = .ok (.iload_n 2, 1) := by decide +kernel
theorem dX12_turned_94 : decode cX12_turned 94 = .ok (.imul, 1) := by decide +kernel
theorem dX12_turned_95 : decode cX12_turned 95 = .ok (.iload 5, 2) := by decide +kernel
theorem dX12_turned_97 : decode cX12_turned 97 = .ok (.iadd, 1) := by decide +kernel
theorem dX12_turned_98 : decode cX12_turned 98 = .ok (.iaload, 1) := by decide +kernel
theorem dX12_turned_99 : decode cX12_turned 99 = .ok (.if_icmp .ne 7, 3) := by decide +kernel
theorem dX12_turned_102 : decode cX12_turned 102 = .ok (.iconst 1, 1) := by decide +kernel
theorem dX12_turned_103 : decode cX12_turned 103 = .ok (.goto 4, 3) := by decide +kernel
theorem dX12_turned_106 : decode cX12_turned 106 = .ok (.iconst 0, 1) := by decide +kernel
theorem dX12_turned_107 : decode cX12_turned 107 = .ok (.istore 4, 2) := by decide +kernel
theorem dX12_turned_109 : decode cX12_turned 109 = .ok (.iinc 5 1, 3) := by decide +kernel
theorem dX12_turned_112 : decode cX12_turned 112 = .ok (.goto (-49), 3) := by decide +kernel
theorem dX12_turned_115 : decode cX12_turned 115 = .ok (.iload 4, 2) := by decide +kernel
theorem dX12_turned_117 : decode cX12_turned 117 = .ok (.ifCond .eq 5, 3) := by decide +kernel
theorem dX12_turned_120 : decode cX12_turned 120 = .ok (.iload_n 3, 1) := by decide +kernel
theorem dX12_turned_121 : decode cX12_turned 121 = .ok (.ireturn, 1) := by decide +kernel
theorem dX12_turned_122 : decode cX12_turned 122 = .ok (.iinc 3 1, 3) := by decide +kernel
theorem dX12_turned_125 : decode cX12_turned 125 = .ok (.goto (-78), 3) := by decide +kernel
theorem dX12_turned_128 : decode cX12_turned 128 = .ok (.iconst (-1), 1) := by decide +kernel
theorem dX12_turned_129 : decode cX12_turned 129 = .ok (.ireturn, 1) := by decide +kernel
theorem dX12_classes_0 : decode cX12_classes 0 = .ok (.iload_n 1, 1) := by decide +kernel
theorem dX12_classes_1 : decode cX12_classes 1 = .ok (.i2l, 1) := by decide +kernel
theorem dX12_classes_2 : decode cX12_classes 2 = .ok (.lconst 1, 1) := by decide +kernel
theorem dX12_classes_3 : decode cX12_classes 3 = .ok (.ldc2_w 318, 3) := by decide +kernel
theorem dX12_classes_6 : decode cX12_classes 6 = .ok (.invokestatic 131, 3) := by decide +kernel
theorem dX12_classes_9 : decode cX12_classes 9 = .ok (.ifCond .eq 43, 3) := by decide +kernel
theorem dX12_classes_12 : decode cX12_classes 12 = .ok (.iload_n 2, 1) := by decide +kernel
theorem dX12_classes_13 : decode cX12_classes 13 = .ok (.i2l, 1) := by decide +kernel
theorem dX12_classes_14 : decode cX12_classes 14 = .ok (.lconst 1, 1) := by decide +kernel
theorem dX12_classes_15 : decode cX12_classes 15 = .ok (.ldc2_w 318, 3) := by decide +kernel
theorem dX12_classes_18 : decode cX12_classes 18 = .ok (.invokestatic 131, 3) := by decide +kernel
theorem dX12_classes_21 : decode cX12_classes 21 = .ok (.ifCond .eq 31, 3) := by decide +kernel
theorem dX12_classes_24 : decode cX12_classes 24 = .ok (.iload_n 3, 1) := by decide +kernel
theorem dX12_classes_25 : decode cX12_classes 25 = .ok (.i2l, 1) := by decide +kernel
theorem dX12_classes_26 : decode cX12_classes 26 = .ok (.lconst 1, 1) := by decide +kernel
theorem dX12_classes_27 : decode cX12_classes 27 = .ok (.ldc2_w 318, 3) := by decide +kernel
theorem dX12_classes_30 : decode cX12_classes 30 = .ok (.invokestatic 131, 3) := by decide +kernel
theorem dX12_classes_33 : decode cX12_classes 33 = .ok (.ifCond .eq 19, 3) := by decide +kernel
theorem dX12_classes_36 : decode cX12_classes 36 = .ok (.iload 4, 2) := by decide +kernel
theorem dX12_classes_38 : decode cX12_classes 38 = .ok (.i2l, 1) := by decide +kernel
theorem dX12_classes_39 : decode cX12_classes 39 = .ok (.ldc2_w 320, 3) := by decide +kernel
theorem dX12_classes_42 : decode cX12_classes 42 = .ok (.iload_n 3, 1) := by decide +kernel
theorem dX12_classes_43 : decode cX12_classes 43 = .ok (.iconst 1, 1) := by decide +kernel
theorem dX12_classes_44 : decode cX12_classes 44 = .ok (.isub, 1) := by decide +kernel
theorem dX12_classes_45 : decode cX12_classes 45 = .ok (.i2l, 1) := by decide +kernel
theorem dX12_classes_46 : decode cX12_classes 46 = .ok (.invokestatic 131, 3) := by decide +kernel
theorem dX12_classes_49 : decode cX12_classes 49 = .ok (.ifCond .ne 6, 3) := by decide +kernel
theorem dX12_classes_52 : decode cX12_classes 52 = .ok (.bipush (-3), 2) := by decide +kernel
theorem dX12_classes_54 : decode cX12_classes 54 = .ok (.ireturn, 1) := by decide +kernel
theorem dX12_classes_55 : decode cX12_classes 55 = .ok (.iconst 0, 1) := by decide +kernel
theorem dX12_classes_56 : decode cX12_classes 56 = .ok (.istore 5, 2) := by decide +kernel
theorem dX12_classes_58 : decode cX12_classes 58 = .ok (.iload 5, 2) := by decide +kernel
theorem dX12_classes_60 : decode cX12_classes 60 = .ok (.iload_n 3, 1) := by decide +kernel
theorem dX12_classes_61 : decode cX12_classes 61 = .ok (.if_icmp .ge 18, 3) := by decide +kernel
theorem dX12_classes_64 : decode cX12_classes 64 = .ok (.aload_n 0, 1) := by decide +kernel
theorem dX12_classes_65 : decode cX12_classes 65 = .ok (.getfield 114, 3) := by decide +kernel
theorem dX12_classes_68 : decode cX12_classes 68 = .ok (.iload 5, 2) := by decide +kernel
theorem dX12_classes_70 : decode cX12_classes 70 = .ok (.iload 5, 2) := by decide +kernel
theorem dX12_classes_72 : decode cX12_classes 72 = .ok (.iastore, 1) := by decide +kernel
theorem dX12_classes_73 : decode cX12_classes 73 = .ok (.iinc 5 1, 3) := by decide +kernel
theorem dX12_classes_76 : decode cX12_classes 76 = .ok (.goto (-18), 3) := by decide +kernel
theorem dX12_classes_79 : decode cX12_classes 79 = .ok (.iconst 1, 1) := by decide +kernel
theorem dX12_classes_80 : decode cX12_classes 80 = .ok (.istore 5, 2) := by decide +kernel
theorem dX12_classes_82 : decode cX12_classes 82 = .ok (.iload 5, 2) := by decide +kernel
theorem dX12_classes_84 : decode cX12_classes 84 = .ok (.ifCond .eq 148, 3) := by decide +kernel
theorem dX12_classes_87 : decode cX12_classes 87 = .ok (.iconst 0, 1) := by decide +kernel
theorem dX12_classes_88 : decode cX12_classes 88 = .ok (.istore 5, 2) := by decide +kernel
theorem dX12_classes_90 : decode cX12_classes 90 = .ok (.iconst 0, 1) := by decide +kernel
theorem dX12_classes_91 : decode cX12_classes 91 = .ok (.istore 6, 2) := by decide +kernel
theorem dX12_classes_93 : decode cX12_classes 93 = .ok (.iload 6, 2) := by decide +kernel
theorem dX12_classes_95 : decode cX12_classes 95 = .ok (.iload_n 3, 1) := by decide +kernel
theorem dX12_classes_96 : decode cX12_classes 96 = .ok (.if_icmp .ge 133, 3) := by decide +kernel
theorem dX12_classes_99 : decode cX12_classes 99 = .ok (.aload_n 0, 1) := by decide +kernel
theorem dX12_classes_100 : decode cX12_classes 100 = .ok (.iload 6, 2) := by decide +kernel
theorem dX12_classes_102 : decode cX12_classes 102 = .ok (.iload 6, 2) := by decide +kernel
theorem dX12_classes_104 : decode cX12_classes 104 = .ok (.iload_n 1, 1) := by decide +kernel
theorem dX12_classes_105 : decode cX12_classes 105 = .ok (.isub, 1) := by decide +kernel
theorem dX12_classes_106 : decode cX12_classes 106 = .ok (.invokevirtual 322, 3) := by decide +kernel
theorem dX12_classes_109 : decode cX12_classes 109 = .ok (.ifCond .ne 8, 3) := by decide +kernel
theorem dX12_classes_112 : decode cX12_classes 112 = .ok (.iload 5, 2) := by decide +kernel
theorem dX12_classes_114 : decode cX12_classes 114 = .ok (.ifCond .eq 7, 3) := by decide +kernel
theorem dX12_classes_117 : decode cX12_classes 117 = .ok (.iconst 1, 1) := by decide +kernel
theorem dX12_classes_118 : decode cX12_classes 118 = .ok (.goto 4, 3) := by decide +kernel
theorem dX12_classes_121 : decode cX12_classes 121 = .ok (.iconst 0, 1) := by decide +kernel
theorem dX12_classes_122 : decode cX12_classes 122 = .ok (.istore 5, 2) := by decide +kernel
theorem dX12_classes_124 : decode cX12_classes 124 = .ok (.aload_n 0, 1) := by decide +kernel
theorem dX12_classes_125 : decode cX12_classes 125 = .ok (.iload 6, 2) := by decide +kernel
theorem dX12_classes_127 : decode cX12_classes 127 = .ok (.iload 6, 2) := by decide +kernel
theorem dX12_classes_129 : decode cX12_classes 129 = .ok (.iload_n 2, 1) := by decide +kernel
theorem dX12_classes_130 : decode cX12_classes 130 = .ok (.isub, 1) := by decide +kernel
theorem dX12_classes_131 : decode cX12_classes 131 = .ok (.invokevirtual 322, 3) := by decide +kernel
theorem dX12_classes_134 : decode cX12_classes 134 = .ok (.ifCond .ne 8, 3) := by decide +kernel
theorem dX12_classes_137 : decode cX12_classes 137 = .ok (.iload 5, 2) := by decide +kernel
theorem dX12_classes_139 : decode cX12_classes 139 = .ok (.ifCond .eq 7, 3) := by decide +kernel
theorem dX12_classes_142 : decode cX12_classes 142 = .ok (.iconst 1, 1) := by decide +kernel
theorem dX12_classes_143 : decode cX12_classes 143 = .ok (.goto 4, 3) := by decide +kernel
theorem dX12_classes_146 : decode cX12_classes 146 = .ok (.iconst 0, 1) := by decide +kernel
theorem dX12_classes_147 : decode cX12_classes 147 = .ok (.istore 5, 2) := by decide +kernel
theorem dX12_classes_149 : decode cX12_classes 149 = .ok (.aload_n 0, 1) := by decide +kernel
theorem dX12_classes_150 : decode cX12_classes 150 = .ok (.iload 6, 2) := by decide +kernel
theorem dX12_classes_152 : decode cX12_classes 152 = .ok (.iload 6, 2) := by decide +kernel
theorem dX12_classes_154 : decode cX12_classes 154 = .ok (.iload_n 1, 1) := by decide +kernel
theorem dX12_classes_155 : decode cX12_classes 155 = .ok (.iadd, 1) := by decide +kernel
theorem dX12_classes_156 : decode cX12_classes 156 = .ok (.iload_n 3, 1) := by decide +kernel
theorem dX12_classes_157 : decode cX12_classes 157 = .ok (.if_icmp .ge 10, 3) := by decide +kernel
theorem dX12_classes_160 : decode cX12_classes 160 = .ok (.iload 6, 2) := by decide +kernel
theorem dX12_classes_162 : decode cX12_classes 162 = .ok (.iload_n 1, 1) := by decide +kernel
theorem dX12_classes_163 : decode cX12_classes 163 = .ok (.iadd, 1) := by decide +kernel
theorem dX12_classes_164 : decode cX12_classes 164 = .ok (.goto 4, 3) := by decide +kernel
theorem dX12_classes_167 : decode cX12_classes 167 = .ok (.iconst (-1), 1) := by decide +kernel
theorem dX12_classes_168 : decode cX12_classes 168 = .ok (.invokevirtual 322, 3) := by decide +kernel
theorem dX12_classes_171 : decode cX12_classes 171 = .ok (.ifCond .ne 8, 3) := by decide +kernel
theorem dX12_classes_174 : decode cX12_classes 174 = .ok (.iload 5, 2) := by decide +kernel
theorem dX12_classes_176 : decode cX12_classes 176 = .ok (.ifCond .eq 7, 3) := by decide +kernel
theorem dX12_classes_179 : decode cX12_classes 179 = .ok (.iconst 1, 1) := by decide +kernel
theorem dX12_classes_180 : decode cX12_classes 180 = .ok (.goto 4, 3) := by decide +kernel
theorem dX12_classes_183 : decode cX12_classes 183 = .ok (.iconst 0, 1) := by decide +kernel
theorem dX12_classes_184 : decode cX12_classes 184 = .ok (.istore 5, 2) := by decide +kernel
theorem dX12_classes_186 : decode cX12_classes 186 = .ok (.aload_n 0, 1) := by decide +kernel
theorem dX12_classes_187 : decode cX12_classes 187 = .ok (.iload 6, 2) := by decide +kernel
theorem dX12_classes_189 : decode cX12_classes 189 = .ok (.iload 6, 2) := by decide +kernel
theorem dX12_classes_191 : decode cX12_classes 191 = .ok (.iload_n 2, 1) := by decide +kernel
theorem dX12_classes_192 : decode cX12_classes 192 = .ok (.iadd, 1) := by decide +kernel
theorem dX12_classes_193 : decode cX12_classes 193 = .ok (.iload_n 3, 1) := by decide +kernel
theorem dX12_classes_194 : decode cX12_classes 194 = .ok (.if_icmp .ge 10, 3) := by decide +kernel
theorem dX12_classes_197 : decode cX12_classes 197 = .ok (.iload 6, 2) := by decide +kernel
theorem dX12_classes_199 : decode cX12_classes 199 = .ok (.iload_n 2, 1) := by decide +kernel
theorem dX12_classes_200 : decode cX12_classes 200 = .ok (.iadd, 1) := by decide +kernel
theorem dX12_classes_201 : decode cX12_classes 201 = .ok (.goto 4, 3) := by decide +kernel
theorem dX12_classes_204 : decode cX12_classes 204 = .ok (.iconst (-1), 1) := by decide +kernel
theorem dX12_classes_205 : decode cX12_classes 205 = .ok (.invokevirtual 322, 3) := by decide +kernel
theorem dX12_classes_208 : decode cX12_classes 208 = .ok (.ifCond .ne 8, 3) := by decide +kernel
theorem dX12_classes_211 : decode cX12_classes 211 = .ok (.iload 5, 2) := by decide +kernel
theorem dX12_classes_213 : decode cX12_classes 213 = .ok (.ifCond .eq 7, 3) := by decide +kernel
theorem dX12_classes_216 : decode cX12_classes 216 = .ok (.iconst 1, 1) := by decide +kernel
theorem dX12_classes_217 : decode cX12_classes 217 = .ok (.goto 4, 3) := by decide +kernel
theorem dX12_classes_220 : decode cX12_classes 220 = .ok (.iconst 0, 1) := by decide +kernel
theorem dX12_classes_221 : decode cX12_classes 221 = .ok (.istore 5, 2) := by decide +kernel
theorem dX12_classes_223 : decode cX12_classes 223 = .ok (.iinc 6 1, 3) := by decide +kernel
theorem dX12_classes_226 : decode cX12_classes 226 = .ok (.goto (-133), 3) := by decide +kernel
theorem dX12_classes_229 : decode cX12_classes 229 = .ok (.goto (-147), 3) := by decide +kernel
theorem dX12_classes_232 : decode cX12_classes 232 = .ok (.iconst 0, 1) := by decide +kernel
theorem dX12_classes_233 : decode cX12_classes 233 = .ok (.istore 6, 2) := by decide +kernel
theorem dX12_classes_235 : decode cX12_classes 235 = .ok (.iconst 0, 1) := by decide +kernel
theorem dX12_classes_236 : decode cX12_classes 236 = .ok (.istore 7, 2) := by decide +kernel
theorem dX12_classes_238 : decode cX12_classes 238 = .ok (.iconst 0, 1) := by decide +kernel
theorem dX12_classes_239 : decode cX12_classes 239 = .ok (.istore 8, 2) := by decide +kernel
theorem dX12_classes_241 : decode cX12_classes 241 = .ok (.iload 8, 2) := by decide +kernel
theorem dX12_classes_243 : decode cX12_classes 243 = .ok (.iload_n 3, 1) := by decide +kernel
theorem dX12_classes_244 : decode cX12_classes 244 = .ok (.if_icmp .ge 57, 3) := by decide +kernel
theorem dX12_classes_247 : decode cX12_classes 247 = .ok (.iload 4, 2) := by decide +kernel
theorem dX12_classes_249 : decode cX12_classes 249 = .ok (.ifCond .lt 20, 3) := by decide +kernel
theorem dX12_classes_252 : decode cX12_classes 252 = .ok (.iload 8, 2) := by decide +kernel
theorem dX12_classes_254 : decode cX12_classes 254 = .ok (.aload_n 0, 1) := by decide +kernel
theorem dX12_classes_255 : decode cX12_classes 255 = .ok (.getfield 114, 3) := by decide +kernel
theorem dX12_classes_258 : decode cX12_classes 258 = .ok (.iload 4, 2) := by decide +kernel
theorem dX12_classes_260 : decode cX12_classes 260 = .ok (.iaload, 1) := by decide +kernel
theorem dX12_classes_261 : decode cX12_classes 261 = .ok (.if_icmp .ne 8, 3) := by decide +kernel
theorem dX12_classes_264 : decode cX12_classes 264 = .ok (.iload 6, 2) := by decide +kernel
theorem dX12_classes_266 : decode cX12_classes 266 = .ok (.goto 5, 3) := by decide +kernel
theorem dX12_classes_269 : decode cX12_classes 269 = .ok (.iload 7, 2) := by decide +kernel
theorem dX12_classes_271 : decode cX12_classes 271 = .ok (.istore 7, 2) := by decide +kernel
theorem dX12_classes_273 : decode cX12_classes 273 = .ok (.iload 6, 2) := by decide +kernel
theorem dX12_classes_275 : decode cX12_classes 275 = .ok (.aload_n 0, 1) := by decide +kernel
theorem dX12_classes_276 : decode cX12_classes 276 = .ok (.getfield 114, 3) := by decide +kernel
theorem dX12_classes_279 : decode cX12_classes 279 = .ok (.iload 8, 2) := by decide +kernel
theorem dX12_classes_281 : decode cX12_classes 281 = .ok (.iaload, 1) := by decide +kernel
theorem dX12_classes_282 : decode cX12_classes 282 = .ok (.iload 8, 2) := by decide +kernel
theorem dX12_classes_284 : decode cX12_classes 284 = .ok (.if_icmp .ne 7, 3) := by decide +kernel
theorem dX12_classes_287 : decode cX12_classes 287 = .ok (.iconst 1, 1) := by decide +kernel
theorem dX12_classes_288 : decode cX12_classes 288 = .ok (.goto 4, 3) := by decide +kernel
theorem dX12_classes_291 : decode cX12_classes 291 = .ok (.iconst 0, 1) := by decide +kernel
theorem dX12_classes_292 : decode cX12_classes 292 = .ok (.iadd, 1) := by decide +kernel
theorem dX12_classes_293 : decode cX12_classes 293 = .ok (.istore 6, 2) := by decide +kernel
theorem dX12_classes_295 : decode cX12_classes 295 = .ok (.iinc 8 1, 3) := by decide +kernel
theorem dX12_classes_298 : decode cX12_classes 298 = .ok (.goto (-57), 3) := by decide +kernel
theorem dX12_classes_301 : decode cX12_classes 301 = .ok (.iload 4, 2) := by decide +kernel
theorem dX12_classes_303 : decode cX12_classes 303 = .ok (.ifCond .ge 8, 3) := by decide +kernel
theorem dX12_classes_306 : decode cX12_classes 306 = .ok (.iload 6, 2) := by decide +kernel
theorem dX12_classes_308 : decode cX12_classes 308 = .ok (.goto 5, 3) := by decide +kernel
theorem dX12_classes_311 : decode cX12_classes 311 = .ok (.iload 7, 2) := by decide +kernel
theorem dX12_classes_313 : decode cX12_classes 313 = .ok (.ireturn, 1) := by decide +kernel
theorem dX12_lower_0 : decode cX12_lower 0 = .ok (.iload_n 2, 1) := by decide +kernel
theorem dX12_lower_1 : decode cX12_lower 1 = .ok (.ifCond .lt 18, 3) := by decide +kernel
theorem dX12_lower_4 : decode cX12_lower 4 = .ok (.aload_n 0, 1) := by decide +kernel
theorem dX12_lower_5 : decode cX12_lower 5 = .ok (.getfield 114, 3) := by decide +kernel
theorem dX12_lower_8 : decode cX12_lower 8 = .ok (.iload_n 2, 1) := by decide +kernel
theorem dX12_lower_9 : decode cX12_lower 9 = .ok (.iaload, 1) := by decide +kernel
theorem dX12_lower_10 : decode cX12_lower 10 = .ok (.aload_n 0, 1) := by decide +kernel
theorem dX12_lower_11 : decode cX12_lower 11 = .ok (.getfield 114, 3) := by decide +kernel
theorem dX12_lower_14 : decode cX12_lower 14 = .ok (.iload_n 1, 1) := by decide +kernel
theorem dX12_lower_15 : decode cX12_lower 15 = .ok (.iaload, 1) := by decide +kernel
theorem dX12_lower_16 : decode cX12_lower 16 = .ok (.if_icmp .lt 5, 3) := by decide +kernel
theorem dX12_lower_19 : decode cX12_lower 19 = .ok (.iconst 0, 1) := by decide +kernel
theorem dX12_lower_20 : decode cX12_lower 20 = .ok (.ireturn, 1) := by decide +kernel
theorem dX12_lower_21 : decode cX12_lower 21 = .ok (.aload_n 0, 1) := by decide +kernel
theorem dX12_lower_22 : decode cX12_lower 22 = .ok (.getfield 114, 3) := by decide +kernel
theorem dX12_lower_25 : decode cX12_lower 25 = .ok (.iload_n 1, 1) := by decide +kernel
theorem dX12_lower_26 : decode cX12_lower 26 = .ok (.aload_n 0, 1) := by decide +kernel
theorem dX12_lower_27 : decode cX12_lower 27 = .ok (.getfield 114, 3) := by decide +kernel
theorem dX12_lower_30 : decode cX12_lower 30 = .ok (.iload_n 2, 1) := by decide +kernel
theorem dX12_lower_31 : decode cX12_lower 31 = .ok (.iaload, 1) := by decide +kernel
theorem dX12_lower_32 : decode cX12_lower 32 = .ok (.iastore, 1) := by decide +kernel
theorem dX12_lower_33 : decode cX12_lower 33 = .ok (.iconst 1, 1) := by decide +kernel
theorem dX12_lower_34 : decode cX12_lower 34 = .ok (.ireturn, 1) := by decide +kernel
theorem dX12_isPattern_0 : decode cX12_isPattern 0 = .ok (.iload_n 0, 1) := by decide +kernel
theorem dX12_isPattern_1 : decode cX12_isPattern 1 = .ok (.i2l, 1) := by decide +kernel
theorem dX12_isPattern_2 : decode cX12_isPattern 2 = .ok (.lconst 0, 1) := by decide +kernel
theorem dX12_isPattern_3 : decode cX12_isPattern 3 = .ok (.ldc2_w 129, 3) := by decide +kernel
theorem dX12_isPattern_6 : decode cX12_isPattern 6 = .ok (.invokestatic 131, 3) := by decide +kernel
theorem dX12_isPattern_9 : decode cX12_isPattern 9 = .ok (.ireturn, 1) := by decide +kernel
theorem dX12_pattern_0 : decode cX12_pattern 0 = .ok (.iload_n 1, 1) := by decide +kernel
theorem dX12_pattern_1 : decode cX12_pattern 1 = .ok (.invokestatic 325, 3) := by decide +kernel
theorem dX12_pattern_4 : decode cX12_pattern 4 = .ok (.ifCond .ne 6, 3) := by decide +kernel
theorem dX12_pattern_7 : decode cX12_pattern 7 = .ok (.bipush (-2), 2) := by decide +kernel
theorem dX12_pattern_9 : decode cX12_pattern 9 = .ok (.ireturn, 1) := by decide +kernel
theorem dX12_pattern_10 : decode cX12_pattern 10 = .ok (.iconst 0, 1) := by decide +kernel
theorem dX12_pattern_11 : decode cX12_pattern 11 = .ok (.istore_n 2, 1) := by decide +kernel
theorem dX12_pattern_12 : decode cX12_pattern 12 = .ok (.iconst 0, 1) := by decide +kernel
theorem dX12_pattern_13 : decode cX12_pattern 13 = .ok (.istore_n 3, 1) := by decide +kernel
theorem dX12_pattern_14 : decode cX12_pattern 14 = .ok (.iload_n 3, 1) := by decide +kernel
theorem dX12_pattern_15 : decode cX12_pattern 15 = .ok (.aload_n 0, 1) := by decide +kernel
theorem dX12_pattern_16 : decode cX12_pattern 16 = .ok (.getfield 137, 3) := by decide +kernel
theorem dX12_pattern_19 : decode cX12_pattern 19 = .ok (.if_icmp .ge 69, 3) := by decide +kernel
theorem dX12_pattern_22 : decode cX12_pattern 22 = .ok (.aload_n 0, 1) := by decide +kernel
theorem dX12_pattern_23 : decode cX12_pattern 23 = .ok (.getfield 7, 3) := by decide +kernel
theorem dX12_pattern_26 : decode cX12_pattern 26 = .ok (.iload_n 3, 1) := by decide +kernel
theorem dX12_pattern_27 : decode cX12_pattern 27 = .ok (.iaload, 1) := by decide +kernel
theorem dX12_pattern_28 : decode cX12_pattern 28 = .ok (.invokestatic 143, 3) := by decide +kernel
theorem dX12_pattern_31 : decode cX12_pattern 31 = .ok (.istore 4, 2) := by decide +kernel
theorem dX12_pattern_33 : decode cX12_pattern 33 = .ok (.iload 4, 2) := by decide +kernel
theorem dX12_pattern_35 : decode cX12_pattern 35 = .ok (.iconst (-1), 1) := by decide +kernel
theorem dX12_pattern_36 : decode cX12_pattern 36 = .ok (.if_icmp .ne 14, 3) := by decide +kernel
theorem dX12_pattern_39 : decode cX12_pattern 39 = .ok (.aload_n 0, 1) := by decide +kernel
theorem dX12_pattern_40 : decode cX12_pattern 40 = .ok (.getfield 7, 3) := by decide +kernel
theorem dX12_pattern_43 : decode cX12_pattern 43 = .ok (.iload_n 3, 1) := by decide +kernel
theorem dX12_pattern_44 : decode cX12_pattern 44 = .ok (.iaload, 1) := by decide +kernel
theorem dX12_pattern_45 : decode cX12_pattern 45 = .ok (.bipush 32, 2) := by decide +kernel
theorem dX12_pattern_47 : decode cX12_pattern 47 = .ok (.if_icmp .ne 15, 3) := by decide +kernel
theorem dX12_pattern_50 : decode cX12_pattern 50 = .ok (.iload 4, 2) := by decide +kernel
theorem dX12_pattern_52 : decode cX12_pattern 52 = .ok (.iconst (-1), 1) := by decide +kernel
theorem dX12_pattern_53 : decode cX12_pattern 53 = .ok (.if_icmp .eq 12, 3) := by decide +kernel
theorem dX12_pattern_56 : decode cX12_pattern 56 = .ok (.iload_n 2, 1) := by decide +kernel
theorem dX12_pattern_57 : decode cX12_pattern 57 = .ok (.bipush 12, 2) := by decide +kernel
theorem dX12_pattern_59 : decode cX12_pattern 59 = .ok (.if_icmp .ne 6, 3) := by decide +kernel
theorem dX12_pattern_62 : decode cX12_pattern 62 = .ok (.bipush (-4), 2) := by decide +kernel
theorem dX12_pattern_64 : decode cX12_pattern 64 = .ok (.ireturn, 1) := by decide +kernel
theorem dX12_pattern_65 : decode cX12_pattern 65 = .ok (.iload 4, 2) := by decide +kernel
theorem dX12_pattern_67 : decode cX12_pattern 67 = .ok (.iconst (-1), 1) := by decide +kernel
theorem dX12_pattern_68 : decode cX12_pattern 68 = .ok (.if_icmp .eq 14, 3) := by decide +kernel
theorem dX12_pattern_71 : decode cX12_pattern 71 = .ok (.aload_n 0, 1) := by decide +kernel
theorem dX12_pattern_72 : decode cX12_pattern 72 = .ok (.getfield 52, 3) := by decide +kernel
theorem dX12_pattern_75 : decode cX12_pattern 75 = .ok (.iload_n 2, 1) := by decide +kernel
theorem dX12_pattern_76 : decode cX12_pattern 76 = .ok (.iload 4, 2) := by decide +kernel
theorem dX12_pattern_78 : decode cX12_pattern 78 = .ok (.iastore, 1) := by decide +kernel
theorem dX12_pattern_79 : decode cX12_pattern 79 = .ok (.iinc 2 1, 3) := by decide +kernel
theorem dX12_pattern_82 : decode cX12_pattern 82 = .ok (.iinc 3 1, 3) := by decide +kernel
theorem dX12_pattern_85 : decode cX12_pattern 85 = .ok (.goto (-71), 3) := by decide +kernel
theorem dX12_pattern_88 : decode cX12_pattern 88 = .ok (.iload_n 2, 1) := by decide +kernel
theorem dX12_pattern_89 : decode cX12_pattern 89 = .ok (.ifCond .ne 6, 3) := by decide +kernel
theorem dX12_pattern_92 : decode cX12_pattern 92 = .ok (.bipush (-4), 2) := by decide +kernel
theorem dX12_pattern_94 : decode cX12_pattern 94 = .ok (.ireturn, 1) := by decide +kernel
theorem dX12_pattern_95 : decode cX12_pattern 95 = .ok (.iconst 0, 1) := by decide +kernel
theorem dX12_pattern_96 : decode cX12_pattern 96 = .ok (.istore_n 3, 1) := by decide +kernel
theorem dX12_pattern_97 : decode cX12_pattern 97 = .ok (.iload_n 3, 1) := by decide +kernel
theorem dX12_pattern_98 : decode cX12_pattern 98 = .ok (.iload_n 2, 1) := by decide +kernel
theorem dX12_pattern_99 : decode cX12_pattern 99 = .ok (.if_icmp .ge 26, 3) := by decide +kernel
theorem dX12_pattern_102 : decode cX12_pattern 102 = .ok (.aload_n 0, 1) := by decide +kernel
theorem dX12_pattern_103 : decode cX12_pattern 103 = .ok (.getfield 40, 3) := by decide +kernel
theorem dX12_pattern_106 : decode cX12_pattern 106 = .ok (.bipush 12, 2) := by decide +kernel
theorem dX12_pattern_108 : decode cX12_pattern 108 = .ok (.iload_n 1, 1) := by decide +kernel
theorem dX12_pattern_109 : decode cX12_pattern 109 = .ok (.imul, 1) := by decide +kernel
theorem dX12_pattern_110 : decode cX12_pattern 110 = .ok (.iload_n 3, 1) := by decide +kernel
theorem dX12_pattern_111 : decode cX12_pattern 111 = .ok (.iadd, 1) := by decide +kernel
theorem dX12_pattern_112 : decode cX12_pattern 112 = .ok (.aload_n 0, 1) := by decide +kernel
theorem dX12_pattern_113 : decode cX12_pattern 113 = .ok (.getfield 52, 3) := by decide +kernel
theorem dX12_pattern_116 : decode cX12_pattern 116 = .ok (.iload_n 3, 1) := by decide +kernel
theorem dX12_pattern_117 : decode cX12_pattern 117 = .ok (.iaload, 1) := by decide +kernel
theorem dX12_pattern_118 : decode cX12_pattern 118 = .ok (.iastore, 1) := by decide +kernel
theorem dX12_pattern_119 : decode cX12_pattern 119 = .ok (.iinc 3 1, 3) := by decide +kernel
theorem dX12_pattern_122 : decode cX12_pattern 122 = .ok (.goto (-25), 3) := by decide +kernel
theorem dX12_pattern_125 : decode cX12_pattern 125 = .ok (.aload_n 0, 1) := by decide +kernel
theorem dX12_pattern_126 : decode cX12_pattern 126 = .ok (.getfield 43, 3) := by decide +kernel
theorem dX12_pattern_129 : decode cX12_pattern 129 = .ok (.iload_n 1, 1) := by decide +kernel
theorem dX12_pattern_130 : decode cX12_pattern 130 = .ok (.iload_n 2, 1) := by decide +kernel
theorem dX12_pattern_131 : decode cX12_pattern 131 = .ok (.iastore, 1) := by decide +kernel
theorem dX12_pattern_132 : decode cX12_pattern 132 = .ok (.aload_n 0, 1) := by decide +kernel
theorem dX12_pattern_133 : decode cX12_pattern 133 = .ok (.iconst 0, 1) := by decide +kernel
theorem dX12_pattern_134 : decode cX12_pattern 134 = .ok (.putfield 137, 3) := by decide +kernel
theorem dX12_pattern_137 : decode cX12_pattern 137 = .ok (.iload_n 2, 1) := by decide +kernel
theorem dX12_pattern_138 : decode cX12_pattern 138 = .ok (.ireturn, 1) := by decide +kernel
theorem dX12_isGoal_0 : decode cX12_isGoal 0 = .ok (.iconst 0, 1) := by decide +kernel
theorem dX12_isGoal_1 : decode cX12_isGoal 1 = .ok (.istore_n 1, 1) := by decide +kernel
theorem dX12_isGoal_2 : decode cX12_isGoal 2 = .ok (.iload_n 1, 1) := by decide +kernel
theorem dX12_isGoal_3 : decode cX12_isGoal 3 = .ok (.iconst 4, 1) := by decide +kernel
theorem dX12_isGoal_4 : decode cX12_isGoal 4 = .ok (.if_icmp .ge 16, 3) := by decide +kernel
theorem dX12_isGoal_7 : decode cX12_isGoal 7 = .ok (.aload_n 0, 1) := by decide +kernel
theorem dX12_isGoal_8 : decode cX12_isGoal 8 = .ok (.getfield 126, 3) := by decide +kernel
theorem dX12_isGoal_11 : decode cX12_isGoal 11 = .ok (.iload_n 1, 1) := by decide +kernel
theorem dX12_isGoal_12 : decode cX12_isGoal 12 = .ok (.iconst (-1), 1) := by decide +kernel
theorem dX12_isGoal_13 : decode cX12_isGoal 13 = .ok (.iastore, 1) := by decide +kernel
theorem dX12_isGoal_14 : decode cX12_isGoal 14 = .ok (.iinc 1 1, 3) := by decide +kernel
theorem dX12_isGoal_17 : decode cX12_isGoal 17 = .ok (.goto (-15), 3) := by decide +kernel
theorem dX12_isGoal_20 : decode cX12_isGoal 20 = .ok (.iconst 0, 1) := by decide +kernel
theorem dX12_isGoal_21 : decode cX12_isGoal 21 = .ok (.istore_n 1, 1) := by decide +kernel
theorem dX12_isGoal_22 : decode cX12_isGoal 22 = .ok (.iconst 1, 1) := by decide +kernel
theorem dX12_isGoal_23 : decode cX12_isGoal 23 = .ok (.istore_n 2, 1) := by decide +kernel
theorem dX12_isGoal_24 : decode cX12_isGoal 24 = .ok (.iconst 0, 1) := by decide +kernel
theorem dX12_isGoal_25 : decode cX12_isGoal 25 = .ok (.istore_n 3, 1) := by decide +kernel
theorem dX12_isGoal_26 : decode cX12_isGoal 26 = .ok (.iload_n 2, 1) := by decide +kernel
theorem dX12_isGoal_27 : decode cX12_isGoal 27 = .ok (.ifCond .eq 195, 3) := by decide +kernel
theorem dX12_isGoal_30 : decode cX12_isGoal 30 = .ok (.iload_n 3, 1) := by decide +kernel
theorem dX12_isGoal_31 : decode cX12_isGoal 31 = .ok (.aload_n 0, 1) := by decide +kernel
theorem dX12_isGoal_32 : decode cX12_isGoal 32 = .ok (.getfield 328, 3) := by decide +kernel
theorem dX12_isGoal_35 : decode cX12_isGoal 35 = .ok (.if_icmp .ge 187, 3) := by decide +kernel
theorem dX12_isGoal_38 : decode cX12_isGoal 38 = .ok (.aload_n 0, 1) := by decide +kernel
theorem dX12_isGoal_39 : decode cX12_isGoal 39 = .ok (.getfield 120, 3) := by decide +kernel
theorem dX12_isGoal_42 : decode cX12_isGoal 42 = .ok (.iload_n 3, 1) := by decide +kernel
theorem dX12_isGoal_43 : decode cX12_isGoal 43 = .ok (.iaload, 1) := by decide +kernel
theorem dX12_isGoal_44 : decode cX12_isGoal 44 = .ok (.istore 4, 2) := by decide +kernel
theorem dX12_isGoal_46 : decode cX12_isGoal 46 = .ok (.iload 4, 2) := by decide +kernel
theorem dX12_isGoal_48 : decode cX12_isGoal 48 = .ok (.iconst 4, 1) := by decide +kernel
theorem dX12_isGoal_49 : decode cX12_isGoal 49 = .ok (.if_icmp .ge 34, 3) := by decide +kernel
theorem dX12_isGoal_52 : decode cX12_isGoal 52 = .ok (.iload_n 1, 1) := by decide +kernel
theorem dX12_isGoal_53 : decode cX12_isGoal 53 = .ok (.aload_n 0, 1) := by decide +kernel
theorem dX12_isGoal_54 : decode cX12_isGoal 54 = .ok (.getfield 331, 3) := by decide +kernel
theorem dX12_isGoal_57 : decode cX12_isGoal 57 = .ok (.if_icmp .ge 18, 3) := by decide +kernel
theorem dX12_isGoal_60 : decode cX12_isGoal 60 = .ok (.aload_n 0, 1) := by decide +kernel
theorem dX12_isGoal_61 : decode cX12_isGoal 61 = .ok (.getfield 117, 3) := by decide +kernel
theorem dX12_isGoal_64 : decode cX12_isGoal 64 = .ok (.iload_n 1, 1) := by decide +kernel
theorem dX12_isGoal_65 : decode cX12_isGoal 65 = .ok (.iaload, 1) := by decide +kernel
theorem dX12_isGoal_66 : decode cX12_isGoal 66 = .ok (.iload 4, 2) := by decide +kernel
theorem dX12_isGoal_68 : decode cX12_isGoal 68 = .ok (.if_icmp .ne 7, 3) := by decide +kernel
theorem dX12_isGoal_71 : decode cX12_isGoal 71 = .ok (.iconst 1, 1) := by decide +kernel
theorem dX12_isGoal_72 : decode cX12_isGoal 72 = .ok (.goto 4, 3) := by decide +kernel
theorem dX12_isGoal_75 : decode cX12_isGoal 75 = .ok (.iconst 0, 1) := by decide +kernel
theorem dX12_isGoal_76 : decode cX12_isGoal 76 = .ok (.istore_n 2, 1) := by decide +kernel
theorem dX12_isGoal_77 : decode cX12_isGoal 77 = .ok (.iinc 1 1, 3) := by decide +kernel
theorem dX12_isGoal_80 : decode cX12_isGoal 80 = .ok (.goto 136, 3) := by decide +kernel
theorem dX12_isGoal_83 : decode cX12_isGoal 83 = .ok (.iload_n 1, 1) := by decide +kernel
theorem dX12_isGoal_84 : decode cX12_isGoal 84 = .ok (.aload_n 0, 1) := by decide +kernel
theorem dX12_isGoal_85 : decode cX12_isGoal 85 = .ok (.getfield 123, 3) := by decide +kernel
theorem dX12_isGoal_88 : decode cX12_isGoal 88 = .ok (.iload 4, 2) := by decide +kernel
theorem dX12_isGoal_90 : decode cX12_isGoal 90 = .ok (.iconst 4, 1) := by decide +kernel
theorem dX12_isGoal_91 : decode cX12_isGoal 91 = .ok (.isub, 1) := by decide +kernel
theorem dX12_isGoal_92 : decode cX12_isGoal 92 = .ok (.iaload, 1) := by decide +kernel
theorem dX12_isGoal_93 : decode cX12_isGoal 93 = .ok (.iadd, 1) := by decide +kernel
theorem dX12_isGoal_94 : decode cX12_isGoal 94 = .ok (.aload_n 0, 1) := by decide +kernel
theorem dX12_isGoal_95 : decode cX12_isGoal 95 = .ok (.getfield 331, 3) := by decide +kernel
theorem dX12_isGoal_98 : decode cX12_isGoal 98 = .ok (.if_icmp .gt 7, 3) := by decide +kernel
theorem dX12_isGoal_101 : decode cX12_isGoal 101 = .ok (.iconst 1, 1) := by decide +kernel
theorem dX12_isGoal_102 : decode cX12_isGoal 102 = .ok (.goto 4, 3) := by decide +kernel
theorem dX12_isGoal_105 : decode cX12_isGoal 105 = .ok (.iconst 0, 1) := by decide +kernel
theorem dX12_isGoal_106 : decode cX12_isGoal 106 = .ok (.istore_n 2, 1) := by decide +kernel
theorem dX12_isGoal_107 : decode cX12_isGoal 107 = .ok (.aload_n 0, 1) := by decide +kernel
theorem dX12_isGoal_108 : decode cX12_isGoal 108 = .ok (.getfield 126, 3) := by decide +kernel
theorem dX12_isGoal_111 : decode cX12_isGoal 111 = .ok (.iload 4, 2) := by decide +kernel
theorem dX12_isGoal_113 : decode cX12_isGoal 113 = .ok (.iconst 4, 1) := by decide +kernel
theorem dX12_isGoal_114 : decode cX12_isGoal 114 = .ok (.isub, 1) := by decide +kernel
theorem dX12_isGoal_115 : decode cX12_isGoal 115 = .ok (.aload_n 0, 1) := by decide +kernel
theorem dX12_isGoal_116 : decode cX12_isGoal 116 = .ok (.getfield 126, 3) := by decide +kernel
theorem dX12_isGoal_119 : decode cX12_isGoal 119 = .ok (.iload 4, 2) := by decide +kernel
theorem dX12_isGoal_121 : decode cX12_isGoal 121 = .ok (.iconst 4, 1) := by decide +kernel
theorem dX12_isGoal_122 : decode cX12_isGoal 122 = .ok (.isub, 1) := by decide +kernel
theorem dX12_isGoal_123 : decode cX12_isGoal 123 = .ok (.iaload, 1) := by decide +kernel
theorem dX12_isGoal_124 : decode cX12_isGoal 124 = .ok (.iconst (-1), 1) := by decide +kernel
theorem dX12_isGoal_125 : decode cX12_isGoal 125 = .ok (.if_icmp .ne 7, 3) := by decide +kernel
theorem dX12_isGoal_128 : decode cX12_isGoal 128 = .ok (.iload_n 1, 1) := by decide +kernel
theorem dX12_isGoal_129 : decode cX12_isGoal 129 = .ok (.goto 12, 3) := by decide +kernel
theorem dX12_isGoal_132 : decode cX12_isGoal 132 = .ok (.aload_n 0, 1) := by decide +kernel
theorem dX12_isGoal_133 : decode cX12_isGoal 133 = .ok (.getfield 126, 3) := by decide +kernel
theorem dX12_isGoal_136 : decode cX12_isGoal 136 = .ok (.iload 4, 2) := by decide +kernel
theorem dX12_isGoal_138 : decode cX12_isGoal 138 = .ok (.iconst 4, 1) := by decide +kernel
theorem dX12_isGoal_139 : decode cX12_isGoal 139 = .ok (.isub, 1) := by decide +kernel
theorem dX12_isGoal_140 : decode cX12_isGoal 140 = .ok (.iaload, 1) := by decide +kernel
theorem dX12_isGoal_141 : decode cX12_isGoal 141 = .ok (.iastore, 1) := by decide +kernel
theorem dX12_isGoal_142 : decode cX12_isGoal 142 = .ok (.iconst 0, 1) := by decide +kernel
theorem dX12_isGoal_143 : decode cX12_isGoal 143 = .ok (.istore 5, 2) := by decide +kernel
theorem dX12_isGoal_145 : decode cX12_isGoal 145 = .ok (.iload_n 2, 1) := by decide +kernel
theorem dX12_isGoal_146 : decode cX12_isGoal 146 = .ok (.ifCond .eq 58, 3) := by decide +kernel
theorem dX12_isGoal_149 : decode cX12_isGoal 149 = .ok (.iload 5, 2) := by decide +kernel
theorem dX12_isGoal_151 : decode cX12_isGoal 151 = .ok (.aload_n 0, 1) := by decide +kernel
theorem dX12_isGoal_152 : decode cX12_isGoal 152 = .ok (.getfield 123, 3) := by decide +kernel
theorem dX12_isGoal_155 : decode cX12_isGoal 155 = .ok (.iload 4, 2) := by decide +kernel
theorem dX12_isGoal_157 : decode cX12_isGoal 157 = .ok (.iconst 4, 1) := by decide +kernel
theorem dX12_isGoal_158 : decode cX12_isGoal 158 = .ok (.isub, 1) := by decide +kernel
theorem dX12_isGoal_159 : decode cX12_isGoal 159 = .ok (.iaload, 1) := by decide +kernel
theorem dX12_isGoal_160 : decode cX12_isGoal 160 = .ok (.if_icmp .ge 44, 3) := by decide +kernel
theorem dX12_isGoal_163 : decode cX12_isGoal 163 = .ok (.aload_n 0, 1) := by decide +kernel
theorem dX12_isGoal_164 : decode cX12_isGoal 164 = .ok (.getfield 117, 3) := by decide +kernel
theorem dX12_isGoal_167 : decode cX12_isGoal 167 = .ok (.iload_n 1, 1) := by decide +kernel
theorem dX12_isGoal_168 : decode cX12_isGoal 168 = .ok (.iload 5, 2) := by decide +kernel
theorem dX12_isGoal_170 : decode cX12_isGoal 170 = .ok (.iadd, 1) := by decide +kernel
theorem dX12_isGoal_171 : decode cX12_isGoal 171 = .ok (.iaload, 1) := by decide +kernel
theorem dX12_isGoal_172 : decode cX12_isGoal 172 = .ok (.aload_n 0, 1) := by decide +kernel
theorem dX12_isGoal_173 : decode cX12_isGoal 173 = .ok (.getfield 117, 3) := by decide +kernel
theorem dX12_isGoal_176 : decode cX12_isGoal 176 = .ok (.aload_n 0, 1) := by decide +kernel
theorem dX12_isGoal_177 : decode cX12_isGoal 177 = .ok (.getfield 126, 3) := by decide +kernel
theorem dX12_isGoal_180 : decode cX12_isGoal 180 = .ok (.iload 4, 2) := by decide +kernel
theorem dX12_isGoal_182 : decode cX12_isGoal 182 = .ok (.iconst 4, 1) := by decide +kernel
theorem dX12_isGoal_183 : decode cX12_isGoal 183 = .ok (.isub, 1) := by decide +kernel
theorem dX12_isGoal_184 : decode cX12_isGoal 184 = .ok (.iaload, 1) := by decide +kernel
theorem dX12_isGoal_185 : decode cX12_isGoal 185 = .ok (.iload 5, 2) := by decide +kernel
theorem dX12_isGoal_187 : decode cX12_isGoal 187 = .ok (.iadd, 1) := by decide +kernel
theorem dX12_isGoal_188 : decode cX12_isGoal 188 = .ok (.iaload, 1) := by decide +kernel
theorem dX12_isGoal_189 : decode cX12_isGoal 189 = .ok (.if_icmp .ne 7, 3) := by decide +kernel
theorem dX12_isGoal_192 : decode cX12_isGoal 192 = .ok (.iconst 1, 1) := by decide +kernel
theorem dX12_isGoal_193 : decode cX12_isGoal 193 = .ok (.goto 4, 3) := by decide +kernel
theorem dX12_isGoal_196 : decode cX12_isGoal 196 = .ok (.iconst 0, 1) := by decide +kernel
theorem dX12_isGoal_197 : decode cX12_isGoal 197 = .ok (.istore_n 2, 1) := by decide +kernel
theorem dX12_isGoal_198 : decode cX12_isGoal 198 = .ok (.iinc 5 1, 3) := by decide +kernel
theorem dX12_isGoal_201 : decode cX12_isGoal 201 = .ok (.goto (-56), 3) := by decide +kernel
theorem dX12_isGoal_204 : decode cX12_isGoal 204 = .ok (.iload_n 1, 1) := by decide +kernel
theorem dX12_isGoal_205 : decode cX12_isGoal 205 = .ok (.aload_n 0, 1) := by decide +kernel
theorem dX12_isGoal_206 : decode cX12_isGoal 206 = .ok (.getfield 123, 3) := by decide +kernel
theorem dX12_isGoal_209 : decode cX12_isGoal 209 = .ok (.iload 4, 2) := by decide +kernel
theorem dX12_isGoal_211 : decode cX12_isGoal 211 = .ok (.iconst 4, 1) := by decide +kernel
theorem dX12_isGoal_212 : decode cX12_isGoal 212 = .ok (.isub, 1) := by decide +kernel
theorem dX12_isGoal_213 : decode cX12_isGoal 213 = .ok (.iaload, 1) := by decide +kernel
theorem dX12_isGoal_214 : decode cX12_isGoal 214 = .ok (.iadd, 1) := by decide +kernel
theorem dX12_isGoal_215 : decode cX12_isGoal 215 = .ok (.istore_n 1, 1) := by decide +kernel
theorem dX12_isGoal_216 : decode cX12_isGoal 216 = .ok (.iinc 3 1, 3) := by decide +kernel
theorem dX12_isGoal_219 : decode cX12_isGoal 219 = .ok (.goto (-193), 3) := by decide +kernel
theorem dX12_isGoal_222 : decode cX12_isGoal 222 = .ok (.iload_n 2, 1) := by decide +kernel
theorem dX12_isGoal_223 : decode cX12_isGoal 223 = .ok (.ifCond .eq 15, 3) := by decide +kernel
theorem dX12_isGoal_226 : decode cX12_isGoal 226 = .ok (.iload_n 1, 1) := by decide +kernel
theorem dX12_isGoal_227 : decode cX12_isGoal 227 = .ok (.aload_n 0, 1) := by decide +kernel
theorem dX12_isGoal_228 : decode cX12_isGoal 228 = .ok (.getfield 331, 3) := by decide +kernel
theorem dX12_isGoal_231 : decode cX12_isGoal 231 = .ok (.if_icmp .ne 7, 3) := by decide +kernel
theorem dX12_isGoal_234 : decode cX12_isGoal 234 = .ok (.iconst 1, 1) := by decide +kernel
theorem dX12_isGoal_235 : decode cX12_isGoal 235 = .ok (.goto 4, 3) := by decide +kernel
theorem dX12_isGoal_238 : decode cX12_isGoal 238 = .ok (.iconst 0, 1) := by decide +kernel
theorem dX12_isGoal_239 : decode cX12_isGoal 239 = .ok (.ireturn, 1) := by decide +kernel
theorem dX12_countOf_0 : decode cX12_countOf 0 = .ok (.iconst 0, 1) := by decide +kernel
theorem dX12_countOf_1 : decode cX12_countOf 1 = .ok (.istore_n 2, 1) := by decide +kernel
theorem dX12_countOf_2 : decode cX12_countOf 2 = .ok (.iconst 0, 1) := by decide +kernel
theorem dX12_countOf_3 : decode cX12_countOf 3 = .ok (.istore_n 3, 1) := by decide +kernel
theorem dX12_countOf_4 : decode cX12_countOf 4 = .ok (.iload_n 3, 1) := by decide +kernel
theorem dX12_countOf_5 : decode cX12_countOf 5 = .ok (.aload_n 0, 1) := by decide +kernel
theorem dX12_countOf_6 : decode cX12_countOf 6 = .ok (.getfield 328, 3) := by decide +kernel
theorem dX12_countOf_9 : decode cX12_countOf 9 = .ok (.if_icmp .ge 27, 3) := by decide +kernel
theorem dX12_countOf_12 : decode cX12_countOf 12 = .ok (.iload_n 2, 1) := by decide +kernel
theorem dX12_countOf_13 : decode cX12_countOf 13 = .ok (.aload_n 0, 1) := by decide +kernel
theorem dX12_countOf_14 : decode cX12_countOf 14 = .ok (.getfield 120, 3) := by decide +kernel
theorem dX12_countOf_17 : decode cX12_countOf 17 = .ok (.iload_n 3, 1) := by decide +kernel
theorem dX12_countOf_18 : decode cX12_countOf 18 = .ok (.iaload, 1) := by decide +kernel
theorem dX12_countOf_19 : decode cX12_countOf 19 = .ok (.iload_n 1, 1) := by decide +kernel
theorem dX12_countOf_20 : decode cX12_countOf 20 = .ok (.if_icmp .ne 7, 3) := by decide +kernel
theorem dX12_countOf_23 : decode cX12_countOf 23 = .ok (.iconst 1, 1) := by decide +kernel
theorem dX12_countOf_24 : decode cX12_countOf 24 = .ok (.goto 4, 3) := by decide +kernel
theorem dX12_countOf_27 : decode cX12_countOf 27 = .ok (.iconst 0, 1) := by decide +kernel
theorem dX12_countOf_28 : decode cX12_countOf 28 = .ok (.iadd, 1) := by decide +kernel
theorem dX12_countOf_29 : decode cX12_countOf 29 = .ok (.istore_n 2, 1) := by decide +kernel
theorem dX12_countOf_30 : decode cX12_countOf 30 = .ok (.iinc 3 1, 3) := by decide +kernel
theorem dX12_countOf_33 : decode cX12_countOf 33 = .ok (.goto (-29), 3) := by decide +kernel
theorem dX12_countOf_36 : decode cX12_countOf 36 = .ok (.iload_n 2, 1) := by decide +kernel
theorem dX12_countOf_37 : decode cX12_countOf 37 = .ok (.ireturn, 1) := by decide +kernel
theorem dX12_waysOf_0 : decode cX12_waysOf 0 = .ok (.iconst 0, 1) := by decide +kernel
theorem dX12_waysOf_1 : decode cX12_waysOf 1 = .ok (.istore_n 1, 1) := by decide +kernel
theorem dX12_waysOf_2 : decode cX12_waysOf 2 = .ok (.iconst (-1), 1) := by decide +kernel
theorem dX12_waysOf_3 : decode cX12_waysOf 3 = .ok (.istore_n 2, 1) := by decide +kernel
theorem dX12_waysOf_4 : decode cX12_waysOf 4 = .ok (.iconst 0, 1) := by decide +kernel
theorem dX12_waysOf_5 : decode cX12_waysOf 5 = .ok (.istore_n 3, 1) := by decide +kernel
theorem dX12_waysOf_6 : decode cX12_waysOf 6 = .ok (.iload_n 3, 1) := by decide +kernel
theorem dX12_waysOf_7 : decode cX12_waysOf 7 = .ok (.aload_n 0, 1) := by decide +kernel
theorem dX12_waysOf_8 : decode cX12_waysOf 8 = .ok (.getfield 328, 3) := by decide +kernel
theorem dX12_waysOf_11 : decode cX12_waysOf 11 = .ok (.if_icmp .ge 27, 3) := by decide +kernel
theorem dX12_waysOf_14 : decode cX12_waysOf 14 = .ok (.iload_n 1, 1) := by decide +kernel
theorem dX12_waysOf_15 : decode cX12_waysOf 15 = .ok (.aload_n 0, 1) := by decide +kernel
theorem dX12_waysOf_16 : decode cX12_waysOf 16 = .ok (.getfield 120, 3) := by decide +kernel
theorem dX12_waysOf_19 : decode cX12_waysOf 19 = .ok (.iload_n 3, 1) := by decide +kernel
theorem dX12_waysOf_20 : decode cX12_waysOf 20 = .ok (.iaload, 1) := by decide +kernel
theorem dX12_waysOf_21 : decode cX12_waysOf 21 = .ok (.iconst 4, 1) := by decide +kernel
theorem dX12_waysOf_22 : decode cX12_waysOf 22 = .ok (.if_icmp .ge 7, 3) := by decide +kernel
theorem dX12_waysOf_25 : decode cX12_waysOf 25 = .ok (.iconst 1, 1) := by decide +kernel
theorem dX12_waysOf_26 : decode cX12_waysOf 26 = .ok (.goto 4, 3) := by decide +kernel
theorem dX12_waysOf_29 : decode cX12_waysOf 29 = .ok (.iconst 0, 1) := by decide +kernel
theorem dX12_waysOf_30 : decode cX12_waysOf 30 = .ok (.iadd, 1) := by decide +kernel
theorem dX12_waysOf_31 : decode cX12_waysOf 31 = .ok (.istore_n 1, 1) := by decide +kernel
theorem dX12_waysOf_32 : decode cX12_waysOf 32 = .ok (.iinc 3 1, 3) := by decide +kernel
theorem dX12_waysOf_35 : decode cX12_waysOf 35 = .ok (.goto (-29), 3) := by decide +kernel
theorem dX12_waysOf_38 : decode cX12_waysOf 38 = .ok (.iconst 0, 1) := by decide +kernel
theorem dX12_waysOf_39 : decode cX12_waysOf 39 = .ok (.istore_n 3, 1) := by decide +kernel
theorem dX12_waysOf_40 : decode cX12_waysOf 40 = .ok (.iload_n 3, 1) := by decide +kernel
theorem dX12_waysOf_41 : decode cX12_waysOf 41 = .ok (.iconst 4, 1) := by decide +kernel
theorem dX12_waysOf_42 : decode cX12_waysOf 42 = .ok (.if_icmp .ge 45, 3) := by decide +kernel
theorem dX12_waysOf_45 : decode cX12_waysOf 45 = .ok (.aload_n 0, 1) := by decide +kernel
theorem dX12_waysOf_46 : decode cX12_waysOf 46 = .ok (.getfield 123, 3) := by decide +kernel
theorem dX12_waysOf_49 : decode cX12_waysOf 49 = .ok (.iload_n 3, 1) := by decide +kernel
theorem dX12_waysOf_50 : decode cX12_waysOf 50 = .ok (.aload_n 0, 1) := by decide +kernel
theorem dX12_waysOf_51 : decode cX12_waysOf 51 = .ok (.iconst 4, 1) := by decide +kernel
theorem dX12_waysOf_52 : decode cX12_waysOf 52 = .ok (.iload_n 3, 1) := by decide +kernel
theorem dX12_waysOf_53 : decode cX12_waysOf 53 = .ok (.iadd, 1) := by decide +kernel
theorem dX12_waysOf_54 : decode cX12_waysOf 54 = .ok (.invokevirtual 334, 3) := by decide +kernel
theorem dX12_waysOf_57 : decode cX12_waysOf 57 = .ok (.ifCond .le 7, 3) := by decide +kernel
theorem dX12_waysOf_60 : decode cX12_waysOf 60 = .ok (.iconst 1, 1) := by decide +kernel
theorem dX12_waysOf_61 : decode cX12_waysOf 61 = .ok (.goto 4, 3) := by decide +kernel
theorem dX12_waysOf_64 : decode cX12_waysOf 64 = .ok (.iconst 0, 1) := by decide +kernel
theorem dX12_waysOf_65 : decode cX12_waysOf 65 = .ok (.iastore, 1) := by decide +kernel
theorem dX12_waysOf_66 : decode cX12_waysOf 66 = .ok (.aload_n 0, 1) := by decide +kernel
theorem dX12_waysOf_67 : decode cX12_waysOf 67 = .ok (.getfield 123, 3) := by decide +kernel
theorem dX12_waysOf_70 : decode cX12_waysOf 70 = .ok (.iload_n 3, 1) := by decide +kernel
theorem dX12_waysOf_71 : decode cX12_waysOf 71 = .ok (.iaload, 1) := by decide +kernel
theorem dX12_waysOf_72 : decode cX12_waysOf 72 = .ok (.ifCond .le 7, 3) := by decide +kernel
theorem dX12_waysOf_75 : decode cX12_waysOf 75 = .ok (.iload_n 3, 1) := by decide +kernel
theorem dX12_waysOf_76 : decode cX12_waysOf 76 = .ok (.goto 4, 3) := by decide +kernel
theorem dX12_waysOf_79 : decode cX12_waysOf 79 = .ok (.iload_n 2, 1) := by decide +kernel
theorem dX12_waysOf_80 : decode cX12_waysOf 80 = .ok (.istore_n 2, 1) := by decide +kernel
theorem dX12_waysOf_81 : decode cX12_waysOf 81 = .ok (.iinc 3 1, 3) := by decide +kernel
theorem dX12_waysOf_84 : decode cX12_waysOf 84 = .ok (.goto (-44), 3) := by decide +kernel
theorem dX12_waysOf_87 : decode cX12_waysOf 87 = .ok (.iload_n 2, 1) := by decide +kernel
theorem dX12_waysOf_88 : decode cX12_waysOf 88 = .ok (.iconst (-1), 1) := by decide +kernel
theorem dX12_waysOf_89 : decode cX12_waysOf 89 = .ok (.if_icmp .ne 16, 3) := by decide +kernel
theorem dX12_waysOf_92 : decode cX12_waysOf 92 = .ok (.aload_n 0, 1) := by decide +kernel
theorem dX12_waysOf_93 : decode cX12_waysOf 93 = .ok (.invokevirtual 337, 3) := by decide +kernel
theorem dX12_waysOf_96 : decode cX12_waysOf 96 = .ok (.ifCond .eq 7, 3) := by decide +kernel
theorem dX12_waysOf_99 : decode cX12_waysOf 99 = .ok (.iconst 1, 1) := by decide +kernel
theorem dX12_waysOf_100 : decode cX12_waysOf 100 = .ok (.goto 4, 3) := by decide +kernel
theorem dX12_waysOf_103 : decode cX12_waysOf 103 = .ok (.iconst 0, 1) := by decide +kernel
theorem dX12_waysOf_104 : decode cX12_waysOf 104 = .ok (.ireturn, 1) := by decide +kernel
theorem dX12_waysOf_105 : decode cX12_waysOf 105 = .ok (.iconst 0, 1) := by decide +kernel
theorem dX12_waysOf_106 : decode cX12_waysOf 106 = .ok (.istore_n 3, 1) := by decide +kernel
theorem dX12_waysOf_107 : decode cX12_waysOf 107 = .ok (.iconst 1, 1) := by decide +kernel
theorem dX12_waysOf_108 : decode cX12_waysOf 108 = .ok (.istore 4, 2) := by decide +kernel
theorem dX12_waysOf_110 : decode cX12_waysOf 110 = .ok (.iload 4, 2) := by decide +kernel
theorem dX12_waysOf_112 : decode cX12_waysOf 112 = .ok (.ifCond .eq 124, 3) := by decide +kernel
theorem dX12_waysOf_115 : decode cX12_waysOf 115 = .ok (.iload_n 1, 1) := by decide +kernel
theorem dX12_waysOf_116 : decode cX12_waysOf 116 = .ok (.istore 5, 2) := by decide +kernel
theorem dX12_waysOf_118 : decode cX12_waysOf 118 = .ok (.iconst 0, 1) := by decide +kernel
theorem dX12_waysOf_119 : decode cX12_waysOf 119 = .ok (.istore 6, 2) := by decide +kernel
theorem dX12_waysOf_121 : decode cX12_waysOf 121 = .ok (.iload 6, 2) := by decide +kernel
theorem dX12_waysOf_123 : decode cX12_waysOf 123 = .ok (.iload_n 2, 1) := by decide +kernel
theorem dX12_waysOf_124 : decode cX12_waysOf 124 = .ok (.if_icmp .ge 30, 3) := by decide +kernel
theorem dX12_waysOf_127 : decode cX12_waysOf 127 = .ok (.iload 5, 2) := by decide +kernel
theorem dX12_waysOf_129 : decode cX12_waysOf 129 = .ok (.aload_n 0, 1) := by decide +kernel
theorem dX12_waysOf_130 : decode cX12_waysOf 130 = .ok (.getfield 123, 3) := by decide +kernel
theorem dX12_waysOf_133 : decode cX12_waysOf 133 = .ok (.iload 6, 2) := by decide +kernel
theorem dX12_waysOf_135 : decode cX12_waysOf 135 = .ok (.iaload, 1) := by decide +kernel
theorem dX12_waysOf_136 : decode cX12_waysOf 136 = .ok (.aload_n 0, 1) := by decide +kernel
theorem dX12_waysOf_137 : decode cX12_waysOf 137 = .ok (.iconst 4, 1) := by decide +kernel
theorem dX12_waysOf_138 : decode cX12_waysOf 138 = .ok (.iload 6, 2) := by decide +kernel
theorem dX12_waysOf_140 : decode cX12_waysOf 140 = .ok (.iadd, 1) := by decide +kernel
theorem dX12_waysOf_141 : decode cX12_waysOf 141 = .ok (.invokevirtual 334, 3) := by decide +kernel
theorem dX12_waysOf_144 : decode cX12_waysOf 144 = .ok (.imul, 1) := by decide +kernel
theorem dX12_waysOf_145 : decode cX12_waysOf 145 = .ok (.iadd, 1) := by decide +kernel
theorem dX12_waysOf_146 : decode cX12_waysOf 146 = .ok (.istore 5, 2) := by decide +kernel
theorem dX12_waysOf_148 : decode cX12_waysOf 148 = .ok (.iinc 6 1, 3) := by decide +kernel
theorem dX12_waysOf_151 : decode cX12_waysOf 151 = .ok (.goto (-30), 3) := by decide +kernel
theorem dX12_waysOf_154 : decode cX12_waysOf 154 = .ok (.aload_n 0, 1) := by decide +kernel
theorem dX12_waysOf_155 : decode cX12_waysOf 155 = .ok (.getfield 331, 3) := by decide +kernel
theorem dX12_waysOf_158 : decode cX12_waysOf 158 = .ok (.iload 5, 2) := by decide +kernel
theorem dX12_waysOf_160 : decode cX12_waysOf 160 = .ok (.isub, 1) := by decide +kernel
theorem dX12_waysOf_161 : decode cX12_waysOf 161 = .ok (.istore 6, 2) := by decide +kernel
theorem dX12_waysOf_163 : decode cX12_waysOf 163 = .ok (.aload_n 0, 1) := by decide +kernel
theorem dX12_waysOf_164 : decode cX12_waysOf 164 = .ok (.iconst 4, 1) := by decide +kernel
theorem dX12_waysOf_165 : decode cX12_waysOf 165 = .ok (.iload_n 2, 1) := by decide +kernel
theorem dX12_waysOf_166 : decode cX12_waysOf 166 = .ok (.iadd, 1) := by decide +kernel
theorem dX12_waysOf_167 : decode cX12_waysOf 167 = .ok (.invokevirtual 334, 3) := by decide +kernel
theorem dX12_waysOf_170 : decode cX12_waysOf 170 = .ok (.istore 7, 2) := by decide +kernel
theorem dX12_waysOf_172 : decode cX12_waysOf 172 = .ok (.aload_n 0, 1) := by decide +kernel
theorem dX12_waysOf_173 : decode cX12_waysOf 173 = .ok (.getfield 123, 3) := by decide +kernel
theorem dX12_waysOf_176 : decode cX12_waysOf 176 = .ok (.iload_n 2, 1) := by decide +kernel
theorem dX12_waysOf_177 : decode cX12_waysOf 177 = .ok (.iload 6, 2) := by decide +kernel
theorem dX12_waysOf_179 : decode cX12_waysOf 179 = .ok (.ifCond .le 19, 3) := by decide +kernel
theorem dX12_waysOf_182 : decode cX12_waysOf 182 = .ok (.iload 6, 2) := by decide +kernel
theorem dX12_waysOf_184 : decode cX12_waysOf 184 = .ok (.iload 7, 2) := by decide +kernel
theorem dX12_waysOf_186 : decode cX12_waysOf 186 = .ok (.irem, 1) := by decide +kernel
theorem dX12_waysOf_187 : decode cX12_waysOf 187 = .ok (.ifCond .ne 11, 3) := by decide +kernel
theorem dX12_waysOf_190 : decode cX12_waysOf 190 = .ok (.iload 6, 2) := by decide +kernel
theorem dX12_waysOf_192 : decode cX12_waysOf 192 = .ok (.iload 7, 2) := by decide +kernel
theorem dX12_waysOf_194 : decode cX12_waysOf 194 = .ok (.idiv, 1) := by decide +kernel
theorem dX12_waysOf_195 : decode cX12_waysOf 195 = .ok (.goto 4, 3) := by decide +kernel
theorem dX12_waysOf_198 : decode cX12_waysOf 198 = .ok (.iconst 0, 1) := by decide +kernel
theorem dX12_waysOf_199 : decode cX12_waysOf 199 = .ok (.iastore, 1) := by decide +kernel
theorem dX12_waysOf_200 : decode cX12_waysOf 200 = .ok (.iload_n 3, 1) := by decide +kernel
theorem dX12_waysOf_201 : decode cX12_waysOf 201 = .ok (.aload_n 0, 1) := by decide +kernel
theorem dX12_waysOf_202 : decode cX12_waysOf 202 = .ok (.getfield 123, 3) := by decide +kernel
theorem dX12_waysOf_205 : decode cX12_waysOf 205 = .ok (.iload_n 2, 1) := by decide +kernel
theorem dX12_waysOf_206 : decode cX12_waysOf 206 = .ok (.iaload, 1) := by decide +kernel
theorem dX12_waysOf_207 : decode cX12_waysOf 207 = .ok (.ifCond .le 14, 3) := by decide +kernel
theorem dX12_waysOf_210 : decode cX12_waysOf 210 = .ok (.aload_n 0, 1) := by decide +kernel
theorem dX12_waysOf_211 : decode cX12_waysOf 211 = .ok (.invokevirtual 337, 3) := by decide +kernel
theorem dX12_waysOf_214 : decode cX12_waysOf 214 = .ok (.ifCond .eq 7, 3) := by decide +kernel
theorem dX12_waysOf_217 : decode cX12_waysOf 217 = .ok (.iconst 1, 1) := by decide +kernel
theorem dX12_waysOf_218 : decode cX12_waysOf 218 = .ok (.goto 4, 3) := by decide +kernel
theorem dX12_waysOf_221 : decode cX12_waysOf 221 = .ok (.iconst 0, 1) := by decide +kernel
theorem dX12_waysOf_222 : decode cX12_waysOf 222 = .ok (.iadd, 1) := by decide +kernel
theorem dX12_waysOf_223 : decode cX12_waysOf 223 = .ok (.istore_n 3, 1) := by decide +kernel
theorem dX12_waysOf_224 : decode cX12_waysOf 224 = .ok (.aload_n 0, 1) := by decide +kernel
theorem dX12_waysOf_225 : decode cX12_waysOf 225 = .ok (.iload_n 2, 1) := by decide +kernel
theorem dX12_waysOf_226 : decode cX12_waysOf 226 = .ok (.iload 6, 2) := by decide +kernel
theorem dX12_waysOf_228 : decode cX12_waysOf 228 = .ok (.invokevirtual 340, 3) := by decide +kernel
theorem dX12_waysOf_231 : decode cX12_waysOf 231 = .ok (.istore 4, 2) := by decide +kernel
theorem dX12_waysOf_233 : decode cX12_waysOf 233 = .ok (.goto (-123), 3) := by decide +kernel
theorem dX12_waysOf_236 : decode cX12_waysOf 236 = .ok (.iload_n 3, 1) := by decide +kernel
theorem dX12_waysOf_237 : decode cX12_waysOf 237 = .ok (.ireturn, 1) := by decide +kernel
theorem dX12_nextPut_0 : decode cX12_nextPut 0 = .ok (.iload_n 2, 1) := by decide +kernel
theorem dX12_nextPut_1 : decode cX12_nextPut 1 = .ok (.iconst 1, 1) := by decide +kernel
theorem dX12_nextPut_2 : decode cX12_nextPut 2 = .ok (.if_icmp .ge 7, 3) := by decide +kernel
theorem dX12_nextPut_5 : decode cX12_nextPut 5 = .ok (.iconst 1, 1) := by decide +kernel
theorem dX12_nextPut_6 : decode cX12_nextPut 6 = .ok (.goto 4, 3) := by decide +kernel
theorem dX12_nextPut_9 : decode cX12_nextPut 9 = .ok (.iconst 0, 1) := by decide +kernel
theorem dX12_nextPut_10 : decode cX12_nextPut 10 = .ok (.istore_n 3, 1) := by decide +kernel
theorem dX12_nextPut_11 : decode cX12_nextPut 11 = .ok (.iload_n 1, 1) := by decide +kernel
theorem dX12_nextPut_12 : decode cX12_nextPut 12 = .ok (.iconst 1, 1) := by decide +kernel
theorem dX12_nextPut_13 : decode cX12_nextPut 13 = .ok (.isub, 1) := by decide +kernel
theorem dX12_nextPut_14 : decode cX12_nextPut 14 = .ok (.istore 4, 2) := by decide +kernel
theorem dX12_nextPut_16 : decode cX12_nextPut 16 = .ok (.iload 4, 2) := by decide +kernel
theorem dX12_nextPut_18 : decode cX12_nextPut 18 = .ok (.ifCond .lt 77, 3) := by decide +kernel
theorem dX12_nextPut_21 : decode cX12_nextPut 21 = .ok (.aload_n 0, 1) := by decide +kernel
theorem dX12_nextPut_22 : decode cX12_nextPut 22 = .ok (.getfield 123, 3) := by decide +kernel
theorem dX12_nextPut_25 : decode cX12_nextPut 25 = .ok (.iload 4, 2) := by decide +kernel
theorem dX12_nextPut_27 : decode cX12_nextPut 27 = .ok (.iaload, 1) := by decide +kernel
theorem dX12_nextPut_28 : decode cX12_nextPut 28 = .ok (.ifCond .le 61, 3) := by decide +kernel
theorem dX12_nextPut_31 : decode cX12_nextPut 31 = .ok (.iload_n 3, 1) := by decide +kernel
theorem dX12_nextPut_32 : decode cX12_nextPut 32 = .ok (.ifCond .ne 28, 3) := by decide +kernel
theorem dX12_nextPut_35 : decode cX12_nextPut 35 = .ok (.aload_n 0, 1) := by decide +kernel
theorem dX12_nextPut_36 : decode cX12_nextPut 36 = .ok (.getfield 123, 3) := by decide +kernel
theorem dX12_nextPut_39 : decode cX12_nextPut 39 = .ok (.iload 4, 2) := by decide +kernel
theorem dX12_nextPut_41 : decode cX12_nextPut 41 = .ok (.iaload, 1) := by decide +kernel
theorem dX12_nextPut_42 : decode cX12_nextPut 42 = .ok (.bipush 30, 2) := by decide +kernel
theorem dX12_nextPut_44 : decode cX12_nextPut 44 = .ok (.if_icmp .ge 16, 3) := by decide +kernel
theorem dX12_nextPut_47 : decode cX12_nextPut 47 = .ok (.aload_n 0, 1) := by decide +kernel
theorem dX12_nextPut_48 : decode cX12_nextPut 48 = .ok (.getfield 123, 3) := by decide +kernel
theorem dX12_nextPut_51 : decode cX12_nextPut 51 = .ok (.iload 4, 2) := by decide +kernel
theorem dX12_nextPut_53 : decode cX12_nextPut 53 = .ok (.dup2, 1) := by decide +kernel
theorem dX12_nextPut_54 : decode cX12_nextPut 54 = .ok (.iaload, 1) := by decide +kernel
theorem dX12_nextPut_55 : decode cX12_nextPut 55 = .ok (.iconst 1, 1) := by decide +kernel
theorem dX12_nextPut_56 : decode cX12_nextPut 56 = .ok (.iadd, 1) := by decide +kernel
theorem dX12_nextPut_57 : decode cX12_nextPut 57 = .ok (.iastore, 1) := by decide +kernel
theorem dX12_nextPut_58 : decode cX12_nextPut 58 = .ok (.iconst 1, 1) := by decide +kernel
theorem dX12_nextPut_59 : decode cX12_nextPut 59 = .ok (.ireturn, 1) := by decide +kernel
theorem dX12_nextPut_60 : decode cX12_nextPut 60 = .ok (.iload_n 3, 1) := by decide +kernel
theorem dX12_nextPut_61 : decode cX12_nextPut 61 = .ok (.ifCond .eq 18, 3) := by decide +kernel
theorem dX12_nextPut_64 : decode cX12_nextPut 64 = .ok (.aload_n 0, 1) := by decide +kernel
theorem dX12_nextPut_65 : decode cX12_nextPut 65 = .ok (.getfield 123, 3) := by decide +kernel
theorem dX12_nextPut_68 : decode cX12_nextPut 68 = .ok (.iload 4, 2) := by decide +kernel
theorem dX12_nextPut_70 : decode cX12_nextPut 70 = .ok (.iaload, 1) := by decide +kernel
theorem dX12_nextPut_71 : decode cX12_nextPut 71 = .ok (.iconst 1, 1) := by decide +kernel
theorem dX12_nextPut_72 : decode cX12_nextPut 72 = .ok (.if_icmp .ne 7, 3) := by decide +kernel
theorem dX12_nextPut_75 : decode cX12_nextPut 75 = .ok (.iconst 1, 1) := by decide +kernel
theorem dX12_nextPut_76 : decode cX12_nextPut 76 = .ok (.goto 4, 3) := by decide +kernel
theorem dX12_nextPut_79 : decode cX12_nextPut 79 = .ok (.iconst 0, 1) := by decide +kernel
theorem dX12_nextPut_80 : decode cX12_nextPut 80 = .ok (.istore_n 3, 1) := by decide +kernel
theorem dX12_nextPut_81 : decode cX12_nextPut 81 = .ok (.aload_n 0, 1) := by decide +kernel
theorem dX12_nextPut_82 : decode cX12_nextPut 82 = .ok (.getfield 123, 3) := by decide +kernel
theorem dX12_nextPut_85 : decode cX12_nextPut 85 = .ok (.iload 4, 2) := by decide +kernel
theorem dX12_nextPut_87 : decode cX12_nextPut 87 = .ok (.iconst 1, 1) := by decide +kernel
theorem dX12_nextPut_88 : decode cX12_nextPut 88 = .ok (.iastore, 1) := by decide +kernel
theorem dX12_nextPut_89 : decode cX12_nextPut 89 = .ok (.iinc 4 (-1), 3) := by decide +kernel
theorem dX12_nextPut_92 : decode cX12_nextPut 92 = .ok (.goto (-76), 3) := by decide +kernel
theorem dX12_nextPut_95 : decode cX12_nextPut 95 = .ok (.iconst 0, 1) := by decide +kernel
theorem dX12_nextPut_96 : decode cX12_nextPut 96 = .ok (.ireturn, 1) := by decide +kernel
theorem dX12_layForm_0 : decode cX12_layForm 0 = .ok (.aload_n 0, 1) := by decide +kernel
theorem dX12_layForm_1 : decode cX12_layForm 1 = .ok (.aload_n 0, 1) := by decide +kernel
theorem dX12_layForm_2 : decode cX12_layForm 2 = .ok (.getfield 43, 3) := by decide +kernel
theorem dX12_layForm_5 : decode cX12_layForm 5 = .ok (.iload_n 1, 1) := by decide +kernel
theorem dX12_layForm_6 : decode cX12_layForm 6 = .ok (.iaload, 1) := by decide +kernel
theorem dX12_layForm_7 : decode cX12_layForm 7 = .ok (.putfield 328, 3) := by decide +kernel
theorem dX12_layForm_10 : decode cX12_layForm 10 = .ok (.iconst 0, 1) := by decide +kernel
theorem dX12_layForm_11 : decode cX12_layForm 11 = .ok (.istore_n 2, 1) := by decide +kernel
theorem dX12_layForm_12 : decode cX12_layForm 12 = .ok (.iload_n 2, 1) := by decide +kernel
theorem dX12_layForm_13 : decode cX12_layForm 13 = .ok (.aload_n 0, 1) := by decide +kernel
theorem dX12_layForm_14 : decode cX12_layForm 14 = .ok (.getfield 328, 3) := by decide +kernel
theorem dX12_layForm_17 : decode cX12_layForm 17 = .ok (.if_icmp .ge 26, 3) := by decide +kernel
theorem dX12_layForm_20 : decode cX12_layForm 20 = .ok (.aload_n 0, 1) := by decide +kernel
theorem dX12_layForm_21 : decode cX12_layForm 21 = .ok (.getfield 120, 3) := by decide +kernel
theorem dX12_layForm_24 : decode cX12_layForm 24 = .ok (.iload_n 2, 1) := by decide +kernel
theorem dX12_layForm_25 : decode cX12_layForm 25 = .ok (.aload_n 0, 1) := by decide +kernel
theorem dX12_layForm_26 : decode cX12_layForm 26 = .ok (.getfield 40, 3) := by decide +kernel
theorem dX12_layForm_29 : decode cX12_layForm 29 = .ok (.bipush 12, 2) := by decide +kernel
theorem dX12_layForm_31 : decode cX12_layForm 31 = .ok (.iload_n 1, 1) := by decide +kernel
theorem dX12_layForm_32 : decode cX12_layForm 32 = .ok (.imul, 1) := by decide +kernel
theorem dX12_layForm_33 : decode cX12_layForm 33 = .ok (.iload_n 2, 1) := by decide +kernel
theorem dX12_layForm_34 : decode cX12_layForm 34 = .ok (.iadd, 1) := by decide +kernel
theorem dX12_layForm_35 : decode cX12_layForm 35 = .ok (.iaload, 1) := by decide +kernel
theorem dX12_layForm_36 : decode cX12_layForm 36 = .ok (.iastore, 1) := by decide +kernel
theorem dX12_layForm_37 : decode cX12_layForm 37 = .ok (.iinc 2 1, 3) := by decide +kernel
theorem dX12_layForm_40 : decode cX12_layForm 40 = .ok (.goto (-28), 3) := by decide +kernel
theorem dX12_layForm_43 : decode cX12_layForm 43 = .ok (.return_, 1) := by decide +kernel
theorem dX12_makes_0 : decode cX12_makes 0 = .ok (.iload_n 1, 1) := by decide +kernel
theorem dX12_makes_1 : decode cX12_makes 1 = .ok (.invokestatic 325, 3) := by decide +kernel
theorem dX12_makes_4 : decode cX12_makes 4 = .ok (.ifCond .eq 10, 3) := by decide +kernel
theorem dX12_makes_7 : decode cX12_makes 7 = .ok (.iload_n 2, 1) := by decide +kernel
theorem dX12_makes_8 : decode cX12_makes 8 = .ok (.invokestatic 286, 3) := by decide +kernel
theorem dX12_makes_11 : decode cX12_makes 11 = .ok (.ifCond .ne 6, 3) := by decide +kernel
theorem dX12_makes_14 : decode cX12_makes 14 = .ok (.bipush (-2), 2) := by decide +kernel
theorem dX12_makes_16 : decode cX12_makes 16 = .ok (.ireturn, 1) := by decide +kernel
theorem dX12_makes_17 : decode cX12_makes 17 = .ok (.aload_n 0, 1) := by decide +kernel
theorem dX12_makes_18 : decode cX12_makes 18 = .ok (.getfield 43, 3) := by decide +kernel
theorem dX12_makes_21 : decode cX12_makes 21 = .ok (.iload_n 1, 1) := by decide +kernel
theorem dX12_makes_22 : decode cX12_makes 22 = .ok (.iaload, 1) := by decide +kernel
theorem dX12_makes_23 : decode cX12_makes 23 = .ok (.ifCond .ne 6, 3) := by decide +kernel
theorem dX12_makes_26 : decode cX12_makes 26 = .ok (.bipush (-4), 2) := by decide +kernel
theorem dX12_makes_28 : decode cX12_makes 28 = .ok (.ireturn, 1) := by decide +kernel
theorem dX12_makes_29 : decode cX12_makes 29 = .ok (.aload_n 0, 1) := by decide +kernel
theorem dX12_makes_30 : decode cX12_makes 30 = .ok (.iload_n 1, 1) := by decide +kernel
theorem dX12_makes_31 : decode cX12_makes 31 = .ok (.invokevirtual 343, 3) := by decide +kernel
theorem dX12_makes_34 : decode cX12_makes 34 = .ok (.aload_n 0, 1) := by decide +kernel
theorem dX12_makes_35 : decode cX12_makes 35 = .ok (.aload_n 0, 1) := by decide +kernel
theorem dX12_makes_36 : decode cX12_makes 36 = .ok (.getfield 37, 3) := by decide +kernel
theorem dX12_makes_39 : decode cX12_makes 39 = .ok (.iload_n 2, 1) := by decide +kernel
theorem dX12_makes_40 : decode cX12_makes 40 = .ok (.iaload, 1) := by decide +kernel
theorem dX12_makes_41 : decode cX12_makes 41 = .ok (.putfield 331, 3) := by decide +kernel
theorem dX12_makes_44 : decode cX12_makes 44 = .ok (.iconst 0, 1) := by decide +kernel
theorem dX12_makes_45 : decode cX12_makes 45 = .ok (.istore_n 3, 1) := by decide +kernel
theorem dX12_makes_46 : decode cX12_makes 46 = .ok (.iload_n 3, 1) := by decide +kernel
theorem dX12_makes_47 : decode cX12_makes 47 = .ok (.aload_n 0, 1) := by decide +kernel
theorem dX12_makes_48 : decode cX12_makes 48 = .ok (.getfield 331, 3) := by decide +kernel
theorem dX12_makes_51 : decode cX12_makes 51 = .ok (.if_icmp .ge 26, 3) := by decide +kernel
theorem dX12_makes_54 : decode cX12_makes 54 = .ok (.aload_n 0, 1) := by decide +kernel
theorem dX12_makes_55 : decode cX12_makes 55 = .ok (.getfield 117, 3) := by decide +kernel
theorem dX12_makes_58 : decode cX12_makes 58 = .ok (.iload_n 3, 1) := by decide +kernel
theorem dX12_makes_59 : decode cX12_makes 59 = .ok (.aload_n 0, 1) := by decide +kernel
theorem dX12_makes_60 : decode cX12_makes 60 = .ok (.getfield 34, 3) := by decide +kernel
theorem dX12_makes_63 : decode cX12_makes 63 = .ok (.bipush 30, 2) := by decide +kernel
theorem dX12_makes_65 : decode cX12_makes 65 = .ok (.iload_n 2, 1) := by decide +kernel
theorem dX12_makes_66 : decode cX12_makes 66 = .ok (.imul, 1) := by decide +kernel
theorem dX12_makes_67 : decode cX12_makes 67 = .ok (.iload_n 3, 1) := by decide +kernel
theorem dX12_makes_68 : decode cX12_makes 68 = .ok (.iadd, 1) := by decide +kernel
theorem dX12_makes_69 : decode cX12_makes 69 = .ok (.iaload, 1) := by decide +kernel
theorem dX12_makes_70 : decode cX12_makes 70 = .ok (.iastore, 1) := by decide +kernel
theorem dX12_makes_71 : decode cX12_makes 71 = .ok (.iinc 3 1, 3) := by decide +kernel
theorem dX12_makes_74 : decode cX12_makes 74 = .ok (.goto (-28), 3) := by decide +kernel
theorem dX12_makes_77 : decode cX12_makes 77 = .ok (.aload_n 0, 1) := by decide +kernel
theorem dX12_makes_78 : decode cX12_makes 78 = .ok (.invokevirtual 346, 3) := by decide +kernel
theorem dX12_makes_81 : decode cX12_makes 81 = .ok (.ireturn, 1) := by decide +kernel
theorem dX12_carries_0 : decode cX12_carries 0 = .ok (.iload_n 1, 1) := by decide +kernel
theorem dX12_carries_1 : decode cX12_carries 1 = .ok (.invokestatic 325, 3) := by decide +kernel
theorem dX12_carries_4 : decode cX12_carries 4 = .ok (.ifCond .eq 10, 3) := by decide +kernel
theorem dX12_carries_7 : decode cX12_carries 7 = .ok (.iload_n 2, 1) := by decide +kernel
theorem dX12_carries_8 : decode cX12_carries 8 = .ok (.invokestatic 325, 3) := by decide +kernel
theorem dX12_carries_11 : decode cX12_carries 11 = .ok (.ifCond .ne 6, 3) := by decide +kernel
theorem dX12_carries_14 : decode cX12_carries 14 = .ok (.bipush (-2), 2) := by decide +kernel
theorem dX12_carries_16 : decode cX12_carries 16 = .ok (.ireturn, 1) := by decide +kernel
theorem dX12_carries_17 : decode cX12_carries 17 = .ok (.aload_n 0, 1) := by decide +kernel
theorem dX12_carries_18 : decode cX12_carries 18 = .ok (.getfield 43, 3) := by decide +kernel
theorem dX12_carries_21 : decode cX12_carries 21 = .ok (.iload_n 1, 1) := by decide +kernel
theorem dX12_carries_22 : decode cX12_carries 22 = .ok (.iaload, 1) := by decide +kernel
theorem dX12_carries_23 : decode cX12_carries 23 = .ok (.ifCond .eq 12, 3) := by decide +kernel
theorem dX12_carries_26 : decode cX12_carries 26 = .ok (.aload_n 0, 1) := by decide +kernel
theorem dX12_carries_27 : decode cX12_carries 27 = .ok (.getfield 43, 3) := by decide +kernel
theorem dX12_carries_30 : decode cX12_carries 30 = .ok (.iload_n 2, 1) := by decide +kernel
theorem dX12_carries_31 : decode cX12_carries 31 = .ok (.iaload, 1) := by decide +kernel
theorem dX12_carries_32 : decode cX12_carries 32 = .ok (.ifCond .ne 6, 3) := by decide +kernel
theorem dX12_carries_35 : decode cX12_carries 35 = .ok (.bipush (-4), 2) := by decide +kernel
theorem dX12_carries_37 : decode cX12_carries 37 = .ok (.ireturn, 1) := by decide +kernel
theorem dX12_carries_38 : decode cX12_carries 38 = .ok (.aload_n 0, 1) := by decide +kernel
theorem dX12_carries_39 : decode cX12_carries 39 = .ok (.iload_n 1, 1) := by decide +kernel
theorem dX12_carries_40 : decode cX12_carries 40 = .ok (.invokevirtual 343, 3) := by decide +kernel
theorem dX12_carries_43 : decode cX12_carries 43 = .ok (.aload_n 0, 1) := by decide +kernel
theorem dX12_carries_44 : decode cX12_carries 44 = .ok (.aload_n 0, 1) := by decide +kernel
theorem dX12_carries_45 : decode cX12_carries 45 = .ok (.getfield 43, 3) := by decide +kernel
theorem dX12_carries_48 : decode cX12_carries 48 = .ok (.iload_n 2, 1) := by decide +kernel
theorem dX12_carries_49 : decode cX12_carries 49 = .ok (.iaload, 1) := by decide +kernel
theorem dX12_carries_50 : decode cX12_carries 50 = .ok (.putfield 331, 3) := by decide +kernel
theorem dX12_carries_53 : decode cX12_carries 53 = .ok (.iconst 0, 1) := by decide +kernel
theorem dX12_carries_54 : decode cX12_carries 54 = .ok (.istore_n 3, 1) := by decide +kernel
theorem dX12_carries_55 : decode cX12_carries 55 = .ok (.iload_n 3, 1) := by decide +kernel
theorem dX12_carries_56 : decode cX12_carries 56 = .ok (.aload_n 0, 1) := by decide +kernel
theorem dX12_carries_57 : decode cX12_carries 57 = .ok (.getfield 331, 3) := by decide +kernel
theorem dX12_carries_60 : decode cX12_carries 60 = .ok (.if_icmp .ge 26, 3) := by decide +kernel
theorem dX12_carries_63 : decode cX12_carries 63 = .ok (.aload_n 0, 1) := by decide +kernel
theorem dX12_carries_64 : decode cX12_carries 64 = .ok (.getfield 117, 3) := by decide +kernel
theorem dX12_carries_67 : decode cX12_carries 67 = .ok (.iload_n 3, 1) := by decide +kernel
theorem dX12_carries_68 : decode cX12_carries 68 = .ok (.aload_n 0, 1) := by decide +kernel
theorem dX12_carries_69 : decode cX12_carries 69 = .ok (.getfield 40, 3) := by decide +kernel
theorem dX12_carries_72 : decode cX12_carries 72 = .ok (.bipush 12, 2) := by decide +kernel
theorem dX12_carries_74 : decode cX12_carries 74 = .ok (.iload_n 2, 1) := by decide +kernel
theorem dX12_carries_75 : decode cX12_carries 75 = .ok (.imul, 1) := by decide +kernel
theorem dX12_carries_76 : decode cX12_carries 76 = .ok (.iload_n 3, 1) := by decide +kernel
theorem dX12_carries_77 : decode cX12_carries 77 = .ok (.iadd, 1) := by decide +kernel
theorem dX12_carries_78 : decode cX12_carries 78 = .ok (.iaload, 1) := by decide +kernel
theorem dX12_carries_79 : decode cX12_carries 79 = .ok (.iastore, 1) := by decide +kernel
theorem dX12_carries_80 : decode cX12_carries 80 = .ok (.iinc 3 1, 3) := by decide +kernel
theorem dX12_carries_83 : decode cX12_carries 83 = .ok (.goto (-28), 3) := by decide +kernel
theorem dX12_carries_86 : decode cX12_carries 86 = .ok (.aload_n 0, 1) := by decide +kernel
theorem dX12_carries_87 : decode cX12_carries 87 = .ok (.invokevirtual 346, 3) := by decide +kernel
theorem dX12_carries_90 : decode cX12_carries 90 = .ok (.ifCond .le 7, 3) := by decide +kernel
theorem dX12_carries_93 : decode cX12_carries 93 = .ok (.iconst 1, 1) := by decide +kernel
theorem dX12_carries_94 : decode cX12_carries 94 = .ok (.goto 4, 3) := by decide +kernel
theorem dX12_carries_97 : decode cX12_carries 97 = .ok (.iconst 0, 1) := by decide +kernel
theorem dX12_carries_98 : decode cX12_carries 98 = .ok (.ireturn, 1) := by decide +kernel
theorem dX12_sample_0 : decode cX12_sample 0 = .ok (.iload_n 2, 1) := by decide +kernel
theorem dX12_sample_1 : decode cX12_sample 1 = .ok (.i2l, 1) := by decide +kernel
theorem dX12_sample_2 : decode cX12_sample 2 = .ok (.lconst 1, 1) := by decide +kernel
theorem dX12_sample_3 : decode cX12_sample 3 = .ok (.ldc2_w 135, 3) := by decide +kernel
theorem dX12_sample_6 : decode cX12_sample 6 = .ok (.invokestatic 131, 3) := by decide +kernel
theorem dX12_sample_9 : decode cX12_sample 9 = .ok (.istore_n 3, 1) := by decide +kernel
theorem dX12_sample_10 : decode cX12_sample 10 = .ok (.iconst 0, 1) := by decide +kernel
theorem dX12_sample_11 : decode cX12_sample 11 = .ok (.istore 4, 2) := by decide +kernel
theorem dX12_sample_13 : decode cX12_sample 13 = .ok (.iload_n 3, 1) := by decide +kernel
theorem dX12_sample_14 : decode cX12_sample 14 = .ok (.ifCond .eq 33, 3) := by decide +kernel
theorem dX12_sample_17 : decode cX12_sample 17 = .ok (.iload 4, 2) := by decide +kernel
theorem dX12_sample_19 : decode cX12_sample 19 = .ok (.iload_n 2, 1) := by decide +kernel
theorem dX12_sample_20 : decode cX12_sample 20 = .ok (.if_icmp .ge 27, 3) := by decide +kernel
theorem dX12_sample_23 : decode cX12_sample 23 = .ok (.iload_n 1, 1) := by decide +kernel
theorem dX12_sample_24 : decode cX12_sample 24 = .ok (.iconst 2, 1) := by decide +kernel
theorem dX12_sample_25 : decode cX12_sample 25 = .ok (.iload 4, 2) := by decide +kernel
theorem dX12_sample_27 : decode cX12_sample 27 = .ok (.imul, 1) := by decide +kernel
theorem dX12_sample_28 : decode cX12_sample 28 = .ok (.ishr, 1) := by decide +kernel
theorem dX12_sample_29 : decode cX12_sample 29 = .ok (.iconst 3, 1) := by decide +kernel
theorem dX12_sample_30 : decode cX12_sample 30 = .ok (.iand, 1) := by decide +kernel
theorem dX12_sample_31 : decode cX12_sample 31 = .ok (.iconst 3, 1) := by decide +kernel
theorem dX12_sample_32 : decode cX12_sample 32 = .ok (.if_icmp .ge 7, 3) := by decide +kernel
theorem dX12_sample_35 : decode cX12_sample 35 = .ok (.iconst 1, 1) := by decide +kernel
theorem dX12_sample_36 : decode cX12_sample 36 = .ok (.goto 4, 3) := by decide +kernel
theorem dX12_sample_39 : decode cX12_sample 39 = .ok (.iconst 0, 1) := by decide +kernel
theorem dX12_sample_40 : decode cX12_sample 40 = .ok (.istore_n 3, 1) := by decide +kernel
theorem dX12_sample_41 : decode cX12_sample 41 = .ok (.iinc 4 1, 3) := by decide +kernel
theorem dX12_sample_44 : decode cX12_sample 44 = .ok (.goto (-31), 3) := by decide +kernel
theorem dX12_sample_47 : decode cX12_sample 47 = .ok (.iload_n 3, 1) := by decide +kernel
theorem dX12_sample_48 : decode cX12_sample 48 = .ok (.ifCond .ne 6, 3) := by decide +kernel
theorem dX12_sample_51 : decode cX12_sample 51 = .ok (.bipush (-3), 2) := by decide +kernel
theorem dX12_sample_53 : decode cX12_sample 53 = .ok (.ireturn, 1) := by decide +kernel
theorem dX12_sample_54 : decode cX12_sample 54 = .ok (.aload_n 0, 1) := by decide +kernel
theorem dX12_sample_55 : decode cX12_sample 55 = .ok (.getfield 349, 3) := by decide +kernel
theorem dX12_sample_58 : decode cX12_sample 58 = .ok (.bipush 6, 2) := by decide +kernel
theorem dX12_sample_60 : decode cX12_sample 60 = .ok (.if_icmp .ne 6, 3) := by decide +kernel
theorem dX12_sample_63 : decode cX12_sample 63 = .ok (.bipush (-5), 2) := by decide +kernel
theorem dX12_sample_65 : decode cX12_sample 65 = .ok (.ireturn, 1) := by decide +kernel
theorem dX12_sample_66 : decode cX12_sample 66 = .ok (.iconst 0, 1) := by decide +kernel
theorem dX12_sample_67 : decode cX12_sample 67 = .ok (.istore 4, 2) := by decide +kernel
theorem dX12_sample_69 : decode cX12_sample 69 = .ok (.iload 4, 2) := by decide +kernel
theorem dX12_sample_71 : decode cX12_sample 71 = .ok (.iload_n 2, 1) := by decide +kernel
theorem dX12_sample_72 : decode cX12_sample 72 = .ok (.if_icmp .ge 32, 3) := by decide +kernel
theorem dX12_sample_75 : decode cX12_sample 75 = .ok (.aload_n 0, 1) := by decide +kernel
theorem dX12_sample_76 : decode cX12_sample 76 = .ok (.getfield 46, 3) := by decide +kernel
theorem dX12_sample_79 : decode cX12_sample 79 = .ok (.bipush 8, 2) := by decide +kernel
theorem dX12_sample_81 : decode cX12_sample 81 = .ok (.aload_n 0, 1) := by decide +kernel
theorem dX12_sample_82 : decode cX12_sample 82 = .ok (.getfield 349, 3) := by decide +kernel
theorem dX12_sample_85 : decode cX12_sample 85 = .ok (.imul, 1) := by decide +kernel
theorem dX12_sample_86 : decode cX12_sample 86 = .ok (.iload 4, 2) := by decide +kernel
theorem dX12_sample_88 : decode cX12_sample 88 = .ok (.iadd, 1) := by decide +kernel
theorem dX12_sample_89 : decode cX12_sample 89 = .ok (.iload_n 1, 1) := by decide +kernel
theorem dX12_sample_90 : decode cX12_sample 90 = .ok (.iconst 2, 1) := by decide +kernel
theorem dX12_sample_91 : decode cX12_sample 91 = .ok (.iload 4, 2) := by decide +kernel
theorem dX12_sample_93 : decode cX12_sample 93 = .ok (.imul, 1) := by decide +kernel
theorem dX12_sample_94 : decode cX12_sample 94 = .ok (.ishr, 1) := by decide +kernel
theorem dX12_sample_95 : decode cX12_sample 95 = .ok (.iconst 3, 1) := by decide +kernel
theorem dX12_sample_96 : decode cX12_sample 96 = .ok (.iand, 1) := by decide +kernel
theorem dX12_sample_97 : decode cX12_sample 97 = .ok (.iastore, 1) := by decide +kernel
theorem dX12_sample_98 : decode cX12_sample 98 = .ok (.iinc 4 1, 3) := by decide +kernel
theorem dX12_sample_101 : decode cX12_sample 101 = .ok (.goto (-32), 3) := by decide +kernel
theorem dX12_sample_104 : decode cX12_sample 104 = .ok (.aload_n 0, 1) := by decide +kernel
theorem dX12_sample_105 : decode cX12_sample 105 = .ok (.getfield 49, 3) := by decide +kernel
theorem dX12_sample_108 : decode cX12_sample 108 = .ok (.aload_n 0, 1) := by decide +kernel
theorem dX12_sample_109 : decode cX12_sample 109 = .ok (.getfield 349, 3) := by decide +kernel
theorem dX12_sample_112 : decode cX12_sample 112 = .ok (.iload_n 2, 1) := by decide +kernel
theorem dX12_sample_113 : decode cX12_sample 113 = .ok (.iastore, 1) := by decide +kernel
theorem dX12_sample_114 : decode cX12_sample 114 = .ok (.aload_n 0, 1) := by decide +kernel
theorem dX12_sample_115 : decode cX12_sample 115 = .ok (.dup, 1) := by decide +kernel
theorem dX12_sample_116 : decode cX12_sample 116 = .ok (.getfield 349, 3) := by decide +kernel
theorem dX12_sample_119 : decode cX12_sample 119 = .ok (.iconst 1, 1) := by decide +kernel
theorem dX12_sample_120 : decode cX12_sample 120 = .ok (.iadd, 1) := by decide +kernel
theorem dX12_sample_121 : decode cX12_sample 121 = .ok (.putfield 349, 3) := by decide +kernel
theorem dX12_sample_124 : decode cX12_sample 124 = .ok (.aload_n 0, 1) := by decide +kernel
theorem dX12_sample_125 : decode cX12_sample 125 = .ok (.getfield 349, 3) := by decide +kernel
theorem dX12_sample_128 : decode cX12_sample 128 = .ok (.ireturn, 1) := by decide +kernel
theorem dX12_clear_0 : decode cX12_clear 0 = .ok (.aload_n 0, 1) := by decide +kernel
theorem dX12_clear_1 : decode cX12_clear 1 = .ok (.getfield 349, 3) := by decide +kernel
theorem dX12_clear_4 : decode cX12_clear 4 = .ok (.istore_n 1, 1) := by decide +kernel
theorem dX12_clear_5 : decode cX12_clear 5 = .ok (.aload_n 0, 1) := by decide +kernel
theorem dX12_clear_6 : decode cX12_clear 6 = .ok (.iconst 0, 1) := by decide +kernel
theorem dX12_clear_7 : decode cX12_clear 7 = .ok (.putfield 349, 3) := by decide +kernel
theorem dX12_clear_10 : decode cX12_clear 10 = .ok (.iload_n 1, 1) := by decide +kernel
theorem dX12_clear_11 : decode cX12_clear 11 = .ok (.ireturn, 1) := by decide +kernel
theorem dX12_makesAll_0 : decode cX12_makesAll 0 = .ok (.iconst 1, 1) := by decide +kernel
theorem dX12_makesAll_1 : decode cX12_makesAll 1 = .ok (.istore_n 1, 1) := by decide +kernel
theorem dX12_makesAll_2 : decode cX12_makesAll 2 = .ok (.iconst 0, 1) := by decide +kernel
theorem dX12_makesAll_3 : decode cX12_makesAll 3 = .ok (.istore_n 2, 1) := by decide +kernel
theorem dX12_makesAll_4 : decode cX12_makesAll 4 = .ok (.iload_n 1, 1) := by decide +kernel
theorem dX12_makesAll_5 : decode cX12_makesAll 5 = .ok (.ifCond .eq 73, 3) := by decide +kernel
theorem dX12_makesAll_8 : decode cX12_makesAll 8 = .ok (.iload_n 2, 1) := by decide +kernel
theorem dX12_makesAll_9 : decode cX12_makesAll 9 = .ok (.aload_n 0, 1) := by decide +kernel
theorem dX12_makesAll_10 : decode cX12_makesAll 10 = .ok (.getfield 349, 3) := by decide +kernel
theorem dX12_makesAll_13 : decode cX12_makesAll 13 = .ok (.if_icmp .ge 65, 3) := by decide +kernel
theorem dX12_makesAll_16 : decode cX12_makesAll 16 = .ok (.aload_n 0, 1) := by decide +kernel
theorem dX12_makesAll_17 : decode cX12_makesAll 17 = .ok (.aload_n 0, 1) := by decide +kernel
theorem dX12_makesAll_18 : decode cX12_makesAll 18 = .ok (.getfield 49, 3) := by decide +kernel
theorem dX12_makesAll_21 : decode cX12_makesAll 21 = .ok (.iload_n 2, 1) := by decide +kernel
theorem dX12_makesAll_22 : decode cX12_makesAll 22 = .ok (.iaload, 1) := by decide +kernel
theorem dX12_makesAll_23 : decode cX12_makesAll 23 = .ok (.putfield 331, 3) := by decide +kernel
theorem dX12_makesAll_26 : decode cX12_makesAll 26 = .ok (.iconst 0, 1) := by decide +kernel
theorem dX12_makesAll_27 : decode cX12_makesAll 27 = .ok (.istore_n 3, 1) := by decide +kernel
theorem dX12_makesAll_28 : decode cX12_makesAll 28 = .ok (.iload_n 3, 1) := by decide +kernel
theorem dX12_makesAll_29 : decode cX12_makesAll 29 = .ok (.aload_n 0, 1) := by decide +kernel
theorem dX12_makesAll_30 : decode cX12_makesAll 30 = .ok (.getfield 331, 3) := by decide +kernel
theorem dX12_makesAll_33 : decode cX12_makesAll 33 = .ok (.if_icmp .ge 26, 3) := by decide +kernel
theorem dX12_makesAll_36 : decode cX12_makesAll 36 = .ok (.aload_n 0, 1) := by decide +kernel
theorem dX12_makesAll_37 : decode cX12_makesAll 37 = .ok (.getfield 117, 3) := by decide +kernel
theorem dX12_makesAll_40 : decode cX12_makesAll 40 = .ok (.iload_n 3, 1) := by decide +kernel
theorem dX12_makesAll_41 : decode cX12_makesAll 41 = .ok (.aload_n 0, 1) := by decide +kernel
theorem dX12_makesAll_42 : decode cX12_makesAll 42 = .ok (.getfield 46, 3) := by decide +kernel
theorem dX12_makesAll_45 : decode cX12_makesAll 45 = .ok (.bipush 8, 2) := by decide +kernel
theorem dX12_makesAll_47 : decode cX12_makesAll 47 = .ok (.iload_n 2, 1) := by decide +kernel
theorem dX12_makesAll_48 : decode cX12_makesAll 48 = .ok (.imul, 1) := by decide +kernel
theorem dX12_makesAll_49 : decode cX12_makesAll 49 = .ok (.iload_n 3, 1) := by decide +kernel
theorem dX12_makesAll_50 : decode cX12_makesAll 50 = .ok (.iadd, 1) := by decide +kernel
theorem dX12_makesAll_51 : decode cX12_makesAll 51 = .ok (.iaload, 1) := by decide +kernel
theorem dX12_makesAll_52 : decode cX12_makesAll 52 = .ok (.iastore, 1) := by decide +kernel
theorem dX12_makesAll_53 : decode cX12_makesAll 53 = .ok (.iinc 3 1, 3) := by decide +kernel
theorem dX12_makesAll_56 : decode cX12_makesAll 56 = .ok (.goto (-28), 3) := by decide +kernel
theorem dX12_makesAll_59 : decode cX12_makesAll 59 = .ok (.aload_n 0, 1) := by decide +kernel
theorem dX12_makesAll_60 : decode cX12_makesAll 60 = .ok (.invokevirtual 346, 3) := by decide +kernel
theorem dX12_makesAll_63 : decode cX12_makesAll 63 = .ok (.ifCond .le 7, 3) := by decide +kernel
theorem dX12_makesAll_66 : decode cX12_makesAll 66 = .ok (.iconst 1, 1) := by decide +kernel
theorem dX12_makesAll_67 : decode cX12_makesAll 67 = .ok (.goto 4, 3) := by decide +kernel
theorem dX12_makesAll_70 : decode cX12_makesAll 70 = .ok (.iconst 0, 1) := by decide +kernel
theorem dX12_makesAll_71 : decode cX12_makesAll 71 = .ok (.istore_n 1, 1) := by decide +kernel
theorem dX12_makesAll_72 : decode cX12_makesAll 72 = .ok (.iinc 2 1, 3) := by decide +kernel
theorem dX12_makesAll_75 : decode cX12_makesAll 75 = .ok (.goto (-71), 3) := by decide +kernel
theorem dX12_makesAll_78 : decode cX12_makesAll 78 = .ok (.iload_n 1, 1) := by decide +kernel
theorem dX12_makesAll_79 : decode cX12_makesAll 79 = .ok (.ireturn, 1) := by decide +kernel
theorem dX12_common_0 : decode cX12_common 0 = .ok (.iload_n 1, 1) := by decide +kernel
theorem dX12_common_1 : decode cX12_common 1 = .ok (.iconst (-1), 1) := by decide +kernel
theorem dX12_common_2 : decode cX12_common 2 = .ok (.if_icmp .ge 6, 3) := by decide +kernel
theorem dX12_common_5 : decode cX12_common 5 = .ok (.bipush (-3), 2) := by decide +kernel
theorem dX12_common_7 : decode cX12_common 7 = .ok (.ireturn, 1) := by decide +kernel
theorem dX12_common_8 : decode cX12_common 8 = .ok (.aload_n 0, 1) := by decide +kernel
theorem dX12_common_9 : decode cX12_common 9 = .ok (.getfield 349, 3) := by decide +kernel
theorem dX12_common_12 : decode cX12_common 12 = .ok (.ifCond .ne 6, 3) := by decide +kernel
theorem dX12_common_15 : decode cX12_common 15 = .ok (.bipush (-4), 2) := by decide +kernel
theorem dX12_common_17 : decode cX12_common 17 = .ok (.ireturn, 1) := by decide +kernel
theorem dX12_common_18 : decode cX12_common 18 = .ok (.bipush 8, 2) := by decide +kernel
theorem dX12_common_20 : decode cX12_common 20 = .ok (.istore_n 2, 1) := by decide +kernel
theorem dX12_common_21 : decode cX12_common 21 = .ok (.iload_n 2, 1) := by decide +kernel
theorem dX12_common_22 : decode cX12_common 22 = .ok (.iconst 1, 1) := by decide +kernel
theorem dX12_common_23 : decode cX12_common 23 = .ok (.if_icmp .le 137, 3) := by decide +kernel
theorem dX12_common_26 : decode cX12_common 26 = .ok (.iconst 0, 1) := by decide +kernel
theorem dX12_common_27 : decode cX12_common 27 = .ok (.istore_n 3, 1) := by decide +kernel
theorem dX12_common_28 : decode cX12_common 28 = .ok (.iload_n 3, 1) := by decide +kernel
theorem dX12_common_29 : decode cX12_common 29 = .ok (.iconst 1, 1) := by decide +kernel
theorem dX12_common_30 : decode cX12_common 30 = .ok (.iconst 2, 1) := by decide +kernel
theorem dX12_common_31 : decode cX12_common 31 = .ok (.iload_n 2, 1) := by decide +kernel
theorem dX12_common_32 : decode cX12_common 32 = .ok (.imul, 1) := by decide +kernel
theorem dX12_common_33 : decode cX12_common 33 = .ok (.ishl, 1) := by decide +kernel
theorem dX12_common_34 : decode cX12_common 34 = .ok (.if_icmp .ge 120, 3) := by decide +kernel
theorem dX12_common_37 : decode cX12_common 37 = .ok (.aload_n 0, 1) := by decide +kernel
theorem dX12_common_38 : decode cX12_common 38 = .ok (.iload_n 2, 1) := by decide +kernel
theorem dX12_common_39 : decode cX12_common 39 = .ok (.putfield 328, 3) := by decide +kernel
theorem dX12_common_42 : decode cX12_common 42 = .ok (.iconst 0, 1) := by decide +kernel
theorem dX12_common_43 : decode cX12_common 43 = .ok (.istore 4, 2) := by decide +kernel
theorem dX12_common_45 : decode cX12_common 45 = .ok (.iconst 0, 1) := by decide +kernel
theorem dX12_common_46 : decode cX12_common 46 = .ok (.istore 5, 2) := by decide +kernel
theorem dX12_common_48 : decode cX12_common 48 = .ok (.iload 5, 2) := by decide +kernel
theorem dX12_common_50 : decode cX12_common 50 = .ok (.iload_n 2, 1) := by decide +kernel
theorem dX12_common_51 : decode cX12_common 51 = .ok (.if_icmp .ge 60, 3) := by decide +kernel
theorem dX12_common_54 : decode cX12_common 54 = .ok (.iload_n 3, 1) := by decide +kernel
theorem dX12_common_55 : decode cX12_common 55 = .ok (.iconst 2, 1) := by decide +kernel
theorem dX12_common_56 : decode cX12_common 56 = .ok (.iload_n 2, 1) := by decide +kernel
theorem dX12_common_57 : decode cX12_common 57 = .ok (.iconst 1, 1) := by decide +kernel
theorem dX12_common_58 : decode cX12_common 58 = .ok (.isub, 1) := by decide +kernel
theorem dX12_common_59 : decode cX12_common 59 = .ok (.iload 5, 2) := by decide +kernel
theorem dX12_common_61 : decode cX12_common 61 = .ok (.isub, 1) := by decide +kernel
theorem dX12_common_62 : decode cX12_common 62 = .ok (.imul, 1) := by decide +kernel
theorem dX12_common_63 : decode cX12_common 63 = .ok (.ishr, 1) := by decide +kernel
theorem dX12_common_64 : decode cX12_common 64 = .ok (.iconst 3, 1) := by decide +kernel
theorem dX12_common_65 : decode cX12_common 65 = .ok (.iand, 1) := by decide +kernel
theorem dX12_common_66 : decode cX12_common 66 = .ok (.istore 6, 2) := by decide +kernel
theorem dX12_common_68 : decode cX12_common 68 = .ok (.aload_n 0, 1) := by decide +kernel
theorem dX12_common_69 : decode cX12_common 69 = .ok (.getfield 120, 3) := by decide +kernel
theorem dX12_common_72 : decode cX12_common 72 = .ok (.iload 5, 2) := by decide +kernel
theorem dX12_common_74 : decode cX12_common 74 = .ok (.iload 6, 2) := by decide +kernel
theorem dX12_common_76 : decode cX12_common 76 = .ok (.iconst 3, 1) := by decide +kernel
theorem dX12_common_77 : decode cX12_common 77 = .ok (.if_icmp .ne 7, 3) := by decide +kernel
theorem dX12_common_80 : decode cX12_common 80 = .ok (.iconst 5, 1) := by decide +kernel
theorem dX12_common_81 : decode cX12_common 81 = .ok (.goto 5, 3) := by decide +kernel
theorem dX12_common_84 : decode cX12_common 84 = .ok (.iload 6, 2) := by decide +kernel
theorem dX12_common_86 : decode cX12_common 86 = .ok (.iastore, 1) := by decide +kernel
theorem dX12_common_87 : decode cX12_common 87 = .ok (.iload 4, 2) := by decide +kernel
theorem dX12_common_89 : decode cX12_common 89 = .ok (.ifCond .ne 9, 3) := by decide +kernel
theorem dX12_common_92 : decode cX12_common 92 = .ok (.iload 6, 2) := by decide +kernel
theorem dX12_common_94 : decode cX12_common 94 = .ok (.iconst 3, 1) := by decide +kernel
theorem dX12_common_95 : decode cX12_common 95 = .ok (.if_icmp .ne 7, 3) := by decide +kernel
theorem dX12_common_98 : decode cX12_common 98 = .ok (.iconst 1, 1) := by decide +kernel
theorem dX12_common_99 : decode cX12_common 99 = .ok (.goto 4, 3) := by decide +kernel
theorem dX12_common_102 : decode cX12_common 102 = .ok (.iconst 0, 1) := by decide +kernel
theorem dX12_common_103 : decode cX12_common 103 = .ok (.istore 4, 2) := by decide +kernel
theorem dX12_common_105 : decode cX12_common 105 = .ok (.iinc 5 1, 3) := by decide +kernel
theorem dX12_common_108 : decode cX12_common 108 = .ok (.goto (-60), 3) := by decide +kernel
theorem dX12_common_111 : decode cX12_common 111 = .ok (.iload 4, 2) := by decide +kernel
theorem dX12_common_113 : decode cX12_common 113 = .ok (.ifCond .eq 35, 3) := by decide +kernel
theorem dX12_common_116 : decode cX12_common 116 = .ok (.aload_n 0, 1) := by decide +kernel
theorem dX12_common_117 : decode cX12_common 117 = .ok (.invokevirtual 352, 3) := by decide +kernel
theorem dX12_common_120 : decode cX12_common 120 = .ok (.ifCond .eq 28, 3) := by decide +kernel
theorem dX12_common_123 : decode cX12_common 123 = .ok (.iload_n 1, 1) := by decide +kernel
theorem dX12_common_124 : decode cX12_common 124 = .ok (.iconst (-1), 1) := by decide +kernel
theorem dX12_common_125 : decode cX12_common 125 = .ok (.if_icmp .ne 7, 3) := by decide +kernel
theorem dX12_common_128 : decode cX12_common 128 = .ok (.iload_n 2, 1) := by decide +kernel
theorem dX12_common_129 : decode cX12_common 129 = .ok (.goto 18, 3) := by decide +kernel
theorem dX12_common_132 : decode cX12_common 132 = .ok (.iload_n 1, 1) := by decide +kernel
theorem dX12_common_133 : decode cX12_common 133 = .ok (.iload_n 2, 1) := by decide +kernel
theorem dX12_common_134 : decode cX12_common 134 = .ok (.if_icmp .ge 12, 3) := by decide +kernel
theorem dX12_common_137 : decode cX12_common 137 = .ok (.aload_n 0, 1) := by decide +kernel
theorem dX12_common_138 : decode cX12_common 138 = .ok (.getfield 120, 3) := by decide +kernel
theorem dX12_common_141 : decode cX12_common 141 = .ok (.iload_n 1, 1) := by decide +kernel
theorem dX12_common_142 : decode cX12_common 142 = .ok (.iaload, 1) := by decide +kernel
theorem dX12_common_143 : decode cX12_common 143 = .ok (.goto 4, 3) := by decide +kernel
theorem dX12_common_146 : decode cX12_common 146 = .ok (.iconst (-1), 1) := by decide +kernel
theorem dX12_common_147 : decode cX12_common 147 = .ok (.ireturn, 1) := by decide +kernel
theorem dX12_common_148 : decode cX12_common 148 = .ok (.iinc 3 1, 3) := by decide +kernel
theorem dX12_common_151 : decode cX12_common 151 = .ok (.goto (-123), 3) := by decide +kernel
theorem dX12_common_154 : decode cX12_common 154 = .ok (.iinc 2 (-1), 3) := by decide +kernel
theorem dX12_common_157 : decode cX12_common 157 = .ok (.goto (-136), 3) := by decide +kernel
theorem dX12_common_160 : decode cX12_common 160 = .ok (.iload_n 1, 1) := by decide +kernel
theorem dX12_common_161 : decode cX12_common 161 = .ok (.iconst (-1), 1) := by decide +kernel
theorem dX12_common_162 : decode cX12_common 162 = .ok (.if_icmp .ne 7, 3) := by decide +kernel
theorem dX12_common_165 : decode cX12_common 165 = .ok (.iconst 1, 1) := by decide +kernel
theorem dX12_common_166 : decode cX12_common 166 = .ok (.goto 12, 3) := by decide +kernel
theorem dX12_common_169 : decode cX12_common 169 = .ok (.iload_n 1, 1) := by decide +kernel
theorem dX12_common_170 : decode cX12_common 170 = .ok (.ifCond .ne 7, 3) := by decide +kernel
theorem dX12_common_173 : decode cX12_common 173 = .ok (.iconst 5, 1) := by decide +kernel
theorem dX12_common_174 : decode cX12_common 174 = .ok (.goto 4, 3) := by decide +kernel
theorem dX12_common_177 : decode cX12_common 177 = .ok (.iconst (-1), 1) := by decide +kernel
theorem dX12_common_178 : decode cX12_common 178 = .ok (.ireturn, 1) := by decide +kernel
theorem dX12_count_0 : decode cX12_count 0 = .ok (.iconst 0, 1) := by decide +kernel
theorem dX12_count_1 : decode cX12_count 1 = .ok (.istore_n 2, 1) := by decide +kernel
theorem dX12_count_2 : decode cX12_count 2 = .ok (.iload_n 1, 1) := by decide +kernel
theorem dX12_count_3 : decode cX12_count 3 = .ok (.tableswitch 106 0 4 #[33, 38, 43, 69, 74], 33) := by decide +kernel
theorem dX12_count_36 : decode cX12_count 36 = .ok (.aload_n 0, 1) := by decide +kernel
theorem dX12_count_37 : decode cX12_count 37 = .ok (.getfield 154, 3) := by decide +kernel
theorem dX12_count_40 : decode cX12_count 40 = .ok (.ireturn, 1) := by decide +kernel
theorem dX12_count_41 : decode cX12_count 41 = .ok (.aload_n 0, 1) := by decide +kernel
theorem dX12_count_42 : decode cX12_count 42 = .ok (.getfield 137, 3) := by decide +kernel
theorem dX12_count_45 : decode cX12_count 45 = .ok (.ireturn, 1) := by decide +kernel
theorem dX12_count_46 : decode cX12_count 46 = .ok (.iconst 0, 1) := by decide +kernel
theorem dX12_count_47 : decode cX12_count 47 = .ok (.istore_n 3, 1) := by decide +kernel
theorem dX12_count_48 : decode cX12_count 48 = .ok (.iload_n 3, 1) := by decide +kernel
theorem dX12_count_49 : decode cX12_count 49 = .ok (.iconst 4, 1) := by decide +kernel
theorem dX12_count_50 : decode cX12_count 50 = .ok (.if_icmp .ge 20, 3) := by decide +kernel
theorem dX12_count_53 : decode cX12_count 53 = .ok (.iload_n 2, 1) := by decide +kernel
theorem dX12_count_54 : decode cX12_count 54 = .ok (.aload_n 0, 1) := by decide +kernel
theorem dX12_count_55 : decode cX12_count 55 = .ok (.invokevirtual 169, 3) := by decide +kernel
theorem dX12_count_58 : decode cX12_count 58 = .ok (.iload_n 3, 1) := by decide +kernel
theorem dX12_count_59 : decode cX12_count 59 = .ok (.ishr, 1) := by decide +kernel
theorem dX12_count_60 : decode cX12_count 60 = .ok (.iconst 1, 1) := by decide +kernel
theorem dX12_count_61 : decode cX12_count 61 = .ok (.iand, 1) := by decide +kernel
theorem dX12_count_62 : decode cX12_count 62 = .ok (.iadd, 1) := by decide +kernel
theorem dX12_count_63 : decode cX12_count 63 = .ok (.istore_n 2, 1) := by decide +kernel
theorem dX12_count_64 : decode cX12_count 64 = .ok (.iinc 3 1, 3) := by decide +kernel
theorem dX12_count_67 : decode cX12_count 67 = .ok (.goto (-19), 3) := by decide +kernel
theorem dX12_count_70 : decode cX12_count 70 = .ok (.iload_n 2, 1) := by decide +kernel
theorem dX12_count_71 : decode cX12_count 71 = .ok (.ireturn, 1) := by decide +kernel
theorem dX12_count_72 : decode cX12_count 72 = .ok (.aload_n 0, 1) := by decide +kernel
theorem dX12_count_73 : decode cX12_count 73 = .ok (.getfield 349, 3) := by decide +kernel
theorem dX12_count_76 : decode cX12_count 76 = .ok (.ireturn, 1) := by decide +kernel
theorem dX12_count_77 : decode cX12_count 77 = .ok (.iconst 0, 1) := by decide +kernel
theorem dX12_count_78 : decode cX12_count 78 = .ok (.istore_n 3, 1) := by decide +kernel
theorem dX12_count_79 : decode cX12_count 79 = .ok (.iload_n 3, 1) := by decide +kernel
theorem dX12_count_80 : decode cX12_count 80 = .ok (.iconst 4, 1) := by decide +kernel
theorem dX12_count_81 : decode cX12_count 81 = .ok (.if_icmp .ge 26, 3) := by decide +kernel
theorem dX12_count_84 : decode cX12_count 84 = .ok (.iload_n 2, 1) := by decide +kernel
theorem dX12_count_85 : decode cX12_count 85 = .ok (.aload_n 0, 1) := by decide +kernel
theorem dX12_count_86 : decode cX12_count 86 = .ok (.getfield 43, 3) := by decide +kernel
theorem dX12_count_89 : decode cX12_count 89 = .ok (.iload_n 3, 1) := by decide +kernel
theorem dX12_count_90 : decode cX12_count 90 = .ok (.iaload, 1) := by decide +kernel
theorem dX12_count_91 : decode cX12_count 91 = .ok (.ifCond .le 7, 3) := by decide +kernel
theorem dX12_count_94 : decode cX12_count 94 = .ok (.iconst 1, 1) := by decide +kernel
theorem dX12_count_95 : decode cX12_count 95 = .ok (.goto 4, 3) := by decide +kernel
theorem dX12_count_98 : decode cX12_count 98 = .ok (.iconst 0, 1) := by decide +kernel
theorem dX12_count_99 : decode cX12_count 99 = .ok (.iadd, 1) := by decide +kernel
theorem dX12_count_100 : decode cX12_count 100 = .ok (.istore_n 2, 1) := by decide +kernel
theorem dX12_count_101 : decode cX12_count 101 = .ok (.iinc 3 1, 3) := by decide +kernel
theorem dX12_count_104 : decode cX12_count 104 = .ok (.goto (-25), 3) := by decide +kernel
theorem dX12_count_107 : decode cX12_count 107 = .ok (.iload_n 2, 1) := by decide +kernel
theorem dX12_count_108 : decode cX12_count 108 = .ok (.ireturn, 1) := by decide +kernel
theorem dX12_count_109 : decode cX12_count 109 = .ok (.bipush (-3), 2) := by decide +kernel
theorem dX12_count_111 : decode cX12_count 111 = .ok (.ireturn, 1) := by decide +kernel
