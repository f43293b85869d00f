theorem d_Model_init_0 : decode prog_13_method_1_code 0 = .ok (.aload_n 0, 1) := by decide +kernel
theorem d_Model_init_1 : decode prog_13_method_1_code 1 = .ok (.invokespecial 1, 3) := by decide +kernel
theorem d_Model_init_4 : decode prog_13_method_1_code 4 = .ok (.aload_n 0, 1) := by decide +kernel
theorem d_Model_init_5 : decode prog_13_method_1_code 5 = .ok (.bipush 6, 2) := by decide +kernel
theorem d_Model_init_7 : decode prog_13_method_1_code 7 = .ok (.newarray .int, 2) := by decide +kernel
theorem d_Model_init_9 : decode prog_13_method_1_code 9 = .ok (.putfield 7, 3) := by decide +kernel
theorem d_Model_init_12 : decode prog_13_method_1_code 12 = .ok (.aload_n 0, 1) := by decide +kernel
theorem d_Model_init_13 : decode prog_13_method_1_code 13 = .ok (.bipush 6, 2) := by decide +kernel
theorem d_Model_init_15 : decode prog_13_method_1_code 15 = .ok (.newarray .int, 2) := by decide +kernel
theorem d_Model_init_17 : decode prog_13_method_1_code 17 = .ok (.putfield 13, 3) := by decide +kernel
theorem d_Model_init_20 : decode prog_13_method_1_code 20 = .ok (.aload_n 0, 1) := by decide +kernel
theorem d_Model_init_21 : decode prog_13_method_1_code 21 = .ok (.bipush 24, 2) := by decide +kernel
theorem d_Model_init_23 : decode prog_13_method_1_code 23 = .ok (.newarray .int, 2) := by decide +kernel
theorem d_Model_init_25 : decode prog_13_method_1_code 25 = .ok (.putfield 16, 3) := by decide +kernel
theorem d_Model_init_28 : decode prog_13_method_1_code 28 = .ok (.aload_n 0, 1) := by decide +kernel
theorem d_Model_init_29 : decode prog_13_method_1_code 29 = .ok (.bipush 24, 2) := by decide +kernel
theorem d_Model_init_31 : decode prog_13_method_1_code 31 = .ok (.newarray .int, 2) := by decide +kernel
theorem d_Model_init_33 : decode prog_13_method_1_code 33 = .ok (.putfield 19, 3) := by decide +kernel
theorem d_Model_init_36 : decode prog_13_method_1_code 36 = .ok (.aload_n 0, 1) := by decide +kernel
theorem d_Model_init_37 : decode prog_13_method_1_code 37 = .ok (.bipush 24, 2) := by decide +kernel
theorem d_Model_init_39 : decode prog_13_method_1_code 39 = .ok (.newarray .int, 2) := by decide +kernel
theorem d_Model_init_41 : decode prog_13_method_1_code 41 = .ok (.putfield 22, 3) := by decide +kernel
theorem d_Model_init_44 : decode prog_13_method_1_code 44 = .ok (.aload_n 0, 1) := by decide +kernel
theorem d_Model_init_45 : decode prog_13_method_1_code 45 = .ok (.bipush 24, 2) := by decide +kernel
theorem d_Model_init_47 : decode prog_13_method_1_code 47 = .ok (.newarray .int, 2) := by decide +kernel
theorem d_Model_init_49 : decode prog_13_method_1_code 49 = .ok (.putfield 25, 3) := by decide +kernel
theorem d_Model_init_52 : decode prog_13_method_1_code 52 = .ok (.aload_n 0, 1) := by decide +kernel
theorem d_Model_init_53 : decode prog_13_method_1_code 53 = .ok (.bipush 24, 2) := by decide +kernel
theorem d_Model_init_55 : decode prog_13_method_1_code 55 = .ok (.newarray .int, 2) := by decide +kernel
theorem d_Model_init_57 : decode prog_13_method_1_code 57 = .ok (.putfield 28, 3) := by decide +kernel
theorem d_Model_init_60 : decode prog_13_method_1_code 60 = .ok (.aload_n 0, 1) := by decide +kernel
theorem d_Model_init_61 : decode prog_13_method_1_code 61 = .ok (.bipush 12, 2) := by decide +kernel
theorem d_Model_init_63 : decode prog_13_method_1_code 63 = .ok (.newarray .int, 2) := by decide +kernel
theorem d_Model_init_65 : decode prog_13_method_1_code 65 = .ok (.putfield 31, 3) := by decide +kernel
theorem d_Model_init_68 : decode prog_13_method_1_code 68 = .ok (.aload_n 0, 1) := by decide +kernel
theorem d_Model_init_69 : decode prog_13_method_1_code 69 = .ok (.bipush 12, 2) := by decide +kernel
theorem d_Model_init_71 : decode prog_13_method_1_code 71 = .ok (.newarray .int, 2) := by decide +kernel
theorem d_Model_init_73 : decode prog_13_method_1_code 73 = .ok (.putfield 34, 3) := by decide +kernel
theorem d_Model_init_76 : decode prog_13_method_1_code 76 = .ok (.aload_n 0, 1) := by decide +kernel
theorem d_Model_init_77 : decode prog_13_method_1_code 77 = .ok (.bipush 12, 2) := by decide +kernel
theorem d_Model_init_79 : decode prog_13_method_1_code 79 = .ok (.newarray .int, 2) := by decide +kernel
theorem d_Model_init_81 : decode prog_13_method_1_code 81 = .ok (.putfield 37, 3) := by decide +kernel
theorem d_Model_init_84 : decode prog_13_method_1_code 84 = .ok (.aload_n 0, 1) := by decide +kernel
theorem d_Model_init_85 : decode prog_13_method_1_code 85 = .ok (.bipush 12, 2) := by decide +kernel
theorem d_Model_init_87 : decode prog_13_method_1_code 87 = .ok (.newarray .int, 2) := by decide +kernel
theorem d_Model_init_89 : decode prog_13_method_1_code 89 = .ok (.putfield 40, 3) := by decide +kernel
theorem d_Model_init_92 : decode prog_13_method_1_code 92 = .ok (.aload_n 0, 1) := by decide +kernel
theorem d_Model_init_93 : decode prog_13_method_1_code 93 = .ok (.bipush 12, 2) := by decide +kernel
theorem d_Model_init_95 : decode prog_13_method_1_code 95 = .ok (.newarray .int, 2) := by decide +kernel
theorem d_Model_init_97 : decode prog_13_method_1_code 97 = .ok (.putfield 43, 3) := by decide +kernel
theorem d_Model_init_100 : decode prog_13_method_1_code 100 = .ok (.aload_n 0, 1) := by decide +kernel
theorem d_Model_init_101 : decode prog_13_method_1_code 101 = .ok (.bipush 30, 2) := by decide +kernel
theorem d_Model_init_103 : decode prog_13_method_1_code 103 = .ok (.newarray .int, 2) := by decide +kernel
theorem d_Model_init_105 : decode prog_13_method_1_code 105 = .ok (.putfield 46, 3) := by decide +kernel
theorem d_Model_init_108 : decode prog_13_method_1_code 108 = .ok (.aload_n 0, 1) := by decide +kernel
theorem d_Model_init_109 : decode prog_13_method_1_code 109 = .ok (.sipush 7680, 3) := by decide +kernel
theorem d_Model_init_112 : decode prog_13_method_1_code 112 = .ok (.newarray .int, 2) := by decide +kernel
theorem d_Model_init_114 : decode prog_13_method_1_code 114 = .ok (.putfield 49, 3) := by decide +kernel
theorem d_Model_init_117 : decode prog_13_method_1_code 117 = .ok (.aload_n 0, 1) := by decide +kernel
theorem d_Model_init_118 : decode prog_13_method_1_code 118 = .ok (.sipush 12006, 3) := by decide +kernel
theorem d_Model_init_121 : decode prog_13_method_1_code 121 = .ok (.newarray .int, 2) := by decide +kernel
theorem d_Model_init_123 : decode prog_13_method_1_code 123 = .ok (.putfield 52, 3) := by decide +kernel
theorem d_Model_init_126 : decode prog_13_method_1_code 126 = .ok (.aload_n 0, 1) := by decide +kernel
theorem d_Model_init_127 : decode prog_13_method_1_code 127 = .ok (.bipush 6, 2) := by decide +kernel
theorem d_Model_init_129 : decode prog_13_method_1_code 129 = .ok (.newarray .int, 2) := by decide +kernel
theorem d_Model_init_131 : decode prog_13_method_1_code 131 = .ok (.putfield 55, 3) := by decide +kernel
theorem d_Model_init_134 : decode prog_13_method_1_code 134 = .ok (.aload_n 0, 1) := by decide +kernel
theorem d_Model_init_135 : decode prog_13_method_1_code 135 = .ok (.bipush 60, 2) := by decide +kernel
theorem d_Model_init_137 : decode prog_13_method_1_code 137 = .ok (.newarray .int, 2) := by decide +kernel
theorem d_Model_init_139 : decode prog_13_method_1_code 139 = .ok (.putfield 58, 3) := by decide +kernel
theorem d_Model_init_142 : decode prog_13_method_1_code 142 = .ok (.aload_n 0, 1) := by decide +kernel
theorem d_Model_init_143 : decode prog_13_method_1_code 143 = .ok (.bipush 60, 2) := by decide +kernel
theorem d_Model_init_145 : decode prog_13_method_1_code 145 = .ok (.newarray .int, 2) := by decide +kernel
theorem d_Model_init_147 : decode prog_13_method_1_code 147 = .ok (.putfield 61, 3) := by decide +kernel
theorem d_Model_init_150 : decode prog_13_method_1_code 150 = .ok (.aload_n 0, 1) := by decide +kernel
theorem d_Model_init_151 : decode prog_13_method_1_code 151 = .ok (.bipush 60, 2) := by decide +kernel
theorem d_Model_init_153 : decode prog_13_method_1_code 153 = .ok (.newarray .int, 2) := by decide +kernel
theorem d_Model_init_155 : decode prog_13_method_1_code 155 = .ok (.putfield 64, 3) := by decide +kernel
theorem d_Model_init_158 : decode prog_13_method_1_code 158 = .ok (.aload_n 0, 1) := by decide +kernel
theorem d_Model_init_159 : decode prog_13_method_1_code 159 = .ok (.bipush 60, 2) := by decide +kernel
theorem d_Model_init_161 : decode prog_13_method_1_code 161 = .ok (.newarray .int, 2) := by decide +kernel
theorem d_Model_init_163 : decode prog_13_method_1_code 163 = .ok (.putfield 67, 3) := by decide +kernel
theorem d_Model_init_166 : decode prog_13_method_1_code 166 = .ok (.aload_n 0, 1) := by decide +kernel
theorem d_Model_init_167 : decode prog_13_method_1_code 167 = .ok (.bipush 60, 2) := by decide +kernel
theorem d_Model_init_169 : decode prog_13_method_1_code 169 = .ok (.newarray .int, 2) := by decide +kernel
theorem d_Model_init_171 : decode prog_13_method_1_code 171 = .ok (.putfield 70, 3) := by decide +kernel
theorem d_Model_init_174 : decode prog_13_method_1_code 174 = .ok (.aload_n 0, 1) := by decide +kernel
theorem d_Model_init_175 : decode prog_13_method_1_code 175 = .ok (.bipush 60, 2) := by decide +kernel
theorem d_Model_init_177 : decode prog_13_method_1_code 177 = .ok (.newarray .int, 2) := by decide +kernel
theorem d_Model_init_179 : decode prog_13_method_1_code 179 = .ok (.putfield 73, 3) := by decide +kernel
theorem d_Model_init_182 : decode prog_13_method_1_code 182 = .ok (.aload_n 0, 1) := by decide +kernel
theorem d_Model_init_183 : decode prog_13_method_1_code 183 = .ok (.iconst 4, 1) := by decide +kernel
theorem d_Model_init_184 : decode prog_13_method_1_code 184 = .ok (.newarray .boolean, 2) := by decide +kernel
theorem d_Model_init_186 : decode prog_13_method_1_code 186 = .ok (.putfield 76, 3) := by decide +kernel
theorem d_Model_init_189 : decode prog_13_method_1_code 189 = .ok (.aload_n 0, 1) := by decide +kernel
theorem d_Model_init_190 : decode prog_13_method_1_code 190 = .ok (.bipush 60, 2) := by decide +kernel
theorem d_Model_init_192 : decode prog_13_method_1_code 192 = .ok (.newarray .int, 2) := by decide +kernel
theorem d_Model_init_194 : decode prog_13_method_1_code 194 = .ok (.putfield 80, 3) := by decide +kernel
theorem d_Model_init_197 : decode prog_13_method_1_code 197 = .ok (.aload_n 0, 1) := by decide +kernel
theorem d_Model_init_198 : decode prog_13_method_1_code 198 = .ok (.bipush 60, 2) := by decide +kernel
theorem d_Model_init_200 : decode prog_13_method_1_code 200 = .ok (.newarray .int, 2) := by decide +kernel
theorem d_Model_init_202 : decode prog_13_method_1_code 202 = .ok (.putfield 83, 3) := by decide +kernel
theorem d_Model_init_205 : decode prog_13_method_1_code 205 = .ok (.aload_n 0, 1) := by decide +kernel
theorem d_Model_init_206 : decode prog_13_method_1_code 206 = .ok (.bipush 60, 2) := by decide +kernel
theorem d_Model_init_208 : decode prog_13_method_1_code 208 = .ok (.newarray .int, 2) := by decide +kernel
theorem d_Model_init_210 : decode prog_13_method_1_code 210 = .ok (.putfield 86, 3) := by decide +kernel
theorem d_Model_init_213 : decode prog_13_method_1_code 213 = .ok (.aload_n 0, 1) := by decide +kernel
theorem d_Model_init_214 : decode prog_13_method_1_code 214 = .ok (.bipush 60, 2) := by decide +kernel
theorem d_Model_init_216 : decode prog_13_method_1_code 216 = .ok (.newarray .int, 2) := by decide +kernel
theorem d_Model_init_218 : decode prog_13_method_1_code 218 = .ok (.putfield 89, 3) := by decide +kernel
theorem d_Model_init_221 : decode prog_13_method_1_code 221 = .ok (.aload_n 0, 1) := by decide +kernel
theorem d_Model_init_222 : decode prog_13_method_1_code 222 = .ok (.bipush 60, 2) := by decide +kernel
theorem d_Model_init_224 : decode prog_13_method_1_code 224 = .ok (.newarray .int, 2) := by decide +kernel
theorem d_Model_init_226 : decode prog_13_method_1_code 226 = .ok (.putfield 92, 3) := by decide +kernel
theorem d_Model_init_229 : decode prog_13_method_1_code 229 = .ok (.aload_n 0, 1) := by decide +kernel
theorem d_Model_init_230 : decode prog_13_method_1_code 230 = .ok (.sipush 240, 3) := by decide +kernel
theorem d_Model_init_233 : decode prog_13_method_1_code 233 = .ok (.newarray .int, 2) := by decide +kernel
theorem d_Model_init_235 : decode prog_13_method_1_code 235 = .ok (.putfield 95, 3) := by decide +kernel
theorem d_Model_init_238 : decode prog_13_method_1_code 238 = .ok (.aload_n 0, 1) := by decide +kernel
theorem d_Model_init_239 : decode prog_13_method_1_code 239 = .ok (.bipush 60, 2) := by decide +kernel
theorem d_Model_init_241 : decode prog_13_method_1_code 241 = .ok (.newarray .int, 2) := by decide +kernel
theorem d_Model_init_243 : decode prog_13_method_1_code 243 = .ok (.putfield 98, 3) := by decide +kernel
theorem d_Model_init_246 : decode prog_13_method_1_code 246 = .ok (.aload_n 0, 1) := by decide +kernel
theorem d_Model_init_247 : decode prog_13_method_1_code 247 = .ok (.ldc 101, 2) := by decide +kernel
theorem d_Model_init_249 : decode prog_13_method_1_code 249 = .ok (.newarray .int, 2) := by decide +kernel
theorem d_Model_init_251 : decode prog_13_method_1_code 251 = .ok (.putfield 102, 3) := by decide +kernel
theorem d_Model_init_254 : decode prog_13_method_1_code 254 = .ok (.aload_n 0, 1) := by decide +kernel
theorem d_Model_init_255 : decode prog_13_method_1_code 255 = .ok (.ldc 101, 2) := by decide +kernel
theorem d_Model_init_257 : decode prog_13_method_1_code 257 = .ok (.newarray .int, 2) := by decide +kernel
theorem d_Model_init_259 : decode prog_13_method_1_code 259 = .ok (.putfield 105, 3) := by decide +kernel
theorem d_Model_init_262 : decode prog_13_method_1_code 262 = .ok (.aload_n 0, 1) := by decide +kernel
theorem d_Model_init_263 : decode prog_13_method_1_code 263 = .ok (.sipush 360, 3) := by decide +kernel
theorem d_Model_init_266 : decode prog_13_method_1_code 266 = .ok (.newarray .boolean, 2) := by decide +kernel
theorem d_Model_init_268 : decode prog_13_method_1_code 268 = .ok (.putfield 108, 3) := by decide +kernel
theorem d_Model_init_271 : decode prog_13_method_1_code 271 = .ok (.aload_n 0, 1) := by decide +kernel
theorem d_Model_init_272 : decode prog_13_method_1_code 272 = .ok (.iconst 4, 1) := by decide +kernel
theorem d_Model_init_273 : decode prog_13_method_1_code 273 = .ok (.newarray .int, 2) := by decide +kernel
theorem d_Model_init_275 : decode prog_13_method_1_code 275 = .ok (.putfield 111, 3) := by decide +kernel
theorem d_Model_init_278 : decode prog_13_method_1_code 278 = .ok (.aload_n 0, 1) := by decide +kernel
theorem d_Model_init_279 : decode prog_13_method_1_code 279 = .ok (.sipush 384, 3) := by decide +kernel
theorem d_Model_init_282 : decode prog_13_method_1_code 282 = .ok (.newarray .boolean, 2) := by decide +kernel
theorem d_Model_init_284 : decode prog_13_method_1_code 284 = .ok (.putfield 114, 3) := by decide +kernel
theorem d_Model_init_287 : decode prog_13_method_1_code 287 = .ok (.aload_n 0, 1) := by decide +kernel
theorem d_Model_init_288 : decode prog_13_method_1_code 288 = .ok (.sipush 384, 3) := by decide +kernel
theorem d_Model_init_291 : decode prog_13_method_1_code 291 = .ok (.newarray .boolean, 2) := by decide +kernel
theorem d_Model_init_293 : decode prog_13_method_1_code 293 = .ok (.putfield 117, 3) := by decide +kernel
theorem d_Model_init_296 : decode prog_13_method_1_code 296 = .ok (.aload_n 0, 1) := by decide +kernel
theorem d_Model_init_297 : decode prog_13_method_1_code 297 = .ok (.sipush 384, 3) := by decide +kernel
theorem d_Model_init_300 : decode prog_13_method_1_code 300 = .ok (.newarray .int, 2) := by decide +kernel
theorem d_Model_init_302 : decode prog_13_method_1_code 302 = .ok (.putfield 120, 3) := by decide +kernel
theorem d_Model_init_305 : decode prog_13_method_1_code 305 = .ok (.aload_n 0, 1) := by decide +kernel
theorem d_Model_init_306 : decode prog_13_method_1_code 306 = .ok (.sipush 384, 3) := by decide +kernel
theorem d_Model_init_309 : decode prog_13_method_1_code 309 = .ok (.newarray .int, 2) := by decide +kernel
theorem d_Model_init_311 : decode prog_13_method_1_code 311 = .ok (.putfield 123, 3) := by decide +kernel
theorem d_Model_init_314 : decode prog_13_method_1_code 314 = .ok (.aload_n 0, 1) := by decide +kernel
theorem d_Model_init_315 : decode prog_13_method_1_code 315 = .ok (.sipush 16384, 3) := by decide +kernel
theorem d_Model_init_318 : decode prog_13_method_1_code 318 = .ok (.newarray .int, 2) := by decide +kernel
theorem d_Model_init_320 : decode prog_13_method_1_code 320 = .ok (.putfield 126, 3) := by decide +kernel
theorem d_Model_init_323 : decode prog_13_method_1_code 323 = .ok (.aload_n 0, 1) := by decide +kernel
theorem d_Model_init_324 : decode prog_13_method_1_code 324 = .ok (.sipush 16384, 3) := by decide +kernel
theorem d_Model_init_327 : decode prog_13_method_1_code 327 = .ok (.newarray .int, 2) := by decide +kernel
theorem d_Model_init_329 : decode prog_13_method_1_code 329 = .ok (.putfield 129, 3) := by decide +kernel
theorem d_Model_init_332 : decode prog_13_method_1_code 332 = .ok (.aload_n 0, 1) := by decide +kernel
theorem d_Model_init_333 : decode prog_13_method_1_code 333 = .ok (.sipush 16384, 3) := by decide +kernel
theorem d_Model_init_336 : decode prog_13_method_1_code 336 = .ok (.newarray .int, 2) := by decide +kernel
theorem d_Model_init_338 : decode prog_13_method_1_code 338 = .ok (.putfield 132, 3) := by decide +kernel
theorem d_Model_init_341 : decode prog_13_method_1_code 341 = .ok (.aload_n 0, 1) := by decide +kernel
theorem d_Model_init_342 : decode prog_13_method_1_code 342 = .ok (.sipush 16384, 3) := by decide +kernel
theorem d_Model_init_345 : decode prog_13_method_1_code 345 = .ok (.newarray .int, 2) := by decide +kernel
theorem d_Model_init_347 : decode prog_13_method_1_code 347 = .ok (.putfield 135, 3) := by decide +kernel
theorem d_Model_init_350 : decode prog_13_method_1_code 350 = .ok (.aload_n 0, 1) := by decide +kernel
theorem d_Model_init_351 : decode prog_13_method_1_code 351 = .ok (.bipush 6, 2) := by decide +kernel
theorem d_Model_init_353 : decode prog_13_method_1_code 353 = .ok (.newarray .int, 2) := by decide +kernel
theorem d_Model_init_355 : decode prog_13_method_1_code 355 = .ok (.putfield 138, 3) := by decide +kernel
theorem d_Model_init_358 : decode prog_13_method_1_code 358 = .ok (.aload_n 0, 1) := by decide +kernel
theorem d_Model_init_359 : decode prog_13_method_1_code 359 = .ok (.bipush 6, 2) := by decide +kernel
theorem d_Model_init_361 : decode prog_13_method_1_code 361 = .ok (.newarray .int, 2) := by decide +kernel
theorem d_Model_init_363 : decode prog_13_method_1_code 363 = .ok (.putfield 141, 3) := by decide +kernel
theorem d_Model_init_366 : decode prog_13_method_1_code 366 = .ok (.aload_n 0, 1) := by decide +kernel
theorem d_Model_init_367 : decode prog_13_method_1_code 367 = .ok (.sipush 252, 3) := by decide +kernel
theorem d_Model_init_370 : decode prog_13_method_1_code 370 = .ok (.newarray .int, 2) := by decide +kernel
theorem d_Model_init_372 : decode prog_13_method_1_code 372 = .ok (.putfield 144, 3) := by decide +kernel
theorem d_Model_init_375 : decode prog_13_method_1_code 375 = .ok (.aload_n 0, 1) := by decide +kernel
theorem d_Model_init_376 : decode prog_13_method_1_code 376 = .ok (.sipush 252, 3) := by decide +kernel
theorem d_Model_init_379 : decode prog_13_method_1_code 379 = .ok (.newarray .int, 2) := by decide +kernel
theorem d_Model_init_381 : decode prog_13_method_1_code 381 = .ok (.putfield 147, 3) := by decide +kernel
theorem d_Model_init_384 : decode prog_13_method_1_code 384 = .ok (.aload_n 0, 1) := by decide +kernel
theorem d_Model_init_385 : decode prog_13_method_1_code 385 = .ok (.sipush 252, 3) := by decide +kernel
theorem d_Model_init_388 : decode prog_13_method_1_code 388 = .ok (.newarray .int, 2) := by decide +kernel
theorem d_Model_init_390 : decode prog_13_method_1_code 390 = .ok (.putfield 150, 3) := by decide +kernel
theorem d_Model_init_393 : decode prog_13_method_1_code 393 = .ok (.aload_n 0, 1) := by decide +kernel
theorem d_Model_init_394 : decode prog_13_method_1_code 394 = .ok (.sipush 252, 3) := by decide +kernel
theorem d_Model_init_397 : decode prog_13_method_1_code 397 = .ok (.newarray .int, 2) := by decide +kernel
theorem d_Model_init_399 : decode prog_13_method_1_code 399 = .ok (.putfield 153, 3) := by decide +kernel
theorem d_Model_init_402 : decode prog_13_method_1_code 402 = .ok (.aload_n 0, 1) := by decide +kernel
theorem d_Model_init_403 : decode prog_13_method_1_code 403 = .ok (.sipush 252, 3) := by decide +kernel
theorem d_Model_init_406 : decode prog_13_method_1_code 406 = .ok (.newarray .boolean, 2) := by decide +kernel
theorem d_Model_init_408 : decode prog_13_method_1_code 408 = .ok (.putfield 156, 3) := by decide +kernel
theorem d_Model_init_411 : decode prog_13_method_1_code 411 = .ok (.aload_n 0, 1) := by decide +kernel
theorem d_Model_init_412 : decode prog_13_method_1_code 412 = .ok (.bipush 20, 2) := by decide +kernel
theorem d_Model_init_414 : decode prog_13_method_1_code 414 = .ok (.newarray .int, 2) := by decide +kernel
theorem d_Model_init_416 : decode prog_13_method_1_code 416 = .ok (.putfield 159, 3) := by decide +kernel
theorem d_Model_init_419 : decode prog_13_method_1_code 419 = .ok (.aload_n 0, 1) := by decide +kernel
theorem d_Model_init_420 : decode prog_13_method_1_code 420 = .ok (.bipush 20, 2) := by decide +kernel
theorem d_Model_init_422 : decode prog_13_method_1_code 422 = .ok (.newarray .boolean, 2) := by decide +kernel
theorem d_Model_init_424 : decode prog_13_method_1_code 424 = .ok (.putfield 162, 3) := by decide +kernel
theorem d_Model_init_427 : decode prog_13_method_1_code 427 = .ok (.aload_n 0, 1) := by decide +kernel
theorem d_Model_init_428 : decode prog_13_method_1_code 428 = .ok (.bipush 20, 2) := by decide +kernel
theorem d_Model_init_430 : decode prog_13_method_1_code 430 = .ok (.newarray .int, 2) := by decide +kernel
theorem d_Model_init_432 : decode prog_13_method_1_code 432 = .ok (.putfield 165, 3) := by decide +kernel
theorem d_Model_init_435 : decode prog_13_method_1_code 435 = .ok (.aload_n 0, 1) := by decide +kernel
theorem d_Model_init_436 : decode prog_13_method_1_code 436 = .ok (.bipush 20, 2) := by decide +kernel
theorem d_Model_init_438 : decode prog_13_method_1_code 438 = .ok (.newarray .int, 2) := by decide +kernel
theorem d_Model_init_440 : decode prog_13_method_1_code 440 = .ok (.putfield 168, 3) := by decide +kernel
theorem d_Model_init_443 : decode prog_13_method_1_code 443 = .ok (.aload_n 0, 1) := by decide +kernel
theorem d_Model_init_444 : decode prog_13_method_1_code 444 = .ok (.bipush 80, 2) := by decide +kernel
theorem d_Model_init_446 : decode prog_13_method_1_code 446 = .ok (.newarray .int, 2) := by decide +kernel
theorem d_Model_init_448 : decode prog_13_method_1_code 448 = .ok (.putfield 171, 3) := by decide +kernel
theorem d_Model_init_451 : decode prog_13_method_1_code 451 = .ok (.aload_n 0, 1) := by decide +kernel
theorem d_Model_init_452 : decode prog_13_method_1_code 452 = .ok (.bipush 6, 2) := by decide +kernel
theorem d_Model_init_454 : decode prog_13_method_1_code 454 = .ok (.newarray .int, 2) := by decide +kernel
theorem d_Model_init_456 : decode prog_13_method_1_code 456 = .ok (.putfield 174, 3) := by decide +kernel
theorem d_Model_init_459 : decode prog_13_method_1_code 459 = .ok (.aload_n 0, 1) := by decide +kernel
theorem d_Model_init_460 : decode prog_13_method_1_code 460 = .ok (.ldc 177, 2) := by decide +kernel
theorem d_Model_init_462 : decode prog_13_method_1_code 462 = .ok (.newarray .int, 2) := by decide +kernel
theorem d_Model_init_464 : decode prog_13_method_1_code 464 = .ok (.putfield 178, 3) := by decide +kernel
theorem d_Model_init_467 : decode prog_13_method_1_code 467 = .ok (.aload_n 0, 1) := by decide +kernel
theorem d_Model_init_468 : decode prog_13_method_1_code 468 = .ok (.bipush 12, 2) := by decide +kernel
theorem d_Model_init_470 : decode prog_13_method_1_code 470 = .ok (.newarray .int, 2) := by decide +kernel
theorem d_Model_init_472 : decode prog_13_method_1_code 472 = .ok (.putfield 181, 3) := by decide +kernel
theorem d_Model_init_475 : decode prog_13_method_1_code 475 = .ok (.aload_n 0, 1) := by decide +kernel
theorem d_Model_init_476 : decode prog_13_method_1_code 476 = .ok (.bipush 12, 2) := by decide +kernel
theorem d_Model_init_478 : decode prog_13_method_1_code 478 = .ok (.newarray .int, 2) := by decide +kernel
theorem d_Model_init_480 : decode prog_13_method_1_code 480 = .ok (.putfield 184, 3) := by decide +kernel
theorem d_Model_init_483 : decode prog_13_method_1_code 483 = .ok (.aload_n 0, 1) := by decide +kernel
theorem d_Model_init_484 : decode prog_13_method_1_code 484 = .ok (.bipush 12, 2) := by decide +kernel
theorem d_Model_init_486 : decode prog_13_method_1_code 486 = .ok (.newarray .int, 2) := by decide +kernel
theorem d_Model_init_488 : decode prog_13_method_1_code 488 = .ok (.putfield 187, 3) := by decide +kernel
theorem d_Model_init_491 : decode prog_13_method_1_code 491 = .ok (.aload_n 0, 1) := by decide +kernel
theorem d_Model_init_492 : decode prog_13_method_1_code 492 = .ok (.ldc 190, 2) := by decide +kernel
theorem d_Model_init_494 : decode prog_13_method_1_code 494 = .ok (.newarray .int, 2) := by decide +kernel
theorem d_Model_init_496 : decode prog_13_method_1_code 496 = .ok (.putfield 191, 3) := by decide +kernel
theorem d_Model_init_499 : decode prog_13_method_1_code 499 = .ok (.aload_n 0, 1) := by decide +kernel
theorem d_Model_init_500 : decode prog_13_method_1_code 500 = .ok (.bipush 12, 2) := by decide +kernel
theorem d_Model_init_502 : decode prog_13_method_1_code 502 = .ok (.newarray .int, 2) := by decide +kernel
theorem d_Model_init_504 : decode prog_13_method_1_code 504 = .ok (.putfield 194, 3) := by decide +kernel
theorem d_Model_init_507 : decode prog_13_method_1_code 507 = .ok (.aload_n 0, 1) := by decide +kernel
theorem d_Model_init_508 : decode prog_13_method_1_code 508 = .ok (.bipush 12, 2) := by decide +kernel
theorem d_Model_init_510 : decode prog_13_method_1_code 510 = .ok (.newarray .int, 2) := by decide +kernel
theorem d_Model_init_512 : decode prog_13_method_1_code 512 = .ok (.putfield 197, 3) := by decide +kernel
theorem d_Model_init_515 : decode prog_13_method_1_code 515 = .ok (.aload_n 0, 1) := by decide +kernel
theorem d_Model_init_516 : decode prog_13_method_1_code 516 = .ok (.bipush 12, 2) := by decide +kernel
theorem d_Model_init_518 : decode prog_13_method_1_code 518 = .ok (.newarray .int, 2) := by decide +kernel
theorem d_Model_init_520 : decode prog_13_method_1_code 520 = .ok (.putfield 200, 3) := by decide +kernel
theorem d_Model_init_523 : decode prog_13_method_1_code 523 = .ok (.aload_n 0, 1) := by decide +kernel
theorem d_Model_init_524 : decode prog_13_method_1_code 524 = .ok (.bipush 12, 2) := by decide +kernel
theorem d_Model_init_526 : decode prog_13_method_1_code 526 = .ok (.newarray .int, 2) := by decide +kernel
theorem d_Model_init_528 : decode prog_13_method_1_code 528 = .ok (.putfield 203, 3) := by decide +kernel
theorem d_Model_init_531 : decode prog_13_method_1_code 531 = .ok (.aload_n 0, 1) := by decide +kernel
theorem d_Model_init_532 : decode prog_13_method_1_code 532 = .ok (.bipush 24, 2) := by decide +kernel
theorem d_Model_init_534 : decode prog_13_method_1_code 534 = .ok (.newarray .int, 2) := by decide +kernel
theorem d_Model_init_536 : decode prog_13_method_1_code 536 = .ok (.putfield 206, 3) := by decide +kernel
theorem d_Model_init_539 : decode prog_13_method_1_code 539 = .ok (.aload_n 0, 1) := by decide +kernel
theorem d_Model_init_540 : decode prog_13_method_1_code 540 = .ok (.iconst 4, 1) := by decide +kernel
theorem d_Model_init_541 : decode prog_13_method_1_code 541 = .ok (.newarray .int, 2) := by decide +kernel
theorem d_Model_init_543 : decode prog_13_method_1_code 543 = .ok (.putfield 209, 3) := by decide +kernel
theorem d_Model_init_546 : decode prog_13_method_1_code 546 = .ok (.aload_n 0, 1) := by decide +kernel
theorem d_Model_init_547 : decode prog_13_method_1_code 547 = .ok (.iconst 4, 1) := by decide +kernel
theorem d_Model_init_548 : decode prog_13_method_1_code 548 = .ok (.newarray .int, 2) := by decide +kernel
theorem d_Model_init_550 : decode prog_13_method_1_code 550 = .ok (.putfield 212, 3) := by decide +kernel
theorem d_Model_init_553 : decode prog_13_method_1_code 553 = .ok (.aload_n 0, 1) := by decide +kernel
theorem d_Model_init_554 : decode prog_13_method_1_code 554 = .ok (.iconst 4, 1) := by decide +kernel
theorem d_Model_init_555 : decode prog_13_method_1_code 555 = .ok (.newarray .long, 2) := by decide +kernel
theorem d_Model_init_557 : decode prog_13_method_1_code 557 = .ok (.putfield 215, 3) := by decide +kernel
theorem d_Model_init_560 : decode prog_13_method_1_code 560 = .ok (.aload_n 0, 1) := by decide +kernel
theorem d_Model_init_561 : decode prog_13_method_1_code 561 = .ok (.bipush 12, 2) := by decide +kernel
theorem d_Model_init_563 : decode prog_13_method_1_code 563 = .ok (.newarray .int, 2) := by decide +kernel
theorem d_Model_init_565 : decode prog_13_method_1_code 565 = .ok (.putfield 219, 3) := by decide +kernel
theorem d_Model_init_568 : decode prog_13_method_1_code 568 = .ok (.aload_n 0, 1) := by decide +kernel
theorem d_Model_init_569 : decode prog_13_method_1_code 569 = .ok (.bipush 12, 2) := by decide +kernel
theorem d_Model_init_571 : decode prog_13_method_1_code 571 = .ok (.newarray .int, 2) := by decide +kernel
theorem d_Model_init_573 : decode prog_13_method_1_code 573 = .ok (.putfield 222, 3) := by decide +kernel
theorem d_Model_init_576 : decode prog_13_method_1_code 576 = .ok (.aload_n 0, 1) := by decide +kernel
theorem d_Model_init_577 : decode prog_13_method_1_code 577 = .ok (.bipush 6, 2) := by decide +kernel
theorem d_Model_init_579 : decode prog_13_method_1_code 579 = .ok (.newarray .int, 2) := by decide +kernel
theorem d_Model_init_581 : decode prog_13_method_1_code 581 = .ok (.putfield 225, 3) := by decide +kernel
theorem d_Model_init_584 : decode prog_13_method_1_code 584 = .ok (.aload_n 0, 1) := by decide +kernel
theorem d_Model_init_585 : decode prog_13_method_1_code 585 = .ok (.bipush 24, 2) := by decide +kernel
theorem d_Model_init_587 : decode prog_13_method_1_code 587 = .ok (.newarray .int, 2) := by decide +kernel
theorem d_Model_init_589 : decode prog_13_method_1_code 589 = .ok (.putfield 228, 3) := by decide +kernel
theorem d_Model_init_592 : decode prog_13_method_1_code 592 = .ok (.iconst 0, 1) := by decide +kernel
theorem d_Model_init_593 : decode prog_13_method_1_code 593 = .ok (.istore_n 1, 1) := by decide +kernel
theorem d_Model_init_594 : decode prog_13_method_1_code 594 = .ok (.iload_n 1, 1) := by decide +kernel
theorem d_Model_init_595 : decode prog_13_method_1_code 595 = .ok (.bipush 24, 2) := by decide +kernel
theorem d_Model_init_597 : decode prog_13_method_1_code 597 = .ok (.if_icmp .ge 16, 3) := by decide +kernel
theorem d_Model_init_600 : decode prog_13_method_1_code 600 = .ok (.aload_n 0, 1) := by decide +kernel
theorem d_Model_init_601 : decode prog_13_method_1_code 601 = .ok (.getfield 25, 3) := by decide +kernel
theorem d_Model_init_604 : decode prog_13_method_1_code 604 = .ok (.iload_n 1, 1) := by decide +kernel
theorem d_Model_init_605 : decode prog_13_method_1_code 605 = .ok (.iconst (-1), 1) := by decide +kernel
theorem d_Model_init_606 : decode prog_13_method_1_code 606 = .ok (.iastore, 1) := by decide +kernel
theorem d_Model_init_607 : decode prog_13_method_1_code 607 = .ok (.iinc 1 1, 3) := by decide +kernel
theorem d_Model_init_610 : decode prog_13_method_1_code 610 = .ok (.goto (-16), 3) := by decide +kernel
theorem d_Model_init_613 : decode prog_13_method_1_code 613 = .ok (.return_, 1) := by decide +kernel
theorem d_Model_thrown_0 : decode prog_13_method_2_code 0 = .ok (.aload_n 0, 1) := by decide +kernel
theorem d_Model_thrown_1 : decode prog_13_method_2_code 1 = .ok (.getfield 231, 3) := by decide +kernel
theorem d_Model_thrown_4 : decode prog_13_method_2_code 4 = .ok (.ireturn, 1) := by decide +kernel
theorem d_Model_table_0 : decode prog_13_method_14_code 0 = .ok (.aload_n 0, 1) := by decide +kernel
theorem d_Model_table_1 : decode prog_13_method_14_code 1 = .ok (.iload_n 1, 1) := by decide +kernel
theorem d_Model_table_2 : decode prog_13_method_14_code 2 = .ok (.iconst 1, 1) := by decide +kernel
theorem d_Model_table_3 : decode prog_13_method_14_code 3 = .ok (.iconst 4, 1) := by decide +kernel
theorem d_Model_table_4 : decode prog_13_method_14_code 4 = .ok (.invokestatic 235, 3) := by decide +kernel
theorem d_Model_table_7 : decode prog_13_method_14_code 7 = .ok (.ifCond .ne 7, 3) := by decide +kernel
theorem d_Model_table_10 : decode prog_13_method_14_code 10 = .ok (.iconst 1, 1) := by decide +kernel
theorem d_Model_table_11 : decode prog_13_method_14_code 11 = .ok (.goto 24, 3) := by decide +kernel
theorem d_Model_table_14 : decode prog_13_method_14_code 14 = .ok (.aload_n 0, 1) := by decide +kernel
theorem d_Model_table_15 : decode prog_13_method_14_code 15 = .ok (.getfield 239, 3) := by decide +kernel
theorem d_Model_table_18 : decode prog_13_method_14_code 18 = .ok (.bipush 6, 2) := by decide +kernel
theorem d_Model_table_20 : decode prog_13_method_14_code 20 = .ok (.if_icmp .eq 10, 3) := by decide +kernel
theorem d_Model_table_23 : decode prog_13_method_14_code 23 = .ok (.aload_n 0, 1) := by decide +kernel
theorem d_Model_table_24 : decode prog_13_method_14_code 24 = .ok (.invokevirtual 250, 3) := by decide +kernel
theorem d_Model_table_27 : decode prog_13_method_14_code 27 = .ok (.ifCond .eq 7, 3) := by decide +kernel
theorem d_Model_table_30 : decode prog_13_method_14_code 30 = .ok (.iconst 2, 1) := by decide +kernel
theorem d_Model_table_31 : decode prog_13_method_14_code 31 = .ok (.goto 4, 3) := by decide +kernel
theorem d_Model_table_34 : decode prog_13_method_14_code 34 = .ok (.iconst 0, 1) := by decide +kernel
theorem d_Model_table_35 : decode prog_13_method_14_code 35 = .ok (.invokevirtual 254, 3) := by decide +kernel
theorem d_Model_table_38 : decode prog_13_method_14_code 38 = .ok (.ifCond .eq 5, 3) := by decide +kernel
theorem d_Model_table_41 : decode prog_13_method_14_code 41 = .ok (.iconst 0, 1) := by decide +kernel
theorem d_Model_table_42 : decode prog_13_method_14_code 42 = .ok (.ireturn, 1) := by decide +kernel
theorem d_Model_table_43 : decode prog_13_method_14_code 43 = .ok (.aload_n 0, 1) := by decide +kernel
theorem d_Model_table_44 : decode prog_13_method_14_code 44 = .ok (.getfield 7, 3) := by decide +kernel
theorem d_Model_table_47 : decode prog_13_method_14_code 47 = .ok (.aload_n 0, 1) := by decide +kernel
theorem d_Model_table_48 : decode prog_13_method_14_code 48 = .ok (.getfield 239, 3) := by decide +kernel
theorem d_Model_table_51 : decode prog_13_method_14_code 51 = .ok (.iload_n 1, 1) := by decide +kernel
theorem d_Model_table_52 : decode prog_13_method_14_code 52 = .ok (.iastore, 1) := by decide +kernel
theorem d_Model_table_53 : decode prog_13_method_14_code 53 = .ok (.aload_n 0, 1) := by decide +kernel
theorem d_Model_table_54 : decode prog_13_method_14_code 54 = .ok (.dup, 1) := by decide +kernel
theorem d_Model_table_55 : decode prog_13_method_14_code 55 = .ok (.getfield 239, 3) := by decide +kernel
theorem d_Model_table_58 : decode prog_13_method_14_code 58 = .ok (.iconst 1, 1) := by decide +kernel
theorem d_Model_table_59 : decode prog_13_method_14_code 59 = .ok (.iadd, 1) := by decide +kernel
theorem d_Model_table_60 : decode prog_13_method_14_code 60 = .ok (.putfield 239, 3) := by decide +kernel
theorem d_Model_table_63 : decode prog_13_method_14_code 63 = .ok (.aload_n 0, 1) := by decide +kernel
theorem d_Model_table_64 : decode prog_13_method_14_code 64 = .ok (.invokevirtual 257, 3) := by decide +kernel
theorem d_Model_table_67 : decode prog_13_method_14_code 67 = .ok (.aload_n 0, 1) := by decide +kernel
theorem d_Model_table_68 : decode prog_13_method_14_code 68 = .ok (.getfield 239, 3) := by decide +kernel
theorem d_Model_table_71 : decode prog_13_method_14_code 71 = .ok (.iconst 1, 1) := by decide +kernel
theorem d_Model_table_72 : decode prog_13_method_14_code 72 = .ok (.isub, 1) := by decide +kernel
theorem d_Model_table_73 : decode prog_13_method_14_code 73 = .ok (.ireturn, 1) := by decide +kernel
theorem d_Model_isIn_0 : decode prog_13_method_5_code 0 = .ok (.iload_n 0, 1) := by decide +kernel
theorem d_Model_isIn_1 : decode prog_13_method_5_code 1 = .ok (.iload_n 1, 1) := by decide +kernel
theorem d_Model_isIn_2 : decode prog_13_method_5_code 2 = .ok (.if_icmp .lt 12, 3) := by decide +kernel
theorem d_Model_isIn_5 : decode prog_13_method_5_code 5 = .ok (.iload_n 0, 1) := by decide +kernel
theorem d_Model_isIn_6 : decode prog_13_method_5_code 6 = .ok (.iload_n 2, 1) := by decide +kernel
theorem d_Model_isIn_7 : decode prog_13_method_5_code 7 = .ok (.if_icmp .gt 7, 3) := by decide +kernel
theorem d_Model_isIn_10 : decode prog_13_method_5_code 10 = .ok (.iconst 1, 1) := by decide +kernel
theorem d_Model_isIn_11 : decode prog_13_method_5_code 11 = .ok (.goto 4, 3) := by decide +kernel
theorem d_Model_isIn_14 : decode prog_13_method_5_code 14 = .ok (.iconst 0, 1) := by decide +kernel
theorem d_Model_isIn_15 : decode prog_13_method_5_code 15 = .ok (.ireturn, 1) := by decide +kernel
theorem d_Model_isUnderWay_0 : decode prog_13_method_12_code 0 = .ok (.iconst 0, 1) := by decide +kernel
theorem d_Model_isUnderWay_1 : decode prog_13_method_12_code 1 = .ok (.istore_n 1, 1) := by decide +kernel
theorem d_Model_isUnderWay_2 : decode prog_13_method_12_code 2 = .ok (.iconst 0, 1) := by decide +kernel
theorem d_Model_isUnderWay_3 : decode prog_13_method_12_code 3 = .ok (.istore_n 2, 1) := by decide +kernel
theorem d_Model_isUnderWay_4 : decode prog_13_method_12_code 4 = .ok (.iload_n 2, 1) := by decide +kernel
theorem d_Model_isUnderWay_5 : decode prog_13_method_12_code 5 = .ok (.aload_n 0, 1) := by decide +kernel
theorem d_Model_isUnderWay_6 : decode prog_13_method_12_code 6 = .ok (.getfield 247, 3) := by decide +kernel
theorem d_Model_isUnderWay_9 : decode prog_13_method_12_code 9 = .ok (.if_icmp .ge 29, 3) := by decide +kernel
theorem d_Model_isUnderWay_12 : decode prog_13_method_12_code 12 = .ok (.iload_n 1, 1) := by decide +kernel
theorem d_Model_isUnderWay_13 : decode prog_13_method_12_code 13 = .ok (.ifCond .ne 13, 3) := by decide +kernel
theorem d_Model_isUnderWay_16 : decode prog_13_method_12_code 16 = .ok (.aload_n 0, 1) := by decide +kernel
theorem d_Model_isUnderWay_17 : decode prog_13_method_12_code 17 = .ok (.getfield 61, 3) := by decide +kernel
theorem d_Model_isUnderWay_20 : decode prog_13_method_12_code 20 = .ok (.iload_n 2, 1) := by decide +kernel
theorem d_Model_isUnderWay_21 : decode prog_13_method_12_code 21 = .ok (.iaload, 1) := by decide +kernel
theorem d_Model_isUnderWay_22 : decode prog_13_method_12_code 22 = .ok (.iconst 2, 1) := by decide +kernel
theorem d_Model_isUnderWay_23 : decode prog_13_method_12_code 23 = .ok (.if_icmp .ge 7, 3) := by decide +kernel
theorem d_Model_isUnderWay_26 : decode prog_13_method_12_code 26 = .ok (.iconst 1, 1) := by decide +kernel
theorem d_Model_isUnderWay_27 : decode prog_13_method_12_code 27 = .ok (.goto 4, 3) := by decide +kernel
theorem d_Model_isUnderWay_30 : decode prog_13_method_12_code 30 = .ok (.iconst 0, 1) := by decide +kernel
theorem d_Model_isUnderWay_31 : decode prog_13_method_12_code 31 = .ok (.istore_n 1, 1) := by decide +kernel
theorem d_Model_isUnderWay_32 : decode prog_13_method_12_code 32 = .ok (.iinc 2 1, 3) := by decide +kernel
theorem d_Model_isUnderWay_35 : decode prog_13_method_12_code 35 = .ok (.goto (-31), 3) := by decide +kernel
theorem d_Model_isUnderWay_38 : decode prog_13_method_12_code 38 = .ok (.iload_n 1, 1) := by decide +kernel
theorem d_Model_isUnderWay_39 : decode prog_13_method_12_code 39 = .ok (.ireturn, 1) := by decide +kernel
theorem d_Model_fails_0 : decode prog_13_method_3_code 0 = .ok (.aload_n 0, 1) := by decide +kernel
theorem d_Model_fails_1 : decode prog_13_method_3_code 1 = .ok (.iload_n 1, 1) := by decide +kernel
theorem d_Model_fails_2 : decode prog_13_method_3_code 2 = .ok (.putfield 231, 3) := by decide +kernel
theorem d_Model_fails_5 : decode prog_13_method_3_code 5 = .ok (.iload_n 1, 1) := by decide +kernel
theorem d_Model_fails_6 : decode prog_13_method_3_code 6 = .ok (.ifCond .le 7, 3) := by decide +kernel
theorem d_Model_fails_9 : decode prog_13_method_3_code 9 = .ok (.iconst 1, 1) := by decide +kernel
theorem d_Model_fails_10 : decode prog_13_method_3_code 10 = .ok (.goto 4, 3) := by decide +kernel
theorem d_Model_fails_13 : decode prog_13_method_3_code 13 = .ok (.iconst 0, 1) := by decide +kernel
theorem d_Model_fails_14 : decode prog_13_method_3_code 14 = .ok (.ireturn, 1) := by decide +kernel
theorem d_Model_throwsPlans_0 : decode prog_13_method_13_code 0 = .ok (.iconst 0, 1) := by decide +kernel
theorem d_Model_throwsPlans_1 : decode prog_13_method_13_code 1 = .ok (.istore_n 1, 1) := by decide +kernel
theorem d_Model_throwsPlans_2 : decode prog_13_method_13_code 2 = .ok (.iload_n 1, 1) := by decide +kernel
theorem d_Model_throwsPlans_3 : decode prog_13_method_13_code 3 = .ok (.bipush 20, 2) := by decide +kernel
theorem d_Model_throwsPlans_5 : decode prog_13_method_13_code 5 = .ok (.if_icmp .ge 16, 3) := by decide +kernel
theorem d_Model_throwsPlans_8 : decode prog_13_method_13_code 8 = .ok (.aload_n 0, 1) := by decide +kernel
theorem d_Model_throwsPlans_9 : decode prog_13_method_13_code 9 = .ok (.getfield 162, 3) := by decide +kernel
theorem d_Model_throwsPlans_12 : decode prog_13_method_13_code 12 = .ok (.iload_n 1, 1) := by decide +kernel
theorem d_Model_throwsPlans_13 : decode prog_13_method_13_code 13 = .ok (.iconst 0, 1) := by decide +kernel
theorem d_Model_throwsPlans_14 : decode prog_13_method_13_code 14 = .ok (.bastore, 1) := by decide +kernel
theorem d_Model_throwsPlans_15 : decode prog_13_method_13_code 15 = .ok (.iinc 1 1, 3) := by decide +kernel
theorem d_Model_throwsPlans_18 : decode prog_13_method_13_code 18 = .ok (.goto (-16), 3) := by decide +kernel
theorem d_Model_throwsPlans_21 : decode prog_13_method_13_code 21 = .ok (.return_, 1) := by decide +kernel
theorem d_Model_check_0 : decode prog_13_method_15_code 0 = .ok (.aload_n 0, 1) := by decide +kernel
theorem d_Model_check_1 : decode prog_13_method_15_code 1 = .ok (.iload_n 1, 1) := by decide +kernel
theorem d_Model_check_2 : decode prog_13_method_15_code 2 = .ok (.iload_n 2, 1) := by decide +kernel
theorem d_Model_check_3 : decode prog_13_method_15_code 3 = .ok (.invokevirtual 260, 3) := by decide +kernel
theorem d_Model_check_6 : decode prog_13_method_15_code 6 = .ok (.istore 5, 2) := by decide +kernel
theorem d_Model_check_8 : decode prog_13_method_15_code 8 = .ok (.iload_n 3, 1) := by decide +kernel
theorem d_Model_check_9 : decode prog_13_method_15_code 9 = .ok (.invokestatic 264, 3) := by decide +kernel
theorem d_Model_check_12 : decode prog_13_method_15_code 12 = .ok (.ifCond .eq 15, 3) := by decide +kernel
theorem d_Model_check_15 : decode prog_13_method_15_code 15 = .ok (.iload 4, 2) := by decide +kernel
theorem d_Model_check_17 : decode prog_13_method_15_code 17 = .ok (.invokestatic 267, 3) := by decide +kernel
theorem d_Model_check_20 : decode prog_13_method_15_code 20 = .ok (.ifCond .eq 7, 3) := by decide +kernel
theorem d_Model_check_23 : decode prog_13_method_15_code 23 = .ok (.iconst 1, 1) := by decide +kernel
theorem d_Model_check_24 : decode prog_13_method_15_code 24 = .ok (.goto 4, 3) := by decide +kernel
theorem d_Model_check_27 : decode prog_13_method_15_code 27 = .ok (.iconst 0, 1) := by decide +kernel
theorem d_Model_check_28 : decode prog_13_method_15_code 28 = .ok (.istore 6, 2) := by decide +kernel
theorem d_Model_check_30 : decode prog_13_method_15_code 30 = .ok (.aload_n 0, 1) := by decide +kernel
theorem d_Model_check_31 : decode prog_13_method_15_code 31 = .ok (.iload 5, 2) := by decide +kernel
theorem d_Model_check_33 : decode prog_13_method_15_code 33 = .ok (.ifCond .ne 7, 3) := by decide +kernel
theorem d_Model_check_36 : decode prog_13_method_15_code 36 = .ok (.iconst 1, 1) := by decide +kernel
theorem d_Model_check_37 : decode prog_13_method_15_code 37 = .ok (.goto 46, 3) := by decide +kernel
theorem d_Model_check_40 : decode prog_13_method_15_code 40 = .ok (.iload 6, 2) := by decide +kernel
theorem d_Model_check_42 : decode prog_13_method_15_code 42 = .ok (.ifCond .ne 7, 3) := by decide +kernel
theorem d_Model_check_45 : decode prog_13_method_15_code 45 = .ok (.iconst 2, 1) := by decide +kernel
theorem d_Model_check_46 : decode prog_13_method_15_code 46 = .ok (.goto 37, 3) := by decide +kernel
theorem d_Model_check_49 : decode prog_13_method_15_code 49 = .ok (.aload_n 0, 1) := by decide +kernel
theorem d_Model_check_50 : decode prog_13_method_15_code 50 = .ok (.getfield 13, 3) := by decide +kernel
theorem d_Model_check_53 : decode prog_13_method_15_code 53 = .ok (.iload_n 1, 1) := by decide +kernel
theorem d_Model_check_54 : decode prog_13_method_15_code 54 = .ok (.iaload, 1) := by decide +kernel
theorem d_Model_check_55 : decode prog_13_method_15_code 55 = .ok (.iconst 4, 1) := by decide +kernel
theorem d_Model_check_56 : decode prog_13_method_15_code 56 = .ok (.if_icmp .eq 22, 3) := by decide +kernel
theorem d_Model_check_59 : decode prog_13_method_15_code 59 = .ok (.aload_n 0, 1) := by decide +kernel
theorem d_Model_check_60 : decode prog_13_method_15_code 60 = .ok (.getfield 46, 3) := by decide +kernel
theorem d_Model_check_63 : decode prog_13_method_15_code 63 = .ok (.bipush 24, 2) := by decide +kernel
theorem d_Model_check_65 : decode prog_13_method_15_code 65 = .ok (.iload_n 1, 1) := by decide +kernel
theorem d_Model_check_66 : decode prog_13_method_15_code 66 = .ok (.iadd, 1) := by decide +kernel
theorem d_Model_check_67 : decode prog_13_method_15_code 67 = .ok (.iaload, 1) := by decide +kernel
theorem d_Model_check_68 : decode prog_13_method_15_code 68 = .ok (.ifCond .gt 10, 3) := by decide +kernel
theorem d_Model_check_71 : decode prog_13_method_15_code 71 = .ok (.aload_n 0, 1) := by decide +kernel
theorem d_Model_check_72 : decode prog_13_method_15_code 72 = .ok (.invokevirtual 250, 3) := by decide +kernel
theorem d_Model_check_75 : decode prog_13_method_15_code 75 = .ok (.ifCond .eq 7, 3) := by decide +kernel
theorem d_Model_check_78 : decode prog_13_method_15_code 78 = .ok (.iconst 3, 1) := by decide +kernel
theorem d_Model_check_79 : decode prog_13_method_15_code 79 = .ok (.goto 4, 3) := by decide +kernel
theorem d_Model_check_82 : decode prog_13_method_15_code 82 = .ok (.iconst 0, 1) := by decide +kernel
theorem d_Model_check_83 : decode prog_13_method_15_code 83 = .ok (.invokevirtual 254, 3) := by decide +kernel
theorem d_Model_check_86 : decode prog_13_method_15_code 86 = .ok (.ifCond .eq 5, 3) := by decide +kernel
theorem d_Model_check_89 : decode prog_13_method_15_code 89 = .ok (.iconst 0, 1) := by decide +kernel
theorem d_Model_check_90 : decode prog_13_method_15_code 90 = .ok (.ireturn, 1) := by decide +kernel
theorem d_Model_check_91 : decode prog_13_method_15_code 91 = .ok (.iconst 4, 1) := by decide +kernel
theorem d_Model_check_92 : decode prog_13_method_15_code 92 = .ok (.iload_n 1, 1) := by decide +kernel
theorem d_Model_check_93 : decode prog_13_method_15_code 93 = .ok (.imul, 1) := by decide +kernel
theorem d_Model_check_94 : decode prog_13_method_15_code 94 = .ok (.aload_n 0, 1) := by decide +kernel
theorem d_Model_check_95 : decode prog_13_method_15_code 95 = .ok (.getfield 13, 3) := by decide +kernel
theorem d_Model_check_98 : decode prog_13_method_15_code 98 = .ok (.iload_n 1, 1) := by decide +kernel
theorem d_Model_check_99 : decode prog_13_method_15_code 99 = .ok (.iaload, 1) := by decide +kernel
theorem d_Model_check_100 : decode prog_13_method_15_code 100 = .ok (.iadd, 1) := by decide +kernel
theorem d_Model_check_101 : decode prog_13_method_15_code 101 = .ok (.istore 7, 2) := by decide +kernel
theorem d_Model_check_103 : decode prog_13_method_15_code 103 = .ok (.aload_n 0, 1) := by decide +kernel
theorem d_Model_check_104 : decode prog_13_method_15_code 104 = .ok (.getfield 16, 3) := by decide +kernel
theorem d_Model_check_107 : decode prog_13_method_15_code 107 = .ok (.iload 7, 2) := by decide +kernel
theorem d_Model_check_109 : decode prog_13_method_15_code 109 = .ok (.iload_n 2, 1) := by decide +kernel
theorem d_Model_check_110 : decode prog_13_method_15_code 110 = .ok (.iastore, 1) := by decide +kernel
theorem d_Model_check_111 : decode prog_13_method_15_code 111 = .ok (.aload_n 0, 1) := by decide +kernel
theorem d_Model_check_112 : decode prog_13_method_15_code 112 = .ok (.getfield 19, 3) := by decide +kernel
theorem d_Model_check_115 : decode prog_13_method_15_code 115 = .ok (.iload 7, 2) := by decide +kernel
theorem d_Model_check_117 : decode prog_13_method_15_code 117 = .ok (.iload_n 3, 1) := by decide +kernel
theorem d_Model_check_118 : decode prog_13_method_15_code 118 = .ok (.iastore, 1) := by decide +kernel
theorem d_Model_check_119 : decode prog_13_method_15_code 119 = .ok (.aload_n 0, 1) := by decide +kernel
theorem d_Model_check_120 : decode prog_13_method_15_code 120 = .ok (.getfield 22, 3) := by decide +kernel
theorem d_Model_check_123 : decode prog_13_method_15_code 123 = .ok (.iload 7, 2) := by decide +kernel
theorem d_Model_check_125 : decode prog_13_method_15_code 125 = .ok (.iload 4, 2) := by decide +kernel
theorem d_Model_check_127 : decode prog_13_method_15_code 127 = .ok (.iastore, 1) := by decide +kernel
theorem d_Model_check_128 : decode prog_13_method_15_code 128 = .ok (.aload_n 0, 1) := by decide +kernel
theorem d_Model_check_129 : decode prog_13_method_15_code 129 = .ok (.getfield 13, 3) := by decide +kernel
theorem d_Model_check_132 : decode prog_13_method_15_code 132 = .ok (.iload_n 1, 1) := by decide +kernel
theorem d_Model_check_133 : decode prog_13_method_15_code 133 = .ok (.dup2, 1) := by decide +kernel
theorem d_Model_check_134 : decode prog_13_method_15_code 134 = .ok (.iaload, 1) := by decide +kernel
theorem d_Model_check_135 : decode prog_13_method_15_code 135 = .ok (.iconst 1, 1) := by decide +kernel
theorem d_Model_check_136 : decode prog_13_method_15_code 136 = .ok (.iadd, 1) := by decide +kernel
theorem d_Model_check_137 : decode prog_13_method_15_code 137 = .ok (.iastore, 1) := by decide +kernel
theorem d_Model_check_138 : decode prog_13_method_15_code 138 = .ok (.aload_n 0, 1) := by decide +kernel
theorem d_Model_check_139 : decode prog_13_method_15_code 139 = .ok (.invokevirtual 257, 3) := by decide +kernel
theorem d_Model_check_142 : decode prog_13_method_15_code 142 = .ok (.aload_n 0, 1) := by decide +kernel
theorem d_Model_check_143 : decode prog_13_method_15_code 143 = .ok (.getfield 13, 3) := by decide +kernel
theorem d_Model_check_146 : decode prog_13_method_15_code 146 = .ok (.iload_n 1, 1) := by decide +kernel
theorem d_Model_check_147 : decode prog_13_method_15_code 147 = .ok (.iaload, 1) := by decide +kernel
theorem d_Model_check_148 : decode prog_13_method_15_code 148 = .ok (.ireturn, 1) := by decide +kernel
theorem d_Model_isColumn_0 : decode prog_13_method_10_code 0 = .ok (.aload_n 0, 1) := by decide +kernel
theorem d_Model_isColumn_1 : decode prog_13_method_10_code 1 = .ok (.iload_n 1, 1) := by decide +kernel
theorem d_Model_isColumn_2 : decode prog_13_method_10_code 2 = .ok (.invokevirtual 242, 3) := by decide +kernel
theorem d_Model_isColumn_5 : decode prog_13_method_10_code 5 = .ok (.ifCond .eq 23, 3) := by decide +kernel
theorem d_Model_isColumn_8 : decode prog_13_method_10_code 8 = .ok (.iload_n 2, 1) := by decide +kernel
theorem d_Model_isColumn_9 : decode prog_13_method_10_code 9 = .ok (.iconst 0, 1) := by decide +kernel
theorem d_Model_isColumn_10 : decode prog_13_method_10_code 10 = .ok (.aload_n 0, 1) := by decide +kernel
theorem d_Model_isColumn_11 : decode prog_13_method_10_code 11 = .ok (.getfield 7, 3) := by decide +kernel
theorem d_Model_isColumn_14 : decode prog_13_method_10_code 14 = .ok (.iload_n 1, 1) := by decide +kernel
theorem d_Model_isColumn_15 : decode prog_13_method_10_code 15 = .ok (.iaload, 1) := by decide +kernel
theorem d_Model_isColumn_16 : decode prog_13_method_10_code 16 = .ok (.iconst 1, 1) := by decide +kernel
theorem d_Model_isColumn_17 : decode prog_13_method_10_code 17 = .ok (.isub, 1) := by decide +kernel
theorem d_Model_isColumn_18 : decode prog_13_method_10_code 18 = .ok (.invokestatic 235, 3) := by decide +kernel
theorem d_Model_isColumn_21 : decode prog_13_method_10_code 21 = .ok (.ifCond .eq 7, 3) := by decide +kernel
theorem d_Model_isColumn_24 : decode prog_13_method_10_code 24 = .ok (.iconst 1, 1) := by decide +kernel
theorem d_Model_isColumn_25 : decode prog_13_method_10_code 25 = .ok (.goto 4, 3) := by decide +kernel
theorem d_Model_isColumn_28 : decode prog_13_method_10_code 28 = .ok (.iconst 0, 1) := by decide +kernel
theorem d_Model_isColumn_29 : decode prog_13_method_10_code 29 = .ok (.ireturn, 1) := by decide +kernel
theorem d_Model_isTable_0 : decode prog_13_method_9_code 0 = .ok (.iload_n 1, 1) := by decide +kernel
theorem d_Model_isTable_1 : decode prog_13_method_9_code 1 = .ok (.iconst 0, 1) := by decide +kernel
theorem d_Model_isTable_2 : decode prog_13_method_9_code 2 = .ok (.aload_n 0, 1) := by decide +kernel
theorem d_Model_isTable_3 : decode prog_13_method_9_code 3 = .ok (.getfield 239, 3) := by decide +kernel
theorem d_Model_isTable_6 : decode prog_13_method_9_code 6 = .ok (.iconst 1, 1) := by decide +kernel
theorem d_Model_isTable_7 : decode prog_13_method_9_code 7 = .ok (.isub, 1) := by decide +kernel
theorem d_Model_isTable_8 : decode prog_13_method_9_code 8 = .ok (.invokestatic 235, 3) := by decide +kernel
theorem d_Model_isTable_11 : decode prog_13_method_9_code 11 = .ok (.ireturn, 1) := by decide +kernel
theorem d_Model_isHow_0 : decode prog_13_method_7_code 0 = .ok (.iload_n 0, 1) := by decide +kernel
theorem d_Model_isHow_1 : decode prog_13_method_7_code 1 = .ok (.iconst 0, 1) := by decide +kernel
theorem d_Model_isHow_2 : decode prog_13_method_7_code 2 = .ok (.iconst 2, 1) := by decide +kernel
theorem d_Model_isHow_3 : decode prog_13_method_7_code 3 = .ok (.invokestatic 235, 3) := by decide +kernel
theorem d_Model_isHow_6 : decode prog_13_method_7_code 6 = .ok (.ireturn, 1) := by decide +kernel
theorem d_Model_isValue_0 : decode prog_13_method_8_code 0 = .ok (.iload_n 0, 1) := by decide +kernel
theorem d_Model_isValue_1 : decode prog_13_method_8_code 1 = .ok (.sipush (-1000), 3) := by decide +kernel
theorem d_Model_isValue_4 : decode prog_13_method_8_code 4 = .ok (.sipush 1000, 3) := by decide +kernel
theorem d_Model_isValue_7 : decode prog_13_method_8_code 7 = .ok (.invokestatic 235, 3) := by decide +kernel
theorem d_Model_isValue_10 : decode prog_13_method_8_code 10 = .ok (.ireturn, 1) := by decide +kernel
theorem d_Model_refer_0 : decode prog_13_method_16_code 0 = .ok (.aload_n 0, 1) := by decide +kernel
theorem d_Model_refer_1 : decode prog_13_method_16_code 1 = .ok (.iload_n 1, 1) := by decide +kernel
theorem d_Model_refer_2 : decode prog_13_method_16_code 2 = .ok (.iload_n 2, 1) := by decide +kernel
theorem d_Model_refer_3 : decode prog_13_method_16_code 3 = .ok (.invokevirtual 260, 3) := by decide +kernel
theorem d_Model_refer_6 : decode prog_13_method_16_code 6 = .ok (.ifCond .eq 19, 3) := by decide +kernel
theorem d_Model_refer_9 : decode prog_13_method_16_code 9 = .ok (.iload_n 2, 1) := by decide +kernel
theorem d_Model_refer_10 : decode prog_13_method_16_code 10 = .ok (.ifCond .le 15, 3) := by decide +kernel
theorem d_Model_refer_13 : decode prog_13_method_16_code 13 = .ok (.aload_n 0, 1) := by decide +kernel
theorem d_Model_refer_14 : decode prog_13_method_16_code 14 = .ok (.iload_n 3, 1) := by decide +kernel
theorem d_Model_refer_15 : decode prog_13_method_16_code 15 = .ok (.invokevirtual 242, 3) := by decide +kernel
theorem d_Model_refer_18 : decode prog_13_method_16_code 18 = .ok (.ifCond .eq 7, 3) := by decide +kernel
theorem d_Model_refer_21 : decode prog_13_method_16_code 21 = .ok (.iconst 1, 1) := by decide +kernel
theorem d_Model_refer_22 : decode prog_13_method_16_code 22 = .ok (.goto 4, 3) := by decide +kernel
theorem d_Model_refer_25 : decode prog_13_method_16_code 25 = .ok (.iconst 0, 1) := by decide +kernel
theorem d_Model_refer_26 : decode prog_13_method_16_code 26 = .ok (.istore 5, 2) := by decide +kernel
theorem d_Model_refer_28 : decode prog_13_method_16_code 28 = .ok (.iload 5, 2) := by decide +kernel
theorem d_Model_refer_30 : decode prog_13_method_16_code 30 = .ok (.ifCond .eq 40, 3) := by decide +kernel
theorem d_Model_refer_33 : decode prog_13_method_16_code 33 = .ok (.aload_n 0, 1) := by decide +kernel
theorem d_Model_refer_34 : decode prog_13_method_16_code 34 = .ok (.getfield 25, 3) := by decide +kernel
theorem d_Model_refer_37 : decode prog_13_method_16_code 37 = .ok (.iconst 4, 1) := by decide +kernel
theorem d_Model_refer_38 : decode prog_13_method_16_code 38 = .ok (.iload_n 1, 1) := by decide +kernel
theorem d_Model_refer_39 : decode prog_13_method_16_code 39 = .ok (.imul, 1) := by decide +kernel
theorem d_Model_refer_40 : decode prog_13_method_16_code 40 = .ok (.iload_n 2, 1) := by decide +kernel
theorem d_Model_refer_41 : decode prog_13_method_16_code 41 = .ok (.iadd, 1) := by decide +kernel
theorem d_Model_refer_42 : decode prog_13_method_16_code 42 = .ok (.iaload, 1) := by decide +kernel
theorem d_Model_refer_43 : decode prog_13_method_16_code 43 = .ok (.iconst (-1), 1) := by decide +kernel
theorem d_Model_refer_44 : decode prog_13_method_16_code 44 = .ok (.if_icmp .ne 26, 3) := by decide +kernel
theorem d_Model_refer_47 : decode prog_13_method_16_code 47 = .ok (.aload_n 0, 1) := by decide +kernel
theorem d_Model_refer_48 : decode prog_13_method_16_code 48 = .ok (.getfield 46, 3) := by decide +kernel
theorem d_Model_refer_51 : decode prog_13_method_16_code 51 = .ok (.bipush 24, 2) := by decide +kernel
theorem d_Model_refer_53 : decode prog_13_method_16_code 53 = .ok (.iload_n 1, 1) := by decide +kernel
theorem d_Model_refer_54 : decode prog_13_method_16_code 54 = .ok (.iadd, 1) := by decide +kernel
theorem d_Model_refer_55 : decode prog_13_method_16_code 55 = .ok (.iaload, 1) := by decide +kernel
theorem d_Model_refer_56 : decode prog_13_method_16_code 56 = .ok (.ifCond .ne 14, 3) := by decide +kernel
theorem d_Model_refer_59 : decode prog_13_method_16_code 59 = .ok (.aload_n 0, 1) := by decide +kernel
theorem d_Model_refer_60 : decode prog_13_method_16_code 60 = .ok (.invokevirtual 250, 3) := by decide +kernel
theorem d_Model_refer_63 : decode prog_13_method_16_code 63 = .ok (.ifCond .ne 7, 3) := by decide +kernel
theorem d_Model_refer_66 : decode prog_13_method_16_code 66 = .ok (.iconst 1, 1) := by decide +kernel
theorem d_Model_refer_67 : decode prog_13_method_16_code 67 = .ok (.goto 4, 3) := by decide +kernel
theorem d_Model_refer_70 : decode prog_13_method_16_code 70 = .ok (.iconst 0, 1) := by decide +kernel
theorem d_Model_refer_71 : decode prog_13_method_16_code 71 = .ok (.istore 6, 2) := by decide +kernel
theorem d_Model_refer_73 : decode prog_13_method_16_code 73 = .ok (.aload_n 0, 1) := by decide +kernel
theorem d_Model_refer_74 : decode prog_13_method_16_code 74 = .ok (.iload 5, 2) := by decide +kernel
theorem d_Model_refer_76 : decode prog_13_method_16_code 76 = .ok (.ifCond .ne 7, 3) := by decide +kernel
theorem d_Model_refer_79 : decode prog_13_method_16_code 79 = .ok (.iconst 1, 1) := by decide +kernel
theorem d_Model_refer_80 : decode prog_13_method_16_code 80 = .ok (.goto 27, 3) := by decide +kernel
theorem d_Model_refer_83 : decode prog_13_method_16_code 83 = .ok (.iload 4, 2) := by decide +kernel
theorem d_Model_refer_85 : decode prog_13_method_16_code 85 = .ok (.iconst 0, 1) := by decide +kernel
theorem d_Model_refer_86 : decode prog_13_method_16_code 86 = .ok (.iconst 2, 1) := by decide +kernel
theorem d_Model_refer_87 : decode prog_13_method_16_code 87 = .ok (.invokestatic 235, 3) := by decide +kernel
theorem d_Model_refer_90 : decode prog_13_method_16_code 90 = .ok (.ifCond .ne 7, 3) := by decide +kernel
theorem d_Model_refer_93 : decode prog_13_method_16_code 93 = .ok (.iconst 2, 1) := by decide +kernel
theorem d_Model_refer_94 : decode prog_13_method_16_code 94 = .ok (.goto 13, 3) := by decide +kernel
theorem d_Model_refer_97 : decode prog_13_method_16_code 97 = .ok (.iload 6, 2) := by decide +kernel
theorem d_Model_refer_99 : decode prog_13_method_16_code 99 = .ok (.ifCond .eq 7, 3) := by decide +kernel
theorem d_Model_refer_102 : decode prog_13_method_16_code 102 = .ok (.iconst 0, 1) := by decide +kernel
theorem d_Model_refer_103 : decode prog_13_method_16_code 103 = .ok (.goto 4, 3) := by decide +kernel
theorem d_Model_refer_106 : decode prog_13_method_16_code 106 = .ok (.iconst 3, 1) := by decide +kernel
theorem d_Model_refer_107 : decode prog_13_method_16_code 107 = .ok (.invokevirtual 254, 3) := by decide +kernel
theorem d_Model_refer_110 : decode prog_13_method_16_code 110 = .ok (.ifCond .ne 30, 3) := by decide +kernel
theorem d_Model_refer_113 : decode prog_13_method_16_code 113 = .ok (.aload_n 0, 1) := by decide +kernel
theorem d_Model_refer_114 : decode prog_13_method_16_code 114 = .ok (.getfield 25, 3) := by decide +kernel
theorem d_Model_refer_117 : decode prog_13_method_16_code 117 = .ok (.iconst 4, 1) := by decide +kernel
theorem d_Model_refer_118 : decode prog_13_method_16_code 118 = .ok (.iload_n 1, 1) := by decide +kernel
theorem d_Model_refer_119 : decode prog_13_method_16_code 119 = .ok (.imul, 1) := by decide +kernel
theorem d_Model_refer_120 : decode prog_13_method_16_code 120 = .ok (.iload_n 2, 1) := by decide +kernel
theorem d_Model_refer_121 : decode prog_13_method_16_code 121 = .ok (.iadd, 1) := by decide +kernel
theorem d_Model_refer_122 : decode prog_13_method_16_code 122 = .ok (.iload_n 3, 1) := by decide +kernel
theorem d_Model_refer_123 : decode prog_13_method_16_code 123 = .ok (.iastore, 1) := by decide +kernel
theorem d_Model_refer_124 : decode prog_13_method_16_code 124 = .ok (.aload_n 0, 1) := by decide +kernel
theorem d_Model_refer_125 : decode prog_13_method_16_code 125 = .ok (.getfield 28, 3) := by decide +kernel
theorem d_Model_refer_128 : decode prog_13_method_16_code 128 = .ok (.iconst 4, 1) := by decide +kernel
theorem d_Model_refer_129 : decode prog_13_method_16_code 129 = .ok (.iload_n 1, 1) := by decide +kernel
theorem d_Model_refer_130 : decode prog_13_method_16_code 130 = .ok (.imul, 1) := by decide +kernel
theorem d_Model_refer_131 : decode prog_13_method_16_code 131 = .ok (.iload_n 2, 1) := by decide +kernel
theorem d_Model_refer_132 : decode prog_13_method_16_code 132 = .ok (.iadd, 1) := by decide +kernel
theorem d_Model_refer_133 : decode prog_13_method_16_code 133 = .ok (.iload 4, 2) := by decide +kernel
theorem d_Model_refer_135 : decode prog_13_method_16_code 135 = .ok (.iastore, 1) := by decide +kernel
theorem d_Model_refer_136 : decode prog_13_method_16_code 136 = .ok (.aload_n 0, 1) := by decide +kernel
theorem d_Model_refer_137 : decode prog_13_method_16_code 137 = .ok (.invokevirtual 257, 3) := by decide +kernel
theorem d_Model_refer_140 : decode prog_13_method_16_code 140 = .ok (.return_, 1) := by decide +kernel
theorem d_Model_veil_0 : decode prog_13_method_17_code 0 = .ok (.iload_n 1, 1) := by decide +kernel
theorem d_Model_veil_1 : decode prog_13_method_17_code 1 = .ok (.iconst 1, 1) := by decide +kernel
theorem d_Model_veil_2 : decode prog_13_method_17_code 2 = .ok (.iconst 3, 1) := by decide +kernel
theorem d_Model_veil_3 : decode prog_13_method_17_code 3 = .ok (.invokestatic 235, 3) := by decide +kernel
theorem d_Model_veil_6 : decode prog_13_method_17_code 6 = .ok (.ifCond .eq 16, 3) := by decide +kernel
theorem d_Model_veil_9 : decode prog_13_method_17_code 9 = .ok (.aload_n 0, 1) := by decide +kernel
theorem d_Model_veil_10 : decode prog_13_method_17_code 10 = .ok (.iload_n 2, 1) := by decide +kernel
theorem d_Model_veil_11 : decode prog_13_method_17_code 11 = .ok (.iload_n 3, 1) := by decide +kernel
theorem d_Model_veil_12 : decode prog_13_method_17_code 12 = .ok (.invokevirtual 260, 3) := by decide +kernel
theorem d_Model_veil_15 : decode prog_13_method_17_code 15 = .ok (.ifCond .eq 7, 3) := by decide +kernel
theorem d_Model_veil_18 : decode prog_13_method_17_code 18 = .ok (.iconst 1, 1) := by decide +kernel
theorem d_Model_veil_19 : decode prog_13_method_17_code 19 = .ok (.goto 4, 3) := by decide +kernel
theorem d_Model_veil_22 : decode prog_13_method_17_code 22 = .ok (.iconst 0, 1) := by decide +kernel
theorem d_Model_veil_23 : decode prog_13_method_17_code 23 = .ok (.istore 6, 2) := by decide +kernel
theorem d_Model_veil_25 : decode prog_13_method_17_code 25 = .ok (.iload 4, 2) := by decide +kernel
theorem d_Model_veil_27 : decode prog_13_method_17_code 27 = .ok (.invokestatic 264, 3) := by decide +kernel
theorem d_Model_veil_30 : decode prog_13_method_17_code 30 = .ok (.ifCond .eq 15, 3) := by decide +kernel
theorem d_Model_veil_33 : decode prog_13_method_17_code 33 = .ok (.iload 5, 2) := by decide +kernel
theorem d_Model_veil_35 : decode prog_13_method_17_code 35 = .ok (.invokestatic 267, 3) := by decide +kernel
theorem d_Model_veil_38 : decode prog_13_method_17_code 38 = .ok (.ifCond .eq 7, 3) := by decide +kernel
theorem d_Model_veil_41 : decode prog_13_method_17_code 41 = .ok (.iconst 1, 1) := by decide +kernel
theorem d_Model_veil_42 : decode prog_13_method_17_code 42 = .ok (.goto 4, 3) := by decide +kernel
theorem d_Model_veil_45 : decode prog_13_method_17_code 45 = .ok (.iconst 0, 1) := by decide +kernel
theorem d_Model_veil_46 : decode prog_13_method_17_code 46 = .ok (.istore 7, 2) := by decide +kernel
theorem d_Model_veil_48 : decode prog_13_method_17_code 48 = .ok (.aload_n 0, 1) := by decide +kernel
theorem d_Model_veil_49 : decode prog_13_method_17_code 49 = .ok (.iload 6, 2) := by decide +kernel
theorem d_Model_veil_51 : decode prog_13_method_17_code 51 = .ok (.ifCond .ne 7, 3) := by decide +kernel
theorem d_Model_veil_54 : decode prog_13_method_17_code 54 = .ok (.iconst 1, 1) := by decide +kernel
theorem d_Model_veil_55 : decode prog_13_method_17_code 55 = .ok (.goto 33, 3) := by decide +kernel
theorem d_Model_veil_58 : decode prog_13_method_17_code 58 = .ok (.iload 7, 2) := by decide +kernel
theorem d_Model_veil_60 : decode prog_13_method_17_code 60 = .ok (.ifCond .ne 7, 3) := by decide +kernel
theorem d_Model_veil_63 : decode prog_13_method_17_code 63 = .ok (.iconst 2, 1) := by decide +kernel
theorem d_Model_veil_64 : decode prog_13_method_17_code 64 = .ok (.goto 24, 3) := by decide +kernel
theorem d_Model_veil_67 : decode prog_13_method_17_code 67 = .ok (.aload_n 0, 1) := by decide +kernel
theorem d_Model_veil_68 : decode prog_13_method_17_code 68 = .ok (.getfield 270, 3) := by decide +kernel
theorem d_Model_veil_71 : decode prog_13_method_17_code 71 = .ok (.bipush 12, 2) := by decide +kernel
theorem d_Model_veil_73 : decode prog_13_method_17_code 73 = .ok (.if_icmp .eq 10, 3) := by decide +kernel
theorem d_Model_veil_76 : decode prog_13_method_17_code 76 = .ok (.aload_n 0, 1) := by decide +kernel
theorem d_Model_veil_77 : decode prog_13_method_17_code 77 = .ok (.invokevirtual 250, 3) := by decide +kernel
theorem d_Model_veil_80 : decode prog_13_method_17_code 80 = .ok (.ifCond .eq 7, 3) := by decide +kernel
theorem d_Model_veil_83 : decode prog_13_method_17_code 83 = .ok (.iconst 3, 1) := by decide +kernel
theorem d_Model_veil_84 : decode prog_13_method_17_code 84 = .ok (.goto 4, 3) := by decide +kernel
theorem d_Model_veil_87 : decode prog_13_method_17_code 87 = .ok (.iconst 0, 1) := by decide +kernel
theorem d_Model_veil_88 : decode prog_13_method_17_code 88 = .ok (.invokevirtual 254, 3) := by decide +kernel
theorem d_Model_veil_91 : decode prog_13_method_17_code 91 = .ok (.ifCond .eq 5, 3) := by decide +kernel
theorem d_Model_veil_94 : decode prog_13_method_17_code 94 = .ok (.iconst 0, 1) := by decide +kernel
theorem d_Model_veil_95 : decode prog_13_method_17_code 95 = .ok (.ireturn, 1) := by decide +kernel
theorem d_Model_veil_96 : decode prog_13_method_17_code 96 = .ok (.aload_n 0, 1) := by decide +kernel
theorem d_Model_veil_97 : decode prog_13_method_17_code 97 = .ok (.getfield 31, 3) := by decide +kernel
theorem d_Model_veil_100 : decode prog_13_method_17_code 100 = .ok (.aload_n 0, 1) := by decide +kernel
theorem d_Model_veil_101 : decode prog_13_method_17_code 101 = .ok (.getfield 270, 3) := by decide +kernel
theorem d_Model_veil_104 : decode prog_13_method_17_code 104 = .ok (.iload_n 1, 1) := by decide +kernel
theorem d_Model_veil_105 : decode prog_13_method_17_code 105 = .ok (.iastore, 1) := by decide +kernel
theorem d_Model_veil_106 : decode prog_13_method_17_code 106 = .ok (.aload_n 0, 1) := by decide +kernel
theorem d_Model_veil_107 : decode prog_13_method_17_code 107 = .ok (.getfield 34, 3) := by decide +kernel
theorem d_Model_veil_110 : decode prog_13_method_17_code 110 = .ok (.aload_n 0, 1) := by decide +kernel
theorem d_Model_veil_111 : decode prog_13_method_17_code 111 = .ok (.getfield 270, 3) := by decide +kernel
theorem d_Model_veil_114 : decode prog_13_method_17_code 114 = .ok (.iload_n 2, 1) := by decide +kernel
theorem d_Model_veil_115 : decode prog_13_method_17_code 115 = .ok (.iastore, 1) := by decide +kernel
theorem d_Model_veil_116 : decode prog_13_method_17_code 116 = .ok (.aload_n 0, 1) := by decide +kernel
theorem d_Model_veil_117 : decode prog_13_method_17_code 117 = .ok (.getfield 37, 3) := by decide +kernel
theorem d_Model_veil_120 : decode prog_13_method_17_code 120 = .ok (.aload_n 0, 1) := by decide +kernel
theorem d_Model_veil_121 : decode prog_13_method_17_code 121 = .ok (.getfield 270, 3) := by decide +kernel
theorem d_Model_veil_124 : decode prog_13_method_17_code 124 = .ok (.iload_n 3, 1) := by decide +kernel
theorem d_Model_veil_125 : decode prog_13_method_17_code 125 = .ok (.iastore, 1) := by decide +kernel
theorem d_Model_veil_126 : decode prog_13_method_17_code 126 = .ok (.aload_n 0, 1) := by decide +kernel
theorem d_Model_veil_127 : decode prog_13_method_17_code 127 = .ok (.getfield 40, 3) := by decide +kernel
theorem d_Model_veil_130 : decode prog_13_method_17_code 130 = .ok (.aload_n 0, 1) := by decide +kernel
theorem d_Model_veil_131 : decode prog_13_method_17_code 131 = .ok (.getfield 270, 3) := by decide +kernel
theorem d_Model_veil_134 : decode prog_13_method_17_code 134 = .ok (.iload 4, 2) := by decide +kernel
theorem d_Model_veil_136 : decode prog_13_method_17_code 136 = .ok (.iastore, 1) := by decide +kernel
theorem d_Model_veil_137 : decode prog_13_method_17_code 137 = .ok (.aload_n 0, 1) := by decide +kernel
theorem d_Model_veil_138 : decode prog_13_method_17_code 138 = .ok (.getfield 43, 3) := by decide +kernel
theorem d_Model_veil_141 : decode prog_13_method_17_code 141 = .ok (.aload_n 0, 1) := by decide +kernel
theorem d_Model_veil_142 : decode prog_13_method_17_code 142 = .ok (.getfield 270, 3) := by decide +kernel
theorem d_Model_veil_145 : decode prog_13_method_17_code 145 = .ok (.iload 5, 2) := by decide +kernel
theorem d_Model_veil_147 : decode prog_13_method_17_code 147 = .ok (.iastore, 1) := by decide +kernel
theorem d_Model_veil_148 : decode prog_13_method_17_code 148 = .ok (.aload_n 0, 1) := by decide +kernel
theorem d_Model_veil_149 : decode prog_13_method_17_code 149 = .ok (.dup, 1) := by decide +kernel
theorem d_Model_veil_150 : decode prog_13_method_17_code 150 = .ok (.getfield 270, 3) := by decide +kernel
theorem d_Model_veil_153 : decode prog_13_method_17_code 153 = .ok (.iconst 1, 1) := by decide +kernel
theorem d_Model_veil_154 : decode prog_13_method_17_code 154 = .ok (.iadd, 1) := by decide +kernel
theorem d_Model_veil_155 : decode prog_13_method_17_code 155 = .ok (.putfield 270, 3) := by decide +kernel
theorem d_Model_veil_158 : decode prog_13_method_17_code 158 = .ok (.aload_n 0, 1) := by decide +kernel
theorem d_Model_veil_159 : decode prog_13_method_17_code 159 = .ok (.invokevirtual 257, 3) := by decide +kernel
theorem d_Model_veil_162 : decode prog_13_method_17_code 162 = .ok (.aload_n 0, 1) := by decide +kernel
theorem d_Model_veil_163 : decode prog_13_method_17_code 163 = .ok (.getfield 270, 3) := by decide +kernel
theorem d_Model_veil_166 : decode prog_13_method_17_code 166 = .ok (.ireturn, 1) := by decide +kernel
theorem d_Model_begin_0 : decode prog_13_method_24_code 0 = .ok (.iconst 0, 1) := by decide +kernel
theorem d_Model_begin_1 : decode prog_13_method_24_code 1 = .ok (.istore_n 2, 1) := by decide +kernel
theorem d_Model_begin_2 : decode prog_13_method_24_code 2 = .ok (.iconst (-1), 1) := by decide +kernel
theorem d_Model_begin_3 : decode prog_13_method_24_code 3 = .ok (.istore_n 3, 1) := by decide +kernel
theorem d_Model_begin_4 : decode prog_13_method_24_code 4 = .ok (.iconst 3, 1) := by decide +kernel
theorem d_Model_begin_5 : decode prog_13_method_24_code 5 = .ok (.istore 4, 2) := by decide +kernel
theorem d_Model_begin_7 : decode prog_13_method_24_code 7 = .ok (.iload 4, 2) := by decide +kernel
theorem d_Model_begin_9 : decode prog_13_method_24_code 9 = .ok (.ifCond .lt 44, 3) := by decide +kernel
theorem d_Model_begin_12 : decode prog_13_method_24_code 12 = .ok (.iload_n 2, 1) := by decide +kernel
theorem d_Model_begin_13 : decode prog_13_method_24_code 13 = .ok (.aload_n 0, 1) := by decide +kernel
theorem d_Model_begin_14 : decode prog_13_method_24_code 14 = .ok (.getfield 76, 3) := by decide +kernel
theorem d_Model_begin_17 : decode prog_13_method_24_code 17 = .ok (.iload 4, 2) := by decide +kernel
theorem d_Model_begin_19 : decode prog_13_method_24_code 19 = .ok (.baload, 1) := by decide +kernel
theorem d_Model_begin_20 : decode prog_13_method_24_code 20 = .ok (.ifCond .eq 7, 3) := by decide +kernel
theorem d_Model_begin_23 : decode prog_13_method_24_code 23 = .ok (.iconst 1, 1) := by decide +kernel
theorem d_Model_begin_24 : decode prog_13_method_24_code 24 = .ok (.goto 4, 3) := by decide +kernel
theorem d_Model_begin_27 : decode prog_13_method_24_code 27 = .ok (.iconst 0, 1) := by decide +kernel
theorem d_Model_begin_28 : decode prog_13_method_24_code 28 = .ok (.iadd, 1) := by decide +kernel
theorem d_Model_begin_29 : decode prog_13_method_24_code 29 = .ok (.istore_n 2, 1) := by decide +kernel
theorem d_Model_begin_30 : decode prog_13_method_24_code 30 = .ok (.aload_n 0, 1) := by decide +kernel
theorem d_Model_begin_31 : decode prog_13_method_24_code 31 = .ok (.getfield 76, 3) := by decide +kernel
theorem d_Model_begin_34 : decode prog_13_method_24_code 34 = .ok (.iload 4, 2) := by decide +kernel
theorem d_Model_begin_36 : decode prog_13_method_24_code 36 = .ok (.baload, 1) := by decide +kernel
theorem d_Model_begin_37 : decode prog_13_method_24_code 37 = .ok (.ifCond .eq 7, 3) := by decide +kernel
theorem d_Model_begin_40 : decode prog_13_method_24_code 40 = .ok (.iload_n 3, 1) := by decide +kernel
theorem d_Model_begin_41 : decode prog_13_method_24_code 41 = .ok (.goto 5, 3) := by decide +kernel
theorem d_Model_begin_44 : decode prog_13_method_24_code 44 = .ok (.iload 4, 2) := by decide +kernel
theorem d_Model_begin_46 : decode prog_13_method_24_code 46 = .ok (.istore_n 3, 1) := by decide +kernel
theorem d_Model_begin_47 : decode prog_13_method_24_code 47 = .ok (.iinc 4 (-1), 3) := by decide +kernel
theorem d_Model_begin_50 : decode prog_13_method_24_code 50 = .ok (.goto (-43), 3) := by decide +kernel
theorem d_Model_begin_53 : decode prog_13_method_24_code 53 = .ok (.aload_n 0, 1) := by decide +kernel
theorem d_Model_begin_54 : decode prog_13_method_24_code 54 = .ok (.iload_n 1, 1) := by decide +kernel
theorem d_Model_begin_55 : decode prog_13_method_24_code 55 = .ok (.iconst 0, 1) := by decide +kernel
theorem d_Model_begin_56 : decode prog_13_method_24_code 56 = .ok (.iconst 3, 1) := by decide +kernel
theorem d_Model_begin_57 : decode prog_13_method_24_code 57 = .ok (.invokestatic 235, 3) := by decide +kernel
theorem d_Model_begin_60 : decode prog_13_method_24_code 60 = .ok (.ifCond .ne 7, 3) := by decide +kernel
theorem d_Model_begin_63 : decode prog_13_method_24_code 63 = .ok (.iconst 1, 1) := by decide +kernel
theorem d_Model_begin_64 : decode prog_13_method_24_code 64 = .ok (.goto 22, 3) := by decide +kernel
theorem d_Model_begin_67 : decode prog_13_method_24_code 67 = .ok (.iload_n 2, 1) := by decide +kernel
theorem d_Model_begin_68 : decode prog_13_method_24_code 68 = .ok (.iconst 4, 1) := by decide +kernel
theorem d_Model_begin_69 : decode prog_13_method_24_code 69 = .ok (.if_icmp .eq 12, 3) := by decide +kernel
theorem d_Model_begin_72 : decode prog_13_method_24_code 72 = .ok (.aload_n 0, 1) := by decide +kernel
theorem d_Model_begin_73 : decode prog_13_method_24_code 73 = .ok (.getfield 247, 3) := by decide +kernel
theorem d_Model_begin_76 : decode prog_13_method_24_code 76 = .ok (.bipush 60, 2) := by decide +kernel
theorem d_Model_begin_78 : decode prog_13_method_24_code 78 = .ok (.if_icmp .ne 7, 3) := by decide +kernel
theorem d_Model_begin_81 : decode prog_13_method_24_code 81 = .ok (.iconst 2, 1) := by decide +kernel
theorem d_Model_begin_82 : decode prog_13_method_24_code 82 = .ok (.goto 4, 3) := by decide +kernel
theorem d_Model_begin_85 : decode prog_13_method_24_code 85 = .ok (.iconst 0, 1) := by decide +kernel
theorem d_Model_begin_86 : decode prog_13_method_24_code 86 = .ok (.invokevirtual 254, 3) := by decide +kernel
theorem d_Model_begin_89 : decode prog_13_method_24_code 89 = .ok (.ifCond .eq 5, 3) := by decide +kernel
theorem d_Model_begin_92 : decode prog_13_method_24_code 92 = .ok (.iconst 0, 1) := by decide +kernel
theorem d_Model_begin_93 : decode prog_13_method_24_code 93 = .ok (.ireturn, 1) := by decide +kernel
theorem d_Model_begin_94 : decode prog_13_method_24_code 94 = .ok (.aload_n 0, 1) := by decide +kernel
theorem d_Model_begin_95 : decode prog_13_method_24_code 95 = .ok (.getfield 247, 3) := by decide +kernel
theorem d_Model_begin_98 : decode prog_13_method_24_code 98 = .ok (.istore 4, 2) := by decide +kernel
theorem d_Model_begin_100 : decode prog_13_method_24_code 100 = .ok (.aload_n 0, 1) := by decide +kernel
theorem d_Model_begin_101 : decode prog_13_method_24_code 101 = .ok (.dup, 1) := by decide +kernel
theorem d_Model_begin_102 : decode prog_13_method_24_code 102 = .ok (.getfield 247, 3) := by decide +kernel
theorem d_Model_begin_105 : decode prog_13_method_24_code 105 = .ok (.iconst 1, 1) := by decide +kernel
theorem d_Model_begin_106 : decode prog_13_method_24_code 106 = .ok (.iadd, 1) := by decide +kernel
theorem d_Model_begin_107 : decode prog_13_method_24_code 107 = .ok (.putfield 247, 3) := by decide +kernel
theorem d_Model_begin_110 : decode prog_13_method_24_code 110 = .ok (.aload_n 0, 1) := by decide +kernel
theorem d_Model_begin_111 : decode prog_13_method_24_code 111 = .ok (.getfield 58, 3) := by decide +kernel
theorem d_Model_begin_114 : decode prog_13_method_24_code 114 = .ok (.iload 4, 2) := by decide +kernel
theorem d_Model_begin_116 : decode prog_13_method_24_code 116 = .ok (.iload_n 1, 1) := by decide +kernel
theorem d_Model_begin_117 : decode prog_13_method_24_code 117 = .ok (.iastore, 1) := by decide +kernel
theorem d_Model_begin_118 : decode prog_13_method_24_code 118 = .ok (.aload_n 0, 1) := by decide +kernel
theorem d_Model_begin_119 : decode prog_13_method_24_code 119 = .ok (.getfield 61, 3) := by decide +kernel
theorem d_Model_begin_122 : decode prog_13_method_24_code 122 = .ok (.iload 4, 2) := by decide +kernel
theorem d_Model_begin_124 : decode prog_13_method_24_code 124 = .ok (.iconst 0, 1) := by decide +kernel
theorem d_Model_begin_125 : decode prog_13_method_24_code 125 = .ok (.iastore, 1) := by decide +kernel
theorem d_Model_begin_126 : decode prog_13_method_24_code 126 = .ok (.aload_n 0, 1) := by decide +kernel
theorem d_Model_begin_127 : decode prog_13_method_24_code 127 = .ok (.getfield 64, 3) := by decide +kernel
theorem d_Model_begin_130 : decode prog_13_method_24_code 130 = .ok (.iload 4, 2) := by decide +kernel
theorem d_Model_begin_132 : decode prog_13_method_24_code 132 = .ok (.iconst (-1), 1) := by decide +kernel
theorem d_Model_begin_133 : decode prog_13_method_24_code 133 = .ok (.iastore, 1) := by decide +kernel
theorem d_Model_begin_134 : decode prog_13_method_24_code 134 = .ok (.aload_n 0, 1) := by decide +kernel
theorem d_Model_begin_135 : decode prog_13_method_24_code 135 = .ok (.getfield 67, 3) := by decide +kernel
theorem d_Model_begin_138 : decode prog_13_method_24_code 138 = .ok (.iload 4, 2) := by decide +kernel
theorem d_Model_begin_140 : decode prog_13_method_24_code 140 = .ok (.iload_n 3, 1) := by decide +kernel
theorem d_Model_begin_141 : decode prog_13_method_24_code 141 = .ok (.iastore, 1) := by decide +kernel
theorem d_Model_begin_142 : decode prog_13_method_24_code 142 = .ok (.aload_n 0, 1) := by decide +kernel
theorem d_Model_begin_143 : decode prog_13_method_24_code 143 = .ok (.getfield 70, 3) := by decide +kernel
theorem d_Model_begin_146 : decode prog_13_method_24_code 146 = .ok (.iload 4, 2) := by decide +kernel
theorem d_Model_begin_148 : decode prog_13_method_24_code 148 = .ok (.aload_n 0, 1) := by decide +kernel
theorem d_Model_begin_149 : decode prog_13_method_24_code 149 = .ok (.getfield 285, 3) := by decide +kernel
theorem d_Model_begin_152 : decode prog_13_method_24_code 152 = .ok (.iastore, 1) := by decide +kernel
theorem d_Model_begin_153 : decode prog_13_method_24_code 153 = .ok (.aload_n 0, 1) := by decide +kernel
theorem d_Model_begin_154 : decode prog_13_method_24_code 154 = .ok (.getfield 73, 3) := by decide +kernel
theorem d_Model_begin_157 : decode prog_13_method_24_code 157 = .ok (.iload 4, 2) := by decide +kernel
theorem d_Model_begin_159 : decode prog_13_method_24_code 159 = .ok (.iconst (-1), 1) := by decide +kernel
theorem d_Model_begin_160 : decode prog_13_method_24_code 160 = .ok (.iastore, 1) := by decide +kernel
theorem d_Model_begin_161 : decode prog_13_method_24_code 161 = .ok (.aload_n 0, 1) := by decide +kernel
theorem d_Model_begin_162 : decode prog_13_method_24_code 162 = .ok (.getfield 76, 3) := by decide +kernel
theorem d_Model_begin_165 : decode prog_13_method_24_code 165 = .ok (.iload_n 3, 1) := by decide +kernel
theorem d_Model_begin_166 : decode prog_13_method_24_code 166 = .ok (.iconst 1, 1) := by decide +kernel
theorem d_Model_begin_167 : decode prog_13_method_24_code 167 = .ok (.bastore, 1) := by decide +kernel
theorem d_Model_begin_168 : decode prog_13_method_24_code 168 = .ok (.iconst 0, 1) := by decide +kernel
theorem d_Model_begin_169 : decode prog_13_method_24_code 169 = .ok (.istore 5, 2) := by decide +kernel
theorem d_Model_begin_171 : decode prog_13_method_24_code 171 = .ok (.iload 5, 2) := by decide +kernel
theorem d_Model_begin_173 : decode prog_13_method_24_code 173 = .ok (.bipush 6, 2) := by decide +kernel
theorem d_Model_begin_175 : decode prog_13_method_24_code 175 = .ok (.if_icmp .ge 67, 3) := by decide +kernel
theorem d_Model_begin_178 : decode prog_13_method_24_code 178 = .ok (.aload_n 0, 1) := by decide +kernel
theorem d_Model_begin_179 : decode prog_13_method_24_code 179 = .ok (.getfield 46, 3) := by decide +kernel
theorem d_Model_begin_182 : decode prog_13_method_24_code 182 = .ok (.bipush 6, 2) := by decide +kernel
theorem d_Model_begin_184 : decode prog_13_method_24_code 184 = .ok (.iload_n 3, 1) := by decide +kernel
theorem d_Model_begin_185 : decode prog_13_method_24_code 185 = .ok (.imul, 1) := by decide +kernel
theorem d_Model_begin_186 : decode prog_13_method_24_code 186 = .ok (.iload 5, 2) := by decide +kernel
theorem d_Model_begin_188 : decode prog_13_method_24_code 188 = .ok (.iadd, 1) := by decide +kernel
theorem d_Model_begin_189 : decode prog_13_method_24_code 189 = .ok (.aload_n 0, 1) := by decide +kernel
theorem d_Model_begin_190 : decode prog_13_method_24_code 190 = .ok (.getfield 46, 3) := by decide +kernel
theorem d_Model_begin_193 : decode prog_13_method_24_code 193 = .ok (.bipush 24, 2) := by decide +kernel
theorem d_Model_begin_195 : decode prog_13_method_24_code 195 = .ok (.iload 5, 2) := by decide +kernel
theorem d_Model_begin_197 : decode prog_13_method_24_code 197 = .ok (.iadd, 1) := by decide +kernel
theorem d_Model_begin_198 : decode prog_13_method_24_code 198 = .ok (.iaload, 1) := by decide +kernel
theorem d_Model_begin_199 : decode prog_13_method_24_code 199 = .ok (.iastore, 1) := by decide +kernel
theorem d_Model_begin_200 : decode prog_13_method_24_code 200 = .ok (.iconst 0, 1) := by decide +kernel
theorem d_Model_begin_201 : decode prog_13_method_24_code 201 = .ok (.istore 6, 2) := by decide +kernel
theorem d_Model_begin_203 : decode prog_13_method_24_code 203 = .ok (.iload 6, 2) := by decide +kernel
theorem d_Model_begin_205 : decode prog_13_method_24_code 205 = .ok (.aload_n 0, 1) := by decide +kernel
theorem d_Model_begin_206 : decode prog_13_method_24_code 206 = .ok (.getfield 46, 3) := by decide +kernel
theorem d_Model_begin_209 : decode prog_13_method_24_code 209 = .ok (.bipush 24, 2) := by decide +kernel
theorem d_Model_begin_211 : decode prog_13_method_24_code 211 = .ok (.iload 5, 2) := by decide +kernel
theorem d_Model_begin_213 : decode prog_13_method_24_code 213 = .ok (.iadd, 1) := by decide +kernel
theorem d_Model_begin_214 : decode prog_13_method_24_code 214 = .ok (.iaload, 1) := by decide +kernel
theorem d_Model_begin_215 : decode prog_13_method_24_code 215 = .ok (.if_icmp .ge 21, 3) := by decide +kernel
theorem d_Model_begin_218 : decode prog_13_method_24_code 218 = .ok (.aload_n 0, 1) := by decide +kernel
theorem d_Model_begin_219 : decode prog_13_method_24_code 219 = .ok (.iconst 4, 1) := by decide +kernel
theorem d_Model_begin_220 : decode prog_13_method_24_code 220 = .ok (.iload 6, 2) := by decide +kernel
theorem d_Model_begin_222 : decode prog_13_method_24_code 222 = .ok (.iload_n 3, 1) := by decide +kernel
theorem d_Model_begin_223 : decode prog_13_method_24_code 223 = .ok (.iload 6, 2) := by decide +kernel
theorem d_Model_begin_225 : decode prog_13_method_24_code 225 = .ok (.iload 5, 2) := by decide +kernel
theorem d_Model_begin_227 : decode prog_13_method_24_code 227 = .ok (.invokevirtual 277, 3) := by decide +kernel
theorem d_Model_begin_230 : decode prog_13_method_24_code 230 = .ok (.iinc 6 1, 3) := by decide +kernel
theorem d_Model_begin_233 : decode prog_13_method_24_code 233 = .ok (.goto (-30), 3) := by decide +kernel
theorem d_Model_begin_236 : decode prog_13_method_24_code 236 = .ok (.iinc 5 1, 3) := by decide +kernel
theorem d_Model_begin_239 : decode prog_13_method_24_code 239 = .ok (.goto (-68), 3) := by decide +kernel
theorem d_Model_begin_242 : decode prog_13_method_24_code 242 = .ok (.iload 4, 2) := by decide +kernel
theorem d_Model_begin_244 : decode prog_13_method_24_code 244 = .ok (.ireturn, 1) := by decide +kernel
theorem d_Model_copiesRow_0 : decode prog_13_method_20_code 0 = .ok (.iconst 0, 1) := by decide +kernel
theorem d_Model_copiesRow_1 : decode prog_13_method_20_code 1 = .ok (.istore 6, 2) := by decide +kernel
theorem d_Model_copiesRow_3 : decode prog_13_method_20_code 3 = .ok (.iload 6, 2) := by decide +kernel
theorem d_Model_copiesRow_5 : decode prog_13_method_20_code 5 = .ok (.iconst 4, 1) := by decide +kernel
theorem d_Model_copiesRow_6 : decode prog_13_method_20_code 6 = .ok (.if_icmp .ge 38, 3) := by decide +kernel
theorem d_Model_copiesRow_9 : decode prog_13_method_20_code 9 = .ok (.aload_n 0, 1) := by decide +kernel
theorem d_Model_copiesRow_10 : decode prog_13_method_20_code 10 = .ok (.getfield 49, 3) := by decide +kernel
theorem d_Model_copiesRow_13 : decode prog_13_method_20_code 13 = .ok (.iload_n 3, 1) := by decide +kernel
theorem d_Model_copiesRow_14 : decode prog_13_method_20_code 14 = .ok (.iload 5, 2) := by decide +kernel
theorem d_Model_copiesRow_16 : decode prog_13_method_20_code 16 = .ok (.iload 4, 2) := by decide +kernel
theorem d_Model_copiesRow_18 : decode prog_13_method_20_code 18 = .ok (.iload 6, 2) := by decide +kernel
theorem d_Model_copiesRow_20 : decode prog_13_method_20_code 20 = .ok (.invokestatic 273, 3) := by decide +kernel
theorem d_Model_copiesRow_23 : decode prog_13_method_20_code 23 = .ok (.aload_n 0, 1) := by decide +kernel
theorem d_Model_copiesRow_24 : decode prog_13_method_20_code 24 = .ok (.getfield 49, 3) := by decide +kernel
theorem d_Model_copiesRow_27 : decode prog_13_method_20_code 27 = .ok (.iload_n 1, 1) := by decide +kernel
theorem d_Model_copiesRow_28 : decode prog_13_method_20_code 28 = .ok (.iload 5, 2) := by decide +kernel
theorem d_Model_copiesRow_30 : decode prog_13_method_20_code 30 = .ok (.iload_n 2, 1) := by decide +kernel
theorem d_Model_copiesRow_31 : decode prog_13_method_20_code 31 = .ok (.iload 6, 2) := by decide +kernel
theorem d_Model_copiesRow_33 : decode prog_13_method_20_code 33 = .ok (.invokestatic 273, 3) := by decide +kernel
theorem d_Model_copiesRow_36 : decode prog_13_method_20_code 36 = .ok (.iaload, 1) := by decide +kernel
theorem d_Model_copiesRow_37 : decode prog_13_method_20_code 37 = .ok (.iastore, 1) := by decide +kernel
theorem d_Model_copiesRow_38 : decode prog_13_method_20_code 38 = .ok (.iinc 6 1, 3) := by decide +kernel
theorem d_Model_copiesRow_41 : decode prog_13_method_20_code 41 = .ok (.goto (-38), 3) := by decide +kernel
theorem d_Model_copiesRow_44 : decode prog_13_method_20_code 44 = .ok (.return_, 1) := by decide +kernel
theorem d_Model_cell_0 : decode prog_13_method_18_code 0 = .ok (.iconst 4, 1) := by decide +kernel
theorem d_Model_cell_1 : decode prog_13_method_18_code 1 = .ok (.bipush 64, 2) := by decide +kernel
theorem d_Model_cell_3 : decode prog_13_method_18_code 3 = .ok (.bipush 6, 2) := by decide +kernel
theorem d_Model_cell_5 : decode prog_13_method_18_code 5 = .ok (.iload_n 0, 1) := by decide +kernel
theorem d_Model_cell_6 : decode prog_13_method_18_code 6 = .ok (.imul, 1) := by decide +kernel
theorem d_Model_cell_7 : decode prog_13_method_18_code 7 = .ok (.iload_n 1, 1) := by decide +kernel
theorem d_Model_cell_8 : decode prog_13_method_18_code 8 = .ok (.iadd, 1) := by decide +kernel
theorem d_Model_cell_9 : decode prog_13_method_18_code 9 = .ok (.imul, 1) := by decide +kernel
theorem d_Model_cell_10 : decode prog_13_method_18_code 10 = .ok (.iload_n 2, 1) := by decide +kernel
theorem d_Model_cell_11 : decode prog_13_method_18_code 11 = .ok (.iadd, 1) := by decide +kernel
theorem d_Model_cell_12 : decode prog_13_method_18_code 12 = .ok (.imul, 1) := by decide +kernel
theorem d_Model_cell_13 : decode prog_13_method_18_code 13 = .ok (.iload_n 3, 1) := by decide +kernel
theorem d_Model_cell_14 : decode prog_13_method_18_code 14 = .ok (.iadd, 1) := by decide +kernel
theorem d_Model_cell_15 : decode prog_13_method_18_code 15 = .ok (.ireturn, 1) := by decide +kernel
theorem d_Model_value_0 : decode prog_13_method_25_code 0 = .ok (.iload_n 1, 1) := by decide +kernel
theorem d_Model_value_1 : decode prog_13_method_25_code 1 = .ok (.ldc 246, 2) := by decide +kernel
theorem d_Model_value_3 : decode prog_13_method_25_code 3 = .ok (.if_icmp .eq 10, 3) := by decide +kernel
theorem d_Model_value_6 : decode prog_13_method_25_code 6 = .ok (.iload_n 1, 1) := by decide +kernel
theorem d_Model_value_7 : decode prog_13_method_25_code 7 = .ok (.invokestatic 267, 3) := by decide +kernel
theorem d_Model_value_10 : decode prog_13_method_25_code 10 = .ok (.ifCond .eq 7, 3) := by decide +kernel
theorem d_Model_value_13 : decode prog_13_method_25_code 13 = .ok (.iconst 1, 1) := by decide +kernel
theorem d_Model_value_14 : decode prog_13_method_25_code 14 = .ok (.goto 4, 3) := by decide +kernel
theorem d_Model_value_17 : decode prog_13_method_25_code 17 = .ok (.iconst 0, 1) := by decide +kernel
theorem d_Model_value_18 : decode prog_13_method_25_code 18 = .ok (.istore_n 2, 1) := by decide +kernel
theorem d_Model_value_19 : decode prog_13_method_25_code 19 = .ok (.aload_n 0, 1) := by decide +kernel
theorem d_Model_value_20 : decode prog_13_method_25_code 20 = .ok (.iload_n 2, 1) := by decide +kernel
theorem d_Model_value_21 : decode prog_13_method_25_code 21 = .ok (.ifCond .ne 7, 3) := by decide +kernel
theorem d_Model_value_24 : decode prog_13_method_25_code 24 = .ok (.iconst 1, 1) := by decide +kernel
theorem d_Model_value_25 : decode prog_13_method_25_code 25 = .ok (.goto 16, 3) := by decide +kernel
theorem d_Model_value_28 : decode prog_13_method_25_code 28 = .ok (.aload_n 0, 1) := by decide +kernel
theorem d_Model_value_29 : decode prog_13_method_25_code 29 = .ok (.getfield 288, 3) := by decide +kernel
theorem d_Model_value_32 : decode prog_13_method_25_code 32 = .ok (.iconst 4, 1) := by decide +kernel
theorem d_Model_value_33 : decode prog_13_method_25_code 33 = .ok (.if_icmp .ne 7, 3) := by decide +kernel
theorem d_Model_value_36 : decode prog_13_method_25_code 36 = .ok (.iconst 2, 1) := by decide +kernel
theorem d_Model_value_37 : decode prog_13_method_25_code 37 = .ok (.goto 4, 3) := by decide +kernel
theorem d_Model_value_40 : decode prog_13_method_25_code 40 = .ok (.iconst 0, 1) := by decide +kernel
theorem d_Model_value_41 : decode prog_13_method_25_code 41 = .ok (.invokevirtual 254, 3) := by decide +kernel
theorem d_Model_value_44 : decode prog_13_method_25_code 44 = .ok (.ifCond .eq 5, 3) := by decide +kernel
theorem d_Model_value_47 : decode prog_13_method_25_code 47 = .ok (.iconst 0, 1) := by decide +kernel
theorem d_Model_value_48 : decode prog_13_method_25_code 48 = .ok (.ireturn, 1) := by decide +kernel
theorem d_Model_value_49 : decode prog_13_method_25_code 49 = .ok (.aload_n 0, 1) := by decide +kernel
theorem d_Model_value_50 : decode prog_13_method_25_code 50 = .ok (.getfield 111, 3) := by decide +kernel
theorem d_Model_value_53 : decode prog_13_method_25_code 53 = .ok (.aload_n 0, 1) := by decide +kernel
theorem d_Model_value_54 : decode prog_13_method_25_code 54 = .ok (.getfield 288, 3) := by decide +kernel
theorem d_Model_value_57 : decode prog_13_method_25_code 57 = .ok (.iload_n 1, 1) := by decide +kernel
theorem d_Model_value_58 : decode prog_13_method_25_code 58 = .ok (.iastore, 1) := by decide +kernel
theorem d_Model_value_59 : decode prog_13_method_25_code 59 = .ok (.aload_n 0, 1) := by decide +kernel
theorem d_Model_value_60 : decode prog_13_method_25_code 60 = .ok (.dup, 1) := by decide +kernel
theorem d_Model_value_61 : decode prog_13_method_25_code 61 = .ok (.getfield 288, 3) := by decide +kernel
theorem d_Model_value_64 : decode prog_13_method_25_code 64 = .ok (.iconst 1, 1) := by decide +kernel
theorem d_Model_value_65 : decode prog_13_method_25_code 65 = .ok (.iadd, 1) := by decide +kernel
theorem d_Model_value_66 : decode prog_13_method_25_code 66 = .ok (.putfield 288, 3) := by decide +kernel
theorem d_Model_value_69 : decode prog_13_method_25_code 69 = .ok (.aload_n 0, 1) := by decide +kernel
theorem d_Model_value_70 : decode prog_13_method_25_code 70 = .ok (.getfield 288, 3) := by decide +kernel
theorem d_Model_value_73 : decode prog_13_method_25_code 73 = .ok (.ireturn, 1) := by decide +kernel
theorem d_Model_insert_0 : decode prog_13_method_48_code 0 = .ok (.aload_n 0, 1) := by decide +kernel
theorem d_Model_insert_1 : decode prog_13_method_48_code 1 = .ok (.iload_n 1, 1) := by decide +kernel
theorem d_Model_insert_2 : decode prog_13_method_48_code 2 = .ok (.invokevirtual 376, 3) := by decide +kernel
theorem d_Model_insert_5 : decode prog_13_method_48_code 5 = .ok (.ifCond .eq 15, 3) := by decide +kernel
theorem d_Model_insert_8 : decode prog_13_method_48_code 8 = .ok (.aload_n 0, 1) := by decide +kernel
theorem d_Model_insert_9 : decode prog_13_method_48_code 9 = .ok (.iload_n 2, 1) := by decide +kernel
theorem d_Model_insert_10 : decode prog_13_method_48_code 10 = .ok (.invokevirtual 242, 3) := by decide +kernel
theorem d_Model_insert_13 : decode prog_13_method_48_code 13 = .ok (.ifCond .eq 7, 3) := by decide +kernel
theorem d_Model_insert_16 : decode prog_13_method_48_code 16 = .ok (.iconst 1, 1) := by decide +kernel
theorem d_Model_insert_17 : decode prog_13_method_48_code 17 = .ok (.goto 4, 3) := by decide +kernel
theorem d_Model_insert_20 : decode prog_13_method_48_code 20 = .ok (.iconst 0, 1) := by decide +kernel
theorem d_Model_insert_21 : decode prog_13_method_48_code 21 = .ok (.istore_n 3, 1) := by decide +kernel
theorem d_Model_insert_22 : decode prog_13_method_48_code 22 = .ok (.aload_n 0, 1) := by decide +kernel
theorem d_Model_insert_23 : decode prog_13_method_48_code 23 = .ok (.iload_n 3, 1) := by decide +kernel
theorem d_Model_insert_24 : decode prog_13_method_48_code 24 = .ok (.ifCond .ne 7, 3) := by decide +kernel
theorem d_Model_insert_27 : decode prog_13_method_48_code 27 = .ok (.iconst 1, 1) := by decide +kernel
theorem d_Model_insert_28 : decode prog_13_method_48_code 28 = .ok (.goto 30, 3) := by decide +kernel
theorem d_Model_insert_31 : decode prog_13_method_48_code 31 = .ok (.aload_n 0, 1) := by decide +kernel
theorem d_Model_insert_32 : decode prog_13_method_48_code 32 = .ok (.getfield 61, 3) := by decide +kernel
theorem d_Model_insert_35 : decode prog_13_method_48_code 35 = .ok (.iload_n 1, 1) := by decide +kernel
theorem d_Model_insert_36 : decode prog_13_method_48_code 36 = .ok (.iaload, 1) := by decide +kernel
theorem d_Model_insert_37 : decode prog_13_method_48_code 37 = .ok (.ifCond .ne 16, 3) := by decide +kernel
theorem d_Model_insert_40 : decode prog_13_method_48_code 40 = .ok (.aload_n 0, 1) := by decide +kernel
theorem d_Model_insert_41 : decode prog_13_method_48_code 41 = .ok (.getfield 288, 3) := by decide +kernel
theorem d_Model_insert_44 : decode prog_13_method_48_code 44 = .ok (.aload_n 0, 1) := by decide +kernel
theorem d_Model_insert_45 : decode prog_13_method_48_code 45 = .ok (.getfield 7, 3) := by decide +kernel
theorem d_Model_insert_48 : decode prog_13_method_48_code 48 = .ok (.iload_n 2, 1) := by decide +kernel
theorem d_Model_insert_49 : decode prog_13_method_48_code 49 = .ok (.iaload, 1) := by decide +kernel
theorem d_Model_insert_50 : decode prog_13_method_48_code 50 = .ok (.if_icmp .eq 7, 3) := by decide +kernel
theorem d_Model_insert_53 : decode prog_13_method_48_code 53 = .ok (.iconst 2, 1) := by decide +kernel
theorem d_Model_insert_54 : decode prog_13_method_48_code 54 = .ok (.goto 4, 3) := by decide +kernel
theorem d_Model_insert_57 : decode prog_13_method_48_code 57 = .ok (.iconst 0, 1) := by decide +kernel
theorem d_Model_insert_58 : decode prog_13_method_48_code 58 = .ok (.invokevirtual 254, 3) := by decide +kernel
theorem d_Model_insert_61 : decode prog_13_method_48_code 61 = .ok (.ifCond .eq 5, 3) := by decide +kernel
theorem d_Model_insert_64 : decode prog_13_method_48_code 64 = .ok (.iconst 0, 1) := by decide +kernel
theorem d_Model_insert_65 : decode prog_13_method_48_code 65 = .ok (.ireturn, 1) := by decide +kernel
theorem d_Model_insert_66 : decode prog_13_method_48_code 66 = .ok (.iconst 0, 1) := by decide +kernel
theorem d_Model_insert_67 : decode prog_13_method_48_code 67 = .ok (.istore 4, 2) := by decide +kernel
theorem d_Model_insert_69 : decode prog_13_method_48_code 69 = .ok (.iload 4, 2) := by decide +kernel
theorem d_Model_insert_71 : decode prog_13_method_48_code 71 = .ok (.iconst 4, 1) := by decide +kernel
theorem d_Model_insert_72 : decode prog_13_method_48_code 72 = .ok (.if_icmp .ge 41, 3) := by decide +kernel
theorem d_Model_insert_75 : decode prog_13_method_48_code 75 = .ok (.aload_n 0, 1) := by decide +kernel
theorem d_Model_insert_76 : decode prog_13_method_48_code 76 = .ok (.getfield 95, 3) := by decide +kernel
theorem d_Model_insert_79 : decode prog_13_method_48_code 79 = .ok (.iconst 4, 1) := by decide +kernel
theorem d_Model_insert_80 : decode prog_13_method_48_code 80 = .ok (.iload_n 1, 1) := by decide +kernel
theorem d_Model_insert_81 : decode prog_13_method_48_code 81 = .ok (.imul, 1) := by decide +kernel
theorem d_Model_insert_82 : decode prog_13_method_48_code 82 = .ok (.iload 4, 2) := by decide +kernel
theorem d_Model_insert_84 : decode prog_13_method_48_code 84 = .ok (.iadd, 1) := by decide +kernel
theorem d_Model_insert_85 : decode prog_13_method_48_code 85 = .ok (.iload 4, 2) := by decide +kernel
theorem d_Model_insert_87 : decode prog_13_method_48_code 87 = .ok (.aload_n 0, 1) := by decide +kernel
theorem d_Model_insert_88 : decode prog_13_method_48_code 88 = .ok (.getfield 288, 3) := by decide +kernel
theorem d_Model_insert_91 : decode prog_13_method_48_code 91 = .ok (.if_icmp .ge 13, 3) := by decide +kernel
theorem d_Model_insert_94 : decode prog_13_method_48_code 94 = .ok (.aload_n 0, 1) := by decide +kernel
theorem d_Model_insert_95 : decode prog_13_method_48_code 95 = .ok (.getfield 111, 3) := by decide +kernel
theorem d_Model_insert_98 : decode prog_13_method_48_code 98 = .ok (.iload 4, 2) := by decide +kernel
theorem d_Model_insert_100 : decode prog_13_method_48_code 100 = .ok (.iaload, 1) := by decide +kernel
theorem d_Model_insert_101 : decode prog_13_method_48_code 101 = .ok (.goto 5, 3) := by decide +kernel
theorem d_Model_insert_104 : decode prog_13_method_48_code 104 = .ok (.ldc 246, 2) := by decide +kernel
theorem d_Model_insert_106 : decode prog_13_method_48_code 106 = .ok (.iastore, 1) := by decide +kernel
theorem d_Model_insert_107 : decode prog_13_method_48_code 107 = .ok (.iinc 4 1, 3) := by decide +kernel
theorem d_Model_insert_110 : decode prog_13_method_48_code 110 = .ok (.goto (-41), 3) := by decide +kernel
theorem d_Model_insert_113 : decode prog_13_method_48_code 113 = .ok (.aload_n 0, 1) := by decide +kernel
theorem d_Model_insert_114 : decode prog_13_method_48_code 114 = .ok (.iconst 0, 1) := by decide +kernel
theorem d_Model_insert_115 : decode prog_13_method_48_code 115 = .ok (.putfield 288, 3) := by decide +kernel
theorem d_Model_insert_118 : decode prog_13_method_48_code 118 = .ok (.aload_n 0, 1) := by decide +kernel
theorem d_Model_insert_119 : decode prog_13_method_48_code 119 = .ok (.iload_n 1, 1) := by decide +kernel
theorem d_Model_insert_120 : decode prog_13_method_48_code 120 = .ok (.iconst 0, 1) := by decide +kernel
theorem d_Model_insert_121 : decode prog_13_method_48_code 121 = .ok (.iload_n 2, 1) := by decide +kernel
theorem d_Model_insert_122 : decode prog_13_method_48_code 122 = .ok (.invokevirtual 379, 3) := by decide +kernel
theorem d_Model_insert_125 : decode prog_13_method_48_code 125 = .ok (.ireturn, 1) := by decide +kernel
theorem d_Model_isTransaction_0 : decode prog_13_method_23_code 0 = .ok (.iload_n 1, 1) := by decide +kernel
theorem d_Model_isTransaction_1 : decode prog_13_method_23_code 1 = .ok (.iconst 0, 1) := by decide +kernel
theorem d_Model_isTransaction_2 : decode prog_13_method_23_code 2 = .ok (.aload_n 0, 1) := by decide +kernel
theorem d_Model_isTransaction_3 : decode prog_13_method_23_code 3 = .ok (.getfield 247, 3) := by decide +kernel
theorem d_Model_isTransaction_6 : decode prog_13_method_23_code 6 = .ok (.iconst 1, 1) := by decide +kernel
theorem d_Model_isTransaction_7 : decode prog_13_method_23_code 7 = .ok (.isub, 1) := by decide +kernel
theorem d_Model_isTransaction_8 : decode prog_13_method_23_code 8 = .ok (.invokestatic 235, 3) := by decide +kernel
theorem d_Model_isTransaction_11 : decode prog_13_method_23_code 11 = .ok (.ireturn, 1) := by decide +kernel
theorem d_Model_acts_0 : decode prog_13_method_47_code 0 = .ok (.aload_n 0, 1) := by decide +kernel
theorem d_Model_acts_1 : decode prog_13_method_47_code 1 = .ok (.getfield 80, 3) := by decide +kernel
theorem d_Model_acts_4 : decode prog_13_method_47_code 4 = .ok (.iload_n 1, 1) := by decide +kernel
theorem d_Model_acts_5 : decode prog_13_method_47_code 5 = .ok (.iload_n 2, 1) := by decide +kernel
theorem d_Model_acts_6 : decode prog_13_method_47_code 6 = .ok (.iastore, 1) := by decide +kernel
theorem d_Model_acts_7 : decode prog_13_method_47_code 7 = .ok (.aload_n 0, 1) := by decide +kernel
theorem d_Model_acts_8 : decode prog_13_method_47_code 8 = .ok (.getfield 83, 3) := by decide +kernel
theorem d_Model_acts_11 : decode prog_13_method_47_code 11 = .ok (.iload_n 1, 1) := by decide +kernel
theorem d_Model_acts_12 : decode prog_13_method_47_code 12 = .ok (.iload_n 3, 1) := by decide +kernel
theorem d_Model_acts_13 : decode prog_13_method_47_code 13 = .ok (.iastore, 1) := by decide +kernel
theorem d_Model_acts_14 : decode prog_13_method_47_code 14 = .ok (.aload_n 0, 1) := by decide +kernel
theorem d_Model_acts_15 : decode prog_13_method_47_code 15 = .ok (.getfield 64, 3) := by decide +kernel
theorem d_Model_acts_18 : decode prog_13_method_47_code 18 = .ok (.iload_n 1, 1) := by decide +kernel
theorem d_Model_acts_19 : decode prog_13_method_47_code 19 = .ok (.aload_n 0, 1) := by decide +kernel
theorem d_Model_acts_20 : decode prog_13_method_47_code 20 = .ok (.iload_n 1, 1) := by decide +kernel
theorem d_Model_acts_21 : decode prog_13_method_47_code 21 = .ok (.invokevirtual 370, 3) := by decide +kernel
theorem d_Model_acts_24 : decode prog_13_method_47_code 24 = .ok (.iastore, 1) := by decide +kernel
theorem d_Model_acts_25 : decode prog_13_method_47_code 25 = .ok (.aload_n 0, 1) := by decide +kernel
theorem d_Model_acts_26 : decode prog_13_method_47_code 26 = .ok (.getfield 64, 3) := by decide +kernel
theorem d_Model_acts_29 : decode prog_13_method_47_code 29 = .ok (.iload_n 1, 1) := by decide +kernel
theorem d_Model_acts_30 : decode prog_13_method_47_code 30 = .ok (.iaload, 1) := by decide +kernel
theorem d_Model_acts_31 : decode prog_13_method_47_code 31 = .ok (.istore 4, 2) := by decide +kernel
theorem d_Model_acts_33 : decode prog_13_method_47_code 33 = .ok (.aload_n 0, 1) := by decide +kernel
theorem d_Model_acts_34 : decode prog_13_method_47_code 34 = .ok (.invokevirtual 373, 3) := by decide +kernel
theorem d_Model_acts_37 : decode prog_13_method_47_code 37 = .ok (.iload 4, 2) := by decide +kernel
theorem d_Model_acts_39 : decode prog_13_method_47_code 39 = .ok (.ireturn, 1) := by decide +kernel
theorem d_Model_tries_0 : decode prog_13_method_44_code 0 = .ok (.aload_n 0, 1) := by decide +kernel
theorem d_Model_tries_1 : decode prog_13_method_44_code 1 = .ok (.iconst 0, 1) := by decide +kernel
theorem d_Model_tries_2 : decode prog_13_method_44_code 2 = .ok (.putfield 312, 3) := by decide +kernel
theorem d_Model_tries_5 : decode prog_13_method_44_code 5 = .ok (.aload_n 0, 1) := by decide +kernel
theorem d_Model_tries_6 : decode prog_13_method_44_code 6 = .ok (.getfield 80, 3) := by decide +kernel
theorem d_Model_tries_9 : decode prog_13_method_44_code 9 = .ok (.iload_n 1, 1) := by decide +kernel
theorem d_Model_tries_10 : decode prog_13_method_44_code 10 = .ok (.iaload, 1) := by decide +kernel
theorem d_Model_tries_11 : decode prog_13_method_44_code 11 = .ok (.ifCond .ne 11, 3) := by decide +kernel
theorem d_Model_tries_14 : decode prog_13_method_44_code 14 = .ok (.aload_n 0, 1) := by decide +kernel
theorem d_Model_tries_15 : decode prog_13_method_44_code 15 = .ok (.iload_n 1, 1) := by decide +kernel
theorem d_Model_tries_16 : decode prog_13_method_44_code 16 = .ok (.invokevirtual 347, 3) := by decide +kernel
theorem d_Model_tries_19 : decode prog_13_method_44_code 19 = .ok (.goto 26, 3) := by decide +kernel
theorem d_Model_tries_22 : decode prog_13_method_44_code 22 = .ok (.aload_n 0, 1) := by decide +kernel
theorem d_Model_tries_23 : decode prog_13_method_44_code 23 = .ok (.getfield 80, 3) := by decide +kernel
theorem d_Model_tries_26 : decode prog_13_method_44_code 26 = .ok (.iload_n 1, 1) := by decide +kernel
theorem d_Model_tries_27 : decode prog_13_method_44_code 27 = .ok (.iaload, 1) := by decide +kernel
theorem d_Model_tries_28 : decode prog_13_method_44_code 28 = .ok (.iconst 1, 1) := by decide +kernel
theorem d_Model_tries_29 : decode prog_13_method_44_code 29 = .ok (.if_icmp .ne 11, 3) := by decide +kernel
theorem d_Model_tries_32 : decode prog_13_method_44_code 32 = .ok (.aload_n 0, 1) := by decide +kernel
theorem d_Model_tries_33 : decode prog_13_method_44_code 33 = .ok (.iload_n 1, 1) := by decide +kernel
theorem d_Model_tries_34 : decode prog_13_method_44_code 34 = .ok (.invokevirtual 350, 3) := by decide +kernel
theorem d_Model_tries_37 : decode prog_13_method_44_code 37 = .ok (.goto 8, 3) := by decide +kernel
theorem d_Model_tries_40 : decode prog_13_method_44_code 40 = .ok (.aload_n 0, 1) := by decide +kernel
theorem d_Model_tries_41 : decode prog_13_method_44_code 41 = .ok (.iload_n 1, 1) := by decide +kernel
theorem d_Model_tries_42 : decode prog_13_method_44_code 42 = .ok (.invokevirtual 353, 3) := by decide +kernel
theorem d_Model_tries_45 : decode prog_13_method_44_code 45 = .ok (.istore_n 2, 1) := by decide +kernel
theorem d_Model_tries_46 : decode prog_13_method_44_code 46 = .ok (.iload_n 2, 1) := by decide +kernel
theorem d_Model_tries_47 : decode prog_13_method_44_code 47 = .ok (.ifCond .ne 5, 3) := by decide +kernel
theorem d_Model_tries_50 : decode prog_13_method_44_code 50 = .ok (.iconst 2, 1) := by decide +kernel
theorem d_Model_tries_51 : decode prog_13_method_44_code 51 = .ok (.ireturn, 1) := by decide +kernel
theorem d_Model_tries_52 : decode prog_13_method_44_code 52 = .ok (.iconst (-1), 1) := by decide +kernel
theorem d_Model_tries_53 : decode prog_13_method_44_code 53 = .ok (.istore_n 3, 1) := by decide +kernel
theorem d_Model_tries_54 : decode prog_13_method_44_code 54 = .ok (.iconst 0, 1) := by decide +kernel
theorem d_Model_tries_55 : decode prog_13_method_44_code 55 = .ok (.istore 4, 2) := by decide +kernel
theorem d_Model_tries_57 : decode prog_13_method_44_code 57 = .ok (.iconst 0, 1) := by decide +kernel
theorem d_Model_tries_58 : decode prog_13_method_44_code 58 = .ok (.istore 5, 2) := by decide +kernel
theorem d_Model_tries_60 : decode prog_13_method_44_code 60 = .ok (.iload 5, 2) := by decide +kernel
theorem d_Model_tries_62 : decode prog_13_method_44_code 62 = .ok (.aload_n 0, 1) := by decide +kernel
theorem d_Model_tries_63 : decode prog_13_method_44_code 63 = .ok (.getfield 312, 3) := by decide +kernel
theorem d_Model_tries_66 : decode prog_13_method_44_code 66 = .ok (.if_icmp .ge 87, 3) := by decide +kernel
theorem d_Model_tries_69 : decode prog_13_method_44_code 69 = .ok (.iload_n 3, 1) := by decide +kernel
theorem d_Model_tries_70 : decode prog_13_method_44_code 70 = .ok (.iconst (-1), 1) := by decide +kernel
theorem d_Model_tries_71 : decode prog_13_method_44_code 71 = .ok (.if_icmp .ne 25, 3) := by decide +kernel
theorem d_Model_tries_74 : decode prog_13_method_44_code 74 = .ok (.aload_n 0, 1) := by decide +kernel
theorem d_Model_tries_75 : decode prog_13_method_44_code 75 = .ok (.iload_n 1, 1) := by decide +kernel
theorem d_Model_tries_76 : decode prog_13_method_44_code 76 = .ok (.aload_n 0, 1) := by decide +kernel
theorem d_Model_tries_77 : decode prog_13_method_44_code 77 = .ok (.getfield 120, 3) := by decide +kernel
theorem d_Model_tries_80 : decode prog_13_method_44_code 80 = .ok (.iload 5, 2) := by decide +kernel
theorem d_Model_tries_82 : decode prog_13_method_44_code 82 = .ok (.iaload, 1) := by decide +kernel
theorem d_Model_tries_83 : decode prog_13_method_44_code 83 = .ok (.aload_n 0, 1) := by decide +kernel
theorem d_Model_tries_84 : decode prog_13_method_44_code 84 = .ok (.getfield 123, 3) := by decide +kernel
theorem d_Model_tries_87 : decode prog_13_method_44_code 87 = .ok (.iload 5, 2) := by decide +kernel
theorem d_Model_tries_89 : decode prog_13_method_44_code 89 = .ok (.iaload, 1) := by decide +kernel
theorem d_Model_tries_90 : decode prog_13_method_44_code 90 = .ok (.invokevirtual 356, 3) := by decide +kernel
theorem d_Model_tries_93 : decode prog_13_method_44_code 93 = .ok (.goto 4, 3) := by decide +kernel
theorem d_Model_tries_96 : decode prog_13_method_44_code 96 = .ok (.iload_n 3, 1) := by decide +kernel
theorem d_Model_tries_97 : decode prog_13_method_44_code 97 = .ok (.istore_n 3, 1) := by decide +kernel
theorem d_Model_tries_98 : decode prog_13_method_44_code 98 = .ok (.iload 4, 2) := by decide +kernel
theorem d_Model_tries_100 : decode prog_13_method_44_code 100 = .ok (.ifCond .ne 40, 3) := by decide +kernel
theorem d_Model_tries_103 : decode prog_13_method_44_code 103 = .ok (.aload_n 0, 1) := by decide +kernel
theorem d_Model_tries_104 : decode prog_13_method_44_code 104 = .ok (.getfield 52, 3) := by decide +kernel
theorem d_Model_tries_107 : decode prog_13_method_44_code 107 = .ok (.sipush 2001, 3) := by decide +kernel
theorem d_Model_tries_110 : decode prog_13_method_44_code 110 = .ok (.aload_n 0, 1) := by decide +kernel
theorem d_Model_tries_111 : decode prog_13_method_44_code 111 = .ok (.getfield 120, 3) := by decide +kernel
theorem d_Model_tries_114 : decode prog_13_method_44_code 114 = .ok (.iload 5, 2) := by decide +kernel
theorem d_Model_tries_116 : decode prog_13_method_44_code 116 = .ok (.iaload, 1) := by decide +kernel
theorem d_Model_tries_117 : decode prog_13_method_44_code 117 = .ok (.imul, 1) := by decide +kernel
theorem d_Model_tries_118 : decode prog_13_method_44_code 118 = .ok (.aload_n 0, 1) := by decide +kernel
theorem d_Model_tries_119 : decode prog_13_method_44_code 119 = .ok (.getfield 123, 3) := by decide +kernel
theorem d_Model_tries_122 : decode prog_13_method_44_code 122 = .ok (.iload 5, 2) := by decide +kernel
theorem d_Model_tries_124 : decode prog_13_method_44_code 124 = .ok (.iaload, 1) := by decide +kernel
theorem d_Model_tries_125 : decode prog_13_method_44_code 125 = .ok (.iadd, 1) := by decide +kernel
theorem d_Model_tries_126 : decode prog_13_method_44_code 126 = .ok (.sipush 1000, 3) := by decide +kernel
theorem d_Model_tries_129 : decode prog_13_method_44_code 129 = .ok (.iadd, 1) := by decide +kernel
theorem d_Model_tries_130 : decode prog_13_method_44_code 130 = .ok (.iaload, 1) := by decide +kernel
theorem d_Model_tries_131 : decode prog_13_method_44_code 131 = .ok (.aload_n 0, 1) := by decide +kernel
theorem d_Model_tries_132 : decode prog_13_method_44_code 132 = .ok (.getfield 70, 3) := by decide +kernel
theorem d_Model_tries_135 : decode prog_13_method_44_code 135 = .ok (.iload_n 1, 1) := by decide +kernel
theorem d_Model_tries_136 : decode prog_13_method_44_code 136 = .ok (.iaload, 1) := by decide +kernel
theorem d_Model_tries_137 : decode prog_13_method_44_code 137 = .ok (.if_icmp .le 7, 3) := by decide +kernel
theorem d_Model_tries_140 : decode prog_13_method_44_code 140 = .ok (.iconst 1, 1) := by decide +kernel
theorem d_Model_tries_141 : decode prog_13_method_44_code 141 = .ok (.goto 4, 3) := by decide +kernel
theorem d_Model_tries_144 : decode prog_13_method_44_code 144 = .ok (.iconst 0, 1) := by decide +kernel
theorem d_Model_tries_145 : decode prog_13_method_44_code 145 = .ok (.istore 4, 2) := by decide +kernel
theorem d_Model_tries_147 : decode prog_13_method_44_code 147 = .ok (.iinc 5 1, 3) := by decide +kernel
theorem d_Model_tries_150 : decode prog_13_method_44_code 150 = .ok (.goto (-90), 3) := by decide +kernel
theorem d_Model_tries_153 : decode prog_13_method_44_code 153 = .ok (.iload_n 3, 1) := by decide +kernel
theorem d_Model_tries_154 : decode prog_13_method_44_code 154 = .ok (.iconst (-1), 1) := by decide +kernel
theorem d_Model_tries_155 : decode prog_13_method_44_code 155 = .ok (.if_icmp .eq 60, 3) := by decide +kernel
theorem d_Model_tries_158 : decode prog_13_method_44_code 158 = .ok (.iload_n 3, 1) := by decide +kernel
theorem d_Model_tries_159 : decode prog_13_method_44_code 159 = .ok (.istore 5, 2) := by decide +kernel
theorem d_Model_tries_161 : decode prog_13_method_44_code 161 = .ok (.iload 5, 2) := by decide +kernel
theorem d_Model_tries_163 : decode prog_13_method_44_code 163 = .ok (.iconst (-1), 1) := by decide +kernel
theorem d_Model_tries_164 : decode prog_13_method_44_code 164 = .ok (.if_icmp .eq 21, 3) := by decide +kernel
theorem d_Model_tries_167 : decode prog_13_method_44_code 167 = .ok (.iload 5, 2) := by decide +kernel
theorem d_Model_tries_169 : decode prog_13_method_44_code 169 = .ok (.iload_n 1, 1) := by decide +kernel
theorem d_Model_tries_170 : decode prog_13_method_44_code 170 = .ok (.if_icmp .eq 15, 3) := by decide +kernel
theorem d_Model_tries_173 : decode prog_13_method_44_code 173 = .ok (.aload_n 0, 1) := by decide +kernel
theorem d_Model_tries_174 : decode prog_13_method_44_code 174 = .ok (.getfield 73, 3) := by decide +kernel
theorem d_Model_tries_177 : decode prog_13_method_44_code 177 = .ok (.iload 5, 2) := by decide +kernel
theorem d_Model_tries_179 : decode prog_13_method_44_code 179 = .ok (.iaload, 1) := by decide +kernel
theorem d_Model_tries_180 : decode prog_13_method_44_code 180 = .ok (.istore 5, 2) := by decide +kernel
theorem d_Model_tries_182 : decode prog_13_method_44_code 182 = .ok (.goto (-21), 3) := by decide +kernel
theorem d_Model_tries_185 : decode prog_13_method_44_code 185 = .ok (.iload 5, 2) := by decide +kernel
theorem d_Model_tries_187 : decode prog_13_method_44_code 187 = .ok (.iload_n 1, 1) := by decide +kernel
theorem d_Model_tries_188 : decode prog_13_method_44_code 188 = .ok (.if_icmp .ne 11, 3) := by decide +kernel
theorem d_Model_tries_191 : decode prog_13_method_44_code 191 = .ok (.aload_n 0, 1) := by decide +kernel
theorem d_Model_tries_192 : decode prog_13_method_44_code 192 = .ok (.iload_n 1, 1) := by decide +kernel
theorem d_Model_tries_193 : decode prog_13_method_44_code 193 = .ok (.invokevirtual 359, 3) := by decide +kernel
theorem d_Model_tries_196 : decode prog_13_method_44_code 196 = .ok (.pop, 1) := by decide +kernel
theorem d_Model_tries_197 : decode prog_13_method_44_code 197 = .ok (.iconst 4, 1) := by decide +kernel
theorem d_Model_tries_198 : decode prog_13_method_44_code 198 = .ok (.ireturn, 1) := by decide +kernel
theorem d_Model_tries_199 : decode prog_13_method_44_code 199 = .ok (.aload_n 0, 1) := by decide +kernel
theorem d_Model_tries_200 : decode prog_13_method_44_code 200 = .ok (.getfield 61, 3) := by decide +kernel
theorem d_Model_tries_203 : decode prog_13_method_44_code 203 = .ok (.iload_n 1, 1) := by decide +kernel
theorem d_Model_tries_204 : decode prog_13_method_44_code 204 = .ok (.iconst 1, 1) := by decide +kernel
theorem d_Model_tries_205 : decode prog_13_method_44_code 205 = .ok (.iastore, 1) := by decide +kernel
theorem d_Model_tries_206 : decode prog_13_method_44_code 206 = .ok (.aload_n 0, 1) := by decide +kernel
theorem d_Model_tries_207 : decode prog_13_method_44_code 207 = .ok (.getfield 73, 3) := by decide +kernel
theorem d_Model_tries_210 : decode prog_13_method_44_code 210 = .ok (.iload_n 1, 1) := by decide +kernel
theorem d_Model_tries_211 : decode prog_13_method_44_code 211 = .ok (.iload_n 3, 1) := by decide +kernel
theorem d_Model_tries_212 : decode prog_13_method_44_code 212 = .ok (.iastore, 1) := by decide +kernel
theorem d_Model_tries_213 : decode prog_13_method_44_code 213 = .ok (.iconst 1, 1) := by decide +kernel
theorem d_Model_tries_214 : decode prog_13_method_44_code 214 = .ok (.ireturn, 1) := by decide +kernel
theorem d_Model_tries_215 : decode prog_13_method_44_code 215 = .ok (.iload 4, 2) := by decide +kernel
theorem d_Model_tries_217 : decode prog_13_method_44_code 217 = .ok (.ifCond .eq 11, 3) := by decide +kernel
theorem d_Model_tries_220 : decode prog_13_method_44_code 220 = .ok (.aload_n 0, 1) := by decide +kernel
theorem d_Model_tries_221 : decode prog_13_method_44_code 221 = .ok (.iload_n 1, 1) := by decide +kernel
theorem d_Model_tries_222 : decode prog_13_method_44_code 222 = .ok (.invokevirtual 359, 3) := by decide +kernel
theorem d_Model_tries_225 : decode prog_13_method_44_code 225 = .ok (.pop, 1) := by decide +kernel
theorem d_Model_tries_226 : decode prog_13_method_44_code 226 = .ok (.iconst 3, 1) := by decide +kernel
theorem d_Model_tries_227 : decode prog_13_method_44_code 227 = .ok (.ireturn, 1) := by decide +kernel
theorem d_Model_tries_228 : decode prog_13_method_44_code 228 = .ok (.aload_n 0, 1) := by decide +kernel
theorem d_Model_tries_229 : decode prog_13_method_44_code 229 = .ok (.iload_n 1, 1) := by decide +kernel
theorem d_Model_tries_230 : decode prog_13_method_44_code 230 = .ok (.invokevirtual 363, 3) := by decide +kernel
theorem d_Model_tries_233 : decode prog_13_method_44_code 233 = .ok (.iconst 0, 1) := by decide +kernel
theorem d_Model_tries_234 : decode prog_13_method_44_code 234 = .ok (.ireturn, 1) := by decide +kernel
theorem d_Model_wantsInsert_0 : decode prog_13_method_34_code 0 = .ok (.aload_n 0, 1) := by decide +kernel
theorem d_Model_wantsInsert_1 : decode prog_13_method_34_code 1 = .ok (.getfield 83, 3) := by decide +kernel
theorem d_Model_wantsInsert_4 : decode prog_13_method_34_code 4 = .ok (.iload_n 1, 1) := by decide +kernel
theorem d_Model_wantsInsert_5 : decode prog_13_method_34_code 5 = .ok (.iaload, 1) := by decide +kernel
theorem d_Model_wantsInsert_6 : decode prog_13_method_34_code 6 = .ok (.istore_n 2, 1) := by decide +kernel
theorem d_Model_wantsInsert_7 : decode prog_13_method_34_code 7 = .ok (.aload_n 0, 1) := by decide +kernel
theorem d_Model_wantsInsert_8 : decode prog_13_method_34_code 8 = .ok (.getfield 95, 3) := by decide +kernel
theorem d_Model_wantsInsert_11 : decode prog_13_method_34_code 11 = .ok (.iconst 4, 1) := by decide +kernel
theorem d_Model_wantsInsert_12 : decode prog_13_method_34_code 12 = .ok (.iload_n 1, 1) := by decide +kernel
theorem d_Model_wantsInsert_13 : decode prog_13_method_34_code 13 = .ok (.imul, 1) := by decide +kernel
theorem d_Model_wantsInsert_14 : decode prog_13_method_34_code 14 = .ok (.iaload, 1) := by decide +kernel
theorem d_Model_wantsInsert_15 : decode prog_13_method_34_code 15 = .ok (.istore_n 3, 1) := by decide +kernel
theorem d_Model_wantsInsert_16 : decode prog_13_method_34_code 16 = .ok (.iload_n 3, 1) := by decide +kernel
theorem d_Model_wantsInsert_17 : decode prog_13_method_34_code 17 = .ok (.ldc 246, 2) := by decide +kernel
theorem d_Model_wantsInsert_19 : decode prog_13_method_34_code 19 = .ok (.if_icmp .eq 10, 3) := by decide +kernel
theorem d_Model_wantsInsert_22 : decode prog_13_method_34_code 22 = .ok (.aload_n 0, 1) := by decide +kernel
theorem d_Model_wantsInsert_23 : decode prog_13_method_34_code 23 = .ok (.iload_n 1, 1) := by decide +kernel
theorem d_Model_wantsInsert_24 : decode prog_13_method_34_code 24 = .ok (.iload_n 2, 1) := by decide +kernel
theorem d_Model_wantsInsert_25 : decode prog_13_method_34_code 25 = .ok (.iload_n 3, 1) := by decide +kernel
theorem d_Model_wantsInsert_26 : decode prog_13_method_34_code 26 = .ok (.invokevirtual 308, 3) := by decide +kernel
theorem d_Model_wantsInsert_29 : decode prog_13_method_34_code 29 = .ok (.iconst 1, 1) := by decide +kernel
theorem d_Model_wantsInsert_30 : decode prog_13_method_34_code 30 = .ok (.istore 4, 2) := by decide +kernel
theorem d_Model_wantsInsert_32 : decode prog_13_method_34_code 32 = .ok (.iload 4, 2) := by decide +kernel
theorem d_Model_wantsInsert_34 : decode prog_13_method_34_code 34 = .ok (.aload_n 0, 1) := by decide +kernel
theorem d_Model_wantsInsert_35 : decode prog_13_method_34_code 35 = .ok (.getfield 7, 3) := by decide +kernel
theorem d_Model_wantsInsert_38 : decode prog_13_method_34_code 38 = .ok (.iload_n 2, 1) := by decide +kernel
theorem d_Model_wantsInsert_39 : decode prog_13_method_34_code 39 = .ok (.iaload, 1) := by decide +kernel
theorem d_Model_wantsInsert_40 : decode prog_13_method_34_code 40 = .ok (.if_icmp .ge 28, 3) := by decide +kernel
theorem d_Model_wantsInsert_43 : decode prog_13_method_34_code 43 = .ok (.aload_n 0, 1) := by decide +kernel
theorem d_Model_wantsInsert_44 : decode prog_13_method_34_code 44 = .ok (.iload_n 1, 1) := by decide +kernel
theorem d_Model_wantsInsert_45 : decode prog_13_method_34_code 45 = .ok (.iload_n 2, 1) := by decide +kernel
theorem d_Model_wantsInsert_46 : decode prog_13_method_34_code 46 = .ok (.iload 4, 2) := by decide +kernel
theorem d_Model_wantsInsert_48 : decode prog_13_method_34_code 48 = .ok (.aload_n 0, 1) := by decide +kernel
theorem d_Model_wantsInsert_49 : decode prog_13_method_34_code 49 = .ok (.getfield 95, 3) := by decide +kernel
theorem d_Model_wantsInsert_52 : decode prog_13_method_34_code 52 = .ok (.iconst 4, 1) := by decide +kernel
theorem d_Model_wantsInsert_53 : decode prog_13_method_34_code 53 = .ok (.iload_n 1, 1) := by decide +kernel
theorem d_Model_wantsInsert_54 : decode prog_13_method_34_code 54 = .ok (.imul, 1) := by decide +kernel
theorem d_Model_wantsInsert_55 : decode prog_13_method_34_code 55 = .ok (.iload 4, 2) := by decide +kernel
theorem d_Model_wantsInsert_57 : decode prog_13_method_34_code 57 = .ok (.iadd, 1) := by decide +kernel
theorem d_Model_wantsInsert_58 : decode prog_13_method_34_code 58 = .ok (.iaload, 1) := by decide +kernel
theorem d_Model_wantsInsert_59 : decode prog_13_method_34_code 59 = .ok (.invokevirtual 315, 3) := by decide +kernel
theorem d_Model_wantsInsert_62 : decode prog_13_method_34_code 62 = .ok (.iinc 4 1, 3) := by decide +kernel
theorem d_Model_wantsInsert_65 : decode prog_13_method_34_code 65 = .ok (.goto (-33), 3) := by decide +kernel
theorem d_Model_wantsInsert_68 : decode prog_13_method_34_code 68 = .ok (.iload_n 3, 1) := by decide +kernel
theorem d_Model_wantsInsert_69 : decode prog_13_method_34_code 69 = .ok (.ldc 246, 2) := by decide +kernel
theorem d_Model_wantsInsert_71 : decode prog_13_method_34_code 71 = .ok (.if_icmp .eq 44, 3) := by decide +kernel
theorem d_Model_wantsInsert_74 : decode prog_13_method_34_code 74 = .ok (.aload_n 0, 1) := by decide +kernel
theorem d_Model_wantsInsert_75 : decode prog_13_method_34_code 75 = .ok (.aload_n 0, 1) := by decide +kernel
theorem d_Model_wantsInsert_76 : decode prog_13_method_34_code 76 = .ok (.getfield 67, 3) := by decide +kernel
theorem d_Model_wantsInsert_79 : decode prog_13_method_34_code 79 = .ok (.iload_n 1, 1) := by decide +kernel
theorem d_Model_wantsInsert_80 : decode prog_13_method_34_code 80 = .ok (.iaload, 1) := by decide +kernel
theorem d_Model_wantsInsert_81 : decode prog_13_method_34_code 81 = .ok (.iload_n 2, 1) := by decide +kernel
theorem d_Model_wantsInsert_82 : decode prog_13_method_34_code 82 = .ok (.iload_n 3, 1) := by decide +kernel
theorem d_Model_wantsInsert_83 : decode prog_13_method_34_code 83 = .ok (.invokevirtual 305, 3) := by decide +kernel
theorem d_Model_wantsInsert_86 : decode prog_13_method_34_code 86 = .ok (.iconst (-1), 1) := by decide +kernel
theorem d_Model_wantsInsert_87 : decode prog_13_method_34_code 87 = .ok (.if_icmp .ne 28, 3) := by decide +kernel
theorem d_Model_wantsInsert_90 : decode prog_13_method_34_code 90 = .ok (.aload_n 0, 1) := by decide +kernel
theorem d_Model_wantsInsert_91 : decode prog_13_method_34_code 91 = .ok (.getfield 46, 3) := by decide +kernel
theorem d_Model_wantsInsert_94 : decode prog_13_method_34_code 94 = .ok (.bipush 6, 2) := by decide +kernel
theorem d_Model_wantsInsert_96 : decode prog_13_method_34_code 96 = .ok (.aload_n 0, 1) := by decide +kernel
theorem d_Model_wantsInsert_97 : decode prog_13_method_34_code 97 = .ok (.getfield 67, 3) := by decide +kernel
theorem d_Model_wantsInsert_100 : decode prog_13_method_34_code 100 = .ok (.iload_n 1, 1) := by decide +kernel
theorem d_Model_wantsInsert_101 : decode prog_13_method_34_code 101 = .ok (.iaload, 1) := by decide +kernel
theorem d_Model_wantsInsert_102 : decode prog_13_method_34_code 102 = .ok (.imul, 1) := by decide +kernel
theorem d_Model_wantsInsert_103 : decode prog_13_method_34_code 103 = .ok (.iload_n 2, 1) := by decide +kernel
theorem d_Model_wantsInsert_104 : decode prog_13_method_34_code 104 = .ok (.iadd, 1) := by decide +kernel
theorem d_Model_wantsInsert_105 : decode prog_13_method_34_code 105 = .ok (.iaload, 1) := by decide +kernel
theorem d_Model_wantsInsert_106 : decode prog_13_method_34_code 106 = .ok (.bipush 8, 2) := by decide +kernel
theorem d_Model_wantsInsert_108 : decode prog_13_method_34_code 108 = .ok (.if_icmp .ge 7, 3) := by decide +kernel
theorem d_Model_wantsInsert_111 : decode prog_13_method_34_code 111 = .ok (.iconst 1, 1) := by decide +kernel
theorem d_Model_wantsInsert_112 : decode prog_13_method_34_code 112 = .ok (.goto 4, 3) := by decide +kernel
theorem d_Model_wantsInsert_115 : decode prog_13_method_34_code 115 = .ok (.iconst 0, 1) := by decide +kernel
theorem d_Model_wantsInsert_116 : decode prog_13_method_34_code 116 = .ok (.istore 4, 2) := by decide +kernel
theorem d_Model_wantsInsert_118 : decode prog_13_method_34_code 118 = .ok (.iconst 0, 1) := by decide +kernel
theorem d_Model_wantsInsert_119 : decode prog_13_method_34_code 119 = .ok (.istore 5, 2) := by decide +kernel
theorem d_Model_wantsInsert_121 : decode prog_13_method_34_code 121 = .ok (.iload 5, 2) := by decide +kernel
theorem d_Model_wantsInsert_123 : decode prog_13_method_34_code 123 = .ok (.aload_n 0, 1) := by decide +kernel
theorem d_Model_wantsInsert_124 : decode prog_13_method_34_code 124 = .ok (.getfield 7, 3) := by decide +kernel
theorem d_Model_wantsInsert_127 : decode prog_13_method_34_code 127 = .ok (.iload_n 2, 1) := by decide +kernel
theorem d_Model_wantsInsert_128 : decode prog_13_method_34_code 128 = .ok (.iaload, 1) := by decide +kernel
theorem d_Model_wantsInsert_129 : decode prog_13_method_34_code 129 = .ok (.if_icmp .ge 48, 3) := by decide +kernel
theorem d_Model_wantsInsert_132 : decode prog_13_method_34_code 132 = .ok (.iload 4, 2) := by decide +kernel
theorem d_Model_wantsInsert_134 : decode prog_13_method_34_code 134 = .ok (.ifCond .eq 34, 3) := by decide +kernel
theorem d_Model_wantsInsert_137 : decode prog_13_method_34_code 137 = .ok (.aload_n 0, 1) := by decide +kernel
theorem d_Model_wantsInsert_138 : decode prog_13_method_34_code 138 = .ok (.aload_n 0, 1) := by decide +kernel
theorem d_Model_wantsInsert_139 : decode prog_13_method_34_code 139 = .ok (.getfield 67, 3) := by decide +kernel
theorem d_Model_wantsInsert_142 : decode prog_13_method_34_code 142 = .ok (.iload_n 1, 1) := by decide +kernel
theorem d_Model_wantsInsert_143 : decode prog_13_method_34_code 143 = .ok (.iaload, 1) := by decide +kernel
theorem d_Model_wantsInsert_144 : decode prog_13_method_34_code 144 = .ok (.iload_n 2, 1) := by decide +kernel
theorem d_Model_wantsInsert_145 : decode prog_13_method_34_code 145 = .ok (.iload 5, 2) := by decide +kernel
theorem d_Model_wantsInsert_147 : decode prog_13_method_34_code 147 = .ok (.aload_n 0, 1) := by decide +kernel
theorem d_Model_wantsInsert_148 : decode prog_13_method_34_code 148 = .ok (.getfield 95, 3) := by decide +kernel
theorem d_Model_wantsInsert_151 : decode prog_13_method_34_code 151 = .ok (.iconst 4, 1) := by decide +kernel
theorem d_Model_wantsInsert_152 : decode prog_13_method_34_code 152 = .ok (.iload_n 1, 1) := by decide +kernel
theorem d_Model_wantsInsert_153 : decode prog_13_method_34_code 153 = .ok (.imul, 1) := by decide +kernel
theorem d_Model_wantsInsert_154 : decode prog_13_method_34_code 154 = .ok (.iload 5, 2) := by decide +kernel
theorem d_Model_wantsInsert_156 : decode prog_13_method_34_code 156 = .ok (.iadd, 1) := by decide +kernel
theorem d_Model_wantsInsert_157 : decode prog_13_method_34_code 157 = .ok (.iaload, 1) := by decide +kernel
theorem d_Model_wantsInsert_158 : decode prog_13_method_34_code 158 = .ok (.invokevirtual 318, 3) := by decide +kernel
theorem d_Model_wantsInsert_161 : decode prog_13_method_34_code 161 = .ok (.ifCond .eq 7, 3) := by decide +kernel
theorem d_Model_wantsInsert_164 : decode prog_13_method_34_code 164 = .ok (.iconst 1, 1) := by decide +kernel
theorem d_Model_wantsInsert_165 : decode prog_13_method_34_code 165 = .ok (.goto 4, 3) := by decide +kernel
theorem d_Model_wantsInsert_168 : decode prog_13_method_34_code 168 = .ok (.iconst 0, 1) := by decide +kernel
theorem d_Model_wantsInsert_169 : decode prog_13_method_34_code 169 = .ok (.istore 4, 2) := by decide +kernel
theorem d_Model_wantsInsert_171 : decode prog_13_method_34_code 171 = .ok (.iinc 5 1, 3) := by decide +kernel
theorem d_Model_wantsInsert_174 : decode prog_13_method_34_code 174 = .ok (.goto (-53), 3) := by decide +kernel
theorem d_Model_wantsInsert_177 : decode prog_13_method_34_code 177 = .ok (.aload_n 0, 1) := by decide +kernel
theorem d_Model_wantsInsert_178 : decode prog_13_method_34_code 178 = .ok (.iload_n 2, 1) := by decide +kernel
theorem d_Model_wantsInsert_179 : decode prog_13_method_34_code 179 = .ok (.iload_n 3, 1) := by decide +kernel
theorem d_Model_wantsInsert_180 : decode prog_13_method_34_code 180 = .ok (.invokevirtual 322, 3) := by decide +kernel
theorem d_Model_wantsInsert_183 : decode prog_13_method_34_code 183 = .ok (.iload 4, 2) := by decide +kernel
theorem d_Model_wantsInsert_185 : decode prog_13_method_34_code 185 = .ok (.ireturn, 1) := by decide +kernel
theorem d_Model_readsKey_0 : decode prog_13_method_27_code 0 = .ok (.aload_n 0, 1) := by decide +kernel
theorem d_Model_readsKey_1 : decode prog_13_method_27_code 1 = .ok (.iload_n 1, 1) := by decide +kernel
theorem d_Model_readsKey_2 : decode prog_13_method_27_code 2 = .ok (.iload_n 2, 1) := by decide +kernel
theorem d_Model_readsKey_3 : decode prog_13_method_27_code 3 = .ok (.iload_n 3, 1) := by decide +kernel
theorem d_Model_readsKey_4 : decode prog_13_method_27_code 4 = .ok (.invokevirtual 291, 3) := by decide +kernel
theorem d_Model_readsKey_7 : decode prog_13_method_27_code 7 = .ok (.ifCond .ne 43, 3) := by decide +kernel
theorem d_Model_readsKey_10 : decode prog_13_method_27_code 10 = .ok (.sipush 2048, 3) := by decide +kernel
theorem d_Model_readsKey_13 : decode prog_13_method_27_code 13 = .ok (.iload_n 1, 1) := by decide +kernel
theorem d_Model_readsKey_14 : decode prog_13_method_27_code 14 = .ok (.imul, 1) := by decide +kernel
theorem d_Model_readsKey_15 : decode prog_13_method_27_code 15 = .ok (.aload_n 0, 1) := by decide +kernel
theorem d_Model_readsKey_16 : decode prog_13_method_27_code 16 = .ok (.getfield 98, 3) := by decide +kernel
theorem d_Model_readsKey_19 : decode prog_13_method_27_code 19 = .ok (.iload_n 1, 1) := by decide +kernel
theorem d_Model_readsKey_20 : decode prog_13_method_27_code 20 = .ok (.iaload, 1) := by decide +kernel
theorem d_Model_readsKey_21 : decode prog_13_method_27_code 21 = .ok (.iadd, 1) := by decide +kernel
theorem d_Model_readsKey_22 : decode prog_13_method_27_code 22 = .ok (.istore 4, 2) := by decide +kernel
theorem d_Model_readsKey_24 : decode prog_13_method_27_code 24 = .ok (.aload_n 0, 1) := by decide +kernel
theorem d_Model_readsKey_25 : decode prog_13_method_27_code 25 = .ok (.getfield 102, 3) := by decide +kernel
theorem d_Model_readsKey_28 : decode prog_13_method_27_code 28 = .ok (.iload 4, 2) := by decide +kernel
theorem d_Model_readsKey_30 : decode prog_13_method_27_code 30 = .ok (.iload_n 2, 1) := by decide +kernel
theorem d_Model_readsKey_31 : decode prog_13_method_27_code 31 = .ok (.iastore, 1) := by decide +kernel
theorem d_Model_readsKey_32 : decode prog_13_method_27_code 32 = .ok (.aload_n 0, 1) := by decide +kernel
theorem d_Model_readsKey_33 : decode prog_13_method_27_code 33 = .ok (.getfield 105, 3) := by decide +kernel
theorem d_Model_readsKey_36 : decode prog_13_method_27_code 36 = .ok (.iload 4, 2) := by decide +kernel
theorem d_Model_readsKey_38 : decode prog_13_method_27_code 38 = .ok (.iload_n 3, 1) := by decide +kernel
theorem d_Model_readsKey_39 : decode prog_13_method_27_code 39 = .ok (.iastore, 1) := by decide +kernel
theorem d_Model_readsKey_40 : decode prog_13_method_27_code 40 = .ok (.aload_n 0, 1) := by decide +kernel
theorem d_Model_readsKey_41 : decode prog_13_method_27_code 41 = .ok (.getfield 98, 3) := by decide +kernel
theorem d_Model_readsKey_44 : decode prog_13_method_27_code 44 = .ok (.iload_n 1, 1) := by decide +kernel
theorem d_Model_readsKey_45 : decode prog_13_method_27_code 45 = .ok (.dup2, 1) := by decide +kernel
theorem d_Model_readsKey_46 : decode prog_13_method_27_code 46 = .ok (.iaload, 1) := by decide +kernel
theorem d_Model_readsKey_47 : decode prog_13_method_27_code 47 = .ok (.iconst 1, 1) := by decide +kernel
theorem d_Model_readsKey_48 : decode prog_13_method_27_code 48 = .ok (.iadd, 1) := by decide +kernel
theorem d_Model_readsKey_49 : decode prog_13_method_27_code 49 = .ok (.iastore, 1) := by decide +kernel
theorem d_Model_readsKey_50 : decode prog_13_method_27_code 50 = .ok (.return_, 1) := by decide +kernel
theorem d_Model_hasReadKey_0 : decode prog_13_method_26_code 0 = .ok (.aload_n 0, 1) := by decide +kernel
theorem d_Model_hasReadKey_1 : decode prog_13_method_26_code 1 = .ok (.getfield 108, 3) := by decide +kernel
theorem d_Model_hasReadKey_4 : decode prog_13_method_26_code 4 = .ok (.bipush 6, 2) := by decide +kernel
theorem d_Model_hasReadKey_6 : decode prog_13_method_26_code 6 = .ok (.iload_n 1, 1) := by decide +kernel
theorem d_Model_hasReadKey_7 : decode prog_13_method_26_code 7 = .ok (.imul, 1) := by decide +kernel
theorem d_Model_hasReadKey_8 : decode prog_13_method_26_code 8 = .ok (.iload_n 2, 1) := by decide +kernel
theorem d_Model_hasReadKey_9 : decode prog_13_method_26_code 9 = .ok (.iadd, 1) := by decide +kernel
theorem d_Model_hasReadKey_10 : decode prog_13_method_26_code 10 = .ok (.baload, 1) := by decide +kernel
theorem d_Model_hasReadKey_11 : decode prog_13_method_26_code 11 = .ok (.istore 4, 2) := by decide +kernel
theorem d_Model_hasReadKey_13 : decode prog_13_method_26_code 13 = .ok (.sipush 2048, 3) := by decide +kernel
theorem d_Model_hasReadKey_16 : decode prog_13_method_26_code 16 = .ok (.iload_n 1, 1) := by decide +kernel
theorem d_Model_hasReadKey_17 : decode prog_13_method_26_code 17 = .ok (.imul, 1) := by decide +kernel
theorem d_Model_hasReadKey_18 : decode prog_13_method_26_code 18 = .ok (.istore 5, 2) := by decide +kernel
theorem d_Model_hasReadKey_20 : decode prog_13_method_26_code 20 = .ok (.iload 5, 2) := by decide +kernel
theorem d_Model_hasReadKey_22 : decode prog_13_method_26_code 22 = .ok (.sipush 2048, 3) := by decide +kernel
theorem d_Model_hasReadKey_25 : decode prog_13_method_26_code 25 = .ok (.iload_n 1, 1) := by decide +kernel
theorem d_Model_hasReadKey_26 : decode prog_13_method_26_code 26 = .ok (.imul, 1) := by decide +kernel
theorem d_Model_hasReadKey_27 : decode prog_13_method_26_code 27 = .ok (.aload_n 0, 1) := by decide +kernel
theorem d_Model_hasReadKey_28 : decode prog_13_method_26_code 28 = .ok (.getfield 98, 3) := by decide +kernel
theorem d_Model_hasReadKey_31 : decode prog_13_method_26_code 31 = .ok (.iload_n 1, 1) := by decide +kernel
theorem d_Model_hasReadKey_32 : decode prog_13_method_26_code 32 = .ok (.iaload, 1) := by decide +kernel
theorem d_Model_hasReadKey_33 : decode prog_13_method_26_code 33 = .ok (.iadd, 1) := by decide +kernel
theorem d_Model_hasReadKey_34 : decode prog_13_method_26_code 34 = .ok (.if_icmp .ge 43, 3) := by decide +kernel
theorem d_Model_hasReadKey_37 : decode prog_13_method_26_code 37 = .ok (.iload 4, 2) := by decide +kernel
theorem d_Model_hasReadKey_39 : decode prog_13_method_26_code 39 = .ok (.ifCond .ne 38, 3) := by decide +kernel
theorem d_Model_hasReadKey_42 : decode prog_13_method_26_code 42 = .ok (.aload_n 0, 1) := by decide +kernel
theorem d_Model_hasReadKey_43 : decode prog_13_method_26_code 43 = .ok (.getfield 102, 3) := by decide +kernel
theorem d_Model_hasReadKey_46 : decode prog_13_method_26_code 46 = .ok (.iload 5, 2) := by decide +kernel
theorem d_Model_hasReadKey_48 : decode prog_13_method_26_code 48 = .ok (.iaload, 1) := by decide +kernel
theorem d_Model_hasReadKey_49 : decode prog_13_method_26_code 49 = .ok (.iload_n 2, 1) := by decide +kernel
theorem d_Model_hasReadKey_50 : decode prog_13_method_26_code 50 = .ok (.if_icmp .ne 18, 3) := by decide +kernel
theorem d_Model_hasReadKey_53 : decode prog_13_method_26_code 53 = .ok (.aload_n 0, 1) := by decide +kernel
theorem d_Model_hasReadKey_54 : decode prog_13_method_26_code 54 = .ok (.getfield 105, 3) := by decide +kernel
theorem d_Model_hasReadKey_57 : decode prog_13_method_26_code 57 = .ok (.iload 5, 2) := by decide +kernel
theorem d_Model_hasReadKey_59 : decode prog_13_method_26_code 59 = .ok (.iaload, 1) := by decide +kernel
theorem d_Model_hasReadKey_60 : decode prog_13_method_26_code 60 = .ok (.iload_n 3, 1) := by decide +kernel
theorem d_Model_hasReadKey_61 : decode prog_13_method_26_code 61 = .ok (.if_icmp .ne 7, 3) := by decide +kernel
theorem d_Model_hasReadKey_64 : decode prog_13_method_26_code 64 = .ok (.iconst 1, 1) := by decide +kernel
theorem d_Model_hasReadKey_65 : decode prog_13_method_26_code 65 = .ok (.goto 4, 3) := by decide +kernel
theorem d_Model_hasReadKey_68 : decode prog_13_method_26_code 68 = .ok (.iconst 0, 1) := by decide +kernel
theorem d_Model_hasReadKey_69 : decode prog_13_method_26_code 69 = .ok (.istore 4, 2) := by decide +kernel
theorem d_Model_hasReadKey_71 : decode prog_13_method_26_code 71 = .ok (.iinc 5 1, 3) := by decide +kernel
theorem d_Model_hasReadKey_74 : decode prog_13_method_26_code 74 = .ok (.goto (-54), 3) := by decide +kernel
theorem d_Model_hasReadKey_77 : decode prog_13_method_26_code 77 = .ok (.iload 4, 2) := by decide +kernel
theorem d_Model_hasReadKey_79 : decode prog_13_method_26_code 79 = .ok (.ireturn, 1) := by decide +kernel
theorem d_Model_readsReference_0 : decode prog_13_method_32_code 0 = .ok (.aload_n 0, 1) := by decide +kernel
theorem d_Model_readsReference_1 : decode prog_13_method_32_code 1 = .ok (.getfield 25, 3) := by decide +kernel
theorem d_Model_readsReference_4 : decode prog_13_method_32_code 4 = .ok (.iconst 4, 1) := by decide +kernel
theorem d_Model_readsReference_5 : decode prog_13_method_32_code 5 = .ok (.iload_n 2, 1) := by decide +kernel
theorem d_Model_readsReference_6 : decode prog_13_method_32_code 6 = .ok (.imul, 1) := by decide +kernel
theorem d_Model_readsReference_7 : decode prog_13_method_32_code 7 = .ok (.iload_n 3, 1) := by decide +kernel
theorem d_Model_readsReference_8 : decode prog_13_method_32_code 8 = .ok (.iadd, 1) := by decide +kernel
theorem d_Model_readsReference_9 : decode prog_13_method_32_code 9 = .ok (.iaload, 1) := by decide +kernel
theorem d_Model_readsReference_10 : decode prog_13_method_32_code 10 = .ok (.istore 5, 2) := by decide +kernel
theorem d_Model_readsReference_12 : decode prog_13_method_32_code 12 = .ok (.iload 5, 2) := by decide +kernel
theorem d_Model_readsReference_14 : decode prog_13_method_32_code 14 = .ok (.iconst (-1), 1) := by decide +kernel
theorem d_Model_readsReference_15 : decode prog_13_method_32_code 15 = .ok (.if_icmp .eq 19, 3) := by decide +kernel
theorem d_Model_readsReference_18 : decode prog_13_method_32_code 18 = .ok (.iload 4, 2) := by decide +kernel
theorem d_Model_readsReference_20 : decode prog_13_method_32_code 20 = .ok (.ldc 246, 2) := by decide +kernel
theorem d_Model_readsReference_22 : decode prog_13_method_32_code 22 = .ok (.if_icmp .eq 12, 3) := by decide +kernel
theorem d_Model_readsReference_25 : decode prog_13_method_32_code 25 = .ok (.aload_n 0, 1) := by decide +kernel
theorem d_Model_readsReference_26 : decode prog_13_method_32_code 26 = .ok (.iload_n 1, 1) := by decide +kernel
theorem d_Model_readsReference_27 : decode prog_13_method_32_code 27 = .ok (.iload 5, 2) := by decide +kernel
theorem d_Model_readsReference_29 : decode prog_13_method_32_code 29 = .ok (.iload 4, 2) := by decide +kernel
theorem d_Model_readsReference_31 : decode prog_13_method_32_code 31 = .ok (.invokevirtual 308, 3) := by decide +kernel
theorem d_Model_readsReference_34 : decode prog_13_method_32_code 34 = .ok (.return_, 1) := by decide +kernel
theorem d_Model_find_0 : decode prog_13_method_19_code 0 = .ok (.iconst 0, 1) := by decide +kernel
theorem d_Model_find_1 : decode prog_13_method_19_code 1 = .ok (.istore 4, 2) := by decide +kernel
theorem d_Model_find_3 : decode prog_13_method_19_code 3 = .ok (.iload 4, 2) := by decide +kernel
theorem d_Model_find_5 : decode prog_13_method_19_code 5 = .ok (.aload_n 0, 1) := by decide +kernel
theorem d_Model_find_6 : decode prog_13_method_19_code 6 = .ok (.getfield 46, 3) := by decide +kernel
theorem d_Model_find_9 : decode prog_13_method_19_code 9 = .ok (.bipush 6, 2) := by decide +kernel
theorem d_Model_find_11 : decode prog_13_method_19_code 11 = .ok (.iload_n 1, 1) := by decide +kernel
theorem d_Model_find_12 : decode prog_13_method_19_code 12 = .ok (.imul, 1) := by decide +kernel
theorem d_Model_find_13 : decode prog_13_method_19_code 13 = .ok (.iload_n 2, 1) := by decide +kernel
theorem d_Model_find_14 : decode prog_13_method_19_code 14 = .ok (.iadd, 1) := by decide +kernel
theorem d_Model_find_15 : decode prog_13_method_19_code 15 = .ok (.iaload, 1) := by decide +kernel
theorem d_Model_find_16 : decode prog_13_method_19_code 16 = .ok (.if_icmp .ge 29, 3) := by decide +kernel
theorem d_Model_find_19 : decode prog_13_method_19_code 19 = .ok (.aload_n 0, 1) := by decide +kernel
theorem d_Model_find_20 : decode prog_13_method_19_code 20 = .ok (.getfield 49, 3) := by decide +kernel
theorem d_Model_find_23 : decode prog_13_method_19_code 23 = .ok (.iload_n 1, 1) := by decide +kernel
theorem d_Model_find_24 : decode prog_13_method_19_code 24 = .ok (.iload_n 2, 1) := by decide +kernel
theorem d_Model_find_25 : decode prog_13_method_19_code 25 = .ok (.iload 4, 2) := by decide +kernel
theorem d_Model_find_27 : decode prog_13_method_19_code 27 = .ok (.iconst 0, 1) := by decide +kernel
theorem d_Model_find_28 : decode prog_13_method_19_code 28 = .ok (.invokestatic 273, 3) := by decide +kernel
theorem d_Model_find_31 : decode prog_13_method_19_code 31 = .ok (.iaload, 1) := by decide +kernel
theorem d_Model_find_32 : decode prog_13_method_19_code 32 = .ok (.iload_n 3, 1) := by decide +kernel
theorem d_Model_find_33 : decode prog_13_method_19_code 33 = .ok (.if_icmp .ne 6, 3) := by decide +kernel
theorem d_Model_find_36 : decode prog_13_method_19_code 36 = .ok (.iload 4, 2) := by decide +kernel
theorem d_Model_find_38 : decode prog_13_method_19_code 38 = .ok (.ireturn, 1) := by decide +kernel
theorem d_Model_find_39 : decode prog_13_method_19_code 39 = .ok (.iinc 4 1, 3) := by decide +kernel
theorem d_Model_find_42 : decode prog_13_method_19_code 42 = .ok (.goto (-39), 3) := by decide +kernel
theorem d_Model_find_45 : decode prog_13_method_19_code 45 = .ok (.iconst (-1), 1) := by decide +kernel
theorem d_Model_find_46 : decode prog_13_method_19_code 46 = .ok (.ireturn, 1) := by decide +kernel
theorem d_Model_isAllowed_0 : decode prog_13_method_31_code 0 = .ok (.iconst 1, 1) := by decide +kernel
theorem d_Model_isAllowed_1 : decode prog_13_method_31_code 1 = .ok (.istore 5, 2) := by decide +kernel
theorem d_Model_isAllowed_3 : decode prog_13_method_31_code 3 = .ok (.iconst 4, 1) := by decide +kernel
theorem d_Model_isAllowed_4 : decode prog_13_method_31_code 4 = .ok (.iload_n 2, 1) := by decide +kernel
theorem d_Model_isAllowed_5 : decode prog_13_method_31_code 5 = .ok (.imul, 1) := by decide +kernel
theorem d_Model_isAllowed_6 : decode prog_13_method_31_code 6 = .ok (.istore 6, 2) := by decide +kernel
theorem d_Model_isAllowed_8 : decode prog_13_method_31_code 8 = .ok (.iload 6, 2) := by decide +kernel
theorem d_Model_isAllowed_10 : decode prog_13_method_31_code 10 = .ok (.iconst 4, 1) := by decide +kernel
theorem d_Model_isAllowed_11 : decode prog_13_method_31_code 11 = .ok (.iload_n 2, 1) := by decide +kernel
theorem d_Model_isAllowed_12 : decode prog_13_method_31_code 12 = .ok (.imul, 1) := by decide +kernel
theorem d_Model_isAllowed_13 : decode prog_13_method_31_code 13 = .ok (.aload_n 0, 1) := by decide +kernel
theorem d_Model_isAllowed_14 : decode prog_13_method_31_code 14 = .ok (.getfield 13, 3) := by decide +kernel
theorem d_Model_isAllowed_17 : decode prog_13_method_31_code 17 = .ok (.iload_n 2, 1) := by decide +kernel
theorem d_Model_isAllowed_18 : decode prog_13_method_31_code 18 = .ok (.iaload, 1) := by decide +kernel
theorem d_Model_isAllowed_19 : decode prog_13_method_31_code 19 = .ok (.iadd, 1) := by decide +kernel
theorem d_Model_isAllowed_20 : decode prog_13_method_31_code 20 = .ok (.if_icmp .ge 54, 3) := by decide +kernel
theorem d_Model_isAllowed_23 : decode prog_13_method_31_code 23 = .ok (.iload 5, 2) := by decide +kernel
theorem d_Model_isAllowed_25 : decode prog_13_method_31_code 25 = .ok (.ifCond .eq 40, 3) := by decide +kernel
theorem d_Model_isAllowed_28 : decode prog_13_method_31_code 28 = .ok (.aload_n 0, 1) := by decide +kernel
theorem d_Model_isAllowed_29 : decode prog_13_method_31_code 29 = .ok (.getfield 16, 3) := by decide +kernel
theorem d_Model_isAllowed_32 : decode prog_13_method_31_code 32 = .ok (.iload 6, 2) := by decide +kernel
theorem d_Model_isAllowed_34 : decode prog_13_method_31_code 34 = .ok (.iaload, 1) := by decide +kernel
theorem d_Model_isAllowed_35 : decode prog_13_method_31_code 35 = .ok (.iload_n 3, 1) := by decide +kernel
theorem d_Model_isAllowed_36 : decode prog_13_method_31_code 36 = .ok (.if_icmp .ne 25, 3) := by decide +kernel
theorem d_Model_isAllowed_39 : decode prog_13_method_31_code 39 = .ok (.iload 4, 2) := by decide +kernel
theorem d_Model_isAllowed_41 : decode prog_13_method_31_code 41 = .ok (.aload_n 0, 1) := by decide +kernel
theorem d_Model_isAllowed_42 : decode prog_13_method_31_code 42 = .ok (.getfield 19, 3) := by decide +kernel
theorem d_Model_isAllowed_45 : decode prog_13_method_31_code 45 = .ok (.iload 6, 2) := by decide +kernel
theorem d_Model_isAllowed_47 : decode prog_13_method_31_code 47 = .ok (.iaload, 1) := by decide +kernel
theorem d_Model_isAllowed_48 : decode prog_13_method_31_code 48 = .ok (.aload_n 0, 1) := by decide +kernel
theorem d_Model_isAllowed_49 : decode prog_13_method_31_code 49 = .ok (.getfield 22, 3) := by decide +kernel
theorem d_Model_isAllowed_52 : decode prog_13_method_31_code 52 = .ok (.iload 6, 2) := by decide +kernel
theorem d_Model_isAllowed_54 : decode prog_13_method_31_code 54 = .ok (.iaload, 1) := by decide +kernel
theorem d_Model_isAllowed_55 : decode prog_13_method_31_code 55 = .ok (.invokestatic 281, 3) := by decide +kernel
theorem d_Model_isAllowed_58 : decode prog_13_method_31_code 58 = .ok (.ifCond .eq 7, 3) := by decide +kernel
theorem d_Model_isAllowed_61 : decode prog_13_method_31_code 61 = .ok (.iconst 1, 1) := by decide +kernel
theorem d_Model_isAllowed_62 : decode prog_13_method_31_code 62 = .ok (.goto 4, 3) := by decide +kernel
theorem d_Model_isAllowed_65 : decode prog_13_method_31_code 65 = .ok (.iconst 0, 1) := by decide +kernel
theorem d_Model_isAllowed_66 : decode prog_13_method_31_code 66 = .ok (.istore 5, 2) := by decide +kernel
theorem d_Model_isAllowed_68 : decode prog_13_method_31_code 68 = .ok (.iinc 6 1, 3) := by decide +kernel
theorem d_Model_isAllowed_71 : decode prog_13_method_31_code 71 = .ok (.goto (-63), 3) := by decide +kernel
theorem d_Model_isAllowed_74 : decode prog_13_method_31_code 74 = .ok (.aload_n 0, 1) := by decide +kernel
theorem d_Model_isAllowed_75 : decode prog_13_method_31_code 75 = .ok (.getfield 25, 3) := by decide +kernel
theorem d_Model_isAllowed_78 : decode prog_13_method_31_code 78 = .ok (.iconst 4, 1) := by decide +kernel
theorem d_Model_isAllowed_79 : decode prog_13_method_31_code 79 = .ok (.iload_n 2, 1) := by decide +kernel
theorem d_Model_isAllowed_80 : decode prog_13_method_31_code 80 = .ok (.imul, 1) := by decide +kernel
theorem d_Model_isAllowed_81 : decode prog_13_method_31_code 81 = .ok (.iload_n 3, 1) := by decide +kernel
theorem d_Model_isAllowed_82 : decode prog_13_method_31_code 82 = .ok (.iadd, 1) := by decide +kernel
theorem d_Model_isAllowed_83 : decode prog_13_method_31_code 83 = .ok (.iaload, 1) := by decide +kernel
theorem d_Model_isAllowed_84 : decode prog_13_method_31_code 84 = .ok (.istore 6, 2) := by decide +kernel
theorem d_Model_isAllowed_86 : decode prog_13_method_31_code 86 = .ok (.iload 5, 2) := by decide +kernel
theorem d_Model_isAllowed_88 : decode prog_13_method_31_code 88 = .ok (.ifCond .eq 33, 3) := by decide +kernel
theorem d_Model_isAllowed_91 : decode prog_13_method_31_code 91 = .ok (.iload 6, 2) := by decide +kernel
theorem d_Model_isAllowed_93 : decode prog_13_method_31_code 93 = .ok (.iconst (-1), 1) := by decide +kernel
theorem d_Model_isAllowed_94 : decode prog_13_method_31_code 94 = .ok (.if_icmp .eq 23, 3) := by decide +kernel
theorem d_Model_isAllowed_97 : decode prog_13_method_31_code 97 = .ok (.iload 4, 2) := by decide +kernel
theorem d_Model_isAllowed_99 : decode prog_13_method_31_code 99 = .ok (.ldc 246, 2) := by decide +kernel
theorem d_Model_isAllowed_101 : decode prog_13_method_31_code 101 = .ok (.if_icmp .eq 16, 3) := by decide +kernel
theorem d_Model_isAllowed_104 : decode prog_13_method_31_code 104 = .ok (.aload_n 0, 1) := by decide +kernel
theorem d_Model_isAllowed_105 : decode prog_13_method_31_code 105 = .ok (.iload_n 1, 1) := by decide +kernel
theorem d_Model_isAllowed_106 : decode prog_13_method_31_code 106 = .ok (.iload 6, 2) := by decide +kernel
theorem d_Model_isAllowed_108 : decode prog_13_method_31_code 108 = .ok (.iload 4, 2) := by decide +kernel
theorem d_Model_isAllowed_110 : decode prog_13_method_31_code 110 = .ok (.invokevirtual 305, 3) := by decide +kernel
theorem d_Model_isAllowed_113 : decode prog_13_method_31_code 113 = .ok (.iconst (-1), 1) := by decide +kernel
theorem d_Model_isAllowed_114 : decode prog_13_method_31_code 114 = .ok (.if_icmp .eq 7, 3) := by decide +kernel
theorem d_Model_isAllowed_117 : decode prog_13_method_31_code 117 = .ok (.iconst 1, 1) := by decide +kernel
theorem d_Model_isAllowed_118 : decode prog_13_method_31_code 118 = .ok (.goto 4, 3) := by decide +kernel
theorem d_Model_isAllowed_121 : decode prog_13_method_31_code 121 = .ok (.iconst 0, 1) := by decide +kernel
theorem d_Model_isAllowed_122 : decode prog_13_method_31_code 122 = .ok (.ireturn, 1) := by decide +kernel
theorem d_Model_compares_0 : decode prog_13_method_11_code 0 = .ok (.iload_n 0, 1) := by decide +kernel
theorem d_Model_compares_1 : decode prog_13_method_11_code 1 = .ok (.ldc 246, 2) := by decide +kernel
theorem d_Model_compares_3 : decode prog_13_method_11_code 3 = .ok (.if_icmp .eq 9, 3) := by decide +kernel
theorem d_Model_compares_6 : decode prog_13_method_11_code 6 = .ok (.iload_n 2, 1) := by decide +kernel
theorem d_Model_compares_7 : decode prog_13_method_11_code 7 = .ok (.ldc 246, 2) := by decide +kernel
theorem d_Model_compares_9 : decode prog_13_method_11_code 9 = .ok (.if_icmp .ne 5, 3) := by decide +kernel
theorem d_Model_compares_12 : decode prog_13_method_11_code 12 = .ok (.iconst (-1), 1) := by decide +kernel
theorem d_Model_compares_13 : decode prog_13_method_11_code 13 = .ok (.ireturn, 1) := by decide +kernel
theorem d_Model_compares_14 : decode prog_13_method_11_code 14 = .ok (.iload_n 1, 1) := by decide +kernel
theorem d_Model_compares_15 : decode prog_13_method_11_code 15 = .ok (.ifCond .ne 16, 3) := by decide +kernel
theorem d_Model_compares_18 : decode prog_13_method_11_code 18 = .ok (.iload_n 0, 1) := by decide +kernel
theorem d_Model_compares_19 : decode prog_13_method_11_code 19 = .ok (.iload_n 2, 1) := by decide +kernel
theorem d_Model_compares_20 : decode prog_13_method_11_code 20 = .ok (.if_icmp .ge 7, 3) := by decide +kernel
theorem d_Model_compares_23 : decode prog_13_method_11_code 23 = .ok (.iconst 1, 1) := by decide +kernel
theorem d_Model_compares_24 : decode prog_13_method_11_code 24 = .ok (.goto 35, 3) := by decide +kernel
theorem d_Model_compares_27 : decode prog_13_method_11_code 27 = .ok (.iconst 0, 1) := by decide +kernel
theorem d_Model_compares_28 : decode prog_13_method_11_code 28 = .ok (.goto 31, 3) := by decide +kernel
theorem d_Model_compares_31 : decode prog_13_method_11_code 31 = .ok (.iload_n 1, 1) := by decide +kernel
theorem d_Model_compares_32 : decode prog_13_method_11_code 32 = .ok (.iconst 1, 1) := by decide +kernel
theorem d_Model_compares_33 : decode prog_13_method_11_code 33 = .ok (.if_icmp .ne 16, 3) := by decide +kernel
theorem d_Model_compares_36 : decode prog_13_method_11_code 36 = .ok (.iload_n 0, 1) := by decide +kernel
theorem d_Model_compares_37 : decode prog_13_method_11_code 37 = .ok (.iload_n 2, 1) := by decide +kernel
theorem d_Model_compares_38 : decode prog_13_method_11_code 38 = .ok (.if_icmp .ne 7, 3) := by decide +kernel
theorem d_Model_compares_41 : decode prog_13_method_11_code 41 = .ok (.iconst 1, 1) := by decide +kernel
theorem d_Model_compares_42 : decode prog_13_method_11_code 42 = .ok (.goto 17, 3) := by decide +kernel
theorem d_Model_compares_45 : decode prog_13_method_11_code 45 = .ok (.iconst 0, 1) := by decide +kernel
theorem d_Model_compares_46 : decode prog_13_method_11_code 46 = .ok (.goto 13, 3) := by decide +kernel
theorem d_Model_compares_49 : decode prog_13_method_11_code 49 = .ok (.iload_n 0, 1) := by decide +kernel
theorem d_Model_compares_50 : decode prog_13_method_11_code 50 = .ok (.iload_n 2, 1) := by decide +kernel
theorem d_Model_compares_51 : decode prog_13_method_11_code 51 = .ok (.if_icmp .le 7, 3) := by decide +kernel
theorem d_Model_compares_54 : decode prog_13_method_11_code 54 = .ok (.iconst 1, 1) := by decide +kernel
theorem d_Model_compares_55 : decode prog_13_method_11_code 55 = .ok (.goto 4, 3) := by decide +kernel
theorem d_Model_compares_58 : decode prog_13_method_11_code 58 = .ok (.iconst 0, 1) := by decide +kernel
theorem d_Model_compares_59 : decode prog_13_method_11_code 59 = .ok (.istore_n 3, 1) := by decide +kernel
theorem d_Model_compares_60 : decode prog_13_method_11_code 60 = .ok (.iload_n 3, 1) := by decide +kernel
theorem d_Model_compares_61 : decode prog_13_method_11_code 61 = .ok (.ifCond .eq 7, 3) := by decide +kernel
theorem d_Model_compares_64 : decode prog_13_method_11_code 64 = .ok (.iconst 1, 1) := by decide +kernel
theorem d_Model_compares_65 : decode prog_13_method_11_code 65 = .ok (.goto 4, 3) := by decide +kernel
theorem d_Model_compares_68 : decode prog_13_method_11_code 68 = .ok (.iconst 0, 1) := by decide +kernel
theorem d_Model_compares_69 : decode prog_13_method_11_code 69 = .ok (.ireturn, 1) := by decide +kernel
theorem d_Model_wants_0 : decode prog_13_method_33_code 0 = .ok (.aload_n 0, 1) := by decide +kernel
theorem d_Model_wants_1 : decode prog_13_method_33_code 1 = .ok (.getfield 120, 3) := by decide +kernel
theorem d_Model_wants_4 : decode prog_13_method_33_code 4 = .ok (.aload_n 0, 1) := by decide +kernel
theorem d_Model_wants_5 : decode prog_13_method_33_code 5 = .ok (.getfield 312, 3) := by decide +kernel
theorem d_Model_wants_8 : decode prog_13_method_33_code 8 = .ok (.iload_n 1, 1) := by decide +kernel
theorem d_Model_wants_9 : decode prog_13_method_33_code 9 = .ok (.iastore, 1) := by decide +kernel
theorem d_Model_wants_10 : decode prog_13_method_33_code 10 = .ok (.aload_n 0, 1) := by decide +kernel
theorem d_Model_wants_11 : decode prog_13_method_33_code 11 = .ok (.getfield 123, 3) := by decide +kernel
theorem d_Model_wants_14 : decode prog_13_method_33_code 14 = .ok (.aload_n 0, 1) := by decide +kernel
theorem d_Model_wants_15 : decode prog_13_method_33_code 15 = .ok (.getfield 312, 3) := by decide +kernel
theorem d_Model_wants_18 : decode prog_13_method_33_code 18 = .ok (.iload_n 2, 1) := by decide +kernel
theorem d_Model_wants_19 : decode prog_13_method_33_code 19 = .ok (.iastore, 1) := by decide +kernel
theorem d_Model_wants_20 : decode prog_13_method_33_code 20 = .ok (.aload_n 0, 1) := by decide +kernel
theorem d_Model_wants_21 : decode prog_13_method_33_code 21 = .ok (.dup, 1) := by decide +kernel
theorem d_Model_wants_22 : decode prog_13_method_33_code 22 = .ok (.getfield 312, 3) := by decide +kernel
theorem d_Model_wants_25 : decode prog_13_method_33_code 25 = .ok (.iconst 1, 1) := by decide +kernel
theorem d_Model_wants_26 : decode prog_13_method_33_code 26 = .ok (.iadd, 1) := by decide +kernel
theorem d_Model_wants_27 : decode prog_13_method_33_code 27 = .ok (.putfield 312, 3) := by decide +kernel
theorem d_Model_wants_30 : decode prog_13_method_33_code 30 = .ok (.return_, 1) := by decide +kernel
theorem d_Model_wantsUpdate_0 : decode prog_13_method_35_code 0 = .ok (.aload_n 0, 1) := by decide +kernel
theorem d_Model_wantsUpdate_1 : decode prog_13_method_35_code 1 = .ok (.getfield 83, 3) := by decide +kernel
theorem d_Model_wantsUpdate_4 : decode prog_13_method_35_code 4 = .ok (.iload_n 1, 1) := by decide +kernel
theorem d_Model_wantsUpdate_5 : decode prog_13_method_35_code 5 = .ok (.iaload, 1) := by decide +kernel
theorem d_Model_wantsUpdate_6 : decode prog_13_method_35_code 6 = .ok (.istore_n 2, 1) := by decide +kernel
theorem d_Model_wantsUpdate_7 : decode prog_13_method_35_code 7 = .ok (.aload_n 0, 1) := by decide +kernel
theorem d_Model_wantsUpdate_8 : decode prog_13_method_35_code 8 = .ok (.iload_n 1, 1) := by decide +kernel
theorem d_Model_wantsUpdate_9 : decode prog_13_method_35_code 9 = .ok (.iload_n 2, 1) := by decide +kernel
theorem d_Model_wantsUpdate_10 : decode prog_13_method_35_code 10 = .ok (.aload_n 0, 1) := by decide +kernel
theorem d_Model_wantsUpdate_11 : decode prog_13_method_35_code 11 = .ok (.getfield 86, 3) := by decide +kernel
theorem d_Model_wantsUpdate_14 : decode prog_13_method_35_code 14 = .ok (.iload_n 1, 1) := by decide +kernel
theorem d_Model_wantsUpdate_15 : decode prog_13_method_35_code 15 = .ok (.iaload, 1) := by decide +kernel
theorem d_Model_wantsUpdate_16 : decode prog_13_method_35_code 16 = .ok (.invokevirtual 308, 3) := by decide +kernel
theorem d_Model_wantsUpdate_19 : decode prog_13_method_35_code 19 = .ok (.aload_n 0, 1) := by decide +kernel
theorem d_Model_wantsUpdate_20 : decode prog_13_method_35_code 20 = .ok (.iload_n 1, 1) := by decide +kernel
theorem d_Model_wantsUpdate_21 : decode prog_13_method_35_code 21 = .ok (.iload_n 2, 1) := by decide +kernel
theorem d_Model_wantsUpdate_22 : decode prog_13_method_35_code 22 = .ok (.aload_n 0, 1) := by decide +kernel
theorem d_Model_wantsUpdate_23 : decode prog_13_method_35_code 23 = .ok (.getfield 89, 3) := by decide +kernel
theorem d_Model_wantsUpdate_26 : decode prog_13_method_35_code 26 = .ok (.iload_n 1, 1) := by decide +kernel
theorem d_Model_wantsUpdate_27 : decode prog_13_method_35_code 27 = .ok (.iaload, 1) := by decide +kernel
theorem d_Model_wantsUpdate_28 : decode prog_13_method_35_code 28 = .ok (.aload_n 0, 1) := by decide +kernel
theorem d_Model_wantsUpdate_29 : decode prog_13_method_35_code 29 = .ok (.getfield 92, 3) := by decide +kernel
theorem d_Model_wantsUpdate_32 : decode prog_13_method_35_code 32 = .ok (.iload_n 1, 1) := by decide +kernel
theorem d_Model_wantsUpdate_33 : decode prog_13_method_35_code 33 = .ok (.iaload, 1) := by decide +kernel
theorem d_Model_wantsUpdate_34 : decode prog_13_method_35_code 34 = .ok (.invokevirtual 315, 3) := by decide +kernel
theorem d_Model_wantsUpdate_37 : decode prog_13_method_35_code 37 = .ok (.aload_n 0, 1) := by decide +kernel
theorem d_Model_wantsUpdate_38 : decode prog_13_method_35_code 38 = .ok (.aload_n 0, 1) := by decide +kernel
theorem d_Model_wantsUpdate_39 : decode prog_13_method_35_code 39 = .ok (.getfield 67, 3) := by decide +kernel
theorem d_Model_wantsUpdate_42 : decode prog_13_method_35_code 42 = .ok (.iload_n 1, 1) := by decide +kernel
theorem d_Model_wantsUpdate_43 : decode prog_13_method_35_code 43 = .ok (.iaload, 1) := by decide +kernel
theorem d_Model_wantsUpdate_44 : decode prog_13_method_35_code 44 = .ok (.iload_n 2, 1) := by decide +kernel
theorem d_Model_wantsUpdate_45 : decode prog_13_method_35_code 45 = .ok (.aload_n 0, 1) := by decide +kernel
theorem d_Model_wantsUpdate_46 : decode prog_13_method_35_code 46 = .ok (.getfield 86, 3) := by decide +kernel
theorem d_Model_wantsUpdate_49 : decode prog_13_method_35_code 49 = .ok (.iload_n 1, 1) := by decide +kernel
theorem d_Model_wantsUpdate_50 : decode prog_13_method_35_code 50 = .ok (.iaload, 1) := by decide +kernel
theorem d_Model_wantsUpdate_51 : decode prog_13_method_35_code 51 = .ok (.invokevirtual 305, 3) := by decide +kernel
theorem d_Model_wantsUpdate_54 : decode prog_13_method_35_code 54 = .ok (.istore_n 3, 1) := by decide +kernel
theorem d_Model_wantsUpdate_55 : decode prog_13_method_35_code 55 = .ok (.aload_n 0, 1) := by decide +kernel
theorem d_Model_wantsUpdate_56 : decode prog_13_method_35_code 56 = .ok (.iload_n 2, 1) := by decide +kernel
theorem d_Model_wantsUpdate_57 : decode prog_13_method_35_code 57 = .ok (.aload_n 0, 1) := by decide +kernel
theorem d_Model_wantsUpdate_58 : decode prog_13_method_35_code 58 = .ok (.getfield 86, 3) := by decide +kernel
theorem d_Model_wantsUpdate_61 : decode prog_13_method_35_code 61 = .ok (.iload_n 1, 1) := by decide +kernel
theorem d_Model_wantsUpdate_62 : decode prog_13_method_35_code 62 = .ok (.iaload, 1) := by decide +kernel
theorem d_Model_wantsUpdate_63 : decode prog_13_method_35_code 63 = .ok (.invokevirtual 322, 3) := by decide +kernel
theorem d_Model_wantsUpdate_66 : decode prog_13_method_35_code 66 = .ok (.iload_n 3, 1) := by decide +kernel
theorem d_Model_wantsUpdate_67 : decode prog_13_method_35_code 67 = .ok (.iconst (-1), 1) := by decide +kernel
theorem d_Model_wantsUpdate_68 : decode prog_13_method_35_code 68 = .ok (.if_icmp .eq 54, 3) := by decide +kernel
theorem d_Model_wantsUpdate_71 : decode prog_13_method_35_code 71 = .ok (.aload_n 0, 1) := by decide +kernel
theorem d_Model_wantsUpdate_72 : decode prog_13_method_35_code 72 = .ok (.aload_n 0, 1) := by decide +kernel
theorem d_Model_wantsUpdate_73 : decode prog_13_method_35_code 73 = .ok (.getfield 58, 3) := by decide +kernel
theorem d_Model_wantsUpdate_76 : decode prog_13_method_35_code 76 = .ok (.iload_n 1, 1) := by decide +kernel
theorem d_Model_wantsUpdate_77 : decode prog_13_method_35_code 77 = .ok (.iaload, 1) := by decide +kernel
theorem d_Model_wantsUpdate_78 : decode prog_13_method_35_code 78 = .ok (.aload_n 0, 1) := by decide +kernel
theorem d_Model_wantsUpdate_79 : decode prog_13_method_35_code 79 = .ok (.getfield 67, 3) := by decide +kernel
theorem d_Model_wantsUpdate_82 : decode prog_13_method_35_code 82 = .ok (.iload_n 1, 1) := by decide +kernel
theorem d_Model_wantsUpdate_83 : decode prog_13_method_35_code 83 = .ok (.iaload, 1) := by decide +kernel
theorem d_Model_wantsUpdate_84 : decode prog_13_method_35_code 84 = .ok (.iload_n 2, 1) := by decide +kernel
theorem d_Model_wantsUpdate_85 : decode prog_13_method_35_code 85 = .ok (.iload_n 3, 1) := by decide +kernel
theorem d_Model_wantsUpdate_86 : decode prog_13_method_35_code 86 = .ok (.invokevirtual 325, 3) := by decide +kernel
theorem d_Model_wantsUpdate_89 : decode prog_13_method_35_code 89 = .ok (.ifCond .eq 33, 3) := by decide +kernel
theorem d_Model_wantsUpdate_92 : decode prog_13_method_35_code 92 = .ok (.aload_n 0, 1) := by decide +kernel
theorem d_Model_wantsUpdate_93 : decode prog_13_method_35_code 93 = .ok (.aload_n 0, 1) := by decide +kernel
theorem d_Model_wantsUpdate_94 : decode prog_13_method_35_code 94 = .ok (.getfield 67, 3) := by decide +kernel
theorem d_Model_wantsUpdate_97 : decode prog_13_method_35_code 97 = .ok (.iload_n 1, 1) := by decide +kernel
theorem d_Model_wantsUpdate_98 : decode prog_13_method_35_code 98 = .ok (.iaload, 1) := by decide +kernel
theorem d_Model_wantsUpdate_99 : decode prog_13_method_35_code 99 = .ok (.iload_n 2, 1) := by decide +kernel
theorem d_Model_wantsUpdate_100 : decode prog_13_method_35_code 100 = .ok (.aload_n 0, 1) := by decide +kernel
theorem d_Model_wantsUpdate_101 : decode prog_13_method_35_code 101 = .ok (.getfield 89, 3) := by decide +kernel
theorem d_Model_wantsUpdate_104 : decode prog_13_method_35_code 104 = .ok (.iload_n 1, 1) := by decide +kernel
theorem d_Model_wantsUpdate_105 : decode prog_13_method_35_code 105 = .ok (.iaload, 1) := by decide +kernel
theorem d_Model_wantsUpdate_106 : decode prog_13_method_35_code 106 = .ok (.aload_n 0, 1) := by decide +kernel
theorem d_Model_wantsUpdate_107 : decode prog_13_method_35_code 107 = .ok (.getfield 92, 3) := by decide +kernel
theorem d_Model_wantsUpdate_110 : decode prog_13_method_35_code 110 = .ok (.iload_n 1, 1) := by decide +kernel
theorem d_Model_wantsUpdate_111 : decode prog_13_method_35_code 111 = .ok (.iaload, 1) := by decide +kernel
theorem d_Model_wantsUpdate_112 : decode prog_13_method_35_code 112 = .ok (.invokevirtual 318, 3) := by decide +kernel
theorem d_Model_wantsUpdate_115 : decode prog_13_method_35_code 115 = .ok (.ifCond .eq 7, 3) := by decide +kernel
theorem d_Model_wantsUpdate_118 : decode prog_13_method_35_code 118 = .ok (.iconst 1, 1) := by decide +kernel
theorem d_Model_wantsUpdate_119 : decode prog_13_method_35_code 119 = .ok (.goto 4, 3) := by decide +kernel
theorem d_Model_wantsUpdate_122 : decode prog_13_method_35_code 122 = .ok (.iconst 0, 1) := by decide +kernel
theorem d_Model_wantsUpdate_123 : decode prog_13_method_35_code 123 = .ok (.ireturn, 1) := by decide +kernel
theorem d_Model_isSeen_0 : decode prog_13_method_22_code 0 = .ok (.iconst 1, 1) := by decide +kernel
theorem d_Model_isSeen_1 : decode prog_13_method_22_code 1 = .ok (.istore 5, 2) := by decide +kernel
theorem d_Model_isSeen_3 : decode prog_13_method_22_code 3 = .ok (.iconst 0, 1) := by decide +kernel
theorem d_Model_isSeen_4 : decode prog_13_method_22_code 4 = .ok (.istore 6, 2) := by decide +kernel
theorem d_Model_isSeen_6 : decode prog_13_method_22_code 6 = .ok (.iload 6, 2) := by decide +kernel
theorem d_Model_isSeen_8 : decode prog_13_method_22_code 8 = .ok (.aload_n 0, 1) := by decide +kernel
theorem d_Model_isSeen_9 : decode prog_13_method_22_code 9 = .ok (.getfield 270, 3) := by decide +kernel
theorem d_Model_isSeen_12 : decode prog_13_method_22_code 12 = .ok (.if_icmp .ge 83, 3) := by decide +kernel
theorem d_Model_isSeen_15 : decode prog_13_method_22_code 15 = .ok (.aload_n 0, 1) := by decide +kernel
theorem d_Model_isSeen_16 : decode prog_13_method_22_code 16 = .ok (.getfield 31, 3) := by decide +kernel
theorem d_Model_isSeen_19 : decode prog_13_method_22_code 19 = .ok (.iload 6, 2) := by decide +kernel
theorem d_Model_isSeen_21 : decode prog_13_method_22_code 21 = .ok (.iaload, 1) := by decide +kernel
theorem d_Model_isSeen_22 : decode prog_13_method_22_code 22 = .ok (.iload_n 1, 1) := by decide +kernel
theorem d_Model_isSeen_23 : decode prog_13_method_22_code 23 = .ok (.if_icmp .ne 66, 3) := by decide +kernel
theorem d_Model_isSeen_26 : decode prog_13_method_22_code 26 = .ok (.aload_n 0, 1) := by decide +kernel
theorem d_Model_isSeen_27 : decode prog_13_method_22_code 27 = .ok (.getfield 34, 3) := by decide +kernel
theorem d_Model_isSeen_30 : decode prog_13_method_22_code 30 = .ok (.iload 6, 2) := by decide +kernel
theorem d_Model_isSeen_32 : decode prog_13_method_22_code 32 = .ok (.iaload, 1) := by decide +kernel
theorem d_Model_isSeen_33 : decode prog_13_method_22_code 33 = .ok (.iload_n 3, 1) := by decide +kernel
theorem d_Model_isSeen_34 : decode prog_13_method_22_code 34 = .ok (.if_icmp .ne 55, 3) := by decide +kernel
theorem d_Model_isSeen_37 : decode prog_13_method_22_code 37 = .ok (.iload 5, 2) := by decide +kernel
theorem d_Model_isSeen_39 : decode prog_13_method_22_code 39 = .ok (.ifCond .eq 47, 3) := by decide +kernel
theorem d_Model_isSeen_42 : decode prog_13_method_22_code 42 = .ok (.aload_n 0, 1) := by decide +kernel
theorem d_Model_isSeen_43 : decode prog_13_method_22_code 43 = .ok (.getfield 49, 3) := by decide +kernel
theorem d_Model_isSeen_46 : decode prog_13_method_22_code 46 = .ok (.iload_n 2, 1) := by decide +kernel
theorem d_Model_isSeen_47 : decode prog_13_method_22_code 47 = .ok (.iload_n 3, 1) := by decide +kernel
theorem d_Model_isSeen_48 : decode prog_13_method_22_code 48 = .ok (.iload 4, 2) := by decide +kernel
theorem d_Model_isSeen_50 : decode prog_13_method_22_code 50 = .ok (.aload_n 0, 1) := by decide +kernel
theorem d_Model_isSeen_51 : decode prog_13_method_22_code 51 = .ok (.getfield 37, 3) := by decide +kernel
theorem d_Model_isSeen_54 : decode prog_13_method_22_code 54 = .ok (.iload 6, 2) := by decide +kernel
theorem d_Model_isSeen_56 : decode prog_13_method_22_code 56 = .ok (.iaload, 1) := by decide +kernel
theorem d_Model_isSeen_57 : decode prog_13_method_22_code 57 = .ok (.invokestatic 273, 3) := by decide +kernel
theorem d_Model_isSeen_60 : decode prog_13_method_22_code 60 = .ok (.iaload, 1) := by decide +kernel
theorem d_Model_isSeen_61 : decode prog_13_method_22_code 61 = .ok (.aload_n 0, 1) := by decide +kernel
theorem d_Model_isSeen_62 : decode prog_13_method_22_code 62 = .ok (.getfield 40, 3) := by decide +kernel
theorem d_Model_isSeen_65 : decode prog_13_method_22_code 65 = .ok (.iload 6, 2) := by decide +kernel
theorem d_Model_isSeen_67 : decode prog_13_method_22_code 67 = .ok (.iaload, 1) := by decide +kernel
theorem d_Model_isSeen_68 : decode prog_13_method_22_code 68 = .ok (.aload_n 0, 1) := by decide +kernel
theorem d_Model_isSeen_69 : decode prog_13_method_22_code 69 = .ok (.getfield 43, 3) := by decide +kernel
theorem d_Model_isSeen_72 : decode prog_13_method_22_code 72 = .ok (.iload 6, 2) := by decide +kernel
theorem d_Model_isSeen_74 : decode prog_13_method_22_code 74 = .ok (.iaload, 1) := by decide +kernel
theorem d_Model_isSeen_75 : decode prog_13_method_22_code 75 = .ok (.invokestatic 281, 3) := by decide +kernel
theorem d_Model_isSeen_78 : decode prog_13_method_22_code 78 = .ok (.iconst 1, 1) := by decide +kernel
theorem d_Model_isSeen_79 : decode prog_13_method_22_code 79 = .ok (.if_icmp .ne 7, 3) := by decide +kernel
theorem d_Model_isSeen_82 : decode prog_13_method_22_code 82 = .ok (.iconst 1, 1) := by decide +kernel
theorem d_Model_isSeen_83 : decode prog_13_method_22_code 83 = .ok (.goto 4, 3) := by decide +kernel
theorem d_Model_isSeen_86 : decode prog_13_method_22_code 86 = .ok (.iconst 0, 1) := by decide +kernel
theorem d_Model_isSeen_87 : decode prog_13_method_22_code 87 = .ok (.istore 5, 2) := by decide +kernel
theorem d_Model_isSeen_89 : decode prog_13_method_22_code 89 = .ok (.iinc 6 1, 3) := by decide +kernel
theorem d_Model_isSeen_92 : decode prog_13_method_22_code 92 = .ok (.goto (-86), 3) := by decide +kernel
theorem d_Model_isSeen_95 : decode prog_13_method_22_code 95 = .ok (.iload 5, 2) := by decide +kernel
theorem d_Model_isSeen_97 : decode prog_13_method_22_code 97 = .ok (.ireturn, 1) := by decide +kernel
theorem d_Model_wantsDelete_0 : decode prog_13_method_38_code 0 = .ok (.aload_n 0, 1) := by decide +kernel
theorem d_Model_wantsDelete_1 : decode prog_13_method_38_code 1 = .ok (.getfield 83, 3) := by decide +kernel
theorem d_Model_wantsDelete_4 : decode prog_13_method_38_code 4 = .ok (.iload_n 1, 1) := by decide +kernel
theorem d_Model_wantsDelete_5 : decode prog_13_method_38_code 5 = .ok (.iaload, 1) := by decide +kernel
theorem d_Model_wantsDelete_6 : decode prog_13_method_38_code 6 = .ok (.istore_n 2, 1) := by decide +kernel
theorem d_Model_wantsDelete_7 : decode prog_13_method_38_code 7 = .ok (.aload_n 0, 1) := by decide +kernel
theorem d_Model_wantsDelete_8 : decode prog_13_method_38_code 8 = .ok (.getfield 67, 3) := by decide +kernel
theorem d_Model_wantsDelete_11 : decode prog_13_method_38_code 11 = .ok (.iload_n 1, 1) := by decide +kernel
theorem d_Model_wantsDelete_12 : decode prog_13_method_38_code 12 = .ok (.iaload, 1) := by decide +kernel
theorem d_Model_wantsDelete_13 : decode prog_13_method_38_code 13 = .ok (.istore_n 3, 1) := by decide +kernel
theorem d_Model_wantsDelete_14 : decode prog_13_method_38_code 14 = .ok (.aload_n 0, 1) := by decide +kernel
theorem d_Model_wantsDelete_15 : decode prog_13_method_38_code 15 = .ok (.iload_n 1, 1) := by decide +kernel
theorem d_Model_wantsDelete_16 : decode prog_13_method_38_code 16 = .ok (.iload_n 2, 1) := by decide +kernel
theorem d_Model_wantsDelete_17 : decode prog_13_method_38_code 17 = .ok (.aload_n 0, 1) := by decide +kernel
theorem d_Model_wantsDelete_18 : decode prog_13_method_38_code 18 = .ok (.getfield 86, 3) := by decide +kernel
theorem d_Model_wantsDelete_21 : decode prog_13_method_38_code 21 = .ok (.iload_n 1, 1) := by decide +kernel
theorem d_Model_wantsDelete_22 : decode prog_13_method_38_code 22 = .ok (.iaload, 1) := by decide +kernel
theorem d_Model_wantsDelete_23 : decode prog_13_method_38_code 23 = .ok (.invokevirtual 308, 3) := by decide +kernel
theorem d_Model_wantsDelete_26 : decode prog_13_method_38_code 26 = .ok (.aload_n 0, 1) := by decide +kernel
theorem d_Model_wantsDelete_27 : decode prog_13_method_38_code 27 = .ok (.iload_n 3, 1) := by decide +kernel
theorem d_Model_wantsDelete_28 : decode prog_13_method_38_code 28 = .ok (.iload_n 2, 1) := by decide +kernel
theorem d_Model_wantsDelete_29 : decode prog_13_method_38_code 29 = .ok (.aload_n 0, 1) := by decide +kernel
theorem d_Model_wantsDelete_30 : decode prog_13_method_38_code 30 = .ok (.getfield 86, 3) := by decide +kernel
theorem d_Model_wantsDelete_33 : decode prog_13_method_38_code 33 = .ok (.iload_n 1, 1) := by decide +kernel
theorem d_Model_wantsDelete_34 : decode prog_13_method_38_code 34 = .ok (.iaload, 1) := by decide +kernel
theorem d_Model_wantsDelete_35 : decode prog_13_method_38_code 35 = .ok (.invokevirtual 305, 3) := by decide +kernel
theorem d_Model_wantsDelete_38 : decode prog_13_method_38_code 38 = .ok (.istore 4, 2) := by decide +kernel
theorem d_Model_wantsDelete_40 : decode prog_13_method_38_code 40 = .ok (.iload 4, 2) := by decide +kernel
theorem d_Model_wantsDelete_42 : decode prog_13_method_38_code 42 = .ok (.iconst (-1), 1) := by decide +kernel
theorem d_Model_wantsDelete_43 : decode prog_13_method_38_code 43 = .ok (.if_icmp .eq 20, 3) := by decide +kernel
theorem d_Model_wantsDelete_46 : decode prog_13_method_38_code 46 = .ok (.aload_n 0, 1) := by decide +kernel
theorem d_Model_wantsDelete_47 : decode prog_13_method_38_code 47 = .ok (.aload_n 0, 1) := by decide +kernel
theorem d_Model_wantsDelete_48 : decode prog_13_method_38_code 48 = .ok (.getfield 58, 3) := by decide +kernel
theorem d_Model_wantsDelete_51 : decode prog_13_method_38_code 51 = .ok (.iload_n 1, 1) := by decide +kernel
theorem d_Model_wantsDelete_52 : decode prog_13_method_38_code 52 = .ok (.iaload, 1) := by decide +kernel
theorem d_Model_wantsDelete_53 : decode prog_13_method_38_code 53 = .ok (.iload_n 3, 1) := by decide +kernel
theorem d_Model_wantsDelete_54 : decode prog_13_method_38_code 54 = .ok (.iload_n 2, 1) := by decide +kernel
theorem d_Model_wantsDelete_55 : decode prog_13_method_38_code 55 = .ok (.iload 4, 2) := by decide +kernel
theorem d_Model_wantsDelete_57 : decode prog_13_method_38_code 57 = .ok (.invokevirtual 325, 3) := by decide +kernel
theorem d_Model_wantsDelete_60 : decode prog_13_method_38_code 60 = .ok (.ifCond .ne 5, 3) := by decide +kernel
theorem d_Model_wantsDelete_63 : decode prog_13_method_38_code 63 = .ok (.iconst 0, 1) := by decide +kernel
theorem d_Model_wantsDelete_64 : decode prog_13_method_38_code 64 = .ok (.ireturn, 1) := by decide +kernel
theorem d_Model_wantsDelete_65 : decode prog_13_method_38_code 65 = .ok (.iconst 0, 1) := by decide +kernel
theorem d_Model_wantsDelete_66 : decode prog_13_method_38_code 66 = .ok (.istore 5, 2) := by decide +kernel
theorem d_Model_wantsDelete_68 : decode prog_13_method_38_code 68 = .ok (.iload 5, 2) := by decide +kernel
theorem d_Model_wantsDelete_70 : decode prog_13_method_38_code 70 = .ok (.sipush 384, 3) := by decide +kernel
theorem d_Model_wantsDelete_73 : decode prog_13_method_38_code 73 = .ok (.if_icmp .ge 25, 3) := by decide +kernel
theorem d_Model_wantsDelete_76 : decode prog_13_method_38_code 76 = .ok (.aload_n 0, 1) := by decide +kernel
theorem d_Model_wantsDelete_77 : decode prog_13_method_38_code 77 = .ok (.getfield 114, 3) := by decide +kernel
theorem d_Model_wantsDelete_80 : decode prog_13_method_38_code 80 = .ok (.iload 5, 2) := by decide +kernel
theorem d_Model_wantsDelete_82 : decode prog_13_method_38_code 82 = .ok (.iconst 0, 1) := by decide +kernel
theorem d_Model_wantsDelete_83 : decode prog_13_method_38_code 83 = .ok (.bastore, 1) := by decide +kernel
theorem d_Model_wantsDelete_84 : decode prog_13_method_38_code 84 = .ok (.aload_n 0, 1) := by decide +kernel
theorem d_Model_wantsDelete_85 : decode prog_13_method_38_code 85 = .ok (.getfield 117, 3) := by decide +kernel
theorem d_Model_wantsDelete_88 : decode prog_13_method_38_code 88 = .ok (.iload 5, 2) := by decide +kernel
theorem d_Model_wantsDelete_90 : decode prog_13_method_38_code 90 = .ok (.iconst 0, 1) := by decide +kernel
theorem d_Model_wantsDelete_91 : decode prog_13_method_38_code 91 = .ok (.bastore, 1) := by decide +kernel
theorem d_Model_wantsDelete_92 : decode prog_13_method_38_code 92 = .ok (.iinc 5 1, 3) := by decide +kernel
theorem d_Model_wantsDelete_95 : decode prog_13_method_38_code 95 = .ok (.goto (-27), 3) := by decide +kernel
theorem d_Model_wantsDelete_98 : decode prog_13_method_38_code 98 = .ok (.aload_n 0, 1) := by decide +kernel
theorem d_Model_wantsDelete_99 : decode prog_13_method_38_code 99 = .ok (.getfield 114, 3) := by decide +kernel
theorem d_Model_wantsDelete_102 : decode prog_13_method_38_code 102 = .ok (.bipush 64, 2) := by decide +kernel
theorem d_Model_wantsDelete_104 : decode prog_13_method_38_code 104 = .ok (.iload_n 2, 1) := by decide +kernel
theorem d_Model_wantsDelete_105 : decode prog_13_method_38_code 105 = .ok (.imul, 1) := by decide +kernel
theorem d_Model_wantsDelete_106 : decode prog_13_method_38_code 106 = .ok (.iload 4, 2) := by decide +kernel
theorem d_Model_wantsDelete_108 : decode prog_13_method_38_code 108 = .ok (.iadd, 1) := by decide +kernel
theorem d_Model_wantsDelete_109 : decode prog_13_method_38_code 109 = .ok (.iconst 1, 1) := by decide +kernel
theorem d_Model_wantsDelete_110 : decode prog_13_method_38_code 110 = .ok (.bastore, 1) := by decide +kernel
theorem d_Model_wantsDelete_111 : decode prog_13_method_38_code 111 = .ok (.iconst 1, 1) := by decide +kernel
theorem d_Model_wantsDelete_112 : decode prog_13_method_38_code 112 = .ok (.istore 5, 2) := by decide +kernel
theorem d_Model_wantsDelete_114 : decode prog_13_method_38_code 114 = .ok (.iload 5, 2) := by decide +kernel
theorem d_Model_wantsDelete_116 : decode prog_13_method_38_code 116 = .ok (.ifCond .eq 101, 3) := by decide +kernel
theorem d_Model_wantsDelete_119 : decode prog_13_method_38_code 119 = .ok (.iconst 0, 1) := by decide +kernel
theorem d_Model_wantsDelete_120 : decode prog_13_method_38_code 120 = .ok (.istore 5, 2) := by decide +kernel
theorem d_Model_wantsDelete_122 : decode prog_13_method_38_code 122 = .ok (.iconst 0, 1) := by decide +kernel
theorem d_Model_wantsDelete_123 : decode prog_13_method_38_code 123 = .ok (.istore 6, 2) := by decide +kernel
theorem d_Model_wantsDelete_125 : decode prog_13_method_38_code 125 = .ok (.iload 6, 2) := by decide +kernel
theorem d_Model_wantsDelete_127 : decode prog_13_method_38_code 127 = .ok (.sipush 384, 3) := by decide +kernel
theorem d_Model_wantsDelete_130 : decode prog_13_method_38_code 130 = .ok (.if_icmp .ge 84, 3) := by decide +kernel
theorem d_Model_wantsDelete_133 : decode prog_13_method_38_code 133 = .ok (.iload 6, 2) := by decide +kernel
theorem d_Model_wantsDelete_135 : decode prog_13_method_38_code 135 = .ok (.bipush 64, 2) := by decide +kernel
theorem d_Model_wantsDelete_137 : decode prog_13_method_38_code 137 = .ok (.irem, 1) := by decide +kernel
theorem d_Model_wantsDelete_138 : decode prog_13_method_38_code 138 = .ok (.aload_n 0, 1) := by decide +kernel
theorem d_Model_wantsDelete_139 : decode prog_13_method_38_code 139 = .ok (.getfield 46, 3) := by decide +kernel
theorem d_Model_wantsDelete_142 : decode prog_13_method_38_code 142 = .ok (.bipush 6, 2) := by decide +kernel
theorem d_Model_wantsDelete_144 : decode prog_13_method_38_code 144 = .ok (.iload_n 3, 1) := by decide +kernel
theorem d_Model_wantsDelete_145 : decode prog_13_method_38_code 145 = .ok (.imul, 1) := by decide +kernel
theorem d_Model_wantsDelete_146 : decode prog_13_method_38_code 146 = .ok (.iload 6, 2) := by decide +kernel
theorem d_Model_wantsDelete_148 : decode prog_13_method_38_code 148 = .ok (.bipush 64, 2) := by decide +kernel
theorem d_Model_wantsDelete_150 : decode prog_13_method_38_code 150 = .ok (.idiv, 1) := by decide +kernel
theorem d_Model_wantsDelete_151 : decode prog_13_method_38_code 151 = .ok (.iadd, 1) := by decide +kernel
theorem d_Model_wantsDelete_152 : decode prog_13_method_38_code 152 = .ok (.iaload, 1) := by decide +kernel
theorem d_Model_wantsDelete_153 : decode prog_13_method_38_code 153 = .ok (.if_icmp .ge 17, 3) := by decide +kernel
theorem d_Model_wantsDelete_156 : decode prog_13_method_38_code 156 = .ok (.aload_n 0, 1) := by decide +kernel
theorem d_Model_wantsDelete_157 : decode prog_13_method_38_code 157 = .ok (.getfield 114, 3) := by decide +kernel
theorem d_Model_wantsDelete_160 : decode prog_13_method_38_code 160 = .ok (.iload 6, 2) := by decide +kernel
theorem d_Model_wantsDelete_162 : decode prog_13_method_38_code 162 = .ok (.baload, 1) := by decide +kernel
theorem d_Model_wantsDelete_163 : decode prog_13_method_38_code 163 = .ok (.ifCond .ne 7, 3) := by decide +kernel
theorem d_Model_wantsDelete_166 : decode prog_13_method_38_code 166 = .ok (.iconst 1, 1) := by decide +kernel
theorem d_Model_wantsDelete_167 : decode prog_13_method_38_code 167 = .ok (.goto 4, 3) := by decide +kernel
theorem d_Model_wantsDelete_170 : decode prog_13_method_38_code 170 = .ok (.iconst 0, 1) := by decide +kernel
theorem d_Model_wantsDelete_171 : decode prog_13_method_38_code 171 = .ok (.istore 7, 2) := by decide +kernel
theorem d_Model_wantsDelete_173 : decode prog_13_method_38_code 173 = .ok (.iload 7, 2) := by decide +kernel
theorem d_Model_wantsDelete_175 : decode prog_13_method_38_code 175 = .ok (.ifCond .eq 33, 3) := by decide +kernel
theorem d_Model_wantsDelete_178 : decode prog_13_method_38_code 178 = .ok (.aload_n 0, 1) := by decide +kernel
theorem d_Model_wantsDelete_179 : decode prog_13_method_38_code 179 = .ok (.iload_n 3, 1) := by decide +kernel
theorem d_Model_wantsDelete_180 : decode prog_13_method_38_code 180 = .ok (.iload 6, 2) := by decide +kernel
theorem d_Model_wantsDelete_182 : decode prog_13_method_38_code 182 = .ok (.bipush 64, 2) := by decide +kernel
theorem d_Model_wantsDelete_184 : decode prog_13_method_38_code 184 = .ok (.idiv, 1) := by decide +kernel
theorem d_Model_wantsDelete_185 : decode prog_13_method_38_code 185 = .ok (.iload 6, 2) := by decide +kernel
theorem d_Model_wantsDelete_187 : decode prog_13_method_38_code 187 = .ok (.bipush 64, 2) := by decide +kernel
theorem d_Model_wantsDelete_189 : decode prog_13_method_38_code 189 = .ok (.irem, 1) := by decide +kernel
theorem d_Model_wantsDelete_190 : decode prog_13_method_38_code 190 = .ok (.iconst 1, 1) := by decide +kernel
theorem d_Model_wantsDelete_191 : decode prog_13_method_38_code 191 = .ok (.invokevirtual 331, 3) := by decide +kernel
theorem d_Model_wantsDelete_194 : decode prog_13_method_38_code 194 = .ok (.ifCond .eq 14, 3) := by decide +kernel
theorem d_Model_wantsDelete_197 : decode prog_13_method_38_code 197 = .ok (.aload_n 0, 1) := by decide +kernel
theorem d_Model_wantsDelete_198 : decode prog_13_method_38_code 198 = .ok (.getfield 114, 3) := by decide +kernel
theorem d_Model_wantsDelete_201 : decode prog_13_method_38_code 201 = .ok (.iload 6, 2) := by decide +kernel
theorem d_Model_wantsDelete_203 : decode prog_13_method_38_code 203 = .ok (.iconst 1, 1) := by decide +kernel
theorem d_Model_wantsDelete_204 : decode prog_13_method_38_code 204 = .ok (.bastore, 1) := by decide +kernel
theorem d_Model_wantsDelete_205 : decode prog_13_method_38_code 205 = .ok (.iconst 1, 1) := by decide +kernel
theorem d_Model_wantsDelete_206 : decode prog_13_method_38_code 206 = .ok (.istore 5, 2) := by decide +kernel
theorem d_Model_wantsDelete_208 : decode prog_13_method_38_code 208 = .ok (.iinc 6 1, 3) := by decide +kernel
theorem d_Model_wantsDelete_211 : decode prog_13_method_38_code 211 = .ok (.goto (-86), 3) := by decide +kernel
theorem d_Model_wantsDelete_214 : decode prog_13_method_38_code 214 = .ok (.goto (-100), 3) := by decide +kernel
theorem d_Model_wantsDelete_217 : decode prog_13_method_38_code 217 = .ok (.iconst 1, 1) := by decide +kernel
theorem d_Model_wantsDelete_218 : decode prog_13_method_38_code 218 = .ok (.istore 6, 2) := by decide +kernel
theorem d_Model_wantsDelete_220 : decode prog_13_method_38_code 220 = .ok (.iconst 0, 1) := by decide +kernel
theorem d_Model_wantsDelete_221 : decode prog_13_method_38_code 221 = .ok (.istore 7, 2) := by decide +kernel
theorem d_Model_wantsDelete_223 : decode prog_13_method_38_code 223 = .ok (.iload 7, 2) := by decide +kernel
theorem d_Model_wantsDelete_225 : decode prog_13_method_38_code 225 = .ok (.sipush 384, 3) := by decide +kernel
theorem d_Model_wantsDelete_228 : decode prog_13_method_38_code 228 = .ok (.if_icmp .ge 187, 3) := by decide +kernel
theorem d_Model_wantsDelete_231 : decode prog_13_method_38_code 231 = .ok (.iload 7, 2) := by decide +kernel
theorem d_Model_wantsDelete_233 : decode prog_13_method_38_code 233 = .ok (.bipush 64, 2) := by decide +kernel
theorem d_Model_wantsDelete_235 : decode prog_13_method_38_code 235 = .ok (.irem, 1) := by decide +kernel
theorem d_Model_wantsDelete_236 : decode prog_13_method_38_code 236 = .ok (.aload_n 0, 1) := by decide +kernel
theorem d_Model_wantsDelete_237 : decode prog_13_method_38_code 237 = .ok (.getfield 46, 3) := by decide +kernel
theorem d_Model_wantsDelete_240 : decode prog_13_method_38_code 240 = .ok (.bipush 6, 2) := by decide +kernel
theorem d_Model_wantsDelete_242 : decode prog_13_method_38_code 242 = .ok (.iload_n 3, 1) := by decide +kernel
theorem d_Model_wantsDelete_243 : decode prog_13_method_38_code 243 = .ok (.imul, 1) := by decide +kernel
theorem d_Model_wantsDelete_244 : decode prog_13_method_38_code 244 = .ok (.iload 7, 2) := by decide +kernel
theorem d_Model_wantsDelete_246 : decode prog_13_method_38_code 246 = .ok (.bipush 64, 2) := by decide +kernel
theorem d_Model_wantsDelete_248 : decode prog_13_method_38_code 248 = .ok (.idiv, 1) := by decide +kernel
theorem d_Model_wantsDelete_249 : decode prog_13_method_38_code 249 = .ok (.iadd, 1) := by decide +kernel
theorem d_Model_wantsDelete_250 : decode prog_13_method_38_code 250 = .ok (.iaload, 1) := by decide +kernel
theorem d_Model_wantsDelete_251 : decode prog_13_method_38_code 251 = .ok (.if_icmp .ge 7, 3) := by decide +kernel
theorem d_Model_wantsDelete_254 : decode prog_13_method_38_code 254 = .ok (.iconst 1, 1) := by decide +kernel
theorem d_Model_wantsDelete_255 : decode prog_13_method_38_code 255 = .ok (.goto 4, 3) := by decide +kernel
theorem d_Model_wantsDelete_258 : decode prog_13_method_38_code 258 = .ok (.iconst 0, 1) := by decide +kernel
theorem d_Model_wantsDelete_259 : decode prog_13_method_38_code 259 = .ok (.istore 8, 2) := by decide +kernel
theorem d_Model_wantsDelete_261 : decode prog_13_method_38_code 261 = .ok (.iload 8, 2) := by decide +kernel
theorem d_Model_wantsDelete_263 : decode prog_13_method_38_code 263 = .ok (.ifCond .eq 67, 3) := by decide +kernel
theorem d_Model_wantsDelete_266 : decode prog_13_method_38_code 266 = .ok (.aload_n 0, 1) := by decide +kernel
theorem d_Model_wantsDelete_267 : decode prog_13_method_38_code 267 = .ok (.getfield 114, 3) := by decide +kernel
theorem d_Model_wantsDelete_270 : decode prog_13_method_38_code 270 = .ok (.iload 7, 2) := by decide +kernel
theorem d_Model_wantsDelete_272 : decode prog_13_method_38_code 272 = .ok (.baload, 1) := by decide +kernel
theorem d_Model_wantsDelete_273 : decode prog_13_method_38_code 273 = .ok (.ifCond .ne 57, 3) := by decide +kernel
theorem d_Model_wantsDelete_276 : decode prog_13_method_38_code 276 = .ok (.iload 6, 2) := by decide +kernel
theorem d_Model_wantsDelete_278 : decode prog_13_method_38_code 278 = .ok (.ifCond .eq 26, 3) := by decide +kernel
theorem d_Model_wantsDelete_281 : decode prog_13_method_38_code 281 = .ok (.aload_n 0, 1) := by decide +kernel
theorem d_Model_wantsDelete_282 : decode prog_13_method_38_code 282 = .ok (.iload_n 3, 1) := by decide +kernel
theorem d_Model_wantsDelete_283 : decode prog_13_method_38_code 283 = .ok (.iload 7, 2) := by decide +kernel
theorem d_Model_wantsDelete_285 : decode prog_13_method_38_code 285 = .ok (.bipush 64, 2) := by decide +kernel
theorem d_Model_wantsDelete_287 : decode prog_13_method_38_code 287 = .ok (.idiv, 1) := by decide +kernel
theorem d_Model_wantsDelete_288 : decode prog_13_method_38_code 288 = .ok (.iload 7, 2) := by decide +kernel
theorem d_Model_wantsDelete_290 : decode prog_13_method_38_code 290 = .ok (.bipush 64, 2) := by decide +kernel
theorem d_Model_wantsDelete_292 : decode prog_13_method_38_code 292 = .ok (.irem, 1) := by decide +kernel
theorem d_Model_wantsDelete_293 : decode prog_13_method_38_code 293 = .ok (.iconst 0, 1) := by decide +kernel
theorem d_Model_wantsDelete_294 : decode prog_13_method_38_code 294 = .ok (.invokevirtual 331, 3) := by decide +kernel
theorem d_Model_wantsDelete_297 : decode prog_13_method_38_code 297 = .ok (.ifCond .ne 7, 3) := by decide +kernel
theorem d_Model_wantsDelete_300 : decode prog_13_method_38_code 300 = .ok (.iconst 1, 1) := by decide +kernel
theorem d_Model_wantsDelete_301 : decode prog_13_method_38_code 301 = .ok (.goto 4, 3) := by decide +kernel
theorem d_Model_wantsDelete_304 : decode prog_13_method_38_code 304 = .ok (.iconst 0, 1) := by decide +kernel
theorem d_Model_wantsDelete_305 : decode prog_13_method_38_code 305 = .ok (.istore 6, 2) := by decide +kernel
theorem d_Model_wantsDelete_307 : decode prog_13_method_38_code 307 = .ok (.aload_n 0, 1) := by decide +kernel
theorem d_Model_wantsDelete_308 : decode prog_13_method_38_code 308 = .ok (.getfield 117, 3) := by decide +kernel
theorem d_Model_wantsDelete_311 : decode prog_13_method_38_code 311 = .ok (.iload 7, 2) := by decide +kernel
theorem d_Model_wantsDelete_313 : decode prog_13_method_38_code 313 = .ok (.aload_n 0, 1) := by decide +kernel
theorem d_Model_wantsDelete_314 : decode prog_13_method_38_code 314 = .ok (.iload_n 3, 1) := by decide +kernel
theorem d_Model_wantsDelete_315 : decode prog_13_method_38_code 315 = .ok (.iload 7, 2) := by decide +kernel
theorem d_Model_wantsDelete_317 : decode prog_13_method_38_code 317 = .ok (.bipush 64, 2) := by decide +kernel
theorem d_Model_wantsDelete_319 : decode prog_13_method_38_code 319 = .ok (.idiv, 1) := by decide +kernel
theorem d_Model_wantsDelete_320 : decode prog_13_method_38_code 320 = .ok (.iload 7, 2) := by decide +kernel
theorem d_Model_wantsDelete_322 : decode prog_13_method_38_code 322 = .ok (.bipush 64, 2) := by decide +kernel
theorem d_Model_wantsDelete_324 : decode prog_13_method_38_code 324 = .ok (.irem, 1) := by decide +kernel
theorem d_Model_wantsDelete_325 : decode prog_13_method_38_code 325 = .ok (.iconst 2, 1) := by decide +kernel
theorem d_Model_wantsDelete_326 : decode prog_13_method_38_code 326 = .ok (.invokevirtual 331, 3) := by decide +kernel
theorem d_Model_wantsDelete_329 : decode prog_13_method_38_code 329 = .ok (.bastore, 1) := by decide +kernel
theorem d_Model_wantsDelete_330 : decode prog_13_method_38_code 330 = .ok (.iload 8, 2) := by decide +kernel
theorem d_Model_wantsDelete_332 : decode prog_13_method_38_code 332 = .ok (.ifCond .eq 23, 3) := by decide +kernel
theorem d_Model_wantsDelete_335 : decode prog_13_method_38_code 335 = .ok (.aload_n 0, 1) := by decide +kernel
theorem d_Model_wantsDelete_336 : decode prog_13_method_38_code 336 = .ok (.getfield 114, 3) := by decide +kernel
theorem d_Model_wantsDelete_339 : decode prog_13_method_38_code 339 = .ok (.iload 7, 2) := by decide +kernel
theorem d_Model_wantsDelete_341 : decode prog_13_method_38_code 341 = .ok (.baload, 1) := by decide +kernel
theorem d_Model_wantsDelete_342 : decode prog_13_method_38_code 342 = .ok (.ifCond .eq 13, 3) := by decide +kernel
theorem d_Model_wantsDelete_345 : decode prog_13_method_38_code 345 = .ok (.aload_n 0, 1) := by decide +kernel
theorem d_Model_wantsDelete_346 : decode prog_13_method_38_code 346 = .ok (.iload_n 1, 1) := by decide +kernel
theorem d_Model_wantsDelete_347 : decode prog_13_method_38_code 347 = .ok (.iload 7, 2) := by decide +kernel
theorem d_Model_wantsDelete_349 : decode prog_13_method_38_code 349 = .ok (.bipush 64, 2) := by decide +kernel
theorem d_Model_wantsDelete_351 : decode prog_13_method_38_code 351 = .ok (.idiv, 1) := by decide +kernel
theorem d_Model_wantsDelete_352 : decode prog_13_method_38_code 352 = .ok (.invokevirtual 334, 3) := by decide +kernel
theorem d_Model_wantsDelete_355 : decode prog_13_method_38_code 355 = .ok (.iload 8, 2) := by decide +kernel
theorem d_Model_wantsDelete_357 : decode prog_13_method_38_code 357 = .ok (.ifCond .eq 52, 3) := by decide +kernel
theorem d_Model_wantsDelete_360 : decode prog_13_method_38_code 360 = .ok (.aload_n 0, 1) := by decide +kernel
theorem d_Model_wantsDelete_361 : decode prog_13_method_38_code 361 = .ok (.getfield 114, 3) := by decide +kernel
theorem d_Model_wantsDelete_364 : decode prog_13_method_38_code 364 = .ok (.iload 7, 2) := by decide +kernel
theorem d_Model_wantsDelete_366 : decode prog_13_method_38_code 366 = .ok (.baload, 1) := by decide +kernel
theorem d_Model_wantsDelete_367 : decode prog_13_method_38_code 367 = .ok (.ifCond .ne 13, 3) := by decide +kernel
theorem d_Model_wantsDelete_370 : decode prog_13_method_38_code 370 = .ok (.aload_n 0, 1) := by decide +kernel
theorem d_Model_wantsDelete_371 : decode prog_13_method_38_code 371 = .ok (.getfield 117, 3) := by decide +kernel
theorem d_Model_wantsDelete_374 : decode prog_13_method_38_code 374 = .ok (.iload 7, 2) := by decide +kernel
theorem d_Model_wantsDelete_376 : decode prog_13_method_38_code 376 = .ok (.baload, 1) := by decide +kernel
theorem d_Model_wantsDelete_377 : decode prog_13_method_38_code 377 = .ok (.ifCond .eq 32, 3) := by decide +kernel
theorem d_Model_wantsDelete_380 : decode prog_13_method_38_code 380 = .ok (.aload_n 0, 1) := by decide +kernel
theorem d_Model_wantsDelete_381 : decode prog_13_method_38_code 381 = .ok (.iload 7, 2) := by decide +kernel
theorem d_Model_wantsDelete_383 : decode prog_13_method_38_code 383 = .ok (.bipush 64, 2) := by decide +kernel
theorem d_Model_wantsDelete_385 : decode prog_13_method_38_code 385 = .ok (.idiv, 1) := by decide +kernel
theorem d_Model_wantsDelete_386 : decode prog_13_method_38_code 386 = .ok (.aload_n 0, 1) := by decide +kernel
theorem d_Model_wantsDelete_387 : decode prog_13_method_38_code 387 = .ok (.getfield 49, 3) := by decide +kernel
theorem d_Model_wantsDelete_390 : decode prog_13_method_38_code 390 = .ok (.iload_n 3, 1) := by decide +kernel
theorem d_Model_wantsDelete_391 : decode prog_13_method_38_code 391 = .ok (.iload 7, 2) := by decide +kernel
theorem d_Model_wantsDelete_393 : decode prog_13_method_38_code 393 = .ok (.bipush 64, 2) := by decide +kernel
theorem d_Model_wantsDelete_395 : decode prog_13_method_38_code 395 = .ok (.idiv, 1) := by decide +kernel
theorem d_Model_wantsDelete_396 : decode prog_13_method_38_code 396 = .ok (.iload 7, 2) := by decide +kernel
theorem d_Model_wantsDelete_398 : decode prog_13_method_38_code 398 = .ok (.bipush 64, 2) := by decide +kernel
theorem d_Model_wantsDelete_400 : decode prog_13_method_38_code 400 = .ok (.irem, 1) := by decide +kernel
theorem d_Model_wantsDelete_401 : decode prog_13_method_38_code 401 = .ok (.iconst 0, 1) := by decide +kernel
theorem d_Model_wantsDelete_402 : decode prog_13_method_38_code 402 = .ok (.invokestatic 273, 3) := by decide +kernel
theorem d_Model_wantsDelete_405 : decode prog_13_method_38_code 405 = .ok (.iaload, 1) := by decide +kernel
theorem d_Model_wantsDelete_406 : decode prog_13_method_38_code 406 = .ok (.invokevirtual 322, 3) := by decide +kernel
theorem d_Model_wantsDelete_409 : decode prog_13_method_38_code 409 = .ok (.iinc 7 1, 3) := by decide +kernel
theorem d_Model_wantsDelete_412 : decode prog_13_method_38_code 412 = .ok (.goto (-189), 3) := by decide +kernel
theorem d_Model_wantsDelete_415 : decode prog_13_method_38_code 415 = .ok (.aload_n 0, 1) := by decide +kernel
theorem d_Model_wantsDelete_416 : decode prog_13_method_38_code 416 = .ok (.invokevirtual 337, 3) := by decide +kernel
theorem d_Model_wantsDelete_419 : decode prog_13_method_38_code 419 = .ok (.iload 6, 2) := by decide +kernel
theorem d_Model_wantsDelete_421 : decode prog_13_method_38_code 421 = .ok (.ireturn, 1) := by decide +kernel
theorem d_Model_refers_0 : decode prog_13_method_36_code 0 = .ok (.iconst 0, 1) := by decide +kernel
theorem d_Model_refers_1 : decode prog_13_method_36_code 1 = .ok (.istore 5, 2) := by decide +kernel
theorem d_Model_refers_3 : decode prog_13_method_36_code 3 = .ok (.iconst 1, 1) := by decide +kernel
theorem d_Model_refers_4 : decode prog_13_method_36_code 4 = .ok (.istore 6, 2) := by decide +kernel
theorem d_Model_refers_6 : decode prog_13_method_36_code 6 = .ok (.iload 6, 2) := by decide +kernel
theorem d_Model_refers_8 : decode prog_13_method_36_code 8 = .ok (.aload_n 0, 1) := by decide +kernel
theorem d_Model_refers_9 : decode prog_13_method_36_code 9 = .ok (.getfield 7, 3) := by decide +kernel
theorem d_Model_refers_12 : decode prog_13_method_36_code 12 = .ok (.iload_n 2, 1) := by decide +kernel
theorem d_Model_refers_13 : decode prog_13_method_36_code 13 = .ok (.iaload, 1) := by decide +kernel
theorem d_Model_refers_14 : decode prog_13_method_36_code 14 = .ok (.if_icmp .ge 49, 3) := by decide +kernel
theorem d_Model_refers_17 : decode prog_13_method_36_code 17 = .ok (.iload 5, 2) := by decide +kernel
theorem d_Model_refers_19 : decode prog_13_method_36_code 19 = .ok (.ifCond .ne 31, 3) := by decide +kernel
theorem d_Model_refers_22 : decode prog_13_method_36_code 22 = .ok (.aload_n 0, 1) := by decide +kernel
theorem d_Model_refers_23 : decode prog_13_method_36_code 23 = .ok (.iload_n 1, 1) := by decide +kernel
theorem d_Model_refers_24 : decode prog_13_method_36_code 24 = .ok (.iload_n 2, 1) := by decide +kernel
theorem d_Model_refers_25 : decode prog_13_method_36_code 25 = .ok (.iload_n 3, 1) := by decide +kernel
theorem d_Model_refers_26 : decode prog_13_method_36_code 26 = .ok (.iload 6, 2) := by decide +kernel
theorem d_Model_refers_28 : decode prog_13_method_36_code 28 = .ok (.invokevirtual 328, 3) := by decide +kernel
theorem d_Model_refers_31 : decode prog_13_method_36_code 31 = .ok (.ifCond .eq 23, 3) := by decide +kernel
theorem d_Model_refers_34 : decode prog_13_method_36_code 34 = .ok (.aload_n 0, 1) := by decide +kernel
theorem d_Model_refers_35 : decode prog_13_method_36_code 35 = .ok (.getfield 28, 3) := by decide +kernel
theorem d_Model_refers_38 : decode prog_13_method_36_code 38 = .ok (.iconst 4, 1) := by decide +kernel
theorem d_Model_refers_39 : decode prog_13_method_36_code 39 = .ok (.iload_n 2, 1) := by decide +kernel
theorem d_Model_refers_40 : decode prog_13_method_36_code 40 = .ok (.imul, 1) := by decide +kernel
theorem d_Model_refers_41 : decode prog_13_method_36_code 41 = .ok (.iload 6, 2) := by decide +kernel
theorem d_Model_refers_43 : decode prog_13_method_36_code 43 = .ok (.iadd, 1) := by decide +kernel
theorem d_Model_refers_44 : decode prog_13_method_36_code 44 = .ok (.iaload, 1) := by decide +kernel
theorem d_Model_refers_45 : decode prog_13_method_36_code 45 = .ok (.iload 4, 2) := by decide +kernel
theorem d_Model_refers_47 : decode prog_13_method_36_code 47 = .ok (.if_icmp .ne 7, 3) := by decide +kernel
theorem d_Model_refers_50 : decode prog_13_method_36_code 50 = .ok (.iconst 1, 1) := by decide +kernel
theorem d_Model_refers_51 : decode prog_13_method_36_code 51 = .ok (.goto 4, 3) := by decide +kernel
theorem d_Model_refers_54 : decode prog_13_method_36_code 54 = .ok (.iconst 0, 1) := by decide +kernel
theorem d_Model_refers_55 : decode prog_13_method_36_code 55 = .ok (.istore 5, 2) := by decide +kernel
theorem d_Model_refers_57 : decode prog_13_method_36_code 57 = .ok (.iinc 6 1, 3) := by decide +kernel
theorem d_Model_refers_60 : decode prog_13_method_36_code 60 = .ok (.goto (-54), 3) := by decide +kernel
theorem d_Model_refers_63 : decode prog_13_method_36_code 63 = .ok (.iload 5, 2) := by decide +kernel
theorem d_Model_refers_65 : decode prog_13_method_36_code 65 = .ok (.ireturn, 1) := by decide +kernel
theorem d_Model_isBroken_0 : decode prog_13_method_37_code 0 = .ok (.aload_n 0, 1) := by decide +kernel
theorem d_Model_isBroken_1 : decode prog_13_method_37_code 1 = .ok (.getfield 25, 3) := by decide +kernel
theorem d_Model_isBroken_4 : decode prog_13_method_37_code 4 = .ok (.iconst 4, 1) := by decide +kernel
theorem d_Model_isBroken_5 : decode prog_13_method_37_code 5 = .ok (.iload_n 2, 1) := by decide +kernel
theorem d_Model_isBroken_6 : decode prog_13_method_37_code 6 = .ok (.imul, 1) := by decide +kernel
theorem d_Model_isBroken_7 : decode prog_13_method_37_code 7 = .ok (.iload 4, 2) := by decide +kernel
theorem d_Model_isBroken_9 : decode prog_13_method_37_code 9 = .ok (.iadd, 1) := by decide +kernel
theorem d_Model_isBroken_10 : decode prog_13_method_37_code 10 = .ok (.iaload, 1) := by decide +kernel
theorem d_Model_isBroken_11 : decode prog_13_method_37_code 11 = .ok (.istore 5, 2) := by decide +kernel
theorem d_Model_isBroken_13 : decode prog_13_method_37_code 13 = .ok (.aload_n 0, 1) := by decide +kernel
theorem d_Model_isBroken_14 : decode prog_13_method_37_code 14 = .ok (.getfield 49, 3) := by decide +kernel
theorem d_Model_isBroken_17 : decode prog_13_method_37_code 17 = .ok (.iload_n 1, 1) := by decide +kernel
theorem d_Model_isBroken_18 : decode prog_13_method_37_code 18 = .ok (.iload_n 2, 1) := by decide +kernel
theorem d_Model_isBroken_19 : decode prog_13_method_37_code 19 = .ok (.iload_n 3, 1) := by decide +kernel
theorem d_Model_isBroken_20 : decode prog_13_method_37_code 20 = .ok (.iload 4, 2) := by decide +kernel
theorem d_Model_isBroken_22 : decode prog_13_method_37_code 22 = .ok (.invokestatic 273, 3) := by decide +kernel
theorem d_Model_isBroken_25 : decode prog_13_method_37_code 25 = .ok (.iaload, 1) := by decide +kernel
theorem d_Model_isBroken_26 : decode prog_13_method_37_code 26 = .ok (.istore 6, 2) := by decide +kernel
theorem d_Model_isBroken_28 : decode prog_13_method_37_code 28 = .ok (.iload 5, 2) := by decide +kernel
theorem d_Model_isBroken_30 : decode prog_13_method_37_code 30 = .ok (.iconst (-1), 1) := by decide +kernel
theorem d_Model_isBroken_31 : decode prog_13_method_37_code 31 = .ok (.if_icmp .eq 10, 3) := by decide +kernel
theorem d_Model_isBroken_34 : decode prog_13_method_37_code 34 = .ok (.iload 6, 2) := by decide +kernel
theorem d_Model_isBroken_36 : decode prog_13_method_37_code 36 = .ok (.ldc 246, 2) := by decide +kernel
theorem d_Model_isBroken_38 : decode prog_13_method_37_code 38 = .ok (.if_icmp .ne 7, 3) := by decide +kernel
theorem d_Model_isBroken_41 : decode prog_13_method_37_code 41 = .ok (.iconst (-1), 1) := by decide +kernel
theorem d_Model_isBroken_42 : decode prog_13_method_37_code 42 = .ok (.goto 12, 3) := by decide +kernel
theorem d_Model_isBroken_45 : decode prog_13_method_37_code 45 = .ok (.aload_n 0, 1) := by decide +kernel
theorem d_Model_isBroken_46 : decode prog_13_method_37_code 46 = .ok (.iload_n 1, 1) := by decide +kernel
theorem d_Model_isBroken_47 : decode prog_13_method_37_code 47 = .ok (.iload 5, 2) := by decide +kernel
theorem d_Model_isBroken_49 : decode prog_13_method_37_code 49 = .ok (.iload 6, 2) := by decide +kernel
theorem d_Model_isBroken_51 : decode prog_13_method_37_code 51 = .ok (.invokevirtual 305, 3) := by decide +kernel
theorem d_Model_isBroken_54 : decode prog_13_method_37_code 54 = .ok (.istore 7, 2) := by decide +kernel
theorem d_Model_isBroken_56 : decode prog_13_method_37_code 56 = .ok (.iload 7, 2) := by decide +kernel
theorem d_Model_isBroken_58 : decode prog_13_method_37_code 58 = .ok (.iconst (-1), 1) := by decide +kernel
theorem d_Model_isBroken_59 : decode prog_13_method_37_code 59 = .ok (.if_icmp .eq 23, 3) := by decide +kernel
theorem d_Model_isBroken_62 : decode prog_13_method_37_code 62 = .ok (.aload_n 0, 1) := by decide +kernel
theorem d_Model_isBroken_63 : decode prog_13_method_37_code 63 = .ok (.getfield 114, 3) := by decide +kernel
theorem d_Model_isBroken_66 : decode prog_13_method_37_code 66 = .ok (.bipush 64, 2) := by decide +kernel
theorem d_Model_isBroken_68 : decode prog_13_method_37_code 68 = .ok (.iload 5, 2) := by decide +kernel
theorem d_Model_isBroken_70 : decode prog_13_method_37_code 70 = .ok (.imul, 1) := by decide +kernel
theorem d_Model_isBroken_71 : decode prog_13_method_37_code 71 = .ok (.iload 7, 2) := by decide +kernel
theorem d_Model_isBroken_73 : decode prog_13_method_37_code 73 = .ok (.iadd, 1) := by decide +kernel
theorem d_Model_isBroken_74 : decode prog_13_method_37_code 74 = .ok (.baload, 1) := by decide +kernel
theorem d_Model_isBroken_75 : decode prog_13_method_37_code 75 = .ok (.ifCond .eq 7, 3) := by decide +kernel
theorem d_Model_isBroken_78 : decode prog_13_method_37_code 78 = .ok (.iconst 1, 1) := by decide +kernel
theorem d_Model_isBroken_79 : decode prog_13_method_37_code 79 = .ok (.goto 4, 3) := by decide +kernel
theorem d_Model_isBroken_82 : decode prog_13_method_37_code 82 = .ok (.iconst 0, 1) := by decide +kernel
theorem d_Model_isBroken_83 : decode prog_13_method_37_code 83 = .ok (.ireturn, 1) := by decide +kernel
theorem d_Model_readsReferrers_0 : decode prog_13_method_39_code 0 = .ok (.iconst 0, 1) := by decide +kernel
theorem d_Model_readsReferrers_1 : decode prog_13_method_39_code 1 = .ok (.istore_n 3, 1) := by decide +kernel
theorem d_Model_readsReferrers_2 : decode prog_13_method_39_code 2 = .ok (.iload_n 3, 1) := by decide +kernel
theorem d_Model_readsReferrers_3 : decode prog_13_method_39_code 3 = .ok (.bipush 24, 2) := by decide +kernel
theorem d_Model_readsReferrers_5 : decode prog_13_method_39_code 5 = .ok (.if_icmp .ge 33, 3) := by decide +kernel
theorem d_Model_readsReferrers_8 : decode prog_13_method_39_code 8 = .ok (.aload_n 0, 1) := by decide +kernel
theorem d_Model_readsReferrers_9 : decode prog_13_method_39_code 9 = .ok (.getfield 25, 3) := by decide +kernel
theorem d_Model_readsReferrers_12 : decode prog_13_method_39_code 12 = .ok (.iload_n 3, 1) := by decide +kernel
theorem d_Model_readsReferrers_13 : decode prog_13_method_39_code 13 = .ok (.iaload, 1) := by decide +kernel
theorem d_Model_readsReferrers_14 : decode prog_13_method_39_code 14 = .ok (.iload_n 2, 1) := by decide +kernel
theorem d_Model_readsReferrers_15 : decode prog_13_method_39_code 15 = .ok (.if_icmp .ne 17, 3) := by decide +kernel
theorem d_Model_readsReferrers_18 : decode prog_13_method_39_code 18 = .ok (.aload_n 0, 1) := by decide +kernel
theorem d_Model_readsReferrers_19 : decode prog_13_method_39_code 19 = .ok (.getfield 108, 3) := by decide +kernel
theorem d_Model_readsReferrers_22 : decode prog_13_method_39_code 22 = .ok (.bipush 6, 2) := by decide +kernel
theorem d_Model_readsReferrers_24 : decode prog_13_method_39_code 24 = .ok (.iload_n 1, 1) := by decide +kernel
theorem d_Model_readsReferrers_25 : decode prog_13_method_39_code 25 = .ok (.imul, 1) := by decide +kernel
theorem d_Model_readsReferrers_26 : decode prog_13_method_39_code 26 = .ok (.iload_n 3, 1) := by decide +kernel
theorem d_Model_readsReferrers_27 : decode prog_13_method_39_code 27 = .ok (.iconst 4, 1) := by decide +kernel
theorem d_Model_readsReferrers_28 : decode prog_13_method_39_code 28 = .ok (.idiv, 1) := by decide +kernel
theorem d_Model_readsReferrers_29 : decode prog_13_method_39_code 29 = .ok (.iadd, 1) := by decide +kernel
theorem d_Model_readsReferrers_30 : decode prog_13_method_39_code 30 = .ok (.iconst 1, 1) := by decide +kernel
theorem d_Model_readsReferrers_31 : decode prog_13_method_39_code 31 = .ok (.bastore, 1) := by decide +kernel
theorem d_Model_readsReferrers_32 : decode prog_13_method_39_code 32 = .ok (.iinc 3 1, 3) := by decide +kernel
theorem d_Model_readsReferrers_35 : decode prog_13_method_39_code 35 = .ok (.goto (-33), 3) := by decide +kernel
theorem d_Model_readsReferrers_38 : decode prog_13_method_39_code 38 = .ok (.return_, 1) := by decide +kernel
theorem d_Model_sortsWrites_0 : decode prog_13_method_40_code 0 = .ok (.iconst 1, 1) := by decide +kernel
theorem d_Model_sortsWrites_1 : decode prog_13_method_40_code 1 = .ok (.istore_n 1, 1) := by decide +kernel
theorem d_Model_sortsWrites_2 : decode prog_13_method_40_code 2 = .ok (.iload_n 1, 1) := by decide +kernel
theorem d_Model_sortsWrites_3 : decode prog_13_method_40_code 3 = .ok (.aload_n 0, 1) := by decide +kernel
theorem d_Model_sortsWrites_4 : decode prog_13_method_40_code 4 = .ok (.getfield 312, 3) := by decide +kernel
theorem d_Model_sortsWrites_7 : decode prog_13_method_40_code 7 = .ok (.if_icmp .ge 124, 3) := by decide +kernel
theorem d_Model_sortsWrites_10 : decode prog_13_method_40_code 10 = .ok (.aload_n 0, 1) := by decide +kernel
theorem d_Model_sortsWrites_11 : decode prog_13_method_40_code 11 = .ok (.getfield 120, 3) := by decide +kernel
theorem d_Model_sortsWrites_14 : decode prog_13_method_40_code 14 = .ok (.iload_n 1, 1) := by decide +kernel
theorem d_Model_sortsWrites_15 : decode prog_13_method_40_code 15 = .ok (.iaload, 1) := by decide +kernel
theorem d_Model_sortsWrites_16 : decode prog_13_method_40_code 16 = .ok (.istore_n 2, 1) := by decide +kernel
theorem d_Model_sortsWrites_17 : decode prog_13_method_40_code 17 = .ok (.aload_n 0, 1) := by decide +kernel
theorem d_Model_sortsWrites_18 : decode prog_13_method_40_code 18 = .ok (.getfield 123, 3) := by decide +kernel
theorem d_Model_sortsWrites_21 : decode prog_13_method_40_code 21 = .ok (.iload_n 1, 1) := by decide +kernel
theorem d_Model_sortsWrites_22 : decode prog_13_method_40_code 22 = .ok (.iaload, 1) := by decide +kernel
theorem d_Model_sortsWrites_23 : decode prog_13_method_40_code 23 = .ok (.istore_n 3, 1) := by decide +kernel
theorem d_Model_sortsWrites_24 : decode prog_13_method_40_code 24 = .ok (.iload_n 1, 1) := by decide +kernel
theorem d_Model_sortsWrites_25 : decode prog_13_method_40_code 25 = .ok (.istore 4, 2) := by decide +kernel
theorem d_Model_sortsWrites_27 : decode prog_13_method_40_code 27 = .ok (.iload 4, 2) := by decide +kernel
theorem d_Model_sortsWrites_29 : decode prog_13_method_40_code 29 = .ok (.ifCond .le 80, 3) := by decide +kernel
theorem d_Model_sortsWrites_32 : decode prog_13_method_40_code 32 = .ok (.aload_n 0, 1) := by decide +kernel
theorem d_Model_sortsWrites_33 : decode prog_13_method_40_code 33 = .ok (.getfield 120, 3) := by decide +kernel
theorem d_Model_sortsWrites_36 : decode prog_13_method_40_code 36 = .ok (.iload 4, 2) := by decide +kernel
theorem d_Model_sortsWrites_38 : decode prog_13_method_40_code 38 = .ok (.iconst 1, 1) := by decide +kernel
theorem d_Model_sortsWrites_39 : decode prog_13_method_40_code 39 = .ok (.isub, 1) := by decide +kernel
theorem d_Model_sortsWrites_40 : decode prog_13_method_40_code 40 = .ok (.iaload, 1) := by decide +kernel
theorem d_Model_sortsWrites_41 : decode prog_13_method_40_code 41 = .ok (.iload_n 2, 1) := by decide +kernel
theorem d_Model_sortsWrites_42 : decode prog_13_method_40_code 42 = .ok (.if_icmp .gt 29, 3) := by decide +kernel
theorem d_Model_sortsWrites_45 : decode prog_13_method_40_code 45 = .ok (.aload_n 0, 1) := by decide +kernel
theorem d_Model_sortsWrites_46 : decode prog_13_method_40_code 46 = .ok (.getfield 120, 3) := by decide +kernel
theorem d_Model_sortsWrites_49 : decode prog_13_method_40_code 49 = .ok (.iload 4, 2) := by decide +kernel
theorem d_Model_sortsWrites_51 : decode prog_13_method_40_code 51 = .ok (.iconst 1, 1) := by decide +kernel
theorem d_Model_sortsWrites_52 : decode prog_13_method_40_code 52 = .ok (.isub, 1) := by decide +kernel
theorem d_Model_sortsWrites_53 : decode prog_13_method_40_code 53 = .ok (.iaload, 1) := by decide +kernel
theorem d_Model_sortsWrites_54 : decode prog_13_method_40_code 54 = .ok (.iload_n 2, 1) := by decide +kernel
theorem d_Model_sortsWrites_55 : decode prog_13_method_40_code 55 = .ok (.if_icmp .ne 54, 3) := by decide +kernel
theorem d_Model_sortsWrites_58 : decode prog_13_method_40_code 58 = .ok (.aload_n 0, 1) := by decide +kernel
theorem d_Model_sortsWrites_59 : decode prog_13_method_40_code 59 = .ok (.getfield 123, 3) := by decide +kernel
theorem d_Model_sortsWrites_62 : decode prog_13_method_40_code 62 = .ok (.iload 4, 2) := by decide +kernel
theorem d_Model_sortsWrites_64 : decode prog_13_method_40_code 64 = .ok (.iconst 1, 1) := by decide +kernel
theorem d_Model_sortsWrites_65 : decode prog_13_method_40_code 65 = .ok (.isub, 1) := by decide +kernel
theorem d_Model_sortsWrites_66 : decode prog_13_method_40_code 66 = .ok (.iaload, 1) := by decide +kernel
theorem d_Model_sortsWrites_67 : decode prog_13_method_40_code 67 = .ok (.iload_n 3, 1) := by decide +kernel
theorem d_Model_sortsWrites_68 : decode prog_13_method_40_code 68 = .ok (.if_icmp .le 41, 3) := by decide +kernel
theorem d_Model_sortsWrites_71 : decode prog_13_method_40_code 71 = .ok (.aload_n 0, 1) := by decide +kernel
theorem d_Model_sortsWrites_72 : decode prog_13_method_40_code 72 = .ok (.getfield 120, 3) := by decide +kernel
theorem d_Model_sortsWrites_75 : decode prog_13_method_40_code 75 = .ok (.iload 4, 2) := by decide +kernel
theorem d_Model_sortsWrites_77 : decode prog_13_method_40_code 77 = .ok (.aload_n 0, 1) := by decide +kernel
theorem d_Model_sortsWrites_78 : decode prog_13_method_40_code 78 = .ok (.getfield 120, 3) := by decide +kernel
theorem d_Model_sortsWrites_81 : decode prog_13_method_40_code 81 = .ok (.iload 4, 2) := by decide +kernel
theorem d_Model_sortsWrites_83 : decode prog_13_method_40_code 83 = .ok (.iconst 1, 1) := by decide +kernel
theorem d_Model_sortsWrites_84 : decode prog_13_method_40_code 84 = .ok (.isub, 1) := by decide +kernel
theorem d_Model_sortsWrites_85 : decode prog_13_method_40_code 85 = .ok (.iaload, 1) := by decide +kernel
theorem d_Model_sortsWrites_86 : decode prog_13_method_40_code 86 = .ok (.iastore, 1) := by decide +kernel
theorem d_Model_sortsWrites_87 : decode prog_13_method_40_code 87 = .ok (.aload_n 0, 1) := by decide +kernel
theorem d_Model_sortsWrites_88 : decode prog_13_method_40_code 88 = .ok (.getfield 123, 3) := by decide +kernel
theorem d_Model_sortsWrites_91 : decode prog_13_method_40_code 91 = .ok (.iload 4, 2) := by decide +kernel
theorem d_Model_sortsWrites_93 : decode prog_13_method_40_code 93 = .ok (.aload_n 0, 1) := by decide +kernel
theorem d_Model_sortsWrites_94 : decode prog_13_method_40_code 94 = .ok (.getfield 123, 3) := by decide +kernel
theorem d_Model_sortsWrites_97 : decode prog_13_method_40_code 97 = .ok (.iload 4, 2) := by decide +kernel
theorem d_Model_sortsWrites_99 : decode prog_13_method_40_code 99 = .ok (.iconst 1, 1) := by decide +kernel
theorem d_Model_sortsWrites_100 : decode prog_13_method_40_code 100 = .ok (.isub, 1) := by decide +kernel
theorem d_Model_sortsWrites_101 : decode prog_13_method_40_code 101 = .ok (.iaload, 1) := by decide +kernel
theorem d_Model_sortsWrites_102 : decode prog_13_method_40_code 102 = .ok (.iastore, 1) := by decide +kernel
theorem d_Model_sortsWrites_103 : decode prog_13_method_40_code 103 = .ok (.iinc 4 (-1), 3) := by decide +kernel
theorem d_Model_sortsWrites_106 : decode prog_13_method_40_code 106 = .ok (.goto (-79), 3) := by decide +kernel
theorem d_Model_sortsWrites_109 : decode prog_13_method_40_code 109 = .ok (.aload_n 0, 1) := by decide +kernel
theorem d_Model_sortsWrites_110 : decode prog_13_method_40_code 110 = .ok (.getfield 120, 3) := by decide +kernel
theorem d_Model_sortsWrites_113 : decode prog_13_method_40_code 113 = .ok (.iload 4, 2) := by decide +kernel
theorem d_Model_sortsWrites_115 : decode prog_13_method_40_code 115 = .ok (.iload_n 2, 1) := by decide +kernel
theorem d_Model_sortsWrites_116 : decode prog_13_method_40_code 116 = .ok (.iastore, 1) := by decide +kernel
theorem d_Model_sortsWrites_117 : decode prog_13_method_40_code 117 = .ok (.aload_n 0, 1) := by decide +kernel
theorem d_Model_sortsWrites_118 : decode prog_13_method_40_code 118 = .ok (.getfield 123, 3) := by decide +kernel
theorem d_Model_sortsWrites_121 : decode prog_13_method_40_code 121 = .ok (.iload 4, 2) := by decide +kernel
theorem d_Model_sortsWrites_123 : decode prog_13_method_40_code 123 = .ok (.iload_n 3, 1) := by decide +kernel
theorem d_Model_sortsWrites_124 : decode prog_13_method_40_code 124 = .ok (.iastore, 1) := by decide +kernel
theorem d_Model_sortsWrites_125 : decode prog_13_method_40_code 125 = .ok (.iinc 1 1, 3) := by decide +kernel
theorem d_Model_sortsWrites_128 : decode prog_13_method_40_code 128 = .ok (.goto (-126), 3) := by decide +kernel
theorem d_Model_sortsWrites_131 : decode prog_13_method_40_code 131 = .ok (.return_, 1) := by decide +kernel
theorem d_Model_writer_0 : decode prog_13_method_41_code 0 = .ok (.iconst (-1), 1) := by decide +kernel
theorem d_Model_writer_1 : decode prog_13_method_41_code 1 = .ok (.istore 4, 2) := by decide +kernel
theorem d_Model_writer_3 : decode prog_13_method_41_code 3 = .ok (.iconst 0, 1) := by decide +kernel
theorem d_Model_writer_4 : decode prog_13_method_41_code 4 = .ok (.istore 5, 2) := by decide +kernel
theorem d_Model_writer_6 : decode prog_13_method_41_code 6 = .ok (.iload 5, 2) := by decide +kernel
theorem d_Model_writer_8 : decode prog_13_method_41_code 8 = .ok (.aload_n 0, 1) := by decide +kernel
theorem d_Model_writer_9 : decode prog_13_method_41_code 9 = .ok (.getfield 294, 3) := by decide +kernel
theorem d_Model_writer_12 : decode prog_13_method_41_code 12 = .ok (.if_icmp .ge 94, 3) := by decide +kernel
theorem d_Model_writer_15 : decode prog_13_method_41_code 15 = .ok (.aload_n 0, 1) := by decide +kernel
theorem d_Model_writer_16 : decode prog_13_method_41_code 16 = .ok (.getfield 126, 3) := by decide +kernel
theorem d_Model_writer_19 : decode prog_13_method_41_code 19 = .ok (.iload 5, 2) := by decide +kernel
theorem d_Model_writer_21 : decode prog_13_method_41_code 21 = .ok (.iaload, 1) := by decide +kernel
theorem d_Model_writer_22 : decode prog_13_method_41_code 22 = .ok (.ifCond .ne 56, 3) := by decide +kernel
theorem d_Model_writer_25 : decode prog_13_method_41_code 25 = .ok (.aload_n 0, 1) := by decide +kernel
theorem d_Model_writer_26 : decode prog_13_method_41_code 26 = .ok (.getfield 129, 3) := by decide +kernel
theorem d_Model_writer_29 : decode prog_13_method_41_code 29 = .ok (.iload 5, 2) := by decide +kernel
theorem d_Model_writer_31 : decode prog_13_method_41_code 31 = .ok (.iaload, 1) := by decide +kernel
theorem d_Model_writer_32 : decode prog_13_method_41_code 32 = .ok (.iload_n 1, 1) := by decide +kernel
theorem d_Model_writer_33 : decode prog_13_method_41_code 33 = .ok (.if_icmp .eq 45, 3) := by decide +kernel
theorem d_Model_writer_36 : decode prog_13_method_41_code 36 = .ok (.aload_n 0, 1) := by decide +kernel
theorem d_Model_writer_37 : decode prog_13_method_41_code 37 = .ok (.getfield 61, 3) := by decide +kernel
theorem d_Model_writer_40 : decode prog_13_method_41_code 40 = .ok (.aload_n 0, 1) := by decide +kernel
theorem d_Model_writer_41 : decode prog_13_method_41_code 41 = .ok (.getfield 129, 3) := by decide +kernel
theorem d_Model_writer_44 : decode prog_13_method_41_code 44 = .ok (.iload 5, 2) := by decide +kernel
theorem d_Model_writer_46 : decode prog_13_method_41_code 46 = .ok (.iaload, 1) := by decide +kernel
theorem d_Model_writer_47 : decode prog_13_method_41_code 47 = .ok (.iaload, 1) := by decide +kernel
theorem d_Model_writer_48 : decode prog_13_method_41_code 48 = .ok (.iconst 2, 1) := by decide +kernel
theorem d_Model_writer_49 : decode prog_13_method_41_code 49 = .ok (.if_icmp .ge 29, 3) := by decide +kernel
theorem d_Model_writer_52 : decode prog_13_method_41_code 52 = .ok (.aload_n 0, 1) := by decide +kernel
theorem d_Model_writer_53 : decode prog_13_method_41_code 53 = .ok (.getfield 132, 3) := by decide +kernel
theorem d_Model_writer_56 : decode prog_13_method_41_code 56 = .ok (.iload 5, 2) := by decide +kernel
theorem d_Model_writer_58 : decode prog_13_method_41_code 58 = .ok (.iaload, 1) := by decide +kernel
theorem d_Model_writer_59 : decode prog_13_method_41_code 59 = .ok (.iload_n 2, 1) := by decide +kernel
theorem d_Model_writer_60 : decode prog_13_method_41_code 60 = .ok (.if_icmp .ne 18, 3) := by decide +kernel
theorem d_Model_writer_63 : decode prog_13_method_41_code 63 = .ok (.aload_n 0, 1) := by decide +kernel
theorem d_Model_writer_64 : decode prog_13_method_41_code 64 = .ok (.getfield 135, 3) := by decide +kernel
theorem d_Model_writer_67 : decode prog_13_method_41_code 67 = .ok (.iload 5, 2) := by decide +kernel
theorem d_Model_writer_69 : decode prog_13_method_41_code 69 = .ok (.iaload, 1) := by decide +kernel
theorem d_Model_writer_70 : decode prog_13_method_41_code 70 = .ok (.iload_n 3, 1) := by decide +kernel
theorem d_Model_writer_71 : decode prog_13_method_41_code 71 = .ok (.if_icmp .ne 7, 3) := by decide +kernel
theorem d_Model_writer_74 : decode prog_13_method_41_code 74 = .ok (.iconst 1, 1) := by decide +kernel
theorem d_Model_writer_75 : decode prog_13_method_41_code 75 = .ok (.goto 4, 3) := by decide +kernel
theorem d_Model_writer_78 : decode prog_13_method_41_code 78 = .ok (.iconst 0, 1) := by decide +kernel
theorem d_Model_writer_79 : decode prog_13_method_41_code 79 = .ok (.istore 6, 2) := by decide +kernel
theorem d_Model_writer_81 : decode prog_13_method_41_code 81 = .ok (.iload 6, 2) := by decide +kernel
theorem d_Model_writer_83 : decode prog_13_method_41_code 83 = .ok (.ifCond .eq 13, 3) := by decide +kernel
theorem d_Model_writer_86 : decode prog_13_method_41_code 86 = .ok (.aload_n 0, 1) := by decide +kernel
theorem d_Model_writer_87 : decode prog_13_method_41_code 87 = .ok (.getfield 129, 3) := by decide +kernel
theorem d_Model_writer_90 : decode prog_13_method_41_code 90 = .ok (.iload 5, 2) := by decide +kernel
theorem d_Model_writer_92 : decode prog_13_method_41_code 92 = .ok (.iaload, 1) := by decide +kernel
theorem d_Model_writer_93 : decode prog_13_method_41_code 93 = .ok (.goto 5, 3) := by decide +kernel
theorem d_Model_writer_96 : decode prog_13_method_41_code 96 = .ok (.iload 4, 2) := by decide +kernel
theorem d_Model_writer_98 : decode prog_13_method_41_code 98 = .ok (.istore 4, 2) := by decide +kernel
theorem d_Model_writer_100 : decode prog_13_method_41_code 100 = .ok (.iinc 5 1, 3) := by decide +kernel
theorem d_Model_writer_103 : decode prog_13_method_41_code 103 = .ok (.goto (-97), 3) := by decide +kernel
theorem d_Model_writer_106 : decode prog_13_method_41_code 106 = .ok (.iload 4, 2) := by decide +kernel
theorem d_Model_writer_108 : decode prog_13_method_41_code 108 = .ok (.ireturn, 1) := by decide +kernel
theorem d_Model_aborts_0 : decode prog_13_method_30_code 0 = .ok (.iconst 0, 1) := by decide +kernel
theorem d_Model_aborts_1 : decode prog_13_method_30_code 1 = .ok (.istore_n 2, 1) := by decide +kernel
theorem d_Model_aborts_2 : decode prog_13_method_30_code 2 = .ok (.aload_n 0, 1) := by decide +kernel
theorem d_Model_aborts_3 : decode prog_13_method_30_code 3 = .ok (.getfield 294, 3) := by decide +kernel
theorem d_Model_aborts_6 : decode prog_13_method_30_code 6 = .ok (.iconst 1, 1) := by decide +kernel
theorem d_Model_aborts_7 : decode prog_13_method_30_code 7 = .ok (.isub, 1) := by decide +kernel
theorem d_Model_aborts_8 : decode prog_13_method_30_code 8 = .ok (.istore_n 3, 1) := by decide +kernel
theorem d_Model_aborts_9 : decode prog_13_method_30_code 9 = .ok (.iload_n 3, 1) := by decide +kernel
theorem d_Model_aborts_10 : decode prog_13_method_30_code 10 = .ok (.ifCond .lt 49, 3) := by decide +kernel
theorem d_Model_aborts_13 : decode prog_13_method_30_code 13 = .ok (.aload_n 0, 1) := by decide +kernel
theorem d_Model_aborts_14 : decode prog_13_method_30_code 14 = .ok (.getfield 126, 3) := by decide +kernel
theorem d_Model_aborts_17 : decode prog_13_method_30_code 17 = .ok (.iload_n 3, 1) := by decide +kernel
theorem d_Model_aborts_18 : decode prog_13_method_30_code 18 = .ok (.iaload, 1) := by decide +kernel
theorem d_Model_aborts_19 : decode prog_13_method_30_code 19 = .ok (.ifCond .ne 34, 3) := by decide +kernel
theorem d_Model_aborts_22 : decode prog_13_method_30_code 22 = .ok (.aload_n 0, 1) := by decide +kernel
theorem d_Model_aborts_23 : decode prog_13_method_30_code 23 = .ok (.getfield 129, 3) := by decide +kernel
theorem d_Model_aborts_26 : decode prog_13_method_30_code 26 = .ok (.iload_n 3, 1) := by decide +kernel
theorem d_Model_aborts_27 : decode prog_13_method_30_code 27 = .ok (.iaload, 1) := by decide +kernel
theorem d_Model_aborts_28 : decode prog_13_method_30_code 28 = .ok (.iload_n 1, 1) := by decide +kernel
theorem d_Model_aborts_29 : decode prog_13_method_30_code 29 = .ok (.if_icmp .ne 24, 3) := by decide +kernel
theorem d_Model_aborts_32 : decode prog_13_method_30_code 32 = .ok (.aload_n 0, 1) := by decide +kernel
theorem d_Model_aborts_33 : decode prog_13_method_30_code 33 = .ok (.iconst 2, 1) := by decide +kernel
theorem d_Model_aborts_34 : decode prog_13_method_30_code 34 = .ok (.iload_n 1, 1) := by decide +kernel
theorem d_Model_aborts_35 : decode prog_13_method_30_code 35 = .ok (.aload_n 0, 1) := by decide +kernel
theorem d_Model_aborts_36 : decode prog_13_method_30_code 36 = .ok (.getfield 132, 3) := by decide +kernel
theorem d_Model_aborts_39 : decode prog_13_method_30_code 39 = .ok (.iload_n 3, 1) := by decide +kernel
theorem d_Model_aborts_40 : decode prog_13_method_30_code 40 = .ok (.iaload, 1) := by decide +kernel
theorem d_Model_aborts_41 : decode prog_13_method_30_code 41 = .ok (.aload_n 0, 1) := by decide +kernel
theorem d_Model_aborts_42 : decode prog_13_method_30_code 42 = .ok (.getfield 135, 3) := by decide +kernel
theorem d_Model_aborts_45 : decode prog_13_method_30_code 45 = .ok (.iload_n 3, 1) := by decide +kernel
theorem d_Model_aborts_46 : decode prog_13_method_30_code 46 = .ok (.iaload, 1) := by decide +kernel
theorem d_Model_aborts_47 : decode prog_13_method_30_code 47 = .ok (.invokevirtual 297, 3) := by decide +kernel
theorem d_Model_aborts_50 : decode prog_13_method_30_code 50 = .ok (.iinc 2 1, 3) := by decide +kernel
theorem d_Model_aborts_53 : decode prog_13_method_30_code 53 = .ok (.iinc 3 (-1), 3) := by decide +kernel
theorem d_Model_aborts_56 : decode prog_13_method_30_code 56 = .ok (.goto (-47), 3) := by decide +kernel
theorem d_Model_aborts_59 : decode prog_13_method_30_code 59 = .ok (.aload_n 0, 1) := by decide +kernel
theorem d_Model_aborts_60 : decode prog_13_method_30_code 60 = .ok (.iconst 3, 1) := by decide +kernel
theorem d_Model_aborts_61 : decode prog_13_method_30_code 61 = .ok (.iload_n 1, 1) := by decide +kernel
theorem d_Model_aborts_62 : decode prog_13_method_30_code 62 = .ok (.ldc 246, 2) := by decide +kernel
theorem d_Model_aborts_64 : decode prog_13_method_30_code 64 = .ok (.ldc 246, 2) := by decide +kernel
theorem d_Model_aborts_66 : decode prog_13_method_30_code 66 = .ok (.invokevirtual 297, 3) := by decide +kernel
theorem d_Model_aborts_69 : decode prog_13_method_30_code 69 = .ok (.aload_n 0, 1) := by decide +kernel
theorem d_Model_aborts_70 : decode prog_13_method_30_code 70 = .ok (.iload_n 1, 1) := by decide +kernel
theorem d_Model_aborts_71 : decode prog_13_method_30_code 71 = .ok (.iconst 3, 1) := by decide +kernel
theorem d_Model_aborts_72 : decode prog_13_method_30_code 72 = .ok (.invokevirtual 301, 3) := by decide +kernel
theorem d_Model_aborts_75 : decode prog_13_method_30_code 75 = .ok (.iload_n 2, 1) := by decide +kernel
theorem d_Model_aborts_76 : decode prog_13_method_30_code 76 = .ok (.ireturn, 1) := by decide +kernel
theorem d_Model_notes_0 : decode prog_13_method_28_code 0 = .ok (.aload_n 0, 1) := by decide +kernel
theorem d_Model_notes_1 : decode prog_13_method_28_code 1 = .ok (.getfield 126, 3) := by decide +kernel
theorem d_Model_notes_4 : decode prog_13_method_28_code 4 = .ok (.aload_n 0, 1) := by decide +kernel
theorem d_Model_notes_5 : decode prog_13_method_28_code 5 = .ok (.getfield 294, 3) := by decide +kernel
theorem d_Model_notes_8 : decode prog_13_method_28_code 8 = .ok (.iload_n 1, 1) := by decide +kernel
theorem d_Model_notes_9 : decode prog_13_method_28_code 9 = .ok (.iastore, 1) := by decide +kernel
theorem d_Model_notes_10 : decode prog_13_method_28_code 10 = .ok (.aload_n 0, 1) := by decide +kernel
theorem d_Model_notes_11 : decode prog_13_method_28_code 11 = .ok (.getfield 129, 3) := by decide +kernel
theorem d_Model_notes_14 : decode prog_13_method_28_code 14 = .ok (.aload_n 0, 1) := by decide +kernel
theorem d_Model_notes_15 : decode prog_13_method_28_code 15 = .ok (.getfield 294, 3) := by decide +kernel
theorem d_Model_notes_18 : decode prog_13_method_28_code 18 = .ok (.iload_n 2, 1) := by decide +kernel
theorem d_Model_notes_19 : decode prog_13_method_28_code 19 = .ok (.iastore, 1) := by decide +kernel
theorem d_Model_notes_20 : decode prog_13_method_28_code 20 = .ok (.aload_n 0, 1) := by decide +kernel
theorem d_Model_notes_21 : decode prog_13_method_28_code 21 = .ok (.getfield 132, 3) := by decide +kernel
theorem d_Model_notes_24 : decode prog_13_method_28_code 24 = .ok (.aload_n 0, 1) := by decide +kernel
theorem d_Model_notes_25 : decode prog_13_method_28_code 25 = .ok (.getfield 294, 3) := by decide +kernel
theorem d_Model_notes_28 : decode prog_13_method_28_code 28 = .ok (.iload_n 3, 1) := by decide +kernel
theorem d_Model_notes_29 : decode prog_13_method_28_code 29 = .ok (.iastore, 1) := by decide +kernel
theorem d_Model_notes_30 : decode prog_13_method_28_code 30 = .ok (.aload_n 0, 1) := by decide +kernel
theorem d_Model_notes_31 : decode prog_13_method_28_code 31 = .ok (.getfield 135, 3) := by decide +kernel
theorem d_Model_notes_34 : decode prog_13_method_28_code 34 = .ok (.aload_n 0, 1) := by decide +kernel
theorem d_Model_notes_35 : decode prog_13_method_28_code 35 = .ok (.getfield 294, 3) := by decide +kernel
theorem d_Model_notes_38 : decode prog_13_method_28_code 38 = .ok (.iload 4, 2) := by decide +kernel
theorem d_Model_notes_40 : decode prog_13_method_28_code 40 = .ok (.iastore, 1) := by decide +kernel
theorem d_Model_notes_41 : decode prog_13_method_28_code 41 = .ok (.aload_n 0, 1) := by decide +kernel
theorem d_Model_notes_42 : decode prog_13_method_28_code 42 = .ok (.dup, 1) := by decide +kernel
theorem d_Model_notes_43 : decode prog_13_method_28_code 43 = .ok (.getfield 294, 3) := by decide +kernel
theorem d_Model_notes_46 : decode prog_13_method_28_code 46 = .ok (.iconst 1, 1) := by decide +kernel
theorem d_Model_notes_47 : decode prog_13_method_28_code 47 = .ok (.iadd, 1) := by decide +kernel
theorem d_Model_notes_48 : decode prog_13_method_28_code 48 = .ok (.putfield 294, 3) := by decide +kernel
theorem d_Model_notes_51 : decode prog_13_method_28_code 51 = .ok (.return_, 1) := by decide +kernel
theorem d_Model_ends_0 : decode prog_13_method_29_code 0 = .ok (.aload_n 0, 1) := by decide +kernel
theorem d_Model_ends_1 : decode prog_13_method_29_code 1 = .ok (.getfield 61, 3) := by decide +kernel
theorem d_Model_ends_4 : decode prog_13_method_29_code 4 = .ok (.iload_n 1, 1) := by decide +kernel
theorem d_Model_ends_5 : decode prog_13_method_29_code 5 = .ok (.iload_n 2, 1) := by decide +kernel
theorem d_Model_ends_6 : decode prog_13_method_29_code 6 = .ok (.iastore, 1) := by decide +kernel
theorem d_Model_ends_7 : decode prog_13_method_29_code 7 = .ok (.aload_n 0, 1) := by decide +kernel
theorem d_Model_ends_8 : decode prog_13_method_29_code 8 = .ok (.getfield 73, 3) := by decide +kernel
theorem d_Model_ends_11 : decode prog_13_method_29_code 11 = .ok (.iload_n 1, 1) := by decide +kernel
theorem d_Model_ends_12 : decode prog_13_method_29_code 12 = .ok (.iconst (-1), 1) := by decide +kernel
theorem d_Model_ends_13 : decode prog_13_method_29_code 13 = .ok (.iastore, 1) := by decide +kernel
theorem d_Model_ends_14 : decode prog_13_method_29_code 14 = .ok (.aload_n 0, 1) := by decide +kernel
theorem d_Model_ends_15 : decode prog_13_method_29_code 15 = .ok (.getfield 76, 3) := by decide +kernel
theorem d_Model_ends_18 : decode prog_13_method_29_code 18 = .ok (.aload_n 0, 1) := by decide +kernel
theorem d_Model_ends_19 : decode prog_13_method_29_code 19 = .ok (.getfield 67, 3) := by decide +kernel
theorem d_Model_ends_22 : decode prog_13_method_29_code 22 = .ok (.iload_n 1, 1) := by decide +kernel
theorem d_Model_ends_23 : decode prog_13_method_29_code 23 = .ok (.iaload, 1) := by decide +kernel
theorem d_Model_ends_24 : decode prog_13_method_29_code 24 = .ok (.iconst 0, 1) := by decide +kernel
theorem d_Model_ends_25 : decode prog_13_method_29_code 25 = .ok (.bastore, 1) := by decide +kernel
theorem d_Model_ends_26 : decode prog_13_method_29_code 26 = .ok (.return_, 1) := by decide +kernel
theorem d_Model_does_0 : decode prog_13_method_42_code 0 = .ok (.aload_n 0, 1) := by decide +kernel
theorem d_Model_does_1 : decode prog_13_method_42_code 1 = .ok (.getfield 83, 3) := by decide +kernel
theorem d_Model_does_4 : decode prog_13_method_42_code 4 = .ok (.iload_n 1, 1) := by decide +kernel
theorem d_Model_does_5 : decode prog_13_method_42_code 5 = .ok (.iaload, 1) := by decide +kernel
theorem d_Model_does_6 : decode prog_13_method_42_code 6 = .ok (.istore_n 2, 1) := by decide +kernel
theorem d_Model_does_7 : decode prog_13_method_42_code 7 = .ok (.aload_n 0, 1) := by decide +kernel
theorem d_Model_does_8 : decode prog_13_method_42_code 8 = .ok (.getfield 67, 3) := by decide +kernel
theorem d_Model_does_11 : decode prog_13_method_42_code 11 = .ok (.iload_n 1, 1) := by decide +kernel
theorem d_Model_does_12 : decode prog_13_method_42_code 12 = .ok (.iaload, 1) := by decide +kernel
theorem d_Model_does_13 : decode prog_13_method_42_code 13 = .ok (.istore_n 3, 1) := by decide +kernel
theorem d_Model_does_14 : decode prog_13_method_42_code 14 = .ok (.iconst 0, 1) := by decide +kernel
theorem d_Model_does_15 : decode prog_13_method_42_code 15 = .ok (.istore 4, 2) := by decide +kernel
theorem d_Model_does_17 : decode prog_13_method_42_code 17 = .ok (.iload 4, 2) := by decide +kernel
theorem d_Model_does_19 : decode prog_13_method_42_code 19 = .ok (.aload_n 0, 1) := by decide +kernel
theorem d_Model_does_20 : decode prog_13_method_42_code 20 = .ok (.getfield 312, 3) := by decide +kernel
theorem d_Model_does_23 : decode prog_13_method_42_code 23 = .ok (.if_icmp .ge 29, 3) := by decide +kernel
theorem d_Model_does_26 : decode prog_13_method_42_code 26 = .ok (.aload_n 0, 1) := by decide +kernel
theorem d_Model_does_27 : decode prog_13_method_42_code 27 = .ok (.iconst 0, 1) := by decide +kernel
theorem d_Model_does_28 : decode prog_13_method_42_code 28 = .ok (.iload_n 1, 1) := by decide +kernel
theorem d_Model_does_29 : decode prog_13_method_42_code 29 = .ok (.aload_n 0, 1) := by decide +kernel
theorem d_Model_does_30 : decode prog_13_method_42_code 30 = .ok (.getfield 120, 3) := by decide +kernel
theorem d_Model_does_33 : decode prog_13_method_42_code 33 = .ok (.iload 4, 2) := by decide +kernel
theorem d_Model_does_35 : decode prog_13_method_42_code 35 = .ok (.iaload, 1) := by decide +kernel
theorem d_Model_does_36 : decode prog_13_method_42_code 36 = .ok (.aload_n 0, 1) := by decide +kernel
theorem d_Model_does_37 : decode prog_13_method_42_code 37 = .ok (.getfield 123, 3) := by decide +kernel
theorem d_Model_does_40 : decode prog_13_method_42_code 40 = .ok (.iload 4, 2) := by decide +kernel
theorem d_Model_does_42 : decode prog_13_method_42_code 42 = .ok (.iaload, 1) := by decide +kernel
theorem d_Model_does_43 : decode prog_13_method_42_code 43 = .ok (.invokevirtual 297, 3) := by decide +kernel
theorem d_Model_does_46 : decode prog_13_method_42_code 46 = .ok (.iinc 4 1, 3) := by decide +kernel
theorem d_Model_does_49 : decode prog_13_method_42_code 49 = .ok (.goto (-32), 3) := by decide +kernel
theorem d_Model_does_52 : decode prog_13_method_42_code 52 = .ok (.aload_n 0, 1) := by decide +kernel
theorem d_Model_does_53 : decode prog_13_method_42_code 53 = .ok (.getfield 80, 3) := by decide +kernel
theorem d_Model_does_56 : decode prog_13_method_42_code 56 = .ok (.iload_n 1, 1) := by decide +kernel
theorem d_Model_does_57 : decode prog_13_method_42_code 57 = .ok (.iaload, 1) := by decide +kernel
theorem d_Model_does_58 : decode prog_13_method_42_code 58 = .ok (.ifCond .ne 74, 3) := by decide +kernel
theorem d_Model_does_61 : decode prog_13_method_42_code 61 = .ok (.aload_n 0, 1) := by decide +kernel
theorem d_Model_does_62 : decode prog_13_method_42_code 62 = .ok (.getfield 46, 3) := by decide +kernel
theorem d_Model_does_65 : decode prog_13_method_42_code 65 = .ok (.bipush 6, 2) := by decide +kernel
theorem d_Model_does_67 : decode prog_13_method_42_code 67 = .ok (.iload_n 3, 1) := by decide +kernel
theorem d_Model_does_68 : decode prog_13_method_42_code 68 = .ok (.imul, 1) := by decide +kernel
theorem d_Model_does_69 : decode prog_13_method_42_code 69 = .ok (.iload_n 2, 1) := by decide +kernel
theorem d_Model_does_70 : decode prog_13_method_42_code 70 = .ok (.iadd, 1) := by decide +kernel
theorem d_Model_does_71 : decode prog_13_method_42_code 71 = .ok (.iaload, 1) := by decide +kernel
theorem d_Model_does_72 : decode prog_13_method_42_code 72 = .ok (.istore 4, 2) := by decide +kernel
theorem d_Model_does_74 : decode prog_13_method_42_code 74 = .ok (.aload_n 0, 1) := by decide +kernel
theorem d_Model_does_75 : decode prog_13_method_42_code 75 = .ok (.getfield 46, 3) := by decide +kernel
theorem d_Model_does_78 : decode prog_13_method_42_code 78 = .ok (.bipush 6, 2) := by decide +kernel
theorem d_Model_does_80 : decode prog_13_method_42_code 80 = .ok (.iload_n 3, 1) := by decide +kernel
theorem d_Model_does_81 : decode prog_13_method_42_code 81 = .ok (.imul, 1) := by decide +kernel
theorem d_Model_does_82 : decode prog_13_method_42_code 82 = .ok (.iload_n 2, 1) := by decide +kernel
theorem d_Model_does_83 : decode prog_13_method_42_code 83 = .ok (.iadd, 1) := by decide +kernel
theorem d_Model_does_84 : decode prog_13_method_42_code 84 = .ok (.dup2, 1) := by decide +kernel
theorem d_Model_does_85 : decode prog_13_method_42_code 85 = .ok (.iaload, 1) := by decide +kernel
theorem d_Model_does_86 : decode prog_13_method_42_code 86 = .ok (.iconst 1, 1) := by decide +kernel
theorem d_Model_does_87 : decode prog_13_method_42_code 87 = .ok (.iadd, 1) := by decide +kernel
theorem d_Model_does_88 : decode prog_13_method_42_code 88 = .ok (.iastore, 1) := by decide +kernel
theorem d_Model_does_89 : decode prog_13_method_42_code 89 = .ok (.iconst 0, 1) := by decide +kernel
theorem d_Model_does_90 : decode prog_13_method_42_code 90 = .ok (.istore 5, 2) := by decide +kernel
theorem d_Model_does_92 : decode prog_13_method_42_code 92 = .ok (.iload 5, 2) := by decide +kernel
theorem d_Model_does_94 : decode prog_13_method_42_code 94 = .ok (.iconst 4, 1) := by decide +kernel
theorem d_Model_does_95 : decode prog_13_method_42_code 95 = .ok (.if_icmp .ge 34, 3) := by decide +kernel
theorem d_Model_does_98 : decode prog_13_method_42_code 98 = .ok (.aload_n 0, 1) := by decide +kernel
theorem d_Model_does_99 : decode prog_13_method_42_code 99 = .ok (.getfield 49, 3) := by decide +kernel
theorem d_Model_does_102 : decode prog_13_method_42_code 102 = .ok (.iload_n 3, 1) := by decide +kernel
theorem d_Model_does_103 : decode prog_13_method_42_code 103 = .ok (.iload_n 2, 1) := by decide +kernel
theorem d_Model_does_104 : decode prog_13_method_42_code 104 = .ok (.iload 4, 2) := by decide +kernel
theorem d_Model_does_106 : decode prog_13_method_42_code 106 = .ok (.iload 5, 2) := by decide +kernel
theorem d_Model_does_108 : decode prog_13_method_42_code 108 = .ok (.invokestatic 273, 3) := by decide +kernel
theorem d_Model_does_111 : decode prog_13_method_42_code 111 = .ok (.aload_n 0, 1) := by decide +kernel
theorem d_Model_does_112 : decode prog_13_method_42_code 112 = .ok (.getfield 95, 3) := by decide +kernel
theorem d_Model_does_115 : decode prog_13_method_42_code 115 = .ok (.iconst 4, 1) := by decide +kernel
theorem d_Model_does_116 : decode prog_13_method_42_code 116 = .ok (.iload_n 1, 1) := by decide +kernel
theorem d_Model_does_117 : decode prog_13_method_42_code 117 = .ok (.imul, 1) := by decide +kernel
theorem d_Model_does_118 : decode prog_13_method_42_code 118 = .ok (.iload 5, 2) := by decide +kernel
theorem d_Model_does_120 : decode prog_13_method_42_code 120 = .ok (.iadd, 1) := by decide +kernel
theorem d_Model_does_121 : decode prog_13_method_42_code 121 = .ok (.iaload, 1) := by decide +kernel
theorem d_Model_does_122 : decode prog_13_method_42_code 122 = .ok (.iastore, 1) := by decide +kernel
theorem d_Model_does_123 : decode prog_13_method_42_code 123 = .ok (.iinc 5 1, 3) := by decide +kernel
theorem d_Model_does_126 : decode prog_13_method_42_code 126 = .ok (.goto (-34), 3) := by decide +kernel
theorem d_Model_does_129 : decode prog_13_method_42_code 129 = .ok (.goto 55, 3) := by decide +kernel
theorem d_Model_does_132 : decode prog_13_method_42_code 132 = .ok (.aload_n 0, 1) := by decide +kernel
theorem d_Model_does_133 : decode prog_13_method_42_code 133 = .ok (.getfield 80, 3) := by decide +kernel
theorem d_Model_does_136 : decode prog_13_method_42_code 136 = .ok (.iload_n 1, 1) := by decide +kernel
theorem d_Model_does_137 : decode prog_13_method_42_code 137 = .ok (.iaload, 1) := by decide +kernel
theorem d_Model_does_138 : decode prog_13_method_42_code 138 = .ok (.iconst 1, 1) := by decide +kernel
theorem d_Model_does_139 : decode prog_13_method_42_code 139 = .ok (.if_icmp .ne 40, 3) := by decide +kernel
theorem d_Model_does_142 : decode prog_13_method_42_code 142 = .ok (.aload_n 0, 1) := by decide +kernel
theorem d_Model_does_143 : decode prog_13_method_42_code 143 = .ok (.getfield 49, 3) := by decide +kernel
theorem d_Model_does_146 : decode prog_13_method_42_code 146 = .ok (.iload_n 3, 1) := by decide +kernel
theorem d_Model_does_147 : decode prog_13_method_42_code 147 = .ok (.iload_n 2, 1) := by decide +kernel
theorem d_Model_does_148 : decode prog_13_method_42_code 148 = .ok (.aload_n 0, 1) := by decide +kernel
theorem d_Model_does_149 : decode prog_13_method_42_code 149 = .ok (.iload_n 3, 1) := by decide +kernel
theorem d_Model_does_150 : decode prog_13_method_42_code 150 = .ok (.iload_n 2, 1) := by decide +kernel
theorem d_Model_does_151 : decode prog_13_method_42_code 151 = .ok (.aload_n 0, 1) := by decide +kernel
theorem d_Model_does_152 : decode prog_13_method_42_code 152 = .ok (.getfield 86, 3) := by decide +kernel
theorem d_Model_does_155 : decode prog_13_method_42_code 155 = .ok (.iload_n 1, 1) := by decide +kernel
theorem d_Model_does_156 : decode prog_13_method_42_code 156 = .ok (.iaload, 1) := by decide +kernel
theorem d_Model_does_157 : decode prog_13_method_42_code 157 = .ok (.invokevirtual 305, 3) := by decide +kernel
theorem d_Model_does_160 : decode prog_13_method_42_code 160 = .ok (.aload_n 0, 1) := by decide +kernel
theorem d_Model_does_161 : decode prog_13_method_42_code 161 = .ok (.getfield 89, 3) := by decide +kernel
theorem d_Model_does_164 : decode prog_13_method_42_code 164 = .ok (.iload_n 1, 1) := by decide +kernel
theorem d_Model_does_165 : decode prog_13_method_42_code 165 = .ok (.iaload, 1) := by decide +kernel
theorem d_Model_does_166 : decode prog_13_method_42_code 166 = .ok (.invokestatic 273, 3) := by decide +kernel
theorem d_Model_does_169 : decode prog_13_method_42_code 169 = .ok (.aload_n 0, 1) := by decide +kernel
theorem d_Model_does_170 : decode prog_13_method_42_code 170 = .ok (.getfield 92, 3) := by decide +kernel
theorem d_Model_does_173 : decode prog_13_method_42_code 173 = .ok (.iload_n 1, 1) := by decide +kernel
theorem d_Model_does_174 : decode prog_13_method_42_code 174 = .ok (.iaload, 1) := by decide +kernel
theorem d_Model_does_175 : decode prog_13_method_42_code 175 = .ok (.iastore, 1) := by decide +kernel
theorem d_Model_does_176 : decode prog_13_method_42_code 176 = .ok (.goto 8, 3) := by decide +kernel
theorem d_Model_does_179 : decode prog_13_method_42_code 179 = .ok (.aload_n 0, 1) := by decide +kernel
theorem d_Model_does_180 : decode prog_13_method_42_code 180 = .ok (.iload_n 3, 1) := by decide +kernel
theorem d_Model_does_181 : decode prog_13_method_42_code 181 = .ok (.invokevirtual 340, 3) := by decide +kernel
theorem d_Model_does_184 : decode prog_13_method_42_code 184 = .ok (.return_, 1) := by decide +kernel
theorem d_Model_deletes_0 : decode prog_13_method_43_code 0 = .ok (.iconst 0, 1) := by decide +kernel
theorem d_Model_deletes_1 : decode prog_13_method_43_code 1 = .ok (.istore_n 2, 1) := by decide +kernel
theorem d_Model_deletes_2 : decode prog_13_method_43_code 2 = .ok (.iload_n 2, 1) := by decide +kernel
theorem d_Model_deletes_3 : decode prog_13_method_43_code 3 = .ok (.sipush 384, 3) := by decide +kernel
theorem d_Model_deletes_6 : decode prog_13_method_43_code 6 = .ok (.if_icmp .ge 93, 3) := by decide +kernel
theorem d_Model_deletes_9 : decode prog_13_method_43_code 9 = .ok (.iconst 1, 1) := by decide +kernel
theorem d_Model_deletes_10 : decode prog_13_method_43_code 10 = .ok (.istore_n 3, 1) := by decide +kernel
theorem d_Model_deletes_11 : decode prog_13_method_43_code 11 = .ok (.iload_n 3, 1) := by decide +kernel
theorem d_Model_deletes_12 : decode prog_13_method_43_code 12 = .ok (.aload_n 0, 1) := by decide +kernel
theorem d_Model_deletes_13 : decode prog_13_method_43_code 13 = .ok (.getfield 7, 3) := by decide +kernel
theorem d_Model_deletes_16 : decode prog_13_method_43_code 16 = .ok (.iload_n 2, 1) := by decide +kernel
theorem d_Model_deletes_17 : decode prog_13_method_43_code 17 = .ok (.bipush 64, 2) := by decide +kernel
theorem d_Model_deletes_19 : decode prog_13_method_43_code 19 = .ok (.idiv, 1) := by decide +kernel
theorem d_Model_deletes_20 : decode prog_13_method_43_code 20 = .ok (.iaload, 1) := by decide +kernel
theorem d_Model_deletes_21 : decode prog_13_method_43_code 21 = .ok (.if_icmp .ge 72, 3) := by decide +kernel
theorem d_Model_deletes_24 : decode prog_13_method_43_code 24 = .ok (.aload_n 0, 1) := by decide +kernel
theorem d_Model_deletes_25 : decode prog_13_method_43_code 25 = .ok (.getfield 117, 3) := by decide +kernel
theorem d_Model_deletes_28 : decode prog_13_method_43_code 28 = .ok (.iload_n 2, 1) := by decide +kernel
theorem d_Model_deletes_29 : decode prog_13_method_43_code 29 = .ok (.baload, 1) := by decide +kernel
theorem d_Model_deletes_30 : decode prog_13_method_43_code 30 = .ok (.ifCond .eq 63, 3) := by decide +kernel
theorem d_Model_deletes_33 : decode prog_13_method_43_code 33 = .ok (.aload_n 0, 1) := by decide +kernel
theorem d_Model_deletes_34 : decode prog_13_method_43_code 34 = .ok (.getfield 28, 3) := by decide +kernel
theorem d_Model_deletes_37 : decode prog_13_method_43_code 37 = .ok (.iconst 4, 1) := by decide +kernel
theorem d_Model_deletes_38 : decode prog_13_method_43_code 38 = .ok (.iload_n 2, 1) := by decide +kernel
theorem d_Model_deletes_39 : decode prog_13_method_43_code 39 = .ok (.bipush 64, 2) := by decide +kernel
theorem d_Model_deletes_41 : decode prog_13_method_43_code 41 = .ok (.idiv, 1) := by decide +kernel
theorem d_Model_deletes_42 : decode prog_13_method_43_code 42 = .ok (.imul, 1) := by decide +kernel
theorem d_Model_deletes_43 : decode prog_13_method_43_code 43 = .ok (.iload_n 3, 1) := by decide +kernel
theorem d_Model_deletes_44 : decode prog_13_method_43_code 44 = .ok (.iadd, 1) := by decide +kernel
theorem d_Model_deletes_45 : decode prog_13_method_43_code 45 = .ok (.iaload, 1) := by decide +kernel
theorem d_Model_deletes_46 : decode prog_13_method_43_code 46 = .ok (.iconst 2, 1) := by decide +kernel
theorem d_Model_deletes_47 : decode prog_13_method_43_code 47 = .ok (.if_icmp .ne 40, 3) := by decide +kernel
theorem d_Model_deletes_50 : decode prog_13_method_43_code 50 = .ok (.aload_n 0, 1) := by decide +kernel
theorem d_Model_deletes_51 : decode prog_13_method_43_code 51 = .ok (.iload_n 1, 1) := by decide +kernel
theorem d_Model_deletes_52 : decode prog_13_method_43_code 52 = .ok (.iload_n 2, 1) := by decide +kernel
theorem d_Model_deletes_53 : decode prog_13_method_43_code 53 = .ok (.bipush 64, 2) := by decide +kernel
theorem d_Model_deletes_55 : decode prog_13_method_43_code 55 = .ok (.idiv, 1) := by decide +kernel
theorem d_Model_deletes_56 : decode prog_13_method_43_code 56 = .ok (.iload_n 2, 1) := by decide +kernel
theorem d_Model_deletes_57 : decode prog_13_method_43_code 57 = .ok (.bipush 64, 2) := by decide +kernel
theorem d_Model_deletes_59 : decode prog_13_method_43_code 59 = .ok (.irem, 1) := by decide +kernel
theorem d_Model_deletes_60 : decode prog_13_method_43_code 60 = .ok (.iload_n 3, 1) := by decide +kernel
theorem d_Model_deletes_61 : decode prog_13_method_43_code 61 = .ok (.invokevirtual 328, 3) := by decide +kernel
theorem d_Model_deletes_64 : decode prog_13_method_43_code 64 = .ok (.ifCond .eq 23, 3) := by decide +kernel
theorem d_Model_deletes_67 : decode prog_13_method_43_code 67 = .ok (.aload_n 0, 1) := by decide +kernel
theorem d_Model_deletes_68 : decode prog_13_method_43_code 68 = .ok (.getfield 49, 3) := by decide +kernel
theorem d_Model_deletes_71 : decode prog_13_method_43_code 71 = .ok (.iload_n 1, 1) := by decide +kernel
theorem d_Model_deletes_72 : decode prog_13_method_43_code 72 = .ok (.iload_n 2, 1) := by decide +kernel
theorem d_Model_deletes_73 : decode prog_13_method_43_code 73 = .ok (.bipush 64, 2) := by decide +kernel
theorem d_Model_deletes_75 : decode prog_13_method_43_code 75 = .ok (.idiv, 1) := by decide +kernel
theorem d_Model_deletes_76 : decode prog_13_method_43_code 76 = .ok (.iload_n 2, 1) := by decide +kernel
theorem d_Model_deletes_77 : decode prog_13_method_43_code 77 = .ok (.bipush 64, 2) := by decide +kernel
theorem d_Model_deletes_79 : decode prog_13_method_43_code 79 = .ok (.irem, 1) := by decide +kernel
theorem d_Model_deletes_80 : decode prog_13_method_43_code 80 = .ok (.iload_n 3, 1) := by decide +kernel
theorem d_Model_deletes_81 : decode prog_13_method_43_code 81 = .ok (.invokestatic 273, 3) := by decide +kernel
theorem d_Model_deletes_84 : decode prog_13_method_43_code 84 = .ok (.ldc 246, 2) := by decide +kernel
theorem d_Model_deletes_86 : decode prog_13_method_43_code 86 = .ok (.iastore, 1) := by decide +kernel
theorem d_Model_deletes_87 : decode prog_13_method_43_code 87 = .ok (.iinc 3 1, 3) := by decide +kernel
theorem d_Model_deletes_90 : decode prog_13_method_43_code 90 = .ok (.goto (-79), 3) := by decide +kernel
theorem d_Model_deletes_93 : decode prog_13_method_43_code 93 = .ok (.iinc 2 1, 3) := by decide +kernel
theorem d_Model_deletes_96 : decode prog_13_method_43_code 96 = .ok (.goto (-94), 3) := by decide +kernel
theorem d_Model_deletes_99 : decode prog_13_method_43_code 99 = .ok (.sipush 383, 3) := by decide +kernel
theorem d_Model_deletes_102 : decode prog_13_method_43_code 102 = .ok (.istore_n 2, 1) := by decide +kernel
theorem d_Model_deletes_103 : decode prog_13_method_43_code 103 = .ok (.iload_n 2, 1) := by decide +kernel
theorem d_Model_deletes_104 : decode prog_13_method_43_code 104 = .ok (.ifCond .lt 31, 3) := by decide +kernel
theorem d_Model_deletes_107 : decode prog_13_method_43_code 107 = .ok (.aload_n 0, 1) := by decide +kernel
theorem d_Model_deletes_108 : decode prog_13_method_43_code 108 = .ok (.getfield 114, 3) := by decide +kernel
theorem d_Model_deletes_111 : decode prog_13_method_43_code 111 = .ok (.iload_n 2, 1) := by decide +kernel
theorem d_Model_deletes_112 : decode prog_13_method_43_code 112 = .ok (.baload, 1) := by decide +kernel
theorem d_Model_deletes_113 : decode prog_13_method_43_code 113 = .ok (.ifCond .eq 16, 3) := by decide +kernel
theorem d_Model_deletes_116 : decode prog_13_method_43_code 116 = .ok (.aload_n 0, 1) := by decide +kernel
theorem d_Model_deletes_117 : decode prog_13_method_43_code 117 = .ok (.iload_n 1, 1) := by decide +kernel
theorem d_Model_deletes_118 : decode prog_13_method_43_code 118 = .ok (.iload_n 2, 1) := by decide +kernel
theorem d_Model_deletes_119 : decode prog_13_method_43_code 119 = .ok (.bipush 64, 2) := by decide +kernel
theorem d_Model_deletes_121 : decode prog_13_method_43_code 121 = .ok (.idiv, 1) := by decide +kernel
theorem d_Model_deletes_122 : decode prog_13_method_43_code 122 = .ok (.iload_n 2, 1) := by decide +kernel
theorem d_Model_deletes_123 : decode prog_13_method_43_code 123 = .ok (.bipush 64, 2) := by decide +kernel
theorem d_Model_deletes_125 : decode prog_13_method_43_code 125 = .ok (.irem, 1) := by decide +kernel
theorem d_Model_deletes_126 : decode prog_13_method_43_code 126 = .ok (.invokevirtual 344, 3) := by decide +kernel
theorem d_Model_deletes_129 : decode prog_13_method_43_code 129 = .ok (.iinc 2 (-1), 3) := by decide +kernel
theorem d_Model_deletes_132 : decode prog_13_method_43_code 132 = .ok (.goto (-29), 3) := by decide +kernel
theorem d_Model_deletes_135 : decode prog_13_method_43_code 135 = .ok (.return_, 1) := by decide +kernel
theorem d_Model_takesOut_0 : decode prog_13_method_21_code 0 = .ok (.aload_n 0, 1) := by decide +kernel
theorem d_Model_takesOut_1 : decode prog_13_method_21_code 1 = .ok (.getfield 46, 3) := by decide +kernel
theorem d_Model_takesOut_4 : decode prog_13_method_21_code 4 = .ok (.bipush 6, 2) := by decide +kernel
theorem d_Model_takesOut_6 : decode prog_13_method_21_code 6 = .ok (.iload_n 1, 1) := by decide +kernel
theorem d_Model_takesOut_7 : decode prog_13_method_21_code 7 = .ok (.imul, 1) := by decide +kernel
theorem d_Model_takesOut_8 : decode prog_13_method_21_code 8 = .ok (.iload_n 2, 1) := by decide +kernel
theorem d_Model_takesOut_9 : decode prog_13_method_21_code 9 = .ok (.iadd, 1) := by decide +kernel
theorem d_Model_takesOut_10 : decode prog_13_method_21_code 10 = .ok (.dup2, 1) := by decide +kernel
theorem d_Model_takesOut_11 : decode prog_13_method_21_code 11 = .ok (.iaload, 1) := by decide +kernel
theorem d_Model_takesOut_12 : decode prog_13_method_21_code 12 = .ok (.iconst 1, 1) := by decide +kernel
theorem d_Model_takesOut_13 : decode prog_13_method_21_code 13 = .ok (.isub, 1) := by decide +kernel
theorem d_Model_takesOut_14 : decode prog_13_method_21_code 14 = .ok (.iastore, 1) := by decide +kernel
theorem d_Model_takesOut_15 : decode prog_13_method_21_code 15 = .ok (.aload_n 0, 1) := by decide +kernel
theorem d_Model_takesOut_16 : decode prog_13_method_21_code 16 = .ok (.iload_n 1, 1) := by decide +kernel
theorem d_Model_takesOut_17 : decode prog_13_method_21_code 17 = .ok (.aload_n 0, 1) := by decide +kernel
theorem d_Model_takesOut_18 : decode prog_13_method_21_code 18 = .ok (.getfield 46, 3) := by decide +kernel
theorem d_Model_takesOut_21 : decode prog_13_method_21_code 21 = .ok (.bipush 6, 2) := by decide +kernel
theorem d_Model_takesOut_23 : decode prog_13_method_21_code 23 = .ok (.iload_n 1, 1) := by decide +kernel
theorem d_Model_takesOut_24 : decode prog_13_method_21_code 24 = .ok (.imul, 1) := by decide +kernel
theorem d_Model_takesOut_25 : decode prog_13_method_21_code 25 = .ok (.iload_n 2, 1) := by decide +kernel
theorem d_Model_takesOut_26 : decode prog_13_method_21_code 26 = .ok (.iadd, 1) := by decide +kernel
theorem d_Model_takesOut_27 : decode prog_13_method_21_code 27 = .ok (.iaload, 1) := by decide +kernel
theorem d_Model_takesOut_28 : decode prog_13_method_21_code 28 = .ok (.iload_n 1, 1) := by decide +kernel
theorem d_Model_takesOut_29 : decode prog_13_method_21_code 29 = .ok (.iload_n 3, 1) := by decide +kernel
theorem d_Model_takesOut_30 : decode prog_13_method_21_code 30 = .ok (.iload_n 2, 1) := by decide +kernel
theorem d_Model_takesOut_31 : decode prog_13_method_21_code 31 = .ok (.invokevirtual 277, 3) := by decide +kernel
theorem d_Model_takesOut_34 : decode prog_13_method_21_code 34 = .ok (.return_, 1) := by decide +kernel
theorem d_Model_settles_0 : decode prog_13_method_45_code 0 = .ok (.aload_n 0, 1) := by decide +kernel
theorem d_Model_settles_1 : decode prog_13_method_45_code 1 = .ok (.invokevirtual 366, 3) := by decide +kernel
theorem d_Model_settles_4 : decode prog_13_method_45_code 4 = .ok (.istore_n 1, 1) := by decide +kernel
theorem d_Model_settles_5 : decode prog_13_method_45_code 5 = .ok (.iload_n 1, 1) := by decide +kernel
theorem d_Model_settles_6 : decode prog_13_method_45_code 6 = .ok (.iconst (-1), 1) := by decide +kernel
theorem d_Model_settles_7 : decode prog_13_method_45_code 7 = .ok (.if_icmp .eq 36, 3) := by decide +kernel
theorem d_Model_settles_10 : decode prog_13_method_45_code 10 = .ok (.aload_n 0, 1) := by decide +kernel
theorem d_Model_settles_11 : decode prog_13_method_45_code 11 = .ok (.getfield 61, 3) := by decide +kernel
theorem d_Model_settles_14 : decode prog_13_method_45_code 14 = .ok (.iload_n 1, 1) := by decide +kernel
theorem d_Model_settles_15 : decode prog_13_method_45_code 15 = .ok (.iconst 0, 1) := by decide +kernel
theorem d_Model_settles_16 : decode prog_13_method_45_code 16 = .ok (.iastore, 1) := by decide +kernel
theorem d_Model_settles_17 : decode prog_13_method_45_code 17 = .ok (.aload_n 0, 1) := by decide +kernel
theorem d_Model_settles_18 : decode prog_13_method_45_code 18 = .ok (.getfield 73, 3) := by decide +kernel
theorem d_Model_settles_21 : decode prog_13_method_45_code 21 = .ok (.iload_n 1, 1) := by decide +kernel
theorem d_Model_settles_22 : decode prog_13_method_45_code 22 = .ok (.iconst (-1), 1) := by decide +kernel
theorem d_Model_settles_23 : decode prog_13_method_45_code 23 = .ok (.iastore, 1) := by decide +kernel
theorem d_Model_settles_24 : decode prog_13_method_45_code 24 = .ok (.aload_n 0, 1) := by decide +kernel
theorem d_Model_settles_25 : decode prog_13_method_45_code 25 = .ok (.getfield 64, 3) := by decide +kernel
theorem d_Model_settles_28 : decode prog_13_method_45_code 28 = .ok (.iload_n 1, 1) := by decide +kernel
theorem d_Model_settles_29 : decode prog_13_method_45_code 29 = .ok (.aload_n 0, 1) := by decide +kernel
theorem d_Model_settles_30 : decode prog_13_method_45_code 30 = .ok (.iload_n 1, 1) := by decide +kernel
theorem d_Model_settles_31 : decode prog_13_method_45_code 31 = .ok (.invokevirtual 370, 3) := by decide +kernel
theorem d_Model_settles_34 : decode prog_13_method_45_code 34 = .ok (.iastore, 1) := by decide +kernel
theorem d_Model_settles_35 : decode prog_13_method_45_code 35 = .ok (.aload_n 0, 1) := by decide +kernel
theorem d_Model_settles_36 : decode prog_13_method_45_code 36 = .ok (.invokevirtual 366, 3) := by decide +kernel
theorem d_Model_settles_39 : decode prog_13_method_45_code 39 = .ok (.istore_n 1, 1) := by decide +kernel
theorem d_Model_settles_40 : decode prog_13_method_45_code 40 = .ok (.goto (-35), 3) := by decide +kernel
theorem d_Model_settles_43 : decode prog_13_method_45_code 43 = .ok (.return_, 1) := by decide +kernel
theorem d_Model_nextOf_0 : decode prog_13_method_46_code 0 = .ok (.iconst (-1), 1) := by decide +kernel
theorem d_Model_nextOf_1 : decode prog_13_method_46_code 1 = .ok (.istore_n 1, 1) := by decide +kernel
theorem d_Model_nextOf_2 : decode prog_13_method_46_code 2 = .ok (.aload_n 0, 1) := by decide +kernel
theorem d_Model_nextOf_3 : decode prog_13_method_46_code 3 = .ok (.getfield 247, 3) := by decide +kernel
theorem d_Model_nextOf_6 : decode prog_13_method_46_code 6 = .ok (.iconst 1, 1) := by decide +kernel
theorem d_Model_nextOf_7 : decode prog_13_method_46_code 7 = .ok (.isub, 1) := by decide +kernel
theorem d_Model_nextOf_8 : decode prog_13_method_46_code 8 = .ok (.istore_n 2, 1) := by decide +kernel
theorem d_Model_nextOf_9 : decode prog_13_method_46_code 9 = .ok (.iload_n 2, 1) := by decide +kernel
theorem d_Model_nextOf_10 : decode prog_13_method_46_code 10 = .ok (.ifCond .lt 40, 3) := by decide +kernel
theorem d_Model_nextOf_13 : decode prog_13_method_46_code 13 = .ok (.aload_n 0, 1) := by decide +kernel
theorem d_Model_nextOf_14 : decode prog_13_method_46_code 14 = .ok (.getfield 61, 3) := by decide +kernel
theorem d_Model_nextOf_17 : decode prog_13_method_46_code 17 = .ok (.iload_n 2, 1) := by decide +kernel
theorem d_Model_nextOf_18 : decode prog_13_method_46_code 18 = .ok (.iaload, 1) := by decide +kernel
theorem d_Model_nextOf_19 : decode prog_13_method_46_code 19 = .ok (.iconst 1, 1) := by decide +kernel
theorem d_Model_nextOf_20 : decode prog_13_method_46_code 20 = .ok (.if_icmp .ne 22, 3) := by decide +kernel
theorem d_Model_nextOf_23 : decode prog_13_method_46_code 23 = .ok (.aload_n 0, 1) := by decide +kernel
theorem d_Model_nextOf_24 : decode prog_13_method_46_code 24 = .ok (.getfield 61, 3) := by decide +kernel
theorem d_Model_nextOf_27 : decode prog_13_method_46_code 27 = .ok (.aload_n 0, 1) := by decide +kernel
theorem d_Model_nextOf_28 : decode prog_13_method_46_code 28 = .ok (.getfield 73, 3) := by decide +kernel
theorem d_Model_nextOf_31 : decode prog_13_method_46_code 31 = .ok (.iload_n 2, 1) := by decide +kernel
theorem d_Model_nextOf_32 : decode prog_13_method_46_code 32 = .ok (.iaload, 1) := by decide +kernel
theorem d_Model_nextOf_33 : decode prog_13_method_46_code 33 = .ok (.iaload, 1) := by decide +kernel
theorem d_Model_nextOf_34 : decode prog_13_method_46_code 34 = .ok (.iconst 2, 1) := by decide +kernel
theorem d_Model_nextOf_35 : decode prog_13_method_46_code 35 = .ok (.if_icmp .lt 7, 3) := by decide +kernel
theorem d_Model_nextOf_38 : decode prog_13_method_46_code 38 = .ok (.iload_n 2, 1) := by decide +kernel
theorem d_Model_nextOf_39 : decode prog_13_method_46_code 39 = .ok (.goto 4, 3) := by decide +kernel
theorem d_Model_nextOf_42 : decode prog_13_method_46_code 42 = .ok (.iload_n 1, 1) := by decide +kernel
theorem d_Model_nextOf_43 : decode prog_13_method_46_code 43 = .ok (.istore_n 1, 1) := by decide +kernel
theorem d_Model_nextOf_44 : decode prog_13_method_46_code 44 = .ok (.iinc 2 (-1), 3) := by decide +kernel
theorem d_Model_nextOf_47 : decode prog_13_method_46_code 47 = .ok (.goto (-38), 3) := by decide +kernel
theorem d_Model_nextOf_50 : decode prog_13_method_46_code 50 = .ok (.iload_n 1, 1) := by decide +kernel
theorem d_Model_nextOf_51 : decode prog_13_method_46_code 51 = .ok (.ireturn, 1) := by decide +kernel
theorem d_Model_update_0 : decode prog_13_method_49_code 0 = .ok (.aload_n 0, 1) := by decide +kernel
theorem d_Model_update_1 : decode prog_13_method_49_code 1 = .ok (.iload_n 1, 1) := by decide +kernel
theorem d_Model_update_2 : decode prog_13_method_49_code 2 = .ok (.invokevirtual 376, 3) := by decide +kernel
theorem d_Model_update_5 : decode prog_13_method_49_code 5 = .ok (.ifCond .eq 22, 3) := by decide +kernel
theorem d_Model_update_8 : decode prog_13_method_49_code 8 = .ok (.aload_n 0, 1) := by decide +kernel
theorem d_Model_update_9 : decode prog_13_method_49_code 9 = .ok (.iload_n 2, 1) := by decide +kernel
theorem d_Model_update_10 : decode prog_13_method_49_code 10 = .ok (.iload 4, 2) := by decide +kernel
theorem d_Model_update_12 : decode prog_13_method_49_code 12 = .ok (.invokevirtual 260, 3) := by decide +kernel
theorem d_Model_update_15 : decode prog_13_method_49_code 15 = .ok (.ifCond .eq 12, 3) := by decide +kernel
theorem d_Model_update_18 : decode prog_13_method_49_code 18 = .ok (.iload 4, 2) := by decide +kernel
theorem d_Model_update_20 : decode prog_13_method_49_code 20 = .ok (.ifCond .le 7, 3) := by decide +kernel
theorem d_Model_update_23 : decode prog_13_method_49_code 23 = .ok (.iconst 1, 1) := by decide +kernel
theorem d_Model_update_24 : decode prog_13_method_49_code 24 = .ok (.goto 4, 3) := by decide +kernel
theorem d_Model_update_27 : decode prog_13_method_49_code 27 = .ok (.iconst 0, 1) := by decide +kernel
theorem d_Model_update_28 : decode prog_13_method_49_code 28 = .ok (.istore 6, 2) := by decide +kernel
theorem d_Model_update_30 : decode prog_13_method_49_code 30 = .ok (.iload 5, 2) := by decide +kernel
theorem d_Model_update_32 : decode prog_13_method_49_code 32 = .ok (.ldc 246, 2) := by decide +kernel
theorem d_Model_update_34 : decode prog_13_method_49_code 34 = .ok (.if_icmp .eq 11, 3) := by decide +kernel
theorem d_Model_update_37 : decode prog_13_method_49_code 37 = .ok (.iload 5, 2) := by decide +kernel
theorem d_Model_update_39 : decode prog_13_method_49_code 39 = .ok (.invokestatic 267, 3) := by decide +kernel
theorem d_Model_update_42 : decode prog_13_method_49_code 42 = .ok (.ifCond .eq 7, 3) := by decide +kernel
theorem d_Model_update_45 : decode prog_13_method_49_code 45 = .ok (.iconst 1, 1) := by decide +kernel
theorem d_Model_update_46 : decode prog_13_method_49_code 46 = .ok (.goto 4, 3) := by decide +kernel
theorem d_Model_update_49 : decode prog_13_method_49_code 49 = .ok (.iconst 0, 1) := by decide +kernel
theorem d_Model_update_50 : decode prog_13_method_49_code 50 = .ok (.istore 7, 2) := by decide +kernel
theorem d_Model_update_52 : decode prog_13_method_49_code 52 = .ok (.aload_n 0, 1) := by decide +kernel
theorem d_Model_update_53 : decode prog_13_method_49_code 53 = .ok (.iload 6, 2) := by decide +kernel
theorem d_Model_update_55 : decode prog_13_method_49_code 55 = .ok (.ifCond .ne 7, 3) := by decide +kernel
theorem d_Model_update_58 : decode prog_13_method_49_code 58 = .ok (.iconst 1, 1) := by decide +kernel
theorem d_Model_update_59 : decode prog_13_method_49_code 59 = .ok (.goto 26, 3) := by decide +kernel
theorem d_Model_update_62 : decode prog_13_method_49_code 62 = .ok (.iload 7, 2) := by decide +kernel
theorem d_Model_update_64 : decode prog_13_method_49_code 64 = .ok (.ifCond .ne 7, 3) := by decide +kernel
theorem d_Model_update_67 : decode prog_13_method_49_code 67 = .ok (.iconst 2, 1) := by decide +kernel
theorem d_Model_update_68 : decode prog_13_method_49_code 68 = .ok (.goto 17, 3) := by decide +kernel
theorem d_Model_update_71 : decode prog_13_method_49_code 71 = .ok (.aload_n 0, 1) := by decide +kernel
theorem d_Model_update_72 : decode prog_13_method_49_code 72 = .ok (.getfield 61, 3) := by decide +kernel
theorem d_Model_update_75 : decode prog_13_method_49_code 75 = .ok (.iload_n 1, 1) := by decide +kernel
theorem d_Model_update_76 : decode prog_13_method_49_code 76 = .ok (.iaload, 1) := by decide +kernel
theorem d_Model_update_77 : decode prog_13_method_49_code 77 = .ok (.ifCond .eq 7, 3) := by decide +kernel
theorem d_Model_update_80 : decode prog_13_method_49_code 80 = .ok (.iconst 3, 1) := by decide +kernel
theorem d_Model_update_81 : decode prog_13_method_49_code 81 = .ok (.goto 4, 3) := by decide +kernel
theorem d_Model_update_84 : decode prog_13_method_49_code 84 = .ok (.iconst 0, 1) := by decide +kernel
theorem d_Model_update_85 : decode prog_13_method_49_code 85 = .ok (.invokevirtual 254, 3) := by decide +kernel
theorem d_Model_update_88 : decode prog_13_method_49_code 88 = .ok (.ifCond .eq 5, 3) := by decide +kernel
theorem d_Model_update_91 : decode prog_13_method_49_code 91 = .ok (.iconst 0, 1) := by decide +kernel
theorem d_Model_update_92 : decode prog_13_method_49_code 92 = .ok (.ireturn, 1) := by decide +kernel
theorem d_Model_update_93 : decode prog_13_method_49_code 93 = .ok (.aload_n 0, 1) := by decide +kernel
theorem d_Model_update_94 : decode prog_13_method_49_code 94 = .ok (.getfield 86, 3) := by decide +kernel
theorem d_Model_update_97 : decode prog_13_method_49_code 97 = .ok (.iload_n 1, 1) := by decide +kernel
theorem d_Model_update_98 : decode prog_13_method_49_code 98 = .ok (.iload_n 3, 1) := by decide +kernel
theorem d_Model_update_99 : decode prog_13_method_49_code 99 = .ok (.iastore, 1) := by decide +kernel
theorem d_Model_update_100 : decode prog_13_method_49_code 100 = .ok (.aload_n 0, 1) := by decide +kernel
theorem d_Model_update_101 : decode prog_13_method_49_code 101 = .ok (.getfield 89, 3) := by decide +kernel
theorem d_Model_update_104 : decode prog_13_method_49_code 104 = .ok (.iload_n 1, 1) := by decide +kernel
theorem d_Model_update_105 : decode prog_13_method_49_code 105 = .ok (.iload 4, 2) := by decide +kernel
theorem d_Model_update_107 : decode prog_13_method_49_code 107 = .ok (.iastore, 1) := by decide +kernel
theorem d_Model_update_108 : decode prog_13_method_49_code 108 = .ok (.aload_n 0, 1) := by decide +kernel
theorem d_Model_update_109 : decode prog_13_method_49_code 109 = .ok (.getfield 92, 3) := by decide +kernel
theorem d_Model_update_112 : decode prog_13_method_49_code 112 = .ok (.iload_n 1, 1) := by decide +kernel
theorem d_Model_update_113 : decode prog_13_method_49_code 113 = .ok (.iload 5, 2) := by decide +kernel
theorem d_Model_update_115 : decode prog_13_method_49_code 115 = .ok (.iastore, 1) := by decide +kernel
theorem d_Model_update_116 : decode prog_13_method_49_code 116 = .ok (.aload_n 0, 1) := by decide +kernel
theorem d_Model_update_117 : decode prog_13_method_49_code 117 = .ok (.iload_n 1, 1) := by decide +kernel
theorem d_Model_update_118 : decode prog_13_method_49_code 118 = .ok (.iconst 1, 1) := by decide +kernel
theorem d_Model_update_119 : decode prog_13_method_49_code 119 = .ok (.iload_n 2, 1) := by decide +kernel
theorem d_Model_update_120 : decode prog_13_method_49_code 120 = .ok (.invokevirtual 379, 3) := by decide +kernel
theorem d_Model_update_123 : decode prog_13_method_49_code 123 = .ok (.ireturn, 1) := by decide +kernel
theorem d_Model_delete_0 : decode prog_13_method_50_code 0 = .ok (.aload_n 0, 1) := by decide +kernel
theorem d_Model_delete_1 : decode prog_13_method_50_code 1 = .ok (.iload_n 1, 1) := by decide +kernel
theorem d_Model_delete_2 : decode prog_13_method_50_code 2 = .ok (.invokevirtual 376, 3) := by decide +kernel
theorem d_Model_delete_5 : decode prog_13_method_50_code 5 = .ok (.ifCond .eq 15, 3) := by decide +kernel
theorem d_Model_delete_8 : decode prog_13_method_50_code 8 = .ok (.aload_n 0, 1) := by decide +kernel
theorem d_Model_delete_9 : decode prog_13_method_50_code 9 = .ok (.iload_n 2, 1) := by decide +kernel
theorem d_Model_delete_10 : decode prog_13_method_50_code 10 = .ok (.invokevirtual 242, 3) := by decide +kernel
theorem d_Model_delete_13 : decode prog_13_method_50_code 13 = .ok (.ifCond .eq 7, 3) := by decide +kernel
theorem d_Model_delete_16 : decode prog_13_method_50_code 16 = .ok (.iconst 1, 1) := by decide +kernel
theorem d_Model_delete_17 : decode prog_13_method_50_code 17 = .ok (.goto 4, 3) := by decide +kernel
theorem d_Model_delete_20 : decode prog_13_method_50_code 20 = .ok (.iconst 0, 1) := by decide +kernel
theorem d_Model_delete_21 : decode prog_13_method_50_code 21 = .ok (.istore 4, 2) := by decide +kernel
theorem d_Model_delete_23 : decode prog_13_method_50_code 23 = .ok (.aload_n 0, 1) := by decide +kernel
theorem d_Model_delete_24 : decode prog_13_method_50_code 24 = .ok (.iload 4, 2) := by decide +kernel
theorem d_Model_delete_26 : decode prog_13_method_50_code 26 = .ok (.ifCond .ne 7, 3) := by decide +kernel
theorem d_Model_delete_29 : decode prog_13_method_50_code 29 = .ok (.iconst 1, 1) := by decide +kernel
theorem d_Model_delete_30 : decode prog_13_method_50_code 30 = .ok (.goto 17, 3) := by decide +kernel
theorem d_Model_delete_33 : decode prog_13_method_50_code 33 = .ok (.aload_n 0, 1) := by decide +kernel
theorem d_Model_delete_34 : decode prog_13_method_50_code 34 = .ok (.getfield 61, 3) := by decide +kernel
theorem d_Model_delete_37 : decode prog_13_method_50_code 37 = .ok (.iload_n 1, 1) := by decide +kernel
theorem d_Model_delete_38 : decode prog_13_method_50_code 38 = .ok (.iaload, 1) := by decide +kernel
theorem d_Model_delete_39 : decode prog_13_method_50_code 39 = .ok (.ifCond .eq 7, 3) := by decide +kernel
theorem d_Model_delete_42 : decode prog_13_method_50_code 42 = .ok (.iconst 2, 1) := by decide +kernel
theorem d_Model_delete_43 : decode prog_13_method_50_code 43 = .ok (.goto 4, 3) := by decide +kernel
theorem d_Model_delete_46 : decode prog_13_method_50_code 46 = .ok (.iconst 0, 1) := by decide +kernel
theorem d_Model_delete_47 : decode prog_13_method_50_code 47 = .ok (.invokevirtual 254, 3) := by decide +kernel
theorem d_Model_delete_50 : decode prog_13_method_50_code 50 = .ok (.ifCond .eq 5, 3) := by decide +kernel
theorem d_Model_delete_53 : decode prog_13_method_50_code 53 = .ok (.iconst 0, 1) := by decide +kernel
theorem d_Model_delete_54 : decode prog_13_method_50_code 54 = .ok (.ireturn, 1) := by decide +kernel
theorem d_Model_delete_55 : decode prog_13_method_50_code 55 = .ok (.aload_n 0, 1) := by decide +kernel
theorem d_Model_delete_56 : decode prog_13_method_50_code 56 = .ok (.getfield 86, 3) := by decide +kernel
theorem d_Model_delete_59 : decode prog_13_method_50_code 59 = .ok (.iload_n 1, 1) := by decide +kernel
theorem d_Model_delete_60 : decode prog_13_method_50_code 60 = .ok (.iload_n 3, 1) := by decide +kernel
theorem d_Model_delete_61 : decode prog_13_method_50_code 61 = .ok (.iastore, 1) := by decide +kernel
theorem d_Model_delete_62 : decode prog_13_method_50_code 62 = .ok (.aload_n 0, 1) := by decide +kernel
theorem d_Model_delete_63 : decode prog_13_method_50_code 63 = .ok (.iload_n 1, 1) := by decide +kernel
theorem d_Model_delete_64 : decode prog_13_method_50_code 64 = .ok (.iconst 2, 1) := by decide +kernel
theorem d_Model_delete_65 : decode prog_13_method_50_code 65 = .ok (.iload_n 2, 1) := by decide +kernel
theorem d_Model_delete_66 : decode prog_13_method_50_code 66 = .ok (.invokevirtual 379, 3) := by decide +kernel
theorem d_Model_delete_69 : decode prog_13_method_50_code 69 = .ok (.ireturn, 1) := by decide +kernel
theorem d_Model_commit_0 : decode prog_13_method_55_code 0 = .ok (.aload_n 0, 1) := by decide +kernel
theorem d_Model_commit_1 : decode prog_13_method_55_code 1 = .ok (.iload_n 1, 1) := by decide +kernel
theorem d_Model_commit_2 : decode prog_13_method_55_code 2 = .ok (.invokevirtual 376, 3) := by decide +kernel
theorem d_Model_commit_5 : decode prog_13_method_55_code 5 = .ok (.istore_n 2, 1) := by decide +kernel
theorem d_Model_commit_6 : decode prog_13_method_55_code 6 = .ok (.aload_n 0, 1) := by decide +kernel
theorem d_Model_commit_7 : decode prog_13_method_55_code 7 = .ok (.iload_n 2, 1) := by decide +kernel
theorem d_Model_commit_8 : decode prog_13_method_55_code 8 = .ok (.ifCond .ne 7, 3) := by decide +kernel
theorem d_Model_commit_11 : decode prog_13_method_55_code 11 = .ok (.iconst 1, 1) := by decide +kernel
theorem d_Model_commit_12 : decode prog_13_method_55_code 12 = .ok (.goto 17, 3) := by decide +kernel
theorem d_Model_commit_15 : decode prog_13_method_55_code 15 = .ok (.aload_n 0, 1) := by decide +kernel
theorem d_Model_commit_16 : decode prog_13_method_55_code 16 = .ok (.getfield 61, 3) := by decide +kernel
theorem d_Model_commit_19 : decode prog_13_method_55_code 19 = .ok (.iload_n 1, 1) := by decide +kernel
theorem d_Model_commit_20 : decode prog_13_method_55_code 20 = .ok (.iaload, 1) := by decide +kernel
theorem d_Model_commit_21 : decode prog_13_method_55_code 21 = .ok (.ifCond .ne 7, 3) := by decide +kernel
theorem d_Model_commit_24 : decode prog_13_method_55_code 24 = .ok (.iconst 0, 1) := by decide +kernel
theorem d_Model_commit_25 : decode prog_13_method_55_code 25 = .ok (.goto 4, 3) := by decide +kernel
theorem d_Model_commit_28 : decode prog_13_method_55_code 28 = .ok (.iconst 2, 1) := by decide +kernel
theorem d_Model_commit_29 : decode prog_13_method_55_code 29 = .ok (.invokevirtual 254, 3) := by decide +kernel
theorem d_Model_commit_32 : decode prog_13_method_55_code 32 = .ok (.ifCond .eq 5, 3) := by decide +kernel
theorem d_Model_commit_35 : decode prog_13_method_55_code 35 = .ok (.iconst 0, 1) := by decide +kernel
theorem d_Model_commit_36 : decode prog_13_method_55_code 36 = .ok (.ireturn, 1) := by decide +kernel
theorem d_Model_commit_37 : decode prog_13_method_55_code 37 = .ok (.aload_n 0, 1) := by decide +kernel
theorem d_Model_commit_38 : decode prog_13_method_55_code 38 = .ok (.iload_n 1, 1) := by decide +kernel
theorem d_Model_commit_39 : decode prog_13_method_55_code 39 = .ok (.invokevirtual 385, 3) := by decide +kernel
theorem d_Model_commit_42 : decode prog_13_method_55_code 42 = .ok (.ifCond .ne 11, 3) := by decide +kernel
theorem d_Model_commit_45 : decode prog_13_method_55_code 45 = .ok (.aload_n 0, 1) := by decide +kernel
theorem d_Model_commit_46 : decode prog_13_method_55_code 46 = .ok (.iload_n 1, 1) := by decide +kernel
theorem d_Model_commit_47 : decode prog_13_method_55_code 47 = .ok (.invokevirtual 388, 3) := by decide +kernel
theorem d_Model_commit_50 : decode prog_13_method_55_code 50 = .ok (.ifCond .eq 7, 3) := by decide +kernel
theorem d_Model_commit_53 : decode prog_13_method_55_code 53 = .ok (.iconst 1, 1) := by decide +kernel
theorem d_Model_commit_54 : decode prog_13_method_55_code 54 = .ok (.goto 4, 3) := by decide +kernel
theorem d_Model_commit_57 : decode prog_13_method_55_code 57 = .ok (.iconst 0, 1) := by decide +kernel
theorem d_Model_commit_58 : decode prog_13_method_55_code 58 = .ok (.istore_n 3, 1) := by decide +kernel
theorem d_Model_commit_59 : decode prog_13_method_55_code 59 = .ok (.iload_n 3, 1) := by decide +kernel
theorem d_Model_commit_60 : decode prog_13_method_55_code 60 = .ok (.ifCond .eq 12, 3) := by decide +kernel
theorem d_Model_commit_63 : decode prog_13_method_55_code 63 = .ok (.aload_n 0, 1) := by decide +kernel
theorem d_Model_commit_64 : decode prog_13_method_55_code 64 = .ok (.iload_n 1, 1) := by decide +kernel
theorem d_Model_commit_65 : decode prog_13_method_55_code 65 = .ok (.invokevirtual 359, 3) := by decide +kernel
theorem d_Model_commit_68 : decode prog_13_method_55_code 68 = .ok (.pop, 1) := by decide +kernel
theorem d_Model_commit_69 : decode prog_13_method_55_code 69 = .ok (.goto 95, 3) := by decide +kernel
theorem d_Model_commit_72 : decode prog_13_method_55_code 72 = .ok (.aload_n 0, 1) := by decide +kernel
theorem d_Model_commit_73 : decode prog_13_method_55_code 73 = .ok (.dup, 1) := by decide +kernel
theorem d_Model_commit_74 : decode prog_13_method_55_code 74 = .ok (.getfield 285, 3) := by decide +kernel
theorem d_Model_commit_77 : decode prog_13_method_55_code 77 = .ok (.iconst 1, 1) := by decide +kernel
theorem d_Model_commit_78 : decode prog_13_method_55_code 78 = .ok (.iadd, 1) := by decide +kernel
theorem d_Model_commit_79 : decode prog_13_method_55_code 79 = .ok (.putfield 285, 3) := by decide +kernel
theorem d_Model_commit_82 : decode prog_13_method_55_code 82 = .ok (.iconst 0, 1) := by decide +kernel
theorem d_Model_commit_83 : decode prog_13_method_55_code 83 = .ok (.istore 4, 2) := by decide +kernel
theorem d_Model_commit_85 : decode prog_13_method_55_code 85 = .ok (.iload 4, 2) := by decide +kernel
theorem d_Model_commit_87 : decode prog_13_method_55_code 87 = .ok (.aload_n 0, 1) := by decide +kernel
theorem d_Model_commit_88 : decode prog_13_method_55_code 88 = .ok (.getfield 294, 3) := by decide +kernel
theorem d_Model_commit_91 : decode prog_13_method_55_code 91 = .ok (.if_icmp .ge 49, 3) := by decide +kernel
theorem d_Model_commit_94 : decode prog_13_method_55_code 94 = .ok (.aload_n 0, 1) := by decide +kernel
theorem d_Model_commit_95 : decode prog_13_method_55_code 95 = .ok (.getfield 126, 3) := by decide +kernel
theorem d_Model_commit_98 : decode prog_13_method_55_code 98 = .ok (.iload 4, 2) := by decide +kernel
theorem d_Model_commit_100 : decode prog_13_method_55_code 100 = .ok (.iaload, 1) := by decide +kernel
theorem d_Model_commit_101 : decode prog_13_method_55_code 101 = .ok (.ifCond .ne 33, 3) := by decide +kernel
theorem d_Model_commit_104 : decode prog_13_method_55_code 104 = .ok (.aload_n 0, 1) := by decide +kernel
theorem d_Model_commit_105 : decode prog_13_method_55_code 105 = .ok (.getfield 129, 3) := by decide +kernel
theorem d_Model_commit_108 : decode prog_13_method_55_code 108 = .ok (.iload 4, 2) := by decide +kernel
theorem d_Model_commit_110 : decode prog_13_method_55_code 110 = .ok (.iaload, 1) := by decide +kernel
theorem d_Model_commit_111 : decode prog_13_method_55_code 111 = .ok (.iload_n 1, 1) := by decide +kernel
theorem d_Model_commit_112 : decode prog_13_method_55_code 112 = .ok (.if_icmp .ne 22, 3) := by decide +kernel
theorem d_Model_commit_115 : decode prog_13_method_55_code 115 = .ok (.aload_n 0, 1) := by decide +kernel
theorem d_Model_commit_116 : decode prog_13_method_55_code 116 = .ok (.iload_n 1, 1) := by decide +kernel
theorem d_Model_commit_117 : decode prog_13_method_55_code 117 = .ok (.aload_n 0, 1) := by decide +kernel
theorem d_Model_commit_118 : decode prog_13_method_55_code 118 = .ok (.getfield 132, 3) := by decide +kernel
theorem d_Model_commit_121 : decode prog_13_method_55_code 121 = .ok (.iload 4, 2) := by decide +kernel
theorem d_Model_commit_123 : decode prog_13_method_55_code 123 = .ok (.iaload, 1) := by decide +kernel
theorem d_Model_commit_124 : decode prog_13_method_55_code 124 = .ok (.aload_n 0, 1) := by decide +kernel
theorem d_Model_commit_125 : decode prog_13_method_55_code 125 = .ok (.getfield 135, 3) := by decide +kernel
theorem d_Model_commit_128 : decode prog_13_method_55_code 128 = .ok (.iload 4, 2) := by decide +kernel
theorem d_Model_commit_130 : decode prog_13_method_55_code 130 = .ok (.iaload, 1) := by decide +kernel
theorem d_Model_commit_131 : decode prog_13_method_55_code 131 = .ok (.invokevirtual 391, 3) := by decide +kernel
theorem d_Model_commit_134 : decode prog_13_method_55_code 134 = .ok (.iinc 4 1, 3) := by decide +kernel
theorem d_Model_commit_137 : decode prog_13_method_55_code 137 = .ok (.goto (-52), 3) := by decide +kernel
theorem d_Model_commit_140 : decode prog_13_method_55_code 140 = .ok (.aload_n 0, 1) := by decide +kernel
theorem d_Model_commit_141 : decode prog_13_method_55_code 141 = .ok (.iconst 1, 1) := by decide +kernel
theorem d_Model_commit_142 : decode prog_13_method_55_code 142 = .ok (.iload_n 1, 1) := by decide +kernel
theorem d_Model_commit_143 : decode prog_13_method_55_code 143 = .ok (.ldc 246, 2) := by decide +kernel
theorem d_Model_commit_145 : decode prog_13_method_55_code 145 = .ok (.ldc 246, 2) := by decide +kernel
theorem d_Model_commit_147 : decode prog_13_method_55_code 147 = .ok (.invokevirtual 297, 3) := by decide +kernel
theorem d_Model_commit_150 : decode prog_13_method_55_code 150 = .ok (.aload_n 0, 1) := by decide +kernel
theorem d_Model_commit_151 : decode prog_13_method_55_code 151 = .ok (.aload_n 0, 1) := by decide +kernel
theorem d_Model_commit_152 : decode prog_13_method_55_code 152 = .ok (.getfield 294, 3) := by decide +kernel
theorem d_Model_commit_155 : decode prog_13_method_55_code 155 = .ok (.putfield 394, 3) := by decide +kernel
theorem d_Model_commit_158 : decode prog_13_method_55_code 158 = .ok (.aload_n 0, 1) := by decide +kernel
theorem d_Model_commit_159 : decode prog_13_method_55_code 159 = .ok (.iload_n 1, 1) := by decide +kernel
theorem d_Model_commit_160 : decode prog_13_method_55_code 160 = .ok (.iconst 2, 1) := by decide +kernel
theorem d_Model_commit_161 : decode prog_13_method_55_code 161 = .ok (.invokevirtual 301, 3) := by decide +kernel
theorem d_Model_commit_164 : decode prog_13_method_55_code 164 = .ok (.aload_n 0, 1) := by decide +kernel
theorem d_Model_commit_165 : decode prog_13_method_55_code 165 = .ok (.invokevirtual 373, 3) := by decide +kernel
theorem d_Model_commit_168 : decode prog_13_method_55_code 168 = .ok (.iload_n 3, 1) := by decide +kernel
theorem d_Model_commit_169 : decode prog_13_method_55_code 169 = .ok (.ifCond .eq 7, 3) := by decide +kernel
theorem d_Model_commit_172 : decode prog_13_method_55_code 172 = .ok (.iconst 3, 1) := by decide +kernel
theorem d_Model_commit_173 : decode prog_13_method_55_code 173 = .ok (.goto 4, 3) := by decide +kernel
theorem d_Model_commit_176 : decode prog_13_method_55_code 176 = .ok (.iconst 0, 1) := by decide +kernel
theorem d_Model_commit_177 : decode prog_13_method_55_code 177 = .ok (.ireturn, 1) := by decide +kernel
theorem d_Model_isOld_0 : decode prog_13_method_51_code 0 = .ok (.iconst 0, 1) := by decide +kernel
theorem d_Model_isOld_1 : decode prog_13_method_51_code 1 = .ok (.istore_n 2, 1) := by decide +kernel
theorem d_Model_isOld_2 : decode prog_13_method_51_code 2 = .ok (.iconst 0, 1) := by decide +kernel
theorem d_Model_isOld_3 : decode prog_13_method_51_code 3 = .ok (.istore_n 3, 1) := by decide +kernel
theorem d_Model_isOld_4 : decode prog_13_method_51_code 4 = .ok (.iload_n 3, 1) := by decide +kernel
theorem d_Model_isOld_5 : decode prog_13_method_51_code 5 = .ok (.bipush 6, 2) := by decide +kernel
theorem d_Model_isOld_7 : decode prog_13_method_51_code 7 = .ok (.if_icmp .ge 48, 3) := by decide +kernel
theorem d_Model_isOld_10 : decode prog_13_method_51_code 10 = .ok (.iload_n 2, 1) := by decide +kernel
theorem d_Model_isOld_11 : decode prog_13_method_51_code 11 = .ok (.ifCond .ne 32, 3) := by decide +kernel
theorem d_Model_isOld_14 : decode prog_13_method_51_code 14 = .ok (.aload_n 0, 1) := by decide +kernel
theorem d_Model_isOld_15 : decode prog_13_method_51_code 15 = .ok (.getfield 108, 3) := by decide +kernel
theorem d_Model_isOld_18 : decode prog_13_method_51_code 18 = .ok (.bipush 6, 2) := by decide +kernel
theorem d_Model_isOld_20 : decode prog_13_method_51_code 20 = .ok (.iload_n 1, 1) := by decide +kernel
theorem d_Model_isOld_21 : decode prog_13_method_51_code 21 = .ok (.imul, 1) := by decide +kernel
theorem d_Model_isOld_22 : decode prog_13_method_51_code 22 = .ok (.iload_n 3, 1) := by decide +kernel
theorem d_Model_isOld_23 : decode prog_13_method_51_code 23 = .ok (.iadd, 1) := by decide +kernel
theorem d_Model_isOld_24 : decode prog_13_method_51_code 24 = .ok (.baload, 1) := by decide +kernel
theorem d_Model_isOld_25 : decode prog_13_method_51_code 25 = .ok (.ifCond .eq 22, 3) := by decide +kernel
theorem d_Model_isOld_28 : decode prog_13_method_51_code 28 = .ok (.aload_n 0, 1) := by decide +kernel
theorem d_Model_isOld_29 : decode prog_13_method_51_code 29 = .ok (.getfield 55, 3) := by decide +kernel
theorem d_Model_isOld_32 : decode prog_13_method_51_code 32 = .ok (.iload_n 3, 1) := by decide +kernel
theorem d_Model_isOld_33 : decode prog_13_method_51_code 33 = .ok (.iaload, 1) := by decide +kernel
theorem d_Model_isOld_34 : decode prog_13_method_51_code 34 = .ok (.aload_n 0, 1) := by decide +kernel
theorem d_Model_isOld_35 : decode prog_13_method_51_code 35 = .ok (.getfield 70, 3) := by decide +kernel
theorem d_Model_isOld_38 : decode prog_13_method_51_code 38 = .ok (.iload_n 1, 1) := by decide +kernel
theorem d_Model_isOld_39 : decode prog_13_method_51_code 39 = .ok (.iaload, 1) := by decide +kernel
theorem d_Model_isOld_40 : decode prog_13_method_51_code 40 = .ok (.if_icmp .le 7, 3) := by decide +kernel
theorem d_Model_isOld_43 : decode prog_13_method_51_code 43 = .ok (.iconst 1, 1) := by decide +kernel
theorem d_Model_isOld_44 : decode prog_13_method_51_code 44 = .ok (.goto 4, 3) := by decide +kernel
theorem d_Model_isOld_47 : decode prog_13_method_51_code 47 = .ok (.iconst 0, 1) := by decide +kernel
theorem d_Model_isOld_48 : decode prog_13_method_51_code 48 = .ok (.istore_n 2, 1) := by decide +kernel
theorem d_Model_isOld_49 : decode prog_13_method_51_code 49 = .ok (.iinc 3 1, 3) := by decide +kernel
theorem d_Model_isOld_52 : decode prog_13_method_51_code 52 = .ok (.goto (-48), 3) := by decide +kernel
theorem d_Model_isOld_55 : decode prog_13_method_51_code 55 = .ok (.sipush 2048, 3) := by decide +kernel
theorem d_Model_isOld_58 : decode prog_13_method_51_code 58 = .ok (.iload_n 1, 1) := by decide +kernel
theorem d_Model_isOld_59 : decode prog_13_method_51_code 59 = .ok (.imul, 1) := by decide +kernel
theorem d_Model_isOld_60 : decode prog_13_method_51_code 60 = .ok (.istore_n 3, 1) := by decide +kernel
theorem d_Model_isOld_61 : decode prog_13_method_51_code 61 = .ok (.iload_n 3, 1) := by decide +kernel
theorem d_Model_isOld_62 : decode prog_13_method_51_code 62 = .ok (.sipush 2048, 3) := by decide +kernel
theorem d_Model_isOld_65 : decode prog_13_method_51_code 65 = .ok (.iload_n 1, 1) := by decide +kernel
theorem d_Model_isOld_66 : decode prog_13_method_51_code 66 = .ok (.imul, 1) := by decide +kernel
theorem d_Model_isOld_67 : decode prog_13_method_51_code 67 = .ok (.aload_n 0, 1) := by decide +kernel
theorem d_Model_isOld_68 : decode prog_13_method_51_code 68 = .ok (.getfield 98, 3) := by decide +kernel
theorem d_Model_isOld_71 : decode prog_13_method_51_code 71 = .ok (.iload_n 1, 1) := by decide +kernel
theorem d_Model_isOld_72 : decode prog_13_method_51_code 72 = .ok (.iaload, 1) := by decide +kernel
theorem d_Model_isOld_73 : decode prog_13_method_51_code 73 = .ok (.iadd, 1) := by decide +kernel
theorem d_Model_isOld_74 : decode prog_13_method_51_code 74 = .ok (.if_icmp .ge 66, 3) := by decide +kernel
theorem d_Model_isOld_77 : decode prog_13_method_51_code 77 = .ok (.iload_n 2, 1) := by decide +kernel
theorem d_Model_isOld_78 : decode prog_13_method_51_code 78 = .ok (.ifCond .ne 50, 3) := by decide +kernel
theorem d_Model_isOld_81 : decode prog_13_method_51_code 81 = .ok (.aload_n 0, 1) := by decide +kernel
theorem d_Model_isOld_82 : decode prog_13_method_51_code 82 = .ok (.getfield 105, 3) := by decide +kernel
theorem d_Model_isOld_85 : decode prog_13_method_51_code 85 = .ok (.iload_n 3, 1) := by decide +kernel
theorem d_Model_isOld_86 : decode prog_13_method_51_code 86 = .ok (.iaload, 1) := by decide +kernel
theorem d_Model_isOld_87 : decode prog_13_method_51_code 87 = .ok (.invokestatic 267, 3) := by decide +kernel
theorem d_Model_isOld_90 : decode prog_13_method_51_code 90 = .ok (.ifCond .eq 42, 3) := by decide +kernel
theorem d_Model_isOld_93 : decode prog_13_method_51_code 93 = .ok (.aload_n 0, 1) := by decide +kernel
theorem d_Model_isOld_94 : decode prog_13_method_51_code 94 = .ok (.getfield 52, 3) := by decide +kernel
theorem d_Model_isOld_97 : decode prog_13_method_51_code 97 = .ok (.sipush 2001, 3) := by decide +kernel
theorem d_Model_isOld_100 : decode prog_13_method_51_code 100 = .ok (.aload_n 0, 1) := by decide +kernel
theorem d_Model_isOld_101 : decode prog_13_method_51_code 101 = .ok (.getfield 102, 3) := by decide +kernel
theorem d_Model_isOld_104 : decode prog_13_method_51_code 104 = .ok (.iload_n 3, 1) := by decide +kernel
theorem d_Model_isOld_105 : decode prog_13_method_51_code 105 = .ok (.iaload, 1) := by decide +kernel
theorem d_Model_isOld_106 : decode prog_13_method_51_code 106 = .ok (.imul, 1) := by decide +kernel
theorem d_Model_isOld_107 : decode prog_13_method_51_code 107 = .ok (.aload_n 0, 1) := by decide +kernel
theorem d_Model_isOld_108 : decode prog_13_method_51_code 108 = .ok (.getfield 105, 3) := by decide +kernel
theorem d_Model_isOld_111 : decode prog_13_method_51_code 111 = .ok (.iload_n 3, 1) := by decide +kernel
theorem d_Model_isOld_112 : decode prog_13_method_51_code 112 = .ok (.iaload, 1) := by decide +kernel
theorem d_Model_isOld_113 : decode prog_13_method_51_code 113 = .ok (.iadd, 1) := by decide +kernel
theorem d_Model_isOld_114 : decode prog_13_method_51_code 114 = .ok (.sipush 1000, 3) := by decide +kernel
theorem d_Model_isOld_117 : decode prog_13_method_51_code 117 = .ok (.iadd, 1) := by decide +kernel
theorem d_Model_isOld_118 : decode prog_13_method_51_code 118 = .ok (.iaload, 1) := by decide +kernel
theorem d_Model_isOld_119 : decode prog_13_method_51_code 119 = .ok (.aload_n 0, 1) := by decide +kernel
theorem d_Model_isOld_120 : decode prog_13_method_51_code 120 = .ok (.getfield 70, 3) := by decide +kernel
theorem d_Model_isOld_123 : decode prog_13_method_51_code 123 = .ok (.iload_n 1, 1) := by decide +kernel
theorem d_Model_isOld_124 : decode prog_13_method_51_code 124 = .ok (.iaload, 1) := by decide +kernel
theorem d_Model_isOld_125 : decode prog_13_method_51_code 125 = .ok (.if_icmp .le 7, 3) := by decide +kernel
theorem d_Model_isOld_128 : decode prog_13_method_51_code 128 = .ok (.iconst 1, 1) := by decide +kernel
theorem d_Model_isOld_129 : decode prog_13_method_51_code 129 = .ok (.goto 4, 3) := by decide +kernel
theorem d_Model_isOld_132 : decode prog_13_method_51_code 132 = .ok (.iconst 0, 1) := by decide +kernel
theorem d_Model_isOld_133 : decode prog_13_method_51_code 133 = .ok (.istore_n 2, 1) := by decide +kernel
theorem d_Model_isOld_134 : decode prog_13_method_51_code 134 = .ok (.iinc 3 1, 3) := by decide +kernel
theorem d_Model_isOld_137 : decode prog_13_method_51_code 137 = .ok (.goto (-76), 3) := by decide +kernel
theorem d_Model_isOld_140 : decode prog_13_method_51_code 140 = .ok (.iload_n 2, 1) := by decide +kernel
theorem d_Model_isOld_141 : decode prog_13_method_51_code 141 = .ok (.ireturn, 1) := by decide +kernel
theorem d_Model_isTooMuch_0 : decode prog_13_method_54_code 0 = .ok (.iconst 0, 1) := by decide +kernel
theorem d_Model_isTooMuch_1 : decode prog_13_method_54_code 1 = .ok (.istore_n 2, 1) := by decide +kernel
theorem d_Model_isTooMuch_2 : decode prog_13_method_54_code 2 = .ok (.iconst 0, 1) := by decide +kernel
theorem d_Model_isTooMuch_3 : decode prog_13_method_54_code 3 = .ok (.istore_n 3, 1) := by decide +kernel
theorem d_Model_isTooMuch_4 : decode prog_13_method_54_code 4 = .ok (.iload_n 3, 1) := by decide +kernel
theorem d_Model_isTooMuch_5 : decode prog_13_method_54_code 5 = .ok (.aload_n 0, 1) := by decide +kernel
theorem d_Model_isTooMuch_6 : decode prog_13_method_54_code 6 = .ok (.getfield 239, 3) := by decide +kernel
theorem d_Model_isTooMuch_9 : decode prog_13_method_54_code 9 = .ok (.if_icmp .ge 155, 3) := by decide +kernel
theorem d_Model_isTooMuch_12 : decode prog_13_method_54_code 12 = .ok (.aload_n 0, 1) := by decide +kernel
theorem d_Model_isTooMuch_13 : decode prog_13_method_54_code 13 = .ok (.getfield 46, 3) := by decide +kernel
theorem d_Model_isTooMuch_16 : decode prog_13_method_54_code 16 = .ok (.bipush 24, 2) := by decide +kernel
theorem d_Model_isTooMuch_18 : decode prog_13_method_54_code 18 = .ok (.iload_n 3, 1) := by decide +kernel
theorem d_Model_isTooMuch_19 : decode prog_13_method_54_code 19 = .ok (.iadd, 1) := by decide +kernel
theorem d_Model_isTooMuch_20 : decode prog_13_method_54_code 20 = .ok (.iaload, 1) := by decide +kernel
theorem d_Model_isTooMuch_21 : decode prog_13_method_54_code 21 = .ok (.istore 4, 2) := by decide +kernel
theorem d_Model_isTooMuch_23 : decode prog_13_method_54_code 23 = .ok (.iconst 0, 1) := by decide +kernel
theorem d_Model_isTooMuch_24 : decode prog_13_method_54_code 24 = .ok (.istore 5, 2) := by decide +kernel
theorem d_Model_isTooMuch_26 : decode prog_13_method_54_code 26 = .ok (.iload 5, 2) := by decide +kernel
theorem d_Model_isTooMuch_28 : decode prog_13_method_54_code 28 = .ok (.aload_n 0, 1) := by decide +kernel
theorem d_Model_isTooMuch_29 : decode prog_13_method_54_code 29 = .ok (.getfield 294, 3) := by decide +kernel
theorem d_Model_isTooMuch_32 : decode prog_13_method_54_code 32 = .ok (.if_icmp .ge 109, 3) := by decide +kernel
theorem d_Model_isTooMuch_35 : decode prog_13_method_54_code 35 = .ok (.aload_n 0, 1) := by decide +kernel
theorem d_Model_isTooMuch_36 : decode prog_13_method_54_code 36 = .ok (.getfield 126, 3) := by decide +kernel
theorem d_Model_isTooMuch_39 : decode prog_13_method_54_code 39 = .ok (.iload 5, 2) := by decide +kernel
theorem d_Model_isTooMuch_41 : decode prog_13_method_54_code 41 = .ok (.iaload, 1) := by decide +kernel
theorem d_Model_isTooMuch_42 : decode prog_13_method_54_code 42 = .ok (.ifCond .ne 93, 3) := by decide +kernel
theorem d_Model_isTooMuch_45 : decode prog_13_method_54_code 45 = .ok (.aload_n 0, 1) := by decide +kernel
theorem d_Model_isTooMuch_46 : decode prog_13_method_54_code 46 = .ok (.getfield 129, 3) := by decide +kernel
theorem d_Model_isTooMuch_49 : decode prog_13_method_54_code 49 = .ok (.iload 5, 2) := by decide +kernel
theorem d_Model_isTooMuch_51 : decode prog_13_method_54_code 51 = .ok (.iaload, 1) := by decide +kernel
theorem d_Model_isTooMuch_52 : decode prog_13_method_54_code 52 = .ok (.iload_n 1, 1) := by decide +kernel
theorem d_Model_isTooMuch_53 : decode prog_13_method_54_code 53 = .ok (.if_icmp .ne 82, 3) := by decide +kernel
theorem d_Model_isTooMuch_56 : decode prog_13_method_54_code 56 = .ok (.aload_n 0, 1) := by decide +kernel
theorem d_Model_isTooMuch_57 : decode prog_13_method_54_code 57 = .ok (.getfield 132, 3) := by decide +kernel
theorem d_Model_isTooMuch_60 : decode prog_13_method_54_code 60 = .ok (.iload 5, 2) := by decide +kernel
theorem d_Model_isTooMuch_62 : decode prog_13_method_54_code 62 = .ok (.iaload, 1) := by decide +kernel
theorem d_Model_isTooMuch_63 : decode prog_13_method_54_code 63 = .ok (.iload_n 3, 1) := by decide +kernel
theorem d_Model_isTooMuch_64 : decode prog_13_method_54_code 64 = .ok (.if_icmp .ne 71, 3) := by decide +kernel
theorem d_Model_isTooMuch_67 : decode prog_13_method_54_code 67 = .ok (.aload_n 0, 1) := by decide +kernel
theorem d_Model_isTooMuch_68 : decode prog_13_method_54_code 68 = .ok (.iload 5, 2) := by decide +kernel
theorem d_Model_isTooMuch_70 : decode prog_13_method_54_code 70 = .ok (.invokevirtual 382, 3) := by decide +kernel
theorem d_Model_isTooMuch_73 : decode prog_13_method_54_code 73 = .ok (.ifCond .eq 62, 3) := by decide +kernel
theorem d_Model_isTooMuch_76 : decode prog_13_method_54_code 76 = .ok (.iload 4, 2) := by decide +kernel
theorem d_Model_isTooMuch_78 : decode prog_13_method_54_code 78 = .ok (.aload_n 0, 1) := by decide +kernel
theorem d_Model_isTooMuch_79 : decode prog_13_method_54_code 79 = .ok (.aload_n 0, 1) := by decide +kernel
theorem d_Model_isTooMuch_80 : decode prog_13_method_54_code 80 = .ok (.getfield 67, 3) := by decide +kernel
theorem d_Model_isTooMuch_83 : decode prog_13_method_54_code 83 = .ok (.iload_n 1, 1) := by decide +kernel
theorem d_Model_isTooMuch_84 : decode prog_13_method_54_code 84 = .ok (.iaload, 1) := by decide +kernel
theorem d_Model_isTooMuch_85 : decode prog_13_method_54_code 85 = .ok (.iload_n 3, 1) := by decide +kernel
theorem d_Model_isTooMuch_86 : decode prog_13_method_54_code 86 = .ok (.aload_n 0, 1) := by decide +kernel
theorem d_Model_isTooMuch_87 : decode prog_13_method_54_code 87 = .ok (.getfield 135, 3) := by decide +kernel
theorem d_Model_isTooMuch_90 : decode prog_13_method_54_code 90 = .ok (.iload 5, 2) := by decide +kernel
theorem d_Model_isTooMuch_92 : decode prog_13_method_54_code 92 = .ok (.iaload, 1) := by decide +kernel
theorem d_Model_isTooMuch_93 : decode prog_13_method_54_code 93 = .ok (.invokevirtual 305, 3) := by decide +kernel
theorem d_Model_isTooMuch_96 : decode prog_13_method_54_code 96 = .ok (.iconst (-1), 1) := by decide +kernel
theorem d_Model_isTooMuch_97 : decode prog_13_method_54_code 97 = .ok (.if_icmp .ne 7, 3) := by decide +kernel
theorem d_Model_isTooMuch_100 : decode prog_13_method_54_code 100 = .ok (.iconst 0, 1) := by decide +kernel
theorem d_Model_isTooMuch_101 : decode prog_13_method_54_code 101 = .ok (.goto 4, 3) := by decide +kernel
theorem d_Model_isTooMuch_104 : decode prog_13_method_54_code 104 = .ok (.iconst 1, 1) := by decide +kernel
theorem d_Model_isTooMuch_105 : decode prog_13_method_54_code 105 = .ok (.iadd, 1) := by decide +kernel
theorem d_Model_isTooMuch_106 : decode prog_13_method_54_code 106 = .ok (.istore 4, 2) := by decide +kernel
theorem d_Model_isTooMuch_108 : decode prog_13_method_54_code 108 = .ok (.iload 4, 2) := by decide +kernel
theorem d_Model_isTooMuch_110 : decode prog_13_method_54_code 110 = .ok (.aload_n 0, 1) := by decide +kernel
theorem d_Model_isTooMuch_111 : decode prog_13_method_54_code 111 = .ok (.iconst 4, 1) := by decide +kernel
theorem d_Model_isTooMuch_112 : decode prog_13_method_54_code 112 = .ok (.iload_n 3, 1) := by decide +kernel
theorem d_Model_isTooMuch_113 : decode prog_13_method_54_code 113 = .ok (.aload_n 0, 1) := by decide +kernel
theorem d_Model_isTooMuch_114 : decode prog_13_method_54_code 114 = .ok (.getfield 135, 3) := by decide +kernel
theorem d_Model_isTooMuch_117 : decode prog_13_method_54_code 117 = .ok (.iload 5, 2) := by decide +kernel
theorem d_Model_isTooMuch_119 : decode prog_13_method_54_code 119 = .ok (.iaload, 1) := by decide +kernel
theorem d_Model_isTooMuch_120 : decode prog_13_method_54_code 120 = .ok (.invokevirtual 305, 3) := by decide +kernel
theorem d_Model_isTooMuch_123 : decode prog_13_method_54_code 123 = .ok (.iconst (-1), 1) := by decide +kernel
theorem d_Model_isTooMuch_124 : decode prog_13_method_54_code 124 = .ok (.if_icmp .ne 7, 3) := by decide +kernel
theorem d_Model_isTooMuch_127 : decode prog_13_method_54_code 127 = .ok (.iconst 0, 1) := by decide +kernel
theorem d_Model_isTooMuch_128 : decode prog_13_method_54_code 128 = .ok (.goto 4, 3) := by decide +kernel
theorem d_Model_isTooMuch_131 : decode prog_13_method_54_code 131 = .ok (.iconst 1, 1) := by decide +kernel
theorem d_Model_isTooMuch_132 : decode prog_13_method_54_code 132 = .ok (.isub, 1) := by decide +kernel
theorem d_Model_isTooMuch_133 : decode prog_13_method_54_code 133 = .ok (.istore 4, 2) := by decide +kernel
theorem d_Model_isTooMuch_135 : decode prog_13_method_54_code 135 = .ok (.iinc 5 1, 3) := by decide +kernel
theorem d_Model_isTooMuch_138 : decode prog_13_method_54_code 138 = .ok (.goto (-112), 3) := by decide +kernel
theorem d_Model_isTooMuch_141 : decode prog_13_method_54_code 141 = .ok (.iload_n 2, 1) := by decide +kernel
theorem d_Model_isTooMuch_142 : decode prog_13_method_54_code 142 = .ok (.ifCond .ne 10, 3) := by decide +kernel
theorem d_Model_isTooMuch_145 : decode prog_13_method_54_code 145 = .ok (.iload 4, 2) := by decide +kernel
theorem d_Model_isTooMuch_147 : decode prog_13_method_54_code 147 = .ok (.bipush 8, 2) := by decide +kernel
theorem d_Model_isTooMuch_149 : decode prog_13_method_54_code 149 = .ok (.if_icmp .le 7, 3) := by decide +kernel
theorem d_Model_isTooMuch_152 : decode prog_13_method_54_code 152 = .ok (.iconst 1, 1) := by decide +kernel
theorem d_Model_isTooMuch_153 : decode prog_13_method_54_code 153 = .ok (.goto 4, 3) := by decide +kernel
theorem d_Model_isTooMuch_156 : decode prog_13_method_54_code 156 = .ok (.iconst 0, 1) := by decide +kernel
theorem d_Model_isTooMuch_157 : decode prog_13_method_54_code 157 = .ok (.istore_n 2, 1) := by decide +kernel
theorem d_Model_isTooMuch_158 : decode prog_13_method_54_code 158 = .ok (.iinc 3 1, 3) := by decide +kernel
theorem d_Model_isTooMuch_161 : decode prog_13_method_54_code 161 = .ok (.goto (-157), 3) := by decide +kernel
theorem d_Model_isTooMuch_164 : decode prog_13_method_54_code 164 = .ok (.iload_n 2, 1) := by decide +kernel
theorem d_Model_isTooMuch_165 : decode prog_13_method_54_code 165 = .ok (.ireturn, 1) := by decide +kernel
theorem d_Model_isFirstWrite_0 : decode prog_13_method_53_code 0 = .ok (.iconst 1, 1) := by decide +kernel
theorem d_Model_isFirstWrite_1 : decode prog_13_method_53_code 1 = .ok (.istore_n 2, 1) := by decide +kernel
theorem d_Model_isFirstWrite_2 : decode prog_13_method_53_code 2 = .ok (.iconst 0, 1) := by decide +kernel
theorem d_Model_isFirstWrite_3 : decode prog_13_method_53_code 3 = .ok (.istore_n 3, 1) := by decide +kernel
theorem d_Model_isFirstWrite_4 : decode prog_13_method_53_code 4 = .ok (.iload_n 3, 1) := by decide +kernel
theorem d_Model_isFirstWrite_5 : decode prog_13_method_53_code 5 = .ok (.iload_n 1, 1) := by decide +kernel
theorem d_Model_isFirstWrite_6 : decode prog_13_method_53_code 6 = .ok (.if_icmp .ge 73, 3) := by decide +kernel
theorem d_Model_isFirstWrite_9 : decode prog_13_method_53_code 9 = .ok (.iload_n 2, 1) := by decide +kernel
theorem d_Model_isFirstWrite_10 : decode prog_13_method_53_code 10 = .ok (.ifCond .eq 61, 3) := by decide +kernel
theorem d_Model_isFirstWrite_13 : decode prog_13_method_53_code 13 = .ok (.aload_n 0, 1) := by decide +kernel
theorem d_Model_isFirstWrite_14 : decode prog_13_method_53_code 14 = .ok (.getfield 126, 3) := by decide +kernel
theorem d_Model_isFirstWrite_17 : decode prog_13_method_53_code 17 = .ok (.iload_n 3, 1) := by decide +kernel
theorem d_Model_isFirstWrite_18 : decode prog_13_method_53_code 18 = .ok (.iaload, 1) := by decide +kernel
theorem d_Model_isFirstWrite_19 : decode prog_13_method_53_code 19 = .ok (.ifCond .ne 48, 3) := by decide +kernel
theorem d_Model_isFirstWrite_22 : decode prog_13_method_53_code 22 = .ok (.aload_n 0, 1) := by decide +kernel
theorem d_Model_isFirstWrite_23 : decode prog_13_method_53_code 23 = .ok (.getfield 129, 3) := by decide +kernel
theorem d_Model_isFirstWrite_26 : decode prog_13_method_53_code 26 = .ok (.iload_n 3, 1) := by decide +kernel
theorem d_Model_isFirstWrite_27 : decode prog_13_method_53_code 27 = .ok (.iaload, 1) := by decide +kernel
theorem d_Model_isFirstWrite_28 : decode prog_13_method_53_code 28 = .ok (.aload_n 0, 1) := by decide +kernel
theorem d_Model_isFirstWrite_29 : decode prog_13_method_53_code 29 = .ok (.getfield 129, 3) := by decide +kernel
theorem d_Model_isFirstWrite_32 : decode prog_13_method_53_code 32 = .ok (.iload_n 1, 1) := by decide +kernel
theorem d_Model_isFirstWrite_33 : decode prog_13_method_53_code 33 = .ok (.iaload, 1) := by decide +kernel
theorem d_Model_isFirstWrite_34 : decode prog_13_method_53_code 34 = .ok (.if_icmp .ne 33, 3) := by decide +kernel
theorem d_Model_isFirstWrite_37 : decode prog_13_method_53_code 37 = .ok (.aload_n 0, 1) := by decide +kernel
theorem d_Model_isFirstWrite_38 : decode prog_13_method_53_code 38 = .ok (.getfield 132, 3) := by decide +kernel
theorem d_Model_isFirstWrite_41 : decode prog_13_method_53_code 41 = .ok (.iload_n 3, 1) := by decide +kernel
theorem d_Model_isFirstWrite_42 : decode prog_13_method_53_code 42 = .ok (.iaload, 1) := by decide +kernel
theorem d_Model_isFirstWrite_43 : decode prog_13_method_53_code 43 = .ok (.aload_n 0, 1) := by decide +kernel
theorem d_Model_isFirstWrite_44 : decode prog_13_method_53_code 44 = .ok (.getfield 132, 3) := by decide +kernel
theorem d_Model_isFirstWrite_47 : decode prog_13_method_53_code 47 = .ok (.iload_n 1, 1) := by decide +kernel
theorem d_Model_isFirstWrite_48 : decode prog_13_method_53_code 48 = .ok (.iaload, 1) := by decide +kernel
theorem d_Model_isFirstWrite_49 : decode prog_13_method_53_code 49 = .ok (.if_icmp .ne 18, 3) := by decide +kernel
theorem d_Model_isFirstWrite_52 : decode prog_13_method_53_code 52 = .ok (.aload_n 0, 1) := by decide +kernel
theorem d_Model_isFirstWrite_53 : decode prog_13_method_53_code 53 = .ok (.getfield 135, 3) := by decide +kernel
theorem d_Model_isFirstWrite_56 : decode prog_13_method_53_code 56 = .ok (.iload_n 3, 1) := by decide +kernel
theorem d_Model_isFirstWrite_57 : decode prog_13_method_53_code 57 = .ok (.iaload, 1) := by decide +kernel
theorem d_Model_isFirstWrite_58 : decode prog_13_method_53_code 58 = .ok (.aload_n 0, 1) := by decide +kernel
theorem d_Model_isFirstWrite_59 : decode prog_13_method_53_code 59 = .ok (.getfield 135, 3) := by decide +kernel
theorem d_Model_isFirstWrite_62 : decode prog_13_method_53_code 62 = .ok (.iload_n 1, 1) := by decide +kernel
theorem d_Model_isFirstWrite_63 : decode prog_13_method_53_code 63 = .ok (.iaload, 1) := by decide +kernel
theorem d_Model_isFirstWrite_64 : decode prog_13_method_53_code 64 = .ok (.if_icmp .eq 7, 3) := by decide +kernel
theorem d_Model_isFirstWrite_67 : decode prog_13_method_53_code 67 = .ok (.iconst 1, 1) := by decide +kernel
theorem d_Model_isFirstWrite_68 : decode prog_13_method_53_code 68 = .ok (.goto 4, 3) := by decide +kernel
theorem d_Model_isFirstWrite_71 : decode prog_13_method_53_code 71 = .ok (.iconst 0, 1) := by decide +kernel
theorem d_Model_isFirstWrite_72 : decode prog_13_method_53_code 72 = .ok (.istore_n 2, 1) := by decide +kernel
theorem d_Model_isFirstWrite_73 : decode prog_13_method_53_code 73 = .ok (.iinc 3 1, 3) := by decide +kernel
theorem d_Model_isFirstWrite_76 : decode prog_13_method_53_code 76 = .ok (.goto (-72), 3) := by decide +kernel
theorem d_Model_isFirstWrite_79 : decode prog_13_method_53_code 79 = .ok (.iload_n 2, 1) := by decide +kernel
theorem d_Model_isFirstWrite_80 : decode prog_13_method_53_code 80 = .ok (.ireturn, 1) := by decide +kernel
theorem d_Model_commits_0 : decode prog_13_method_52_code 0 = .ok (.aload_n 0, 1) := by decide +kernel
theorem d_Model_commits_1 : decode prog_13_method_52_code 1 = .ok (.aload_n 0, 1) := by decide +kernel
theorem d_Model_commits_2 : decode prog_13_method_52_code 2 = .ok (.getfield 67, 3) := by decide +kernel
theorem d_Model_commits_5 : decode prog_13_method_52_code 5 = .ok (.iload_n 1, 1) := by decide +kernel
theorem d_Model_commits_6 : decode prog_13_method_52_code 6 = .ok (.iaload, 1) := by decide +kernel
theorem d_Model_commits_7 : decode prog_13_method_52_code 7 = .ok (.iload_n 2, 1) := by decide +kernel
theorem d_Model_commits_8 : decode prog_13_method_52_code 8 = .ok (.iload_n 3, 1) := by decide +kernel
theorem d_Model_commits_9 : decode prog_13_method_52_code 9 = .ok (.invokevirtual 305, 3) := by decide +kernel
theorem d_Model_commits_12 : decode prog_13_method_52_code 12 = .ok (.istore 4, 2) := by decide +kernel
theorem d_Model_commits_14 : decode prog_13_method_52_code 14 = .ok (.aload_n 0, 1) := by decide +kernel
theorem d_Model_commits_15 : decode prog_13_method_52_code 15 = .ok (.iconst 4, 1) := by decide +kernel
theorem d_Model_commits_16 : decode prog_13_method_52_code 16 = .ok (.iload_n 2, 1) := by decide +kernel
theorem d_Model_commits_17 : decode prog_13_method_52_code 17 = .ok (.iload_n 3, 1) := by decide +kernel
theorem d_Model_commits_18 : decode prog_13_method_52_code 18 = .ok (.invokevirtual 305, 3) := by decide +kernel
theorem d_Model_commits_21 : decode prog_13_method_52_code 21 = .ok (.istore 5, 2) := by decide +kernel
theorem d_Model_commits_23 : decode prog_13_method_52_code 23 = .ok (.iload 4, 2) := by decide +kernel
theorem d_Model_commits_25 : decode prog_13_method_52_code 25 = .ok (.iconst (-1), 1) := by decide +kernel
theorem d_Model_commits_26 : decode prog_13_method_52_code 26 = .ok (.if_icmp .ne 20, 3) := by decide +kernel
theorem d_Model_commits_29 : decode prog_13_method_52_code 29 = .ok (.iload 5, 2) := by decide +kernel
theorem d_Model_commits_31 : decode prog_13_method_52_code 31 = .ok (.iconst (-1), 1) := by decide +kernel
theorem d_Model_commits_32 : decode prog_13_method_52_code 32 = .ok (.if_icmp .eq 14, 3) := by decide +kernel
theorem d_Model_commits_35 : decode prog_13_method_52_code 35 = .ok (.aload_n 0, 1) := by decide +kernel
theorem d_Model_commits_36 : decode prog_13_method_52_code 36 = .ok (.iconst 4, 1) := by decide +kernel
theorem d_Model_commits_37 : decode prog_13_method_52_code 37 = .ok (.iload_n 2, 1) := by decide +kernel
theorem d_Model_commits_38 : decode prog_13_method_52_code 38 = .ok (.iload 5, 2) := by decide +kernel
theorem d_Model_commits_40 : decode prog_13_method_52_code 40 = .ok (.invokevirtual 344, 3) := by decide +kernel
theorem d_Model_commits_43 : decode prog_13_method_52_code 43 = .ok (.goto 59, 3) := by decide +kernel
theorem d_Model_commits_46 : decode prog_13_method_52_code 46 = .ok (.iload 4, 2) := by decide +kernel
theorem d_Model_commits_48 : decode prog_13_method_52_code 48 = .ok (.iconst (-1), 1) := by decide +kernel
theorem d_Model_commits_49 : decode prog_13_method_52_code 49 = .ok (.if_icmp .eq 53, 3) := by decide +kernel
theorem d_Model_commits_52 : decode prog_13_method_52_code 52 = .ok (.iload 5, 2) := by decide +kernel
theorem d_Model_commits_54 : decode prog_13_method_52_code 54 = .ok (.istore 6, 2) := by decide +kernel
theorem d_Model_commits_56 : decode prog_13_method_52_code 56 = .ok (.iload 5, 2) := by decide +kernel
theorem d_Model_commits_58 : decode prog_13_method_52_code 58 = .ok (.iconst (-1), 1) := by decide +kernel
theorem d_Model_commits_59 : decode prog_13_method_52_code 59 = .ok (.if_icmp .ne 27, 3) := by decide +kernel
theorem d_Model_commits_62 : decode prog_13_method_52_code 62 = .ok (.aload_n 0, 1) := by decide +kernel
theorem d_Model_commits_63 : decode prog_13_method_52_code 63 = .ok (.getfield 46, 3) := by decide +kernel
theorem d_Model_commits_66 : decode prog_13_method_52_code 66 = .ok (.bipush 24, 2) := by decide +kernel
theorem d_Model_commits_68 : decode prog_13_method_52_code 68 = .ok (.iload_n 2, 1) := by decide +kernel
theorem d_Model_commits_69 : decode prog_13_method_52_code 69 = .ok (.iadd, 1) := by decide +kernel
theorem d_Model_commits_70 : decode prog_13_method_52_code 70 = .ok (.iaload, 1) := by decide +kernel
theorem d_Model_commits_71 : decode prog_13_method_52_code 71 = .ok (.istore 6, 2) := by decide +kernel
theorem d_Model_commits_73 : decode prog_13_method_52_code 73 = .ok (.aload_n 0, 1) := by decide +kernel
theorem d_Model_commits_74 : decode prog_13_method_52_code 74 = .ok (.getfield 46, 3) := by decide +kernel
theorem d_Model_commits_77 : decode prog_13_method_52_code 77 = .ok (.bipush 24, 2) := by decide +kernel
theorem d_Model_commits_79 : decode prog_13_method_52_code 79 = .ok (.iload_n 2, 1) := by decide +kernel
theorem d_Model_commits_80 : decode prog_13_method_52_code 80 = .ok (.iadd, 1) := by decide +kernel
theorem d_Model_commits_81 : decode prog_13_method_52_code 81 = .ok (.dup2, 1) := by decide +kernel
theorem d_Model_commits_82 : decode prog_13_method_52_code 82 = .ok (.iaload, 1) := by decide +kernel
theorem d_Model_commits_83 : decode prog_13_method_52_code 83 = .ok (.iconst 1, 1) := by decide +kernel
theorem d_Model_commits_84 : decode prog_13_method_52_code 84 = .ok (.iadd, 1) := by decide +kernel
theorem d_Model_commits_85 : decode prog_13_method_52_code 85 = .ok (.iastore, 1) := by decide +kernel
theorem d_Model_commits_86 : decode prog_13_method_52_code 86 = .ok (.aload_n 0, 1) := by decide +kernel
theorem d_Model_commits_87 : decode prog_13_method_52_code 87 = .ok (.aload_n 0, 1) := by decide +kernel
theorem d_Model_commits_88 : decode prog_13_method_52_code 88 = .ok (.getfield 67, 3) := by decide +kernel
theorem d_Model_commits_91 : decode prog_13_method_52_code 91 = .ok (.iload_n 1, 1) := by decide +kernel
theorem d_Model_commits_92 : decode prog_13_method_52_code 92 = .ok (.iaload, 1) := by decide +kernel
theorem d_Model_commits_93 : decode prog_13_method_52_code 93 = .ok (.iload 4, 2) := by decide +kernel
theorem d_Model_commits_95 : decode prog_13_method_52_code 95 = .ok (.iconst 4, 1) := by decide +kernel
theorem d_Model_commits_96 : decode prog_13_method_52_code 96 = .ok (.iload 6, 2) := by decide +kernel
theorem d_Model_commits_98 : decode prog_13_method_52_code 98 = .ok (.iload_n 2, 1) := by decide +kernel
theorem d_Model_commits_99 : decode prog_13_method_52_code 99 = .ok (.invokevirtual 277, 3) := by decide +kernel
theorem d_Model_commits_102 : decode prog_13_method_52_code 102 = .ok (.aload_n 0, 1) := by decide +kernel
theorem d_Model_commits_103 : decode prog_13_method_52_code 103 = .ok (.getfield 52, 3) := by decide +kernel
theorem d_Model_commits_106 : decode prog_13_method_52_code 106 = .ok (.sipush 2001, 3) := by decide +kernel
theorem d_Model_commits_109 : decode prog_13_method_52_code 109 = .ok (.iload_n 2, 1) := by decide +kernel
theorem d_Model_commits_110 : decode prog_13_method_52_code 110 = .ok (.imul, 1) := by decide +kernel
theorem d_Model_commits_111 : decode prog_13_method_52_code 111 = .ok (.iload_n 3, 1) := by decide +kernel
theorem d_Model_commits_112 : decode prog_13_method_52_code 112 = .ok (.iadd, 1) := by decide +kernel
theorem d_Model_commits_113 : decode prog_13_method_52_code 113 = .ok (.sipush 1000, 3) := by decide +kernel
theorem d_Model_commits_116 : decode prog_13_method_52_code 116 = .ok (.iadd, 1) := by decide +kernel
theorem d_Model_commits_117 : decode prog_13_method_52_code 117 = .ok (.aload_n 0, 1) := by decide +kernel
theorem d_Model_commits_118 : decode prog_13_method_52_code 118 = .ok (.getfield 285, 3) := by decide +kernel
theorem d_Model_commits_121 : decode prog_13_method_52_code 121 = .ok (.iastore, 1) := by decide +kernel
theorem d_Model_commits_122 : decode prog_13_method_52_code 122 = .ok (.aload_n 0, 1) := by decide +kernel
theorem d_Model_commits_123 : decode prog_13_method_52_code 123 = .ok (.getfield 55, 3) := by decide +kernel
theorem d_Model_commits_126 : decode prog_13_method_52_code 126 = .ok (.iload_n 2, 1) := by decide +kernel
theorem d_Model_commits_127 : decode prog_13_method_52_code 127 = .ok (.aload_n 0, 1) := by decide +kernel
theorem d_Model_commits_128 : decode prog_13_method_52_code 128 = .ok (.getfield 285, 3) := by decide +kernel
theorem d_Model_commits_131 : decode prog_13_method_52_code 131 = .ok (.iastore, 1) := by decide +kernel
theorem d_Model_commits_132 : decode prog_13_method_52_code 132 = .ok (.return_, 1) := by decide +kernel
theorem d_Model_abort_0 : decode prog_13_method_56_code 0 = .ok (.aload_n 0, 1) := by decide +kernel
theorem d_Model_abort_1 : decode prog_13_method_56_code 1 = .ok (.iload_n 1, 1) := by decide +kernel
theorem d_Model_abort_2 : decode prog_13_method_56_code 2 = .ok (.invokevirtual 376, 3) := by decide +kernel
theorem d_Model_abort_5 : decode prog_13_method_56_code 5 = .ok (.istore_n 2, 1) := by decide +kernel
theorem d_Model_abort_6 : decode prog_13_method_56_code 6 = .ok (.aload_n 0, 1) := by decide +kernel
theorem d_Model_abort_7 : decode prog_13_method_56_code 7 = .ok (.iload_n 2, 1) := by decide +kernel
theorem d_Model_abort_8 : decode prog_13_method_56_code 8 = .ok (.ifCond .ne 7, 3) := by decide +kernel
theorem d_Model_abort_11 : decode prog_13_method_56_code 11 = .ok (.iconst 1, 1) := by decide +kernel
theorem d_Model_abort_12 : decode prog_13_method_56_code 12 = .ok (.goto 18, 3) := by decide +kernel
theorem d_Model_abort_15 : decode prog_13_method_56_code 15 = .ok (.aload_n 0, 1) := by decide +kernel
theorem d_Model_abort_16 : decode prog_13_method_56_code 16 = .ok (.getfield 61, 3) := by decide +kernel
theorem d_Model_abort_19 : decode prog_13_method_56_code 19 = .ok (.iload_n 1, 1) := by decide +kernel
theorem d_Model_abort_20 : decode prog_13_method_56_code 20 = .ok (.iaload, 1) := by decide +kernel
theorem d_Model_abort_21 : decode prog_13_method_56_code 21 = .ok (.iconst 2, 1) := by decide +kernel
theorem d_Model_abort_22 : decode prog_13_method_56_code 22 = .ok (.if_icmp .ge 7, 3) := by decide +kernel
theorem d_Model_abort_25 : decode prog_13_method_56_code 25 = .ok (.iconst 0, 1) := by decide +kernel
theorem d_Model_abort_26 : decode prog_13_method_56_code 26 = .ok (.goto 4, 3) := by decide +kernel
theorem d_Model_abort_29 : decode prog_13_method_56_code 29 = .ok (.iconst 2, 1) := by decide +kernel
theorem d_Model_abort_30 : decode prog_13_method_56_code 30 = .ok (.invokevirtual 254, 3) := by decide +kernel
theorem d_Model_abort_33 : decode prog_13_method_56_code 33 = .ok (.ifCond .eq 5, 3) := by decide +kernel
theorem d_Model_abort_36 : decode prog_13_method_56_code 36 = .ok (.iconst 0, 1) := by decide +kernel
theorem d_Model_abort_37 : decode prog_13_method_56_code 37 = .ok (.ireturn, 1) := by decide +kernel
theorem d_Model_abort_38 : decode prog_13_method_56_code 38 = .ok (.aload_n 0, 1) := by decide +kernel
theorem d_Model_abort_39 : decode prog_13_method_56_code 39 = .ok (.iload_n 1, 1) := by decide +kernel
theorem d_Model_abort_40 : decode prog_13_method_56_code 40 = .ok (.invokevirtual 359, 3) := by decide +kernel
theorem d_Model_abort_43 : decode prog_13_method_56_code 43 = .ok (.istore_n 3, 1) := by decide +kernel
theorem d_Model_abort_44 : decode prog_13_method_56_code 44 = .ok (.aload_n 0, 1) := by decide +kernel
theorem d_Model_abort_45 : decode prog_13_method_56_code 45 = .ok (.invokevirtual 373, 3) := by decide +kernel
theorem d_Model_abort_48 : decode prog_13_method_56_code 48 = .ok (.iload_n 3, 1) := by decide +kernel
theorem d_Model_abort_49 : decode prog_13_method_56_code 49 = .ok (.ireturn, 1) := by decide +kernel
theorem d_Model_state_0 : decode prog_13_method_57_code 0 = .ok (.aload_n 0, 1) := by decide +kernel
theorem d_Model_state_1 : decode prog_13_method_57_code 1 = .ok (.aload_n 0, 1) := by decide +kernel
theorem d_Model_state_2 : decode prog_13_method_57_code 2 = .ok (.iload_n 1, 1) := by decide +kernel
theorem d_Model_state_3 : decode prog_13_method_57_code 3 = .ok (.invokevirtual 376, 3) := by decide +kernel
theorem d_Model_state_6 : decode prog_13_method_57_code 6 = .ok (.ifCond .eq 7, 3) := by decide +kernel
theorem d_Model_state_9 : decode prog_13_method_57_code 9 = .ok (.iconst 0, 1) := by decide +kernel
theorem d_Model_state_10 : decode prog_13_method_57_code 10 = .ok (.goto 4, 3) := by decide +kernel
theorem d_Model_state_13 : decode prog_13_method_57_code 13 = .ok (.iconst 1, 1) := by decide +kernel
theorem d_Model_state_14 : decode prog_13_method_57_code 14 = .ok (.invokevirtual 254, 3) := by decide +kernel
theorem d_Model_state_17 : decode prog_13_method_57_code 17 = .ok (.ifCond .eq 7, 3) := by decide +kernel
theorem d_Model_state_20 : decode prog_13_method_57_code 20 = .ok (.iconst 0, 1) := by decide +kernel
theorem d_Model_state_21 : decode prog_13_method_57_code 21 = .ok (.goto 9, 3) := by decide +kernel
theorem d_Model_state_24 : decode prog_13_method_57_code 24 = .ok (.aload_n 0, 1) := by decide +kernel
theorem d_Model_state_25 : decode prog_13_method_57_code 25 = .ok (.getfield 61, 3) := by decide +kernel
theorem d_Model_state_28 : decode prog_13_method_57_code 28 = .ok (.iload_n 1, 1) := by decide +kernel
theorem d_Model_state_29 : decode prog_13_method_57_code 29 = .ok (.iaload, 1) := by decide +kernel
theorem d_Model_state_30 : decode prog_13_method_57_code 30 = .ok (.ireturn, 1) := by decide +kernel
theorem d_Model_outcome_0 : decode prog_13_method_58_code 0 = .ok (.aload_n 0, 1) := by decide +kernel
theorem d_Model_outcome_1 : decode prog_13_method_58_code 1 = .ok (.aload_n 0, 1) := by decide +kernel
theorem d_Model_outcome_2 : decode prog_13_method_58_code 2 = .ok (.iload_n 1, 1) := by decide +kernel
theorem d_Model_outcome_3 : decode prog_13_method_58_code 3 = .ok (.invokevirtual 376, 3) := by decide +kernel
theorem d_Model_outcome_6 : decode prog_13_method_58_code 6 = .ok (.ifCond .eq 7, 3) := by decide +kernel
theorem d_Model_outcome_9 : decode prog_13_method_58_code 9 = .ok (.iconst 0, 1) := by decide +kernel
theorem d_Model_outcome_10 : decode prog_13_method_58_code 10 = .ok (.goto 4, 3) := by decide +kernel
theorem d_Model_outcome_13 : decode prog_13_method_58_code 13 = .ok (.iconst 1, 1) := by decide +kernel
theorem d_Model_outcome_14 : decode prog_13_method_58_code 14 = .ok (.invokevirtual 254, 3) := by decide +kernel
theorem d_Model_outcome_17 : decode prog_13_method_58_code 17 = .ok (.ifCond .eq 7, 3) := by decide +kernel
theorem d_Model_outcome_20 : decode prog_13_method_58_code 20 = .ok (.iconst 0, 1) := by decide +kernel
theorem d_Model_outcome_21 : decode prog_13_method_58_code 21 = .ok (.goto 9, 3) := by decide +kernel
theorem d_Model_outcome_24 : decode prog_13_method_58_code 24 = .ok (.aload_n 0, 1) := by decide +kernel
theorem d_Model_outcome_25 : decode prog_13_method_58_code 25 = .ok (.getfield 64, 3) := by decide +kernel
theorem d_Model_outcome_28 : decode prog_13_method_58_code 28 = .ok (.iload_n 1, 1) := by decide +kernel
theorem d_Model_outcome_29 : decode prog_13_method_58_code 29 = .ok (.iaload, 1) := by decide +kernel
theorem d_Model_outcome_30 : decode prog_13_method_58_code 30 = .ok (.ireturn, 1) := by decide +kernel
theorem d_Model_waitsFor_0 : decode prog_13_method_59_code 0 = .ok (.aload_n 0, 1) := by decide +kernel
theorem d_Model_waitsFor_1 : decode prog_13_method_59_code 1 = .ok (.aload_n 0, 1) := by decide +kernel
theorem d_Model_waitsFor_2 : decode prog_13_method_59_code 2 = .ok (.iload_n 1, 1) := by decide +kernel
theorem d_Model_waitsFor_3 : decode prog_13_method_59_code 3 = .ok (.invokevirtual 376, 3) := by decide +kernel
theorem d_Model_waitsFor_6 : decode prog_13_method_59_code 6 = .ok (.ifCond .eq 7, 3) := by decide +kernel
theorem d_Model_waitsFor_9 : decode prog_13_method_59_code 9 = .ok (.iconst 0, 1) := by decide +kernel
theorem d_Model_waitsFor_10 : decode prog_13_method_59_code 10 = .ok (.goto 4, 3) := by decide +kernel
theorem d_Model_waitsFor_13 : decode prog_13_method_59_code 13 = .ok (.iconst 1, 1) := by decide +kernel
theorem d_Model_waitsFor_14 : decode prog_13_method_59_code 14 = .ok (.invokevirtual 254, 3) := by decide +kernel
theorem d_Model_waitsFor_17 : decode prog_13_method_59_code 17 = .ok (.ifCond .eq 7, 3) := by decide +kernel
theorem d_Model_waitsFor_20 : decode prog_13_method_59_code 20 = .ok (.iconst 0, 1) := by decide +kernel
theorem d_Model_waitsFor_21 : decode prog_13_method_59_code 21 = .ok (.goto 9, 3) := by decide +kernel
theorem d_Model_waitsFor_24 : decode prog_13_method_59_code 24 = .ok (.aload_n 0, 1) := by decide +kernel
theorem d_Model_waitsFor_25 : decode prog_13_method_59_code 25 = .ok (.getfield 73, 3) := by decide +kernel
theorem d_Model_waitsFor_28 : decode prog_13_method_59_code 28 = .ok (.iload_n 1, 1) := by decide +kernel
theorem d_Model_waitsFor_29 : decode prog_13_method_59_code 29 = .ok (.iaload, 1) := by decide +kernel
theorem d_Model_waitsFor_30 : decode prog_13_method_59_code 30 = .ok (.ireturn, 1) := by decide +kernel
theorem d_Model_hasRead_0 : decode prog_13_method_60_code 0 = .ok (.aload_n 0, 1) := by decide +kernel
theorem d_Model_hasRead_1 : decode prog_13_method_60_code 1 = .ok (.iload_n 1, 1) := by decide +kernel
theorem d_Model_hasRead_2 : decode prog_13_method_60_code 2 = .ok (.invokevirtual 376, 3) := by decide +kernel
theorem d_Model_hasRead_5 : decode prog_13_method_60_code 5 = .ok (.ifCond .eq 15, 3) := by decide +kernel
theorem d_Model_hasRead_8 : decode prog_13_method_60_code 8 = .ok (.aload_n 0, 1) := by decide +kernel
theorem d_Model_hasRead_9 : decode prog_13_method_60_code 9 = .ok (.iload_n 2, 1) := by decide +kernel
theorem d_Model_hasRead_10 : decode prog_13_method_60_code 10 = .ok (.invokevirtual 242, 3) := by decide +kernel
theorem d_Model_hasRead_13 : decode prog_13_method_60_code 13 = .ok (.ifCond .eq 7, 3) := by decide +kernel
theorem d_Model_hasRead_16 : decode prog_13_method_60_code 16 = .ok (.iconst 1, 1) := by decide +kernel
theorem d_Model_hasRead_17 : decode prog_13_method_60_code 17 = .ok (.goto 4, 3) := by decide +kernel
theorem d_Model_hasRead_20 : decode prog_13_method_60_code 20 = .ok (.iconst 0, 1) := by decide +kernel
theorem d_Model_hasRead_21 : decode prog_13_method_60_code 21 = .ok (.istore 4, 2) := by decide +kernel
theorem d_Model_hasRead_23 : decode prog_13_method_60_code 23 = .ok (.aload_n 0, 1) := by decide +kernel
theorem d_Model_hasRead_24 : decode prog_13_method_60_code 24 = .ok (.iload 4, 2) := by decide +kernel
theorem d_Model_hasRead_26 : decode prog_13_method_60_code 26 = .ok (.ifCond .eq 7, 3) := by decide +kernel
theorem d_Model_hasRead_29 : decode prog_13_method_60_code 29 = .ok (.iconst 0, 1) := by decide +kernel
theorem d_Model_hasRead_30 : decode prog_13_method_60_code 30 = .ok (.goto 4, 3) := by decide +kernel
theorem d_Model_hasRead_33 : decode prog_13_method_60_code 33 = .ok (.iconst 1, 1) := by decide +kernel
theorem d_Model_hasRead_34 : decode prog_13_method_60_code 34 = .ok (.invokevirtual 254, 3) := by decide +kernel
theorem d_Model_hasRead_37 : decode prog_13_method_60_code 37 = .ok (.ifCond .ne 17, 3) := by decide +kernel
theorem d_Model_hasRead_40 : decode prog_13_method_60_code 40 = .ok (.aload_n 0, 1) := by decide +kernel
theorem d_Model_hasRead_41 : decode prog_13_method_60_code 41 = .ok (.iload_n 1, 1) := by decide +kernel
theorem d_Model_hasRead_42 : decode prog_13_method_60_code 42 = .ok (.iload_n 2, 1) := by decide +kernel
theorem d_Model_hasRead_43 : decode prog_13_method_60_code 43 = .ok (.iload_n 3, 1) := by decide +kernel
theorem d_Model_hasRead_44 : decode prog_13_method_60_code 44 = .ok (.invokevirtual 291, 3) := by decide +kernel
theorem d_Model_hasRead_47 : decode prog_13_method_60_code 47 = .ok (.ifCond .eq 7, 3) := by decide +kernel
theorem d_Model_hasRead_50 : decode prog_13_method_60_code 50 = .ok (.iconst 1, 1) := by decide +kernel
theorem d_Model_hasRead_51 : decode prog_13_method_60_code 51 = .ok (.goto 4, 3) := by decide +kernel
theorem d_Model_hasRead_54 : decode prog_13_method_60_code 54 = .ok (.iconst 0, 1) := by decide +kernel
theorem d_Model_hasRead_55 : decode prog_13_method_60_code 55 = .ok (.ireturn, 1) := by decide +kernel
theorem d_Model_own_0 : decode prog_13_method_62_code 0 = .ok (.aload_n 0, 1) := by decide +kernel
theorem d_Model_own_1 : decode prog_13_method_62_code 1 = .ok (.iload_n 1, 1) := by decide +kernel
theorem d_Model_own_2 : decode prog_13_method_62_code 2 = .ok (.invokevirtual 376, 3) := by decide +kernel
theorem d_Model_own_5 : decode prog_13_method_62_code 5 = .ok (.ifCond .eq 17, 3) := by decide +kernel
theorem d_Model_own_8 : decode prog_13_method_62_code 8 = .ok (.aload_n 0, 1) := by decide +kernel
theorem d_Model_own_9 : decode prog_13_method_62_code 9 = .ok (.iload_n 2, 1) := by decide +kernel
theorem d_Model_own_10 : decode prog_13_method_62_code 10 = .ok (.iload 4, 2) := by decide +kernel
theorem d_Model_own_12 : decode prog_13_method_62_code 12 = .ok (.invokevirtual 260, 3) := by decide +kernel
theorem d_Model_own_15 : decode prog_13_method_62_code 15 = .ok (.ifCond .eq 7, 3) := by decide +kernel
theorem d_Model_own_18 : decode prog_13_method_62_code 18 = .ok (.iconst 1, 1) := by decide +kernel
theorem d_Model_own_19 : decode prog_13_method_62_code 19 = .ok (.goto 4, 3) := by decide +kernel
theorem d_Model_own_22 : decode prog_13_method_62_code 22 = .ok (.iconst 0, 1) := by decide +kernel
theorem d_Model_own_23 : decode prog_13_method_62_code 23 = .ok (.istore 5, 2) := by decide +kernel
theorem d_Model_own_25 : decode prog_13_method_62_code 25 = .ok (.aload_n 0, 1) := by decide +kernel
theorem d_Model_own_26 : decode prog_13_method_62_code 26 = .ok (.iload 5, 2) := by decide +kernel
theorem d_Model_own_28 : decode prog_13_method_62_code 28 = .ok (.ifCond .eq 7, 3) := by decide +kernel
theorem d_Model_own_31 : decode prog_13_method_62_code 31 = .ok (.iconst 0, 1) := by decide +kernel
theorem d_Model_own_32 : decode prog_13_method_62_code 32 = .ok (.goto 4, 3) := by decide +kernel
theorem d_Model_own_35 : decode prog_13_method_62_code 35 = .ok (.iconst 1, 1) := by decide +kernel
theorem d_Model_own_36 : decode prog_13_method_62_code 36 = .ok (.invokevirtual 254, 3) := by decide +kernel
theorem d_Model_own_39 : decode prog_13_method_62_code 39 = .ok (.ifCond .eq 5, 3) := by decide +kernel
theorem d_Model_own_42 : decode prog_13_method_62_code 42 = .ok (.iconst 0, 1) := by decide +kernel
theorem d_Model_own_43 : decode prog_13_method_62_code 43 = .ok (.ireturn, 1) := by decide +kernel
theorem d_Model_own_44 : decode prog_13_method_62_code 44 = .ok (.aload_n 0, 1) := by decide +kernel
theorem d_Model_own_45 : decode prog_13_method_62_code 45 = .ok (.getfield 61, 3) := by decide +kernel
theorem d_Model_own_48 : decode prog_13_method_62_code 48 = .ok (.iload_n 1, 1) := by decide +kernel
theorem d_Model_own_49 : decode prog_13_method_62_code 49 = .ok (.iaload, 1) := by decide +kernel
theorem d_Model_own_50 : decode prog_13_method_62_code 50 = .ok (.iconst 2, 1) := by decide +kernel
theorem d_Model_own_51 : decode prog_13_method_62_code 51 = .ok (.if_icmp .ge 20, 3) := by decide +kernel
theorem d_Model_own_54 : decode prog_13_method_62_code 54 = .ok (.aload_n 0, 1) := by decide +kernel
theorem d_Model_own_55 : decode prog_13_method_62_code 55 = .ok (.aload_n 0, 1) := by decide +kernel
theorem d_Model_own_56 : decode prog_13_method_62_code 56 = .ok (.getfield 67, 3) := by decide +kernel
theorem d_Model_own_59 : decode prog_13_method_62_code 59 = .ok (.iload_n 1, 1) := by decide +kernel
theorem d_Model_own_60 : decode prog_13_method_62_code 60 = .ok (.iaload, 1) := by decide +kernel
theorem d_Model_own_61 : decode prog_13_method_62_code 61 = .ok (.iload_n 2, 1) := by decide +kernel
theorem d_Model_own_62 : decode prog_13_method_62_code 62 = .ok (.iload_n 3, 1) := by decide +kernel
theorem d_Model_own_63 : decode prog_13_method_62_code 63 = .ok (.iload 4, 2) := by decide +kernel
theorem d_Model_own_65 : decode prog_13_method_62_code 65 = .ok (.invokevirtual 397, 3) := by decide +kernel
theorem d_Model_own_68 : decode prog_13_method_62_code 68 = .ok (.goto 5, 3) := by decide +kernel
theorem d_Model_own_71 : decode prog_13_method_62_code 71 = .ok (.ldc 246, 2) := by decide +kernel
theorem d_Model_own_73 : decode prog_13_method_62_code 73 = .ok (.ireturn, 1) := by decide +kernel
theorem d_Model_valueAt_0 : decode prog_13_method_61_code 0 = .ok (.iload_n 3, 1) := by decide +kernel
theorem d_Model_valueAt_1 : decode prog_13_method_61_code 1 = .ok (.ldc 246, 2) := by decide +kernel
theorem d_Model_valueAt_3 : decode prog_13_method_61_code 3 = .ok (.if_icmp .ne 7, 3) := by decide +kernel
theorem d_Model_valueAt_6 : decode prog_13_method_61_code 6 = .ok (.iconst (-1), 1) := by decide +kernel
theorem d_Model_valueAt_7 : decode prog_13_method_61_code 7 = .ok (.goto 10, 3) := by decide +kernel
theorem d_Model_valueAt_10 : decode prog_13_method_61_code 10 = .ok (.aload_n 0, 1) := by decide +kernel
theorem d_Model_valueAt_11 : decode prog_13_method_61_code 11 = .ok (.iload_n 1, 1) := by decide +kernel
theorem d_Model_valueAt_12 : decode prog_13_method_61_code 12 = .ok (.iload_n 2, 1) := by decide +kernel
theorem d_Model_valueAt_13 : decode prog_13_method_61_code 13 = .ok (.iload_n 3, 1) := by decide +kernel
theorem d_Model_valueAt_14 : decode prog_13_method_61_code 14 = .ok (.invokevirtual 305, 3) := by decide +kernel
theorem d_Model_valueAt_17 : decode prog_13_method_61_code 17 = .ok (.istore 5, 2) := by decide +kernel
theorem d_Model_valueAt_19 : decode prog_13_method_61_code 19 = .ok (.iload 5, 2) := by decide +kernel
theorem d_Model_valueAt_21 : decode prog_13_method_61_code 21 = .ok (.iconst (-1), 1) := by decide +kernel
theorem d_Model_valueAt_22 : decode prog_13_method_61_code 22 = .ok (.if_icmp .ne 8, 3) := by decide +kernel
theorem d_Model_valueAt_25 : decode prog_13_method_61_code 25 = .ok (.ldc 246, 2) := by decide +kernel
theorem d_Model_valueAt_27 : decode prog_13_method_61_code 27 = .ok (.goto 17, 3) := by decide +kernel
theorem d_Model_valueAt_30 : decode prog_13_method_61_code 30 = .ok (.aload_n 0, 1) := by decide +kernel
theorem d_Model_valueAt_31 : decode prog_13_method_61_code 31 = .ok (.getfield 49, 3) := by decide +kernel
theorem d_Model_valueAt_34 : decode prog_13_method_61_code 34 = .ok (.iload_n 1, 1) := by decide +kernel
theorem d_Model_valueAt_35 : decode prog_13_method_61_code 35 = .ok (.iload_n 2, 1) := by decide +kernel
theorem d_Model_valueAt_36 : decode prog_13_method_61_code 36 = .ok (.iload 5, 2) := by decide +kernel
theorem d_Model_valueAt_38 : decode prog_13_method_61_code 38 = .ok (.iload 4, 2) := by decide +kernel
theorem d_Model_valueAt_40 : decode prog_13_method_61_code 40 = .ok (.invokestatic 273, 3) := by decide +kernel
theorem d_Model_valueAt_43 : decode prog_13_method_61_code 43 = .ok (.iaload, 1) := by decide +kernel
theorem d_Model_valueAt_44 : decode prog_13_method_61_code 44 = .ok (.ireturn, 1) := by decide +kernel
theorem d_Model_committed_0 : decode prog_13_method_64_code 0 = .ok (.aload_n 0, 1) := by decide +kernel
theorem d_Model_committed_1 : decode prog_13_method_64_code 1 = .ok (.iload_n 1, 1) := by decide +kernel
theorem d_Model_committed_2 : decode prog_13_method_64_code 2 = .ok (.iload_n 2, 1) := by decide +kernel
theorem d_Model_committed_3 : decode prog_13_method_64_code 3 = .ok (.iload_n 3, 1) := by decide +kernel
theorem d_Model_committed_4 : decode prog_13_method_64_code 4 = .ok (.invokevirtual 400, 3) := by decide +kernel
theorem d_Model_committed_7 : decode prog_13_method_64_code 7 = .ok (.ireturn, 1) := by decide +kernel
theorem d_Model_settled_0 : decode prog_13_method_63_code 0 = .ok (.aload_n 0, 1) := by decide +kernel
theorem d_Model_settled_1 : decode prog_13_method_63_code 1 = .ok (.aload_n 0, 1) := by decide +kernel
theorem d_Model_settled_2 : decode prog_13_method_63_code 2 = .ok (.iload_n 1, 1) := by decide +kernel
theorem d_Model_settled_3 : decode prog_13_method_63_code 3 = .ok (.iload_n 3, 1) := by decide +kernel
theorem d_Model_settled_4 : decode prog_13_method_63_code 4 = .ok (.invokevirtual 260, 3) := by decide +kernel
theorem d_Model_settled_7 : decode prog_13_method_63_code 7 = .ok (.ifCond .eq 7, 3) := by decide +kernel
theorem d_Model_settled_10 : decode prog_13_method_63_code 10 = .ok (.iconst 0, 1) := by decide +kernel
theorem d_Model_settled_11 : decode prog_13_method_63_code 11 = .ok (.goto 4, 3) := by decide +kernel
theorem d_Model_settled_14 : decode prog_13_method_63_code 14 = .ok (.iconst 1, 1) := by decide +kernel
theorem d_Model_settled_15 : decode prog_13_method_63_code 15 = .ok (.invokevirtual 254, 3) := by decide +kernel
theorem d_Model_settled_18 : decode prog_13_method_63_code 18 = .ok (.ifCond .eq 7, 3) := by decide +kernel
theorem d_Model_settled_21 : decode prog_13_method_63_code 21 = .ok (.iconst 0, 1) := by decide +kernel
theorem d_Model_settled_22 : decode prog_13_method_63_code 22 = .ok (.goto 11, 3) := by decide +kernel
theorem d_Model_settled_25 : decode prog_13_method_63_code 25 = .ok (.aload_n 0, 1) := by decide +kernel
theorem d_Model_settled_26 : decode prog_13_method_63_code 26 = .ok (.iconst 4, 1) := by decide +kernel
theorem d_Model_settled_27 : decode prog_13_method_63_code 27 = .ok (.iload_n 1, 1) := by decide +kernel
theorem d_Model_settled_28 : decode prog_13_method_63_code 28 = .ok (.iload_n 2, 1) := by decide +kernel
theorem d_Model_settled_29 : decode prog_13_method_63_code 29 = .ok (.iload_n 3, 1) := by decide +kernel
theorem d_Model_settled_30 : decode prog_13_method_63_code 30 = .ok (.invokevirtual 397, 3) := by decide +kernel
theorem d_Model_settled_33 : decode prog_13_method_63_code 33 = .ok (.ireturn, 1) := by decide +kernel
theorem d_Model_committedByLog_0 : decode prog_13_method_65_code 0 = .ok (.aload_n 0, 1) := by decide +kernel
theorem d_Model_committedByLog_1 : decode prog_13_method_65_code 1 = .ok (.iload_n 1, 1) := by decide +kernel
theorem d_Model_committedByLog_2 : decode prog_13_method_65_code 2 = .ok (.iload_n 2, 1) := by decide +kernel
theorem d_Model_committedByLog_3 : decode prog_13_method_65_code 3 = .ok (.iload_n 3, 1) := by decide +kernel
theorem d_Model_committedByLog_4 : decode prog_13_method_65_code 4 = .ok (.invokevirtual 400, 3) := by decide +kernel
theorem d_Model_committedByLog_7 : decode prog_13_method_65_code 7 = .ok (.ireturn, 1) := by decide +kernel
theorem d_Model_rowsOf_0 : decode prog_13_method_66_code 0 = .ok (.aload_n 0, 1) := by decide +kernel
theorem d_Model_rowsOf_1 : decode prog_13_method_66_code 1 = .ok (.aload_n 0, 1) := by decide +kernel
theorem d_Model_rowsOf_2 : decode prog_13_method_66_code 2 = .ok (.iload_n 1, 1) := by decide +kernel
theorem d_Model_rowsOf_3 : decode prog_13_method_66_code 3 = .ok (.invokevirtual 242, 3) := by decide +kernel
theorem d_Model_rowsOf_6 : decode prog_13_method_66_code 6 = .ok (.ifCond .eq 7, 3) := by decide +kernel
theorem d_Model_rowsOf_9 : decode prog_13_method_66_code 9 = .ok (.iconst 0, 1) := by decide +kernel
theorem d_Model_rowsOf_10 : decode prog_13_method_66_code 10 = .ok (.goto 4, 3) := by decide +kernel
theorem d_Model_rowsOf_13 : decode prog_13_method_66_code 13 = .ok (.iconst 1, 1) := by decide +kernel
theorem d_Model_rowsOf_14 : decode prog_13_method_66_code 14 = .ok (.invokevirtual 254, 3) := by decide +kernel
theorem d_Model_rowsOf_17 : decode prog_13_method_66_code 17 = .ok (.ifCond .eq 7, 3) := by decide +kernel
theorem d_Model_rowsOf_20 : decode prog_13_method_66_code 20 = .ok (.iconst 0, 1) := by decide +kernel
theorem d_Model_rowsOf_21 : decode prog_13_method_66_code 21 = .ok (.goto 12, 3) := by decide +kernel
theorem d_Model_rowsOf_24 : decode prog_13_method_66_code 24 = .ok (.aload_n 0, 1) := by decide +kernel
theorem d_Model_rowsOf_25 : decode prog_13_method_66_code 25 = .ok (.getfield 46, 3) := by decide +kernel
theorem d_Model_rowsOf_28 : decode prog_13_method_66_code 28 = .ok (.bipush 24, 2) := by decide +kernel
theorem d_Model_rowsOf_30 : decode prog_13_method_66_code 30 = .ok (.iload_n 1, 1) := by decide +kernel
theorem d_Model_rowsOf_31 : decode prog_13_method_66_code 31 = .ok (.iadd, 1) := by decide +kernel
theorem d_Model_rowsOf_32 : decode prog_13_method_66_code 32 = .ok (.iaload, 1) := by decide +kernel
theorem d_Model_rowsOf_33 : decode prog_13_method_66_code 33 = .ok (.ireturn, 1) := by decide +kernel
theorem d_Model_scan_0 : decode prog_13_method_70_code 0 = .ok (.aload_n 0, 1) := by decide +kernel
theorem d_Model_scan_1 : decode prog_13_method_70_code 1 = .ok (.aload_n 0, 1) := by decide +kernel
theorem d_Model_scan_2 : decode prog_13_method_70_code 2 = .ok (.iload_n 1, 1) := by decide +kernel
theorem d_Model_scan_3 : decode prog_13_method_70_code 3 = .ok (.invokevirtual 242, 3) := by decide +kernel
theorem d_Model_scan_6 : decode prog_13_method_70_code 6 = .ok (.ifCond .ne 7, 3) := by decide +kernel
theorem d_Model_scan_9 : decode prog_13_method_70_code 9 = .ok (.iconst 1, 1) := by decide +kernel
theorem d_Model_scan_10 : decode prog_13_method_70_code 10 = .ok (.goto 32, 3) := by decide +kernel
theorem d_Model_scan_13 : decode prog_13_method_70_code 13 = .ok (.aload_n 0, 1) := by decide +kernel
theorem d_Model_scan_14 : decode prog_13_method_70_code 14 = .ok (.getfield 406, 3) := by decide +kernel
theorem d_Model_scan_17 : decode prog_13_method_70_code 17 = .ok (.bipush 6, 2) := by decide +kernel
theorem d_Model_scan_19 : decode prog_13_method_70_code 19 = .ok (.if_icmp .eq 18, 3) := by decide +kernel
theorem d_Model_scan_22 : decode prog_13_method_70_code 22 = .ok (.aload_n 0, 1) := by decide +kernel
theorem d_Model_scan_23 : decode prog_13_method_70_code 23 = .ok (.invokevirtual 409, 3) := by decide +kernel
theorem d_Model_scan_26 : decode prog_13_method_70_code 26 = .ok (.ifCond .ne 11, 3) := by decide +kernel
theorem d_Model_scan_29 : decode prog_13_method_70_code 29 = .ok (.aload_n 0, 1) := by decide +kernel
theorem d_Model_scan_30 : decode prog_13_method_70_code 30 = .ok (.getfield 412, 3) := by decide +kernel
theorem d_Model_scan_33 : decode prog_13_method_70_code 33 = .ok (.iconst 3, 1) := by decide +kernel
theorem d_Model_scan_34 : decode prog_13_method_70_code 34 = .ok (.if_icmp .ne 7, 3) := by decide +kernel
theorem d_Model_scan_37 : decode prog_13_method_70_code 37 = .ok (.iconst 2, 1) := by decide +kernel
theorem d_Model_scan_38 : decode prog_13_method_70_code 38 = .ok (.goto 4, 3) := by decide +kernel
theorem d_Model_scan_41 : decode prog_13_method_70_code 41 = .ok (.iconst 0, 1) := by decide +kernel
theorem d_Model_scan_42 : decode prog_13_method_70_code 42 = .ok (.invokevirtual 254, 3) := by decide +kernel
theorem d_Model_scan_45 : decode prog_13_method_70_code 45 = .ok (.ifCond .eq 5, 3) := by decide +kernel
theorem d_Model_scan_48 : decode prog_13_method_70_code 48 = .ok (.iconst 0, 1) := by decide +kernel
theorem d_Model_scan_49 : decode prog_13_method_70_code 49 = .ok (.ireturn, 1) := by decide +kernel
theorem d_Model_scan_50 : decode prog_13_method_70_code 50 = .ok (.aload_n 0, 1) := by decide +kernel
theorem d_Model_scan_51 : decode prog_13_method_70_code 51 = .ok (.getfield 138, 3) := by decide +kernel
theorem d_Model_scan_54 : decode prog_13_method_70_code 54 = .ok (.aload_n 0, 1) := by decide +kernel
theorem d_Model_scan_55 : decode prog_13_method_70_code 55 = .ok (.getfield 406, 3) := by decide +kernel
theorem d_Model_scan_58 : decode prog_13_method_70_code 58 = .ok (.aload_n 0, 1) := by decide +kernel
theorem d_Model_scan_59 : decode prog_13_method_70_code 59 = .ok (.getfield 403, 3) := by decide +kernel
theorem d_Model_scan_62 : decode prog_13_method_70_code 62 = .ok (.iastore, 1) := by decide +kernel
theorem d_Model_scan_63 : decode prog_13_method_70_code 63 = .ok (.aload_n 0, 1) := by decide +kernel
theorem d_Model_scan_64 : decode prog_13_method_70_code 64 = .ok (.getfield 141, 3) := by decide +kernel
theorem d_Model_scan_67 : decode prog_13_method_70_code 67 = .ok (.aload_n 0, 1) := by decide +kernel
theorem d_Model_scan_68 : decode prog_13_method_70_code 68 = .ok (.getfield 406, 3) := by decide +kernel
theorem d_Model_scan_71 : decode prog_13_method_70_code 71 = .ok (.aload_n 0, 1) := by decide +kernel
theorem d_Model_scan_72 : decode prog_13_method_70_code 72 = .ok (.getfield 7, 3) := by decide +kernel
theorem d_Model_scan_75 : decode prog_13_method_70_code 75 = .ok (.iload_n 1, 1) := by decide +kernel
theorem d_Model_scan_76 : decode prog_13_method_70_code 76 = .ok (.iaload, 1) := by decide +kernel
theorem d_Model_scan_77 : decode prog_13_method_70_code 77 = .ok (.iastore, 1) := by decide +kernel
theorem d_Model_scan_78 : decode prog_13_method_70_code 78 = .ok (.aload_n 0, 1) := by decide +kernel
theorem d_Model_scan_79 : decode prog_13_method_70_code 79 = .ok (.dup, 1) := by decide +kernel
theorem d_Model_scan_80 : decode prog_13_method_70_code 80 = .ok (.getfield 406, 3) := by decide +kernel
theorem d_Model_scan_83 : decode prog_13_method_70_code 83 = .ok (.iconst 1, 1) := by decide +kernel
theorem d_Model_scan_84 : decode prog_13_method_70_code 84 = .ok (.iadd, 1) := by decide +kernel
theorem d_Model_scan_85 : decode prog_13_method_70_code 85 = .ok (.putfield 406, 3) := by decide +kernel
theorem d_Model_scan_88 : decode prog_13_method_70_code 88 = .ok (.aload_n 0, 1) := by decide +kernel
theorem d_Model_scan_89 : decode prog_13_method_70_code 89 = .ok (.dup, 1) := by decide +kernel
theorem d_Model_scan_90 : decode prog_13_method_70_code 90 = .ok (.getfield 412, 3) := by decide +kernel
theorem d_Model_scan_93 : decode prog_13_method_70_code 93 = .ok (.iconst 1, 1) := by decide +kernel
theorem d_Model_scan_94 : decode prog_13_method_70_code 94 = .ok (.iadd, 1) := by decide +kernel
theorem d_Model_scan_95 : decode prog_13_method_70_code 95 = .ok (.putfield 412, 3) := by decide +kernel
theorem d_Model_scan_98 : decode prog_13_method_70_code 98 = .ok (.aload_n 0, 1) := by decide +kernel
theorem d_Model_scan_99 : decode prog_13_method_70_code 99 = .ok (.iconst 0, 1) := by decide +kernel
theorem d_Model_scan_100 : decode prog_13_method_70_code 100 = .ok (.iload_n 1, 1) := by decide +kernel
theorem d_Model_scan_101 : decode prog_13_method_70_code 101 = .ok (.iconst 0, 1) := by decide +kernel
theorem d_Model_scan_102 : decode prog_13_method_70_code 102 = .ok (.iconst 0, 1) := by decide +kernel
theorem d_Model_scan_103 : decode prog_13_method_70_code 103 = .ok (.iconst 0, 1) := by decide +kernel
theorem d_Model_scan_104 : decode prog_13_method_70_code 104 = .ok (.invokevirtual 415, 3) := by decide +kernel
theorem d_Model_scan_107 : decode prog_13_method_70_code 107 = .ok (.aload_n 0, 1) := by decide +kernel
theorem d_Model_scan_108 : decode prog_13_method_70_code 108 = .ok (.getfield 406, 3) := by decide +kernel
theorem d_Model_scan_111 : decode prog_13_method_70_code 111 = .ok (.ireturn, 1) := by decide +kernel
theorem d_Model_isFull_0 : decode prog_13_method_68_code 0 = .ok (.aload_n 0, 1) := by decide +kernel
theorem d_Model_isFull_1 : decode prog_13_method_68_code 1 = .ok (.getfield 403, 3) := by decide +kernel
theorem d_Model_isFull_4 : decode prog_13_method_68_code 4 = .ok (.bipush 12, 2) := by decide +kernel
theorem d_Model_isFull_6 : decode prog_13_method_68_code 6 = .ok (.if_icmp .ne 7, 3) := by decide +kernel
theorem d_Model_isFull_9 : decode prog_13_method_68_code 9 = .ok (.iconst 1, 1) := by decide +kernel
theorem d_Model_isFull_10 : decode prog_13_method_68_code 10 = .ok (.goto 4, 3) := by decide +kernel
theorem d_Model_isFull_13 : decode prog_13_method_68_code 13 = .ok (.iconst 0, 1) := by decide +kernel
theorem d_Model_isFull_14 : decode prog_13_method_68_code 14 = .ok (.ireturn, 1) := by decide +kernel
theorem d_Model_adds_0 : decode prog_13_method_67_code 0 = .ok (.aload_n 0, 1) := by decide +kernel
theorem d_Model_adds_1 : decode prog_13_method_67_code 1 = .ok (.getfield 144, 3) := by decide +kernel
theorem d_Model_adds_4 : decode prog_13_method_67_code 4 = .ok (.aload_n 0, 1) := by decide +kernel
theorem d_Model_adds_5 : decode prog_13_method_67_code 5 = .ok (.getfield 403, 3) := by decide +kernel
theorem d_Model_adds_8 : decode prog_13_method_67_code 8 = .ok (.iload_n 1, 1) := by decide +kernel
theorem d_Model_adds_9 : decode prog_13_method_67_code 9 = .ok (.iastore, 1) := by decide +kernel
theorem d_Model_adds_10 : decode prog_13_method_67_code 10 = .ok (.aload_n 0, 1) := by decide +kernel
theorem d_Model_adds_11 : decode prog_13_method_67_code 11 = .ok (.getfield 147, 3) := by decide +kernel
theorem d_Model_adds_14 : decode prog_13_method_67_code 14 = .ok (.aload_n 0, 1) := by decide +kernel
theorem d_Model_adds_15 : decode prog_13_method_67_code 15 = .ok (.getfield 403, 3) := by decide +kernel
theorem d_Model_adds_18 : decode prog_13_method_67_code 18 = .ok (.iload_n 2, 1) := by decide +kernel
theorem d_Model_adds_19 : decode prog_13_method_67_code 19 = .ok (.iastore, 1) := by decide +kernel
theorem d_Model_adds_20 : decode prog_13_method_67_code 20 = .ok (.aload_n 0, 1) := by decide +kernel
theorem d_Model_adds_21 : decode prog_13_method_67_code 21 = .ok (.getfield 150, 3) := by decide +kernel
theorem d_Model_adds_24 : decode prog_13_method_67_code 24 = .ok (.aload_n 0, 1) := by decide +kernel
theorem d_Model_adds_25 : decode prog_13_method_67_code 25 = .ok (.getfield 403, 3) := by decide +kernel
theorem d_Model_adds_28 : decode prog_13_method_67_code 28 = .ok (.iload_n 3, 1) := by decide +kernel
theorem d_Model_adds_29 : decode prog_13_method_67_code 29 = .ok (.iastore, 1) := by decide +kernel
theorem d_Model_adds_30 : decode prog_13_method_67_code 30 = .ok (.aload_n 0, 1) := by decide +kernel
theorem d_Model_adds_31 : decode prog_13_method_67_code 31 = .ok (.getfield 153, 3) := by decide +kernel
theorem d_Model_adds_34 : decode prog_13_method_67_code 34 = .ok (.aload_n 0, 1) := by decide +kernel
theorem d_Model_adds_35 : decode prog_13_method_67_code 35 = .ok (.getfield 403, 3) := by decide +kernel
theorem d_Model_adds_38 : decode prog_13_method_67_code 38 = .ok (.iload 4, 2) := by decide +kernel
theorem d_Model_adds_40 : decode prog_13_method_67_code 40 = .ok (.iastore, 1) := by decide +kernel
theorem d_Model_adds_41 : decode prog_13_method_67_code 41 = .ok (.aload_n 0, 1) := by decide +kernel
theorem d_Model_adds_42 : decode prog_13_method_67_code 42 = .ok (.getfield 156, 3) := by decide +kernel
theorem d_Model_adds_45 : decode prog_13_method_67_code 45 = .ok (.aload_n 0, 1) := by decide +kernel
theorem d_Model_adds_46 : decode prog_13_method_67_code 46 = .ok (.getfield 403, 3) := by decide +kernel
theorem d_Model_adds_49 : decode prog_13_method_67_code 49 = .ok (.iload 5, 2) := by decide +kernel
theorem d_Model_adds_51 : decode prog_13_method_67_code 51 = .ok (.bastore, 1) := by decide +kernel
theorem d_Model_adds_52 : decode prog_13_method_67_code 52 = .ok (.aload_n 0, 1) := by decide +kernel
theorem d_Model_adds_53 : decode prog_13_method_67_code 53 = .ok (.dup, 1) := by decide +kernel
theorem d_Model_adds_54 : decode prog_13_method_67_code 54 = .ok (.getfield 403, 3) := by decide +kernel
theorem d_Model_adds_57 : decode prog_13_method_67_code 57 = .ok (.iconst 1, 1) := by decide +kernel
theorem d_Model_adds_58 : decode prog_13_method_67_code 58 = .ok (.iadd, 1) := by decide +kernel
theorem d_Model_adds_59 : decode prog_13_method_67_code 59 = .ok (.putfield 403, 3) := by decide +kernel
theorem d_Model_adds_62 : decode prog_13_method_67_code 62 = .ok (.return_, 1) := by decide +kernel
theorem d_Model_filter_0 : decode prog_13_method_71_code 0 = .ok (.iload_n 2, 1) := by decide +kernel
theorem d_Model_filter_1 : decode prog_13_method_71_code 1 = .ok (.invokestatic 264, 3) := by decide +kernel
theorem d_Model_filter_4 : decode prog_13_method_71_code 4 = .ok (.ifCond .eq 20, 3) := by decide +kernel
theorem d_Model_filter_7 : decode prog_13_method_71_code 7 = .ok (.iload_n 3, 1) := by decide +kernel
theorem d_Model_filter_8 : decode prog_13_method_71_code 8 = .ok (.ldc 246, 2) := by decide +kernel
theorem d_Model_filter_10 : decode prog_13_method_71_code 10 = .ok (.if_icmp .eq 10, 3) := by decide +kernel
theorem d_Model_filter_13 : decode prog_13_method_71_code 13 = .ok (.iload_n 3, 1) := by decide +kernel
theorem d_Model_filter_14 : decode prog_13_method_71_code 14 = .ok (.invokestatic 267, 3) := by decide +kernel
theorem d_Model_filter_17 : decode prog_13_method_71_code 17 = .ok (.ifCond .eq 7, 3) := by decide +kernel
theorem d_Model_filter_20 : decode prog_13_method_71_code 20 = .ok (.iconst 1, 1) := by decide +kernel
theorem d_Model_filter_21 : decode prog_13_method_71_code 21 = .ok (.goto 4, 3) := by decide +kernel
theorem d_Model_filter_24 : decode prog_13_method_71_code 24 = .ok (.iconst 0, 1) := by decide +kernel
theorem d_Model_filter_25 : decode prog_13_method_71_code 25 = .ok (.istore 5, 2) := by decide +kernel
theorem d_Model_filter_27 : decode prog_13_method_71_code 27 = .ok (.aload_n 0, 1) := by decide +kernel
theorem d_Model_filter_28 : decode prog_13_method_71_code 28 = .ok (.aload_n 0, 1) := by decide +kernel
theorem d_Model_filter_29 : decode prog_13_method_71_code 29 = .ok (.getfield 406, 3) := by decide +kernel
theorem d_Model_filter_32 : decode prog_13_method_71_code 32 = .ok (.ifCond .eq 10, 3) := by decide +kernel
theorem d_Model_filter_35 : decode prog_13_method_71_code 35 = .ok (.aload_n 0, 1) := by decide +kernel
theorem d_Model_filter_36 : decode prog_13_method_71_code 36 = .ok (.invokevirtual 409, 3) := by decide +kernel
theorem d_Model_filter_39 : decode prog_13_method_71_code 39 = .ok (.ifCond .eq 7, 3) := by decide +kernel
theorem d_Model_filter_42 : decode prog_13_method_71_code 42 = .ok (.iconst 1, 1) := by decide +kernel
theorem d_Model_filter_43 : decode prog_13_method_71_code 43 = .ok (.goto 25, 3) := by decide +kernel
theorem d_Model_filter_46 : decode prog_13_method_71_code 46 = .ok (.aload_n 0, 1) := by decide +kernel
theorem d_Model_filter_47 : decode prog_13_method_71_code 47 = .ok (.iload_n 1, 1) := by decide +kernel
theorem d_Model_filter_48 : decode prog_13_method_71_code 48 = .ok (.invokevirtual 419, 3) := by decide +kernel
theorem d_Model_filter_51 : decode prog_13_method_71_code 51 = .ok (.ifCond .ne 7, 3) := by decide +kernel
theorem d_Model_filter_54 : decode prog_13_method_71_code 54 = .ok (.iconst 2, 1) := by decide +kernel
theorem d_Model_filter_55 : decode prog_13_method_71_code 55 = .ok (.goto 13, 3) := by decide +kernel
theorem d_Model_filter_58 : decode prog_13_method_71_code 58 = .ok (.iload 5, 2) := by decide +kernel
theorem d_Model_filter_60 : decode prog_13_method_71_code 60 = .ok (.ifCond .eq 7, 3) := by decide +kernel
theorem d_Model_filter_63 : decode prog_13_method_71_code 63 = .ok (.iconst 0, 1) := by decide +kernel
theorem d_Model_filter_64 : decode prog_13_method_71_code 64 = .ok (.goto 4, 3) := by decide +kernel
theorem d_Model_filter_67 : decode prog_13_method_71_code 67 = .ok (.iconst 3, 1) := by decide +kernel
theorem d_Model_filter_68 : decode prog_13_method_71_code 68 = .ok (.invokevirtual 254, 3) := by decide +kernel
theorem d_Model_filter_71 : decode prog_13_method_71_code 71 = .ok (.ifCond .eq 5, 3) := by decide +kernel
theorem d_Model_filter_74 : decode prog_13_method_71_code 74 = .ok (.iconst 0, 1) := by decide +kernel
theorem d_Model_filter_75 : decode prog_13_method_71_code 75 = .ok (.ireturn, 1) := by decide +kernel
theorem d_Model_filter_76 : decode prog_13_method_71_code 76 = .ok (.aload_n 0, 1) := by decide +kernel
theorem d_Model_filter_77 : decode prog_13_method_71_code 77 = .ok (.iconst 1, 1) := by decide +kernel
theorem d_Model_filter_78 : decode prog_13_method_71_code 78 = .ok (.iload_n 1, 1) := by decide +kernel
theorem d_Model_filter_79 : decode prog_13_method_71_code 79 = .ok (.iload_n 2, 1) := by decide +kernel
theorem d_Model_filter_80 : decode prog_13_method_71_code 80 = .ok (.iload_n 3, 1) := by decide +kernel
theorem d_Model_filter_81 : decode prog_13_method_71_code 81 = .ok (.iload 4, 2) := by decide +kernel
theorem d_Model_filter_83 : decode prog_13_method_71_code 83 = .ok (.invokevirtual 415, 3) := by decide +kernel
theorem d_Model_filter_86 : decode prog_13_method_71_code 86 = .ok (.aload_n 0, 1) := by decide +kernel
theorem d_Model_filter_87 : decode prog_13_method_71_code 87 = .ok (.getfield 406, 3) := by decide +kernel
theorem d_Model_filter_90 : decode prog_13_method_71_code 90 = .ok (.ireturn, 1) := by decide +kernel
theorem d_Model_isOfLast_0 : decode prog_13_method_69_code 0 = .ok (.aload_n 0, 1) := by decide +kernel
theorem d_Model_isOfLast_1 : decode prog_13_method_69_code 1 = .ok (.getfield 406, 3) := by decide +kernel
theorem d_Model_isOfLast_4 : decode prog_13_method_69_code 4 = .ok (.ifCond .le 28, 3) := by decide +kernel
theorem d_Model_isOfLast_7 : decode prog_13_method_69_code 7 = .ok (.iload_n 1, 1) := by decide +kernel
theorem d_Model_isOfLast_8 : decode prog_13_method_69_code 8 = .ok (.iconst 0, 1) := by decide +kernel
theorem d_Model_isOfLast_9 : decode prog_13_method_69_code 9 = .ok (.aload_n 0, 1) := by decide +kernel
theorem d_Model_isOfLast_10 : decode prog_13_method_69_code 10 = .ok (.getfield 141, 3) := by decide +kernel
theorem d_Model_isOfLast_13 : decode prog_13_method_69_code 13 = .ok (.aload_n 0, 1) := by decide +kernel
theorem d_Model_isOfLast_14 : decode prog_13_method_69_code 14 = .ok (.getfield 406, 3) := by decide +kernel
theorem d_Model_isOfLast_17 : decode prog_13_method_69_code 17 = .ok (.iconst 1, 1) := by decide +kernel
theorem d_Model_isOfLast_18 : decode prog_13_method_69_code 18 = .ok (.isub, 1) := by decide +kernel
theorem d_Model_isOfLast_19 : decode prog_13_method_69_code 19 = .ok (.iaload, 1) := by decide +kernel
theorem d_Model_isOfLast_20 : decode prog_13_method_69_code 20 = .ok (.iconst 1, 1) := by decide +kernel
theorem d_Model_isOfLast_21 : decode prog_13_method_69_code 21 = .ok (.isub, 1) := by decide +kernel
theorem d_Model_isOfLast_22 : decode prog_13_method_69_code 22 = .ok (.invokestatic 235, 3) := by decide +kernel
theorem d_Model_isOfLast_25 : decode prog_13_method_69_code 25 = .ok (.ifCond .eq 7, 3) := by decide +kernel
theorem d_Model_isOfLast_28 : decode prog_13_method_69_code 28 = .ok (.iconst 1, 1) := by decide +kernel
theorem d_Model_isOfLast_29 : decode prog_13_method_69_code 29 = .ok (.goto 4, 3) := by decide +kernel
theorem d_Model_isOfLast_32 : decode prog_13_method_69_code 32 = .ok (.iconst 0, 1) := by decide +kernel
theorem d_Model_isOfLast_33 : decode prog_13_method_69_code 33 = .ok (.ireturn, 1) := by decide +kernel
theorem d_Model_filterColumns_0 : decode prog_13_method_72_code 0 = .ok (.aload_n 0, 1) := by decide +kernel
theorem d_Model_filterColumns_1 : decode prog_13_method_72_code 1 = .ok (.aload_n 0, 1) := by decide +kernel
theorem d_Model_filterColumns_2 : decode prog_13_method_72_code 2 = .ok (.getfield 406, 3) := by decide +kernel
theorem d_Model_filterColumns_5 : decode prog_13_method_72_code 5 = .ok (.ifCond .eq 10, 3) := by decide +kernel
theorem d_Model_filterColumns_8 : decode prog_13_method_72_code 8 = .ok (.aload_n 0, 1) := by decide +kernel
theorem d_Model_filterColumns_9 : decode prog_13_method_72_code 9 = .ok (.invokevirtual 409, 3) := by decide +kernel
theorem d_Model_filterColumns_12 : decode prog_13_method_72_code 12 = .ok (.ifCond .eq 7, 3) := by decide +kernel
theorem d_Model_filterColumns_15 : decode prog_13_method_72_code 15 = .ok (.iconst 1, 1) := by decide +kernel
theorem d_Model_filterColumns_16 : decode prog_13_method_72_code 16 = .ok (.goto 35, 3) := by decide +kernel
theorem d_Model_filterColumns_19 : decode prog_13_method_72_code 19 = .ok (.aload_n 0, 1) := by decide +kernel
theorem d_Model_filterColumns_20 : decode prog_13_method_72_code 20 = .ok (.iload_n 1, 1) := by decide +kernel
theorem d_Model_filterColumns_21 : decode prog_13_method_72_code 21 = .ok (.invokevirtual 419, 3) := by decide +kernel
theorem d_Model_filterColumns_24 : decode prog_13_method_72_code 24 = .ok (.ifCond .eq 11, 3) := by decide +kernel
theorem d_Model_filterColumns_27 : decode prog_13_method_72_code 27 = .ok (.aload_n 0, 1) := by decide +kernel
theorem d_Model_filterColumns_28 : decode prog_13_method_72_code 28 = .ok (.iload_n 3, 1) := by decide +kernel
theorem d_Model_filterColumns_29 : decode prog_13_method_72_code 29 = .ok (.invokevirtual 419, 3) := by decide +kernel
theorem d_Model_filterColumns_32 : decode prog_13_method_72_code 32 = .ok (.ifCond .ne 7, 3) := by decide +kernel
theorem d_Model_filterColumns_35 : decode prog_13_method_72_code 35 = .ok (.iconst 2, 1) := by decide +kernel
theorem d_Model_filterColumns_36 : decode prog_13_method_72_code 36 = .ok (.goto 15, 3) := by decide +kernel
theorem d_Model_filterColumns_39 : decode prog_13_method_72_code 39 = .ok (.iload_n 2, 1) := by decide +kernel
theorem d_Model_filterColumns_40 : decode prog_13_method_72_code 40 = .ok (.invokestatic 264, 3) := by decide +kernel
theorem d_Model_filterColumns_43 : decode prog_13_method_72_code 43 = .ok (.ifCond .eq 7, 3) := by decide +kernel
theorem d_Model_filterColumns_46 : decode prog_13_method_72_code 46 = .ok (.iconst 0, 1) := by decide +kernel
theorem d_Model_filterColumns_47 : decode prog_13_method_72_code 47 = .ok (.goto 4, 3) := by decide +kernel
theorem d_Model_filterColumns_50 : decode prog_13_method_72_code 50 = .ok (.iconst 3, 1) := by decide +kernel
theorem d_Model_filterColumns_51 : decode prog_13_method_72_code 51 = .ok (.invokevirtual 254, 3) := by decide +kernel
theorem d_Model_filterColumns_54 : decode prog_13_method_72_code 54 = .ok (.ifCond .eq 5, 3) := by decide +kernel
theorem d_Model_filterColumns_57 : decode prog_13_method_72_code 57 = .ok (.iconst 0, 1) := by decide +kernel
theorem d_Model_filterColumns_58 : decode prog_13_method_72_code 58 = .ok (.ireturn, 1) := by decide +kernel
theorem d_Model_filterColumns_59 : decode prog_13_method_72_code 59 = .ok (.aload_n 0, 1) := by decide +kernel
theorem d_Model_filterColumns_60 : decode prog_13_method_72_code 60 = .ok (.iconst 2, 1) := by decide +kernel
theorem d_Model_filterColumns_61 : decode prog_13_method_72_code 61 = .ok (.iload_n 1, 1) := by decide +kernel
theorem d_Model_filterColumns_62 : decode prog_13_method_72_code 62 = .ok (.iload_n 2, 1) := by decide +kernel
theorem d_Model_filterColumns_63 : decode prog_13_method_72_code 63 = .ok (.iload_n 3, 1) := by decide +kernel
theorem d_Model_filterColumns_64 : decode prog_13_method_72_code 64 = .ok (.iload 4, 2) := by decide +kernel
theorem d_Model_filterColumns_66 : decode prog_13_method_72_code 66 = .ok (.invokevirtual 415, 3) := by decide +kernel
theorem d_Model_filterColumns_69 : decode prog_13_method_72_code 69 = .ok (.aload_n 0, 1) := by decide +kernel
theorem d_Model_filterColumns_70 : decode prog_13_method_72_code 70 = .ok (.getfield 406, 3) := by decide +kernel
theorem d_Model_filterColumns_73 : decode prog_13_method_72_code 73 = .ok (.ireturn, 1) := by decide +kernel
theorem d_Model_ratio_0 : decode prog_13_method_73_code 0 = .ok (.aload_n 0, 1) := by decide +kernel
theorem d_Model_ratio_1 : decode prog_13_method_73_code 1 = .ok (.aload_n 0, 1) := by decide +kernel
theorem d_Model_ratio_2 : decode prog_13_method_73_code 2 = .ok (.getfield 406, 3) := by decide +kernel
theorem d_Model_ratio_5 : decode prog_13_method_73_code 5 = .ok (.ifCond .eq 10, 3) := by decide +kernel
theorem d_Model_ratio_8 : decode prog_13_method_73_code 8 = .ok (.aload_n 0, 1) := by decide +kernel
theorem d_Model_ratio_9 : decode prog_13_method_73_code 9 = .ok (.invokevirtual 409, 3) := by decide +kernel
theorem d_Model_ratio_12 : decode prog_13_method_73_code 12 = .ok (.ifCond .eq 7, 3) := by decide +kernel
theorem d_Model_ratio_15 : decode prog_13_method_73_code 15 = .ok (.iconst 1, 1) := by decide +kernel
theorem d_Model_ratio_16 : decode prog_13_method_73_code 16 = .ok (.goto 35, 3) := by decide +kernel
theorem d_Model_ratio_19 : decode prog_13_method_73_code 19 = .ok (.aload_n 0, 1) := by decide +kernel
theorem d_Model_ratio_20 : decode prog_13_method_73_code 20 = .ok (.iload_n 1, 1) := by decide +kernel
theorem d_Model_ratio_21 : decode prog_13_method_73_code 21 = .ok (.invokevirtual 419, 3) := by decide +kernel
theorem d_Model_ratio_24 : decode prog_13_method_73_code 24 = .ok (.ifCond .eq 11, 3) := by decide +kernel
theorem d_Model_ratio_27 : decode prog_13_method_73_code 27 = .ok (.aload_n 0, 1) := by decide +kernel
theorem d_Model_ratio_28 : decode prog_13_method_73_code 28 = .ok (.iload_n 2, 1) := by decide +kernel
theorem d_Model_ratio_29 : decode prog_13_method_73_code 29 = .ok (.invokevirtual 419, 3) := by decide +kernel
theorem d_Model_ratio_32 : decode prog_13_method_73_code 32 = .ok (.ifCond .ne 7, 3) := by decide +kernel
theorem d_Model_ratio_35 : decode prog_13_method_73_code 35 = .ok (.iconst 2, 1) := by decide +kernel
theorem d_Model_ratio_36 : decode prog_13_method_73_code 36 = .ok (.goto 15, 3) := by decide +kernel
theorem d_Model_ratio_39 : decode prog_13_method_73_code 39 = .ok (.iload_n 3, 1) := by decide +kernel
theorem d_Model_ratio_40 : decode prog_13_method_73_code 40 = .ok (.invokestatic 267, 3) := by decide +kernel
theorem d_Model_ratio_43 : decode prog_13_method_73_code 43 = .ok (.ifCond .eq 7, 3) := by decide +kernel
theorem d_Model_ratio_46 : decode prog_13_method_73_code 46 = .ok (.iconst 0, 1) := by decide +kernel
theorem d_Model_ratio_47 : decode prog_13_method_73_code 47 = .ok (.goto 4, 3) := by decide +kernel
theorem d_Model_ratio_50 : decode prog_13_method_73_code 50 = .ok (.iconst 3, 1) := by decide +kernel
theorem d_Model_ratio_51 : decode prog_13_method_73_code 51 = .ok (.invokevirtual 254, 3) := by decide +kernel
theorem d_Model_ratio_54 : decode prog_13_method_73_code 54 = .ok (.ifCond .eq 5, 3) := by decide +kernel
theorem d_Model_ratio_57 : decode prog_13_method_73_code 57 = .ok (.iconst 0, 1) := by decide +kernel
theorem d_Model_ratio_58 : decode prog_13_method_73_code 58 = .ok (.ireturn, 1) := by decide +kernel
theorem d_Model_ratio_59 : decode prog_13_method_73_code 59 = .ok (.aload_n 0, 1) := by decide +kernel
theorem d_Model_ratio_60 : decode prog_13_method_73_code 60 = .ok (.iconst 3, 1) := by decide +kernel
theorem d_Model_ratio_61 : decode prog_13_method_73_code 61 = .ok (.iload_n 1, 1) := by decide +kernel
theorem d_Model_ratio_62 : decode prog_13_method_73_code 62 = .ok (.iload_n 2, 1) := by decide +kernel
theorem d_Model_ratio_63 : decode prog_13_method_73_code 63 = .ok (.iload_n 3, 1) := by decide +kernel
theorem d_Model_ratio_64 : decode prog_13_method_73_code 64 = .ok (.iconst 0, 1) := by decide +kernel
theorem d_Model_ratio_65 : decode prog_13_method_73_code 65 = .ok (.invokevirtual 415, 3) := by decide +kernel
theorem d_Model_ratio_68 : decode prog_13_method_73_code 68 = .ok (.aload_n 0, 1) := by decide +kernel
theorem d_Model_ratio_69 : decode prog_13_method_73_code 69 = .ok (.getfield 406, 3) := by decide +kernel
theorem d_Model_ratio_72 : decode prog_13_method_73_code 72 = .ok (.ireturn, 1) := by decide +kernel
theorem d_Model_join_0 : decode prog_13_method_74_code 0 = .ok (.aload_n 0, 1) := by decide +kernel
theorem d_Model_join_1 : decode prog_13_method_74_code 1 = .ok (.getfield 406, 3) := by decide +kernel
theorem d_Model_join_4 : decode prog_13_method_74_code 4 = .ok (.iconst 1, 1) := by decide +kernel
theorem d_Model_join_5 : decode prog_13_method_74_code 5 = .ok (.if_icmp .le 17, 3) := by decide +kernel
theorem d_Model_join_8 : decode prog_13_method_74_code 8 = .ok (.aload_n 0, 1) := by decide +kernel
theorem d_Model_join_9 : decode prog_13_method_74_code 9 = .ok (.getfield 141, 3) := by decide +kernel
theorem d_Model_join_12 : decode prog_13_method_74_code 12 = .ok (.aload_n 0, 1) := by decide +kernel
theorem d_Model_join_13 : decode prog_13_method_74_code 13 = .ok (.getfield 406, 3) := by decide +kernel
theorem d_Model_join_16 : decode prog_13_method_74_code 16 = .ok (.iconst 2, 1) := by decide +kernel
theorem d_Model_join_17 : decode prog_13_method_74_code 17 = .ok (.isub, 1) := by decide +kernel
theorem d_Model_join_18 : decode prog_13_method_74_code 18 = .ok (.iaload, 1) := by decide +kernel
theorem d_Model_join_19 : decode prog_13_method_74_code 19 = .ok (.goto 4, 3) := by decide +kernel
theorem d_Model_join_22 : decode prog_13_method_74_code 22 = .ok (.iconst 0, 1) := by decide +kernel
theorem d_Model_join_23 : decode prog_13_method_74_code 23 = .ok (.istore 4, 2) := by decide +kernel
theorem d_Model_join_25 : decode prog_13_method_74_code 25 = .ok (.aload_n 0, 1) := by decide +kernel
theorem d_Model_join_26 : decode prog_13_method_74_code 26 = .ok (.getfield 406, 3) := by decide +kernel
theorem d_Model_join_29 : decode prog_13_method_74_code 29 = .ok (.iconst 1, 1) := by decide +kernel
theorem d_Model_join_30 : decode prog_13_method_74_code 30 = .ok (.if_icmp .le 17, 3) := by decide +kernel
theorem d_Model_join_33 : decode prog_13_method_74_code 33 = .ok (.aload_n 0, 1) := by decide +kernel
theorem d_Model_join_34 : decode prog_13_method_74_code 34 = .ok (.getfield 141, 3) := by decide +kernel
theorem d_Model_join_37 : decode prog_13_method_74_code 37 = .ok (.aload_n 0, 1) := by decide +kernel
theorem d_Model_join_38 : decode prog_13_method_74_code 38 = .ok (.getfield 406, 3) := by decide +kernel
theorem d_Model_join_41 : decode prog_13_method_74_code 41 = .ok (.iconst 1, 1) := by decide +kernel
theorem d_Model_join_42 : decode prog_13_method_74_code 42 = .ok (.isub, 1) := by decide +kernel
theorem d_Model_join_43 : decode prog_13_method_74_code 43 = .ok (.iaload, 1) := by decide +kernel
theorem d_Model_join_44 : decode prog_13_method_74_code 44 = .ok (.goto 4, 3) := by decide +kernel
theorem d_Model_join_47 : decode prog_13_method_74_code 47 = .ok (.iconst 0, 1) := by decide +kernel
theorem d_Model_join_48 : decode prog_13_method_74_code 48 = .ok (.istore 5, 2) := by decide +kernel
theorem d_Model_join_50 : decode prog_13_method_74_code 50 = .ok (.iload 4, 2) := by decide +kernel
theorem d_Model_join_52 : decode prog_13_method_74_code 52 = .ok (.iload 5, 2) := by decide +kernel
theorem d_Model_join_54 : decode prog_13_method_74_code 54 = .ok (.iadd, 1) := by decide +kernel
theorem d_Model_join_55 : decode prog_13_method_74_code 55 = .ok (.bipush 10, 2) := by decide +kernel
theorem d_Model_join_57 : decode prog_13_method_74_code 57 = .ok (.if_icmp .le 17, 3) := by decide +kernel
theorem d_Model_join_60 : decode prog_13_method_74_code 60 = .ok (.iload_n 1, 1) := by decide +kernel
theorem d_Model_join_61 : decode prog_13_method_74_code 61 = .ok (.iconst 3, 1) := by decide +kernel
theorem d_Model_join_62 : decode prog_13_method_74_code 62 = .ok (.if_icmp .eq 12, 3) := by decide +kernel
theorem d_Model_join_65 : decode prog_13_method_74_code 65 = .ok (.iload_n 1, 1) := by decide +kernel
theorem d_Model_join_66 : decode prog_13_method_74_code 66 = .ok (.iconst 4, 1) := by decide +kernel
theorem d_Model_join_67 : decode prog_13_method_74_code 67 = .ok (.if_icmp .eq 7, 3) := by decide +kernel
theorem d_Model_join_70 : decode prog_13_method_74_code 70 = .ok (.iconst 1, 1) := by decide +kernel
theorem d_Model_join_71 : decode prog_13_method_74_code 71 = .ok (.goto 4, 3) := by decide +kernel
theorem d_Model_join_74 : decode prog_13_method_74_code 74 = .ok (.iconst 0, 1) := by decide +kernel
theorem d_Model_join_75 : decode prog_13_method_74_code 75 = .ok (.istore 6, 2) := by decide +kernel
theorem d_Model_join_77 : decode prog_13_method_74_code 77 = .ok (.iload_n 2, 1) := by decide +kernel
theorem d_Model_join_78 : decode prog_13_method_74_code 78 = .ok (.iconst 0, 1) := by decide +kernel
theorem d_Model_join_79 : decode prog_13_method_74_code 79 = .ok (.iload 4, 2) := by decide +kernel
theorem d_Model_join_81 : decode prog_13_method_74_code 81 = .ok (.iconst 1, 1) := by decide +kernel
theorem d_Model_join_82 : decode prog_13_method_74_code 82 = .ok (.isub, 1) := by decide +kernel
theorem d_Model_join_83 : decode prog_13_method_74_code 83 = .ok (.invokestatic 235, 3) := by decide +kernel
theorem d_Model_join_86 : decode prog_13_method_74_code 86 = .ok (.ifCond .eq 19, 3) := by decide +kernel
theorem d_Model_join_89 : decode prog_13_method_74_code 89 = .ok (.iload_n 3, 1) := by decide +kernel
theorem d_Model_join_90 : decode prog_13_method_74_code 90 = .ok (.iconst 0, 1) := by decide +kernel
theorem d_Model_join_91 : decode prog_13_method_74_code 91 = .ok (.iload 5, 2) := by decide +kernel
theorem d_Model_join_93 : decode prog_13_method_74_code 93 = .ok (.iconst 1, 1) := by decide +kernel
theorem d_Model_join_94 : decode prog_13_method_74_code 94 = .ok (.isub, 1) := by decide +kernel
theorem d_Model_join_95 : decode prog_13_method_74_code 95 = .ok (.invokestatic 235, 3) := by decide +kernel
theorem d_Model_join_98 : decode prog_13_method_74_code 98 = .ok (.ifCond .eq 7, 3) := by decide +kernel
theorem d_Model_join_101 : decode prog_13_method_74_code 101 = .ok (.iconst 1, 1) := by decide +kernel
theorem d_Model_join_102 : decode prog_13_method_74_code 102 = .ok (.goto 4, 3) := by decide +kernel
theorem d_Model_join_105 : decode prog_13_method_74_code 105 = .ok (.iconst 0, 1) := by decide +kernel
theorem d_Model_join_106 : decode prog_13_method_74_code 106 = .ok (.istore 7, 2) := by decide +kernel
theorem d_Model_join_108 : decode prog_13_method_74_code 108 = .ok (.aload_n 0, 1) := by decide +kernel
theorem d_Model_join_109 : decode prog_13_method_74_code 109 = .ok (.aload_n 0, 1) := by decide +kernel
theorem d_Model_join_110 : decode prog_13_method_74_code 110 = .ok (.getfield 406, 3) := by decide +kernel
theorem d_Model_join_113 : decode prog_13_method_74_code 113 = .ok (.iconst 2, 1) := by decide +kernel
theorem d_Model_join_114 : decode prog_13_method_74_code 114 = .ok (.if_icmp .lt 15, 3) := by decide +kernel
theorem d_Model_join_117 : decode prog_13_method_74_code 117 = .ok (.aload_n 0, 1) := by decide +kernel
theorem d_Model_join_118 : decode prog_13_method_74_code 118 = .ok (.invokevirtual 409, 3) := by decide +kernel
theorem d_Model_join_121 : decode prog_13_method_74_code 121 = .ok (.ifCond .ne 8, 3) := by decide +kernel
theorem d_Model_join_124 : decode prog_13_method_74_code 124 = .ok (.iload 6, 2) := by decide +kernel
theorem d_Model_join_126 : decode prog_13_method_74_code 126 = .ok (.ifCond .eq 7, 3) := by decide +kernel
theorem d_Model_join_129 : decode prog_13_method_74_code 129 = .ok (.iconst 1, 1) := by decide +kernel
theorem d_Model_join_130 : decode prog_13_method_74_code 130 = .ok (.goto 26, 3) := by decide +kernel
theorem d_Model_join_133 : decode prog_13_method_74_code 133 = .ok (.iload 7, 2) := by decide +kernel
theorem d_Model_join_135 : decode prog_13_method_74_code 135 = .ok (.ifCond .ne 7, 3) := by decide +kernel
theorem d_Model_join_138 : decode prog_13_method_74_code 138 = .ok (.iconst 2, 1) := by decide +kernel
theorem d_Model_join_139 : decode prog_13_method_74_code 139 = .ok (.goto 17, 3) := by decide +kernel
theorem d_Model_join_142 : decode prog_13_method_74_code 142 = .ok (.iload_n 1, 1) := by decide +kernel
theorem d_Model_join_143 : decode prog_13_method_74_code 143 = .ok (.iconst 0, 1) := by decide +kernel
theorem d_Model_join_144 : decode prog_13_method_74_code 144 = .ok (.iconst 4, 1) := by decide +kernel
theorem d_Model_join_145 : decode prog_13_method_74_code 145 = .ok (.invokestatic 235, 3) := by decide +kernel
theorem d_Model_join_148 : decode prog_13_method_74_code 148 = .ok (.ifCond .eq 7, 3) := by decide +kernel
theorem d_Model_join_151 : decode prog_13_method_74_code 151 = .ok (.iconst 0, 1) := by decide +kernel
theorem d_Model_join_152 : decode prog_13_method_74_code 152 = .ok (.goto 4, 3) := by decide +kernel
theorem d_Model_join_155 : decode prog_13_method_74_code 155 = .ok (.iconst 3, 1) := by decide +kernel
theorem d_Model_join_156 : decode prog_13_method_74_code 156 = .ok (.invokevirtual 254, 3) := by decide +kernel
theorem d_Model_join_159 : decode prog_13_method_74_code 159 = .ok (.ifCond .eq 5, 3) := by decide +kernel
theorem d_Model_join_162 : decode prog_13_method_74_code 162 = .ok (.iconst 0, 1) := by decide +kernel
theorem d_Model_join_163 : decode prog_13_method_74_code 163 = .ok (.ireturn, 1) := by decide +kernel
theorem d_Model_join_164 : decode prog_13_method_74_code 164 = .ok (.aload_n 0, 1) := by decide +kernel
theorem d_Model_join_165 : decode prog_13_method_74_code 165 = .ok (.iconst 4, 1) := by decide +kernel
theorem d_Model_join_166 : decode prog_13_method_74_code 166 = .ok (.iload_n 1, 1) := by decide +kernel
theorem d_Model_join_167 : decode prog_13_method_74_code 167 = .ok (.iload_n 2, 1) := by decide +kernel
theorem d_Model_join_168 : decode prog_13_method_74_code 168 = .ok (.iload_n 3, 1) := by decide +kernel
theorem d_Model_join_169 : decode prog_13_method_74_code 169 = .ok (.iconst 0, 1) := by decide +kernel
theorem d_Model_join_170 : decode prog_13_method_74_code 170 = .ok (.invokevirtual 415, 3) := by decide +kernel
theorem d_Model_join_173 : decode prog_13_method_74_code 173 = .ok (.aload_n 0, 1) := by decide +kernel
theorem d_Model_join_174 : decode prog_13_method_74_code 174 = .ok (.dup, 1) := by decide +kernel
theorem d_Model_join_175 : decode prog_13_method_74_code 175 = .ok (.getfield 406, 3) := by decide +kernel
theorem d_Model_join_178 : decode prog_13_method_74_code 178 = .ok (.iconst 1, 1) := by decide +kernel
theorem d_Model_join_179 : decode prog_13_method_74_code 179 = .ok (.isub, 1) := by decide +kernel
theorem d_Model_join_180 : decode prog_13_method_74_code 180 = .ok (.putfield 406, 3) := by decide +kernel
theorem d_Model_join_183 : decode prog_13_method_74_code 183 = .ok (.aload_n 0, 1) := by decide +kernel
theorem d_Model_join_184 : decode prog_13_method_74_code 184 = .ok (.getfield 141, 3) := by decide +kernel
theorem d_Model_join_187 : decode prog_13_method_74_code 187 = .ok (.aload_n 0, 1) := by decide +kernel
theorem d_Model_join_188 : decode prog_13_method_74_code 188 = .ok (.getfield 406, 3) := by decide +kernel
theorem d_Model_join_191 : decode prog_13_method_74_code 191 = .ok (.iconst 1, 1) := by decide +kernel
theorem d_Model_join_192 : decode prog_13_method_74_code 192 = .ok (.isub, 1) := by decide +kernel
theorem d_Model_join_193 : decode prog_13_method_74_code 193 = .ok (.iload_n 1, 1) := by decide +kernel
theorem d_Model_join_194 : decode prog_13_method_74_code 194 = .ok (.iconst 2, 1) := by decide +kernel
theorem d_Model_join_195 : decode prog_13_method_74_code 195 = .ok (.if_icmp .le 8, 3) := by decide +kernel
theorem d_Model_join_198 : decode prog_13_method_74_code 198 = .ok (.iload 4, 2) := by decide +kernel
theorem d_Model_join_200 : decode prog_13_method_74_code 200 = .ok (.goto 8, 3) := by decide +kernel
theorem d_Model_join_203 : decode prog_13_method_74_code 203 = .ok (.iload 4, 2) := by decide +kernel
theorem d_Model_join_205 : decode prog_13_method_74_code 205 = .ok (.iload 5, 2) := by decide +kernel
theorem d_Model_join_207 : decode prog_13_method_74_code 207 = .ok (.iadd, 1) := by decide +kernel
theorem d_Model_join_208 : decode prog_13_method_74_code 208 = .ok (.iastore, 1) := by decide +kernel
theorem d_Model_join_209 : decode prog_13_method_74_code 209 = .ok (.aload_n 0, 1) := by decide +kernel
theorem d_Model_join_210 : decode prog_13_method_74_code 210 = .ok (.getfield 406, 3) := by decide +kernel
theorem d_Model_join_213 : decode prog_13_method_74_code 213 = .ok (.ireturn, 1) := by decide +kernel
theorem d_Model_keep_0 : decode prog_13_method_76_code 0 = .ok (.aload_n 0, 1) := by decide +kernel
theorem d_Model_keep_1 : decode prog_13_method_76_code 1 = .ok (.getfield 406, 3) := by decide +kernel
theorem d_Model_keep_4 : decode prog_13_method_76_code 4 = .ok (.ifCond .le 30, 3) := by decide +kernel
theorem d_Model_keep_7 : decode prog_13_method_76_code 7 = .ok (.iload_n 1, 1) := by decide +kernel
theorem d_Model_keep_8 : decode prog_13_method_76_code 8 = .ok (.iconst 1, 1) := by decide +kernel
theorem d_Model_keep_9 : decode prog_13_method_76_code 9 = .ok (.iconst 1, 1) := by decide +kernel
theorem d_Model_keep_10 : decode prog_13_method_76_code 10 = .ok (.aload_n 0, 1) := by decide +kernel
theorem d_Model_keep_11 : decode prog_13_method_76_code 11 = .ok (.getfield 141, 3) := by decide +kernel
theorem d_Model_keep_14 : decode prog_13_method_76_code 14 = .ok (.aload_n 0, 1) := by decide +kernel
theorem d_Model_keep_15 : decode prog_13_method_76_code 15 = .ok (.getfield 406, 3) := by decide +kernel
theorem d_Model_keep_18 : decode prog_13_method_76_code 18 = .ok (.iconst 1, 1) := by decide +kernel
theorem d_Model_keep_19 : decode prog_13_method_76_code 19 = .ok (.isub, 1) := by decide +kernel
theorem d_Model_keep_20 : decode prog_13_method_76_code 20 = .ok (.iaload, 1) := by decide +kernel
theorem d_Model_keep_21 : decode prog_13_method_76_code 21 = .ok (.ishl, 1) := by decide +kernel
theorem d_Model_keep_22 : decode prog_13_method_76_code 22 = .ok (.iconst 1, 1) := by decide +kernel
theorem d_Model_keep_23 : decode prog_13_method_76_code 23 = .ok (.isub, 1) := by decide +kernel
theorem d_Model_keep_24 : decode prog_13_method_76_code 24 = .ok (.invokestatic 235, 3) := by decide +kernel
theorem d_Model_keep_27 : decode prog_13_method_76_code 27 = .ok (.ifCond .eq 7, 3) := by decide +kernel
theorem d_Model_keep_30 : decode prog_13_method_76_code 30 = .ok (.iconst 1, 1) := by decide +kernel
theorem d_Model_keep_31 : decode prog_13_method_76_code 31 = .ok (.goto 4, 3) := by decide +kernel
theorem d_Model_keep_34 : decode prog_13_method_76_code 34 = .ok (.iconst 0, 1) := by decide +kernel
theorem d_Model_keep_35 : decode prog_13_method_76_code 35 = .ok (.istore_n 2, 1) := by decide +kernel
theorem d_Model_keep_36 : decode prog_13_method_76_code 36 = .ok (.aload_n 0, 1) := by decide +kernel
theorem d_Model_keep_37 : decode prog_13_method_76_code 37 = .ok (.aload_n 0, 1) := by decide +kernel
theorem d_Model_keep_38 : decode prog_13_method_76_code 38 = .ok (.getfield 406, 3) := by decide +kernel
theorem d_Model_keep_41 : decode prog_13_method_76_code 41 = .ok (.ifCond .eq 10, 3) := by decide +kernel
theorem d_Model_keep_44 : decode prog_13_method_76_code 44 = .ok (.aload_n 0, 1) := by decide +kernel
theorem d_Model_keep_45 : decode prog_13_method_76_code 45 = .ok (.invokevirtual 409, 3) := by decide +kernel
theorem d_Model_keep_48 : decode prog_13_method_76_code 48 = .ok (.ifCond .eq 7, 3) := by decide +kernel
theorem d_Model_keep_51 : decode prog_13_method_76_code 51 = .ok (.iconst 1, 1) := by decide +kernel
theorem d_Model_keep_52 : decode prog_13_method_76_code 52 = .ok (.goto 12, 3) := by decide +kernel
theorem d_Model_keep_55 : decode prog_13_method_76_code 55 = .ok (.iload_n 2, 1) := by decide +kernel
theorem d_Model_keep_56 : decode prog_13_method_76_code 56 = .ok (.ifCond .eq 7, 3) := by decide +kernel
theorem d_Model_keep_59 : decode prog_13_method_76_code 59 = .ok (.iconst 0, 1) := by decide +kernel
theorem d_Model_keep_60 : decode prog_13_method_76_code 60 = .ok (.goto 4, 3) := by decide +kernel
theorem d_Model_keep_63 : decode prog_13_method_76_code 63 = .ok (.iconst 2, 1) := by decide +kernel
theorem d_Model_keep_64 : decode prog_13_method_76_code 64 = .ok (.invokevirtual 254, 3) := by decide +kernel
theorem d_Model_keep_67 : decode prog_13_method_76_code 67 = .ok (.ifCond .eq 5, 3) := by decide +kernel
theorem d_Model_keep_70 : decode prog_13_method_76_code 70 = .ok (.iconst 0, 1) := by decide +kernel
theorem d_Model_keep_71 : decode prog_13_method_76_code 71 = .ok (.ireturn, 1) := by decide +kernel
theorem d_Model_keep_72 : decode prog_13_method_76_code 72 = .ok (.aload_n 0, 1) := by decide +kernel
theorem d_Model_keep_73 : decode prog_13_method_76_code 73 = .ok (.iconst 5, 1) := by decide +kernel
theorem d_Model_keep_74 : decode prog_13_method_76_code 74 = .ok (.iload_n 1, 1) := by decide +kernel
theorem d_Model_keep_75 : decode prog_13_method_76_code 75 = .ok (.iconst 0, 1) := by decide +kernel
theorem d_Model_keep_76 : decode prog_13_method_76_code 76 = .ok (.iconst 0, 1) := by decide +kernel
theorem d_Model_keep_77 : decode prog_13_method_76_code 77 = .ok (.iconst 0, 1) := by decide +kernel
theorem d_Model_keep_78 : decode prog_13_method_76_code 78 = .ok (.invokevirtual 415, 3) := by decide +kernel
theorem d_Model_keep_81 : decode prog_13_method_76_code 81 = .ok (.aload_n 0, 1) := by decide +kernel
theorem d_Model_keep_82 : decode prog_13_method_76_code 82 = .ok (.getfield 141, 3) := by decide +kernel
theorem d_Model_keep_85 : decode prog_13_method_76_code 85 = .ok (.aload_n 0, 1) := by decide +kernel
theorem d_Model_keep_86 : decode prog_13_method_76_code 86 = .ok (.getfield 406, 3) := by decide +kernel
theorem d_Model_keep_89 : decode prog_13_method_76_code 89 = .ok (.iconst 1, 1) := by decide +kernel
theorem d_Model_keep_90 : decode prog_13_method_76_code 90 = .ok (.isub, 1) := by decide +kernel
theorem d_Model_keep_91 : decode prog_13_method_76_code 91 = .ok (.iload_n 1, 1) := by decide +kernel
theorem d_Model_keep_92 : decode prog_13_method_76_code 92 = .ok (.invokestatic 422, 3) := by decide +kernel
theorem d_Model_keep_95 : decode prog_13_method_76_code 95 = .ok (.iastore, 1) := by decide +kernel
theorem d_Model_keep_96 : decode prog_13_method_76_code 96 = .ok (.aload_n 0, 1) := by decide +kernel
theorem d_Model_keep_97 : decode prog_13_method_76_code 97 = .ok (.getfield 406, 3) := by decide +kernel
theorem d_Model_keep_100 : decode prog_13_method_76_code 100 = .ok (.ireturn, 1) := by decide +kernel
theorem d_Model_counted_0 : decode prog_13_method_75_code 0 = .ok (.iconst 0, 1) := by decide +kernel
theorem d_Model_counted_1 : decode prog_13_method_75_code 1 = .ok (.istore_n 1, 1) := by decide +kernel
theorem d_Model_counted_2 : decode prog_13_method_75_code 2 = .ok (.iconst 0, 1) := by decide +kernel
theorem d_Model_counted_3 : decode prog_13_method_75_code 3 = .ok (.istore_n 2, 1) := by decide +kernel
theorem d_Model_counted_4 : decode prog_13_method_75_code 4 = .ok (.iload_n 2, 1) := by decide +kernel
theorem d_Model_counted_5 : decode prog_13_method_75_code 5 = .ok (.bipush 31, 2) := by decide +kernel
theorem d_Model_counted_7 : decode prog_13_method_75_code 7 = .ok (.if_icmp .ge 17, 3) := by decide +kernel
theorem d_Model_counted_10 : decode prog_13_method_75_code 10 = .ok (.iload_n 1, 1) := by decide +kernel
theorem d_Model_counted_11 : decode prog_13_method_75_code 11 = .ok (.iload_n 0, 1) := by decide +kernel
theorem d_Model_counted_12 : decode prog_13_method_75_code 12 = .ok (.iload_n 2, 1) := by decide +kernel
theorem d_Model_counted_13 : decode prog_13_method_75_code 13 = .ok (.ishr, 1) := by decide +kernel
theorem d_Model_counted_14 : decode prog_13_method_75_code 14 = .ok (.iconst 1, 1) := by decide +kernel
theorem d_Model_counted_15 : decode prog_13_method_75_code 15 = .ok (.iand, 1) := by decide +kernel
theorem d_Model_counted_16 : decode prog_13_method_75_code 16 = .ok (.iadd, 1) := by decide +kernel
theorem d_Model_counted_17 : decode prog_13_method_75_code 17 = .ok (.istore_n 1, 1) := by decide +kernel
theorem d_Model_counted_18 : decode prog_13_method_75_code 18 = .ok (.iinc 2 1, 3) := by decide +kernel
theorem d_Model_counted_21 : decode prog_13_method_75_code 21 = .ok (.goto (-17), 3) := by decide +kernel
theorem d_Model_counted_24 : decode prog_13_method_75_code 24 = .ok (.iload_n 1, 1) := by decide +kernel
theorem d_Model_counted_25 : decode prog_13_method_75_code 25 = .ok (.ireturn, 1) := by decide +kernel
theorem d_Model_group_0 : decode prog_13_method_77_code 0 = .ok (.iload_n 1, 1) := by decide +kernel
theorem d_Model_group_1 : decode prog_13_method_77_code 1 = .ok (.iconst (-1), 1) := by decide +kernel
theorem d_Model_group_2 : decode prog_13_method_77_code 2 = .ok (.if_icmp .eq 11, 3) := by decide +kernel
theorem d_Model_group_5 : decode prog_13_method_77_code 5 = .ok (.aload_n 0, 1) := by decide +kernel
theorem d_Model_group_6 : decode prog_13_method_77_code 6 = .ok (.iload_n 1, 1) := by decide +kernel
theorem d_Model_group_7 : decode prog_13_method_77_code 7 = .ok (.invokevirtual 419, 3) := by decide +kernel
theorem d_Model_group_10 : decode prog_13_method_77_code 10 = .ok (.ifCond .eq 19, 3) := by decide +kernel
theorem d_Model_group_13 : decode prog_13_method_77_code 13 = .ok (.iload_n 2, 1) := by decide +kernel
theorem d_Model_group_14 : decode prog_13_method_77_code 14 = .ok (.ifCond .eq 11, 3) := by decide +kernel
theorem d_Model_group_17 : decode prog_13_method_77_code 17 = .ok (.aload_n 0, 1) := by decide +kernel
theorem d_Model_group_18 : decode prog_13_method_77_code 18 = .ok (.iload_n 3, 1) := by decide +kernel
theorem d_Model_group_19 : decode prog_13_method_77_code 19 = .ok (.invokevirtual 419, 3) := by decide +kernel
theorem d_Model_group_22 : decode prog_13_method_77_code 22 = .ok (.ifCond .eq 7, 3) := by decide +kernel
theorem d_Model_group_25 : decode prog_13_method_77_code 25 = .ok (.iconst 1, 1) := by decide +kernel
theorem d_Model_group_26 : decode prog_13_method_77_code 26 = .ok (.goto 4, 3) := by decide +kernel
theorem d_Model_group_29 : decode prog_13_method_77_code 29 = .ok (.iconst 0, 1) := by decide +kernel
theorem d_Model_group_30 : decode prog_13_method_77_code 30 = .ok (.istore 4, 2) := by decide +kernel
theorem d_Model_group_32 : decode prog_13_method_77_code 32 = .ok (.aload_n 0, 1) := by decide +kernel
theorem d_Model_group_33 : decode prog_13_method_77_code 33 = .ok (.aload_n 0, 1) := by decide +kernel
theorem d_Model_group_34 : decode prog_13_method_77_code 34 = .ok (.getfield 406, 3) := by decide +kernel
theorem d_Model_group_37 : decode prog_13_method_77_code 37 = .ok (.ifCond .eq 10, 3) := by decide +kernel
theorem d_Model_group_40 : decode prog_13_method_77_code 40 = .ok (.aload_n 0, 1) := by decide +kernel
theorem d_Model_group_41 : decode prog_13_method_77_code 41 = .ok (.invokevirtual 409, 3) := by decide +kernel
theorem d_Model_group_44 : decode prog_13_method_77_code 44 = .ok (.ifCond .eq 7, 3) := by decide +kernel
theorem d_Model_group_47 : decode prog_13_method_77_code 47 = .ok (.iconst 1, 1) := by decide +kernel
theorem d_Model_group_48 : decode prog_13_method_77_code 48 = .ok (.goto 26, 3) := by decide +kernel
theorem d_Model_group_51 : decode prog_13_method_77_code 51 = .ok (.iload 4, 2) := by decide +kernel
theorem d_Model_group_53 : decode prog_13_method_77_code 53 = .ok (.ifCond .ne 7, 3) := by decide +kernel
theorem d_Model_group_56 : decode prog_13_method_77_code 56 = .ok (.iconst 2, 1) := by decide +kernel
theorem d_Model_group_57 : decode prog_13_method_77_code 57 = .ok (.goto 17, 3) := by decide +kernel
theorem d_Model_group_60 : decode prog_13_method_77_code 60 = .ok (.iload_n 2, 1) := by decide +kernel
theorem d_Model_group_61 : decode prog_13_method_77_code 61 = .ok (.iconst 0, 1) := by decide +kernel
theorem d_Model_group_62 : decode prog_13_method_77_code 62 = .ok (.iconst 3, 1) := by decide +kernel
theorem d_Model_group_63 : decode prog_13_method_77_code 63 = .ok (.invokestatic 235, 3) := by decide +kernel
theorem d_Model_group_66 : decode prog_13_method_77_code 66 = .ok (.ifCond .eq 7, 3) := by decide +kernel
theorem d_Model_group_69 : decode prog_13_method_77_code 69 = .ok (.iconst 0, 1) := by decide +kernel
theorem d_Model_group_70 : decode prog_13_method_77_code 70 = .ok (.goto 4, 3) := by decide +kernel
theorem d_Model_group_73 : decode prog_13_method_77_code 73 = .ok (.iconst 3, 1) := by decide +kernel
theorem d_Model_group_74 : decode prog_13_method_77_code 74 = .ok (.invokevirtual 254, 3) := by decide +kernel
theorem d_Model_group_77 : decode prog_13_method_77_code 77 = .ok (.ifCond .eq 5, 3) := by decide +kernel
theorem d_Model_group_80 : decode prog_13_method_77_code 80 = .ok (.iconst 0, 1) := by decide +kernel
theorem d_Model_group_81 : decode prog_13_method_77_code 81 = .ok (.ireturn, 1) := by decide +kernel
theorem d_Model_group_82 : decode prog_13_method_77_code 82 = .ok (.aload_n 0, 1) := by decide +kernel
theorem d_Model_group_83 : decode prog_13_method_77_code 83 = .ok (.bipush 6, 2) := by decide +kernel
theorem d_Model_group_85 : decode prog_13_method_77_code 85 = .ok (.iload_n 1, 1) := by decide +kernel
theorem d_Model_group_86 : decode prog_13_method_77_code 86 = .ok (.iload_n 2, 1) := by decide +kernel
theorem d_Model_group_87 : decode prog_13_method_77_code 87 = .ok (.iload_n 3, 1) := by decide +kernel
theorem d_Model_group_88 : decode prog_13_method_77_code 88 = .ok (.iconst 0, 1) := by decide +kernel
theorem d_Model_group_89 : decode prog_13_method_77_code 89 = .ok (.invokevirtual 415, 3) := by decide +kernel
theorem d_Model_group_92 : decode prog_13_method_77_code 92 = .ok (.aload_n 0, 1) := by decide +kernel
theorem d_Model_group_93 : decode prog_13_method_77_code 93 = .ok (.getfield 141, 3) := by decide +kernel
theorem d_Model_group_96 : decode prog_13_method_77_code 96 = .ok (.aload_n 0, 1) := by decide +kernel
theorem d_Model_group_97 : decode prog_13_method_77_code 97 = .ok (.getfield 406, 3) := by decide +kernel
theorem d_Model_group_100 : decode prog_13_method_77_code 100 = .ok (.iconst 1, 1) := by decide +kernel
theorem d_Model_group_101 : decode prog_13_method_77_code 101 = .ok (.isub, 1) := by decide +kernel
theorem d_Model_group_102 : decode prog_13_method_77_code 102 = .ok (.iconst 2, 1) := by decide +kernel
theorem d_Model_group_103 : decode prog_13_method_77_code 103 = .ok (.iastore, 1) := by decide +kernel
theorem d_Model_group_104 : decode prog_13_method_77_code 104 = .ok (.aload_n 0, 1) := by decide +kernel
theorem d_Model_group_105 : decode prog_13_method_77_code 105 = .ok (.getfield 406, 3) := by decide +kernel
theorem d_Model_group_108 : decode prog_13_method_77_code 108 = .ok (.ireturn, 1) := by decide +kernel
theorem d_Model_combine_0 : decode prog_13_method_78_code 0 = .ok (.aload_n 0, 1) := by decide +kernel
theorem d_Model_combine_1 : decode prog_13_method_78_code 1 = .ok (.getfield 406, 3) := by decide +kernel
theorem d_Model_combine_4 : decode prog_13_method_78_code 4 = .ok (.iconst 1, 1) := by decide +kernel
theorem d_Model_combine_5 : decode prog_13_method_78_code 5 = .ok (.if_icmp .le 39, 3) := by decide +kernel
theorem d_Model_combine_8 : decode prog_13_method_78_code 8 = .ok (.aload_n 0, 1) := by decide +kernel
theorem d_Model_combine_9 : decode prog_13_method_78_code 9 = .ok (.invokevirtual 409, 3) := by decide +kernel
theorem d_Model_combine_12 : decode prog_13_method_78_code 12 = .ok (.ifCond .ne 32, 3) := by decide +kernel
theorem d_Model_combine_15 : decode prog_13_method_78_code 15 = .ok (.aload_n 0, 1) := by decide +kernel
theorem d_Model_combine_16 : decode prog_13_method_78_code 16 = .ok (.getfield 141, 3) := by decide +kernel
theorem d_Model_combine_19 : decode prog_13_method_78_code 19 = .ok (.aload_n 0, 1) := by decide +kernel
theorem d_Model_combine_20 : decode prog_13_method_78_code 20 = .ok (.getfield 406, 3) := by decide +kernel
theorem d_Model_combine_23 : decode prog_13_method_78_code 23 = .ok (.iconst 2, 1) := by decide +kernel
theorem d_Model_combine_24 : decode prog_13_method_78_code 24 = .ok (.isub, 1) := by decide +kernel
theorem d_Model_combine_25 : decode prog_13_method_78_code 25 = .ok (.iaload, 1) := by decide +kernel
theorem d_Model_combine_26 : decode prog_13_method_78_code 26 = .ok (.aload_n 0, 1) := by decide +kernel
theorem d_Model_combine_27 : decode prog_13_method_78_code 27 = .ok (.getfield 141, 3) := by decide +kernel
theorem d_Model_combine_30 : decode prog_13_method_78_code 30 = .ok (.aload_n 0, 1) := by decide +kernel
theorem d_Model_combine_31 : decode prog_13_method_78_code 31 = .ok (.getfield 406, 3) := by decide +kernel
theorem d_Model_combine_34 : decode prog_13_method_78_code 34 = .ok (.iconst 1, 1) := by decide +kernel
theorem d_Model_combine_35 : decode prog_13_method_78_code 35 = .ok (.isub, 1) := by decide +kernel
theorem d_Model_combine_36 : decode prog_13_method_78_code 36 = .ok (.iaload, 1) := by decide +kernel
theorem d_Model_combine_37 : decode prog_13_method_78_code 37 = .ok (.if_icmp .ne 7, 3) := by decide +kernel
theorem d_Model_combine_40 : decode prog_13_method_78_code 40 = .ok (.iconst 1, 1) := by decide +kernel
theorem d_Model_combine_41 : decode prog_13_method_78_code 41 = .ok (.goto 4, 3) := by decide +kernel
theorem d_Model_combine_44 : decode prog_13_method_78_code 44 = .ok (.iconst 0, 1) := by decide +kernel
theorem d_Model_combine_45 : decode prog_13_method_78_code 45 = .ok (.istore_n 2, 1) := by decide +kernel
theorem d_Model_combine_46 : decode prog_13_method_78_code 46 = .ok (.aload_n 0, 1) := by decide +kernel
theorem d_Model_combine_47 : decode prog_13_method_78_code 47 = .ok (.iload_n 2, 1) := by decide +kernel
theorem d_Model_combine_48 : decode prog_13_method_78_code 48 = .ok (.ifCond .ne 7, 3) := by decide +kernel
theorem d_Model_combine_51 : decode prog_13_method_78_code 51 = .ok (.iconst 1, 1) := by decide +kernel
theorem d_Model_combine_52 : decode prog_13_method_78_code 52 = .ok (.goto 17, 3) := by decide +kernel
theorem d_Model_combine_55 : decode prog_13_method_78_code 55 = .ok (.iload_n 1, 1) := by decide +kernel
theorem d_Model_combine_56 : decode prog_13_method_78_code 56 = .ok (.iconst 0, 1) := by decide +kernel
theorem d_Model_combine_57 : decode prog_13_method_78_code 57 = .ok (.iconst 2, 1) := by decide +kernel
theorem d_Model_combine_58 : decode prog_13_method_78_code 58 = .ok (.invokestatic 235, 3) := by decide +kernel
theorem d_Model_combine_61 : decode prog_13_method_78_code 61 = .ok (.ifCond .eq 7, 3) := by decide +kernel
theorem d_Model_combine_64 : decode prog_13_method_78_code 64 = .ok (.iconst 0, 1) := by decide +kernel
theorem d_Model_combine_65 : decode prog_13_method_78_code 65 = .ok (.goto 4, 3) := by decide +kernel
theorem d_Model_combine_68 : decode prog_13_method_78_code 68 = .ok (.iconst 2, 1) := by decide +kernel
theorem d_Model_combine_69 : decode prog_13_method_78_code 69 = .ok (.invokevirtual 254, 3) := by decide +kernel
theorem d_Model_combine_72 : decode prog_13_method_78_code 72 = .ok (.ifCond .eq 5, 3) := by decide +kernel
theorem d_Model_combine_75 : decode prog_13_method_78_code 75 = .ok (.iconst 0, 1) := by decide +kernel
theorem d_Model_combine_76 : decode prog_13_method_78_code 76 = .ok (.ireturn, 1) := by decide +kernel
theorem d_Model_combine_77 : decode prog_13_method_78_code 77 = .ok (.aload_n 0, 1) := by decide +kernel
theorem d_Model_combine_78 : decode prog_13_method_78_code 78 = .ok (.bipush 7, 2) := by decide +kernel
theorem d_Model_combine_80 : decode prog_13_method_78_code 80 = .ok (.iload_n 1, 1) := by decide +kernel
theorem d_Model_combine_81 : decode prog_13_method_78_code 81 = .ok (.iconst 0, 1) := by decide +kernel
theorem d_Model_combine_82 : decode prog_13_method_78_code 82 = .ok (.iconst 0, 1) := by decide +kernel
theorem d_Model_combine_83 : decode prog_13_method_78_code 83 = .ok (.iconst 0, 1) := by decide +kernel
theorem d_Model_combine_84 : decode prog_13_method_78_code 84 = .ok (.invokevirtual 415, 3) := by decide +kernel
theorem d_Model_combine_87 : decode prog_13_method_78_code 87 = .ok (.aload_n 0, 1) := by decide +kernel
theorem d_Model_combine_88 : decode prog_13_method_78_code 88 = .ok (.dup, 1) := by decide +kernel
theorem d_Model_combine_89 : decode prog_13_method_78_code 89 = .ok (.getfield 406, 3) := by decide +kernel
theorem d_Model_combine_92 : decode prog_13_method_78_code 92 = .ok (.iconst 1, 1) := by decide +kernel
theorem d_Model_combine_93 : decode prog_13_method_78_code 93 = .ok (.isub, 1) := by decide +kernel
theorem d_Model_combine_94 : decode prog_13_method_78_code 94 = .ok (.putfield 406, 3) := by decide +kernel
theorem d_Model_combine_97 : decode prog_13_method_78_code 97 = .ok (.aload_n 0, 1) := by decide +kernel
theorem d_Model_combine_98 : decode prog_13_method_78_code 98 = .ok (.getfield 406, 3) := by decide +kernel
theorem d_Model_combine_101 : decode prog_13_method_78_code 101 = .ok (.ireturn, 1) := by decide +kernel
theorem d_Model_scrap_0 : decode prog_13_method_80_code 0 = .ok (.aload_n 0, 1) := by decide +kernel
theorem d_Model_scrap_1 : decode prog_13_method_80_code 1 = .ok (.iconst 0, 1) := by decide +kernel
theorem d_Model_scrap_2 : decode prog_13_method_80_code 2 = .ok (.putfield 231, 3) := by decide +kernel
theorem d_Model_scrap_5 : decode prog_13_method_80_code 5 = .ok (.aload_n 0, 1) := by decide +kernel
theorem d_Model_scrap_6 : decode prog_13_method_80_code 6 = .ok (.getfield 406, 3) := by decide +kernel
theorem d_Model_scrap_9 : decode prog_13_method_80_code 9 = .ok (.istore_n 1, 1) := by decide +kernel
theorem d_Model_scrap_10 : decode prog_13_method_80_code 10 = .ok (.aload_n 0, 1) := by decide +kernel
theorem d_Model_scrap_11 : decode prog_13_method_80_code 11 = .ok (.invokevirtual 425, 3) := by decide +kernel
theorem d_Model_scrap_14 : decode prog_13_method_80_code 14 = .ok (.iload_n 1, 1) := by decide +kernel
theorem d_Model_scrap_15 : decode prog_13_method_80_code 15 = .ok (.ireturn, 1) := by decide +kernel
theorem d_Model_clears_0 : decode prog_13_method_79_code 0 = .ok (.aload_n 0, 1) := by decide +kernel
theorem d_Model_clears_1 : decode prog_13_method_79_code 1 = .ok (.iconst 0, 1) := by decide +kernel
theorem d_Model_clears_2 : decode prog_13_method_79_code 2 = .ok (.putfield 406, 3) := by decide +kernel
theorem d_Model_clears_5 : decode prog_13_method_79_code 5 = .ok (.aload_n 0, 1) := by decide +kernel
theorem d_Model_clears_6 : decode prog_13_method_79_code 6 = .ok (.iconst 0, 1) := by decide +kernel
theorem d_Model_clears_7 : decode prog_13_method_79_code 7 = .ok (.putfield 403, 3) := by decide +kernel
theorem d_Model_clears_10 : decode prog_13_method_79_code 10 = .ok (.aload_n 0, 1) := by decide +kernel
theorem d_Model_clears_11 : decode prog_13_method_79_code 11 = .ok (.iconst 0, 1) := by decide +kernel
theorem d_Model_clears_12 : decode prog_13_method_79_code 12 = .ok (.putfield 412, 3) := by decide +kernel
theorem d_Model_clears_15 : decode prog_13_method_79_code 15 = .ok (.return_, 1) := by decide +kernel
theorem d_Model_query_0 : decode prog_13_method_82_code 0 = .ok (.aload_n 0, 1) := by decide +kernel
theorem d_Model_query_1 : decode prog_13_method_82_code 1 = .ok (.aload_n 0, 1) := by decide +kernel
theorem d_Model_query_2 : decode prog_13_method_82_code 2 = .ok (.getfield 406, 3) := by decide +kernel
theorem d_Model_query_5 : decode prog_13_method_82_code 5 = .ok (.iconst 1, 1) := by decide +kernel
theorem d_Model_query_6 : decode prog_13_method_82_code 6 = .ok (.if_icmp .ne 12, 3) := by decide +kernel
theorem d_Model_query_9 : decode prog_13_method_82_code 9 = .ok (.aload_n 0, 1) := by decide +kernel
theorem d_Model_query_10 : decode prog_13_method_82_code 10 = .ok (.getfield 428, 3) := by decide +kernel
theorem d_Model_query_13 : decode prog_13_method_82_code 13 = .ok (.bipush 20, 2) := by decide +kernel
theorem d_Model_query_15 : decode prog_13_method_82_code 15 = .ok (.if_icmp .ne 7, 3) := by decide +kernel
theorem d_Model_query_18 : decode prog_13_method_82_code 18 = .ok (.iconst 1, 1) := by decide +kernel
theorem d_Model_query_19 : decode prog_13_method_82_code 19 = .ok (.goto 4, 3) := by decide +kernel
theorem d_Model_query_22 : decode prog_13_method_82_code 22 = .ok (.iconst 0, 1) := by decide +kernel
theorem d_Model_query_23 : decode prog_13_method_82_code 23 = .ok (.invokevirtual 254, 3) := by decide +kernel
theorem d_Model_query_26 : decode prog_13_method_82_code 26 = .ok (.ifCond .eq 5, 3) := by decide +kernel
theorem d_Model_query_29 : decode prog_13_method_82_code 29 = .ok (.iconst 0, 1) := by decide +kernel
theorem d_Model_query_30 : decode prog_13_method_82_code 30 = .ok (.ireturn, 1) := by decide +kernel
theorem d_Model_query_31 : decode prog_13_method_82_code 31 = .ok (.iconst 0, 1) := by decide +kernel
theorem d_Model_query_32 : decode prog_13_method_82_code 32 = .ok (.istore_n 1, 1) := by decide +kernel
theorem d_Model_query_33 : decode prog_13_method_82_code 33 = .ok (.iload_n 1, 1) := by decide +kernel
theorem d_Model_query_34 : decode prog_13_method_82_code 34 = .ok (.aload_n 0, 1) := by decide +kernel
theorem d_Model_query_35 : decode prog_13_method_82_code 35 = .ok (.getfield 403, 3) := by decide +kernel
theorem d_Model_query_38 : decode prog_13_method_82_code 38 = .ok (.if_icmp .ge 79, 3) := by decide +kernel
theorem d_Model_query_41 : decode prog_13_method_82_code 41 = .ok (.aload_n 0, 1) := by decide +kernel
theorem d_Model_query_42 : decode prog_13_method_82_code 42 = .ok (.getfield 428, 3) := by decide +kernel
theorem d_Model_query_45 : decode prog_13_method_82_code 45 = .ok (.invokestatic 431, 3) := by decide +kernel
theorem d_Model_query_48 : decode prog_13_method_82_code 48 = .ok (.iload_n 1, 1) := by decide +kernel
theorem d_Model_query_49 : decode prog_13_method_82_code 49 = .ok (.iadd, 1) := by decide +kernel
theorem d_Model_query_50 : decode prog_13_method_82_code 50 = .ok (.istore_n 2, 1) := by decide +kernel
theorem d_Model_query_51 : decode prog_13_method_82_code 51 = .ok (.aload_n 0, 1) := by decide +kernel
theorem d_Model_query_52 : decode prog_13_method_82_code 52 = .ok (.getfield 144, 3) := by decide +kernel
theorem d_Model_query_55 : decode prog_13_method_82_code 55 = .ok (.iload_n 2, 1) := by decide +kernel
theorem d_Model_query_56 : decode prog_13_method_82_code 56 = .ok (.aload_n 0, 1) := by decide +kernel
theorem d_Model_query_57 : decode prog_13_method_82_code 57 = .ok (.getfield 144, 3) := by decide +kernel
theorem d_Model_query_60 : decode prog_13_method_82_code 60 = .ok (.iload_n 1, 1) := by decide +kernel
theorem d_Model_query_61 : decode prog_13_method_82_code 61 = .ok (.iaload, 1) := by decide +kernel
theorem d_Model_query_62 : decode prog_13_method_82_code 62 = .ok (.iastore, 1) := by decide +kernel
theorem d_Model_query_63 : decode prog_13_method_82_code 63 = .ok (.aload_n 0, 1) := by decide +kernel
theorem d_Model_query_64 : decode prog_13_method_82_code 64 = .ok (.getfield 147, 3) := by decide +kernel
theorem d_Model_query_67 : decode prog_13_method_82_code 67 = .ok (.iload_n 2, 1) := by decide +kernel
theorem d_Model_query_68 : decode prog_13_method_82_code 68 = .ok (.aload_n 0, 1) := by decide +kernel
theorem d_Model_query_69 : decode prog_13_method_82_code 69 = .ok (.getfield 147, 3) := by decide +kernel
theorem d_Model_query_72 : decode prog_13_method_82_code 72 = .ok (.iload_n 1, 1) := by decide +kernel
theorem d_Model_query_73 : decode prog_13_method_82_code 73 = .ok (.iaload, 1) := by decide +kernel
theorem d_Model_query_74 : decode prog_13_method_82_code 74 = .ok (.iastore, 1) := by decide +kernel
theorem d_Model_query_75 : decode prog_13_method_82_code 75 = .ok (.aload_n 0, 1) := by decide +kernel
theorem d_Model_query_76 : decode prog_13_method_82_code 76 = .ok (.getfield 150, 3) := by decide +kernel
theorem d_Model_query_79 : decode prog_13_method_82_code 79 = .ok (.iload_n 2, 1) := by decide +kernel
theorem d_Model_query_80 : decode prog_13_method_82_code 80 = .ok (.aload_n 0, 1) := by decide +kernel
theorem d_Model_query_81 : decode prog_13_method_82_code 81 = .ok (.getfield 150, 3) := by decide +kernel
theorem d_Model_query_84 : decode prog_13_method_82_code 84 = .ok (.iload_n 1, 1) := by decide +kernel
theorem d_Model_query_85 : decode prog_13_method_82_code 85 = .ok (.iaload, 1) := by decide +kernel
theorem d_Model_query_86 : decode prog_13_method_82_code 86 = .ok (.iastore, 1) := by decide +kernel
theorem d_Model_query_87 : decode prog_13_method_82_code 87 = .ok (.aload_n 0, 1) := by decide +kernel
theorem d_Model_query_88 : decode prog_13_method_82_code 88 = .ok (.getfield 153, 3) := by decide +kernel
theorem d_Model_query_91 : decode prog_13_method_82_code 91 = .ok (.iload_n 2, 1) := by decide +kernel
theorem d_Model_query_92 : decode prog_13_method_82_code 92 = .ok (.aload_n 0, 1) := by decide +kernel
theorem d_Model_query_93 : decode prog_13_method_82_code 93 = .ok (.getfield 153, 3) := by decide +kernel
theorem d_Model_query_96 : decode prog_13_method_82_code 96 = .ok (.iload_n 1, 1) := by decide +kernel
theorem d_Model_query_97 : decode prog_13_method_82_code 97 = .ok (.iaload, 1) := by decide +kernel
theorem d_Model_query_98 : decode prog_13_method_82_code 98 = .ok (.iastore, 1) := by decide +kernel
theorem d_Model_query_99 : decode prog_13_method_82_code 99 = .ok (.aload_n 0, 1) := by decide +kernel
theorem d_Model_query_100 : decode prog_13_method_82_code 100 = .ok (.getfield 156, 3) := by decide +kernel
theorem d_Model_query_103 : decode prog_13_method_82_code 103 = .ok (.iload_n 2, 1) := by decide +kernel
theorem d_Model_query_104 : decode prog_13_method_82_code 104 = .ok (.aload_n 0, 1) := by decide +kernel
theorem d_Model_query_105 : decode prog_13_method_82_code 105 = .ok (.getfield 156, 3) := by decide +kernel
theorem d_Model_query_108 : decode prog_13_method_82_code 108 = .ok (.iload_n 1, 1) := by decide +kernel
theorem d_Model_query_109 : decode prog_13_method_82_code 109 = .ok (.baload, 1) := by decide +kernel
theorem d_Model_query_110 : decode prog_13_method_82_code 110 = .ok (.bastore, 1) := by decide +kernel
theorem d_Model_query_111 : decode prog_13_method_82_code 111 = .ok (.iinc 1 1, 3) := by decide +kernel
theorem d_Model_query_114 : decode prog_13_method_82_code 114 = .ok (.goto (-81), 3) := by decide +kernel
theorem d_Model_query_117 : decode prog_13_method_82_code 117 = .ok (.aload_n 0, 1) := by decide +kernel
theorem d_Model_query_118 : decode prog_13_method_82_code 118 = .ok (.getfield 159, 3) := by decide +kernel
theorem d_Model_query_121 : decode prog_13_method_82_code 121 = .ok (.aload_n 0, 1) := by decide +kernel
theorem d_Model_query_122 : decode prog_13_method_82_code 122 = .ok (.getfield 428, 3) := by decide +kernel
theorem d_Model_query_125 : decode prog_13_method_82_code 125 = .ok (.aload_n 0, 1) := by decide +kernel
theorem d_Model_query_126 : decode prog_13_method_82_code 126 = .ok (.getfield 403, 3) := by decide +kernel
theorem d_Model_query_129 : decode prog_13_method_82_code 129 = .ok (.iastore, 1) := by decide +kernel
theorem d_Model_query_130 : decode prog_13_method_82_code 130 = .ok (.aload_n 0, 1) := by decide +kernel
theorem d_Model_query_131 : decode prog_13_method_82_code 131 = .ok (.invokevirtual 425, 3) := by decide +kernel
theorem d_Model_query_134 : decode prog_13_method_82_code 134 = .ok (.aload_n 0, 1) := by decide +kernel
theorem d_Model_query_135 : decode prog_13_method_82_code 135 = .ok (.dup, 1) := by decide +kernel
theorem d_Model_query_136 : decode prog_13_method_82_code 136 = .ok (.getfield 428, 3) := by decide +kernel
theorem d_Model_query_139 : decode prog_13_method_82_code 139 = .ok (.iconst 1, 1) := by decide +kernel
theorem d_Model_query_140 : decode prog_13_method_82_code 140 = .ok (.iadd, 1) := by decide +kernel
theorem d_Model_query_141 : decode prog_13_method_82_code 141 = .ok (.putfield 428, 3) := by decide +kernel
theorem d_Model_query_144 : decode prog_13_method_82_code 144 = .ok (.aload_n 0, 1) := by decide +kernel
theorem d_Model_query_145 : decode prog_13_method_82_code 145 = .ok (.getfield 428, 3) := by decide +kernel
theorem d_Model_query_148 : decode prog_13_method_82_code 148 = .ok (.iconst 1, 1) := by decide +kernel
theorem d_Model_query_149 : decode prog_13_method_82_code 149 = .ok (.isub, 1) := by decide +kernel
theorem d_Model_query_150 : decode prog_13_method_82_code 150 = .ok (.ireturn, 1) := by decide +kernel
theorem d_Model_base_0 : decode prog_13_method_81_code 0 = .ok (.bipush 12, 2) := by decide +kernel
theorem d_Model_base_2 : decode prog_13_method_81_code 2 = .ok (.iload_n 0, 1) := by decide +kernel
theorem d_Model_base_3 : decode prog_13_method_81_code 3 = .ok (.iconst 1, 1) := by decide +kernel
theorem d_Model_base_4 : decode prog_13_method_81_code 4 = .ok (.iadd, 1) := by decide +kernel
theorem d_Model_base_5 : decode prog_13_method_81_code 5 = .ok (.imul, 1) := by decide +kernel
theorem d_Model_base_6 : decode prog_13_method_81_code 6 = .ok (.ireturn, 1) := by decide +kernel
theorem d_Model_run_0 : decode prog_13_method_100_code 0 = .ok (.aload_n 0, 1) := by decide +kernel
theorem d_Model_run_1 : decode prog_13_method_100_code 1 = .ok (.iload_n 1, 1) := by decide +kernel
theorem d_Model_run_2 : decode prog_13_method_100_code 2 = .ok (.invokevirtual 376, 3) := by decide +kernel
theorem d_Model_run_5 : decode prog_13_method_100_code 5 = .ok (.ifCond .eq 15, 3) := by decide +kernel
theorem d_Model_run_8 : decode prog_13_method_100_code 8 = .ok (.aload_n 0, 1) := by decide +kernel
theorem d_Model_run_9 : decode prog_13_method_100_code 9 = .ok (.iload_n 2, 1) := by decide +kernel
theorem d_Model_run_10 : decode prog_13_method_100_code 10 = .ok (.invokevirtual 486, 3) := by decide +kernel
theorem d_Model_run_13 : decode prog_13_method_100_code 13 = .ok (.ifCond .eq 7, 3) := by decide +kernel
theorem d_Model_run_16 : decode prog_13_method_100_code 16 = .ok (.iconst 1, 1) := by decide +kernel
theorem d_Model_run_17 : decode prog_13_method_100_code 17 = .ok (.goto 4, 3) := by decide +kernel
theorem d_Model_run_20 : decode prog_13_method_100_code 20 = .ok (.iconst 0, 1) := by decide +kernel
theorem d_Model_run_21 : decode prog_13_method_100_code 21 = .ok (.istore_n 3, 1) := by decide +kernel
theorem d_Model_run_22 : decode prog_13_method_100_code 22 = .ok (.iload_n 3, 1) := by decide +kernel
theorem d_Model_run_23 : decode prog_13_method_100_code 23 = .ok (.ifCond .eq 16, 3) := by decide +kernel
theorem d_Model_run_26 : decode prog_13_method_100_code 26 = .ok (.aload_n 0, 1) := by decide +kernel
theorem d_Model_run_27 : decode prog_13_method_100_code 27 = .ok (.getfield 61, 3) := by decide +kernel
theorem d_Model_run_30 : decode prog_13_method_100_code 30 = .ok (.iload_n 1, 1) := by decide +kernel
theorem d_Model_run_31 : decode prog_13_method_100_code 31 = .ok (.iaload, 1) := by decide +kernel
theorem d_Model_run_32 : decode prog_13_method_100_code 32 = .ok (.ifCond .ne 7, 3) := by decide +kernel
theorem d_Model_run_35 : decode prog_13_method_100_code 35 = .ok (.iconst 1, 1) := by decide +kernel
theorem d_Model_run_36 : decode prog_13_method_100_code 36 = .ok (.goto 4, 3) := by decide +kernel
theorem d_Model_run_39 : decode prog_13_method_100_code 39 = .ok (.iconst 0, 1) := by decide +kernel
theorem d_Model_run_40 : decode prog_13_method_100_code 40 = .ok (.istore 4, 2) := by decide +kernel
theorem d_Model_run_42 : decode prog_13_method_100_code 42 = .ok (.iload 4, 2) := by decide +kernel
theorem d_Model_run_44 : decode prog_13_method_100_code 44 = .ok (.ifCond .eq 20, 3) := by decide +kernel
theorem d_Model_run_47 : decode prog_13_method_100_code 47 = .ok (.aload_n 0, 1) := by decide +kernel
theorem d_Model_run_48 : decode prog_13_method_100_code 48 = .ok (.iload_n 2, 1) := by decide +kernel
theorem d_Model_run_49 : decode prog_13_method_100_code 49 = .ok (.aload_n 0, 1) := by decide +kernel
theorem d_Model_run_50 : decode prog_13_method_100_code 50 = .ok (.getfield 67, 3) := by decide +kernel
theorem d_Model_run_53 : decode prog_13_method_100_code 53 = .ok (.iload_n 1, 1) := by decide +kernel
theorem d_Model_run_54 : decode prog_13_method_100_code 54 = .ok (.iaload, 1) := by decide +kernel
theorem d_Model_run_55 : decode prog_13_method_100_code 55 = .ok (.aload_n 0, 1) := by decide +kernel
theorem d_Model_run_56 : decode prog_13_method_100_code 56 = .ok (.getfield 58, 3) := by decide +kernel
theorem d_Model_run_59 : decode prog_13_method_100_code 59 = .ok (.iload_n 1, 1) := by decide +kernel
theorem d_Model_run_60 : decode prog_13_method_100_code 60 = .ok (.iaload, 1) := by decide +kernel
theorem d_Model_run_61 : decode prog_13_method_100_code 61 = .ok (.invokevirtual 489, 3) := by decide +kernel
theorem d_Model_run_64 : decode prog_13_method_100_code 64 = .ok (.aload_n 0, 1) := by decide +kernel
theorem d_Model_run_65 : decode prog_13_method_100_code 65 = .ok (.iload_n 3, 1) := by decide +kernel
theorem d_Model_run_66 : decode prog_13_method_100_code 66 = .ok (.ifCond .ne 7, 3) := by decide +kernel
theorem d_Model_run_69 : decode prog_13_method_100_code 69 = .ok (.iconst 1, 1) := by decide +kernel
theorem d_Model_run_70 : decode prog_13_method_100_code 70 = .ok (.goto 24, 3) := by decide +kernel
theorem d_Model_run_73 : decode prog_13_method_100_code 73 = .ok (.iload 4, 2) := by decide +kernel
theorem d_Model_run_75 : decode prog_13_method_100_code 75 = .ok (.ifCond .ne 7, 3) := by decide +kernel
theorem d_Model_run_78 : decode prog_13_method_100_code 78 = .ok (.iconst 2, 1) := by decide +kernel
theorem d_Model_run_79 : decode prog_13_method_100_code 79 = .ok (.goto 15, 3) := by decide +kernel
theorem d_Model_run_82 : decode prog_13_method_100_code 82 = .ok (.aload_n 0, 1) := by decide +kernel
theorem d_Model_run_83 : decode prog_13_method_100_code 83 = .ok (.getfield 440, 3) := by decide +kernel
theorem d_Model_run_86 : decode prog_13_method_100_code 86 = .ok (.ifCond .eq 7, 3) := by decide +kernel
theorem d_Model_run_89 : decode prog_13_method_100_code 89 = .ok (.iconst 3, 1) := by decide +kernel
theorem d_Model_run_90 : decode prog_13_method_100_code 90 = .ok (.goto 4, 3) := by decide +kernel
theorem d_Model_run_93 : decode prog_13_method_100_code 93 = .ok (.iconst 0, 1) := by decide +kernel
theorem d_Model_run_94 : decode prog_13_method_100_code 94 = .ok (.invokevirtual 254, 3) := by decide +kernel
theorem d_Model_run_97 : decode prog_13_method_100_code 97 = .ok (.ifCond .eq 5, 3) := by decide +kernel
theorem d_Model_run_100 : decode prog_13_method_100_code 100 = .ok (.iconst 0, 1) := by decide +kernel
theorem d_Model_run_101 : decode prog_13_method_100_code 101 = .ok (.ireturn, 1) := by decide +kernel
theorem d_Model_run_102 : decode prog_13_method_100_code 102 = .ok (.aload_n 0, 1) := by decide +kernel
theorem d_Model_run_103 : decode prog_13_method_100_code 103 = .ok (.iload_n 1, 1) := by decide +kernel
theorem d_Model_run_104 : decode prog_13_method_100_code 104 = .ok (.iload_n 2, 1) := by decide +kernel
theorem d_Model_run_105 : decode prog_13_method_100_code 105 = .ok (.invokevirtual 492, 3) := by decide +kernel
theorem d_Model_run_108 : decode prog_13_method_100_code 108 = .ok (.aload_n 0, 1) := by decide +kernel
theorem d_Model_run_109 : decode prog_13_method_100_code 109 = .ok (.aload_n 0, 1) := by decide +kernel
theorem d_Model_run_110 : decode prog_13_method_100_code 110 = .ok (.getfield 184, 3) := by decide +kernel
theorem d_Model_run_113 : decode prog_13_method_100_code 113 = .ok (.iconst 0, 1) := by decide +kernel
theorem d_Model_run_114 : decode prog_13_method_100_code 114 = .ok (.iaload, 1) := by decide +kernel
theorem d_Model_run_115 : decode prog_13_method_100_code 115 = .ok (.putfield 495, 3) := by decide +kernel
theorem d_Model_run_118 : decode prog_13_method_100_code 118 = .ok (.aload_n 0, 1) := by decide +kernel
theorem d_Model_run_119 : decode prog_13_method_100_code 119 = .ok (.aload_n 0, 1) := by decide +kernel
theorem d_Model_run_120 : decode prog_13_method_100_code 120 = .ok (.getfield 187, 3) := by decide +kernel
theorem d_Model_run_123 : decode prog_13_method_100_code 123 = .ok (.iconst 0, 1) := by decide +kernel
theorem d_Model_run_124 : decode prog_13_method_100_code 124 = .ok (.iaload, 1) := by decide +kernel
theorem d_Model_run_125 : decode prog_13_method_100_code 125 = .ok (.putfield 498, 3) := by decide +kernel
theorem d_Model_run_128 : decode prog_13_method_100_code 128 = .ok (.iconst 0, 1) := by decide +kernel
theorem d_Model_run_129 : decode prog_13_method_100_code 129 = .ok (.istore 5, 2) := by decide +kernel
theorem d_Model_run_131 : decode prog_13_method_100_code 131 = .ok (.iload 5, 2) := by decide +kernel
theorem d_Model_run_133 : decode prog_13_method_100_code 133 = .ok (.aload_n 0, 1) := by decide +kernel
theorem d_Model_run_134 : decode prog_13_method_100_code 134 = .ok (.getfield 495, 3) := by decide +kernel
theorem d_Model_run_137 : decode prog_13_method_100_code 137 = .ok (.aload_n 0, 1) := by decide +kernel
theorem d_Model_run_138 : decode prog_13_method_100_code 138 = .ok (.getfield 498, 3) := by decide +kernel
theorem d_Model_run_141 : decode prog_13_method_100_code 141 = .ok (.imul, 1) := by decide +kernel
theorem d_Model_run_142 : decode prog_13_method_100_code 142 = .ok (.if_icmp .ge 23, 3) := by decide +kernel
theorem d_Model_run_145 : decode prog_13_method_100_code 145 = .ok (.aload_n 0, 1) := by decide +kernel
theorem d_Model_run_146 : decode prog_13_method_100_code 146 = .ok (.getfield 191, 3) := by decide +kernel
theorem d_Model_run_149 : decode prog_13_method_100_code 149 = .ok (.iload 5, 2) := by decide +kernel
theorem d_Model_run_151 : decode prog_13_method_100_code 151 = .ok (.aload_n 0, 1) := by decide +kernel
theorem d_Model_run_152 : decode prog_13_method_100_code 152 = .ok (.getfield 178, 3) := by decide +kernel
theorem d_Model_run_155 : decode prog_13_method_100_code 155 = .ok (.iload 5, 2) := by decide +kernel
theorem d_Model_run_157 : decode prog_13_method_100_code 157 = .ok (.iaload, 1) := by decide +kernel
theorem d_Model_run_158 : decode prog_13_method_100_code 158 = .ok (.iastore, 1) := by decide +kernel
theorem d_Model_run_159 : decode prog_13_method_100_code 159 = .ok (.iinc 5 1, 3) := by decide +kernel
theorem d_Model_run_162 : decode prog_13_method_100_code 162 = .ok (.goto (-31), 3) := by decide +kernel
theorem d_Model_run_165 : decode prog_13_method_100_code 165 = .ok (.aload_n 0, 1) := by decide +kernel
theorem d_Model_run_166 : decode prog_13_method_100_code 166 = .ok (.getfield 495, 3) := by decide +kernel
theorem d_Model_run_169 : decode prog_13_method_100_code 169 = .ok (.ireturn, 1) := by decide +kernel
theorem d_Model_isQuery_0 : decode prog_13_method_83_code 0 = .ok (.iload_n 1, 1) := by decide +kernel
theorem d_Model_isQuery_1 : decode prog_13_method_83_code 1 = .ok (.iconst 0, 1) := by decide +kernel
theorem d_Model_isQuery_2 : decode prog_13_method_83_code 2 = .ok (.aload_n 0, 1) := by decide +kernel
theorem d_Model_isQuery_3 : decode prog_13_method_83_code 3 = .ok (.getfield 428, 3) := by decide +kernel
theorem d_Model_isQuery_6 : decode prog_13_method_83_code 6 = .ok (.iconst 1, 1) := by decide +kernel
theorem d_Model_isQuery_7 : decode prog_13_method_83_code 7 = .ok (.isub, 1) := by decide +kernel
theorem d_Model_isQuery_8 : decode prog_13_method_83_code 8 = .ok (.invokestatic 235, 3) := by decide +kernel
theorem d_Model_isQuery_11 : decode prog_13_method_83_code 11 = .ok (.ireturn, 1) := by decide +kernel
theorem d_Model_finds_0 : decode prog_13_method_98_code 0 = .ok (.aload_n 0, 1) := by decide +kernel
theorem d_Model_finds_1 : decode prog_13_method_98_code 1 = .ok (.iconst 0, 1) := by decide +kernel
theorem d_Model_finds_2 : decode prog_13_method_98_code 2 = .ok (.putfield 434, 3) := by decide +kernel
theorem d_Model_finds_5 : decode prog_13_method_98_code 5 = .ok (.aload_n 0, 1) := by decide +kernel
theorem d_Model_finds_6 : decode prog_13_method_98_code 6 = .ok (.iconst 0, 1) := by decide +kernel
theorem d_Model_finds_7 : decode prog_13_method_98_code 7 = .ok (.putfield 440, 3) := by decide +kernel
theorem d_Model_finds_10 : decode prog_13_method_98_code 10 = .ok (.iload_n 1, 1) := by decide +kernel
theorem d_Model_finds_11 : decode prog_13_method_98_code 11 = .ok (.invokestatic 431, 3) := by decide +kernel
theorem d_Model_finds_14 : decode prog_13_method_98_code 14 = .ok (.istore 4, 2) := by decide +kernel
theorem d_Model_finds_16 : decode prog_13_method_98_code 16 = .ok (.iload 4, 2) := by decide +kernel
theorem d_Model_finds_18 : decode prog_13_method_98_code 18 = .ok (.iload_n 1, 1) := by decide +kernel
theorem d_Model_finds_19 : decode prog_13_method_98_code 19 = .ok (.invokestatic 431, 3) := by decide +kernel
theorem d_Model_finds_22 : decode prog_13_method_98_code 22 = .ok (.aload_n 0, 1) := by decide +kernel
theorem d_Model_finds_23 : decode prog_13_method_98_code 23 = .ok (.getfield 159, 3) := by decide +kernel
theorem d_Model_finds_26 : decode prog_13_method_98_code 26 = .ok (.iload_n 1, 1) := by decide +kernel
theorem d_Model_finds_27 : decode prog_13_method_98_code 27 = .ok (.iaload, 1) := by decide +kernel
theorem d_Model_finds_28 : decode prog_13_method_98_code 28 = .ok (.iadd, 1) := by decide +kernel
theorem d_Model_finds_29 : decode prog_13_method_98_code 29 = .ok (.if_icmp .ge 122, 3) := by decide +kernel
theorem d_Model_finds_32 : decode prog_13_method_98_code 32 = .ok (.aload_n 0, 1) := by decide +kernel
theorem d_Model_finds_33 : decode prog_13_method_98_code 33 = .ok (.getfield 144, 3) := by decide +kernel
theorem d_Model_finds_36 : decode prog_13_method_98_code 36 = .ok (.iload 4, 2) := by decide +kernel
theorem d_Model_finds_38 : decode prog_13_method_98_code 38 = .ok (.iaload, 1) := by decide +kernel
theorem d_Model_finds_39 : decode prog_13_method_98_code 39 = .ok (.ifCond .ne 19, 3) := by decide +kernel
theorem d_Model_finds_42 : decode prog_13_method_98_code 42 = .ok (.aload_n 0, 1) := by decide +kernel
theorem d_Model_finds_43 : decode prog_13_method_98_code 43 = .ok (.iload_n 2, 1) := by decide +kernel
theorem d_Model_finds_44 : decode prog_13_method_98_code 44 = .ok (.iload_n 3, 1) := by decide +kernel
theorem d_Model_finds_45 : decode prog_13_method_98_code 45 = .ok (.aload_n 0, 1) := by decide +kernel
theorem d_Model_finds_46 : decode prog_13_method_98_code 46 = .ok (.getfield 147, 3) := by decide +kernel
theorem d_Model_finds_49 : decode prog_13_method_98_code 49 = .ok (.iload 4, 2) := by decide +kernel
theorem d_Model_finds_51 : decode prog_13_method_98_code 51 = .ok (.iaload, 1) := by decide +kernel
theorem d_Model_finds_52 : decode prog_13_method_98_code 52 = .ok (.invokevirtual 466, 3) := by decide +kernel
theorem d_Model_finds_55 : decode prog_13_method_98_code 55 = .ok (.goto 90, 3) := by decide +kernel
theorem d_Model_finds_58 : decode prog_13_method_98_code 58 = .ok (.aload_n 0, 1) := by decide +kernel
theorem d_Model_finds_59 : decode prog_13_method_98_code 59 = .ok (.getfield 144, 3) := by decide +kernel
theorem d_Model_finds_62 : decode prog_13_method_98_code 62 = .ok (.iload 4, 2) := by decide +kernel
theorem d_Model_finds_64 : decode prog_13_method_98_code 64 = .ok (.iaload, 1) := by decide +kernel
theorem d_Model_finds_65 : decode prog_13_method_98_code 65 = .ok (.iconst 3, 1) := by decide +kernel
theorem d_Model_finds_66 : decode prog_13_method_98_code 66 = .ok (.if_icmp .gt 12, 3) := by decide +kernel
theorem d_Model_finds_69 : decode prog_13_method_98_code 69 = .ok (.aload_n 0, 1) := by decide +kernel
theorem d_Model_finds_70 : decode prog_13_method_98_code 70 = .ok (.iload 4, 2) := by decide +kernel
theorem d_Model_finds_72 : decode prog_13_method_98_code 72 = .ok (.invokevirtual 468, 3) := by decide +kernel
theorem d_Model_finds_75 : decode prog_13_method_98_code 75 = .ok (.goto 70, 3) := by decide +kernel
theorem d_Model_finds_78 : decode prog_13_method_98_code 78 = .ok (.aload_n 0, 1) := by decide +kernel
theorem d_Model_finds_79 : decode prog_13_method_98_code 79 = .ok (.getfield 144, 3) := by decide +kernel
theorem d_Model_finds_82 : decode prog_13_method_98_code 82 = .ok (.iload 4, 2) := by decide +kernel
theorem d_Model_finds_84 : decode prog_13_method_98_code 84 = .ok (.iaload, 1) := by decide +kernel
theorem d_Model_finds_85 : decode prog_13_method_98_code 85 = .ok (.iconst 4, 1) := by decide +kernel
theorem d_Model_finds_86 : decode prog_13_method_98_code 86 = .ok (.if_icmp .ne 12, 3) := by decide +kernel
theorem d_Model_finds_89 : decode prog_13_method_98_code 89 = .ok (.aload_n 0, 1) := by decide +kernel
theorem d_Model_finds_90 : decode prog_13_method_98_code 90 = .ok (.iload 4, 2) := by decide +kernel
theorem d_Model_finds_92 : decode prog_13_method_98_code 92 = .ok (.invokevirtual 471, 3) := by decide +kernel
theorem d_Model_finds_95 : decode prog_13_method_98_code 95 = .ok (.goto 50, 3) := by decide +kernel
theorem d_Model_finds_98 : decode prog_13_method_98_code 98 = .ok (.aload_n 0, 1) := by decide +kernel
theorem d_Model_finds_99 : decode prog_13_method_98_code 99 = .ok (.getfield 144, 3) := by decide +kernel
theorem d_Model_finds_102 : decode prog_13_method_98_code 102 = .ok (.iload 4, 2) := by decide +kernel
theorem d_Model_finds_104 : decode prog_13_method_98_code 104 = .ok (.iaload, 1) := by decide +kernel
theorem d_Model_finds_105 : decode prog_13_method_98_code 105 = .ok (.iconst 5, 1) := by decide +kernel
theorem d_Model_finds_106 : decode prog_13_method_98_code 106 = .ok (.if_icmp .ne 12, 3) := by decide +kernel
theorem d_Model_finds_109 : decode prog_13_method_98_code 109 = .ok (.aload_n 0, 1) := by decide +kernel
theorem d_Model_finds_110 : decode prog_13_method_98_code 110 = .ok (.iload 4, 2) := by decide +kernel
theorem d_Model_finds_112 : decode prog_13_method_98_code 112 = .ok (.invokevirtual 474, 3) := by decide +kernel
theorem d_Model_finds_115 : decode prog_13_method_98_code 115 = .ok (.goto 30, 3) := by decide +kernel
theorem d_Model_finds_118 : decode prog_13_method_98_code 118 = .ok (.aload_n 0, 1) := by decide +kernel
theorem d_Model_finds_119 : decode prog_13_method_98_code 119 = .ok (.getfield 144, 3) := by decide +kernel
theorem d_Model_finds_122 : decode prog_13_method_98_code 122 = .ok (.iload 4, 2) := by decide +kernel
theorem d_Model_finds_124 : decode prog_13_method_98_code 124 = .ok (.iaload, 1) := by decide +kernel
theorem d_Model_finds_125 : decode prog_13_method_98_code 125 = .ok (.bipush 6, 2) := by decide +kernel
theorem d_Model_finds_127 : decode prog_13_method_98_code 127 = .ok (.if_icmp .ne 12, 3) := by decide +kernel
theorem d_Model_finds_130 : decode prog_13_method_98_code 130 = .ok (.aload_n 0, 1) := by decide +kernel
theorem d_Model_finds_131 : decode prog_13_method_98_code 131 = .ok (.iload 4, 2) := by decide +kernel
theorem d_Model_finds_133 : decode prog_13_method_98_code 133 = .ok (.invokevirtual 477, 3) := by decide +kernel
theorem d_Model_finds_136 : decode prog_13_method_98_code 136 = .ok (.goto 9, 3) := by decide +kernel
theorem d_Model_finds_139 : decode prog_13_method_98_code 139 = .ok (.aload_n 0, 1) := by decide +kernel
theorem d_Model_finds_140 : decode prog_13_method_98_code 140 = .ok (.iload 4, 2) := by decide +kernel
theorem d_Model_finds_142 : decode prog_13_method_98_code 142 = .ok (.invokevirtual 480, 3) := by decide +kernel
theorem d_Model_finds_145 : decode prog_13_method_98_code 145 = .ok (.iinc 4 1, 3) := by decide +kernel
theorem d_Model_finds_148 : decode prog_13_method_98_code 148 = .ok (.goto (-132), 3) := by decide +kernel
theorem d_Model_finds_151 : decode prog_13_method_98_code 151 = .ok (.aload_n 0, 1) := by decide +kernel
theorem d_Model_finds_152 : decode prog_13_method_98_code 152 = .ok (.invokevirtual 483, 3) := by decide +kernel
theorem d_Model_finds_155 : decode prog_13_method_98_code 155 = .ok (.return_, 1) := by decide +kernel
theorem d_Model_scans_0 : decode prog_13_method_85_code 0 = .ok (.aload_n 0, 1) := by decide +kernel
theorem d_Model_scans_1 : decode prog_13_method_85_code 1 = .ok (.invokevirtual 437, 3) := by decide +kernel
theorem d_Model_scans_4 : decode prog_13_method_85_code 4 = .ok (.istore 4, 2) := by decide +kernel
theorem d_Model_scans_6 : decode prog_13_method_85_code 6 = .ok (.aload_n 0, 1) := by decide +kernel
theorem d_Model_scans_7 : decode prog_13_method_85_code 7 = .ok (.getfield 181, 3) := by decide +kernel
theorem d_Model_scans_10 : decode prog_13_method_85_code 10 = .ok (.aload_n 0, 1) := by decide +kernel
theorem d_Model_scans_11 : decode prog_13_method_85_code 11 = .ok (.getfield 434, 3) := by decide +kernel
theorem d_Model_scans_14 : decode prog_13_method_85_code 14 = .ok (.iload 4, 2) := by decide +kernel
theorem d_Model_scans_16 : decode prog_13_method_85_code 16 = .ok (.iastore, 1) := by decide +kernel
theorem d_Model_scans_17 : decode prog_13_method_85_code 17 = .ok (.aload_n 0, 1) := by decide +kernel
theorem d_Model_scans_18 : decode prog_13_method_85_code 18 = .ok (.getfield 187, 3) := by decide +kernel
theorem d_Model_scans_21 : decode prog_13_method_85_code 21 = .ok (.aload_n 0, 1) := by decide +kernel
theorem d_Model_scans_22 : decode prog_13_method_85_code 22 = .ok (.getfield 434, 3) := by decide +kernel
theorem d_Model_scans_25 : decode prog_13_method_85_code 25 = .ok (.aload_n 0, 1) := by decide +kernel
theorem d_Model_scans_26 : decode prog_13_method_85_code 26 = .ok (.getfield 7, 3) := by decide +kernel
theorem d_Model_scans_29 : decode prog_13_method_85_code 29 = .ok (.iload_n 3, 1) := by decide +kernel
theorem d_Model_scans_30 : decode prog_13_method_85_code 30 = .ok (.iaload, 1) := by decide +kernel
theorem d_Model_scans_31 : decode prog_13_method_85_code 31 = .ok (.iastore, 1) := by decide +kernel
theorem d_Model_scans_32 : decode prog_13_method_85_code 32 = .ok (.aload_n 0, 1) := by decide +kernel
theorem d_Model_scans_33 : decode prog_13_method_85_code 33 = .ok (.getfield 184, 3) := by decide +kernel
theorem d_Model_scans_36 : decode prog_13_method_85_code 36 = .ok (.aload_n 0, 1) := by decide +kernel
theorem d_Model_scans_37 : decode prog_13_method_85_code 37 = .ok (.getfield 434, 3) := by decide +kernel
theorem d_Model_scans_40 : decode prog_13_method_85_code 40 = .ok (.iconst 0, 1) := by decide +kernel
theorem d_Model_scans_41 : decode prog_13_method_85_code 41 = .ok (.iastore, 1) := by decide +kernel
theorem d_Model_scans_42 : decode prog_13_method_85_code 42 = .ok (.iconst 0, 1) := by decide +kernel
theorem d_Model_scans_43 : decode prog_13_method_85_code 43 = .ok (.istore 5, 2) := by decide +kernel
theorem d_Model_scans_45 : decode prog_13_method_85_code 45 = .ok (.iload 5, 2) := by decide +kernel
theorem d_Model_scans_47 : decode prog_13_method_85_code 47 = .ok (.aload_n 0, 1) := by decide +kernel
theorem d_Model_scans_48 : decode prog_13_method_85_code 48 = .ok (.getfield 46, 3) := by decide +kernel
theorem d_Model_scans_51 : decode prog_13_method_85_code 51 = .ok (.bipush 6, 2) := by decide +kernel
theorem d_Model_scans_53 : decode prog_13_method_85_code 53 = .ok (.iload_n 1, 1) := by decide +kernel
theorem d_Model_scans_54 : decode prog_13_method_85_code 54 = .ok (.imul, 1) := by decide +kernel
theorem d_Model_scans_55 : decode prog_13_method_85_code 55 = .ok (.iload_n 3, 1) := by decide +kernel
theorem d_Model_scans_56 : decode prog_13_method_85_code 56 = .ok (.iadd, 1) := by decide +kernel
theorem d_Model_scans_57 : decode prog_13_method_85_code 57 = .ok (.iaload, 1) := by decide +kernel
theorem d_Model_scans_58 : decode prog_13_method_85_code 58 = .ok (.if_icmp .ge 78, 3) := by decide +kernel
theorem d_Model_scans_61 : decode prog_13_method_85_code 61 = .ok (.aload_n 0, 1) := by decide +kernel
theorem d_Model_scans_62 : decode prog_13_method_85_code 62 = .ok (.iload_n 2, 1) := by decide +kernel
theorem d_Model_scans_63 : decode prog_13_method_85_code 63 = .ok (.iload_n 1, 1) := by decide +kernel
theorem d_Model_scans_64 : decode prog_13_method_85_code 64 = .ok (.iload_n 3, 1) := by decide +kernel
theorem d_Model_scans_65 : decode prog_13_method_85_code 65 = .ok (.iload 5, 2) := by decide +kernel
theorem d_Model_scans_67 : decode prog_13_method_85_code 67 = .ok (.invokevirtual 325, 3) := by decide +kernel
theorem d_Model_scans_70 : decode prog_13_method_85_code 70 = .ok (.ifCond .eq 60, 3) := by decide +kernel
theorem d_Model_scans_73 : decode prog_13_method_85_code 73 = .ok (.iconst 0, 1) := by decide +kernel
theorem d_Model_scans_74 : decode prog_13_method_85_code 74 = .ok (.istore 6, 2) := by decide +kernel
theorem d_Model_scans_76 : decode prog_13_method_85_code 76 = .ok (.iload 6, 2) := by decide +kernel
theorem d_Model_scans_78 : decode prog_13_method_85_code 78 = .ok (.aload_n 0, 1) := by decide +kernel
theorem d_Model_scans_79 : decode prog_13_method_85_code 79 = .ok (.getfield 7, 3) := by decide +kernel
theorem d_Model_scans_82 : decode prog_13_method_85_code 82 = .ok (.iload_n 3, 1) := by decide +kernel
theorem d_Model_scans_83 : decode prog_13_method_85_code 83 = .ok (.iaload, 1) := by decide +kernel
theorem d_Model_scans_84 : decode prog_13_method_85_code 84 = .ok (.if_icmp .ge 33, 3) := by decide +kernel
theorem d_Model_scans_87 : decode prog_13_method_85_code 87 = .ok (.aload_n 0, 1) := by decide +kernel
theorem d_Model_scans_88 : decode prog_13_method_85_code 88 = .ok (.getfield 178, 3) := by decide +kernel
theorem d_Model_scans_91 : decode prog_13_method_85_code 91 = .ok (.iload 4, 2) := by decide +kernel
theorem d_Model_scans_93 : decode prog_13_method_85_code 93 = .ok (.aload_n 0, 1) := by decide +kernel
theorem d_Model_scans_94 : decode prog_13_method_85_code 94 = .ok (.getfield 49, 3) := by decide +kernel
theorem d_Model_scans_97 : decode prog_13_method_85_code 97 = .ok (.iload_n 1, 1) := by decide +kernel
theorem d_Model_scans_98 : decode prog_13_method_85_code 98 = .ok (.iload_n 3, 1) := by decide +kernel
theorem d_Model_scans_99 : decode prog_13_method_85_code 99 = .ok (.iload 5, 2) := by decide +kernel
theorem d_Model_scans_101 : decode prog_13_method_85_code 101 = .ok (.iload 6, 2) := by decide +kernel
theorem d_Model_scans_103 : decode prog_13_method_85_code 103 = .ok (.invokestatic 273, 3) := by decide +kernel
theorem d_Model_scans_106 : decode prog_13_method_85_code 106 = .ok (.iaload, 1) := by decide +kernel
theorem d_Model_scans_107 : decode prog_13_method_85_code 107 = .ok (.iastore, 1) := by decide +kernel
theorem d_Model_scans_108 : decode prog_13_method_85_code 108 = .ok (.iinc 4 1, 3) := by decide +kernel
theorem d_Model_scans_111 : decode prog_13_method_85_code 111 = .ok (.iinc 6 1, 3) := by decide +kernel
theorem d_Model_scans_114 : decode prog_13_method_85_code 114 = .ok (.goto (-38), 3) := by decide +kernel
theorem d_Model_scans_117 : decode prog_13_method_85_code 117 = .ok (.aload_n 0, 1) := by decide +kernel
theorem d_Model_scans_118 : decode prog_13_method_85_code 118 = .ok (.getfield 184, 3) := by decide +kernel
theorem d_Model_scans_121 : decode prog_13_method_85_code 121 = .ok (.aload_n 0, 1) := by decide +kernel
theorem d_Model_scans_122 : decode prog_13_method_85_code 122 = .ok (.getfield 434, 3) := by decide +kernel
theorem d_Model_scans_125 : decode prog_13_method_85_code 125 = .ok (.dup2, 1) := by decide +kernel
theorem d_Model_scans_126 : decode prog_13_method_85_code 126 = .ok (.iaload, 1) := by decide +kernel
theorem d_Model_scans_127 : decode prog_13_method_85_code 127 = .ok (.iconst 1, 1) := by decide +kernel
theorem d_Model_scans_128 : decode prog_13_method_85_code 128 = .ok (.iadd, 1) := by decide +kernel
theorem d_Model_scans_129 : decode prog_13_method_85_code 129 = .ok (.iastore, 1) := by decide +kernel
theorem d_Model_scans_130 : decode prog_13_method_85_code 130 = .ok (.iinc 5 1, 3) := by decide +kernel
theorem d_Model_scans_133 : decode prog_13_method_85_code 133 = .ok (.goto (-88), 3) := by decide +kernel
theorem d_Model_scans_136 : decode prog_13_method_85_code 136 = .ok (.aload_n 0, 1) := by decide +kernel
theorem d_Model_scans_137 : decode prog_13_method_85_code 137 = .ok (.dup, 1) := by decide +kernel
theorem d_Model_scans_138 : decode prog_13_method_85_code 138 = .ok (.getfield 434, 3) := by decide +kernel
theorem d_Model_scans_141 : decode prog_13_method_85_code 141 = .ok (.iconst 1, 1) := by decide +kernel
theorem d_Model_scans_142 : decode prog_13_method_85_code 142 = .ok (.iadd, 1) := by decide +kernel
theorem d_Model_scans_143 : decode prog_13_method_85_code 143 = .ok (.putfield 434, 3) := by decide +kernel
theorem d_Model_scans_146 : decode prog_13_method_85_code 146 = .ok (.return_, 1) := by decide +kernel
theorem d_Model_top_0 : decode prog_13_method_84_code 0 = .ok (.aload_n 0, 1) := by decide +kernel
theorem d_Model_top_1 : decode prog_13_method_84_code 1 = .ok (.getfield 434, 3) := by decide +kernel
theorem d_Model_top_4 : decode prog_13_method_84_code 4 = .ok (.ifCond .ne 7, 3) := by decide +kernel
theorem d_Model_top_7 : decode prog_13_method_84_code 7 = .ok (.iconst 0, 1) := by decide +kernel
theorem d_Model_top_8 : decode prog_13_method_84_code 8 = .ok (.goto 38, 3) := by decide +kernel
theorem d_Model_top_11 : decode prog_13_method_84_code 11 = .ok (.aload_n 0, 1) := by decide +kernel
theorem d_Model_top_12 : decode prog_13_method_84_code 12 = .ok (.getfield 181, 3) := by decide +kernel
theorem d_Model_top_15 : decode prog_13_method_84_code 15 = .ok (.aload_n 0, 1) := by decide +kernel
theorem d_Model_top_16 : decode prog_13_method_84_code 16 = .ok (.getfield 434, 3) := by decide +kernel
theorem d_Model_top_19 : decode prog_13_method_84_code 19 = .ok (.iconst 1, 1) := by decide +kernel
theorem d_Model_top_20 : decode prog_13_method_84_code 20 = .ok (.isub, 1) := by decide +kernel
theorem d_Model_top_21 : decode prog_13_method_84_code 21 = .ok (.iaload, 1) := by decide +kernel
theorem d_Model_top_22 : decode prog_13_method_84_code 22 = .ok (.aload_n 0, 1) := by decide +kernel
theorem d_Model_top_23 : decode prog_13_method_84_code 23 = .ok (.getfield 184, 3) := by decide +kernel
theorem d_Model_top_26 : decode prog_13_method_84_code 26 = .ok (.aload_n 0, 1) := by decide +kernel
theorem d_Model_top_27 : decode prog_13_method_84_code 27 = .ok (.getfield 434, 3) := by decide +kernel
theorem d_Model_top_30 : decode prog_13_method_84_code 30 = .ok (.iconst 1, 1) := by decide +kernel
theorem d_Model_top_31 : decode prog_13_method_84_code 31 = .ok (.isub, 1) := by decide +kernel
theorem d_Model_top_32 : decode prog_13_method_84_code 32 = .ok (.iaload, 1) := by decide +kernel
theorem d_Model_top_33 : decode prog_13_method_84_code 33 = .ok (.aload_n 0, 1) := by decide +kernel
theorem d_Model_top_34 : decode prog_13_method_84_code 34 = .ok (.getfield 187, 3) := by decide +kernel
theorem d_Model_top_37 : decode prog_13_method_84_code 37 = .ok (.aload_n 0, 1) := by decide +kernel
theorem d_Model_top_38 : decode prog_13_method_84_code 38 = .ok (.getfield 434, 3) := by decide +kernel
theorem d_Model_top_41 : decode prog_13_method_84_code 41 = .ok (.iconst 1, 1) := by decide +kernel
theorem d_Model_top_42 : decode prog_13_method_84_code 42 = .ok (.isub, 1) := by decide +kernel
theorem d_Model_top_43 : decode prog_13_method_84_code 43 = .ok (.iaload, 1) := by decide +kernel
theorem d_Model_top_44 : decode prog_13_method_84_code 44 = .ok (.imul, 1) := by decide +kernel
theorem d_Model_top_45 : decode prog_13_method_84_code 45 = .ok (.iadd, 1) := by decide +kernel
theorem d_Model_top_46 : decode prog_13_method_84_code 46 = .ok (.ireturn, 1) := by decide +kernel
theorem d_Model_filters_0 : decode prog_13_method_87_code 0 = .ok (.aload_n 0, 1) := by decide +kernel
theorem d_Model_filters_1 : decode prog_13_method_87_code 1 = .ok (.getfield 187, 3) := by decide +kernel
theorem d_Model_filters_4 : decode prog_13_method_87_code 4 = .ok (.aload_n 0, 1) := by decide +kernel
theorem d_Model_filters_5 : decode prog_13_method_87_code 5 = .ok (.getfield 434, 3) := by decide +kernel
theorem d_Model_filters_8 : decode prog_13_method_87_code 8 = .ok (.iconst 1, 1) := by decide +kernel
theorem d_Model_filters_9 : decode prog_13_method_87_code 9 = .ok (.isub, 1) := by decide +kernel
theorem d_Model_filters_10 : decode prog_13_method_87_code 10 = .ok (.iaload, 1) := by decide +kernel
theorem d_Model_filters_11 : decode prog_13_method_87_code 11 = .ok (.istore_n 2, 1) := by decide +kernel
theorem d_Model_filters_12 : decode prog_13_method_87_code 12 = .ok (.iconst 0, 1) := by decide +kernel
theorem d_Model_filters_13 : decode prog_13_method_87_code 13 = .ok (.istore_n 3, 1) := by decide +kernel
theorem d_Model_filters_14 : decode prog_13_method_87_code 14 = .ok (.aload_n 0, 1) := by decide +kernel
theorem d_Model_filters_15 : decode prog_13_method_87_code 15 = .ok (.getfield 181, 3) := by decide +kernel
theorem d_Model_filters_18 : decode prog_13_method_87_code 18 = .ok (.aload_n 0, 1) := by decide +kernel
theorem d_Model_filters_19 : decode prog_13_method_87_code 19 = .ok (.getfield 434, 3) := by decide +kernel
theorem d_Model_filters_22 : decode prog_13_method_87_code 22 = .ok (.iconst 1, 1) := by decide +kernel
theorem d_Model_filters_23 : decode prog_13_method_87_code 23 = .ok (.isub, 1) := by decide +kernel
theorem d_Model_filters_24 : decode prog_13_method_87_code 24 = .ok (.iaload, 1) := by decide +kernel
theorem d_Model_filters_25 : decode prog_13_method_87_code 25 = .ok (.istore 4, 2) := by decide +kernel
theorem d_Model_filters_27 : decode prog_13_method_87_code 27 = .ok (.iconst 0, 1) := by decide +kernel
theorem d_Model_filters_28 : decode prog_13_method_87_code 28 = .ok (.istore 5, 2) := by decide +kernel
theorem d_Model_filters_30 : decode prog_13_method_87_code 30 = .ok (.iload 5, 2) := by decide +kernel
theorem d_Model_filters_32 : decode prog_13_method_87_code 32 = .ok (.aload_n 0, 1) := by decide +kernel
theorem d_Model_filters_33 : decode prog_13_method_87_code 33 = .ok (.getfield 184, 3) := by decide +kernel
theorem d_Model_filters_36 : decode prog_13_method_87_code 36 = .ok (.aload_n 0, 1) := by decide +kernel
theorem d_Model_filters_37 : decode prog_13_method_87_code 37 = .ok (.getfield 434, 3) := by decide +kernel
theorem d_Model_filters_40 : decode prog_13_method_87_code 40 = .ok (.iconst 1, 1) := by decide +kernel
theorem d_Model_filters_41 : decode prog_13_method_87_code 41 = .ok (.isub, 1) := by decide +kernel
theorem d_Model_filters_42 : decode prog_13_method_87_code 42 = .ok (.iaload, 1) := by decide +kernel
theorem d_Model_filters_43 : decode prog_13_method_87_code 43 = .ok (.if_icmp .ge 71, 3) := by decide +kernel
theorem d_Model_filters_46 : decode prog_13_method_87_code 46 = .ok (.aload_n 0, 1) := by decide +kernel
theorem d_Model_filters_47 : decode prog_13_method_87_code 47 = .ok (.iload_n 1, 1) := by decide +kernel
theorem d_Model_filters_48 : decode prog_13_method_87_code 48 = .ok (.iload 4, 2) := by decide +kernel
theorem d_Model_filters_50 : decode prog_13_method_87_code 50 = .ok (.iload_n 2, 1) := by decide +kernel
theorem d_Model_filters_51 : decode prog_13_method_87_code 51 = .ok (.iload 5, 2) := by decide +kernel
theorem d_Model_filters_53 : decode prog_13_method_87_code 53 = .ok (.imul, 1) := by decide +kernel
theorem d_Model_filters_54 : decode prog_13_method_87_code 54 = .ok (.iadd, 1) := by decide +kernel
theorem d_Model_filters_55 : decode prog_13_method_87_code 55 = .ok (.invokevirtual 444, 3) := by decide +kernel
theorem d_Model_filters_58 : decode prog_13_method_87_code 58 = .ok (.ifCond .eq 50, 3) := by decide +kernel
theorem d_Model_filters_61 : decode prog_13_method_87_code 61 = .ok (.iconst 0, 1) := by decide +kernel
theorem d_Model_filters_62 : decode prog_13_method_87_code 62 = .ok (.istore 6, 2) := by decide +kernel
theorem d_Model_filters_64 : decode prog_13_method_87_code 64 = .ok (.iload 6, 2) := by decide +kernel
theorem d_Model_filters_66 : decode prog_13_method_87_code 66 = .ok (.iload_n 2, 1) := by decide +kernel
theorem d_Model_filters_67 : decode prog_13_method_87_code 67 = .ok (.if_icmp .ge 38, 3) := by decide +kernel
theorem d_Model_filters_70 : decode prog_13_method_87_code 70 = .ok (.aload_n 0, 1) := by decide +kernel
theorem d_Model_filters_71 : decode prog_13_method_87_code 71 = .ok (.getfield 178, 3) := by decide +kernel
theorem d_Model_filters_74 : decode prog_13_method_87_code 74 = .ok (.iload 4, 2) := by decide +kernel
theorem d_Model_filters_76 : decode prog_13_method_87_code 76 = .ok (.iload_n 2, 1) := by decide +kernel
theorem d_Model_filters_77 : decode prog_13_method_87_code 77 = .ok (.iload_n 3, 1) := by decide +kernel
theorem d_Model_filters_78 : decode prog_13_method_87_code 78 = .ok (.imul, 1) := by decide +kernel
theorem d_Model_filters_79 : decode prog_13_method_87_code 79 = .ok (.iadd, 1) := by decide +kernel
theorem d_Model_filters_80 : decode prog_13_method_87_code 80 = .ok (.iload 6, 2) := by decide +kernel
theorem d_Model_filters_82 : decode prog_13_method_87_code 82 = .ok (.iadd, 1) := by decide +kernel
theorem d_Model_filters_83 : decode prog_13_method_87_code 83 = .ok (.aload_n 0, 1) := by decide +kernel
theorem d_Model_filters_84 : decode prog_13_method_87_code 84 = .ok (.getfield 178, 3) := by decide +kernel
theorem d_Model_filters_87 : decode prog_13_method_87_code 87 = .ok (.iload 4, 2) := by decide +kernel
theorem d_Model_filters_89 : decode prog_13_method_87_code 89 = .ok (.iload_n 2, 1) := by decide +kernel
theorem d_Model_filters_90 : decode prog_13_method_87_code 90 = .ok (.iload 5, 2) := by decide +kernel
theorem d_Model_filters_92 : decode prog_13_method_87_code 92 = .ok (.imul, 1) := by decide +kernel
theorem d_Model_filters_93 : decode prog_13_method_87_code 93 = .ok (.iadd, 1) := by decide +kernel
theorem d_Model_filters_94 : decode prog_13_method_87_code 94 = .ok (.iload 6, 2) := by decide +kernel
theorem d_Model_filters_96 : decode prog_13_method_87_code 96 = .ok (.iadd, 1) := by decide +kernel
theorem d_Model_filters_97 : decode prog_13_method_87_code 97 = .ok (.iaload, 1) := by decide +kernel
theorem d_Model_filters_98 : decode prog_13_method_87_code 98 = .ok (.iastore, 1) := by decide +kernel
theorem d_Model_filters_99 : decode prog_13_method_87_code 99 = .ok (.iinc 6 1, 3) := by decide +kernel
theorem d_Model_filters_102 : decode prog_13_method_87_code 102 = .ok (.goto (-38), 3) := by decide +kernel
theorem d_Model_filters_105 : decode prog_13_method_87_code 105 = .ok (.iinc 3 1, 3) := by decide +kernel
theorem d_Model_filters_108 : decode prog_13_method_87_code 108 = .ok (.iinc 5 1, 3) := by decide +kernel
theorem d_Model_filters_111 : decode prog_13_method_87_code 111 = .ok (.goto (-81), 3) := by decide +kernel
theorem d_Model_filters_114 : decode prog_13_method_87_code 114 = .ok (.aload_n 0, 1) := by decide +kernel
theorem d_Model_filters_115 : decode prog_13_method_87_code 115 = .ok (.getfield 184, 3) := by decide +kernel
theorem d_Model_filters_118 : decode prog_13_method_87_code 118 = .ok (.aload_n 0, 1) := by decide +kernel
theorem d_Model_filters_119 : decode prog_13_method_87_code 119 = .ok (.getfield 434, 3) := by decide +kernel
theorem d_Model_filters_122 : decode prog_13_method_87_code 122 = .ok (.iconst 1, 1) := by decide +kernel
theorem d_Model_filters_123 : decode prog_13_method_87_code 123 = .ok (.isub, 1) := by decide +kernel
theorem d_Model_filters_124 : decode prog_13_method_87_code 124 = .ok (.iload_n 3, 1) := by decide +kernel
theorem d_Model_filters_125 : decode prog_13_method_87_code 125 = .ok (.iastore, 1) := by decide +kernel
theorem d_Model_filters_126 : decode prog_13_method_87_code 126 = .ok (.return_, 1) := by decide +kernel
theorem d_Model_stays_0 : decode prog_13_method_86_code 0 = .ok (.aload_n 0, 1) := by decide +kernel
theorem d_Model_stays_1 : decode prog_13_method_86_code 1 = .ok (.getfield 178, 3) := by decide +kernel
theorem d_Model_stays_4 : decode prog_13_method_86_code 4 = .ok (.iload_n 2, 1) := by decide +kernel
theorem d_Model_stays_5 : decode prog_13_method_86_code 5 = .ok (.aload_n 0, 1) := by decide +kernel
theorem d_Model_stays_6 : decode prog_13_method_86_code 6 = .ok (.getfield 147, 3) := by decide +kernel
theorem d_Model_stays_9 : decode prog_13_method_86_code 9 = .ok (.iload_n 1, 1) := by decide +kernel
theorem d_Model_stays_10 : decode prog_13_method_86_code 10 = .ok (.iaload, 1) := by decide +kernel
theorem d_Model_stays_11 : decode prog_13_method_86_code 11 = .ok (.iadd, 1) := by decide +kernel
theorem d_Model_stays_12 : decode prog_13_method_86_code 12 = .ok (.iaload, 1) := by decide +kernel
theorem d_Model_stays_13 : decode prog_13_method_86_code 13 = .ok (.istore_n 3, 1) := by decide +kernel
theorem d_Model_stays_14 : decode prog_13_method_86_code 14 = .ok (.aload_n 0, 1) := by decide +kernel
theorem d_Model_stays_15 : decode prog_13_method_86_code 15 = .ok (.getfield 144, 3) := by decide +kernel
theorem d_Model_stays_18 : decode prog_13_method_86_code 18 = .ok (.iload_n 1, 1) := by decide +kernel
theorem d_Model_stays_19 : decode prog_13_method_86_code 19 = .ok (.iaload, 1) := by decide +kernel
theorem d_Model_stays_20 : decode prog_13_method_86_code 20 = .ok (.iconst 3, 1) := by decide +kernel
theorem d_Model_stays_21 : decode prog_13_method_86_code 21 = .ok (.if_icmp .ne 87, 3) := by decide +kernel
theorem d_Model_stays_24 : decode prog_13_method_86_code 24 = .ok (.aload_n 0, 1) := by decide +kernel
theorem d_Model_stays_25 : decode prog_13_method_86_code 25 = .ok (.getfield 178, 3) := by decide +kernel
theorem d_Model_stays_28 : decode prog_13_method_86_code 28 = .ok (.iload_n 2, 1) := by decide +kernel
theorem d_Model_stays_29 : decode prog_13_method_86_code 29 = .ok (.aload_n 0, 1) := by decide +kernel
theorem d_Model_stays_30 : decode prog_13_method_86_code 30 = .ok (.getfield 150, 3) := by decide +kernel
theorem d_Model_stays_33 : decode prog_13_method_86_code 33 = .ok (.iload_n 1, 1) := by decide +kernel
theorem d_Model_stays_34 : decode prog_13_method_86_code 34 = .ok (.iaload, 1) := by decide +kernel
theorem d_Model_stays_35 : decode prog_13_method_86_code 35 = .ok (.iadd, 1) := by decide +kernel
theorem d_Model_stays_36 : decode prog_13_method_86_code 36 = .ok (.iaload, 1) := by decide +kernel
theorem d_Model_stays_37 : decode prog_13_method_86_code 37 = .ok (.istore 4, 2) := by decide +kernel
theorem d_Model_stays_39 : decode prog_13_method_86_code 39 = .ok (.iload_n 3, 1) := by decide +kernel
theorem d_Model_stays_40 : decode prog_13_method_86_code 40 = .ok (.ldc 246, 2) := by decide +kernel
theorem d_Model_stays_42 : decode prog_13_method_86_code 42 = .ok (.if_icmp .eq 10, 3) := by decide +kernel
theorem d_Model_stays_45 : decode prog_13_method_86_code 45 = .ok (.iload 4, 2) := by decide +kernel
theorem d_Model_stays_47 : decode prog_13_method_86_code 47 = .ok (.ldc 246, 2) := by decide +kernel
theorem d_Model_stays_49 : decode prog_13_method_86_code 49 = .ok (.if_icmp .ne 5, 3) := by decide +kernel
theorem d_Model_stays_52 : decode prog_13_method_86_code 52 = .ok (.iconst 0, 1) := by decide +kernel
theorem d_Model_stays_53 : decode prog_13_method_86_code 53 = .ok (.ireturn, 1) := by decide +kernel
theorem d_Model_stays_54 : decode prog_13_method_86_code 54 = .ok (.aload_n 0, 1) := by decide +kernel
theorem d_Model_stays_55 : decode prog_13_method_86_code 55 = .ok (.aload_n 0, 1) := by decide +kernel
theorem d_Model_stays_56 : decode prog_13_method_86_code 56 = .ok (.getfield 440, 3) := by decide +kernel
theorem d_Model_stays_59 : decode prog_13_method_86_code 59 = .ok (.ifCond .ne 8, 3) := by decide +kernel
theorem d_Model_stays_62 : decode prog_13_method_86_code 62 = .ok (.iload 4, 2) := by decide +kernel
theorem d_Model_stays_64 : decode prog_13_method_86_code 64 = .ok (.ifCond .ne 7, 3) := by decide +kernel
theorem d_Model_stays_67 : decode prog_13_method_86_code 67 = .ok (.iconst 1, 1) := by decide +kernel
theorem d_Model_stays_68 : decode prog_13_method_86_code 68 = .ok (.goto 4, 3) := by decide +kernel
theorem d_Model_stays_71 : decode prog_13_method_86_code 71 = .ok (.iconst 0, 1) := by decide +kernel
theorem d_Model_stays_72 : decode prog_13_method_86_code 72 = .ok (.putfield 440, 3) := by decide +kernel
theorem d_Model_stays_75 : decode prog_13_method_86_code 75 = .ok (.iload 4, 2) := by decide +kernel
theorem d_Model_stays_77 : decode prog_13_method_86_code 77 = .ok (.ifCond .eq 29, 3) := by decide +kernel
theorem d_Model_stays_80 : decode prog_13_method_86_code 80 = .ok (.iload_n 3, 1) := by decide +kernel
theorem d_Model_stays_81 : decode prog_13_method_86_code 81 = .ok (.iload 4, 2) := by decide +kernel
theorem d_Model_stays_83 : decode prog_13_method_86_code 83 = .ok (.ifCond .ne 7, 3) := by decide +kernel
theorem d_Model_stays_86 : decode prog_13_method_86_code 86 = .ok (.iconst 1, 1) := by decide +kernel
theorem d_Model_stays_87 : decode prog_13_method_86_code 87 = .ok (.goto 5, 3) := by decide +kernel
theorem d_Model_stays_90 : decode prog_13_method_86_code 90 = .ok (.iload 4, 2) := by decide +kernel
theorem d_Model_stays_92 : decode prog_13_method_86_code 92 = .ok (.idiv, 1) := by decide +kernel
theorem d_Model_stays_93 : decode prog_13_method_86_code 93 = .ok (.aload_n 0, 1) := by decide +kernel
theorem d_Model_stays_94 : decode prog_13_method_86_code 94 = .ok (.getfield 153, 3) := by decide +kernel
theorem d_Model_stays_97 : decode prog_13_method_86_code 97 = .ok (.iload_n 1, 1) := by decide +kernel
theorem d_Model_stays_98 : decode prog_13_method_86_code 98 = .ok (.iaload, 1) := by decide +kernel
theorem d_Model_stays_99 : decode prog_13_method_86_code 99 = .ok (.if_icmp .ne 7, 3) := by decide +kernel
theorem d_Model_stays_102 : decode prog_13_method_86_code 102 = .ok (.iconst 1, 1) := by decide +kernel
theorem d_Model_stays_103 : decode prog_13_method_86_code 103 = .ok (.goto 4, 3) := by decide +kernel
theorem d_Model_stays_106 : decode prog_13_method_86_code 106 = .ok (.iconst 0, 1) := by decide +kernel
theorem d_Model_stays_107 : decode prog_13_method_86_code 107 = .ok (.ireturn, 1) := by decide +kernel
theorem d_Model_stays_108 : decode prog_13_method_86_code 108 = .ok (.aload_n 0, 1) := by decide +kernel
theorem d_Model_stays_109 : decode prog_13_method_86_code 109 = .ok (.getfield 144, 3) := by decide +kernel
theorem d_Model_stays_112 : decode prog_13_method_86_code 112 = .ok (.iload_n 1, 1) := by decide +kernel
theorem d_Model_stays_113 : decode prog_13_method_86_code 113 = .ok (.iaload, 1) := by decide +kernel
theorem d_Model_stays_114 : decode prog_13_method_86_code 114 = .ok (.iconst 1, 1) := by decide +kernel
theorem d_Model_stays_115 : decode prog_13_method_86_code 115 = .ok (.if_icmp .ne 12, 3) := by decide +kernel
theorem d_Model_stays_118 : decode prog_13_method_86_code 118 = .ok (.aload_n 0, 1) := by decide +kernel
theorem d_Model_stays_119 : decode prog_13_method_86_code 119 = .ok (.getfield 153, 3) := by decide +kernel
theorem d_Model_stays_122 : decode prog_13_method_86_code 122 = .ok (.iload_n 1, 1) := by decide +kernel
theorem d_Model_stays_123 : decode prog_13_method_86_code 123 = .ok (.iaload, 1) := by decide +kernel
theorem d_Model_stays_124 : decode prog_13_method_86_code 124 = .ok (.goto 16, 3) := by decide +kernel
theorem d_Model_stays_127 : decode prog_13_method_86_code 127 = .ok (.aload_n 0, 1) := by decide +kernel
theorem d_Model_stays_128 : decode prog_13_method_86_code 128 = .ok (.getfield 178, 3) := by decide +kernel
theorem d_Model_stays_131 : decode prog_13_method_86_code 131 = .ok (.iload_n 2, 1) := by decide +kernel
theorem d_Model_stays_132 : decode prog_13_method_86_code 132 = .ok (.aload_n 0, 1) := by decide +kernel
theorem d_Model_stays_133 : decode prog_13_method_86_code 133 = .ok (.getfield 153, 3) := by decide +kernel
theorem d_Model_stays_136 : decode prog_13_method_86_code 136 = .ok (.iload_n 1, 1) := by decide +kernel
theorem d_Model_stays_137 : decode prog_13_method_86_code 137 = .ok (.iaload, 1) := by decide +kernel
theorem d_Model_stays_138 : decode prog_13_method_86_code 138 = .ok (.iadd, 1) := by decide +kernel
theorem d_Model_stays_139 : decode prog_13_method_86_code 139 = .ok (.iaload, 1) := by decide +kernel
theorem d_Model_stays_140 : decode prog_13_method_86_code 140 = .ok (.istore 4, 2) := by decide +kernel
theorem d_Model_stays_142 : decode prog_13_method_86_code 142 = .ok (.iload_n 3, 1) := by decide +kernel
theorem d_Model_stays_143 : decode prog_13_method_86_code 143 = .ok (.aload_n 0, 1) := by decide +kernel
theorem d_Model_stays_144 : decode prog_13_method_86_code 144 = .ok (.getfield 150, 3) := by decide +kernel
theorem d_Model_stays_147 : decode prog_13_method_86_code 147 = .ok (.iload_n 1, 1) := by decide +kernel
theorem d_Model_stays_148 : decode prog_13_method_86_code 148 = .ok (.iaload, 1) := by decide +kernel
theorem d_Model_stays_149 : decode prog_13_method_86_code 149 = .ok (.iload 4, 2) := by decide +kernel
theorem d_Model_stays_151 : decode prog_13_method_86_code 151 = .ok (.invokestatic 281, 3) := by decide +kernel
theorem d_Model_stays_154 : decode prog_13_method_86_code 154 = .ok (.aload_n 0, 1) := by decide +kernel
theorem d_Model_stays_155 : decode prog_13_method_86_code 155 = .ok (.getfield 156, 3) := by decide +kernel
theorem d_Model_stays_158 : decode prog_13_method_86_code 158 = .ok (.iload_n 1, 1) := by decide +kernel
theorem d_Model_stays_159 : decode prog_13_method_86_code 159 = .ok (.baload, 1) := by decide +kernel
theorem d_Model_stays_160 : decode prog_13_method_86_code 160 = .ok (.ifCond .eq 7, 3) := by decide +kernel
theorem d_Model_stays_163 : decode prog_13_method_86_code 163 = .ok (.iconst 0, 1) := by decide +kernel
theorem d_Model_stays_164 : decode prog_13_method_86_code 164 = .ok (.goto 4, 3) := by decide +kernel
theorem d_Model_stays_167 : decode prog_13_method_86_code 167 = .ok (.iconst 1, 1) := by decide +kernel
theorem d_Model_stays_168 : decode prog_13_method_86_code 168 = .ok (.if_icmp .ne 7, 3) := by decide +kernel
theorem d_Model_stays_171 : decode prog_13_method_86_code 171 = .ok (.iconst 1, 1) := by decide +kernel
theorem d_Model_stays_172 : decode prog_13_method_86_code 172 = .ok (.goto 4, 3) := by decide +kernel
theorem d_Model_stays_175 : decode prog_13_method_86_code 175 = .ok (.iconst 0, 1) := by decide +kernel
theorem d_Model_stays_176 : decode prog_13_method_86_code 176 = .ok (.ireturn, 1) := by decide +kernel
theorem d_Model_joins_0 : decode prog_13_method_92_code 0 = .ok (.aload_n 0, 1) := by decide +kernel
theorem d_Model_joins_1 : decode prog_13_method_92_code 1 = .ok (.getfield 147, 3) := by decide +kernel
theorem d_Model_joins_4 : decode prog_13_method_92_code 4 = .ok (.iload_n 1, 1) := by decide +kernel
theorem d_Model_joins_5 : decode prog_13_method_92_code 5 = .ok (.iaload, 1) := by decide +kernel
theorem d_Model_joins_6 : decode prog_13_method_92_code 6 = .ok (.istore_n 2, 1) := by decide +kernel
theorem d_Model_joins_7 : decode prog_13_method_92_code 7 = .ok (.aload_n 0, 1) := by decide +kernel
theorem d_Model_joins_8 : decode prog_13_method_92_code 8 = .ok (.getfield 181, 3) := by decide +kernel
theorem d_Model_joins_11 : decode prog_13_method_92_code 11 = .ok (.aload_n 0, 1) := by decide +kernel
theorem d_Model_joins_12 : decode prog_13_method_92_code 12 = .ok (.getfield 434, 3) := by decide +kernel
theorem d_Model_joins_15 : decode prog_13_method_92_code 15 = .ok (.iconst 2, 1) := by decide +kernel
theorem d_Model_joins_16 : decode prog_13_method_92_code 16 = .ok (.isub, 1) := by decide +kernel
theorem d_Model_joins_17 : decode prog_13_method_92_code 17 = .ok (.iaload, 1) := by decide +kernel
theorem d_Model_joins_18 : decode prog_13_method_92_code 18 = .ok (.istore_n 3, 1) := by decide +kernel
theorem d_Model_joins_19 : decode prog_13_method_92_code 19 = .ok (.aload_n 0, 1) := by decide +kernel
theorem d_Model_joins_20 : decode prog_13_method_92_code 20 = .ok (.getfield 181, 3) := by decide +kernel
theorem d_Model_joins_23 : decode prog_13_method_92_code 23 = .ok (.aload_n 0, 1) := by decide +kernel
theorem d_Model_joins_24 : decode prog_13_method_92_code 24 = .ok (.getfield 434, 3) := by decide +kernel
theorem d_Model_joins_27 : decode prog_13_method_92_code 27 = .ok (.iconst 1, 1) := by decide +kernel
theorem d_Model_joins_28 : decode prog_13_method_92_code 28 = .ok (.isub, 1) := by decide +kernel
theorem d_Model_joins_29 : decode prog_13_method_92_code 29 = .ok (.iaload, 1) := by decide +kernel
theorem d_Model_joins_30 : decode prog_13_method_92_code 30 = .ok (.istore 4, 2) := by decide +kernel
theorem d_Model_joins_32 : decode prog_13_method_92_code 32 = .ok (.aload_n 0, 1) := by decide +kernel
theorem d_Model_joins_33 : decode prog_13_method_92_code 33 = .ok (.getfield 187, 3) := by decide +kernel
theorem d_Model_joins_36 : decode prog_13_method_92_code 36 = .ok (.aload_n 0, 1) := by decide +kernel
theorem d_Model_joins_37 : decode prog_13_method_92_code 37 = .ok (.getfield 434, 3) := by decide +kernel
theorem d_Model_joins_40 : decode prog_13_method_92_code 40 = .ok (.iconst 2, 1) := by decide +kernel
theorem d_Model_joins_41 : decode prog_13_method_92_code 41 = .ok (.isub, 1) := by decide +kernel
theorem d_Model_joins_42 : decode prog_13_method_92_code 42 = .ok (.iaload, 1) := by decide +kernel
theorem d_Model_joins_43 : decode prog_13_method_92_code 43 = .ok (.istore 5, 2) := by decide +kernel
theorem d_Model_joins_45 : decode prog_13_method_92_code 45 = .ok (.aload_n 0, 1) := by decide +kernel
theorem d_Model_joins_46 : decode prog_13_method_92_code 46 = .ok (.getfield 187, 3) := by decide +kernel
theorem d_Model_joins_49 : decode prog_13_method_92_code 49 = .ok (.aload_n 0, 1) := by decide +kernel
theorem d_Model_joins_50 : decode prog_13_method_92_code 50 = .ok (.getfield 434, 3) := by decide +kernel
theorem d_Model_joins_53 : decode prog_13_method_92_code 53 = .ok (.iconst 1, 1) := by decide +kernel
theorem d_Model_joins_54 : decode prog_13_method_92_code 54 = .ok (.isub, 1) := by decide +kernel
theorem d_Model_joins_55 : decode prog_13_method_92_code 55 = .ok (.iaload, 1) := by decide +kernel
theorem d_Model_joins_56 : decode prog_13_method_92_code 56 = .ok (.istore 6, 2) := by decide +kernel
theorem d_Model_joins_58 : decode prog_13_method_92_code 58 = .ok (.iload_n 2, 1) := by decide +kernel
theorem d_Model_joins_59 : decode prog_13_method_92_code 59 = .ok (.iconst 2, 1) := by decide +kernel
theorem d_Model_joins_60 : decode prog_13_method_92_code 60 = .ok (.if_icmp .le 8, 3) := by decide +kernel
theorem d_Model_joins_63 : decode prog_13_method_92_code 63 = .ok (.iload 5, 2) := by decide +kernel
theorem d_Model_joins_65 : decode prog_13_method_92_code 65 = .ok (.goto 8, 3) := by decide +kernel
theorem d_Model_joins_68 : decode prog_13_method_92_code 68 = .ok (.iload 5, 2) := by decide +kernel
theorem d_Model_joins_70 : decode prog_13_method_92_code 70 = .ok (.iload 6, 2) := by decide +kernel
theorem d_Model_joins_72 : decode prog_13_method_92_code 72 = .ok (.iadd, 1) := by decide +kernel
theorem d_Model_joins_73 : decode prog_13_method_92_code 73 = .ok (.istore 7, 2) := by decide +kernel
theorem d_Model_joins_75 : decode prog_13_method_92_code 75 = .ok (.aload_n 0, 1) := by decide +kernel
theorem d_Model_joins_76 : decode prog_13_method_92_code 76 = .ok (.invokevirtual 437, 3) := by decide +kernel
theorem d_Model_joins_79 : decode prog_13_method_92_code 79 = .ok (.istore 8, 2) := by decide +kernel
theorem d_Model_joins_81 : decode prog_13_method_92_code 81 = .ok (.iconst 0, 1) := by decide +kernel
theorem d_Model_joins_82 : decode prog_13_method_92_code 82 = .ok (.istore 9, 2) := by decide +kernel
theorem d_Model_joins_84 : decode prog_13_method_92_code 84 = .ok (.iconst 0, 1) := by decide +kernel
theorem d_Model_joins_85 : decode prog_13_method_92_code 85 = .ok (.istore 10, 2) := by decide +kernel
theorem d_Model_joins_87 : decode prog_13_method_92_code 87 = .ok (.iload 10, 2) := by decide +kernel
theorem d_Model_joins_89 : decode prog_13_method_92_code 89 = .ok (.aload_n 0, 1) := by decide +kernel
theorem d_Model_joins_90 : decode prog_13_method_92_code 90 = .ok (.getfield 184, 3) := by decide +kernel
theorem d_Model_joins_93 : decode prog_13_method_92_code 93 = .ok (.aload_n 0, 1) := by decide +kernel
theorem d_Model_joins_94 : decode prog_13_method_92_code 94 = .ok (.getfield 434, 3) := by decide +kernel
theorem d_Model_joins_97 : decode prog_13_method_92_code 97 = .ok (.iconst 2, 1) := by decide +kernel
theorem d_Model_joins_98 : decode prog_13_method_92_code 98 = .ok (.isub, 1) := by decide +kernel
theorem d_Model_joins_99 : decode prog_13_method_92_code 99 = .ok (.iaload, 1) := by decide +kernel
theorem d_Model_joins_100 : decode prog_13_method_92_code 100 = .ok (.if_icmp .ge 241, 3) := by decide +kernel
theorem d_Model_joins_103 : decode prog_13_method_92_code 103 = .ok (.iconst 0, 1) := by decide +kernel
theorem d_Model_joins_104 : decode prog_13_method_92_code 104 = .ok (.istore 11, 2) := by decide +kernel
theorem d_Model_joins_106 : decode prog_13_method_92_code 106 = .ok (.iconst 0, 1) := by decide +kernel
theorem d_Model_joins_107 : decode prog_13_method_92_code 107 = .ok (.istore 12, 2) := by decide +kernel
theorem d_Model_joins_109 : decode prog_13_method_92_code 109 = .ok (.iload 12, 2) := by decide +kernel
theorem d_Model_joins_111 : decode prog_13_method_92_code 111 = .ok (.aload_n 0, 1) := by decide +kernel
theorem d_Model_joins_112 : decode prog_13_method_92_code 112 = .ok (.getfield 184, 3) := by decide +kernel
theorem d_Model_joins_115 : decode prog_13_method_92_code 115 = .ok (.aload_n 0, 1) := by decide +kernel
theorem d_Model_joins_116 : decode prog_13_method_92_code 116 = .ok (.getfield 434, 3) := by decide +kernel
theorem d_Model_joins_119 : decode prog_13_method_92_code 119 = .ok (.iconst 1, 1) := by decide +kernel
theorem d_Model_joins_120 : decode prog_13_method_92_code 120 = .ok (.isub, 1) := by decide +kernel
theorem d_Model_joins_121 : decode prog_13_method_92_code 121 = .ok (.iaload, 1) := by decide +kernel
theorem d_Model_joins_122 : decode prog_13_method_92_code 122 = .ok (.if_icmp .ge 122, 3) := by decide +kernel
theorem d_Model_joins_125 : decode prog_13_method_92_code 125 = .ok (.aload_n 0, 1) := by decide +kernel
theorem d_Model_joins_126 : decode prog_13_method_92_code 126 = .ok (.getfield 178, 3) := by decide +kernel
theorem d_Model_joins_129 : decode prog_13_method_92_code 129 = .ok (.iload_n 3, 1) := by decide +kernel
theorem d_Model_joins_130 : decode prog_13_method_92_code 130 = .ok (.iload 5, 2) := by decide +kernel
theorem d_Model_joins_132 : decode prog_13_method_92_code 132 = .ok (.iload 10, 2) := by decide +kernel
theorem d_Model_joins_134 : decode prog_13_method_92_code 134 = .ok (.imul, 1) := by decide +kernel
theorem d_Model_joins_135 : decode prog_13_method_92_code 135 = .ok (.iadd, 1) := by decide +kernel
theorem d_Model_joins_136 : decode prog_13_method_92_code 136 = .ok (.aload_n 0, 1) := by decide +kernel
theorem d_Model_joins_137 : decode prog_13_method_92_code 137 = .ok (.getfield 150, 3) := by decide +kernel
theorem d_Model_joins_140 : decode prog_13_method_92_code 140 = .ok (.iload_n 1, 1) := by decide +kernel
theorem d_Model_joins_141 : decode prog_13_method_92_code 141 = .ok (.iaload, 1) := by decide +kernel
theorem d_Model_joins_142 : decode prog_13_method_92_code 142 = .ok (.iadd, 1) := by decide +kernel
theorem d_Model_joins_143 : decode prog_13_method_92_code 143 = .ok (.iaload, 1) := by decide +kernel
theorem d_Model_joins_144 : decode prog_13_method_92_code 144 = .ok (.iconst 1, 1) := by decide +kernel
theorem d_Model_joins_145 : decode prog_13_method_92_code 145 = .ok (.aload_n 0, 1) := by decide +kernel
theorem d_Model_joins_146 : decode prog_13_method_92_code 146 = .ok (.getfield 178, 3) := by decide +kernel
theorem d_Model_joins_149 : decode prog_13_method_92_code 149 = .ok (.iload 4, 2) := by decide +kernel
theorem d_Model_joins_151 : decode prog_13_method_92_code 151 = .ok (.iload 6, 2) := by decide +kernel
theorem d_Model_joins_153 : decode prog_13_method_92_code 153 = .ok (.iload 12, 2) := by decide +kernel
theorem d_Model_joins_155 : decode prog_13_method_92_code 155 = .ok (.imul, 1) := by decide +kernel
theorem d_Model_joins_156 : decode prog_13_method_92_code 156 = .ok (.iadd, 1) := by decide +kernel
theorem d_Model_joins_157 : decode prog_13_method_92_code 157 = .ok (.aload_n 0, 1) := by decide +kernel
theorem d_Model_joins_158 : decode prog_13_method_92_code 158 = .ok (.getfield 153, 3) := by decide +kernel
theorem d_Model_joins_161 : decode prog_13_method_92_code 161 = .ok (.iload_n 1, 1) := by decide +kernel
theorem d_Model_joins_162 : decode prog_13_method_92_code 162 = .ok (.iaload, 1) := by decide +kernel
theorem d_Model_joins_163 : decode prog_13_method_92_code 163 = .ok (.iadd, 1) := by decide +kernel
theorem d_Model_joins_164 : decode prog_13_method_92_code 164 = .ok (.iaload, 1) := by decide +kernel
theorem d_Model_joins_165 : decode prog_13_method_92_code 165 = .ok (.invokestatic 281, 3) := by decide +kernel
theorem d_Model_joins_168 : decode prog_13_method_92_code 168 = .ok (.iconst 1, 1) := by decide +kernel
theorem d_Model_joins_169 : decode prog_13_method_92_code 169 = .ok (.if_icmp .ne 7, 3) := by decide +kernel
theorem d_Model_joins_172 : decode prog_13_method_92_code 172 = .ok (.iconst 1, 1) := by decide +kernel
theorem d_Model_joins_173 : decode prog_13_method_92_code 173 = .ok (.goto 4, 3) := by decide +kernel
theorem d_Model_joins_176 : decode prog_13_method_92_code 176 = .ok (.iconst 0, 1) := by decide +kernel
theorem d_Model_joins_177 : decode prog_13_method_92_code 177 = .ok (.istore 13, 2) := by decide +kernel
theorem d_Model_joins_179 : decode prog_13_method_92_code 179 = .ok (.iload 11, 2) := by decide +kernel
theorem d_Model_joins_181 : decode prog_13_method_92_code 181 = .ok (.iload 13, 2) := by decide +kernel
theorem d_Model_joins_183 : decode prog_13_method_92_code 183 = .ok (.ifCond .eq 7, 3) := by decide +kernel
theorem d_Model_joins_186 : decode prog_13_method_92_code 186 = .ok (.iconst 1, 1) := by decide +kernel
theorem d_Model_joins_187 : decode prog_13_method_92_code 187 = .ok (.goto 4, 3) := by decide +kernel
theorem d_Model_joins_190 : decode prog_13_method_92_code 190 = .ok (.iconst 0, 1) := by decide +kernel
theorem d_Model_joins_191 : decode prog_13_method_92_code 191 = .ok (.iadd, 1) := by decide +kernel
theorem d_Model_joins_192 : decode prog_13_method_92_code 192 = .ok (.istore 11, 2) := by decide +kernel
theorem d_Model_joins_194 : decode prog_13_method_92_code 194 = .ok (.iload 13, 2) := by decide +kernel
theorem d_Model_joins_196 : decode prog_13_method_92_code 196 = .ok (.ifCond .eq 42, 3) := by decide +kernel
theorem d_Model_joins_199 : decode prog_13_method_92_code 199 = .ok (.iload_n 2, 1) := by decide +kernel
theorem d_Model_joins_200 : decode prog_13_method_92_code 200 = .ok (.iconst 2, 1) := by decide +kernel
theorem d_Model_joins_201 : decode prog_13_method_92_code 201 = .ok (.if_icmp .gt 37, 3) := by decide +kernel
theorem d_Model_joins_204 : decode prog_13_method_92_code 204 = .ok (.aload_n 0, 1) := by decide +kernel
theorem d_Model_joins_205 : decode prog_13_method_92_code 205 = .ok (.iload 8, 2) := by decide +kernel
theorem d_Model_joins_207 : decode prog_13_method_92_code 207 = .ok (.iload 7, 2) := by decide +kernel
theorem d_Model_joins_209 : decode prog_13_method_92_code 209 = .ok (.iload 9, 2) := by decide +kernel
theorem d_Model_joins_211 : decode prog_13_method_92_code 211 = .ok (.imul, 1) := by decide +kernel
theorem d_Model_joins_212 : decode prog_13_method_92_code 212 = .ok (.iadd, 1) := by decide +kernel
theorem d_Model_joins_213 : decode prog_13_method_92_code 213 = .ok (.iload_n 3, 1) := by decide +kernel
theorem d_Model_joins_214 : decode prog_13_method_92_code 214 = .ok (.iload 5, 2) := by decide +kernel
theorem d_Model_joins_216 : decode prog_13_method_92_code 216 = .ok (.iload 10, 2) := by decide +kernel
theorem d_Model_joins_218 : decode prog_13_method_92_code 218 = .ok (.imul, 1) := by decide +kernel
theorem d_Model_joins_219 : decode prog_13_method_92_code 219 = .ok (.iadd, 1) := by decide +kernel
theorem d_Model_joins_220 : decode prog_13_method_92_code 220 = .ok (.iload 5, 2) := by decide +kernel
theorem d_Model_joins_222 : decode prog_13_method_92_code 222 = .ok (.iload 4, 2) := by decide +kernel
theorem d_Model_joins_224 : decode prog_13_method_92_code 224 = .ok (.iload 6, 2) := by decide +kernel
theorem d_Model_joins_226 : decode prog_13_method_92_code 226 = .ok (.iload 12, 2) := by decide +kernel
theorem d_Model_joins_228 : decode prog_13_method_92_code 228 = .ok (.imul, 1) := by decide +kernel
theorem d_Model_joins_229 : decode prog_13_method_92_code 229 = .ok (.iadd, 1) := by decide +kernel
theorem d_Model_joins_230 : decode prog_13_method_92_code 230 = .ok (.iload 6, 2) := by decide +kernel
theorem d_Model_joins_232 : decode prog_13_method_92_code 232 = .ok (.invokevirtual 457, 3) := by decide +kernel
theorem d_Model_joins_235 : decode prog_13_method_92_code 235 = .ok (.iinc 9 1, 3) := by decide +kernel
theorem d_Model_joins_238 : decode prog_13_method_92_code 238 = .ok (.iinc 12 1, 3) := by decide +kernel
theorem d_Model_joins_241 : decode prog_13_method_92_code 241 = .ok (.goto (-132), 3) := by decide +kernel
theorem d_Model_joins_244 : decode prog_13_method_92_code 244 = .ok (.iload_n 2, 1) := by decide +kernel
theorem d_Model_joins_245 : decode prog_13_method_92_code 245 = .ok (.iconst 3, 1) := by decide +kernel
theorem d_Model_joins_246 : decode prog_13_method_92_code 246 = .ok (.if_icmp .ne 8, 3) := by decide +kernel
theorem d_Model_joins_249 : decode prog_13_method_92_code 249 = .ok (.iload 11, 2) := by decide +kernel
theorem d_Model_joins_251 : decode prog_13_method_92_code 251 = .ok (.ifCond .gt 13, 3) := by decide +kernel
theorem d_Model_joins_254 : decode prog_13_method_92_code 254 = .ok (.iload_n 2, 1) := by decide +kernel
theorem d_Model_joins_255 : decode prog_13_method_92_code 255 = .ok (.iconst 4, 1) := by decide +kernel
theorem d_Model_joins_256 : decode prog_13_method_92_code 256 = .ok (.if_icmp .ne 37, 3) := by decide +kernel
theorem d_Model_joins_259 : decode prog_13_method_92_code 259 = .ok (.iload 11, 2) := by decide +kernel
theorem d_Model_joins_261 : decode prog_13_method_92_code 261 = .ok (.ifCond .ne 32, 3) := by decide +kernel
theorem d_Model_joins_264 : decode prog_13_method_92_code 264 = .ok (.aload_n 0, 1) := by decide +kernel
theorem d_Model_joins_265 : decode prog_13_method_92_code 265 = .ok (.iload 8, 2) := by decide +kernel
theorem d_Model_joins_267 : decode prog_13_method_92_code 267 = .ok (.iload 7, 2) := by decide +kernel
theorem d_Model_joins_269 : decode prog_13_method_92_code 269 = .ok (.iload 9, 2) := by decide +kernel
theorem d_Model_joins_271 : decode prog_13_method_92_code 271 = .ok (.imul, 1) := by decide +kernel
theorem d_Model_joins_272 : decode prog_13_method_92_code 272 = .ok (.iadd, 1) := by decide +kernel
theorem d_Model_joins_273 : decode prog_13_method_92_code 273 = .ok (.iload_n 3, 1) := by decide +kernel
theorem d_Model_joins_274 : decode prog_13_method_92_code 274 = .ok (.iload 5, 2) := by decide +kernel
theorem d_Model_joins_276 : decode prog_13_method_92_code 276 = .ok (.iload 10, 2) := by decide +kernel
theorem d_Model_joins_278 : decode prog_13_method_92_code 278 = .ok (.imul, 1) := by decide +kernel
theorem d_Model_joins_279 : decode prog_13_method_92_code 279 = .ok (.iadd, 1) := by decide +kernel
theorem d_Model_joins_280 : decode prog_13_method_92_code 280 = .ok (.iload 5, 2) := by decide +kernel
theorem d_Model_joins_282 : decode prog_13_method_92_code 282 = .ok (.iconst (-1), 1) := by decide +kernel
theorem d_Model_joins_283 : decode prog_13_method_92_code 283 = .ok (.iconst 0, 1) := by decide +kernel
theorem d_Model_joins_284 : decode prog_13_method_92_code 284 = .ok (.invokevirtual 457, 3) := by decide +kernel
theorem d_Model_joins_287 : decode prog_13_method_92_code 287 = .ok (.iinc 9 1, 3) := by decide +kernel
theorem d_Model_joins_290 : decode prog_13_method_92_code 290 = .ok (.goto 45, 3) := by decide +kernel
theorem d_Model_joins_293 : decode prog_13_method_92_code 293 = .ok (.iload_n 2, 1) := by decide +kernel
theorem d_Model_joins_294 : decode prog_13_method_92_code 294 = .ok (.iconst 1, 1) := by decide +kernel
theorem d_Model_joins_295 : decode prog_13_method_92_code 295 = .ok (.if_icmp .eq 8, 3) := by decide +kernel
theorem d_Model_joins_298 : decode prog_13_method_92_code 298 = .ok (.iload_n 2, 1) := by decide +kernel
theorem d_Model_joins_299 : decode prog_13_method_92_code 299 = .ok (.iconst 2, 1) := by decide +kernel
theorem d_Model_joins_300 : decode prog_13_method_92_code 300 = .ok (.if_icmp .ne 35, 3) := by decide +kernel
theorem d_Model_joins_303 : decode prog_13_method_92_code 303 = .ok (.iload 11, 2) := by decide +kernel
theorem d_Model_joins_305 : decode prog_13_method_92_code 305 = .ok (.ifCond .ne 30, 3) := by decide +kernel
theorem d_Model_joins_308 : decode prog_13_method_92_code 308 = .ok (.aload_n 0, 1) := by decide +kernel
theorem d_Model_joins_309 : decode prog_13_method_92_code 309 = .ok (.iload 8, 2) := by decide +kernel
theorem d_Model_joins_311 : decode prog_13_method_92_code 311 = .ok (.iload 7, 2) := by decide +kernel
theorem d_Model_joins_313 : decode prog_13_method_92_code 313 = .ok (.iload 9, 2) := by decide +kernel
theorem d_Model_joins_315 : decode prog_13_method_92_code 315 = .ok (.imul, 1) := by decide +kernel
theorem d_Model_joins_316 : decode prog_13_method_92_code 316 = .ok (.iadd, 1) := by decide +kernel
theorem d_Model_joins_317 : decode prog_13_method_92_code 317 = .ok (.iload_n 3, 1) := by decide +kernel
theorem d_Model_joins_318 : decode prog_13_method_92_code 318 = .ok (.iload 5, 2) := by decide +kernel
theorem d_Model_joins_320 : decode prog_13_method_92_code 320 = .ok (.iload 10, 2) := by decide +kernel
theorem d_Model_joins_322 : decode prog_13_method_92_code 322 = .ok (.imul, 1) := by decide +kernel
theorem d_Model_joins_323 : decode prog_13_method_92_code 323 = .ok (.iadd, 1) := by decide +kernel
theorem d_Model_joins_324 : decode prog_13_method_92_code 324 = .ok (.iload 5, 2) := by decide +kernel
theorem d_Model_joins_326 : decode prog_13_method_92_code 326 = .ok (.iconst (-1), 1) := by decide +kernel
theorem d_Model_joins_327 : decode prog_13_method_92_code 327 = .ok (.iload 6, 2) := by decide +kernel
theorem d_Model_joins_329 : decode prog_13_method_92_code 329 = .ok (.invokevirtual 457, 3) := by decide +kernel
theorem d_Model_joins_332 : decode prog_13_method_92_code 332 = .ok (.iinc 9 1, 3) := by decide +kernel
theorem d_Model_joins_335 : decode prog_13_method_92_code 335 = .ok (.iinc 10 1, 3) := by decide +kernel
theorem d_Model_joins_338 : decode prog_13_method_92_code 338 = .ok (.goto (-251), 3) := by decide +kernel
theorem d_Model_joins_341 : decode prog_13_method_92_code 341 = .ok (.iconst 0, 1) := by decide +kernel
theorem d_Model_joins_342 : decode prog_13_method_92_code 342 = .ok (.istore 10, 2) := by decide +kernel
theorem d_Model_joins_344 : decode prog_13_method_92_code 344 = .ok (.iload 10, 2) := by decide +kernel
theorem d_Model_joins_346 : decode prog_13_method_92_code 346 = .ok (.aload_n 0, 1) := by decide +kernel
theorem d_Model_joins_347 : decode prog_13_method_92_code 347 = .ok (.getfield 184, 3) := by decide +kernel
theorem d_Model_joins_350 : decode prog_13_method_92_code 350 = .ok (.aload_n 0, 1) := by decide +kernel
theorem d_Model_joins_351 : decode prog_13_method_92_code 351 = .ok (.getfield 434, 3) := by decide +kernel
theorem d_Model_joins_354 : decode prog_13_method_92_code 354 = .ok (.iconst 1, 1) := by decide +kernel
theorem d_Model_joins_355 : decode prog_13_method_92_code 355 = .ok (.isub, 1) := by decide +kernel
theorem d_Model_joins_356 : decode prog_13_method_92_code 356 = .ok (.iaload, 1) := by decide +kernel
theorem d_Model_joins_357 : decode prog_13_method_92_code 357 = .ok (.if_icmp .ge 134, 3) := by decide +kernel
theorem d_Model_joins_360 : decode prog_13_method_92_code 360 = .ok (.iload_n 2, 1) := by decide +kernel
theorem d_Model_joins_361 : decode prog_13_method_92_code 361 = .ok (.iconst 2, 1) := by decide +kernel
theorem d_Model_joins_362 : decode prog_13_method_92_code 362 = .ok (.if_icmp .ne 129, 3) := by decide +kernel
theorem d_Model_joins_365 : decode prog_13_method_92_code 365 = .ok (.iconst 0, 1) := by decide +kernel
theorem d_Model_joins_366 : decode prog_13_method_92_code 366 = .ok (.istore 11, 2) := by decide +kernel
theorem d_Model_joins_368 : decode prog_13_method_92_code 368 = .ok (.iconst 0, 1) := by decide +kernel
theorem d_Model_joins_369 : decode prog_13_method_92_code 369 = .ok (.istore 12, 2) := by decide +kernel
theorem d_Model_joins_371 : decode prog_13_method_92_code 371 = .ok (.iload 12, 2) := by decide +kernel
theorem d_Model_joins_373 : decode prog_13_method_92_code 373 = .ok (.aload_n 0, 1) := by decide +kernel
theorem d_Model_joins_374 : decode prog_13_method_92_code 374 = .ok (.getfield 184, 3) := by decide +kernel
theorem d_Model_joins_377 : decode prog_13_method_92_code 377 = .ok (.aload_n 0, 1) := by decide +kernel
theorem d_Model_joins_378 : decode prog_13_method_92_code 378 = .ok (.getfield 434, 3) := by decide +kernel
theorem d_Model_joins_381 : decode prog_13_method_92_code 381 = .ok (.iconst 2, 1) := by decide +kernel
theorem d_Model_joins_382 : decode prog_13_method_92_code 382 = .ok (.isub, 1) := by decide +kernel
theorem d_Model_joins_383 : decode prog_13_method_92_code 383 = .ok (.iaload, 1) := by decide +kernel
theorem d_Model_joins_384 : decode prog_13_method_92_code 384 = .ok (.if_icmp .ge 68, 3) := by decide +kernel
theorem d_Model_joins_387 : decode prog_13_method_92_code 387 = .ok (.iload 11, 2) := by decide +kernel
theorem d_Model_joins_389 : decode prog_13_method_92_code 389 = .ok (.ifCond .ne 50, 3) := by decide +kernel
theorem d_Model_joins_392 : decode prog_13_method_92_code 392 = .ok (.aload_n 0, 1) := by decide +kernel
theorem d_Model_joins_393 : decode prog_13_method_92_code 393 = .ok (.getfield 178, 3) := by decide +kernel
theorem d_Model_joins_396 : decode prog_13_method_92_code 396 = .ok (.iload_n 3, 1) := by decide +kernel
theorem d_Model_joins_397 : decode prog_13_method_92_code 397 = .ok (.iload 5, 2) := by decide +kernel
theorem d_Model_joins_399 : decode prog_13_method_92_code 399 = .ok (.iload 12, 2) := by decide +kernel
theorem d_Model_joins_401 : decode prog_13_method_92_code 401 = .ok (.imul, 1) := by decide +kernel
theorem d_Model_joins_402 : decode prog_13_method_92_code 402 = .ok (.iadd, 1) := by decide +kernel
theorem d_Model_joins_403 : decode prog_13_method_92_code 403 = .ok (.aload_n 0, 1) := by decide +kernel
theorem d_Model_joins_404 : decode prog_13_method_92_code 404 = .ok (.getfield 150, 3) := by decide +kernel
theorem d_Model_joins_407 : decode prog_13_method_92_code 407 = .ok (.iload_n 1, 1) := by decide +kernel
theorem d_Model_joins_408 : decode prog_13_method_92_code 408 = .ok (.iaload, 1) := by decide +kernel
theorem d_Model_joins_409 : decode prog_13_method_92_code 409 = .ok (.iadd, 1) := by decide +kernel
theorem d_Model_joins_410 : decode prog_13_method_92_code 410 = .ok (.iaload, 1) := by decide +kernel
theorem d_Model_joins_411 : decode prog_13_method_92_code 411 = .ok (.iconst 1, 1) := by decide +kernel
theorem d_Model_joins_412 : decode prog_13_method_92_code 412 = .ok (.aload_n 0, 1) := by decide +kernel
theorem d_Model_joins_413 : decode prog_13_method_92_code 413 = .ok (.getfield 178, 3) := by decide +kernel
theorem d_Model_joins_416 : decode prog_13_method_92_code 416 = .ok (.iload 4, 2) := by decide +kernel
theorem d_Model_joins_418 : decode prog_13_method_92_code 418 = .ok (.iload 6, 2) := by decide +kernel
theorem d_Model_joins_420 : decode prog_13_method_92_code 420 = .ok (.iload 10, 2) := by decide +kernel
theorem d_Model_joins_422 : decode prog_13_method_92_code 422 = .ok (.imul, 1) := by decide +kernel
theorem d_Model_joins_423 : decode prog_13_method_92_code 423 = .ok (.iadd, 1) := by decide +kernel
theorem d_Model_joins_424 : decode prog_13_method_92_code 424 = .ok (.aload_n 0, 1) := by decide +kernel
theorem d_Model_joins_425 : decode prog_13_method_92_code 425 = .ok (.getfield 153, 3) := by decide +kernel
theorem d_Model_joins_428 : decode prog_13_method_92_code 428 = .ok (.iload_n 1, 1) := by decide +kernel
theorem d_Model_joins_429 : decode prog_13_method_92_code 429 = .ok (.iaload, 1) := by decide +kernel
theorem d_Model_joins_430 : decode prog_13_method_92_code 430 = .ok (.iadd, 1) := by decide +kernel
theorem d_Model_joins_431 : decode prog_13_method_92_code 431 = .ok (.iaload, 1) := by decide +kernel
theorem d_Model_joins_432 : decode prog_13_method_92_code 432 = .ok (.invokestatic 281, 3) := by decide +kernel
theorem d_Model_joins_435 : decode prog_13_method_92_code 435 = .ok (.iconst 1, 1) := by decide +kernel
theorem d_Model_joins_436 : decode prog_13_method_92_code 436 = .ok (.if_icmp .ne 7, 3) := by decide +kernel
theorem d_Model_joins_439 : decode prog_13_method_92_code 439 = .ok (.iconst 1, 1) := by decide +kernel
theorem d_Model_joins_440 : decode prog_13_method_92_code 440 = .ok (.goto 4, 3) := by decide +kernel
theorem d_Model_joins_443 : decode prog_13_method_92_code 443 = .ok (.iconst 0, 1) := by decide +kernel
theorem d_Model_joins_444 : decode prog_13_method_92_code 444 = .ok (.istore 11, 2) := by decide +kernel
theorem d_Model_joins_446 : decode prog_13_method_92_code 446 = .ok (.iinc 12 1, 3) := by decide +kernel
theorem d_Model_joins_449 : decode prog_13_method_92_code 449 = .ok (.goto (-78), 3) := by decide +kernel
theorem d_Model_joins_452 : decode prog_13_method_92_code 452 = .ok (.iload 11, 2) := by decide +kernel
theorem d_Model_joins_454 : decode prog_13_method_92_code 454 = .ok (.ifCond .ne 31, 3) := by decide +kernel
theorem d_Model_joins_457 : decode prog_13_method_92_code 457 = .ok (.aload_n 0, 1) := by decide +kernel
theorem d_Model_joins_458 : decode prog_13_method_92_code 458 = .ok (.iload 8, 2) := by decide +kernel
theorem d_Model_joins_460 : decode prog_13_method_92_code 460 = .ok (.iload 7, 2) := by decide +kernel
theorem d_Model_joins_462 : decode prog_13_method_92_code 462 = .ok (.iload 9, 2) := by decide +kernel
theorem d_Model_joins_464 : decode prog_13_method_92_code 464 = .ok (.imul, 1) := by decide +kernel
theorem d_Model_joins_465 : decode prog_13_method_92_code 465 = .ok (.iadd, 1) := by decide +kernel
theorem d_Model_joins_466 : decode prog_13_method_92_code 466 = .ok (.iconst (-1), 1) := by decide +kernel
theorem d_Model_joins_467 : decode prog_13_method_92_code 467 = .ok (.iload 5, 2) := by decide +kernel
theorem d_Model_joins_469 : decode prog_13_method_92_code 469 = .ok (.iload 4, 2) := by decide +kernel
theorem d_Model_joins_471 : decode prog_13_method_92_code 471 = .ok (.iload 6, 2) := by decide +kernel
theorem d_Model_joins_473 : decode prog_13_method_92_code 473 = .ok (.iload 10, 2) := by decide +kernel
theorem d_Model_joins_475 : decode prog_13_method_92_code 475 = .ok (.imul, 1) := by decide +kernel
theorem d_Model_joins_476 : decode prog_13_method_92_code 476 = .ok (.iadd, 1) := by decide +kernel
theorem d_Model_joins_477 : decode prog_13_method_92_code 477 = .ok (.iload 6, 2) := by decide +kernel
theorem d_Model_joins_479 : decode prog_13_method_92_code 479 = .ok (.invokevirtual 457, 3) := by decide +kernel
theorem d_Model_joins_482 : decode prog_13_method_92_code 482 = .ok (.iinc 9 1, 3) := by decide +kernel
theorem d_Model_joins_485 : decode prog_13_method_92_code 485 = .ok (.iinc 10 1, 3) := by decide +kernel
theorem d_Model_joins_488 : decode prog_13_method_92_code 488 = .ok (.goto (-144), 3) := by decide +kernel
theorem d_Model_joins_491 : decode prog_13_method_92_code 491 = .ok (.aload_n 0, 1) := by decide +kernel
theorem d_Model_joins_492 : decode prog_13_method_92_code 492 = .ok (.iload 8, 2) := by decide +kernel
theorem d_Model_joins_494 : decode prog_13_method_92_code 494 = .ok (.iload 9, 2) := by decide +kernel
theorem d_Model_joins_496 : decode prog_13_method_92_code 496 = .ok (.iload 7, 2) := by decide +kernel
theorem d_Model_joins_498 : decode prog_13_method_92_code 498 = .ok (.iconst 2, 1) := by decide +kernel
theorem d_Model_joins_499 : decode prog_13_method_92_code 499 = .ok (.invokevirtual 450, 3) := by decide +kernel
theorem d_Model_joins_502 : decode prog_13_method_92_code 502 = .ok (.return_, 1) := by decide +kernel
theorem d_Model_lays_0 : decode prog_13_method_93_code 0 = .ok (.iconst 0, 1) := by decide +kernel
theorem d_Model_lays_1 : decode prog_13_method_93_code 1 = .ok (.istore 6, 2) := by decide +kernel
theorem d_Model_lays_3 : decode prog_13_method_93_code 3 = .ok (.iload 6, 2) := by decide +kernel
theorem d_Model_lays_5 : decode prog_13_method_93_code 5 = .ok (.iload_n 3, 1) := by decide +kernel
theorem d_Model_lays_6 : decode prog_13_method_93_code 6 = .ok (.if_icmp .ge 37, 3) := by decide +kernel
theorem d_Model_lays_9 : decode prog_13_method_93_code 9 = .ok (.aload_n 0, 1) := by decide +kernel
theorem d_Model_lays_10 : decode prog_13_method_93_code 10 = .ok (.getfield 178, 3) := by decide +kernel
theorem d_Model_lays_13 : decode prog_13_method_93_code 13 = .ok (.iload_n 1, 1) := by decide +kernel
theorem d_Model_lays_14 : decode prog_13_method_93_code 14 = .ok (.iload 6, 2) := by decide +kernel
theorem d_Model_lays_16 : decode prog_13_method_93_code 16 = .ok (.iadd, 1) := by decide +kernel
theorem d_Model_lays_17 : decode prog_13_method_93_code 17 = .ok (.iload_n 2, 1) := by decide +kernel
theorem d_Model_lays_18 : decode prog_13_method_93_code 18 = .ok (.iconst (-1), 1) := by decide +kernel
theorem d_Model_lays_19 : decode prog_13_method_93_code 19 = .ok (.if_icmp .ne 8, 3) := by decide +kernel
theorem d_Model_lays_22 : decode prog_13_method_93_code 22 = .ok (.ldc 246, 2) := by decide +kernel
theorem d_Model_lays_24 : decode prog_13_method_93_code 24 = .ok (.goto 12, 3) := by decide +kernel
theorem d_Model_lays_27 : decode prog_13_method_93_code 27 = .ok (.aload_n 0, 1) := by decide +kernel
theorem d_Model_lays_28 : decode prog_13_method_93_code 28 = .ok (.getfield 178, 3) := by decide +kernel
theorem d_Model_lays_31 : decode prog_13_method_93_code 31 = .ok (.iload_n 2, 1) := by decide +kernel
theorem d_Model_lays_32 : decode prog_13_method_93_code 32 = .ok (.iload 6, 2) := by decide +kernel
theorem d_Model_lays_34 : decode prog_13_method_93_code 34 = .ok (.iadd, 1) := by decide +kernel
theorem d_Model_lays_35 : decode prog_13_method_93_code 35 = .ok (.iaload, 1) := by decide +kernel
theorem d_Model_lays_36 : decode prog_13_method_93_code 36 = .ok (.iastore, 1) := by decide +kernel
theorem d_Model_lays_37 : decode prog_13_method_93_code 37 = .ok (.iinc 6 1, 3) := by decide +kernel
theorem d_Model_lays_40 : decode prog_13_method_93_code 40 = .ok (.goto (-37), 3) := by decide +kernel
theorem d_Model_lays_43 : decode prog_13_method_93_code 43 = .ok (.iconst 0, 1) := by decide +kernel
theorem d_Model_lays_44 : decode prog_13_method_93_code 44 = .ok (.istore 6, 2) := by decide +kernel
theorem d_Model_lays_46 : decode prog_13_method_93_code 46 = .ok (.iload 6, 2) := by decide +kernel
theorem d_Model_lays_48 : decode prog_13_method_93_code 48 = .ok (.iload 5, 2) := by decide +kernel
theorem d_Model_lays_50 : decode prog_13_method_93_code 50 = .ok (.if_icmp .ge 41, 3) := by decide +kernel
theorem d_Model_lays_53 : decode prog_13_method_93_code 53 = .ok (.aload_n 0, 1) := by decide +kernel
theorem d_Model_lays_54 : decode prog_13_method_93_code 54 = .ok (.getfield 178, 3) := by decide +kernel
theorem d_Model_lays_57 : decode prog_13_method_93_code 57 = .ok (.iload_n 1, 1) := by decide +kernel
theorem d_Model_lays_58 : decode prog_13_method_93_code 58 = .ok (.iload_n 3, 1) := by decide +kernel
theorem d_Model_lays_59 : decode prog_13_method_93_code 59 = .ok (.iadd, 1) := by decide +kernel
theorem d_Model_lays_60 : decode prog_13_method_93_code 60 = .ok (.iload 6, 2) := by decide +kernel
theorem d_Model_lays_62 : decode prog_13_method_93_code 62 = .ok (.iadd, 1) := by decide +kernel
theorem d_Model_lays_63 : decode prog_13_method_93_code 63 = .ok (.iload 4, 2) := by decide +kernel
theorem d_Model_lays_65 : decode prog_13_method_93_code 65 = .ok (.iconst (-1), 1) := by decide +kernel
theorem d_Model_lays_66 : decode prog_13_method_93_code 66 = .ok (.if_icmp .ne 8, 3) := by decide +kernel
theorem d_Model_lays_69 : decode prog_13_method_93_code 69 = .ok (.ldc 246, 2) := by decide +kernel
theorem d_Model_lays_71 : decode prog_13_method_93_code 71 = .ok (.goto 13, 3) := by decide +kernel
theorem d_Model_lays_74 : decode prog_13_method_93_code 74 = .ok (.aload_n 0, 1) := by decide +kernel
theorem d_Model_lays_75 : decode prog_13_method_93_code 75 = .ok (.getfield 178, 3) := by decide +kernel
theorem d_Model_lays_78 : decode prog_13_method_93_code 78 = .ok (.iload 4, 2) := by decide +kernel
theorem d_Model_lays_80 : decode prog_13_method_93_code 80 = .ok (.iload 6, 2) := by decide +kernel
theorem d_Model_lays_82 : decode prog_13_method_93_code 82 = .ok (.iadd, 1) := by decide +kernel
theorem d_Model_lays_83 : decode prog_13_method_93_code 83 = .ok (.iaload, 1) := by decide +kernel
theorem d_Model_lays_84 : decode prog_13_method_93_code 84 = .ok (.iastore, 1) := by decide +kernel
theorem d_Model_lays_85 : decode prog_13_method_93_code 85 = .ok (.iinc 6 1, 3) := by decide +kernel
theorem d_Model_lays_88 : decode prog_13_method_93_code 88 = .ok (.goto (-42), 3) := by decide +kernel
theorem d_Model_lays_91 : decode prog_13_method_93_code 91 = .ok (.return_, 1) := by decide +kernel
theorem d_Model_takes_0 : decode prog_13_method_89_code 0 = .ok (.aload_n 0, 1) := by decide +kernel
theorem d_Model_takes_1 : decode prog_13_method_89_code 1 = .ok (.getfield 181, 3) := by decide +kernel
theorem d_Model_takes_4 : decode prog_13_method_89_code 4 = .ok (.aload_n 0, 1) := by decide +kernel
theorem d_Model_takes_5 : decode prog_13_method_89_code 5 = .ok (.getfield 434, 3) := by decide +kernel
theorem d_Model_takes_8 : decode prog_13_method_89_code 8 = .ok (.iload 4, 2) := by decide +kernel
theorem d_Model_takes_10 : decode prog_13_method_89_code 10 = .ok (.isub, 1) := by decide +kernel
theorem d_Model_takes_11 : decode prog_13_method_89_code 11 = .ok (.iaload, 1) := by decide +kernel
theorem d_Model_takes_12 : decode prog_13_method_89_code 12 = .ok (.istore 5, 2) := by decide +kernel
theorem d_Model_takes_14 : decode prog_13_method_89_code 14 = .ok (.iconst 0, 1) := by decide +kernel
theorem d_Model_takes_15 : decode prog_13_method_89_code 15 = .ok (.istore 6, 2) := by decide +kernel
theorem d_Model_takes_17 : decode prog_13_method_89_code 17 = .ok (.iload 6, 2) := by decide +kernel
theorem d_Model_takes_19 : decode prog_13_method_89_code 19 = .ok (.iload_n 2, 1) := by decide +kernel
theorem d_Model_takes_20 : decode prog_13_method_89_code 20 = .ok (.iload_n 3, 1) := by decide +kernel
theorem d_Model_takes_21 : decode prog_13_method_89_code 21 = .ok (.imul, 1) := by decide +kernel
theorem d_Model_takes_22 : decode prog_13_method_89_code 22 = .ok (.if_icmp .ge 28, 3) := by decide +kernel
theorem d_Model_takes_25 : decode prog_13_method_89_code 25 = .ok (.aload_n 0, 1) := by decide +kernel
theorem d_Model_takes_26 : decode prog_13_method_89_code 26 = .ok (.getfield 178, 3) := by decide +kernel
theorem d_Model_takes_29 : decode prog_13_method_89_code 29 = .ok (.iload 5, 2) := by decide +kernel
theorem d_Model_takes_31 : decode prog_13_method_89_code 31 = .ok (.iload 6, 2) := by decide +kernel
theorem d_Model_takes_33 : decode prog_13_method_89_code 33 = .ok (.iadd, 1) := by decide +kernel
theorem d_Model_takes_34 : decode prog_13_method_89_code 34 = .ok (.aload_n 0, 1) := by decide +kernel
theorem d_Model_takes_35 : decode prog_13_method_89_code 35 = .ok (.getfield 178, 3) := by decide +kernel
theorem d_Model_takes_38 : decode prog_13_method_89_code 38 = .ok (.iload_n 1, 1) := by decide +kernel
theorem d_Model_takes_39 : decode prog_13_method_89_code 39 = .ok (.iload 6, 2) := by decide +kernel
theorem d_Model_takes_41 : decode prog_13_method_89_code 41 = .ok (.iadd, 1) := by decide +kernel
theorem d_Model_takes_42 : decode prog_13_method_89_code 42 = .ok (.iaload, 1) := by decide +kernel
theorem d_Model_takes_43 : decode prog_13_method_89_code 43 = .ok (.iastore, 1) := by decide +kernel
theorem d_Model_takes_44 : decode prog_13_method_89_code 44 = .ok (.iinc 6 1, 3) := by decide +kernel
theorem d_Model_takes_47 : decode prog_13_method_89_code 47 = .ok (.goto (-30), 3) := by decide +kernel
theorem d_Model_takes_50 : decode prog_13_method_89_code 50 = .ok (.aload_n 0, 1) := by decide +kernel
theorem d_Model_takes_51 : decode prog_13_method_89_code 51 = .ok (.dup, 1) := by decide +kernel
theorem d_Model_takes_52 : decode prog_13_method_89_code 52 = .ok (.getfield 434, 3) := by decide +kernel
theorem d_Model_takes_55 : decode prog_13_method_89_code 55 = .ok (.iload 4, 2) := by decide +kernel
theorem d_Model_takes_57 : decode prog_13_method_89_code 57 = .ok (.iconst 1, 1) := by decide +kernel
theorem d_Model_takes_58 : decode prog_13_method_89_code 58 = .ok (.isub, 1) := by decide +kernel
theorem d_Model_takes_59 : decode prog_13_method_89_code 59 = .ok (.isub, 1) := by decide +kernel
theorem d_Model_takes_60 : decode prog_13_method_89_code 60 = .ok (.putfield 434, 3) := by decide +kernel
theorem d_Model_takes_63 : decode prog_13_method_89_code 63 = .ok (.aload_n 0, 1) := by decide +kernel
theorem d_Model_takes_64 : decode prog_13_method_89_code 64 = .ok (.getfield 184, 3) := by decide +kernel
theorem d_Model_takes_67 : decode prog_13_method_89_code 67 = .ok (.aload_n 0, 1) := by decide +kernel
theorem d_Model_takes_68 : decode prog_13_method_89_code 68 = .ok (.getfield 434, 3) := by decide +kernel
theorem d_Model_takes_71 : decode prog_13_method_89_code 71 = .ok (.iconst 1, 1) := by decide +kernel
theorem d_Model_takes_72 : decode prog_13_method_89_code 72 = .ok (.isub, 1) := by decide +kernel
theorem d_Model_takes_73 : decode prog_13_method_89_code 73 = .ok (.iload_n 2, 1) := by decide +kernel
theorem d_Model_takes_74 : decode prog_13_method_89_code 74 = .ok (.iastore, 1) := by decide +kernel
theorem d_Model_takes_75 : decode prog_13_method_89_code 75 = .ok (.aload_n 0, 1) := by decide +kernel
theorem d_Model_takes_76 : decode prog_13_method_89_code 76 = .ok (.getfield 187, 3) := by decide +kernel
theorem d_Model_takes_79 : decode prog_13_method_89_code 79 = .ok (.aload_n 0, 1) := by decide +kernel
theorem d_Model_takes_80 : decode prog_13_method_89_code 80 = .ok (.getfield 434, 3) := by decide +kernel
theorem d_Model_takes_83 : decode prog_13_method_89_code 83 = .ok (.iconst 1, 1) := by decide +kernel
theorem d_Model_takes_84 : decode prog_13_method_89_code 84 = .ok (.isub, 1) := by decide +kernel
theorem d_Model_takes_85 : decode prog_13_method_89_code 85 = .ok (.iload_n 3, 1) := by decide +kernel
theorem d_Model_takes_86 : decode prog_13_method_89_code 86 = .ok (.iastore, 1) := by decide +kernel
theorem d_Model_takes_87 : decode prog_13_method_89_code 87 = .ok (.return_, 1) := by decide +kernel
theorem d_Model_keeps_0 : decode prog_13_method_88_code 0 = .ok (.aload_n 0, 1) := by decide +kernel
theorem d_Model_keeps_1 : decode prog_13_method_88_code 1 = .ok (.getfield 187, 3) := by decide +kernel
theorem d_Model_keeps_4 : decode prog_13_method_88_code 4 = .ok (.aload_n 0, 1) := by decide +kernel
theorem d_Model_keeps_5 : decode prog_13_method_88_code 5 = .ok (.getfield 434, 3) := by decide +kernel
theorem d_Model_keeps_8 : decode prog_13_method_88_code 8 = .ok (.iconst 1, 1) := by decide +kernel
theorem d_Model_keeps_9 : decode prog_13_method_88_code 9 = .ok (.isub, 1) := by decide +kernel
theorem d_Model_keeps_10 : decode prog_13_method_88_code 10 = .ok (.iaload, 1) := by decide +kernel
theorem d_Model_keeps_11 : decode prog_13_method_88_code 11 = .ok (.istore_n 2, 1) := by decide +kernel
theorem d_Model_keeps_12 : decode prog_13_method_88_code 12 = .ok (.aload_n 0, 1) := by decide +kernel
theorem d_Model_keeps_13 : decode prog_13_method_88_code 13 = .ok (.getfield 181, 3) := by decide +kernel
theorem d_Model_keeps_16 : decode prog_13_method_88_code 16 = .ok (.aload_n 0, 1) := by decide +kernel
theorem d_Model_keeps_17 : decode prog_13_method_88_code 17 = .ok (.getfield 434, 3) := by decide +kernel
theorem d_Model_keeps_20 : decode prog_13_method_88_code 20 = .ok (.iconst 1, 1) := by decide +kernel
theorem d_Model_keeps_21 : decode prog_13_method_88_code 21 = .ok (.isub, 1) := by decide +kernel
theorem d_Model_keeps_22 : decode prog_13_method_88_code 22 = .ok (.iaload, 1) := by decide +kernel
theorem d_Model_keeps_23 : decode prog_13_method_88_code 23 = .ok (.istore_n 3, 1) := by decide +kernel
theorem d_Model_keeps_24 : decode prog_13_method_88_code 24 = .ok (.iload_n 3, 1) := by decide +kernel
theorem d_Model_keeps_25 : decode prog_13_method_88_code 25 = .ok (.istore 4, 2) := by decide +kernel
theorem d_Model_keeps_27 : decode prog_13_method_88_code 27 = .ok (.iconst 0, 1) := by decide +kernel
theorem d_Model_keeps_28 : decode prog_13_method_88_code 28 = .ok (.istore 5, 2) := by decide +kernel
theorem d_Model_keeps_30 : decode prog_13_method_88_code 30 = .ok (.iload 5, 2) := by decide +kernel
theorem d_Model_keeps_32 : decode prog_13_method_88_code 32 = .ok (.aload_n 0, 1) := by decide +kernel
theorem d_Model_keeps_33 : decode prog_13_method_88_code 33 = .ok (.getfield 184, 3) := by decide +kernel
theorem d_Model_keeps_36 : decode prog_13_method_88_code 36 = .ok (.aload_n 0, 1) := by decide +kernel
theorem d_Model_keeps_37 : decode prog_13_method_88_code 37 = .ok (.getfield 434, 3) := by decide +kernel
theorem d_Model_keeps_40 : decode prog_13_method_88_code 40 = .ok (.iconst 1, 1) := by decide +kernel
theorem d_Model_keeps_41 : decode prog_13_method_88_code 41 = .ok (.isub, 1) := by decide +kernel
theorem d_Model_keeps_42 : decode prog_13_method_88_code 42 = .ok (.iaload, 1) := by decide +kernel
theorem d_Model_keeps_43 : decode prog_13_method_88_code 43 = .ok (.if_icmp .ge 63, 3) := by decide +kernel
theorem d_Model_keeps_46 : decode prog_13_method_88_code 46 = .ok (.iconst 0, 1) := by decide +kernel
theorem d_Model_keeps_47 : decode prog_13_method_88_code 47 = .ok (.istore 6, 2) := by decide +kernel
theorem d_Model_keeps_49 : decode prog_13_method_88_code 49 = .ok (.iload 6, 2) := by decide +kernel
theorem d_Model_keeps_51 : decode prog_13_method_88_code 51 = .ok (.iload_n 2, 1) := by decide +kernel
theorem d_Model_keeps_52 : decode prog_13_method_88_code 52 = .ok (.if_icmp .ge 48, 3) := by decide +kernel
theorem d_Model_keeps_55 : decode prog_13_method_88_code 55 = .ok (.aload_n 0, 1) := by decide +kernel
theorem d_Model_keeps_56 : decode prog_13_method_88_code 56 = .ok (.getfield 147, 3) := by decide +kernel
theorem d_Model_keeps_59 : decode prog_13_method_88_code 59 = .ok (.iload_n 1, 1) := by decide +kernel
theorem d_Model_keeps_60 : decode prog_13_method_88_code 60 = .ok (.iaload, 1) := by decide +kernel
theorem d_Model_keeps_61 : decode prog_13_method_88_code 61 = .ok (.iload 6, 2) := by decide +kernel
theorem d_Model_keeps_63 : decode prog_13_method_88_code 63 = .ok (.ishr, 1) := by decide +kernel
theorem d_Model_keeps_64 : decode prog_13_method_88_code 64 = .ok (.iconst 1, 1) := by decide +kernel
theorem d_Model_keeps_65 : decode prog_13_method_88_code 65 = .ok (.iand, 1) := by decide +kernel
theorem d_Model_keeps_66 : decode prog_13_method_88_code 66 = .ok (.iconst 1, 1) := by decide +kernel
theorem d_Model_keeps_67 : decode prog_13_method_88_code 67 = .ok (.if_icmp .ne 27, 3) := by decide +kernel
theorem d_Model_keeps_70 : decode prog_13_method_88_code 70 = .ok (.aload_n 0, 1) := by decide +kernel
theorem d_Model_keeps_71 : decode prog_13_method_88_code 71 = .ok (.getfield 178, 3) := by decide +kernel
theorem d_Model_keeps_74 : decode prog_13_method_88_code 74 = .ok (.iload 4, 2) := by decide +kernel
theorem d_Model_keeps_76 : decode prog_13_method_88_code 76 = .ok (.aload_n 0, 1) := by decide +kernel
theorem d_Model_keeps_77 : decode prog_13_method_88_code 77 = .ok (.getfield 178, 3) := by decide +kernel
theorem d_Model_keeps_80 : decode prog_13_method_88_code 80 = .ok (.iload_n 3, 1) := by decide +kernel
theorem d_Model_keeps_81 : decode prog_13_method_88_code 81 = .ok (.iload_n 2, 1) := by decide +kernel
theorem d_Model_keeps_82 : decode prog_13_method_88_code 82 = .ok (.iload 5, 2) := by decide +kernel
theorem d_Model_keeps_84 : decode prog_13_method_88_code 84 = .ok (.imul, 1) := by decide +kernel
theorem d_Model_keeps_85 : decode prog_13_method_88_code 85 = .ok (.iadd, 1) := by decide +kernel
theorem d_Model_keeps_86 : decode prog_13_method_88_code 86 = .ok (.iload 6, 2) := by decide +kernel
theorem d_Model_keeps_88 : decode prog_13_method_88_code 88 = .ok (.iadd, 1) := by decide +kernel
theorem d_Model_keeps_89 : decode prog_13_method_88_code 89 = .ok (.iaload, 1) := by decide +kernel
theorem d_Model_keeps_90 : decode prog_13_method_88_code 90 = .ok (.iastore, 1) := by decide +kernel
theorem d_Model_keeps_91 : decode prog_13_method_88_code 91 = .ok (.iinc 4 1, 3) := by decide +kernel
theorem d_Model_keeps_94 : decode prog_13_method_88_code 94 = .ok (.iinc 6 1, 3) := by decide +kernel
theorem d_Model_keeps_97 : decode prog_13_method_88_code 97 = .ok (.goto (-48), 3) := by decide +kernel
theorem d_Model_keeps_100 : decode prog_13_method_88_code 100 = .ok (.iinc 5 1, 3) := by decide +kernel
theorem d_Model_keeps_103 : decode prog_13_method_88_code 103 = .ok (.goto (-73), 3) := by decide +kernel
theorem d_Model_keeps_106 : decode prog_13_method_88_code 106 = .ok (.aload_n 0, 1) := by decide +kernel
theorem d_Model_keeps_107 : decode prog_13_method_88_code 107 = .ok (.getfield 187, 3) := by decide +kernel
theorem d_Model_keeps_110 : decode prog_13_method_88_code 110 = .ok (.aload_n 0, 1) := by decide +kernel
theorem d_Model_keeps_111 : decode prog_13_method_88_code 111 = .ok (.getfield 434, 3) := by decide +kernel
theorem d_Model_keeps_114 : decode prog_13_method_88_code 114 = .ok (.iconst 1, 1) := by decide +kernel
theorem d_Model_keeps_115 : decode prog_13_method_88_code 115 = .ok (.isub, 1) := by decide +kernel
theorem d_Model_keeps_116 : decode prog_13_method_88_code 116 = .ok (.aload_n 0, 1) := by decide +kernel
theorem d_Model_keeps_117 : decode prog_13_method_88_code 117 = .ok (.getfield 147, 3) := by decide +kernel
theorem d_Model_keeps_120 : decode prog_13_method_88_code 120 = .ok (.iload_n 1, 1) := by decide +kernel
theorem d_Model_keeps_121 : decode prog_13_method_88_code 121 = .ok (.iaload, 1) := by decide +kernel
theorem d_Model_keeps_122 : decode prog_13_method_88_code 122 = .ok (.invokestatic 422, 3) := by decide +kernel
theorem d_Model_keeps_125 : decode prog_13_method_88_code 125 = .ok (.iastore, 1) := by decide +kernel
theorem d_Model_keeps_126 : decode prog_13_method_88_code 126 = .ok (.return_, 1) := by decide +kernel
theorem d_Model_groups_0 : decode prog_13_method_90_code 0 = .ok (.aload_n 0, 1) := by decide +kernel
theorem d_Model_groups_1 : decode prog_13_method_90_code 1 = .ok (.getfield 187, 3) := by decide +kernel
theorem d_Model_groups_4 : decode prog_13_method_90_code 4 = .ok (.aload_n 0, 1) := by decide +kernel
theorem d_Model_groups_5 : decode prog_13_method_90_code 5 = .ok (.getfield 434, 3) := by decide +kernel
theorem d_Model_groups_8 : decode prog_13_method_90_code 8 = .ok (.iconst 1, 1) := by decide +kernel
theorem d_Model_groups_9 : decode prog_13_method_90_code 9 = .ok (.isub, 1) := by decide +kernel
theorem d_Model_groups_10 : decode prog_13_method_90_code 10 = .ok (.iaload, 1) := by decide +kernel
theorem d_Model_groups_11 : decode prog_13_method_90_code 11 = .ok (.istore_n 2, 1) := by decide +kernel
theorem d_Model_groups_12 : decode prog_13_method_90_code 12 = .ok (.aload_n 0, 1) := by decide +kernel
theorem d_Model_groups_13 : decode prog_13_method_90_code 13 = .ok (.getfield 181, 3) := by decide +kernel
theorem d_Model_groups_16 : decode prog_13_method_90_code 16 = .ok (.aload_n 0, 1) := by decide +kernel
theorem d_Model_groups_17 : decode prog_13_method_90_code 17 = .ok (.getfield 434, 3) := by decide +kernel
theorem d_Model_groups_20 : decode prog_13_method_90_code 20 = .ok (.iconst 1, 1) := by decide +kernel
theorem d_Model_groups_21 : decode prog_13_method_90_code 21 = .ok (.isub, 1) := by decide +kernel
theorem d_Model_groups_22 : decode prog_13_method_90_code 22 = .ok (.iaload, 1) := by decide +kernel
theorem d_Model_groups_23 : decode prog_13_method_90_code 23 = .ok (.istore_n 3, 1) := by decide +kernel
theorem d_Model_groups_24 : decode prog_13_method_90_code 24 = .ok (.aload_n 0, 1) := by decide +kernel
theorem d_Model_groups_25 : decode prog_13_method_90_code 25 = .ok (.invokevirtual 437, 3) := by decide +kernel
theorem d_Model_groups_28 : decode prog_13_method_90_code 28 = .ok (.istore 4, 2) := by decide +kernel
theorem d_Model_groups_30 : decode prog_13_method_90_code 30 = .ok (.iconst 0, 1) := by decide +kernel
theorem d_Model_groups_31 : decode prog_13_method_90_code 31 = .ok (.istore 5, 2) := by decide +kernel
theorem d_Model_groups_33 : decode prog_13_method_90_code 33 = .ok (.aload_n 0, 1) := by decide +kernel
theorem d_Model_groups_34 : decode prog_13_method_90_code 34 = .ok (.getfield 147, 3) := by decide +kernel
theorem d_Model_groups_37 : decode prog_13_method_90_code 37 = .ok (.iload_n 1, 1) := by decide +kernel
theorem d_Model_groups_38 : decode prog_13_method_90_code 38 = .ok (.iaload, 1) := by decide +kernel
theorem d_Model_groups_39 : decode prog_13_method_90_code 39 = .ok (.iconst (-1), 1) := by decide +kernel
theorem d_Model_groups_40 : decode prog_13_method_90_code 40 = .ok (.if_icmp .ne 39, 3) := by decide +kernel
theorem d_Model_groups_43 : decode prog_13_method_90_code 43 = .ok (.aload_n 0, 1) := by decide +kernel
theorem d_Model_groups_44 : decode prog_13_method_90_code 44 = .ok (.getfield 178, 3) := by decide +kernel
theorem d_Model_groups_47 : decode prog_13_method_90_code 47 = .ok (.iload 4, 2) := by decide +kernel
theorem d_Model_groups_49 : decode prog_13_method_90_code 49 = .ok (.ldc 246, 2) := by decide +kernel
theorem d_Model_groups_51 : decode prog_13_method_90_code 51 = .ok (.iastore, 1) := by decide +kernel
theorem d_Model_groups_52 : decode prog_13_method_90_code 52 = .ok (.aload_n 0, 1) := by decide +kernel
theorem d_Model_groups_53 : decode prog_13_method_90_code 53 = .ok (.getfield 178, 3) := by decide +kernel
theorem d_Model_groups_56 : decode prog_13_method_90_code 56 = .ok (.iload 4, 2) := by decide +kernel
theorem d_Model_groups_58 : decode prog_13_method_90_code 58 = .ok (.iconst 1, 1) := by decide +kernel
theorem d_Model_groups_59 : decode prog_13_method_90_code 59 = .ok (.iadd, 1) := by decide +kernel
theorem d_Model_groups_60 : decode prog_13_method_90_code 60 = .ok (.aload_n 0, 1) := by decide +kernel
theorem d_Model_groups_61 : decode prog_13_method_90_code 61 = .ok (.getfield 150, 3) := by decide +kernel
theorem d_Model_groups_64 : decode prog_13_method_90_code 64 = .ok (.iload_n 1, 1) := by decide +kernel
theorem d_Model_groups_65 : decode prog_13_method_90_code 65 = .ok (.iaload, 1) := by decide +kernel
theorem d_Model_groups_66 : decode prog_13_method_90_code 66 = .ok (.ifCond .ne 7, 3) := by decide +kernel
theorem d_Model_groups_69 : decode prog_13_method_90_code 69 = .ok (.iconst 0, 1) := by decide +kernel
theorem d_Model_groups_70 : decode prog_13_method_90_code 70 = .ok (.goto 5, 3) := by decide +kernel
theorem d_Model_groups_73 : decode prog_13_method_90_code 73 = .ok (.ldc 246, 2) := by decide +kernel
theorem d_Model_groups_75 : decode prog_13_method_90_code 75 = .ok (.iastore, 1) := by decide +kernel
theorem d_Model_groups_76 : decode prog_13_method_90_code 76 = .ok (.iconst 1, 1) := by decide +kernel
theorem d_Model_groups_77 : decode prog_13_method_90_code 77 = .ok (.istore 5, 2) := by decide +kernel
theorem d_Model_groups_79 : decode prog_13_method_90_code 79 = .ok (.iconst 0, 1) := by decide +kernel
theorem d_Model_groups_80 : decode prog_13_method_90_code 80 = .ok (.istore 6, 2) := by decide +kernel
theorem d_Model_groups_82 : decode prog_13_method_90_code 82 = .ok (.iload 6, 2) := by decide +kernel
theorem d_Model_groups_84 : decode prog_13_method_90_code 84 = .ok (.aload_n 0, 1) := by decide +kernel
theorem d_Model_groups_85 : decode prog_13_method_90_code 85 = .ok (.getfield 184, 3) := by decide +kernel
theorem d_Model_groups_88 : decode prog_13_method_90_code 88 = .ok (.aload_n 0, 1) := by decide +kernel
theorem d_Model_groups_89 : decode prog_13_method_90_code 89 = .ok (.getfield 434, 3) := by decide +kernel
theorem d_Model_groups_92 : decode prog_13_method_90_code 92 = .ok (.iconst 1, 1) := by decide +kernel
theorem d_Model_groups_93 : decode prog_13_method_90_code 93 = .ok (.isub, 1) := by decide +kernel
theorem d_Model_groups_94 : decode prog_13_method_90_code 94 = .ok (.iaload, 1) := by decide +kernel
theorem d_Model_groups_95 : decode prog_13_method_90_code 95 = .ok (.if_icmp .ge 202, 3) := by decide +kernel
theorem d_Model_groups_98 : decode prog_13_method_90_code 98 = .ok (.aload_n 0, 1) := by decide +kernel
theorem d_Model_groups_99 : decode prog_13_method_90_code 99 = .ok (.getfield 147, 3) := by decide +kernel
theorem d_Model_groups_102 : decode prog_13_method_90_code 102 = .ok (.iload_n 1, 1) := by decide +kernel
theorem d_Model_groups_103 : decode prog_13_method_90_code 103 = .ok (.iaload, 1) := by decide +kernel
theorem d_Model_groups_104 : decode prog_13_method_90_code 104 = .ok (.iconst (-1), 1) := by decide +kernel
theorem d_Model_groups_105 : decode prog_13_method_90_code 105 = .ok (.if_icmp .ne 8, 3) := by decide +kernel
theorem d_Model_groups_108 : decode prog_13_method_90_code 108 = .ok (.ldc 246, 2) := by decide +kernel
theorem d_Model_groups_110 : decode prog_13_method_90_code 110 = .ok (.goto 21, 3) := by decide +kernel
theorem d_Model_groups_113 : decode prog_13_method_90_code 113 = .ok (.aload_n 0, 1) := by decide +kernel
theorem d_Model_groups_114 : decode prog_13_method_90_code 114 = .ok (.getfield 178, 3) := by decide +kernel
theorem d_Model_groups_117 : decode prog_13_method_90_code 117 = .ok (.iload_n 3, 1) := by decide +kernel
theorem d_Model_groups_118 : decode prog_13_method_90_code 118 = .ok (.iload_n 2, 1) := by decide +kernel
theorem d_Model_groups_119 : decode prog_13_method_90_code 119 = .ok (.iload 6, 2) := by decide +kernel
theorem d_Model_groups_121 : decode prog_13_method_90_code 121 = .ok (.imul, 1) := by decide +kernel
theorem d_Model_groups_122 : decode prog_13_method_90_code 122 = .ok (.iadd, 1) := by decide +kernel
theorem d_Model_groups_123 : decode prog_13_method_90_code 123 = .ok (.aload_n 0, 1) := by decide +kernel
theorem d_Model_groups_124 : decode prog_13_method_90_code 124 = .ok (.getfield 147, 3) := by decide +kernel
theorem d_Model_groups_127 : decode prog_13_method_90_code 127 = .ok (.iload_n 1, 1) := by decide +kernel
theorem d_Model_groups_128 : decode prog_13_method_90_code 128 = .ok (.iaload, 1) := by decide +kernel
theorem d_Model_groups_129 : decode prog_13_method_90_code 129 = .ok (.iadd, 1) := by decide +kernel
theorem d_Model_groups_130 : decode prog_13_method_90_code 130 = .ok (.iaload, 1) := by decide +kernel
theorem d_Model_groups_131 : decode prog_13_method_90_code 131 = .ok (.istore 7, 2) := by decide +kernel
theorem d_Model_groups_133 : decode prog_13_method_90_code 133 = .ok (.iconst 0, 1) := by decide +kernel
theorem d_Model_groups_134 : decode prog_13_method_90_code 134 = .ok (.istore 8, 2) := by decide +kernel
theorem d_Model_groups_136 : decode prog_13_method_90_code 136 = .ok (.iload 8, 2) := by decide +kernel
theorem d_Model_groups_138 : decode prog_13_method_90_code 138 = .ok (.iload 5, 2) := by decide +kernel
theorem d_Model_groups_140 : decode prog_13_method_90_code 140 = .ok (.if_icmp .ge 26, 3) := by decide +kernel
theorem d_Model_groups_143 : decode prog_13_method_90_code 143 = .ok (.aload_n 0, 1) := by decide +kernel
theorem d_Model_groups_144 : decode prog_13_method_90_code 144 = .ok (.getfield 178, 3) := by decide +kernel
theorem d_Model_groups_147 : decode prog_13_method_90_code 147 = .ok (.iload 4, 2) := by decide +kernel
theorem d_Model_groups_149 : decode prog_13_method_90_code 149 = .ok (.iconst 2, 1) := by decide +kernel
theorem d_Model_groups_150 : decode prog_13_method_90_code 150 = .ok (.iload 8, 2) := by decide +kernel
theorem d_Model_groups_152 : decode prog_13_method_90_code 152 = .ok (.imul, 1) := by decide +kernel
theorem d_Model_groups_153 : decode prog_13_method_90_code 153 = .ok (.iadd, 1) := by decide +kernel
theorem d_Model_groups_154 : decode prog_13_method_90_code 154 = .ok (.iaload, 1) := by decide +kernel
theorem d_Model_groups_155 : decode prog_13_method_90_code 155 = .ok (.iload 7, 2) := by decide +kernel
theorem d_Model_groups_157 : decode prog_13_method_90_code 157 = .ok (.if_icmp .eq 9, 3) := by decide +kernel
theorem d_Model_groups_160 : decode prog_13_method_90_code 160 = .ok (.iinc 8 1, 3) := by decide +kernel
theorem d_Model_groups_163 : decode prog_13_method_90_code 163 = .ok (.goto (-27), 3) := by decide +kernel
theorem d_Model_groups_166 : decode prog_13_method_90_code 166 = .ok (.iload 8, 2) := by decide +kernel
theorem d_Model_groups_168 : decode prog_13_method_90_code 168 = .ok (.iload 5, 2) := by decide +kernel
theorem d_Model_groups_170 : decode prog_13_method_90_code 170 = .ok (.if_icmp .ne 49, 3) := by decide +kernel
theorem d_Model_groups_173 : decode prog_13_method_90_code 173 = .ok (.aload_n 0, 1) := by decide +kernel
theorem d_Model_groups_174 : decode prog_13_method_90_code 174 = .ok (.getfield 178, 3) := by decide +kernel
theorem d_Model_groups_177 : decode prog_13_method_90_code 177 = .ok (.iload 4, 2) := by decide +kernel
theorem d_Model_groups_179 : decode prog_13_method_90_code 179 = .ok (.iconst 2, 1) := by decide +kernel
theorem d_Model_groups_180 : decode prog_13_method_90_code 180 = .ok (.iload 8, 2) := by decide +kernel
theorem d_Model_groups_182 : decode prog_13_method_90_code 182 = .ok (.imul, 1) := by decide +kernel
theorem d_Model_groups_183 : decode prog_13_method_90_code 183 = .ok (.iadd, 1) := by decide +kernel
theorem d_Model_groups_184 : decode prog_13_method_90_code 184 = .ok (.iload 7, 2) := by decide +kernel
theorem d_Model_groups_186 : decode prog_13_method_90_code 186 = .ok (.iastore, 1) := by decide +kernel
theorem d_Model_groups_187 : decode prog_13_method_90_code 187 = .ok (.aload_n 0, 1) := by decide +kernel
theorem d_Model_groups_188 : decode prog_13_method_90_code 188 = .ok (.getfield 178, 3) := by decide +kernel
theorem d_Model_groups_191 : decode prog_13_method_90_code 191 = .ok (.iload 4, 2) := by decide +kernel
theorem d_Model_groups_193 : decode prog_13_method_90_code 193 = .ok (.iconst 2, 1) := by decide +kernel
theorem d_Model_groups_194 : decode prog_13_method_90_code 194 = .ok (.iload 8, 2) := by decide +kernel
theorem d_Model_groups_196 : decode prog_13_method_90_code 196 = .ok (.imul, 1) := by decide +kernel
theorem d_Model_groups_197 : decode prog_13_method_90_code 197 = .ok (.iadd, 1) := by decide +kernel
theorem d_Model_groups_198 : decode prog_13_method_90_code 198 = .ok (.iconst 1, 1) := by decide +kernel
theorem d_Model_groups_199 : decode prog_13_method_90_code 199 = .ok (.iadd, 1) := by decide +kernel
theorem d_Model_groups_200 : decode prog_13_method_90_code 200 = .ok (.aload_n 0, 1) := by decide +kernel
theorem d_Model_groups_201 : decode prog_13_method_90_code 201 = .ok (.getfield 150, 3) := by decide +kernel
theorem d_Model_groups_204 : decode prog_13_method_90_code 204 = .ok (.iload_n 1, 1) := by decide +kernel
theorem d_Model_groups_205 : decode prog_13_method_90_code 205 = .ok (.iaload, 1) := by decide +kernel
theorem d_Model_groups_206 : decode prog_13_method_90_code 206 = .ok (.ifCond .ne 7, 3) := by decide +kernel
theorem d_Model_groups_209 : decode prog_13_method_90_code 209 = .ok (.iconst 0, 1) := by decide +kernel
theorem d_Model_groups_210 : decode prog_13_method_90_code 210 = .ok (.goto 5, 3) := by decide +kernel
theorem d_Model_groups_213 : decode prog_13_method_90_code 213 = .ok (.ldc 246, 2) := by decide +kernel
theorem d_Model_groups_215 : decode prog_13_method_90_code 215 = .ok (.iastore, 1) := by decide +kernel
theorem d_Model_groups_216 : decode prog_13_method_90_code 216 = .ok (.iinc 5 1, 3) := by decide +kernel
theorem d_Model_groups_219 : decode prog_13_method_90_code 219 = .ok (.aload_n 0, 1) := by decide +kernel
theorem d_Model_groups_220 : decode prog_13_method_90_code 220 = .ok (.getfield 150, 3) := by decide +kernel
theorem d_Model_groups_223 : decode prog_13_method_90_code 223 = .ok (.iload_n 1, 1) := by decide +kernel
theorem d_Model_groups_224 : decode prog_13_method_90_code 224 = .ok (.iaload, 1) := by decide +kernel
theorem d_Model_groups_225 : decode prog_13_method_90_code 225 = .ok (.ifCond .ne 7, 3) := by decide +kernel
theorem d_Model_groups_228 : decode prog_13_method_90_code 228 = .ok (.iconst 0, 1) := by decide +kernel
theorem d_Model_groups_229 : decode prog_13_method_90_code 229 = .ok (.goto 21, 3) := by decide +kernel
theorem d_Model_groups_232 : decode prog_13_method_90_code 232 = .ok (.aload_n 0, 1) := by decide +kernel
theorem d_Model_groups_233 : decode prog_13_method_90_code 233 = .ok (.getfield 178, 3) := by decide +kernel
theorem d_Model_groups_236 : decode prog_13_method_90_code 236 = .ok (.iload_n 3, 1) := by decide +kernel
theorem d_Model_groups_237 : decode prog_13_method_90_code 237 = .ok (.iload_n 2, 1) := by decide +kernel
theorem d_Model_groups_238 : decode prog_13_method_90_code 238 = .ok (.iload 6, 2) := by decide +kernel
theorem d_Model_groups_240 : decode prog_13_method_90_code 240 = .ok (.imul, 1) := by decide +kernel
theorem d_Model_groups_241 : decode prog_13_method_90_code 241 = .ok (.iadd, 1) := by decide +kernel
theorem d_Model_groups_242 : decode prog_13_method_90_code 242 = .ok (.aload_n 0, 1) := by decide +kernel
theorem d_Model_groups_243 : decode prog_13_method_90_code 243 = .ok (.getfield 153, 3) := by decide +kernel
theorem d_Model_groups_246 : decode prog_13_method_90_code 246 = .ok (.iload_n 1, 1) := by decide +kernel
theorem d_Model_groups_247 : decode prog_13_method_90_code 247 = .ok (.iaload, 1) := by decide +kernel
theorem d_Model_groups_248 : decode prog_13_method_90_code 248 = .ok (.iadd, 1) := by decide +kernel
theorem d_Model_groups_249 : decode prog_13_method_90_code 249 = .ok (.iaload, 1) := by decide +kernel
theorem d_Model_groups_250 : decode prog_13_method_90_code 250 = .ok (.istore 9, 2) := by decide +kernel
theorem d_Model_groups_252 : decode prog_13_method_90_code 252 = .ok (.aload_n 0, 1) := by decide +kernel
theorem d_Model_groups_253 : decode prog_13_method_90_code 253 = .ok (.getfield 178, 3) := by decide +kernel
theorem d_Model_groups_256 : decode prog_13_method_90_code 256 = .ok (.iload 4, 2) := by decide +kernel
theorem d_Model_groups_258 : decode prog_13_method_90_code 258 = .ok (.iconst 2, 1) := by decide +kernel
theorem d_Model_groups_259 : decode prog_13_method_90_code 259 = .ok (.iload 8, 2) := by decide +kernel
theorem d_Model_groups_261 : decode prog_13_method_90_code 261 = .ok (.imul, 1) := by decide +kernel
theorem d_Model_groups_262 : decode prog_13_method_90_code 262 = .ok (.iadd, 1) := by decide +kernel
theorem d_Model_groups_263 : decode prog_13_method_90_code 263 = .ok (.iconst 1, 1) := by decide +kernel
theorem d_Model_groups_264 : decode prog_13_method_90_code 264 = .ok (.iadd, 1) := by decide +kernel
theorem d_Model_groups_265 : decode prog_13_method_90_code 265 = .ok (.aload_n 0, 1) := by decide +kernel
theorem d_Model_groups_266 : decode prog_13_method_90_code 266 = .ok (.getfield 150, 3) := by decide +kernel
theorem d_Model_groups_269 : decode prog_13_method_90_code 269 = .ok (.iload_n 1, 1) := by decide +kernel
theorem d_Model_groups_270 : decode prog_13_method_90_code 270 = .ok (.iaload, 1) := by decide +kernel
theorem d_Model_groups_271 : decode prog_13_method_90_code 271 = .ok (.aload_n 0, 1) := by decide +kernel
theorem d_Model_groups_272 : decode prog_13_method_90_code 272 = .ok (.getfield 178, 3) := by decide +kernel
theorem d_Model_groups_275 : decode prog_13_method_90_code 275 = .ok (.iload 4, 2) := by decide +kernel
theorem d_Model_groups_277 : decode prog_13_method_90_code 277 = .ok (.iconst 2, 1) := by decide +kernel
theorem d_Model_groups_278 : decode prog_13_method_90_code 278 = .ok (.iload 8, 2) := by decide +kernel
theorem d_Model_groups_280 : decode prog_13_method_90_code 280 = .ok (.imul, 1) := by decide +kernel
theorem d_Model_groups_281 : decode prog_13_method_90_code 281 = .ok (.iadd, 1) := by decide +kernel
theorem d_Model_groups_282 : decode prog_13_method_90_code 282 = .ok (.iconst 1, 1) := by decide +kernel
theorem d_Model_groups_283 : decode prog_13_method_90_code 283 = .ok (.iadd, 1) := by decide +kernel
theorem d_Model_groups_284 : decode prog_13_method_90_code 284 = .ok (.iaload, 1) := by decide +kernel
theorem d_Model_groups_285 : decode prog_13_method_90_code 285 = .ok (.iload 9, 2) := by decide +kernel
theorem d_Model_groups_287 : decode prog_13_method_90_code 287 = .ok (.invokestatic 447, 3) := by decide +kernel
theorem d_Model_groups_290 : decode prog_13_method_90_code 290 = .ok (.iastore, 1) := by decide +kernel
theorem d_Model_groups_291 : decode prog_13_method_90_code 291 = .ok (.iinc 6 1, 3) := by decide +kernel
theorem d_Model_groups_294 : decode prog_13_method_90_code 294 = .ok (.goto (-212), 3) := by decide +kernel
theorem d_Model_groups_297 : decode prog_13_method_90_code 297 = .ok (.aload_n 0, 1) := by decide +kernel
theorem d_Model_groups_298 : decode prog_13_method_90_code 298 = .ok (.iload 4, 2) := by decide +kernel
theorem d_Model_groups_300 : decode prog_13_method_90_code 300 = .ok (.iload 5, 2) := by decide +kernel
theorem d_Model_groups_302 : decode prog_13_method_90_code 302 = .ok (.iconst 2, 1) := by decide +kernel
theorem d_Model_groups_303 : decode prog_13_method_90_code 303 = .ok (.iconst 1, 1) := by decide +kernel
theorem d_Model_groups_304 : decode prog_13_method_90_code 304 = .ok (.invokevirtual 450, 3) := by decide +kernel
theorem d_Model_groups_307 : decode prog_13_method_90_code 307 = .ok (.return_, 1) := by decide +kernel
theorem d_Model_gathered_0 : decode prog_13_method_91_code 0 = .ok (.iload_n 0, 1) := by decide +kernel
theorem d_Model_gathered_1 : decode prog_13_method_91_code 1 = .ok (.ifCond .ne 7, 3) := by decide +kernel
theorem d_Model_gathered_4 : decode prog_13_method_91_code 4 = .ok (.iload_n 1, 1) := by decide +kernel
theorem d_Model_gathered_5 : decode prog_13_method_91_code 5 = .ok (.iconst 1, 1) := by decide +kernel
theorem d_Model_gathered_6 : decode prog_13_method_91_code 6 = .ok (.iadd, 1) := by decide +kernel
theorem d_Model_gathered_7 : decode prog_13_method_91_code 7 = .ok (.ireturn, 1) := by decide +kernel
theorem d_Model_gathered_8 : decode prog_13_method_91_code 8 = .ok (.iload_n 2, 1) := by decide +kernel
theorem d_Model_gathered_9 : decode prog_13_method_91_code 9 = .ok (.ldc 246, 2) := by decide +kernel
theorem d_Model_gathered_11 : decode prog_13_method_91_code 11 = .ok (.if_icmp .eq 9, 3) := by decide +kernel
theorem d_Model_gathered_14 : decode prog_13_method_91_code 14 = .ok (.iload_n 1, 1) := by decide +kernel
theorem d_Model_gathered_15 : decode prog_13_method_91_code 15 = .ok (.ldc 246, 2) := by decide +kernel
theorem d_Model_gathered_17 : decode prog_13_method_91_code 17 = .ok (.if_icmp .ne 15, 3) := by decide +kernel
theorem d_Model_gathered_20 : decode prog_13_method_91_code 20 = .ok (.iload_n 2, 1) := by decide +kernel
theorem d_Model_gathered_21 : decode prog_13_method_91_code 21 = .ok (.ldc 246, 2) := by decide +kernel
theorem d_Model_gathered_23 : decode prog_13_method_91_code 23 = .ok (.if_icmp .ne 7, 3) := by decide +kernel
theorem d_Model_gathered_26 : decode prog_13_method_91_code 26 = .ok (.iload_n 1, 1) := by decide +kernel
theorem d_Model_gathered_27 : decode prog_13_method_91_code 27 = .ok (.goto 4, 3) := by decide +kernel
theorem d_Model_gathered_30 : decode prog_13_method_91_code 30 = .ok (.iload_n 2, 1) := by decide +kernel
theorem d_Model_gathered_31 : decode prog_13_method_91_code 31 = .ok (.ireturn, 1) := by decide +kernel
theorem d_Model_gathered_32 : decode prog_13_method_91_code 32 = .ok (.iload_n 0, 1) := by decide +kernel
theorem d_Model_gathered_33 : decode prog_13_method_91_code 33 = .ok (.iconst 1, 1) := by decide +kernel
theorem d_Model_gathered_34 : decode prog_13_method_91_code 34 = .ok (.if_icmp .ne 9, 3) := by decide +kernel
theorem d_Model_gathered_37 : decode prog_13_method_91_code 37 = .ok (.iload_n 1, 1) := by decide +kernel
theorem d_Model_gathered_38 : decode prog_13_method_91_code 38 = .ok (.iload_n 2, 1) := by decide +kernel
theorem d_Model_gathered_39 : decode prog_13_method_91_code 39 = .ok (.iadd, 1) := by decide +kernel
theorem d_Model_gathered_40 : decode prog_13_method_91_code 40 = .ok (.goto 26, 3) := by decide +kernel
theorem d_Model_gathered_43 : decode prog_13_method_91_code 43 = .ok (.iload_n 0, 1) := by decide +kernel
theorem d_Model_gathered_44 : decode prog_13_method_91_code 44 = .ok (.iconst 2, 1) := by decide +kernel
theorem d_Model_gathered_45 : decode prog_13_method_91_code 45 = .ok (.if_icmp .ne 11, 3) := by decide +kernel
theorem d_Model_gathered_48 : decode prog_13_method_91_code 48 = .ok (.iload_n 1, 1) := by decide +kernel
theorem d_Model_gathered_49 : decode prog_13_method_91_code 49 = .ok (.iload_n 2, 1) := by decide +kernel
theorem d_Model_gathered_50 : decode prog_13_method_91_code 50 = .ok (.invokestatic 453, 3) := by decide +kernel
theorem d_Model_gathered_53 : decode prog_13_method_91_code 53 = .ok (.goto 13, 3) := by decide +kernel
theorem d_Model_gathered_56 : decode prog_13_method_91_code 56 = .ok (.iload_n 1, 1) := by decide +kernel
theorem d_Model_gathered_57 : decode prog_13_method_91_code 57 = .ok (.iload_n 2, 1) := by decide +kernel
theorem d_Model_gathered_58 : decode prog_13_method_91_code 58 = .ok (.if_icmp .le 7, 3) := by decide +kernel
theorem d_Model_gathered_61 : decode prog_13_method_91_code 61 = .ok (.iload_n 1, 1) := by decide +kernel
theorem d_Model_gathered_62 : decode prog_13_method_91_code 62 = .ok (.goto 4, 3) := by decide +kernel
theorem d_Model_gathered_65 : decode prog_13_method_91_code 65 = .ok (.iload_n 2, 1) := by decide +kernel
theorem d_Model_gathered_66 : decode prog_13_method_91_code 66 = .ok (.ireturn, 1) := by decide +kernel
theorem d_Model_least_0 : decode prog_13_method_6_code 0 = .ok (.iload_n 0, 1) := by decide +kernel
theorem d_Model_least_1 : decode prog_13_method_6_code 1 = .ok (.iload_n 1, 1) := by decide +kernel
theorem d_Model_least_2 : decode prog_13_method_6_code 2 = .ok (.if_icmp .ge 7, 3) := by decide +kernel
theorem d_Model_least_5 : decode prog_13_method_6_code 5 = .ok (.iload_n 0, 1) := by decide +kernel
theorem d_Model_least_6 : decode prog_13_method_6_code 6 = .ok (.goto 4, 3) := by decide +kernel
theorem d_Model_least_9 : decode prog_13_method_6_code 9 = .ok (.iload_n 1, 1) := by decide +kernel
theorem d_Model_least_10 : decode prog_13_method_6_code 10 = .ok (.ireturn, 1) := by decide +kernel
theorem d_Model_combines_0 : decode prog_13_method_95_code 0 = .ok (.aload_n 0, 1) := by decide +kernel
theorem d_Model_combines_1 : decode prog_13_method_95_code 1 = .ok (.getfield 147, 3) := by decide +kernel
theorem d_Model_combines_4 : decode prog_13_method_95_code 4 = .ok (.iload_n 1, 1) := by decide +kernel
theorem d_Model_combines_5 : decode prog_13_method_95_code 5 = .ok (.iaload, 1) := by decide +kernel
theorem d_Model_combines_6 : decode prog_13_method_95_code 6 = .ok (.istore_n 2, 1) := by decide +kernel
theorem d_Model_combines_7 : decode prog_13_method_95_code 7 = .ok (.aload_n 0, 1) := by decide +kernel
theorem d_Model_combines_8 : decode prog_13_method_95_code 8 = .ok (.getfield 181, 3) := by decide +kernel
theorem d_Model_combines_11 : decode prog_13_method_95_code 11 = .ok (.aload_n 0, 1) := by decide +kernel
theorem d_Model_combines_12 : decode prog_13_method_95_code 12 = .ok (.getfield 434, 3) := by decide +kernel
theorem d_Model_combines_15 : decode prog_13_method_95_code 15 = .ok (.iconst 2, 1) := by decide +kernel
theorem d_Model_combines_16 : decode prog_13_method_95_code 16 = .ok (.isub, 1) := by decide +kernel
theorem d_Model_combines_17 : decode prog_13_method_95_code 17 = .ok (.iaload, 1) := by decide +kernel
theorem d_Model_combines_18 : decode prog_13_method_95_code 18 = .ok (.istore_n 3, 1) := by decide +kernel
theorem d_Model_combines_19 : decode prog_13_method_95_code 19 = .ok (.aload_n 0, 1) := by decide +kernel
theorem d_Model_combines_20 : decode prog_13_method_95_code 20 = .ok (.getfield 181, 3) := by decide +kernel
theorem d_Model_combines_23 : decode prog_13_method_95_code 23 = .ok (.aload_n 0, 1) := by decide +kernel
theorem d_Model_combines_24 : decode prog_13_method_95_code 24 = .ok (.getfield 434, 3) := by decide +kernel
theorem d_Model_combines_27 : decode prog_13_method_95_code 27 = .ok (.iconst 1, 1) := by decide +kernel
theorem d_Model_combines_28 : decode prog_13_method_95_code 28 = .ok (.isub, 1) := by decide +kernel
theorem d_Model_combines_29 : decode prog_13_method_95_code 29 = .ok (.iaload, 1) := by decide +kernel
theorem d_Model_combines_30 : decode prog_13_method_95_code 30 = .ok (.istore 4, 2) := by decide +kernel
theorem d_Model_combines_32 : decode prog_13_method_95_code 32 = .ok (.aload_n 0, 1) := by decide +kernel
theorem d_Model_combines_33 : decode prog_13_method_95_code 33 = .ok (.getfield 187, 3) := by decide +kernel
theorem d_Model_combines_36 : decode prog_13_method_95_code 36 = .ok (.aload_n 0, 1) := by decide +kernel
theorem d_Model_combines_37 : decode prog_13_method_95_code 37 = .ok (.getfield 434, 3) := by decide +kernel
theorem d_Model_combines_40 : decode prog_13_method_95_code 40 = .ok (.iconst 1, 1) := by decide +kernel
theorem d_Model_combines_41 : decode prog_13_method_95_code 41 = .ok (.isub, 1) := by decide +kernel
theorem d_Model_combines_42 : decode prog_13_method_95_code 42 = .ok (.iaload, 1) := by decide +kernel
theorem d_Model_combines_43 : decode prog_13_method_95_code 43 = .ok (.istore 5, 2) := by decide +kernel
theorem d_Model_combines_45 : decode prog_13_method_95_code 45 = .ok (.aload_n 0, 1) := by decide +kernel
theorem d_Model_combines_46 : decode prog_13_method_95_code 46 = .ok (.invokevirtual 437, 3) := by decide +kernel
theorem d_Model_combines_49 : decode prog_13_method_95_code 49 = .ok (.istore 6, 2) := by decide +kernel
theorem d_Model_combines_51 : decode prog_13_method_95_code 51 = .ok (.iconst 0, 1) := by decide +kernel
theorem d_Model_combines_52 : decode prog_13_method_95_code 52 = .ok (.istore 7, 2) := by decide +kernel
theorem d_Model_combines_54 : decode prog_13_method_95_code 54 = .ok (.iconst 0, 1) := by decide +kernel
theorem d_Model_combines_55 : decode prog_13_method_95_code 55 = .ok (.istore 8, 2) := by decide +kernel
theorem d_Model_combines_57 : decode prog_13_method_95_code 57 = .ok (.iload 8, 2) := by decide +kernel
theorem d_Model_combines_59 : decode prog_13_method_95_code 59 = .ok (.aload_n 0, 1) := by decide +kernel
theorem d_Model_combines_60 : decode prog_13_method_95_code 60 = .ok (.getfield 184, 3) := by decide +kernel
theorem d_Model_combines_63 : decode prog_13_method_95_code 63 = .ok (.aload_n 0, 1) := by decide +kernel
theorem d_Model_combines_64 : decode prog_13_method_95_code 64 = .ok (.getfield 434, 3) := by decide +kernel
theorem d_Model_combines_67 : decode prog_13_method_95_code 67 = .ok (.iconst 2, 1) := by decide +kernel
theorem d_Model_combines_68 : decode prog_13_method_95_code 68 = .ok (.isub, 1) := by decide +kernel
theorem d_Model_combines_69 : decode prog_13_method_95_code 69 = .ok (.iaload, 1) := by decide +kernel
theorem d_Model_combines_70 : decode prog_13_method_95_code 70 = .ok (.if_icmp .ge 126, 3) := by decide +kernel
theorem d_Model_combines_73 : decode prog_13_method_95_code 73 = .ok (.iload_n 2, 1) := by decide +kernel
theorem d_Model_combines_74 : decode prog_13_method_95_code 74 = .ok (.ifCond .eq 36, 3) := by decide +kernel
theorem d_Model_combines_77 : decode prog_13_method_95_code 77 = .ok (.aload_n 0, 1) := by decide +kernel
theorem d_Model_combines_78 : decode prog_13_method_95_code 78 = .ok (.iload 4, 2) := by decide +kernel
theorem d_Model_combines_80 : decode prog_13_method_95_code 80 = .ok (.aload_n 0, 1) := by decide +kernel
theorem d_Model_combines_81 : decode prog_13_method_95_code 81 = .ok (.getfield 184, 3) := by decide +kernel
theorem d_Model_combines_84 : decode prog_13_method_95_code 84 = .ok (.aload_n 0, 1) := by decide +kernel
theorem d_Model_combines_85 : decode prog_13_method_95_code 85 = .ok (.getfield 434, 3) := by decide +kernel
theorem d_Model_combines_88 : decode prog_13_method_95_code 88 = .ok (.iconst 1, 1) := by decide +kernel
theorem d_Model_combines_89 : decode prog_13_method_95_code 89 = .ok (.isub, 1) := by decide +kernel
theorem d_Model_combines_90 : decode prog_13_method_95_code 90 = .ok (.iaload, 1) := by decide +kernel
theorem d_Model_combines_91 : decode prog_13_method_95_code 91 = .ok (.iload 5, 2) := by decide +kernel
theorem d_Model_combines_93 : decode prog_13_method_95_code 93 = .ok (.iload_n 3, 1) := by decide +kernel
theorem d_Model_combines_94 : decode prog_13_method_95_code 94 = .ok (.iload 5, 2) := by decide +kernel
theorem d_Model_combines_96 : decode prog_13_method_95_code 96 = .ok (.iload 8, 2) := by decide +kernel
theorem d_Model_combines_98 : decode prog_13_method_95_code 98 = .ok (.imul, 1) := by decide +kernel
theorem d_Model_combines_99 : decode prog_13_method_95_code 99 = .ok (.iadd, 1) := by decide +kernel
theorem d_Model_combines_100 : decode prog_13_method_95_code 100 = .ok (.invokevirtual 460, 3) := by decide +kernel
theorem d_Model_combines_103 : decode prog_13_method_95_code 103 = .ok (.ifCond .eq 7, 3) := by decide +kernel
theorem d_Model_combines_106 : decode prog_13_method_95_code 106 = .ok (.iconst 1, 1) := by decide +kernel
theorem d_Model_combines_107 : decode prog_13_method_95_code 107 = .ok (.goto 4, 3) := by decide +kernel
theorem d_Model_combines_110 : decode prog_13_method_95_code 110 = .ok (.iconst 0, 1) := by decide +kernel
theorem d_Model_combines_111 : decode prog_13_method_95_code 111 = .ok (.istore 9, 2) := by decide +kernel
theorem d_Model_combines_113 : decode prog_13_method_95_code 113 = .ok (.iload_n 2, 1) := by decide +kernel
theorem d_Model_combines_114 : decode prog_13_method_95_code 114 = .ok (.ifCond .eq 18, 3) := by decide +kernel
theorem d_Model_combines_117 : decode prog_13_method_95_code 117 = .ok (.iload 9, 2) := by decide +kernel
theorem d_Model_combines_119 : decode prog_13_method_95_code 119 = .ok (.iload_n 2, 1) := by decide +kernel
theorem d_Model_combines_120 : decode prog_13_method_95_code 120 = .ok (.iconst 1, 1) := by decide +kernel
theorem d_Model_combines_121 : decode prog_13_method_95_code 121 = .ok (.if_icmp .ne 7, 3) := by decide +kernel
theorem d_Model_combines_124 : decode prog_13_method_95_code 124 = .ok (.iconst 1, 1) := by decide +kernel
theorem d_Model_combines_125 : decode prog_13_method_95_code 125 = .ok (.goto 4, 3) := by decide +kernel
theorem d_Model_combines_128 : decode prog_13_method_95_code 128 = .ok (.iconst 0, 1) := by decide +kernel
theorem d_Model_combines_129 : decode prog_13_method_95_code 129 = .ok (.if_icmp .ne 7, 3) := by decide +kernel
theorem d_Model_combines_132 : decode prog_13_method_95_code 132 = .ok (.iconst 1, 1) := by decide +kernel
theorem d_Model_combines_133 : decode prog_13_method_95_code 133 = .ok (.goto 4, 3) := by decide +kernel
theorem d_Model_combines_136 : decode prog_13_method_95_code 136 = .ok (.iconst 0, 1) := by decide +kernel
theorem d_Model_combines_137 : decode prog_13_method_95_code 137 = .ok (.istore 10, 2) := by decide +kernel
theorem d_Model_combines_139 : decode prog_13_method_95_code 139 = .ok (.iload 10, 2) := by decide +kernel
theorem d_Model_combines_141 : decode prog_13_method_95_code 141 = .ok (.ifCond .eq 49, 3) := by decide +kernel
theorem d_Model_combines_144 : decode prog_13_method_95_code 144 = .ok (.aload_n 0, 1) := by decide +kernel
theorem d_Model_combines_145 : decode prog_13_method_95_code 145 = .ok (.iload 6, 2) := by decide +kernel
theorem d_Model_combines_147 : decode prog_13_method_95_code 147 = .ok (.iload 7, 2) := by decide +kernel
theorem d_Model_combines_149 : decode prog_13_method_95_code 149 = .ok (.iload 5, 2) := by decide +kernel
theorem d_Model_combines_151 : decode prog_13_method_95_code 151 = .ok (.iload_n 3, 1) := by decide +kernel
theorem d_Model_combines_152 : decode prog_13_method_95_code 152 = .ok (.iload 5, 2) := by decide +kernel
theorem d_Model_combines_154 : decode prog_13_method_95_code 154 = .ok (.iload 8, 2) := by decide +kernel
theorem d_Model_combines_156 : decode prog_13_method_95_code 156 = .ok (.imul, 1) := by decide +kernel
theorem d_Model_combines_157 : decode prog_13_method_95_code 157 = .ok (.iadd, 1) := by decide +kernel
theorem d_Model_combines_158 : decode prog_13_method_95_code 158 = .ok (.invokevirtual 460, 3) := by decide +kernel
theorem d_Model_combines_161 : decode prog_13_method_95_code 161 = .ok (.ifCond .ne 29, 3) := by decide +kernel
theorem d_Model_combines_164 : decode prog_13_method_95_code 164 = .ok (.aload_n 0, 1) := by decide +kernel
theorem d_Model_combines_165 : decode prog_13_method_95_code 165 = .ok (.iload 6, 2) := by decide +kernel
theorem d_Model_combines_167 : decode prog_13_method_95_code 167 = .ok (.iload 5, 2) := by decide +kernel
theorem d_Model_combines_169 : decode prog_13_method_95_code 169 = .ok (.iload 7, 2) := by decide +kernel
theorem d_Model_combines_171 : decode prog_13_method_95_code 171 = .ok (.imul, 1) := by decide +kernel
theorem d_Model_combines_172 : decode prog_13_method_95_code 172 = .ok (.iadd, 1) := by decide +kernel
theorem d_Model_combines_173 : decode prog_13_method_95_code 173 = .ok (.iload_n 3, 1) := by decide +kernel
theorem d_Model_combines_174 : decode prog_13_method_95_code 174 = .ok (.iload 5, 2) := by decide +kernel
theorem d_Model_combines_176 : decode prog_13_method_95_code 176 = .ok (.iload 8, 2) := by decide +kernel
theorem d_Model_combines_178 : decode prog_13_method_95_code 178 = .ok (.imul, 1) := by decide +kernel
theorem d_Model_combines_179 : decode prog_13_method_95_code 179 = .ok (.iadd, 1) := by decide +kernel
theorem d_Model_combines_180 : decode prog_13_method_95_code 180 = .ok (.iload 5, 2) := by decide +kernel
theorem d_Model_combines_182 : decode prog_13_method_95_code 182 = .ok (.iconst (-1), 1) := by decide +kernel
theorem d_Model_combines_183 : decode prog_13_method_95_code 183 = .ok (.iconst 0, 1) := by decide +kernel
theorem d_Model_combines_184 : decode prog_13_method_95_code 184 = .ok (.invokevirtual 457, 3) := by decide +kernel
theorem d_Model_combines_187 : decode prog_13_method_95_code 187 = .ok (.iinc 7 1, 3) := by decide +kernel
theorem d_Model_combines_190 : decode prog_13_method_95_code 190 = .ok (.iinc 8 1, 3) := by decide +kernel
theorem d_Model_combines_193 : decode prog_13_method_95_code 193 = .ok (.goto (-136), 3) := by decide +kernel
theorem d_Model_combines_196 : decode prog_13_method_95_code 196 = .ok (.iconst 0, 1) := by decide +kernel
theorem d_Model_combines_197 : decode prog_13_method_95_code 197 = .ok (.istore 8, 2) := by decide +kernel
theorem d_Model_combines_199 : decode prog_13_method_95_code 199 = .ok (.iload 8, 2) := by decide +kernel
theorem d_Model_combines_201 : decode prog_13_method_95_code 201 = .ok (.aload_n 0, 1) := by decide +kernel
theorem d_Model_combines_202 : decode prog_13_method_95_code 202 = .ok (.getfield 184, 3) := by decide +kernel
theorem d_Model_combines_205 : decode prog_13_method_95_code 205 = .ok (.aload_n 0, 1) := by decide +kernel
theorem d_Model_combines_206 : decode prog_13_method_95_code 206 = .ok (.getfield 434, 3) := by decide +kernel
theorem d_Model_combines_209 : decode prog_13_method_95_code 209 = .ok (.iconst 1, 1) := by decide +kernel
theorem d_Model_combines_210 : decode prog_13_method_95_code 210 = .ok (.isub, 1) := by decide +kernel
theorem d_Model_combines_211 : decode prog_13_method_95_code 211 = .ok (.iaload, 1) := by decide +kernel
theorem d_Model_combines_212 : decode prog_13_method_95_code 212 = .ok (.if_icmp .ge 61, 3) := by decide +kernel
theorem d_Model_combines_215 : decode prog_13_method_95_code 215 = .ok (.iload_n 2, 1) := by decide +kernel
theorem d_Model_combines_216 : decode prog_13_method_95_code 216 = .ok (.ifCond .ne 57, 3) := by decide +kernel
theorem d_Model_combines_219 : decode prog_13_method_95_code 219 = .ok (.aload_n 0, 1) := by decide +kernel
theorem d_Model_combines_220 : decode prog_13_method_95_code 220 = .ok (.iload 6, 2) := by decide +kernel
theorem d_Model_combines_222 : decode prog_13_method_95_code 222 = .ok (.iload 7, 2) := by decide +kernel
theorem d_Model_combines_224 : decode prog_13_method_95_code 224 = .ok (.iload 5, 2) := by decide +kernel
theorem d_Model_combines_226 : decode prog_13_method_95_code 226 = .ok (.iload 4, 2) := by decide +kernel
theorem d_Model_combines_228 : decode prog_13_method_95_code 228 = .ok (.iload 5, 2) := by decide +kernel
theorem d_Model_combines_230 : decode prog_13_method_95_code 230 = .ok (.iload 8, 2) := by decide +kernel
theorem d_Model_combines_232 : decode prog_13_method_95_code 232 = .ok (.imul, 1) := by decide +kernel
theorem d_Model_combines_233 : decode prog_13_method_95_code 233 = .ok (.iadd, 1) := by decide +kernel
theorem d_Model_combines_234 : decode prog_13_method_95_code 234 = .ok (.invokevirtual 460, 3) := by decide +kernel
theorem d_Model_combines_237 : decode prog_13_method_95_code 237 = .ok (.ifCond .ne 30, 3) := by decide +kernel
theorem d_Model_combines_240 : decode prog_13_method_95_code 240 = .ok (.aload_n 0, 1) := by decide +kernel
theorem d_Model_combines_241 : decode prog_13_method_95_code 241 = .ok (.iload 6, 2) := by decide +kernel
theorem d_Model_combines_243 : decode prog_13_method_95_code 243 = .ok (.iload 5, 2) := by decide +kernel
theorem d_Model_combines_245 : decode prog_13_method_95_code 245 = .ok (.iload 7, 2) := by decide +kernel
theorem d_Model_combines_247 : decode prog_13_method_95_code 247 = .ok (.imul, 1) := by decide +kernel
theorem d_Model_combines_248 : decode prog_13_method_95_code 248 = .ok (.iadd, 1) := by decide +kernel
theorem d_Model_combines_249 : decode prog_13_method_95_code 249 = .ok (.iload 4, 2) := by decide +kernel
theorem d_Model_combines_251 : decode prog_13_method_95_code 251 = .ok (.iload 5, 2) := by decide +kernel
theorem d_Model_combines_253 : decode prog_13_method_95_code 253 = .ok (.iload 8, 2) := by decide +kernel
theorem d_Model_combines_255 : decode prog_13_method_95_code 255 = .ok (.imul, 1) := by decide +kernel
theorem d_Model_combines_256 : decode prog_13_method_95_code 256 = .ok (.iadd, 1) := by decide +kernel
theorem d_Model_combines_257 : decode prog_13_method_95_code 257 = .ok (.iload 5, 2) := by decide +kernel
theorem d_Model_combines_259 : decode prog_13_method_95_code 259 = .ok (.iconst (-1), 1) := by decide +kernel
theorem d_Model_combines_260 : decode prog_13_method_95_code 260 = .ok (.iconst 0, 1) := by decide +kernel
theorem d_Model_combines_261 : decode prog_13_method_95_code 261 = .ok (.invokevirtual 457, 3) := by decide +kernel
theorem d_Model_combines_264 : decode prog_13_method_95_code 264 = .ok (.iinc 7 1, 3) := by decide +kernel
theorem d_Model_combines_267 : decode prog_13_method_95_code 267 = .ok (.iinc 8 1, 3) := by decide +kernel
theorem d_Model_combines_270 : decode prog_13_method_95_code 270 = .ok (.goto (-71), 3) := by decide +kernel
theorem d_Model_combines_273 : decode prog_13_method_95_code 273 = .ok (.aload_n 0, 1) := by decide +kernel
theorem d_Model_combines_274 : decode prog_13_method_95_code 274 = .ok (.iload 6, 2) := by decide +kernel
theorem d_Model_combines_276 : decode prog_13_method_95_code 276 = .ok (.iload 7, 2) := by decide +kernel
theorem d_Model_combines_278 : decode prog_13_method_95_code 278 = .ok (.iload 5, 2) := by decide +kernel
theorem d_Model_combines_280 : decode prog_13_method_95_code 280 = .ok (.iconst 2, 1) := by decide +kernel
theorem d_Model_combines_281 : decode prog_13_method_95_code 281 = .ok (.invokevirtual 450, 3) := by decide +kernel
theorem d_Model_combines_284 : decode prog_13_method_95_code 284 = .ok (.return_, 1) := by decide +kernel
theorem d_Model_hasRow_0 : decode prog_13_method_94_code 0 = .ok (.iconst 0, 1) := by decide +kernel
theorem d_Model_hasRow_1 : decode prog_13_method_94_code 1 = .ok (.istore 5, 2) := by decide +kernel
theorem d_Model_hasRow_3 : decode prog_13_method_94_code 3 = .ok (.iload 5, 2) := by decide +kernel
theorem d_Model_hasRow_5 : decode prog_13_method_94_code 5 = .ok (.iload_n 2, 1) := by decide +kernel
theorem d_Model_hasRow_6 : decode prog_13_method_94_code 6 = .ok (.if_icmp .ge 73, 3) := by decide +kernel
theorem d_Model_hasRow_9 : decode prog_13_method_94_code 9 = .ok (.iconst 1, 1) := by decide +kernel
theorem d_Model_hasRow_10 : decode prog_13_method_94_code 10 = .ok (.istore 6, 2) := by decide +kernel
theorem d_Model_hasRow_12 : decode prog_13_method_94_code 12 = .ok (.iconst 0, 1) := by decide +kernel
theorem d_Model_hasRow_13 : decode prog_13_method_94_code 13 = .ok (.istore 7, 2) := by decide +kernel
theorem d_Model_hasRow_15 : decode prog_13_method_94_code 15 = .ok (.iload 7, 2) := by decide +kernel
theorem d_Model_hasRow_17 : decode prog_13_method_94_code 17 = .ok (.iload_n 3, 1) := by decide +kernel
theorem d_Model_hasRow_18 : decode prog_13_method_94_code 18 = .ok (.if_icmp .ge 48, 3) := by decide +kernel
theorem d_Model_hasRow_21 : decode prog_13_method_94_code 21 = .ok (.iload 6, 2) := by decide +kernel
theorem d_Model_hasRow_23 : decode prog_13_method_94_code 23 = .ok (.ifCond .eq 43, 3) := by decide +kernel
theorem d_Model_hasRow_26 : decode prog_13_method_94_code 26 = .ok (.aload_n 0, 1) := by decide +kernel
theorem d_Model_hasRow_27 : decode prog_13_method_94_code 27 = .ok (.getfield 178, 3) := by decide +kernel
theorem d_Model_hasRow_30 : decode prog_13_method_94_code 30 = .ok (.iload_n 1, 1) := by decide +kernel
theorem d_Model_hasRow_31 : decode prog_13_method_94_code 31 = .ok (.iload_n 3, 1) := by decide +kernel
theorem d_Model_hasRow_32 : decode prog_13_method_94_code 32 = .ok (.iload 5, 2) := by decide +kernel
theorem d_Model_hasRow_34 : decode prog_13_method_94_code 34 = .ok (.imul, 1) := by decide +kernel
theorem d_Model_hasRow_35 : decode prog_13_method_94_code 35 = .ok (.iadd, 1) := by decide +kernel
theorem d_Model_hasRow_36 : decode prog_13_method_94_code 36 = .ok (.iload 7, 2) := by decide +kernel
theorem d_Model_hasRow_38 : decode prog_13_method_94_code 38 = .ok (.iadd, 1) := by decide +kernel
theorem d_Model_hasRow_39 : decode prog_13_method_94_code 39 = .ok (.iaload, 1) := by decide +kernel
theorem d_Model_hasRow_40 : decode prog_13_method_94_code 40 = .ok (.aload_n 0, 1) := by decide +kernel
theorem d_Model_hasRow_41 : decode prog_13_method_94_code 41 = .ok (.getfield 178, 3) := by decide +kernel
theorem d_Model_hasRow_44 : decode prog_13_method_94_code 44 = .ok (.iload 4, 2) := by decide +kernel
theorem d_Model_hasRow_46 : decode prog_13_method_94_code 46 = .ok (.iload 7, 2) := by decide +kernel
theorem d_Model_hasRow_48 : decode prog_13_method_94_code 48 = .ok (.iadd, 1) := by decide +kernel
theorem d_Model_hasRow_49 : decode prog_13_method_94_code 49 = .ok (.iaload, 1) := by decide +kernel
theorem d_Model_hasRow_50 : decode prog_13_method_94_code 50 = .ok (.if_icmp .ne 7, 3) := by decide +kernel
theorem d_Model_hasRow_53 : decode prog_13_method_94_code 53 = .ok (.iconst 1, 1) := by decide +kernel
theorem d_Model_hasRow_54 : decode prog_13_method_94_code 54 = .ok (.goto 4, 3) := by decide +kernel
theorem d_Model_hasRow_57 : decode prog_13_method_94_code 57 = .ok (.iconst 0, 1) := by decide +kernel
theorem d_Model_hasRow_58 : decode prog_13_method_94_code 58 = .ok (.istore 6, 2) := by decide +kernel
theorem d_Model_hasRow_60 : decode prog_13_method_94_code 60 = .ok (.iinc 7 1, 3) := by decide +kernel
theorem d_Model_hasRow_63 : decode prog_13_method_94_code 63 = .ok (.goto (-48), 3) := by decide +kernel
theorem d_Model_hasRow_66 : decode prog_13_method_94_code 66 = .ok (.iload 6, 2) := by decide +kernel
theorem d_Model_hasRow_68 : decode prog_13_method_94_code 68 = .ok (.ifCond .eq 5, 3) := by decide +kernel
theorem d_Model_hasRow_71 : decode prog_13_method_94_code 71 = .ok (.iconst 1, 1) := by decide +kernel
theorem d_Model_hasRow_72 : decode prog_13_method_94_code 72 = .ok (.ireturn, 1) := by decide +kernel
theorem d_Model_hasRow_73 : decode prog_13_method_94_code 73 = .ok (.iinc 5 1, 3) := by decide +kernel
theorem d_Model_hasRow_76 : decode prog_13_method_94_code 76 = .ok (.goto (-73), 3) := by decide +kernel
theorem d_Model_hasRow_79 : decode prog_13_method_94_code 79 = .ok (.iconst 0, 1) := by decide +kernel
theorem d_Model_hasRow_80 : decode prog_13_method_94_code 80 = .ok (.ireturn, 1) := by decide +kernel
theorem d_Model_sorts_0 : decode prog_13_method_97_code 0 = .ok (.aload_n 0, 1) := by decide +kernel
theorem d_Model_sorts_1 : decode prog_13_method_97_code 1 = .ok (.getfield 187, 3) := by decide +kernel
theorem d_Model_sorts_4 : decode prog_13_method_97_code 4 = .ok (.iconst 0, 1) := by decide +kernel
theorem d_Model_sorts_5 : decode prog_13_method_97_code 5 = .ok (.iaload, 1) := by decide +kernel
theorem d_Model_sorts_6 : decode prog_13_method_97_code 6 = .ok (.istore_n 1, 1) := by decide +kernel
theorem d_Model_sorts_7 : decode prog_13_method_97_code 7 = .ok (.aload_n 0, 1) := by decide +kernel
theorem d_Model_sorts_8 : decode prog_13_method_97_code 8 = .ok (.getfield 184, 3) := by decide +kernel
theorem d_Model_sorts_11 : decode prog_13_method_97_code 11 = .ok (.iconst 0, 1) := by decide +kernel
theorem d_Model_sorts_12 : decode prog_13_method_97_code 12 = .ok (.iaload, 1) := by decide +kernel
theorem d_Model_sorts_13 : decode prog_13_method_97_code 13 = .ok (.istore_n 2, 1) := by decide +kernel
theorem d_Model_sorts_14 : decode prog_13_method_97_code 14 = .ok (.iload_n 1, 1) := by decide +kernel
theorem d_Model_sorts_15 : decode prog_13_method_97_code 15 = .ok (.iload_n 2, 1) := by decide +kernel
theorem d_Model_sorts_16 : decode prog_13_method_97_code 16 = .ok (.imul, 1) := by decide +kernel
theorem d_Model_sorts_17 : decode prog_13_method_97_code 17 = .ok (.istore_n 3, 1) := by decide +kernel
theorem d_Model_sorts_18 : decode prog_13_method_97_code 18 = .ok (.iload_n 2, 1) := by decide +kernel
theorem d_Model_sorts_19 : decode prog_13_method_97_code 19 = .ok (.iconst 2, 1) := by decide +kernel
theorem d_Model_sorts_20 : decode prog_13_method_97_code 20 = .ok (.idiv, 1) := by decide +kernel
theorem d_Model_sorts_21 : decode prog_13_method_97_code 21 = .ok (.istore 4, 2) := by decide +kernel
theorem d_Model_sorts_23 : decode prog_13_method_97_code 23 = .ok (.iload 4, 2) := by decide +kernel
theorem d_Model_sorts_25 : decode prog_13_method_97_code 25 = .ok (.ifCond .le 179, 3) := by decide +kernel
theorem d_Model_sorts_28 : decode prog_13_method_97_code 28 = .ok (.iload 4, 2) := by decide +kernel
theorem d_Model_sorts_30 : decode prog_13_method_97_code 30 = .ok (.istore 5, 2) := by decide +kernel
theorem d_Model_sorts_32 : decode prog_13_method_97_code 32 = .ok (.iload 5, 2) := by decide +kernel
theorem d_Model_sorts_34 : decode prog_13_method_97_code 34 = .ok (.iload_n 2, 1) := by decide +kernel
theorem d_Model_sorts_35 : decode prog_13_method_97_code 35 = .ok (.if_icmp .ge 160, 3) := by decide +kernel
theorem d_Model_sorts_38 : decode prog_13_method_97_code 38 = .ok (.iconst 0, 1) := by decide +kernel
theorem d_Model_sorts_39 : decode prog_13_method_97_code 39 = .ok (.istore 6, 2) := by decide +kernel
theorem d_Model_sorts_41 : decode prog_13_method_97_code 41 = .ok (.iload 6, 2) := by decide +kernel
theorem d_Model_sorts_43 : decode prog_13_method_97_code 43 = .ok (.iload_n 1, 1) := by decide +kernel
theorem d_Model_sorts_44 : decode prog_13_method_97_code 44 = .ok (.if_icmp .ge 30, 3) := by decide +kernel
theorem d_Model_sorts_47 : decode prog_13_method_97_code 47 = .ok (.aload_n 0, 1) := by decide +kernel
theorem d_Model_sorts_48 : decode prog_13_method_97_code 48 = .ok (.getfield 178, 3) := by decide +kernel
theorem d_Model_sorts_51 : decode prog_13_method_97_code 51 = .ok (.iload_n 3, 1) := by decide +kernel
theorem d_Model_sorts_52 : decode prog_13_method_97_code 52 = .ok (.iload 6, 2) := by decide +kernel
theorem d_Model_sorts_54 : decode prog_13_method_97_code 54 = .ok (.iadd, 1) := by decide +kernel
theorem d_Model_sorts_55 : decode prog_13_method_97_code 55 = .ok (.aload_n 0, 1) := by decide +kernel
theorem d_Model_sorts_56 : decode prog_13_method_97_code 56 = .ok (.getfield 178, 3) := by decide +kernel
theorem d_Model_sorts_59 : decode prog_13_method_97_code 59 = .ok (.iload_n 1, 1) := by decide +kernel
theorem d_Model_sorts_60 : decode prog_13_method_97_code 60 = .ok (.iload 5, 2) := by decide +kernel
theorem d_Model_sorts_62 : decode prog_13_method_97_code 62 = .ok (.imul, 1) := by decide +kernel
theorem d_Model_sorts_63 : decode prog_13_method_97_code 63 = .ok (.iload 6, 2) := by decide +kernel
theorem d_Model_sorts_65 : decode prog_13_method_97_code 65 = .ok (.iadd, 1) := by decide +kernel
theorem d_Model_sorts_66 : decode prog_13_method_97_code 66 = .ok (.iaload, 1) := by decide +kernel
theorem d_Model_sorts_67 : decode prog_13_method_97_code 67 = .ok (.iastore, 1) := by decide +kernel
theorem d_Model_sorts_68 : decode prog_13_method_97_code 68 = .ok (.iinc 6 1, 3) := by decide +kernel
theorem d_Model_sorts_71 : decode prog_13_method_97_code 71 = .ok (.goto (-30), 3) := by decide +kernel
theorem d_Model_sorts_74 : decode prog_13_method_97_code 74 = .ok (.iload 5, 2) := by decide +kernel
theorem d_Model_sorts_76 : decode prog_13_method_97_code 76 = .ok (.istore 6, 2) := by decide +kernel
theorem d_Model_sorts_78 : decode prog_13_method_97_code 78 = .ok (.iload 6, 2) := by decide +kernel
theorem d_Model_sorts_80 : decode prog_13_method_97_code 80 = .ok (.iload 4, 2) := by decide +kernel
theorem d_Model_sorts_82 : decode prog_13_method_97_code 82 = .ok (.if_icmp .lt 71, 3) := by decide +kernel
theorem d_Model_sorts_85 : decode prog_13_method_97_code 85 = .ok (.aload_n 0, 1) := by decide +kernel
theorem d_Model_sorts_86 : decode prog_13_method_97_code 86 = .ok (.iload_n 3, 1) := by decide +kernel
theorem d_Model_sorts_87 : decode prog_13_method_97_code 87 = .ok (.iload_n 1, 1) := by decide +kernel
theorem d_Model_sorts_88 : decode prog_13_method_97_code 88 = .ok (.iload 6, 2) := by decide +kernel
theorem d_Model_sorts_90 : decode prog_13_method_97_code 90 = .ok (.iload 4, 2) := by decide +kernel
theorem d_Model_sorts_92 : decode prog_13_method_97_code 92 = .ok (.isub, 1) := by decide +kernel
theorem d_Model_sorts_93 : decode prog_13_method_97_code 93 = .ok (.imul, 1) := by decide +kernel
theorem d_Model_sorts_94 : decode prog_13_method_97_code 94 = .ok (.iload_n 1, 1) := by decide +kernel
theorem d_Model_sorts_95 : decode prog_13_method_97_code 95 = .ok (.invokevirtual 463, 3) := by decide +kernel
theorem d_Model_sorts_98 : decode prog_13_method_97_code 98 = .ok (.ifCond .eq 55, 3) := by decide +kernel
theorem d_Model_sorts_101 : decode prog_13_method_97_code 101 = .ok (.iconst 0, 1) := by decide +kernel
theorem d_Model_sorts_102 : decode prog_13_method_97_code 102 = .ok (.istore 7, 2) := by decide +kernel
theorem d_Model_sorts_104 : decode prog_13_method_97_code 104 = .ok (.iload 7, 2) := by decide +kernel
theorem d_Model_sorts_106 : decode prog_13_method_97_code 106 = .ok (.iload_n 1, 1) := by decide +kernel
theorem d_Model_sorts_107 : decode prog_13_method_97_code 107 = .ok (.if_icmp .ge 36, 3) := by decide +kernel
theorem d_Model_sorts_110 : decode prog_13_method_97_code 110 = .ok (.aload_n 0, 1) := by decide +kernel
theorem d_Model_sorts_111 : decode prog_13_method_97_code 111 = .ok (.getfield 178, 3) := by decide +kernel
theorem d_Model_sorts_114 : decode prog_13_method_97_code 114 = .ok (.iload_n 1, 1) := by decide +kernel
theorem d_Model_sorts_115 : decode prog_13_method_97_code 115 = .ok (.iload 6, 2) := by decide +kernel
theorem d_Model_sorts_117 : decode prog_13_method_97_code 117 = .ok (.imul, 1) := by decide +kernel
theorem d_Model_sorts_118 : decode prog_13_method_97_code 118 = .ok (.iload 7, 2) := by decide +kernel
theorem d_Model_sorts_120 : decode prog_13_method_97_code 120 = .ok (.iadd, 1) := by decide +kernel
theorem d_Model_sorts_121 : decode prog_13_method_97_code 121 = .ok (.aload_n 0, 1) := by decide +kernel
theorem d_Model_sorts_122 : decode prog_13_method_97_code 122 = .ok (.getfield 178, 3) := by decide +kernel
theorem d_Model_sorts_125 : decode prog_13_method_97_code 125 = .ok (.iload_n 1, 1) := by decide +kernel
theorem d_Model_sorts_126 : decode prog_13_method_97_code 126 = .ok (.iload 6, 2) := by decide +kernel
theorem d_Model_sorts_128 : decode prog_13_method_97_code 128 = .ok (.iload 4, 2) := by decide +kernel
theorem d_Model_sorts_130 : decode prog_13_method_97_code 130 = .ok (.isub, 1) := by decide +kernel
theorem d_Model_sorts_131 : decode prog_13_method_97_code 131 = .ok (.imul, 1) := by decide +kernel
theorem d_Model_sorts_132 : decode prog_13_method_97_code 132 = .ok (.iload 7, 2) := by decide +kernel
theorem d_Model_sorts_134 : decode prog_13_method_97_code 134 = .ok (.iadd, 1) := by decide +kernel
theorem d_Model_sorts_135 : decode prog_13_method_97_code 135 = .ok (.iaload, 1) := by decide +kernel
theorem d_Model_sorts_136 : decode prog_13_method_97_code 136 = .ok (.iastore, 1) := by decide +kernel
theorem d_Model_sorts_137 : decode prog_13_method_97_code 137 = .ok (.iinc 7 1, 3) := by decide +kernel
theorem d_Model_sorts_140 : decode prog_13_method_97_code 140 = .ok (.goto (-36), 3) := by decide +kernel
theorem d_Model_sorts_143 : decode prog_13_method_97_code 143 = .ok (.iload 6, 2) := by decide +kernel
theorem d_Model_sorts_145 : decode prog_13_method_97_code 145 = .ok (.iload 4, 2) := by decide +kernel
theorem d_Model_sorts_147 : decode prog_13_method_97_code 147 = .ok (.isub, 1) := by decide +kernel
theorem d_Model_sorts_148 : decode prog_13_method_97_code 148 = .ok (.istore 6, 2) := by decide +kernel
theorem d_Model_sorts_150 : decode prog_13_method_97_code 150 = .ok (.goto (-72), 3) := by decide +kernel
theorem d_Model_sorts_153 : decode prog_13_method_97_code 153 = .ok (.iconst 0, 1) := by decide +kernel
theorem d_Model_sorts_154 : decode prog_13_method_97_code 154 = .ok (.istore 7, 2) := by decide +kernel
theorem d_Model_sorts_156 : decode prog_13_method_97_code 156 = .ok (.iload 7, 2) := by decide +kernel
theorem d_Model_sorts_158 : decode prog_13_method_97_code 158 = .ok (.iload_n 1, 1) := by decide +kernel
theorem d_Model_sorts_159 : decode prog_13_method_97_code 159 = .ok (.if_icmp .ge 30, 3) := by decide +kernel
theorem d_Model_sorts_162 : decode prog_13_method_97_code 162 = .ok (.aload_n 0, 1) := by decide +kernel
theorem d_Model_sorts_163 : decode prog_13_method_97_code 163 = .ok (.getfield 178, 3) := by decide +kernel
theorem d_Model_sorts_166 : decode prog_13_method_97_code 166 = .ok (.iload_n 1, 1) := by decide +kernel
theorem d_Model_sorts_167 : decode prog_13_method_97_code 167 = .ok (.iload 6, 2) := by decide +kernel
theorem d_Model_sorts_169 : decode prog_13_method_97_code 169 = .ok (.imul, 1) := by decide +kernel
theorem d_Model_sorts_170 : decode prog_13_method_97_code 170 = .ok (.iload 7, 2) := by decide +kernel
theorem d_Model_sorts_172 : decode prog_13_method_97_code 172 = .ok (.iadd, 1) := by decide +kernel
theorem d_Model_sorts_173 : decode prog_13_method_97_code 173 = .ok (.aload_n 0, 1) := by decide +kernel
theorem d_Model_sorts_174 : decode prog_13_method_97_code 174 = .ok (.getfield 178, 3) := by decide +kernel
theorem d_Model_sorts_177 : decode prog_13_method_97_code 177 = .ok (.iload_n 3, 1) := by decide +kernel
theorem d_Model_sorts_178 : decode prog_13_method_97_code 178 = .ok (.iload 7, 2) := by decide +kernel
theorem d_Model_sorts_180 : decode prog_13_method_97_code 180 = .ok (.iadd, 1) := by decide +kernel
theorem d_Model_sorts_181 : decode prog_13_method_97_code 181 = .ok (.iaload, 1) := by decide +kernel
theorem d_Model_sorts_182 : decode prog_13_method_97_code 182 = .ok (.iastore, 1) := by decide +kernel
theorem d_Model_sorts_183 : decode prog_13_method_97_code 183 = .ok (.iinc 7 1, 3) := by decide +kernel
theorem d_Model_sorts_186 : decode prog_13_method_97_code 186 = .ok (.goto (-30), 3) := by decide +kernel
theorem d_Model_sorts_189 : decode prog_13_method_97_code 189 = .ok (.iinc 5 1, 3) := by decide +kernel
theorem d_Model_sorts_192 : decode prog_13_method_97_code 192 = .ok (.goto (-160), 3) := by decide +kernel
theorem d_Model_sorts_195 : decode prog_13_method_97_code 195 = .ok (.iload 4, 2) := by decide +kernel
theorem d_Model_sorts_197 : decode prog_13_method_97_code 197 = .ok (.iconst 2, 1) := by decide +kernel
theorem d_Model_sorts_198 : decode prog_13_method_97_code 198 = .ok (.idiv, 1) := by decide +kernel
theorem d_Model_sorts_199 : decode prog_13_method_97_code 199 = .ok (.istore 4, 2) := by decide +kernel
theorem d_Model_sorts_201 : decode prog_13_method_97_code 201 = .ok (.goto (-178), 3) := by decide +kernel
theorem d_Model_sorts_204 : decode prog_13_method_97_code 204 = .ok (.return_, 1) := by decide +kernel
theorem d_Model_isAhead_0 : decode prog_13_method_96_code 0 = .ok (.iconst 0, 1) := by decide +kernel
theorem d_Model_isAhead_1 : decode prog_13_method_96_code 1 = .ok (.istore 4, 2) := by decide +kernel
theorem d_Model_isAhead_3 : decode prog_13_method_96_code 3 = .ok (.iload 4, 2) := by decide +kernel
theorem d_Model_isAhead_5 : decode prog_13_method_96_code 5 = .ok (.iload_n 3, 1) := by decide +kernel
theorem d_Model_isAhead_6 : decode prog_13_method_96_code 6 = .ok (.if_icmp .ge 57, 3) := by decide +kernel
theorem d_Model_isAhead_9 : decode prog_13_method_96_code 9 = .ok (.aload_n 0, 1) := by decide +kernel
theorem d_Model_isAhead_10 : decode prog_13_method_96_code 10 = .ok (.getfield 178, 3) := by decide +kernel
theorem d_Model_isAhead_13 : decode prog_13_method_96_code 13 = .ok (.iload_n 1, 1) := by decide +kernel
theorem d_Model_isAhead_14 : decode prog_13_method_96_code 14 = .ok (.iload 4, 2) := by decide +kernel
theorem d_Model_isAhead_16 : decode prog_13_method_96_code 16 = .ok (.iadd, 1) := by decide +kernel
theorem d_Model_isAhead_17 : decode prog_13_method_96_code 17 = .ok (.iaload, 1) := by decide +kernel
theorem d_Model_isAhead_18 : decode prog_13_method_96_code 18 = .ok (.aload_n 0, 1) := by decide +kernel
theorem d_Model_isAhead_19 : decode prog_13_method_96_code 19 = .ok (.getfield 178, 3) := by decide +kernel
theorem d_Model_isAhead_22 : decode prog_13_method_96_code 22 = .ok (.iload_n 2, 1) := by decide +kernel
theorem d_Model_isAhead_23 : decode prog_13_method_96_code 23 = .ok (.iload 4, 2) := by decide +kernel
theorem d_Model_isAhead_25 : decode prog_13_method_96_code 25 = .ok (.iadd, 1) := by decide +kernel
theorem d_Model_isAhead_26 : decode prog_13_method_96_code 26 = .ok (.iaload, 1) := by decide +kernel
theorem d_Model_isAhead_27 : decode prog_13_method_96_code 27 = .ok (.if_icmp .eq 30, 3) := by decide +kernel
theorem d_Model_isAhead_30 : decode prog_13_method_96_code 30 = .ok (.aload_n 0, 1) := by decide +kernel
theorem d_Model_isAhead_31 : decode prog_13_method_96_code 31 = .ok (.getfield 178, 3) := by decide +kernel
theorem d_Model_isAhead_34 : decode prog_13_method_96_code 34 = .ok (.iload_n 1, 1) := by decide +kernel
theorem d_Model_isAhead_35 : decode prog_13_method_96_code 35 = .ok (.iload 4, 2) := by decide +kernel
theorem d_Model_isAhead_37 : decode prog_13_method_96_code 37 = .ok (.iadd, 1) := by decide +kernel
theorem d_Model_isAhead_38 : decode prog_13_method_96_code 38 = .ok (.iaload, 1) := by decide +kernel
theorem d_Model_isAhead_39 : decode prog_13_method_96_code 39 = .ok (.aload_n 0, 1) := by decide +kernel
theorem d_Model_isAhead_40 : decode prog_13_method_96_code 40 = .ok (.getfield 178, 3) := by decide +kernel
theorem d_Model_isAhead_43 : decode prog_13_method_96_code 43 = .ok (.iload_n 2, 1) := by decide +kernel
theorem d_Model_isAhead_44 : decode prog_13_method_96_code 44 = .ok (.iload 4, 2) := by decide +kernel
theorem d_Model_isAhead_46 : decode prog_13_method_96_code 46 = .ok (.iadd, 1) := by decide +kernel
theorem d_Model_isAhead_47 : decode prog_13_method_96_code 47 = .ok (.iaload, 1) := by decide +kernel
theorem d_Model_isAhead_48 : decode prog_13_method_96_code 48 = .ok (.if_icmp .ge 7, 3) := by decide +kernel
theorem d_Model_isAhead_51 : decode prog_13_method_96_code 51 = .ok (.iconst 1, 1) := by decide +kernel
theorem d_Model_isAhead_52 : decode prog_13_method_96_code 52 = .ok (.goto 4, 3) := by decide +kernel
theorem d_Model_isAhead_55 : decode prog_13_method_96_code 55 = .ok (.iconst 0, 1) := by decide +kernel
theorem d_Model_isAhead_56 : decode prog_13_method_96_code 56 = .ok (.ireturn, 1) := by decide +kernel
theorem d_Model_isAhead_57 : decode prog_13_method_96_code 57 = .ok (.iinc 4 1, 3) := by decide +kernel
theorem d_Model_isAhead_60 : decode prog_13_method_96_code 60 = .ok (.goto (-57), 3) := by decide +kernel
theorem d_Model_isAhead_63 : decode prog_13_method_96_code 63 = .ok (.iconst 0, 1) := by decide +kernel
theorem d_Model_isAhead_64 : decode prog_13_method_96_code 64 = .ok (.ireturn, 1) := by decide +kernel
theorem d_Model_readsAll_0 : decode prog_13_method_99_code 0 = .ok (.iload_n 2, 1) := by decide +kernel
theorem d_Model_readsAll_1 : decode prog_13_method_99_code 1 = .ok (.invokestatic 431, 3) := by decide +kernel
theorem d_Model_readsAll_4 : decode prog_13_method_99_code 4 = .ok (.aload_n 0, 1) := by decide +kernel
theorem d_Model_readsAll_5 : decode prog_13_method_99_code 5 = .ok (.getfield 159, 3) := by decide +kernel
theorem d_Model_readsAll_8 : decode prog_13_method_99_code 8 = .ok (.iload_n 2, 1) := by decide +kernel
theorem d_Model_readsAll_9 : decode prog_13_method_99_code 9 = .ok (.iaload, 1) := by decide +kernel
theorem d_Model_readsAll_10 : decode prog_13_method_99_code 10 = .ok (.iadd, 1) := by decide +kernel
theorem d_Model_readsAll_11 : decode prog_13_method_99_code 11 = .ok (.istore_n 3, 1) := by decide +kernel
theorem d_Model_readsAll_12 : decode prog_13_method_99_code 12 = .ok (.iload_n 2, 1) := by decide +kernel
theorem d_Model_readsAll_13 : decode prog_13_method_99_code 13 = .ok (.invokestatic 431, 3) := by decide +kernel
theorem d_Model_readsAll_16 : decode prog_13_method_99_code 16 = .ok (.istore 4, 2) := by decide +kernel
theorem d_Model_readsAll_18 : decode prog_13_method_99_code 18 = .ok (.iload 4, 2) := by decide +kernel
theorem d_Model_readsAll_20 : decode prog_13_method_99_code 20 = .ok (.iload_n 3, 1) := by decide +kernel
theorem d_Model_readsAll_21 : decode prog_13_method_99_code 21 = .ok (.if_icmp .ge 147, 3) := by decide +kernel
theorem d_Model_readsAll_24 : decode prog_13_method_99_code 24 = .ok (.aload_n 0, 1) := by decide +kernel
theorem d_Model_readsAll_25 : decode prog_13_method_99_code 25 = .ok (.getfield 144, 3) := by decide +kernel
theorem d_Model_readsAll_28 : decode prog_13_method_99_code 28 = .ok (.iload 4, 2) := by decide +kernel
theorem d_Model_readsAll_30 : decode prog_13_method_99_code 30 = .ok (.iaload, 1) := by decide +kernel
theorem d_Model_readsAll_31 : decode prog_13_method_99_code 31 = .ok (.ifCond .ne 131, 3) := by decide +kernel
theorem d_Model_readsAll_34 : decode prog_13_method_99_code 34 = .ok (.iload 4, 2) := by decide +kernel
theorem d_Model_readsAll_36 : decode prog_13_method_99_code 36 = .ok (.iconst 1, 1) := by decide +kernel
theorem d_Model_readsAll_37 : decode prog_13_method_99_code 37 = .ok (.iadd, 1) := by decide +kernel
theorem d_Model_readsAll_38 : decode prog_13_method_99_code 38 = .ok (.istore 5, 2) := by decide +kernel
theorem d_Model_readsAll_40 : decode prog_13_method_99_code 40 = .ok (.iload 5, 2) := by decide +kernel
theorem d_Model_readsAll_42 : decode prog_13_method_99_code 42 = .ok (.iload_n 3, 1) := by decide +kernel
theorem d_Model_readsAll_43 : decode prog_13_method_99_code 43 = .ok (.if_icmp .ge 62, 3) := by decide +kernel
theorem d_Model_readsAll_46 : decode prog_13_method_99_code 46 = .ok (.aload_n 0, 1) := by decide +kernel
theorem d_Model_readsAll_47 : decode prog_13_method_99_code 47 = .ok (.getfield 144, 3) := by decide +kernel
theorem d_Model_readsAll_50 : decode prog_13_method_99_code 50 = .ok (.iload 5, 2) := by decide +kernel
theorem d_Model_readsAll_52 : decode prog_13_method_99_code 52 = .ok (.iaload, 1) := by decide +kernel
theorem d_Model_readsAll_53 : decode prog_13_method_99_code 53 = .ok (.iconst 2, 1) := by decide +kernel
theorem d_Model_readsAll_54 : decode prog_13_method_99_code 54 = .ok (.if_icmp .eq 45, 3) := by decide +kernel
theorem d_Model_readsAll_57 : decode prog_13_method_99_code 57 = .ok (.aload_n 0, 1) := by decide +kernel
theorem d_Model_readsAll_58 : decode prog_13_method_99_code 58 = .ok (.getfield 144, 3) := by decide +kernel
theorem d_Model_readsAll_61 : decode prog_13_method_99_code 61 = .ok (.iload 5, 2) := by decide +kernel
theorem d_Model_readsAll_63 : decode prog_13_method_99_code 63 = .ok (.iaload, 1) := by decide +kernel
theorem d_Model_readsAll_64 : decode prog_13_method_99_code 64 = .ok (.iconst 1, 1) := by decide +kernel
theorem d_Model_readsAll_65 : decode prog_13_method_99_code 65 = .ok (.if_icmp .ne 40, 3) := by decide +kernel
theorem d_Model_readsAll_68 : decode prog_13_method_99_code 68 = .ok (.aload_n 0, 1) := by decide +kernel
theorem d_Model_readsAll_69 : decode prog_13_method_99_code 69 = .ok (.getfield 147, 3) := by decide +kernel
theorem d_Model_readsAll_72 : decode prog_13_method_99_code 72 = .ok (.iload 5, 2) := by decide +kernel
theorem d_Model_readsAll_74 : decode prog_13_method_99_code 74 = .ok (.iaload, 1) := by decide +kernel
theorem d_Model_readsAll_75 : decode prog_13_method_99_code 75 = .ok (.ifCond .gt 24, 3) := by decide +kernel
theorem d_Model_readsAll_78 : decode prog_13_method_99_code 78 = .ok (.aload_n 0, 1) := by decide +kernel
theorem d_Model_readsAll_79 : decode prog_13_method_99_code 79 = .ok (.getfield 150, 3) := by decide +kernel
theorem d_Model_readsAll_82 : decode prog_13_method_99_code 82 = .ok (.iload 5, 2) := by decide +kernel
theorem d_Model_readsAll_84 : decode prog_13_method_99_code 84 = .ok (.iaload, 1) := by decide +kernel
theorem d_Model_readsAll_85 : decode prog_13_method_99_code 85 = .ok (.iconst 1, 1) := by decide +kernel
theorem d_Model_readsAll_86 : decode prog_13_method_99_code 86 = .ok (.if_icmp .ne 13, 3) := by decide +kernel
theorem d_Model_readsAll_89 : decode prog_13_method_99_code 89 = .ok (.aload_n 0, 1) := by decide +kernel
theorem d_Model_readsAll_90 : decode prog_13_method_99_code 90 = .ok (.getfield 156, 3) := by decide +kernel
theorem d_Model_readsAll_93 : decode prog_13_method_99_code 93 = .ok (.iload 5, 2) := by decide +kernel
theorem d_Model_readsAll_95 : decode prog_13_method_99_code 95 = .ok (.baload, 1) := by decide +kernel
theorem d_Model_readsAll_96 : decode prog_13_method_99_code 96 = .ok (.ifCond .eq 9, 3) := by decide +kernel
theorem d_Model_readsAll_99 : decode prog_13_method_99_code 99 = .ok (.iinc 5 1, 3) := by decide +kernel
theorem d_Model_readsAll_102 : decode prog_13_method_99_code 102 = .ok (.goto (-62), 3) := by decide +kernel
theorem d_Model_readsAll_105 : decode prog_13_method_99_code 105 = .ok (.iload 5, 2) := by decide +kernel
theorem d_Model_readsAll_107 : decode prog_13_method_99_code 107 = .ok (.iload_n 3, 1) := by decide +kernel
theorem d_Model_readsAll_108 : decode prog_13_method_99_code 108 = .ok (.if_icmp .ge 36, 3) := by decide +kernel
theorem d_Model_readsAll_111 : decode prog_13_method_99_code 111 = .ok (.aload_n 0, 1) := by decide +kernel
theorem d_Model_readsAll_112 : decode prog_13_method_99_code 112 = .ok (.getfield 144, 3) := by decide +kernel
theorem d_Model_readsAll_115 : decode prog_13_method_99_code 115 = .ok (.iload 5, 2) := by decide +kernel
theorem d_Model_readsAll_117 : decode prog_13_method_99_code 117 = .ok (.iaload, 1) := by decide +kernel
theorem d_Model_readsAll_118 : decode prog_13_method_99_code 118 = .ok (.iconst 1, 1) := by decide +kernel
theorem d_Model_readsAll_119 : decode prog_13_method_99_code 119 = .ok (.if_icmp .ne 25, 3) := by decide +kernel
theorem d_Model_readsAll_122 : decode prog_13_method_99_code 122 = .ok (.aload_n 0, 1) := by decide +kernel
theorem d_Model_readsAll_123 : decode prog_13_method_99_code 123 = .ok (.iload_n 1, 1) := by decide +kernel
theorem d_Model_readsAll_124 : decode prog_13_method_99_code 124 = .ok (.aload_n 0, 1) := by decide +kernel
theorem d_Model_readsAll_125 : decode prog_13_method_99_code 125 = .ok (.getfield 147, 3) := by decide +kernel
theorem d_Model_readsAll_128 : decode prog_13_method_99_code 128 = .ok (.iload 4, 2) := by decide +kernel
theorem d_Model_readsAll_130 : decode prog_13_method_99_code 130 = .ok (.iaload, 1) := by decide +kernel
theorem d_Model_readsAll_131 : decode prog_13_method_99_code 131 = .ok (.aload_n 0, 1) := by decide +kernel
theorem d_Model_readsAll_132 : decode prog_13_method_99_code 132 = .ok (.getfield 153, 3) := by decide +kernel
theorem d_Model_readsAll_135 : decode prog_13_method_99_code 135 = .ok (.iload 5, 2) := by decide +kernel
theorem d_Model_readsAll_137 : decode prog_13_method_99_code 137 = .ok (.iaload, 1) := by decide +kernel
theorem d_Model_readsAll_138 : decode prog_13_method_99_code 138 = .ok (.invokevirtual 308, 3) := by decide +kernel
theorem d_Model_readsAll_141 : decode prog_13_method_99_code 141 = .ok (.goto 21, 3) := by decide +kernel
theorem d_Model_readsAll_144 : decode prog_13_method_99_code 144 = .ok (.aload_n 0, 1) := by decide +kernel
theorem d_Model_readsAll_145 : decode prog_13_method_99_code 145 = .ok (.getfield 108, 3) := by decide +kernel
theorem d_Model_readsAll_148 : decode prog_13_method_99_code 148 = .ok (.bipush 6, 2) := by decide +kernel
theorem d_Model_readsAll_150 : decode prog_13_method_99_code 150 = .ok (.iload_n 1, 1) := by decide +kernel
theorem d_Model_readsAll_151 : decode prog_13_method_99_code 151 = .ok (.imul, 1) := by decide +kernel
theorem d_Model_readsAll_152 : decode prog_13_method_99_code 152 = .ok (.aload_n 0, 1) := by decide +kernel
theorem d_Model_readsAll_153 : decode prog_13_method_99_code 153 = .ok (.getfield 147, 3) := by decide +kernel
theorem d_Model_readsAll_156 : decode prog_13_method_99_code 156 = .ok (.iload 4, 2) := by decide +kernel
theorem d_Model_readsAll_158 : decode prog_13_method_99_code 158 = .ok (.iaload, 1) := by decide +kernel
theorem d_Model_readsAll_159 : decode prog_13_method_99_code 159 = .ok (.iadd, 1) := by decide +kernel
theorem d_Model_readsAll_160 : decode prog_13_method_99_code 160 = .ok (.iconst 1, 1) := by decide +kernel
theorem d_Model_readsAll_161 : decode prog_13_method_99_code 161 = .ok (.bastore, 1) := by decide +kernel
theorem d_Model_readsAll_162 : decode prog_13_method_99_code 162 = .ok (.iinc 4 1, 3) := by decide +kernel
theorem d_Model_readsAll_165 : decode prog_13_method_99_code 165 = .ok (.goto (-147), 3) := by decide +kernel
theorem d_Model_readsAll_168 : decode prog_13_method_99_code 168 = .ok (.return_, 1) := by decide +kernel
theorem d_Model_at_0 : decode prog_13_method_101_code 0 = .ok (.iload_n 1, 1) := by decide +kernel
theorem d_Model_at_1 : decode prog_13_method_101_code 1 = .ok (.iconst 0, 1) := by decide +kernel
theorem d_Model_at_2 : decode prog_13_method_101_code 2 = .ok (.aload_n 0, 1) := by decide +kernel
theorem d_Model_at_3 : decode prog_13_method_101_code 3 = .ok (.getfield 495, 3) := by decide +kernel
theorem d_Model_at_6 : decode prog_13_method_101_code 6 = .ok (.iconst 1, 1) := by decide +kernel
theorem d_Model_at_7 : decode prog_13_method_101_code 7 = .ok (.isub, 1) := by decide +kernel
theorem d_Model_at_8 : decode prog_13_method_101_code 8 = .ok (.invokestatic 235, 3) := by decide +kernel
theorem d_Model_at_11 : decode prog_13_method_101_code 11 = .ok (.ifCond .eq 21, 3) := by decide +kernel
theorem d_Model_at_14 : decode prog_13_method_101_code 14 = .ok (.iload_n 2, 1) := by decide +kernel
theorem d_Model_at_15 : decode prog_13_method_101_code 15 = .ok (.iconst 0, 1) := by decide +kernel
theorem d_Model_at_16 : decode prog_13_method_101_code 16 = .ok (.aload_n 0, 1) := by decide +kernel
theorem d_Model_at_17 : decode prog_13_method_101_code 17 = .ok (.getfield 498, 3) := by decide +kernel
theorem d_Model_at_20 : decode prog_13_method_101_code 20 = .ok (.iconst 1, 1) := by decide +kernel
theorem d_Model_at_21 : decode prog_13_method_101_code 21 = .ok (.isub, 1) := by decide +kernel
theorem d_Model_at_22 : decode prog_13_method_101_code 22 = .ok (.invokestatic 235, 3) := by decide +kernel
theorem d_Model_at_25 : decode prog_13_method_101_code 25 = .ok (.ifCond .eq 7, 3) := by decide +kernel
theorem d_Model_at_28 : decode prog_13_method_101_code 28 = .ok (.iconst 1, 1) := by decide +kernel
theorem d_Model_at_29 : decode prog_13_method_101_code 29 = .ok (.goto 4, 3) := by decide +kernel
theorem d_Model_at_32 : decode prog_13_method_101_code 32 = .ok (.iconst 0, 1) := by decide +kernel
theorem d_Model_at_33 : decode prog_13_method_101_code 33 = .ok (.istore_n 3, 1) := by decide +kernel
theorem d_Model_at_34 : decode prog_13_method_101_code 34 = .ok (.aload_n 0, 1) := by decide +kernel
theorem d_Model_at_35 : decode prog_13_method_101_code 35 = .ok (.iload_n 3, 1) := by decide +kernel
theorem d_Model_at_36 : decode prog_13_method_101_code 36 = .ok (.ifCond .eq 7, 3) := by decide +kernel
theorem d_Model_at_39 : decode prog_13_method_101_code 39 = .ok (.iconst 0, 1) := by decide +kernel
theorem d_Model_at_40 : decode prog_13_method_101_code 40 = .ok (.goto 4, 3) := by decide +kernel
theorem d_Model_at_43 : decode prog_13_method_101_code 43 = .ok (.iconst 1, 1) := by decide +kernel
theorem d_Model_at_44 : decode prog_13_method_101_code 44 = .ok (.invokevirtual 254, 3) := by decide +kernel
theorem d_Model_at_47 : decode prog_13_method_101_code 47 = .ok (.ifCond .eq 7, 3) := by decide +kernel
theorem d_Model_at_50 : decode prog_13_method_101_code 50 = .ok (.iconst 0, 1) := by decide +kernel
theorem d_Model_at_51 : decode prog_13_method_101_code 51 = .ok (.goto 16, 3) := by decide +kernel
theorem d_Model_at_54 : decode prog_13_method_101_code 54 = .ok (.aload_n 0, 1) := by decide +kernel
theorem d_Model_at_55 : decode prog_13_method_101_code 55 = .ok (.getfield 191, 3) := by decide +kernel
theorem d_Model_at_58 : decode prog_13_method_101_code 58 = .ok (.aload_n 0, 1) := by decide +kernel
theorem d_Model_at_59 : decode prog_13_method_101_code 59 = .ok (.getfield 498, 3) := by decide +kernel
theorem d_Model_at_62 : decode prog_13_method_101_code 62 = .ok (.iload_n 1, 1) := by decide +kernel
theorem d_Model_at_63 : decode prog_13_method_101_code 63 = .ok (.imul, 1) := by decide +kernel
theorem d_Model_at_64 : decode prog_13_method_101_code 64 = .ok (.iload_n 2, 1) := by decide +kernel
theorem d_Model_at_65 : decode prog_13_method_101_code 65 = .ok (.iadd, 1) := by decide +kernel
theorem d_Model_at_66 : decode prog_13_method_101_code 66 = .ok (.iaload, 1) := by decide +kernel
theorem d_Model_at_67 : decode prog_13_method_101_code 67 = .ok (.ireturn, 1) := by decide +kernel
theorem d_Model_atByLoops_0 : decode prog_13_method_102_code 0 = .ok (.aload_n 0, 1) := by decide +kernel
theorem d_Model_atByLoops_1 : decode prog_13_method_102_code 1 = .ok (.iload_n 1, 1) := by decide +kernel
theorem d_Model_atByLoops_2 : decode prog_13_method_102_code 2 = .ok (.invokevirtual 376, 3) := by decide +kernel
theorem d_Model_atByLoops_5 : decode prog_13_method_102_code 5 = .ok (.ifCond .eq 15, 3) := by decide +kernel
theorem d_Model_atByLoops_8 : decode prog_13_method_102_code 8 = .ok (.aload_n 0, 1) := by decide +kernel
theorem d_Model_atByLoops_9 : decode prog_13_method_102_code 9 = .ok (.iload_n 2, 1) := by decide +kernel
theorem d_Model_atByLoops_10 : decode prog_13_method_102_code 10 = .ok (.invokevirtual 486, 3) := by decide +kernel
theorem d_Model_atByLoops_13 : decode prog_13_method_102_code 13 = .ok (.ifCond .eq 7, 3) := by decide +kernel
theorem d_Model_atByLoops_16 : decode prog_13_method_102_code 16 = .ok (.iconst 1, 1) := by decide +kernel
theorem d_Model_atByLoops_17 : decode prog_13_method_102_code 17 = .ok (.goto 4, 3) := by decide +kernel
theorem d_Model_atByLoops_20 : decode prog_13_method_102_code 20 = .ok (.iconst 0, 1) := by decide +kernel
theorem d_Model_atByLoops_21 : decode prog_13_method_102_code 21 = .ok (.istore 5, 2) := by decide +kernel
theorem d_Model_atByLoops_23 : decode prog_13_method_102_code 23 = .ok (.iload 5, 2) := by decide +kernel
theorem d_Model_atByLoops_25 : decode prog_13_method_102_code 25 = .ok (.ifCond .eq 16, 3) := by decide +kernel
theorem d_Model_atByLoops_28 : decode prog_13_method_102_code 28 = .ok (.aload_n 0, 1) := by decide +kernel
theorem d_Model_atByLoops_29 : decode prog_13_method_102_code 29 = .ok (.getfield 61, 3) := by decide +kernel
theorem d_Model_atByLoops_32 : decode prog_13_method_102_code 32 = .ok (.iload_n 1, 1) := by decide +kernel
theorem d_Model_atByLoops_33 : decode prog_13_method_102_code 33 = .ok (.iaload, 1) := by decide +kernel
theorem d_Model_atByLoops_34 : decode prog_13_method_102_code 34 = .ok (.ifCond .ne 7, 3) := by decide +kernel
theorem d_Model_atByLoops_37 : decode prog_13_method_102_code 37 = .ok (.iconst 1, 1) := by decide +kernel
theorem d_Model_atByLoops_38 : decode prog_13_method_102_code 38 = .ok (.goto 4, 3) := by decide +kernel
theorem d_Model_atByLoops_41 : decode prog_13_method_102_code 41 = .ok (.iconst 0, 1) := by decide +kernel
theorem d_Model_atByLoops_42 : decode prog_13_method_102_code 42 = .ok (.istore 6, 2) := by decide +kernel
theorem d_Model_atByLoops_44 : decode prog_13_method_102_code 44 = .ok (.iload 6, 2) := by decide +kernel
theorem d_Model_atByLoops_46 : decode prog_13_method_102_code 46 = .ok (.ifCond .eq 20, 3) := by decide +kernel
theorem d_Model_atByLoops_49 : decode prog_13_method_102_code 49 = .ok (.aload_n 0, 1) := by decide +kernel
theorem d_Model_atByLoops_50 : decode prog_13_method_102_code 50 = .ok (.iload_n 2, 1) := by decide +kernel
theorem d_Model_atByLoops_51 : decode prog_13_method_102_code 51 = .ok (.aload_n 0, 1) := by decide +kernel
theorem d_Model_atByLoops_52 : decode prog_13_method_102_code 52 = .ok (.getfield 67, 3) := by decide +kernel
theorem d_Model_atByLoops_55 : decode prog_13_method_102_code 55 = .ok (.iload_n 1, 1) := by decide +kernel
theorem d_Model_atByLoops_56 : decode prog_13_method_102_code 56 = .ok (.iaload, 1) := by decide +kernel
theorem d_Model_atByLoops_57 : decode prog_13_method_102_code 57 = .ok (.aload_n 0, 1) := by decide +kernel
theorem d_Model_atByLoops_58 : decode prog_13_method_102_code 58 = .ok (.getfield 58, 3) := by decide +kernel
theorem d_Model_atByLoops_61 : decode prog_13_method_102_code 61 = .ok (.iload_n 1, 1) := by decide +kernel
theorem d_Model_atByLoops_62 : decode prog_13_method_102_code 62 = .ok (.iaload, 1) := by decide +kernel
theorem d_Model_atByLoops_63 : decode prog_13_method_102_code 63 = .ok (.invokevirtual 489, 3) := by decide +kernel
theorem d_Model_atByLoops_66 : decode prog_13_method_102_code 66 = .ok (.iload 6, 2) := by decide +kernel
theorem d_Model_atByLoops_68 : decode prog_13_method_102_code 68 = .ok (.ifCond .eq 43, 3) := by decide +kernel
theorem d_Model_atByLoops_71 : decode prog_13_method_102_code 71 = .ok (.aload_n 0, 1) := by decide +kernel
theorem d_Model_atByLoops_72 : decode prog_13_method_102_code 72 = .ok (.getfield 440, 3) := by decide +kernel
theorem d_Model_atByLoops_75 : decode prog_13_method_102_code 75 = .ok (.ifCond .ne 36, 3) := by decide +kernel
theorem d_Model_atByLoops_78 : decode prog_13_method_102_code 78 = .ok (.iload_n 3, 1) := by decide +kernel
theorem d_Model_atByLoops_79 : decode prog_13_method_102_code 79 = .ok (.iconst 0, 1) := by decide +kernel
theorem d_Model_atByLoops_80 : decode prog_13_method_102_code 80 = .ok (.aload_n 0, 1) := by decide +kernel
theorem d_Model_atByLoops_81 : decode prog_13_method_102_code 81 = .ok (.getfield 184, 3) := by decide +kernel
theorem d_Model_atByLoops_84 : decode prog_13_method_102_code 84 = .ok (.iconst 0, 1) := by decide +kernel
theorem d_Model_atByLoops_85 : decode prog_13_method_102_code 85 = .ok (.iaload, 1) := by decide +kernel
theorem d_Model_atByLoops_86 : decode prog_13_method_102_code 86 = .ok (.iconst 1, 1) := by decide +kernel
theorem d_Model_atByLoops_87 : decode prog_13_method_102_code 87 = .ok (.isub, 1) := by decide +kernel
theorem d_Model_atByLoops_88 : decode prog_13_method_102_code 88 = .ok (.invokestatic 235, 3) := by decide +kernel
theorem d_Model_atByLoops_91 : decode prog_13_method_102_code 91 = .ok (.ifCond .eq 24, 3) := by decide +kernel
theorem d_Model_atByLoops_94 : decode prog_13_method_102_code 94 = .ok (.iload 4, 2) := by decide +kernel
theorem d_Model_atByLoops_96 : decode prog_13_method_102_code 96 = .ok (.iconst 0, 1) := by decide +kernel
theorem d_Model_atByLoops_97 : decode prog_13_method_102_code 97 = .ok (.aload_n 0, 1) := by decide +kernel
theorem d_Model_atByLoops_98 : decode prog_13_method_102_code 98 = .ok (.getfield 187, 3) := by decide +kernel
theorem d_Model_atByLoops_101 : decode prog_13_method_102_code 101 = .ok (.iconst 0, 1) := by decide +kernel
theorem d_Model_atByLoops_102 : decode prog_13_method_102_code 102 = .ok (.iaload, 1) := by decide +kernel
theorem d_Model_atByLoops_103 : decode prog_13_method_102_code 103 = .ok (.iconst 1, 1) := by decide +kernel
theorem d_Model_atByLoops_104 : decode prog_13_method_102_code 104 = .ok (.isub, 1) := by decide +kernel
theorem d_Model_atByLoops_105 : decode prog_13_method_102_code 105 = .ok (.invokestatic 235, 3) := by decide +kernel
theorem d_Model_atByLoops_108 : decode prog_13_method_102_code 108 = .ok (.ifCond .eq 7, 3) := by decide +kernel
theorem d_Model_atByLoops_111 : decode prog_13_method_102_code 111 = .ok (.iconst 1, 1) := by decide +kernel
theorem d_Model_atByLoops_112 : decode prog_13_method_102_code 112 = .ok (.goto 4, 3) := by decide +kernel
theorem d_Model_atByLoops_115 : decode prog_13_method_102_code 115 = .ok (.iconst 0, 1) := by decide +kernel
theorem d_Model_atByLoops_116 : decode prog_13_method_102_code 116 = .ok (.istore 7, 2) := by decide +kernel
theorem d_Model_atByLoops_118 : decode prog_13_method_102_code 118 = .ok (.aload_n 0, 1) := by decide +kernel
theorem d_Model_atByLoops_119 : decode prog_13_method_102_code 119 = .ok (.iload 5, 2) := by decide +kernel
theorem d_Model_atByLoops_121 : decode prog_13_method_102_code 121 = .ok (.ifCond .eq 8, 3) := by decide +kernel
theorem d_Model_atByLoops_124 : decode prog_13_method_102_code 124 = .ok (.iload 7, 2) := by decide +kernel
theorem d_Model_atByLoops_126 : decode prog_13_method_102_code 126 = .ok (.ifCond .ne 7, 3) := by decide +kernel
theorem d_Model_atByLoops_129 : decode prog_13_method_102_code 129 = .ok (.iconst 1, 1) := by decide +kernel
theorem d_Model_atByLoops_130 : decode prog_13_method_102_code 130 = .ok (.goto 24, 3) := by decide +kernel
theorem d_Model_atByLoops_133 : decode prog_13_method_102_code 133 = .ok (.iload 6, 2) := by decide +kernel
theorem d_Model_atByLoops_135 : decode prog_13_method_102_code 135 = .ok (.ifCond .ne 7, 3) := by decide +kernel
theorem d_Model_atByLoops_138 : decode prog_13_method_102_code 138 = .ok (.iconst 2, 1) := by decide +kernel
theorem d_Model_atByLoops_139 : decode prog_13_method_102_code 139 = .ok (.goto 15, 3) := by decide +kernel
theorem d_Model_atByLoops_142 : decode prog_13_method_102_code 142 = .ok (.aload_n 0, 1) := by decide +kernel
theorem d_Model_atByLoops_143 : decode prog_13_method_102_code 143 = .ok (.getfield 440, 3) := by decide +kernel
theorem d_Model_atByLoops_146 : decode prog_13_method_102_code 146 = .ok (.ifCond .eq 7, 3) := by decide +kernel
theorem d_Model_atByLoops_149 : decode prog_13_method_102_code 149 = .ok (.iconst 3, 1) := by decide +kernel
theorem d_Model_atByLoops_150 : decode prog_13_method_102_code 150 = .ok (.goto 4, 3) := by decide +kernel
theorem d_Model_atByLoops_153 : decode prog_13_method_102_code 153 = .ok (.iconst 0, 1) := by decide +kernel
theorem d_Model_atByLoops_154 : decode prog_13_method_102_code 154 = .ok (.invokevirtual 254, 3) := by decide +kernel
theorem d_Model_atByLoops_157 : decode prog_13_method_102_code 157 = .ok (.ifCond .eq 5, 3) := by decide +kernel
theorem d_Model_atByLoops_160 : decode prog_13_method_102_code 160 = .ok (.iconst 0, 1) := by decide +kernel
theorem d_Model_atByLoops_161 : decode prog_13_method_102_code 161 = .ok (.ireturn, 1) := by decide +kernel
theorem d_Model_atByLoops_162 : decode prog_13_method_102_code 162 = .ok (.aload_n 0, 1) := by decide +kernel
theorem d_Model_atByLoops_163 : decode prog_13_method_102_code 163 = .ok (.getfield 178, 3) := by decide +kernel
theorem d_Model_atByLoops_166 : decode prog_13_method_102_code 166 = .ok (.aload_n 0, 1) := by decide +kernel
theorem d_Model_atByLoops_167 : decode prog_13_method_102_code 167 = .ok (.getfield 187, 3) := by decide +kernel
theorem d_Model_atByLoops_170 : decode prog_13_method_102_code 170 = .ok (.iconst 0, 1) := by decide +kernel
theorem d_Model_atByLoops_171 : decode prog_13_method_102_code 171 = .ok (.iaload, 1) := by decide +kernel
theorem d_Model_atByLoops_172 : decode prog_13_method_102_code 172 = .ok (.iload_n 3, 1) := by decide +kernel
theorem d_Model_atByLoops_173 : decode prog_13_method_102_code 173 = .ok (.imul, 1) := by decide +kernel
theorem d_Model_atByLoops_174 : decode prog_13_method_102_code 174 = .ok (.iload 4, 2) := by decide +kernel
theorem d_Model_atByLoops_176 : decode prog_13_method_102_code 176 = .ok (.iadd, 1) := by decide +kernel
theorem d_Model_atByLoops_177 : decode prog_13_method_102_code 177 = .ok (.iaload, 1) := by decide +kernel
theorem d_Model_atByLoops_178 : decode prog_13_method_102_code 178 = .ok (.ireturn, 1) := by decide +kernel
theorem d_Model_analyze_0 : decode prog_13_method_103_code 0 = .ok (.aload_n 0, 1) := by decide +kernel
theorem d_Model_analyze_1 : decode prog_13_method_103_code 1 = .ok (.iconst 0, 1) := by decide +kernel
theorem d_Model_analyze_2 : decode prog_13_method_103_code 2 = .ok (.putfield 231, 3) := by decide +kernel
theorem d_Model_analyze_5 : decode prog_13_method_103_code 5 = .ok (.iconst 0, 1) := by decide +kernel
theorem d_Model_analyze_6 : decode prog_13_method_103_code 6 = .ok (.istore_n 1, 1) := by decide +kernel
theorem d_Model_analyze_7 : decode prog_13_method_103_code 7 = .ok (.iconst 0, 1) := by decide +kernel
theorem d_Model_analyze_8 : decode prog_13_method_103_code 8 = .ok (.istore_n 2, 1) := by decide +kernel
theorem d_Model_analyze_9 : decode prog_13_method_103_code 9 = .ok (.iload_n 2, 1) := by decide +kernel
theorem d_Model_analyze_10 : decode prog_13_method_103_code 10 = .ok (.bipush 20, 2) := by decide +kernel
theorem d_Model_analyze_12 : decode prog_13_method_103_code 12 = .ok (.if_icmp .ge 26, 3) := by decide +kernel
theorem d_Model_analyze_15 : decode prog_13_method_103_code 15 = .ok (.iload_n 1, 1) := by decide +kernel
theorem d_Model_analyze_16 : decode prog_13_method_103_code 16 = .ok (.aload_n 0, 1) := by decide +kernel
theorem d_Model_analyze_17 : decode prog_13_method_103_code 17 = .ok (.getfield 162, 3) := by decide +kernel
theorem d_Model_analyze_20 : decode prog_13_method_103_code 20 = .ok (.iload_n 2, 1) := by decide +kernel
theorem d_Model_analyze_21 : decode prog_13_method_103_code 21 = .ok (.baload, 1) := by decide +kernel
theorem d_Model_analyze_22 : decode prog_13_method_103_code 22 = .ok (.ifCond .eq 7, 3) := by decide +kernel
theorem d_Model_analyze_25 : decode prog_13_method_103_code 25 = .ok (.iconst 1, 1) := by decide +kernel
theorem d_Model_analyze_26 : decode prog_13_method_103_code 26 = .ok (.goto 4, 3) := by decide +kernel
theorem d_Model_analyze_29 : decode prog_13_method_103_code 29 = .ok (.iconst 0, 1) := by decide +kernel
theorem d_Model_analyze_30 : decode prog_13_method_103_code 30 = .ok (.iadd, 1) := by decide +kernel
theorem d_Model_analyze_31 : decode prog_13_method_103_code 31 = .ok (.istore_n 1, 1) := by decide +kernel
theorem d_Model_analyze_32 : decode prog_13_method_103_code 32 = .ok (.iinc 2 1, 3) := by decide +kernel
theorem d_Model_analyze_35 : decode prog_13_method_103_code 35 = .ok (.goto (-26), 3) := by decide +kernel
theorem d_Model_analyze_38 : decode prog_13_method_103_code 38 = .ok (.aload_n 0, 1) := by decide +kernel
theorem d_Model_analyze_39 : decode prog_13_method_103_code 39 = .ok (.invokevirtual 257, 3) := by decide +kernel
theorem d_Model_analyze_42 : decode prog_13_method_103_code 42 = .ok (.iconst 0, 1) := by decide +kernel
theorem d_Model_analyze_43 : decode prog_13_method_103_code 43 = .ok (.istore_n 2, 1) := by decide +kernel
theorem d_Model_analyze_44 : decode prog_13_method_103_code 44 = .ok (.iload_n 2, 1) := by decide +kernel
theorem d_Model_analyze_45 : decode prog_13_method_103_code 45 = .ok (.aload_n 0, 1) := by decide +kernel
theorem d_Model_analyze_46 : decode prog_13_method_103_code 46 = .ok (.getfield 239, 3) := by decide +kernel
theorem d_Model_analyze_49 : decode prog_13_method_103_code 49 = .ok (.if_icmp .ge 58, 3) := by decide +kernel
theorem d_Model_analyze_52 : decode prog_13_method_103_code 52 = .ok (.aload_n 0, 1) := by decide +kernel
theorem d_Model_analyze_53 : decode prog_13_method_103_code 53 = .ok (.getfield 225, 3) := by decide +kernel
theorem d_Model_analyze_56 : decode prog_13_method_103_code 56 = .ok (.iload_n 2, 1) := by decide +kernel
theorem d_Model_analyze_57 : decode prog_13_method_103_code 57 = .ok (.aload_n 0, 1) := by decide +kernel
theorem d_Model_analyze_58 : decode prog_13_method_103_code 58 = .ok (.getfield 46, 3) := by decide +kernel
theorem d_Model_analyze_61 : decode prog_13_method_103_code 61 = .ok (.bipush 24, 2) := by decide +kernel
theorem d_Model_analyze_63 : decode prog_13_method_103_code 63 = .ok (.iload_n 2, 1) := by decide +kernel
theorem d_Model_analyze_64 : decode prog_13_method_103_code 64 = .ok (.iadd, 1) := by decide +kernel
theorem d_Model_analyze_65 : decode prog_13_method_103_code 65 = .ok (.iaload, 1) := by decide +kernel
theorem d_Model_analyze_66 : decode prog_13_method_103_code 66 = .ok (.iastore, 1) := by decide +kernel
theorem d_Model_analyze_67 : decode prog_13_method_103_code 67 = .ok (.iconst 0, 1) := by decide +kernel
theorem d_Model_analyze_68 : decode prog_13_method_103_code 68 = .ok (.istore_n 3, 1) := by decide +kernel
theorem d_Model_analyze_69 : decode prog_13_method_103_code 69 = .ok (.iload_n 3, 1) := by decide +kernel
theorem d_Model_analyze_70 : decode prog_13_method_103_code 70 = .ok (.aload_n 0, 1) := by decide +kernel
theorem d_Model_analyze_71 : decode prog_13_method_103_code 71 = .ok (.getfield 7, 3) := by decide +kernel
theorem d_Model_analyze_74 : decode prog_13_method_103_code 74 = .ok (.iload_n 2, 1) := by decide +kernel
theorem d_Model_analyze_75 : decode prog_13_method_103_code 75 = .ok (.iaload, 1) := by decide +kernel
theorem d_Model_analyze_76 : decode prog_13_method_103_code 76 = .ok (.if_icmp .ge 25, 3) := by decide +kernel
theorem d_Model_analyze_79 : decode prog_13_method_103_code 79 = .ok (.aload_n 0, 1) := by decide +kernel
theorem d_Model_analyze_80 : decode prog_13_method_103_code 80 = .ok (.getfield 228, 3) := by decide +kernel
theorem d_Model_analyze_83 : decode prog_13_method_103_code 83 = .ok (.iconst 4, 1) := by decide +kernel
theorem d_Model_analyze_84 : decode prog_13_method_103_code 84 = .ok (.iload_n 2, 1) := by decide +kernel
theorem d_Model_analyze_85 : decode prog_13_method_103_code 85 = .ok (.imul, 1) := by decide +kernel
theorem d_Model_analyze_86 : decode prog_13_method_103_code 86 = .ok (.iload_n 3, 1) := by decide +kernel
theorem d_Model_analyze_87 : decode prog_13_method_103_code 87 = .ok (.iadd, 1) := by decide +kernel
theorem d_Model_analyze_88 : decode prog_13_method_103_code 88 = .ok (.aload_n 0, 1) := by decide +kernel
theorem d_Model_analyze_89 : decode prog_13_method_103_code 89 = .ok (.iload_n 2, 1) := by decide +kernel
theorem d_Model_analyze_90 : decode prog_13_method_103_code 90 = .ok (.iload_n 3, 1) := by decide +kernel
theorem d_Model_analyze_91 : decode prog_13_method_103_code 91 = .ok (.invokevirtual 501, 3) := by decide +kernel
theorem d_Model_analyze_94 : decode prog_13_method_103_code 94 = .ok (.iastore, 1) := by decide +kernel
theorem d_Model_analyze_95 : decode prog_13_method_103_code 95 = .ok (.iinc 3 1, 3) := by decide +kernel
theorem d_Model_analyze_98 : decode prog_13_method_103_code 98 = .ok (.goto (-29), 3) := by decide +kernel
theorem d_Model_analyze_101 : decode prog_13_method_103_code 101 = .ok (.iinc 2 1, 3) := by decide +kernel
theorem d_Model_analyze_104 : decode prog_13_method_103_code 104 = .ok (.goto (-60), 3) := by decide +kernel
theorem d_Model_analyze_107 : decode prog_13_method_103_code 107 = .ok (.iload_n 1, 1) := by decide +kernel
theorem d_Model_analyze_108 : decode prog_13_method_103_code 108 = .ok (.ireturn, 1) := by decide +kernel
theorem d_Model_differing_0 : decode prog_13_method_104_code 0 = .ok (.iconst 0, 1) := by decide +kernel
theorem d_Model_differing_1 : decode prog_13_method_104_code 1 = .ok (.istore_n 3, 1) := by decide +kernel
theorem d_Model_differing_2 : decode prog_13_method_104_code 2 = .ok (.iconst 0, 1) := by decide +kernel
theorem d_Model_differing_3 : decode prog_13_method_104_code 3 = .ok (.istore 4, 2) := by decide +kernel
theorem d_Model_differing_5 : decode prog_13_method_104_code 5 = .ok (.iload 4, 2) := by decide +kernel
theorem d_Model_differing_7 : decode prog_13_method_104_code 7 = .ok (.aload_n 0, 1) := by decide +kernel
theorem d_Model_differing_8 : decode prog_13_method_104_code 8 = .ok (.getfield 46, 3) := by decide +kernel
theorem d_Model_differing_11 : decode prog_13_method_104_code 11 = .ok (.bipush 24, 2) := by decide +kernel
theorem d_Model_differing_13 : decode prog_13_method_104_code 13 = .ok (.iload_n 1, 1) := by decide +kernel
theorem d_Model_differing_14 : decode prog_13_method_104_code 14 = .ok (.iadd, 1) := by decide +kernel
theorem d_Model_differing_15 : decode prog_13_method_104_code 15 = .ok (.iaload, 1) := by decide +kernel
theorem d_Model_differing_16 : decode prog_13_method_104_code 16 = .ok (.if_icmp .ge 97, 3) := by decide +kernel
theorem d_Model_differing_19 : decode prog_13_method_104_code 19 = .ok (.aload_n 0, 1) := by decide +kernel
theorem d_Model_differing_20 : decode prog_13_method_104_code 20 = .ok (.getfield 49, 3) := by decide +kernel
theorem d_Model_differing_23 : decode prog_13_method_104_code 23 = .ok (.iconst 4, 1) := by decide +kernel
theorem d_Model_differing_24 : decode prog_13_method_104_code 24 = .ok (.iload_n 1, 1) := by decide +kernel
theorem d_Model_differing_25 : decode prog_13_method_104_code 25 = .ok (.iload 4, 2) := by decide +kernel
theorem d_Model_differing_27 : decode prog_13_method_104_code 27 = .ok (.iload_n 2, 1) := by decide +kernel
theorem d_Model_differing_28 : decode prog_13_method_104_code 28 = .ok (.invokestatic 273, 3) := by decide +kernel
theorem d_Model_differing_31 : decode prog_13_method_104_code 31 = .ok (.iaload, 1) := by decide +kernel
theorem d_Model_differing_32 : decode prog_13_method_104_code 32 = .ok (.istore 5, 2) := by decide +kernel
theorem d_Model_differing_34 : decode prog_13_method_104_code 34 = .ok (.iload 5, 2) := by decide +kernel
theorem d_Model_differing_36 : decode prog_13_method_104_code 36 = .ok (.ldc 246, 2) := by decide +kernel
theorem d_Model_differing_38 : decode prog_13_method_104_code 38 = .ok (.if_icmp .eq 7, 3) := by decide +kernel
theorem d_Model_differing_41 : decode prog_13_method_104_code 41 = .ok (.iconst 1, 1) := by decide +kernel
theorem d_Model_differing_42 : decode prog_13_method_104_code 42 = .ok (.goto 4, 3) := by decide +kernel
theorem d_Model_differing_45 : decode prog_13_method_104_code 45 = .ok (.iconst 0, 1) := by decide +kernel
theorem d_Model_differing_46 : decode prog_13_method_104_code 46 = .ok (.istore 6, 2) := by decide +kernel
theorem d_Model_differing_48 : decode prog_13_method_104_code 48 = .ok (.iconst 0, 1) := by decide +kernel
theorem d_Model_differing_49 : decode prog_13_method_104_code 49 = .ok (.istore 7, 2) := by decide +kernel
theorem d_Model_differing_51 : decode prog_13_method_104_code 51 = .ok (.iload 7, 2) := by decide +kernel
theorem d_Model_differing_53 : decode prog_13_method_104_code 53 = .ok (.iload 4, 2) := by decide +kernel
theorem d_Model_differing_55 : decode prog_13_method_104_code 55 = .ok (.if_icmp .ge 39, 3) := by decide +kernel
theorem d_Model_differing_58 : decode prog_13_method_104_code 58 = .ok (.iload 6, 2) := by decide +kernel
theorem d_Model_differing_60 : decode prog_13_method_104_code 60 = .ok (.ifCond .eq 25, 3) := by decide +kernel
theorem d_Model_differing_63 : decode prog_13_method_104_code 63 = .ok (.aload_n 0, 1) := by decide +kernel
theorem d_Model_differing_64 : decode prog_13_method_104_code 64 = .ok (.getfield 49, 3) := by decide +kernel
theorem d_Model_differing_67 : decode prog_13_method_104_code 67 = .ok (.iconst 4, 1) := by decide +kernel
theorem d_Model_differing_68 : decode prog_13_method_104_code 68 = .ok (.iload_n 1, 1) := by decide +kernel
theorem d_Model_differing_69 : decode prog_13_method_104_code 69 = .ok (.iload 7, 2) := by decide +kernel
theorem d_Model_differing_71 : decode prog_13_method_104_code 71 = .ok (.iload_n 2, 1) := by decide +kernel
theorem d_Model_differing_72 : decode prog_13_method_104_code 72 = .ok (.invokestatic 273, 3) := by decide +kernel
theorem d_Model_differing_75 : decode prog_13_method_104_code 75 = .ok (.iaload, 1) := by decide +kernel
theorem d_Model_differing_76 : decode prog_13_method_104_code 76 = .ok (.iload 5, 2) := by decide +kernel
theorem d_Model_differing_78 : decode prog_13_method_104_code 78 = .ok (.if_icmp .eq 7, 3) := by decide +kernel
theorem d_Model_differing_81 : decode prog_13_method_104_code 81 = .ok (.iconst 1, 1) := by decide +kernel
theorem d_Model_differing_82 : decode prog_13_method_104_code 82 = .ok (.goto 4, 3) := by decide +kernel
theorem d_Model_differing_85 : decode prog_13_method_104_code 85 = .ok (.iconst 0, 1) := by decide +kernel
theorem d_Model_differing_86 : decode prog_13_method_104_code 86 = .ok (.istore 6, 2) := by decide +kernel
theorem d_Model_differing_88 : decode prog_13_method_104_code 88 = .ok (.iinc 7 1, 3) := by decide +kernel
theorem d_Model_differing_91 : decode prog_13_method_104_code 91 = .ok (.goto (-40), 3) := by decide +kernel
theorem d_Model_differing_94 : decode prog_13_method_104_code 94 = .ok (.iload_n 3, 1) := by decide +kernel
theorem d_Model_differing_95 : decode prog_13_method_104_code 95 = .ok (.iload 6, 2) := by decide +kernel
theorem d_Model_differing_97 : decode prog_13_method_104_code 97 = .ok (.ifCond .eq 7, 3) := by decide +kernel
theorem d_Model_differing_100 : decode prog_13_method_104_code 100 = .ok (.iconst 1, 1) := by decide +kernel
theorem d_Model_differing_101 : decode prog_13_method_104_code 101 = .ok (.goto 4, 3) := by decide +kernel
theorem d_Model_differing_104 : decode prog_13_method_104_code 104 = .ok (.iconst 0, 1) := by decide +kernel
theorem d_Model_differing_105 : decode prog_13_method_104_code 105 = .ok (.iadd, 1) := by decide +kernel
theorem d_Model_differing_106 : decode prog_13_method_104_code 106 = .ok (.istore_n 3, 1) := by decide +kernel
theorem d_Model_differing_107 : decode prog_13_method_104_code 107 = .ok (.iinc 4 1, 3) := by decide +kernel
theorem d_Model_differing_110 : decode prog_13_method_104_code 110 = .ok (.goto (-105), 3) := by decide +kernel
theorem d_Model_differing_113 : decode prog_13_method_104_code 113 = .ok (.iload_n 3, 1) := by decide +kernel
theorem d_Model_differing_114 : decode prog_13_method_104_code 114 = .ok (.ireturn, 1) := by decide +kernel
theorem d_Model_prepare_0 : decode prog_13_method_117_code 0 = .ok (.aload_n 0, 1) := by decide +kernel
theorem d_Model_prepare_1 : decode prog_13_method_117_code 1 = .ok (.aload_n 0, 1) := by decide +kernel
theorem d_Model_prepare_2 : decode prog_13_method_117_code 2 = .ok (.iload_n 1, 1) := by decide +kernel
theorem d_Model_prepare_3 : decode prog_13_method_117_code 3 = .ok (.invokevirtual 486, 3) := by decide +kernel
theorem d_Model_prepare_6 : decode prog_13_method_117_code 6 = .ok (.ifCond .eq 7, 3) := by decide +kernel
theorem d_Model_prepare_9 : decode prog_13_method_117_code 9 = .ok (.iconst 0, 1) := by decide +kernel
theorem d_Model_prepare_10 : decode prog_13_method_117_code 10 = .ok (.goto 4, 3) := by decide +kernel
theorem d_Model_prepare_13 : decode prog_13_method_117_code 13 = .ok (.iconst 1, 1) := by decide +kernel
theorem d_Model_prepare_14 : decode prog_13_method_117_code 14 = .ok (.invokevirtual 254, 3) := by decide +kernel
theorem d_Model_prepare_17 : decode prog_13_method_117_code 17 = .ok (.ifCond .eq 5, 3) := by decide +kernel
theorem d_Model_prepare_20 : decode prog_13_method_117_code 20 = .ok (.iconst 0, 1) := by decide +kernel
theorem d_Model_prepare_21 : decode prog_13_method_117_code 21 = .ok (.ireturn, 1) := by decide +kernel
theorem d_Model_prepare_22 : decode prog_13_method_117_code 22 = .ok (.aload_n 0, 1) := by decide +kernel
theorem d_Model_prepare_23 : decode prog_13_method_117_code 23 = .ok (.getfield 162, 3) := by decide +kernel
theorem d_Model_prepare_26 : decode prog_13_method_117_code 26 = .ok (.iload_n 1, 1) := by decide +kernel
theorem d_Model_prepare_27 : decode prog_13_method_117_code 27 = .ok (.baload, 1) := by decide +kernel
theorem d_Model_prepare_28 : decode prog_13_method_117_code 28 = .ok (.ifCond .eq 10, 3) := by decide +kernel
theorem d_Model_prepare_31 : decode prog_13_method_117_code 31 = .ok (.aload_n 0, 1) := by decide +kernel
theorem d_Model_prepare_32 : decode prog_13_method_117_code 32 = .ok (.getfield 165, 3) := by decide +kernel
theorem d_Model_prepare_35 : decode prog_13_method_117_code 35 = .ok (.iload_n 1, 1) := by decide +kernel
theorem d_Model_prepare_36 : decode prog_13_method_117_code 36 = .ok (.iaload, 1) := by decide +kernel
theorem d_Model_prepare_37 : decode prog_13_method_117_code 37 = .ok (.ireturn, 1) := by decide +kernel
theorem d_Model_prepare_38 : decode prog_13_method_117_code 38 = .ok (.aload_n 0, 1) := by decide +kernel
theorem d_Model_prepare_39 : decode prog_13_method_117_code 39 = .ok (.iload_n 1, 1) := by decide +kernel
theorem d_Model_prepare_40 : decode prog_13_method_117_code 40 = .ok (.invokevirtual 527, 3) := by decide +kernel
theorem d_Model_prepare_43 : decode prog_13_method_117_code 43 = .ok (.aload_n 0, 1) := by decide +kernel
theorem d_Model_prepare_44 : decode prog_13_method_117_code 44 = .ok (.iload_n 1, 1) := by decide +kernel
theorem d_Model_prepare_45 : decode prog_13_method_117_code 45 = .ok (.invokevirtual 530, 3) := by decide +kernel
theorem d_Model_prepare_48 : decode prog_13_method_117_code 48 = .ok (.istore_n 2, 1) := by decide +kernel
theorem d_Model_prepare_49 : decode prog_13_method_117_code 49 = .ok (.iload_n 2, 1) := by decide +kernel
theorem d_Model_prepare_50 : decode prog_13_method_117_code 50 = .ok (.iconst (-1), 1) := by decide +kernel
theorem d_Model_prepare_51 : decode prog_13_method_117_code 51 = .ok (.if_icmp .ne 5, 3) := by decide +kernel
theorem d_Model_prepare_54 : decode prog_13_method_117_code 54 = .ok (.iconst (-1), 1) := by decide +kernel
theorem d_Model_prepare_55 : decode prog_13_method_117_code 55 = .ok (.ireturn, 1) := by decide +kernel
theorem d_Model_prepare_56 : decode prog_13_method_117_code 56 = .ok (.aload_n 0, 1) := by decide +kernel
theorem d_Model_prepare_57 : decode prog_13_method_117_code 57 = .ok (.iload_n 1, 1) := by decide +kernel
theorem d_Model_prepare_58 : decode prog_13_method_117_code 58 = .ok (.iload_n 2, 1) := by decide +kernel
theorem d_Model_prepare_59 : decode prog_13_method_117_code 59 = .ok (.invokevirtual 533, 3) := by decide +kernel
theorem d_Model_prepare_62 : decode prog_13_method_117_code 62 = .ok (.aload_n 0, 1) := by decide +kernel
theorem d_Model_prepare_63 : decode prog_13_method_117_code 63 = .ok (.iload_n 1, 1) := by decide +kernel
theorem d_Model_prepare_64 : decode prog_13_method_117_code 64 = .ok (.iload_n 2, 1) := by decide +kernel
theorem d_Model_prepare_65 : decode prog_13_method_117_code 65 = .ok (.invokevirtual 536, 3) := by decide +kernel
theorem d_Model_prepare_68 : decode prog_13_method_117_code 68 = .ok (.ldc2_w 539, 3) := by decide +kernel
theorem d_Model_prepare_71 : decode prog_13_method_117_code 71 = .ok (.lstore_n 3, 1) := by decide +kernel
theorem d_Model_prepare_72 : decode prog_13_method_117_code 72 = .ok (.iconst 0, 1) := by decide +kernel
theorem d_Model_prepare_73 : decode prog_13_method_117_code 73 = .ok (.istore 5, 2) := by decide +kernel
theorem d_Model_prepare_75 : decode prog_13_method_117_code 75 = .ok (.iconst 0, 1) := by decide +kernel
theorem d_Model_prepare_76 : decode prog_13_method_117_code 76 = .ok (.istore 6, 2) := by decide +kernel
theorem d_Model_prepare_78 : decode prog_13_method_117_code 78 = .ok (.iload 6, 2) := by decide +kernel
theorem d_Model_prepare_80 : decode prog_13_method_117_code 80 = .ok (.iconst 1, 1) := by decide +kernel
theorem d_Model_prepare_81 : decode prog_13_method_117_code 81 = .ok (.iconst 2, 1) := by decide +kernel
theorem d_Model_prepare_82 : decode prog_13_method_117_code 82 = .ok (.aload_n 0, 1) := by decide +kernel
theorem d_Model_prepare_83 : decode prog_13_method_117_code 83 = .ok (.getfield 510, 3) := by decide +kernel
theorem d_Model_prepare_86 : decode prog_13_method_117_code 86 = .ok (.imul, 1) := by decide +kernel
theorem d_Model_prepare_87 : decode prog_13_method_117_code 87 = .ok (.ishl, 1) := by decide +kernel
theorem d_Model_prepare_88 : decode prog_13_method_117_code 88 = .ok (.if_icmp .ge 56, 3) := by decide +kernel
theorem d_Model_prepare_91 : decode prog_13_method_117_code 91 = .ok (.aload_n 0, 1) := by decide +kernel
theorem d_Model_prepare_92 : decode prog_13_method_117_code 92 = .ok (.iload 6, 2) := by decide +kernel
theorem d_Model_prepare_94 : decode prog_13_method_117_code 94 = .ok (.invokevirtual 541, 3) := by decide +kernel
theorem d_Model_prepare_97 : decode prog_13_method_117_code 97 = .ok (.istore 7, 2) := by decide +kernel
theorem d_Model_prepare_99 : decode prog_13_method_117_code 99 = .ok (.aload_n 0, 1) := by decide +kernel
theorem d_Model_prepare_100 : decode prog_13_method_117_code 100 = .ok (.iload 7, 2) := by decide +kernel
theorem d_Model_prepare_102 : decode prog_13_method_117_code 102 = .ok (.invokevirtual 544, 3) := by decide +kernel
theorem d_Model_prepare_105 : decode prog_13_method_117_code 105 = .ok (.ifCond .eq 33, 3) := by decide +kernel
theorem d_Model_prepare_108 : decode prog_13_method_117_code 108 = .ok (.lload_n 3, 1) := by decide +kernel
theorem d_Model_prepare_109 : decode prog_13_method_117_code 109 = .ok (.lconst 0, 1) := by decide +kernel
theorem d_Model_prepare_110 : decode prog_13_method_117_code 110 = .ok (.lcmp, 1) := by decide +kernel
theorem d_Model_prepare_111 : decode prog_13_method_117_code 111 = .ok (.ifCond .lt 15, 3) := by decide +kernel
theorem d_Model_prepare_114 : decode prog_13_method_117_code 114 = .ok (.aload_n 0, 1) := by decide +kernel
theorem d_Model_prepare_115 : decode prog_13_method_117_code 115 = .ok (.iload_n 1, 1) := by decide +kernel
theorem d_Model_prepare_116 : decode prog_13_method_117_code 116 = .ok (.iload 7, 2) := by decide +kernel
theorem d_Model_prepare_118 : decode prog_13_method_117_code 118 = .ok (.invokevirtual 547, 3) := by decide +kernel
theorem d_Model_prepare_121 : decode prog_13_method_117_code 121 = .ok (.lload_n 3, 1) := by decide +kernel
theorem d_Model_prepare_122 : decode prog_13_method_117_code 122 = .ok (.lcmp, 1) := by decide +kernel
theorem d_Model_prepare_123 : decode prog_13_method_117_code 123 = .ok (.ifCond .ge 15, 3) := by decide +kernel
theorem d_Model_prepare_126 : decode prog_13_method_117_code 126 = .ok (.aload_n 0, 1) := by decide +kernel
theorem d_Model_prepare_127 : decode prog_13_method_117_code 127 = .ok (.iload_n 1, 1) := by decide +kernel
theorem d_Model_prepare_128 : decode prog_13_method_117_code 128 = .ok (.iload 7, 2) := by decide +kernel
theorem d_Model_prepare_130 : decode prog_13_method_117_code 130 = .ok (.invokevirtual 547, 3) := by decide +kernel
theorem d_Model_prepare_133 : decode prog_13_method_117_code 133 = .ok (.lstore_n 3, 1) := by decide +kernel
theorem d_Model_prepare_134 : decode prog_13_method_117_code 134 = .ok (.iload 7, 2) := by decide +kernel
theorem d_Model_prepare_136 : decode prog_13_method_117_code 136 = .ok (.istore 5, 2) := by decide +kernel
theorem d_Model_prepare_138 : decode prog_13_method_117_code 138 = .ok (.iinc 6 1, 3) := by decide +kernel
theorem d_Model_prepare_141 : decode prog_13_method_117_code 141 = .ok (.goto (-63), 3) := by decide +kernel
theorem d_Model_prepare_144 : decode prog_13_method_117_code 144 = .ok (.aload_n 0, 1) := by decide +kernel
theorem d_Model_prepare_145 : decode prog_13_method_117_code 145 = .ok (.getfield 162, 3) := by decide +kernel
theorem d_Model_prepare_148 : decode prog_13_method_117_code 148 = .ok (.iload_n 1, 1) := by decide +kernel
theorem d_Model_prepare_149 : decode prog_13_method_117_code 149 = .ok (.iconst 1, 1) := by decide +kernel
theorem d_Model_prepare_150 : decode prog_13_method_117_code 150 = .ok (.bastore, 1) := by decide +kernel
theorem d_Model_prepare_151 : decode prog_13_method_117_code 151 = .ok (.aload_n 0, 1) := by decide +kernel
theorem d_Model_prepare_152 : decode prog_13_method_117_code 152 = .ok (.getfield 165, 3) := by decide +kernel
theorem d_Model_prepare_155 : decode prog_13_method_117_code 155 = .ok (.iload_n 1, 1) := by decide +kernel
theorem d_Model_prepare_156 : decode prog_13_method_117_code 156 = .ok (.lload_n 3, 1) := by decide +kernel
theorem d_Model_prepare_157 : decode prog_13_method_117_code 157 = .ok (.l2i, 1) := by decide +kernel
theorem d_Model_prepare_158 : decode prog_13_method_117_code 158 = .ok (.iastore, 1) := by decide +kernel
theorem d_Model_prepare_159 : decode prog_13_method_117_code 159 = .ok (.aload_n 0, 1) := by decide +kernel
theorem d_Model_prepare_160 : decode prog_13_method_117_code 160 = .ok (.getfield 168, 3) := by decide +kernel
theorem d_Model_prepare_163 : decode prog_13_method_117_code 163 = .ok (.iload_n 1, 1) := by decide +kernel
theorem d_Model_prepare_164 : decode prog_13_method_117_code 164 = .ok (.aload_n 0, 1) := by decide +kernel
theorem d_Model_prepare_165 : decode prog_13_method_117_code 165 = .ok (.getfield 510, 3) := by decide +kernel
theorem d_Model_prepare_168 : decode prog_13_method_117_code 168 = .ok (.iastore, 1) := by decide +kernel
theorem d_Model_prepare_169 : decode prog_13_method_117_code 169 = .ok (.iconst 0, 1) := by decide +kernel
theorem d_Model_prepare_170 : decode prog_13_method_117_code 170 = .ok (.istore 6, 2) := by decide +kernel
theorem d_Model_prepare_172 : decode prog_13_method_117_code 172 = .ok (.iload 6, 2) := by decide +kernel
theorem d_Model_prepare_174 : decode prog_13_method_117_code 174 = .ok (.aload_n 0, 1) := by decide +kernel
theorem d_Model_prepare_175 : decode prog_13_method_117_code 175 = .ok (.getfield 510, 3) := by decide +kernel
theorem d_Model_prepare_178 : decode prog_13_method_117_code 178 = .ok (.if_icmp .ge 29, 3) := by decide +kernel
theorem d_Model_prepare_181 : decode prog_13_method_117_code 181 = .ok (.aload_n 0, 1) := by decide +kernel
theorem d_Model_prepare_182 : decode prog_13_method_117_code 182 = .ok (.getfield 171, 3) := by decide +kernel
theorem d_Model_prepare_185 : decode prog_13_method_117_code 185 = .ok (.iconst 4, 1) := by decide +kernel
theorem d_Model_prepare_186 : decode prog_13_method_117_code 186 = .ok (.iload_n 1, 1) := by decide +kernel
theorem d_Model_prepare_187 : decode prog_13_method_117_code 187 = .ok (.imul, 1) := by decide +kernel
theorem d_Model_prepare_188 : decode prog_13_method_117_code 188 = .ok (.iload 6, 2) := by decide +kernel
theorem d_Model_prepare_190 : decode prog_13_method_117_code 190 = .ok (.iadd, 1) := by decide +kernel
theorem d_Model_prepare_191 : decode prog_13_method_117_code 191 = .ok (.iload 5, 2) := by decide +kernel
theorem d_Model_prepare_193 : decode prog_13_method_117_code 193 = .ok (.iconst 2, 1) := by decide +kernel
theorem d_Model_prepare_194 : decode prog_13_method_117_code 194 = .ok (.iload 6, 2) := by decide +kernel
theorem d_Model_prepare_196 : decode prog_13_method_117_code 196 = .ok (.imul, 1) := by decide +kernel
theorem d_Model_prepare_197 : decode prog_13_method_117_code 197 = .ok (.ishr, 1) := by decide +kernel
theorem d_Model_prepare_198 : decode prog_13_method_117_code 198 = .ok (.iconst 3, 1) := by decide +kernel
theorem d_Model_prepare_199 : decode prog_13_method_117_code 199 = .ok (.iand, 1) := by decide +kernel
theorem d_Model_prepare_200 : decode prog_13_method_117_code 200 = .ok (.iastore, 1) := by decide +kernel
theorem d_Model_prepare_201 : decode prog_13_method_117_code 201 = .ok (.iinc 6 1, 3) := by decide +kernel
theorem d_Model_prepare_204 : decode prog_13_method_117_code 204 = .ok (.goto (-32), 3) := by decide +kernel
theorem d_Model_prepare_207 : decode prog_13_method_117_code 207 = .ok (.aload_n 0, 1) := by decide +kernel
theorem d_Model_prepare_208 : decode prog_13_method_117_code 208 = .ok (.dup, 1) := by decide +kernel
theorem d_Model_prepare_209 : decode prog_13_method_117_code 209 = .ok (.getfield 551, 3) := by decide +kernel
theorem d_Model_prepare_212 : decode prog_13_method_117_code 212 = .ok (.iconst 1, 1) := by decide +kernel
theorem d_Model_prepare_213 : decode prog_13_method_117_code 213 = .ok (.iadd, 1) := by decide +kernel
theorem d_Model_prepare_214 : decode prog_13_method_117_code 214 = .ok (.putfield 551, 3) := by decide +kernel
theorem d_Model_prepare_217 : decode prog_13_method_117_code 217 = .ok (.aload_n 0, 1) := by decide +kernel
theorem d_Model_prepare_218 : decode prog_13_method_117_code 218 = .ok (.getfield 165, 3) := by decide +kernel
theorem d_Model_prepare_221 : decode prog_13_method_117_code 221 = .ok (.iload_n 1, 1) := by decide +kernel
theorem d_Model_prepare_222 : decode prog_13_method_117_code 222 = .ok (.iaload, 1) := by decide +kernel
theorem d_Model_prepare_223 : decode prog_13_method_117_code 223 = .ok (.ireturn, 1) := by decide +kernel
theorem d_Model_findsNodes_0 : decode prog_13_method_105_code 0 = .ok (.iconst 0, 1) := by decide +kernel
theorem d_Model_findsNodes_1 : decode prog_13_method_105_code 1 = .ok (.istore_n 2, 1) := by decide +kernel
theorem d_Model_findsNodes_2 : decode prog_13_method_105_code 2 = .ok (.iconst 0, 1) := by decide +kernel
theorem d_Model_findsNodes_3 : decode prog_13_method_105_code 3 = .ok (.istore_n 3, 1) := by decide +kernel
theorem d_Model_findsNodes_4 : decode prog_13_method_105_code 4 = .ok (.iload_n 3, 1) := by decide +kernel
theorem d_Model_findsNodes_5 : decode prog_13_method_105_code 5 = .ok (.aload_n 0, 1) := by decide +kernel
theorem d_Model_findsNodes_6 : decode prog_13_method_105_code 6 = .ok (.getfield 159, 3) := by decide +kernel
theorem d_Model_findsNodes_9 : decode prog_13_method_105_code 9 = .ok (.iload_n 1, 1) := by decide +kernel
theorem d_Model_findsNodes_10 : decode prog_13_method_105_code 10 = .ok (.iaload, 1) := by decide +kernel
theorem d_Model_findsNodes_11 : decode prog_13_method_105_code 11 = .ok (.if_icmp .ge 254, 3) := by decide +kernel
theorem d_Model_findsNodes_14 : decode prog_13_method_105_code 14 = .ok (.iload_n 1, 1) := by decide +kernel
theorem d_Model_findsNodes_15 : decode prog_13_method_105_code 15 = .ok (.invokestatic 431, 3) := by decide +kernel
theorem d_Model_findsNodes_18 : decode prog_13_method_105_code 18 = .ok (.iload_n 3, 1) := by decide +kernel
theorem d_Model_findsNodes_19 : decode prog_13_method_105_code 19 = .ok (.iadd, 1) := by decide +kernel
theorem d_Model_findsNodes_20 : decode prog_13_method_105_code 20 = .ok (.istore 4, 2) := by decide +kernel
theorem d_Model_findsNodes_22 : decode prog_13_method_105_code 22 = .ok (.aload_n 0, 1) := by decide +kernel
theorem d_Model_findsNodes_23 : decode prog_13_method_105_code 23 = .ok (.getfield 194, 3) := by decide +kernel
theorem d_Model_findsNodes_26 : decode prog_13_method_105_code 26 = .ok (.iload_n 3, 1) := by decide +kernel
theorem d_Model_findsNodes_27 : decode prog_13_method_105_code 27 = .ok (.iconst (-1), 1) := by decide +kernel
theorem d_Model_findsNodes_28 : decode prog_13_method_105_code 28 = .ok (.iastore, 1) := by decide +kernel
theorem d_Model_findsNodes_29 : decode prog_13_method_105_code 29 = .ok (.aload_n 0, 1) := by decide +kernel
theorem d_Model_findsNodes_30 : decode prog_13_method_105_code 30 = .ok (.getfield 197, 3) := by decide +kernel
theorem d_Model_findsNodes_33 : decode prog_13_method_105_code 33 = .ok (.iload_n 3, 1) := by decide +kernel
theorem d_Model_findsNodes_34 : decode prog_13_method_105_code 34 = .ok (.iconst (-1), 1) := by decide +kernel
theorem d_Model_findsNodes_35 : decode prog_13_method_105_code 35 = .ok (.iastore, 1) := by decide +kernel
theorem d_Model_findsNodes_36 : decode prog_13_method_105_code 36 = .ok (.aload_n 0, 1) := by decide +kernel
theorem d_Model_findsNodes_37 : decode prog_13_method_105_code 37 = .ok (.getfield 144, 3) := by decide +kernel
theorem d_Model_findsNodes_40 : decode prog_13_method_105_code 40 = .ok (.iload 4, 2) := by decide +kernel
theorem d_Model_findsNodes_42 : decode prog_13_method_105_code 42 = .ok (.iaload, 1) := by decide +kernel
theorem d_Model_findsNodes_43 : decode prog_13_method_105_code 43 = .ok (.iconst 4, 1) := by decide +kernel
theorem d_Model_findsNodes_44 : decode prog_13_method_105_code 44 = .ok (.if_icmp .eq 15, 3) := by decide +kernel
theorem d_Model_findsNodes_47 : decode prog_13_method_105_code 47 = .ok (.aload_n 0, 1) := by decide +kernel
theorem d_Model_findsNodes_48 : decode prog_13_method_105_code 48 = .ok (.getfield 144, 3) := by decide +kernel
theorem d_Model_findsNodes_51 : decode prog_13_method_105_code 51 = .ok (.iload 4, 2) := by decide +kernel
theorem d_Model_findsNodes_53 : decode prog_13_method_105_code 53 = .ok (.iaload, 1) := by decide +kernel
theorem d_Model_findsNodes_54 : decode prog_13_method_105_code 54 = .ok (.bipush 7, 2) := by decide +kernel
theorem d_Model_findsNodes_56 : decode prog_13_method_105_code 56 = .ok (.if_icmp .ne 37, 3) := by decide +kernel
theorem d_Model_findsNodes_59 : decode prog_13_method_105_code 59 = .ok (.aload_n 0, 1) := by decide +kernel
theorem d_Model_findsNodes_60 : decode prog_13_method_105_code 60 = .ok (.getfield 197, 3) := by decide +kernel
theorem d_Model_findsNodes_63 : decode prog_13_method_105_code 63 = .ok (.iload_n 3, 1) := by decide +kernel
theorem d_Model_findsNodes_64 : decode prog_13_method_105_code 64 = .ok (.aload_n 0, 1) := by decide +kernel
theorem d_Model_findsNodes_65 : decode prog_13_method_105_code 65 = .ok (.getfield 206, 3) := by decide +kernel
theorem d_Model_findsNodes_68 : decode prog_13_method_105_code 68 = .ok (.iload_n 2, 1) := by decide +kernel
theorem d_Model_findsNodes_69 : decode prog_13_method_105_code 69 = .ok (.iconst 1, 1) := by decide +kernel
theorem d_Model_findsNodes_70 : decode prog_13_method_105_code 70 = .ok (.isub, 1) := by decide +kernel
theorem d_Model_findsNodes_71 : decode prog_13_method_105_code 71 = .ok (.iaload, 1) := by decide +kernel
theorem d_Model_findsNodes_72 : decode prog_13_method_105_code 72 = .ok (.iastore, 1) := by decide +kernel
theorem d_Model_findsNodes_73 : decode prog_13_method_105_code 73 = .ok (.aload_n 0, 1) := by decide +kernel
theorem d_Model_findsNodes_74 : decode prog_13_method_105_code 74 = .ok (.getfield 194, 3) := by decide +kernel
theorem d_Model_findsNodes_77 : decode prog_13_method_105_code 77 = .ok (.iload_n 3, 1) := by decide +kernel
theorem d_Model_findsNodes_78 : decode prog_13_method_105_code 78 = .ok (.aload_n 0, 1) := by decide +kernel
theorem d_Model_findsNodes_79 : decode prog_13_method_105_code 79 = .ok (.getfield 206, 3) := by decide +kernel
theorem d_Model_findsNodes_82 : decode prog_13_method_105_code 82 = .ok (.iload_n 2, 1) := by decide +kernel
theorem d_Model_findsNodes_83 : decode prog_13_method_105_code 83 = .ok (.iconst 2, 1) := by decide +kernel
theorem d_Model_findsNodes_84 : decode prog_13_method_105_code 84 = .ok (.isub, 1) := by decide +kernel
theorem d_Model_findsNodes_85 : decode prog_13_method_105_code 85 = .ok (.iaload, 1) := by decide +kernel
theorem d_Model_findsNodes_86 : decode prog_13_method_105_code 86 = .ok (.iastore, 1) := by decide +kernel
theorem d_Model_findsNodes_87 : decode prog_13_method_105_code 87 = .ok (.iinc 2 (-2), 3) := by decide +kernel
theorem d_Model_findsNodes_90 : decode prog_13_method_105_code 90 = .ok (.goto 30, 3) := by decide +kernel
theorem d_Model_findsNodes_93 : decode prog_13_method_105_code 93 = .ok (.aload_n 0, 1) := by decide +kernel
theorem d_Model_findsNodes_94 : decode prog_13_method_105_code 94 = .ok (.getfield 144, 3) := by decide +kernel
theorem d_Model_findsNodes_97 : decode prog_13_method_105_code 97 = .ok (.iload 4, 2) := by decide +kernel
theorem d_Model_findsNodes_99 : decode prog_13_method_105_code 99 = .ok (.iaload, 1) := by decide +kernel
theorem d_Model_findsNodes_100 : decode prog_13_method_105_code 100 = .ok (.ifCond .eq 20, 3) := by decide +kernel
theorem d_Model_findsNodes_103 : decode prog_13_method_105_code 103 = .ok (.aload_n 0, 1) := by decide +kernel
theorem d_Model_findsNodes_104 : decode prog_13_method_105_code 104 = .ok (.getfield 194, 3) := by decide +kernel
theorem d_Model_findsNodes_107 : decode prog_13_method_105_code 107 = .ok (.iload_n 3, 1) := by decide +kernel
theorem d_Model_findsNodes_108 : decode prog_13_method_105_code 108 = .ok (.aload_n 0, 1) := by decide +kernel
theorem d_Model_findsNodes_109 : decode prog_13_method_105_code 109 = .ok (.getfield 206, 3) := by decide +kernel
theorem d_Model_findsNodes_112 : decode prog_13_method_105_code 112 = .ok (.iload_n 2, 1) := by decide +kernel
theorem d_Model_findsNodes_113 : decode prog_13_method_105_code 113 = .ok (.iconst 1, 1) := by decide +kernel
theorem d_Model_findsNodes_114 : decode prog_13_method_105_code 114 = .ok (.isub, 1) := by decide +kernel
theorem d_Model_findsNodes_115 : decode prog_13_method_105_code 115 = .ok (.iaload, 1) := by decide +kernel
theorem d_Model_findsNodes_116 : decode prog_13_method_105_code 116 = .ok (.iastore, 1) := by decide +kernel
theorem d_Model_findsNodes_117 : decode prog_13_method_105_code 117 = .ok (.iinc 2 (-1), 3) := by decide +kernel
theorem d_Model_findsNodes_120 : decode prog_13_method_105_code 120 = .ok (.aload_n 0, 1) := by decide +kernel
theorem d_Model_findsNodes_121 : decode prog_13_method_105_code 121 = .ok (.getfield 194, 3) := by decide +kernel
theorem d_Model_findsNodes_124 : decode prog_13_method_105_code 124 = .ok (.iload_n 3, 1) := by decide +kernel
theorem d_Model_findsNodes_125 : decode prog_13_method_105_code 125 = .ok (.iaload, 1) := by decide +kernel
theorem d_Model_findsNodes_126 : decode prog_13_method_105_code 126 = .ok (.iconst (-1), 1) := by decide +kernel
theorem d_Model_findsNodes_127 : decode prog_13_method_105_code 127 = .ok (.if_icmp .ne 18, 3) := by decide +kernel
theorem d_Model_findsNodes_130 : decode prog_13_method_105_code 130 = .ok (.aload_n 0, 1) := by decide +kernel
theorem d_Model_findsNodes_131 : decode prog_13_method_105_code 131 = .ok (.getfield 7, 3) := by decide +kernel
theorem d_Model_findsNodes_134 : decode prog_13_method_105_code 134 = .ok (.aload_n 0, 1) := by decide +kernel
theorem d_Model_findsNodes_135 : decode prog_13_method_105_code 135 = .ok (.getfield 147, 3) := by decide +kernel
theorem d_Model_findsNodes_138 : decode prog_13_method_105_code 138 = .ok (.iload 4, 2) := by decide +kernel
theorem d_Model_findsNodes_140 : decode prog_13_method_105_code 140 = .ok (.iaload, 1) := by decide +kernel
theorem d_Model_findsNodes_141 : decode prog_13_method_105_code 141 = .ok (.iaload, 1) := by decide +kernel
theorem d_Model_findsNodes_142 : decode prog_13_method_105_code 142 = .ok (.goto 14, 3) := by decide +kernel
theorem d_Model_findsNodes_145 : decode prog_13_method_105_code 145 = .ok (.aload_n 0, 1) := by decide +kernel
theorem d_Model_findsNodes_146 : decode prog_13_method_105_code 146 = .ok (.getfield 200, 3) := by decide +kernel
theorem d_Model_findsNodes_149 : decode prog_13_method_105_code 149 = .ok (.aload_n 0, 1) := by decide +kernel
theorem d_Model_findsNodes_150 : decode prog_13_method_105_code 150 = .ok (.getfield 194, 3) := by decide +kernel
theorem d_Model_findsNodes_153 : decode prog_13_method_105_code 153 = .ok (.iload_n 3, 1) := by decide +kernel
theorem d_Model_findsNodes_154 : decode prog_13_method_105_code 154 = .ok (.iaload, 1) := by decide +kernel
theorem d_Model_findsNodes_155 : decode prog_13_method_105_code 155 = .ok (.iaload, 1) := by decide +kernel
theorem d_Model_findsNodes_156 : decode prog_13_method_105_code 156 = .ok (.istore 5, 2) := by decide +kernel
theorem d_Model_findsNodes_158 : decode prog_13_method_105_code 158 = .ok (.aload_n 0, 1) := by decide +kernel
theorem d_Model_findsNodes_159 : decode prog_13_method_105_code 159 = .ok (.getfield 144, 3) := by decide +kernel
theorem d_Model_findsNodes_162 : decode prog_13_method_105_code 162 = .ok (.iload 4, 2) := by decide +kernel
theorem d_Model_findsNodes_164 : decode prog_13_method_105_code 164 = .ok (.iaload, 1) := by decide +kernel
theorem d_Model_findsNodes_165 : decode prog_13_method_105_code 165 = .ok (.iconst 4, 1) := by decide +kernel
theorem d_Model_findsNodes_166 : decode prog_13_method_105_code 166 = .ok (.if_icmp .ne 31, 3) := by decide +kernel
theorem d_Model_findsNodes_169 : decode prog_13_method_105_code 169 = .ok (.aload_n 0, 1) := by decide +kernel
theorem d_Model_findsNodes_170 : decode prog_13_method_105_code 170 = .ok (.getfield 147, 3) := by decide +kernel
theorem d_Model_findsNodes_173 : decode prog_13_method_105_code 173 = .ok (.iload 4, 2) := by decide +kernel
theorem d_Model_findsNodes_175 : decode prog_13_method_105_code 175 = .ok (.iaload, 1) := by decide +kernel
theorem d_Model_findsNodes_176 : decode prog_13_method_105_code 176 = .ok (.iconst 2, 1) := by decide +kernel
theorem d_Model_findsNodes_177 : decode prog_13_method_105_code 177 = .ok (.if_icmp .gt 20, 3) := by decide +kernel
theorem d_Model_findsNodes_180 : decode prog_13_method_105_code 180 = .ok (.iload 5, 2) := by decide +kernel
theorem d_Model_findsNodes_182 : decode prog_13_method_105_code 182 = .ok (.aload_n 0, 1) := by decide +kernel
theorem d_Model_findsNodes_183 : decode prog_13_method_105_code 183 = .ok (.getfield 200, 3) := by decide +kernel
theorem d_Model_findsNodes_186 : decode prog_13_method_105_code 186 = .ok (.aload_n 0, 1) := by decide +kernel
theorem d_Model_findsNodes_187 : decode prog_13_method_105_code 187 = .ok (.getfield 197, 3) := by decide +kernel
theorem d_Model_findsNodes_190 : decode prog_13_method_105_code 190 = .ok (.iload_n 3, 1) := by decide +kernel
theorem d_Model_findsNodes_191 : decode prog_13_method_105_code 191 = .ok (.iaload, 1) := by decide +kernel
theorem d_Model_findsNodes_192 : decode prog_13_method_105_code 192 = .ok (.iaload, 1) := by decide +kernel
theorem d_Model_findsNodes_193 : decode prog_13_method_105_code 193 = .ok (.iadd, 1) := by decide +kernel
theorem d_Model_findsNodes_194 : decode prog_13_method_105_code 194 = .ok (.goto 5, 3) := by decide +kernel
theorem d_Model_findsNodes_197 : decode prog_13_method_105_code 197 = .ok (.iload 5, 2) := by decide +kernel
theorem d_Model_findsNodes_199 : decode prog_13_method_105_code 199 = .ok (.istore 5, 2) := by decide +kernel
theorem d_Model_findsNodes_201 : decode prog_13_method_105_code 201 = .ok (.aload_n 0, 1) := by decide +kernel
theorem d_Model_findsNodes_202 : decode prog_13_method_105_code 202 = .ok (.getfield 200, 3) := by decide +kernel
theorem d_Model_findsNodes_205 : decode prog_13_method_105_code 205 = .ok (.iload_n 3, 1) := by decide +kernel
theorem d_Model_findsNodes_206 : decode prog_13_method_105_code 206 = .ok (.aload_n 0, 1) := by decide +kernel
theorem d_Model_findsNodes_207 : decode prog_13_method_105_code 207 = .ok (.getfield 144, 3) := by decide +kernel
theorem d_Model_findsNodes_210 : decode prog_13_method_105_code 210 = .ok (.iload 4, 2) := by decide +kernel
theorem d_Model_findsNodes_212 : decode prog_13_method_105_code 212 = .ok (.iaload, 1) := by decide +kernel
theorem d_Model_findsNodes_213 : decode prog_13_method_105_code 213 = .ok (.iconst 5, 1) := by decide +kernel
theorem d_Model_findsNodes_214 : decode prog_13_method_105_code 214 = .ok (.if_icmp .ne 16, 3) := by decide +kernel
theorem d_Model_findsNodes_217 : decode prog_13_method_105_code 217 = .ok (.aload_n 0, 1) := by decide +kernel
theorem d_Model_findsNodes_218 : decode prog_13_method_105_code 218 = .ok (.getfield 147, 3) := by decide +kernel
theorem d_Model_findsNodes_221 : decode prog_13_method_105_code 221 = .ok (.iload 4, 2) := by decide +kernel
theorem d_Model_findsNodes_223 : decode prog_13_method_105_code 223 = .ok (.iaload, 1) := by decide +kernel
theorem d_Model_findsNodes_224 : decode prog_13_method_105_code 224 = .ok (.invokestatic 422, 3) := by decide +kernel
theorem d_Model_findsNodes_227 : decode prog_13_method_105_code 227 = .ok (.goto 21, 3) := by decide +kernel
theorem d_Model_findsNodes_230 : decode prog_13_method_105_code 230 = .ok (.aload_n 0, 1) := by decide +kernel
theorem d_Model_findsNodes_231 : decode prog_13_method_105_code 231 = .ok (.getfield 144, 3) := by decide +kernel
theorem d_Model_findsNodes_234 : decode prog_13_method_105_code 234 = .ok (.iload 4, 2) := by decide +kernel
theorem d_Model_findsNodes_236 : decode prog_13_method_105_code 236 = .ok (.iaload, 1) := by decide +kernel
theorem d_Model_findsNodes_237 : decode prog_13_method_105_code 237 = .ok (.bipush 6, 2) := by decide +kernel
theorem d_Model_findsNodes_239 : decode prog_13_method_105_code 239 = .ok (.if_icmp .ne 7, 3) := by decide +kernel
theorem d_Model_findsNodes_242 : decode prog_13_method_105_code 242 = .ok (.iconst 2, 1) := by decide +kernel
theorem d_Model_findsNodes_243 : decode prog_13_method_105_code 243 = .ok (.goto 5, 3) := by decide +kernel
theorem d_Model_findsNodes_246 : decode prog_13_method_105_code 246 = .ok (.iload 5, 2) := by decide +kernel
theorem d_Model_findsNodes_248 : decode prog_13_method_105_code 248 = .ok (.iastore, 1) := by decide +kernel
theorem d_Model_findsNodes_249 : decode prog_13_method_105_code 249 = .ok (.aload_n 0, 1) := by decide +kernel
theorem d_Model_findsNodes_250 : decode prog_13_method_105_code 250 = .ok (.getfield 206, 3) := by decide +kernel
theorem d_Model_findsNodes_253 : decode prog_13_method_105_code 253 = .ok (.iload_n 2, 1) := by decide +kernel
theorem d_Model_findsNodes_254 : decode prog_13_method_105_code 254 = .ok (.iload_n 3, 1) := by decide +kernel
theorem d_Model_findsNodes_255 : decode prog_13_method_105_code 255 = .ok (.iastore, 1) := by decide +kernel
theorem d_Model_findsNodes_256 : decode prog_13_method_105_code 256 = .ok (.iinc 2 1, 3) := by decide +kernel
theorem d_Model_findsNodes_259 : decode prog_13_method_105_code 259 = .ok (.iinc 3 1, 3) := by decide +kernel
theorem d_Model_findsNodes_262 : decode prog_13_method_105_code 262 = .ok (.goto (-258), 3) := by decide +kernel
theorem d_Model_findsNodes_265 : decode prog_13_method_105_code 265 = .ok (.return_, 1) := by decide +kernel
theorem d_Model_firstJoin_0 : decode prog_13_method_108_code 0 = .ok (.aload_n 0, 1) := by decide +kernel
theorem d_Model_firstJoin_1 : decode prog_13_method_108_code 1 = .ok (.getfield 159, 3) := by decide +kernel
theorem d_Model_firstJoin_4 : decode prog_13_method_108_code 4 = .ok (.iload_n 1, 1) := by decide +kernel
theorem d_Model_firstJoin_5 : decode prog_13_method_108_code 5 = .ok (.iaload, 1) := by decide +kernel
theorem d_Model_firstJoin_6 : decode prog_13_method_108_code 6 = .ok (.iconst 1, 1) := by decide +kernel
theorem d_Model_firstJoin_7 : decode prog_13_method_108_code 7 = .ok (.isub, 1) := by decide +kernel
theorem d_Model_firstJoin_8 : decode prog_13_method_108_code 8 = .ok (.istore_n 2, 1) := by decide +kernel
theorem d_Model_firstJoin_9 : decode prog_13_method_108_code 9 = .ok (.aload_n 0, 1) := by decide +kernel
theorem d_Model_firstJoin_10 : decode prog_13_method_108_code 10 = .ok (.getfield 144, 3) := by decide +kernel
theorem d_Model_firstJoin_13 : decode prog_13_method_108_code 13 = .ok (.iload_n 1, 1) := by decide +kernel
theorem d_Model_firstJoin_14 : decode prog_13_method_108_code 14 = .ok (.invokestatic 431, 3) := by decide +kernel
theorem d_Model_firstJoin_17 : decode prog_13_method_108_code 17 = .ok (.iload_n 2, 1) := by decide +kernel
theorem d_Model_firstJoin_18 : decode prog_13_method_108_code 18 = .ok (.iadd, 1) := by decide +kernel
theorem d_Model_firstJoin_19 : decode prog_13_method_108_code 19 = .ok (.iaload, 1) := by decide +kernel
theorem d_Model_firstJoin_20 : decode prog_13_method_108_code 20 = .ok (.istore_n 3, 1) := by decide +kernel
theorem d_Model_firstJoin_21 : decode prog_13_method_108_code 21 = .ok (.iload_n 3, 1) := by decide +kernel
theorem d_Model_firstJoin_22 : decode prog_13_method_108_code 22 = .ok (.invokestatic 504, 3) := by decide +kernel
theorem d_Model_firstJoin_25 : decode prog_13_method_108_code 25 = .ok (.ifCond .ne 14, 3) := by decide +kernel
theorem d_Model_firstJoin_28 : decode prog_13_method_108_code 28 = .ok (.iload_n 3, 1) := by decide +kernel
theorem d_Model_firstJoin_29 : decode prog_13_method_108_code 29 = .ok (.iconst 5, 1) := by decide +kernel
theorem d_Model_firstJoin_30 : decode prog_13_method_108_code 30 = .ok (.if_icmp .eq 9, 3) := by decide +kernel
theorem d_Model_firstJoin_33 : decode prog_13_method_108_code 33 = .ok (.iload_n 3, 1) := by decide +kernel
theorem d_Model_firstJoin_34 : decode prog_13_method_108_code 34 = .ok (.bipush 6, 2) := by decide +kernel
theorem d_Model_firstJoin_36 : decode prog_13_method_108_code 36 = .ok (.if_icmp .ne 25, 3) := by decide +kernel
theorem d_Model_firstJoin_39 : decode prog_13_method_108_code 39 = .ok (.aload_n 0, 1) := by decide +kernel
theorem d_Model_firstJoin_40 : decode prog_13_method_108_code 40 = .ok (.getfield 194, 3) := by decide +kernel
theorem d_Model_firstJoin_43 : decode prog_13_method_108_code 43 = .ok (.iload_n 2, 1) := by decide +kernel
theorem d_Model_firstJoin_44 : decode prog_13_method_108_code 44 = .ok (.iaload, 1) := by decide +kernel
theorem d_Model_firstJoin_45 : decode prog_13_method_108_code 45 = .ok (.istore_n 2, 1) := by decide +kernel
theorem d_Model_firstJoin_46 : decode prog_13_method_108_code 46 = .ok (.aload_n 0, 1) := by decide +kernel
theorem d_Model_firstJoin_47 : decode prog_13_method_108_code 47 = .ok (.getfield 144, 3) := by decide +kernel
theorem d_Model_firstJoin_50 : decode prog_13_method_108_code 50 = .ok (.iload_n 1, 1) := by decide +kernel
theorem d_Model_firstJoin_51 : decode prog_13_method_108_code 51 = .ok (.invokestatic 431, 3) := by decide +kernel
theorem d_Model_firstJoin_54 : decode prog_13_method_108_code 54 = .ok (.iload_n 2, 1) := by decide +kernel
theorem d_Model_firstJoin_55 : decode prog_13_method_108_code 55 = .ok (.iadd, 1) := by decide +kernel
theorem d_Model_firstJoin_56 : decode prog_13_method_108_code 56 = .ok (.iaload, 1) := by decide +kernel
theorem d_Model_firstJoin_57 : decode prog_13_method_108_code 57 = .ok (.istore_n 3, 1) := by decide +kernel
theorem d_Model_firstJoin_58 : decode prog_13_method_108_code 58 = .ok (.goto (-37), 3) := by decide +kernel
theorem d_Model_firstJoin_61 : decode prog_13_method_108_code 61 = .ok (.aload_n 0, 1) := by decide +kernel
theorem d_Model_firstJoin_62 : decode prog_13_method_108_code 62 = .ok (.iload_n 1, 1) := by decide +kernel
theorem d_Model_firstJoin_63 : decode prog_13_method_108_code 63 = .ok (.iload_n 2, 1) := by decide +kernel
theorem d_Model_firstJoin_64 : decode prog_13_method_108_code 64 = .ok (.invokevirtual 507, 3) := by decide +kernel
theorem d_Model_firstJoin_67 : decode prog_13_method_108_code 67 = .ok (.ifCond .eq 7, 3) := by decide +kernel
theorem d_Model_firstJoin_70 : decode prog_13_method_108_code 70 = .ok (.iload_n 2, 1) := by decide +kernel
theorem d_Model_firstJoin_71 : decode prog_13_method_108_code 71 = .ok (.goto 4, 3) := by decide +kernel
theorem d_Model_firstJoin_74 : decode prog_13_method_108_code 74 = .ok (.iconst (-1), 1) := by decide +kernel
theorem d_Model_firstJoin_75 : decode prog_13_method_108_code 75 = .ok (.ireturn, 1) := by decide +kernel
theorem d_Model_isFilter_0 : decode prog_13_method_107_code 0 = .ok (.iload_n 0, 1) := by decide +kernel
theorem d_Model_isFilter_1 : decode prog_13_method_107_code 1 = .ok (.iconst 1, 1) := by decide +kernel
theorem d_Model_isFilter_2 : decode prog_13_method_107_code 2 = .ok (.if_icmp .eq 8, 3) := by decide +kernel
theorem d_Model_isFilter_5 : decode prog_13_method_107_code 5 = .ok (.iload_n 0, 1) := by decide +kernel
theorem d_Model_isFilter_6 : decode prog_13_method_107_code 6 = .ok (.iconst 2, 1) := by decide +kernel
theorem d_Model_isFilter_7 : decode prog_13_method_107_code 7 = .ok (.if_icmp .ne 7, 3) := by decide +kernel
theorem d_Model_isFilter_10 : decode prog_13_method_107_code 10 = .ok (.iconst 1, 1) := by decide +kernel
theorem d_Model_isFilter_11 : decode prog_13_method_107_code 11 = .ok (.goto 4, 3) := by decide +kernel
theorem d_Model_isFilter_14 : decode prog_13_method_107_code 14 = .ok (.iconst 0, 1) := by decide +kernel
theorem d_Model_isFilter_15 : decode prog_13_method_107_code 15 = .ok (.ireturn, 1) := by decide +kernel
theorem d_Model_isInner_0 : decode prog_13_method_106_code 0 = .ok (.aload_n 0, 1) := by decide +kernel
theorem d_Model_isInner_1 : decode prog_13_method_106_code 1 = .ok (.getfield 144, 3) := by decide +kernel
theorem d_Model_isInner_4 : decode prog_13_method_106_code 4 = .ok (.iload_n 1, 1) := by decide +kernel
theorem d_Model_isInner_5 : decode prog_13_method_106_code 5 = .ok (.invokestatic 431, 3) := by decide +kernel
theorem d_Model_isInner_8 : decode prog_13_method_106_code 8 = .ok (.iload_n 2, 1) := by decide +kernel
theorem d_Model_isInner_9 : decode prog_13_method_106_code 9 = .ok (.iadd, 1) := by decide +kernel
theorem d_Model_isInner_10 : decode prog_13_method_106_code 10 = .ok (.iaload, 1) := by decide +kernel
theorem d_Model_isInner_11 : decode prog_13_method_106_code 11 = .ok (.iconst 4, 1) := by decide +kernel
theorem d_Model_isInner_12 : decode prog_13_method_106_code 12 = .ok (.if_icmp .ne 21, 3) := by decide +kernel
theorem d_Model_isInner_15 : decode prog_13_method_106_code 15 = .ok (.aload_n 0, 1) := by decide +kernel
theorem d_Model_isInner_16 : decode prog_13_method_106_code 16 = .ok (.getfield 147, 3) := by decide +kernel
theorem d_Model_isInner_19 : decode prog_13_method_106_code 19 = .ok (.iload_n 1, 1) := by decide +kernel
theorem d_Model_isInner_20 : decode prog_13_method_106_code 20 = .ok (.invokestatic 431, 3) := by decide +kernel
theorem d_Model_isInner_23 : decode prog_13_method_106_code 23 = .ok (.iload_n 2, 1) := by decide +kernel
theorem d_Model_isInner_24 : decode prog_13_method_106_code 24 = .ok (.iadd, 1) := by decide +kernel
theorem d_Model_isInner_25 : decode prog_13_method_106_code 25 = .ok (.iaload, 1) := by decide +kernel
theorem d_Model_isInner_26 : decode prog_13_method_106_code 26 = .ok (.ifCond .ne 7, 3) := by decide +kernel
theorem d_Model_isInner_29 : decode prog_13_method_106_code 29 = .ok (.iconst 1, 1) := by decide +kernel
theorem d_Model_isInner_30 : decode prog_13_method_106_code 30 = .ok (.goto 4, 3) := by decide +kernel
theorem d_Model_isInner_33 : decode prog_13_method_106_code 33 = .ok (.iconst 0, 1) := by decide +kernel
theorem d_Model_isInner_34 : decode prog_13_method_106_code 34 = .ok (.ireturn, 1) := by decide +kernel
theorem d_Model_findsBlock_0 : decode prog_13_method_110_code 0 = .ok (.aload_n 0, 1) := by decide +kernel
theorem d_Model_findsBlock_1 : decode prog_13_method_110_code 1 = .ok (.iconst 0, 1) := by decide +kernel
theorem d_Model_findsBlock_2 : decode prog_13_method_110_code 2 = .ok (.putfield 510, 3) := by decide +kernel
theorem d_Model_findsBlock_5 : decode prog_13_method_110_code 5 = .ok (.aload_n 0, 1) := by decide +kernel
theorem d_Model_findsBlock_6 : decode prog_13_method_110_code 6 = .ok (.iconst 0, 1) := by decide +kernel
theorem d_Model_findsBlock_7 : decode prog_13_method_110_code 7 = .ok (.putfield 513, 3) := by decide +kernel
theorem d_Model_findsBlock_10 : decode prog_13_method_110_code 10 = .ok (.aload_n 0, 1) := by decide +kernel
theorem d_Model_findsBlock_11 : decode prog_13_method_110_code 11 = .ok (.getfield 206, 3) := by decide +kernel
theorem d_Model_findsBlock_14 : decode prog_13_method_110_code 14 = .ok (.iconst 0, 1) := by decide +kernel
theorem d_Model_findsBlock_15 : decode prog_13_method_110_code 15 = .ok (.iload_n 2, 1) := by decide +kernel
theorem d_Model_findsBlock_16 : decode prog_13_method_110_code 16 = .ok (.iastore, 1) := by decide +kernel
theorem d_Model_findsBlock_17 : decode prog_13_method_110_code 17 = .ok (.aload_n 0, 1) := by decide +kernel
theorem d_Model_findsBlock_18 : decode prog_13_method_110_code 18 = .ok (.getfield 203, 3) := by decide +kernel
theorem d_Model_findsBlock_21 : decode prog_13_method_110_code 21 = .ok (.iload_n 2, 1) := by decide +kernel
theorem d_Model_findsBlock_22 : decode prog_13_method_110_code 22 = .ok (.iconst 0, 1) := by decide +kernel
theorem d_Model_findsBlock_23 : decode prog_13_method_110_code 23 = .ok (.iastore, 1) := by decide +kernel
theorem d_Model_findsBlock_24 : decode prog_13_method_110_code 24 = .ok (.iconst 1, 1) := by decide +kernel
theorem d_Model_findsBlock_25 : decode prog_13_method_110_code 25 = .ok (.istore_n 3, 1) := by decide +kernel
theorem d_Model_findsBlock_26 : decode prog_13_method_110_code 26 = .ok (.iload_n 3, 1) := by decide +kernel
theorem d_Model_findsBlock_27 : decode prog_13_method_110_code 27 = .ok (.ifCond .le 315, 3) := by decide +kernel
theorem d_Model_findsBlock_30 : decode prog_13_method_110_code 30 = .ok (.iinc 3 (-1), 3) := by decide +kernel
theorem d_Model_findsBlock_33 : decode prog_13_method_110_code 33 = .ok (.aload_n 0, 1) := by decide +kernel
theorem d_Model_findsBlock_34 : decode prog_13_method_110_code 34 = .ok (.getfield 206, 3) := by decide +kernel
theorem d_Model_findsBlock_37 : decode prog_13_method_110_code 37 = .ok (.iload_n 3, 1) := by decide +kernel
theorem d_Model_findsBlock_38 : decode prog_13_method_110_code 38 = .ok (.iaload, 1) := by decide +kernel
theorem d_Model_findsBlock_39 : decode prog_13_method_110_code 39 = .ok (.istore 4, 2) := by decide +kernel
theorem d_Model_findsBlock_41 : decode prog_13_method_110_code 41 = .ok (.iload_n 1, 1) := by decide +kernel
theorem d_Model_findsBlock_42 : decode prog_13_method_110_code 42 = .ok (.invokestatic 431, 3) := by decide +kernel
theorem d_Model_findsBlock_45 : decode prog_13_method_110_code 45 = .ok (.iload 4, 2) := by decide +kernel
theorem d_Model_findsBlock_47 : decode prog_13_method_110_code 47 = .ok (.iadd, 1) := by decide +kernel
theorem d_Model_findsBlock_48 : decode prog_13_method_110_code 48 = .ok (.istore 5, 2) := by decide +kernel
theorem d_Model_findsBlock_50 : decode prog_13_method_110_code 50 = .ok (.aload_n 0, 1) := by decide +kernel
theorem d_Model_findsBlock_51 : decode prog_13_method_110_code 51 = .ok (.iload_n 1, 1) := by decide +kernel
theorem d_Model_findsBlock_52 : decode prog_13_method_110_code 52 = .ok (.iload 4, 2) := by decide +kernel
theorem d_Model_findsBlock_54 : decode prog_13_method_110_code 54 = .ok (.invokevirtual 507, 3) := by decide +kernel
theorem d_Model_findsBlock_57 : decode prog_13_method_110_code 57 = .ok (.ifCond .eq 156, 3) := by decide +kernel
theorem d_Model_findsBlock_60 : decode prog_13_method_110_code 60 = .ok (.aload_n 0, 1) := by decide +kernel
theorem d_Model_findsBlock_61 : decode prog_13_method_110_code 61 = .ok (.getfield 203, 3) := by decide +kernel
theorem d_Model_findsBlock_64 : decode prog_13_method_110_code 64 = .ok (.aload_n 0, 1) := by decide +kernel
theorem d_Model_findsBlock_65 : decode prog_13_method_110_code 65 = .ok (.getfield 194, 3) := by decide +kernel
theorem d_Model_findsBlock_68 : decode prog_13_method_110_code 68 = .ok (.iload 4, 2) := by decide +kernel
theorem d_Model_findsBlock_70 : decode prog_13_method_110_code 70 = .ok (.iaload, 1) := by decide +kernel
theorem d_Model_findsBlock_71 : decode prog_13_method_110_code 71 = .ok (.aload_n 0, 1) := by decide +kernel
theorem d_Model_findsBlock_72 : decode prog_13_method_110_code 72 = .ok (.getfield 203, 3) := by decide +kernel
theorem d_Model_findsBlock_75 : decode prog_13_method_110_code 75 = .ok (.iload 4, 2) := by decide +kernel
theorem d_Model_findsBlock_77 : decode prog_13_method_110_code 77 = .ok (.iaload, 1) := by decide +kernel
theorem d_Model_findsBlock_78 : decode prog_13_method_110_code 78 = .ok (.iastore, 1) := by decide +kernel
theorem d_Model_findsBlock_79 : decode prog_13_method_110_code 79 = .ok (.aload_n 0, 1) := by decide +kernel
theorem d_Model_findsBlock_80 : decode prog_13_method_110_code 80 = .ok (.getfield 203, 3) := by decide +kernel
theorem d_Model_findsBlock_83 : decode prog_13_method_110_code 83 = .ok (.aload_n 0, 1) := by decide +kernel
theorem d_Model_findsBlock_84 : decode prog_13_method_110_code 84 = .ok (.getfield 197, 3) := by decide +kernel
theorem d_Model_findsBlock_87 : decode prog_13_method_110_code 87 = .ok (.iload 4, 2) := by decide +kernel
theorem d_Model_findsBlock_89 : decode prog_13_method_110_code 89 = .ok (.iaload, 1) := by decide +kernel
theorem d_Model_findsBlock_90 : decode prog_13_method_110_code 90 = .ok (.aload_n 0, 1) := by decide +kernel
theorem d_Model_findsBlock_91 : decode prog_13_method_110_code 91 = .ok (.getfield 203, 3) := by decide +kernel
theorem d_Model_findsBlock_94 : decode prog_13_method_110_code 94 = .ok (.iload 4, 2) := by decide +kernel
theorem d_Model_findsBlock_96 : decode prog_13_method_110_code 96 = .ok (.iaload, 1) := by decide +kernel
theorem d_Model_findsBlock_97 : decode prog_13_method_110_code 97 = .ok (.aload_n 0, 1) := by decide +kernel
theorem d_Model_findsBlock_98 : decode prog_13_method_110_code 98 = .ok (.getfield 200, 3) := by decide +kernel
theorem d_Model_findsBlock_101 : decode prog_13_method_110_code 101 = .ok (.aload_n 0, 1) := by decide +kernel
theorem d_Model_findsBlock_102 : decode prog_13_method_110_code 102 = .ok (.getfield 194, 3) := by decide +kernel
theorem d_Model_findsBlock_105 : decode prog_13_method_110_code 105 = .ok (.iload 4, 2) := by decide +kernel
theorem d_Model_findsBlock_107 : decode prog_13_method_110_code 107 = .ok (.iaload, 1) := by decide +kernel
theorem d_Model_findsBlock_108 : decode prog_13_method_110_code 108 = .ok (.iaload, 1) := by decide +kernel
theorem d_Model_findsBlock_109 : decode prog_13_method_110_code 109 = .ok (.iadd, 1) := by decide +kernel
theorem d_Model_findsBlock_110 : decode prog_13_method_110_code 110 = .ok (.iastore, 1) := by decide +kernel
theorem d_Model_findsBlock_111 : decode prog_13_method_110_code 111 = .ok (.aload_n 0, 1) := by decide +kernel
theorem d_Model_findsBlock_112 : decode prog_13_method_110_code 112 = .ok (.getfield 219, 3) := by decide +kernel
theorem d_Model_findsBlock_115 : decode prog_13_method_110_code 115 = .ok (.aload_n 0, 1) := by decide +kernel
theorem d_Model_findsBlock_116 : decode prog_13_method_110_code 116 = .ok (.getfield 513, 3) := by decide +kernel
theorem d_Model_findsBlock_119 : decode prog_13_method_110_code 119 = .ok (.aload_n 0, 1) := by decide +kernel
theorem d_Model_findsBlock_120 : decode prog_13_method_110_code 120 = .ok (.getfield 203, 3) := by decide +kernel
theorem d_Model_findsBlock_123 : decode prog_13_method_110_code 123 = .ok (.aload_n 0, 1) := by decide +kernel
theorem d_Model_findsBlock_124 : decode prog_13_method_110_code 124 = .ok (.getfield 194, 3) := by decide +kernel
theorem d_Model_findsBlock_127 : decode prog_13_method_110_code 127 = .ok (.iload 4, 2) := by decide +kernel
theorem d_Model_findsBlock_129 : decode prog_13_method_110_code 129 = .ok (.iaload, 1) := by decide +kernel
theorem d_Model_findsBlock_130 : decode prog_13_method_110_code 130 = .ok (.iaload, 1) := by decide +kernel
theorem d_Model_findsBlock_131 : decode prog_13_method_110_code 131 = .ok (.aload_n 0, 1) := by decide +kernel
theorem d_Model_findsBlock_132 : decode prog_13_method_110_code 132 = .ok (.getfield 150, 3) := by decide +kernel
theorem d_Model_findsBlock_135 : decode prog_13_method_110_code 135 = .ok (.iload 5, 2) := by decide +kernel
theorem d_Model_findsBlock_137 : decode prog_13_method_110_code 137 = .ok (.iaload, 1) := by decide +kernel
theorem d_Model_findsBlock_138 : decode prog_13_method_110_code 138 = .ok (.iadd, 1) := by decide +kernel
theorem d_Model_findsBlock_139 : decode prog_13_method_110_code 139 = .ok (.iastore, 1) := by decide +kernel
theorem d_Model_findsBlock_140 : decode prog_13_method_110_code 140 = .ok (.aload_n 0, 1) := by decide +kernel
theorem d_Model_findsBlock_141 : decode prog_13_method_110_code 141 = .ok (.getfield 222, 3) := by decide +kernel
theorem d_Model_findsBlock_144 : decode prog_13_method_110_code 144 = .ok (.aload_n 0, 1) := by decide +kernel
theorem d_Model_findsBlock_145 : decode prog_13_method_110_code 145 = .ok (.getfield 513, 3) := by decide +kernel
theorem d_Model_findsBlock_148 : decode prog_13_method_110_code 148 = .ok (.aload_n 0, 1) := by decide +kernel
theorem d_Model_findsBlock_149 : decode prog_13_method_110_code 149 = .ok (.getfield 203, 3) := by decide +kernel
theorem d_Model_findsBlock_152 : decode prog_13_method_110_code 152 = .ok (.aload_n 0, 1) := by decide +kernel
theorem d_Model_findsBlock_153 : decode prog_13_method_110_code 153 = .ok (.getfield 197, 3) := by decide +kernel
theorem d_Model_findsBlock_156 : decode prog_13_method_110_code 156 = .ok (.iload 4, 2) := by decide +kernel
theorem d_Model_findsBlock_158 : decode prog_13_method_110_code 158 = .ok (.iaload, 1) := by decide +kernel
theorem d_Model_findsBlock_159 : decode prog_13_method_110_code 159 = .ok (.iaload, 1) := by decide +kernel
theorem d_Model_findsBlock_160 : decode prog_13_method_110_code 160 = .ok (.aload_n 0, 1) := by decide +kernel
theorem d_Model_findsBlock_161 : decode prog_13_method_110_code 161 = .ok (.getfield 153, 3) := by decide +kernel
theorem d_Model_findsBlock_164 : decode prog_13_method_110_code 164 = .ok (.iload 5, 2) := by decide +kernel
theorem d_Model_findsBlock_166 : decode prog_13_method_110_code 166 = .ok (.iaload, 1) := by decide +kernel
theorem d_Model_findsBlock_167 : decode prog_13_method_110_code 167 = .ok (.iadd, 1) := by decide +kernel
theorem d_Model_findsBlock_168 : decode prog_13_method_110_code 168 = .ok (.iastore, 1) := by decide +kernel
theorem d_Model_findsBlock_169 : decode prog_13_method_110_code 169 = .ok (.aload_n 0, 1) := by decide +kernel
theorem d_Model_findsBlock_170 : decode prog_13_method_110_code 170 = .ok (.dup, 1) := by decide +kernel
theorem d_Model_findsBlock_171 : decode prog_13_method_110_code 171 = .ok (.getfield 513, 3) := by decide +kernel
theorem d_Model_findsBlock_174 : decode prog_13_method_110_code 174 = .ok (.iconst 1, 1) := by decide +kernel
theorem d_Model_findsBlock_175 : decode prog_13_method_110_code 175 = .ok (.iadd, 1) := by decide +kernel
theorem d_Model_findsBlock_176 : decode prog_13_method_110_code 176 = .ok (.putfield 513, 3) := by decide +kernel
theorem d_Model_findsBlock_179 : decode prog_13_method_110_code 179 = .ok (.aload_n 0, 1) := by decide +kernel
theorem d_Model_findsBlock_180 : decode prog_13_method_110_code 180 = .ok (.getfield 206, 3) := by decide +kernel
theorem d_Model_findsBlock_183 : decode prog_13_method_110_code 183 = .ok (.iload_n 3, 1) := by decide +kernel
theorem d_Model_findsBlock_184 : decode prog_13_method_110_code 184 = .ok (.aload_n 0, 1) := by decide +kernel
theorem d_Model_findsBlock_185 : decode prog_13_method_110_code 185 = .ok (.getfield 197, 3) := by decide +kernel
theorem d_Model_findsBlock_188 : decode prog_13_method_110_code 188 = .ok (.iload 4, 2) := by decide +kernel
theorem d_Model_findsBlock_190 : decode prog_13_method_110_code 190 = .ok (.iaload, 1) := by decide +kernel
theorem d_Model_findsBlock_191 : decode prog_13_method_110_code 191 = .ok (.iastore, 1) := by decide +kernel
theorem d_Model_findsBlock_192 : decode prog_13_method_110_code 192 = .ok (.aload_n 0, 1) := by decide +kernel
theorem d_Model_findsBlock_193 : decode prog_13_method_110_code 193 = .ok (.getfield 206, 3) := by decide +kernel
theorem d_Model_findsBlock_196 : decode prog_13_method_110_code 196 = .ok (.iload_n 3, 1) := by decide +kernel
theorem d_Model_findsBlock_197 : decode prog_13_method_110_code 197 = .ok (.iconst 1, 1) := by decide +kernel
theorem d_Model_findsBlock_198 : decode prog_13_method_110_code 198 = .ok (.iadd, 1) := by decide +kernel
theorem d_Model_findsBlock_199 : decode prog_13_method_110_code 199 = .ok (.aload_n 0, 1) := by decide +kernel
theorem d_Model_findsBlock_200 : decode prog_13_method_110_code 200 = .ok (.getfield 194, 3) := by decide +kernel
theorem d_Model_findsBlock_203 : decode prog_13_method_110_code 203 = .ok (.iload 4, 2) := by decide +kernel
theorem d_Model_findsBlock_205 : decode prog_13_method_110_code 205 = .ok (.iaload, 1) := by decide +kernel
theorem d_Model_findsBlock_206 : decode prog_13_method_110_code 206 = .ok (.iastore, 1) := by decide +kernel
theorem d_Model_findsBlock_207 : decode prog_13_method_110_code 207 = .ok (.iinc 3 2, 3) := by decide +kernel
theorem d_Model_findsBlock_210 : decode prog_13_method_110_code 210 = .ok (.goto 129, 3) := by decide +kernel
theorem d_Model_findsBlock_213 : decode prog_13_method_110_code 213 = .ok (.aload_n 0, 1) := by decide +kernel
theorem d_Model_findsBlock_214 : decode prog_13_method_110_code 214 = .ok (.getfield 144, 3) := by decide +kernel
theorem d_Model_findsBlock_217 : decode prog_13_method_110_code 217 = .ok (.iload 5, 2) := by decide +kernel
theorem d_Model_findsBlock_219 : decode prog_13_method_110_code 219 = .ok (.iaload, 1) := by decide +kernel
theorem d_Model_findsBlock_220 : decode prog_13_method_110_code 220 = .ok (.invokestatic 504, 3) := by decide +kernel
theorem d_Model_findsBlock_223 : decode prog_13_method_110_code 223 = .ok (.ifCond .eq 41, 3) := by decide +kernel
theorem d_Model_findsBlock_226 : decode prog_13_method_110_code 226 = .ok (.aload_n 0, 1) := by decide +kernel
theorem d_Model_findsBlock_227 : decode prog_13_method_110_code 227 = .ok (.getfield 203, 3) := by decide +kernel
theorem d_Model_findsBlock_230 : decode prog_13_method_110_code 230 = .ok (.aload_n 0, 1) := by decide +kernel
theorem d_Model_findsBlock_231 : decode prog_13_method_110_code 231 = .ok (.getfield 194, 3) := by decide +kernel
theorem d_Model_findsBlock_234 : decode prog_13_method_110_code 234 = .ok (.iload 4, 2) := by decide +kernel
theorem d_Model_findsBlock_236 : decode prog_13_method_110_code 236 = .ok (.iaload, 1) := by decide +kernel
theorem d_Model_findsBlock_237 : decode prog_13_method_110_code 237 = .ok (.aload_n 0, 1) := by decide +kernel
theorem d_Model_findsBlock_238 : decode prog_13_method_110_code 238 = .ok (.getfield 203, 3) := by decide +kernel
theorem d_Model_findsBlock_241 : decode prog_13_method_110_code 241 = .ok (.iload 4, 2) := by decide +kernel
theorem d_Model_findsBlock_243 : decode prog_13_method_110_code 243 = .ok (.iaload, 1) := by decide +kernel
theorem d_Model_findsBlock_244 : decode prog_13_method_110_code 244 = .ok (.iastore, 1) := by decide +kernel
theorem d_Model_findsBlock_245 : decode prog_13_method_110_code 245 = .ok (.aload_n 0, 1) := by decide +kernel
theorem d_Model_findsBlock_246 : decode prog_13_method_110_code 246 = .ok (.getfield 206, 3) := by decide +kernel
theorem d_Model_findsBlock_249 : decode prog_13_method_110_code 249 = .ok (.iload_n 3, 1) := by decide +kernel
theorem d_Model_findsBlock_250 : decode prog_13_method_110_code 250 = .ok (.aload_n 0, 1) := by decide +kernel
theorem d_Model_findsBlock_251 : decode prog_13_method_110_code 251 = .ok (.getfield 194, 3) := by decide +kernel
theorem d_Model_findsBlock_254 : decode prog_13_method_110_code 254 = .ok (.iload 4, 2) := by decide +kernel
theorem d_Model_findsBlock_256 : decode prog_13_method_110_code 256 = .ok (.iaload, 1) := by decide +kernel
theorem d_Model_findsBlock_257 : decode prog_13_method_110_code 257 = .ok (.iastore, 1) := by decide +kernel
theorem d_Model_findsBlock_258 : decode prog_13_method_110_code 258 = .ok (.iinc 3 1, 3) := by decide +kernel
theorem d_Model_findsBlock_261 : decode prog_13_method_110_code 261 = .ok (.goto 78, 3) := by decide +kernel
theorem d_Model_findsBlock_264 : decode prog_13_method_110_code 264 = .ok (.aload_n 0, 1) := by decide +kernel
theorem d_Model_findsBlock_265 : decode prog_13_method_110_code 265 = .ok (.getfield 209, 3) := by decide +kernel
theorem d_Model_findsBlock_268 : decode prog_13_method_110_code 268 = .ok (.aload_n 0, 1) := by decide +kernel
theorem d_Model_findsBlock_269 : decode prog_13_method_110_code 269 = .ok (.getfield 510, 3) := by decide +kernel
theorem d_Model_findsBlock_272 : decode prog_13_method_110_code 272 = .ok (.iload 4, 2) := by decide +kernel
theorem d_Model_findsBlock_274 : decode prog_13_method_110_code 274 = .ok (.iastore, 1) := by decide +kernel
theorem d_Model_findsBlock_275 : decode prog_13_method_110_code 275 = .ok (.aload_n 0, 1) := by decide +kernel
theorem d_Model_findsBlock_276 : decode prog_13_method_110_code 276 = .ok (.getfield 212, 3) := by decide +kernel
theorem d_Model_findsBlock_279 : decode prog_13_method_110_code 279 = .ok (.aload_n 0, 1) := by decide +kernel
theorem d_Model_findsBlock_280 : decode prog_13_method_110_code 280 = .ok (.getfield 510, 3) := by decide +kernel
theorem d_Model_findsBlock_283 : decode prog_13_method_110_code 283 = .ok (.aload_n 0, 1) := by decide +kernel
theorem d_Model_findsBlock_284 : decode prog_13_method_110_code 284 = .ok (.getfield 203, 3) := by decide +kernel
theorem d_Model_findsBlock_287 : decode prog_13_method_110_code 287 = .ok (.iload 4, 2) := by decide +kernel
theorem d_Model_findsBlock_289 : decode prog_13_method_110_code 289 = .ok (.iaload, 1) := by decide +kernel
theorem d_Model_findsBlock_290 : decode prog_13_method_110_code 290 = .ok (.iastore, 1) := by decide +kernel
theorem d_Model_findsBlock_291 : decode prog_13_method_110_code 291 = .ok (.aload_n 0, 1) := by decide +kernel
theorem d_Model_findsBlock_292 : decode prog_13_method_110_code 292 = .ok (.getfield 215, 3) := by decide +kernel
theorem d_Model_findsBlock_295 : decode prog_13_method_110_code 295 = .ok (.aload_n 0, 1) := by decide +kernel
theorem d_Model_findsBlock_296 : decode prog_13_method_110_code 296 = .ok (.getfield 510, 3) := by decide +kernel
theorem d_Model_findsBlock_299 : decode prog_13_method_110_code 299 = .ok (.aload_n 0, 1) := by decide +kernel
theorem d_Model_findsBlock_300 : decode prog_13_method_110_code 300 = .ok (.getfield 144, 3) := by decide +kernel
theorem d_Model_findsBlock_303 : decode prog_13_method_110_code 303 = .ok (.iload 5, 2) := by decide +kernel
theorem d_Model_findsBlock_305 : decode prog_13_method_110_code 305 = .ok (.iaload, 1) := by decide +kernel
theorem d_Model_findsBlock_306 : decode prog_13_method_110_code 306 = .ok (.ifCond .ne 19, 3) := by decide +kernel
theorem d_Model_findsBlock_309 : decode prog_13_method_110_code 309 = .ok (.aload_n 0, 1) := by decide +kernel
theorem d_Model_findsBlock_310 : decode prog_13_method_110_code 310 = .ok (.getfield 225, 3) := by decide +kernel
theorem d_Model_findsBlock_313 : decode prog_13_method_110_code 313 = .ok (.aload_n 0, 1) := by decide +kernel
theorem d_Model_findsBlock_314 : decode prog_13_method_110_code 314 = .ok (.getfield 147, 3) := by decide +kernel
theorem d_Model_findsBlock_317 : decode prog_13_method_110_code 317 = .ok (.iload 5, 2) := by decide +kernel
theorem d_Model_findsBlock_319 : decode prog_13_method_110_code 319 = .ok (.iaload, 1) := by decide +kernel
theorem d_Model_findsBlock_320 : decode prog_13_method_110_code 320 = .ok (.iaload, 1) := by decide +kernel
theorem d_Model_findsBlock_321 : decode prog_13_method_110_code 321 = .ok (.i2l, 1) := by decide +kernel
theorem d_Model_findsBlock_322 : decode prog_13_method_110_code 322 = .ok (.goto 6, 3) := by decide +kernel
theorem d_Model_findsBlock_325 : decode prog_13_method_110_code 325 = .ok (.ldc2_w 515, 3) := by decide +kernel
theorem d_Model_findsBlock_328 : decode prog_13_method_110_code 328 = .ok (.lastore, 1) := by decide +kernel
theorem d_Model_findsBlock_329 : decode prog_13_method_110_code 329 = .ok (.aload_n 0, 1) := by decide +kernel
theorem d_Model_findsBlock_330 : decode prog_13_method_110_code 330 = .ok (.dup, 1) := by decide +kernel
theorem d_Model_findsBlock_331 : decode prog_13_method_110_code 331 = .ok (.getfield 510, 3) := by decide +kernel
theorem d_Model_findsBlock_334 : decode prog_13_method_110_code 334 = .ok (.iconst 1, 1) := by decide +kernel
theorem d_Model_findsBlock_335 : decode prog_13_method_110_code 335 = .ok (.iadd, 1) := by decide +kernel
theorem d_Model_findsBlock_336 : decode prog_13_method_110_code 336 = .ok (.putfield 510, 3) := by decide +kernel
theorem d_Model_findsBlock_339 : decode prog_13_method_110_code 339 = .ok (.goto (-313), 3) := by decide +kernel
theorem d_Model_findsBlock_342 : decode prog_13_method_110_code 342 = .ok (.return_, 1) := by decide +kernel
theorem d_Model_passes_0 : decode prog_13_method_113_code 0 = .ok (.aload_n 0, 1) := by decide +kernel
theorem d_Model_passes_1 : decode prog_13_method_113_code 1 = .ok (.getfield 206, 3) := by decide +kernel
theorem d_Model_passes_4 : decode prog_13_method_113_code 4 = .ok (.iconst 0, 1) := by decide +kernel
theorem d_Model_passes_5 : decode prog_13_method_113_code 5 = .ok (.iload_n 2, 1) := by decide +kernel
theorem d_Model_passes_6 : decode prog_13_method_113_code 6 = .ok (.iastore, 1) := by decide +kernel
theorem d_Model_passes_7 : decode prog_13_method_113_code 7 = .ok (.iconst 1, 1) := by decide +kernel
theorem d_Model_passes_8 : decode prog_13_method_113_code 8 = .ok (.istore_n 3, 1) := by decide +kernel
theorem d_Model_passes_9 : decode prog_13_method_113_code 9 = .ok (.iload_n 3, 1) := by decide +kernel
theorem d_Model_passes_10 : decode prog_13_method_113_code 10 = .ok (.ifCond .le 216, 3) := by decide +kernel
theorem d_Model_passes_13 : decode prog_13_method_113_code 13 = .ok (.iinc 3 (-1), 3) := by decide +kernel
theorem d_Model_passes_16 : decode prog_13_method_113_code 16 = .ok (.aload_n 0, 1) := by decide +kernel
theorem d_Model_passes_17 : decode prog_13_method_113_code 17 = .ok (.getfield 206, 3) := by decide +kernel
theorem d_Model_passes_20 : decode prog_13_method_113_code 20 = .ok (.iload_n 3, 1) := by decide +kernel
theorem d_Model_passes_21 : decode prog_13_method_113_code 21 = .ok (.iaload, 1) := by decide +kernel
theorem d_Model_passes_22 : decode prog_13_method_113_code 22 = .ok (.istore 4, 2) := by decide +kernel
theorem d_Model_passes_24 : decode prog_13_method_113_code 24 = .ok (.iload_n 1, 1) := by decide +kernel
theorem d_Model_passes_25 : decode prog_13_method_113_code 25 = .ok (.invokestatic 431, 3) := by decide +kernel
theorem d_Model_passes_28 : decode prog_13_method_113_code 28 = .ok (.iload 4, 2) := by decide +kernel
theorem d_Model_passes_30 : decode prog_13_method_113_code 30 = .ok (.iadd, 1) := by decide +kernel
theorem d_Model_passes_31 : decode prog_13_method_113_code 31 = .ok (.istore 5, 2) := by decide +kernel
theorem d_Model_passes_33 : decode prog_13_method_113_code 33 = .ok (.aload_n 0, 1) := by decide +kernel
theorem d_Model_passes_34 : decode prog_13_method_113_code 34 = .ok (.iload_n 1, 1) := by decide +kernel
theorem d_Model_passes_35 : decode prog_13_method_113_code 35 = .ok (.iload 4, 2) := by decide +kernel
theorem d_Model_passes_37 : decode prog_13_method_113_code 37 = .ok (.invokevirtual 507, 3) := by decide +kernel
theorem d_Model_passes_40 : decode prog_13_method_113_code 40 = .ok (.ifCond .eq 37, 3) := by decide +kernel
theorem d_Model_passes_43 : decode prog_13_method_113_code 43 = .ok (.aload_n 0, 1) := by decide +kernel
theorem d_Model_passes_44 : decode prog_13_method_113_code 44 = .ok (.getfield 206, 3) := by decide +kernel
theorem d_Model_passes_47 : decode prog_13_method_113_code 47 = .ok (.iload_n 3, 1) := by decide +kernel
theorem d_Model_passes_48 : decode prog_13_method_113_code 48 = .ok (.aload_n 0, 1) := by decide +kernel
theorem d_Model_passes_49 : decode prog_13_method_113_code 49 = .ok (.getfield 197, 3) := by decide +kernel
theorem d_Model_passes_52 : decode prog_13_method_113_code 52 = .ok (.iload 4, 2) := by decide +kernel
theorem d_Model_passes_54 : decode prog_13_method_113_code 54 = .ok (.iaload, 1) := by decide +kernel
theorem d_Model_passes_55 : decode prog_13_method_113_code 55 = .ok (.iastore, 1) := by decide +kernel
theorem d_Model_passes_56 : decode prog_13_method_113_code 56 = .ok (.aload_n 0, 1) := by decide +kernel
theorem d_Model_passes_57 : decode prog_13_method_113_code 57 = .ok (.getfield 206, 3) := by decide +kernel
theorem d_Model_passes_60 : decode prog_13_method_113_code 60 = .ok (.iload_n 3, 1) := by decide +kernel
theorem d_Model_passes_61 : decode prog_13_method_113_code 61 = .ok (.iconst 1, 1) := by decide +kernel
theorem d_Model_passes_62 : decode prog_13_method_113_code 62 = .ok (.iadd, 1) := by decide +kernel
theorem d_Model_passes_63 : decode prog_13_method_113_code 63 = .ok (.aload_n 0, 1) := by decide +kernel
theorem d_Model_passes_64 : decode prog_13_method_113_code 64 = .ok (.getfield 194, 3) := by decide +kernel
theorem d_Model_passes_67 : decode prog_13_method_113_code 67 = .ok (.iload 4, 2) := by decide +kernel
theorem d_Model_passes_69 : decode prog_13_method_113_code 69 = .ok (.iaload, 1) := by decide +kernel
theorem d_Model_passes_70 : decode prog_13_method_113_code 70 = .ok (.iastore, 1) := by decide +kernel
theorem d_Model_passes_71 : decode prog_13_method_113_code 71 = .ok (.iinc 3 2, 3) := by decide +kernel
theorem d_Model_passes_74 : decode prog_13_method_113_code 74 = .ok (.goto 149, 3) := by decide +kernel
theorem d_Model_passes_77 : decode prog_13_method_113_code 77 = .ok (.aload_n 0, 1) := by decide +kernel
theorem d_Model_passes_78 : decode prog_13_method_113_code 78 = .ok (.getfield 144, 3) := by decide +kernel
theorem d_Model_passes_81 : decode prog_13_method_113_code 81 = .ok (.iload 5, 2) := by decide +kernel
theorem d_Model_passes_83 : decode prog_13_method_113_code 83 = .ok (.iaload, 1) := by decide +kernel
theorem d_Model_passes_84 : decode prog_13_method_113_code 84 = .ok (.invokestatic 504, 3) := by decide +kernel
theorem d_Model_passes_87 : decode prog_13_method_113_code 87 = .ok (.ifCond .eq 136, 3) := by decide +kernel
theorem d_Model_passes_90 : decode prog_13_method_113_code 90 = .ok (.aload_n 0, 1) := by decide +kernel
theorem d_Model_passes_91 : decode prog_13_method_113_code 91 = .ok (.getfield 206, 3) := by decide +kernel
theorem d_Model_passes_94 : decode prog_13_method_113_code 94 = .ok (.iload_n 3, 1) := by decide +kernel
theorem d_Model_passes_95 : decode prog_13_method_113_code 95 = .ok (.aload_n 0, 1) := by decide +kernel
theorem d_Model_passes_96 : decode prog_13_method_113_code 96 = .ok (.getfield 194, 3) := by decide +kernel
theorem d_Model_passes_99 : decode prog_13_method_113_code 99 = .ok (.iload 4, 2) := by decide +kernel
theorem d_Model_passes_101 : decode prog_13_method_113_code 101 = .ok (.iaload, 1) := by decide +kernel
theorem d_Model_passes_102 : decode prog_13_method_113_code 102 = .ok (.iastore, 1) := by decide +kernel
theorem d_Model_passes_103 : decode prog_13_method_113_code 103 = .ok (.iinc 3 1, 3) := by decide +kernel
theorem d_Model_passes_106 : decode prog_13_method_113_code 106 = .ok (.aload_n 0, 1) := by decide +kernel
theorem d_Model_passes_107 : decode prog_13_method_113_code 107 = .ok (.getfield 203, 3) := by decide +kernel
theorem d_Model_passes_110 : decode prog_13_method_113_code 110 = .ok (.iload 4, 2) := by decide +kernel
theorem d_Model_passes_112 : decode prog_13_method_113_code 112 = .ok (.iaload, 1) := by decide +kernel
theorem d_Model_passes_113 : decode prog_13_method_113_code 113 = .ok (.aload_n 0, 1) := by decide +kernel
theorem d_Model_passes_114 : decode prog_13_method_113_code 114 = .ok (.getfield 147, 3) := by decide +kernel
theorem d_Model_passes_117 : decode prog_13_method_113_code 117 = .ok (.iload 5, 2) := by decide +kernel
theorem d_Model_passes_119 : decode prog_13_method_113_code 119 = .ok (.iaload, 1) := by decide +kernel
theorem d_Model_passes_120 : decode prog_13_method_113_code 120 = .ok (.iadd, 1) := by decide +kernel
theorem d_Model_passes_121 : decode prog_13_method_113_code 121 = .ok (.istore 6, 2) := by decide +kernel
theorem d_Model_passes_123 : decode prog_13_method_113_code 123 = .ok (.aload_n 0, 1) := by decide +kernel
theorem d_Model_passes_124 : decode prog_13_method_113_code 124 = .ok (.iload 6, 2) := by decide +kernel
theorem d_Model_passes_126 : decode prog_13_method_113_code 126 = .ok (.invokevirtual 517, 3) := by decide +kernel
theorem d_Model_passes_129 : decode prog_13_method_113_code 129 = .ok (.istore 7, 2) := by decide +kernel
theorem d_Model_passes_131 : decode prog_13_method_113_code 131 = .ok (.aload_n 0, 1) := by decide +kernel
theorem d_Model_passes_132 : decode prog_13_method_113_code 132 = .ok (.getfield 144, 3) := by decide +kernel
theorem d_Model_passes_135 : decode prog_13_method_113_code 135 = .ok (.iload 5, 2) := by decide +kernel
theorem d_Model_passes_137 : decode prog_13_method_113_code 137 = .ok (.iaload, 1) := by decide +kernel
theorem d_Model_passes_138 : decode prog_13_method_113_code 138 = .ok (.iconst 1, 1) := by decide +kernel
theorem d_Model_passes_139 : decode prog_13_method_113_code 139 = .ok (.if_icmp .ne 84, 3) := by decide +kernel
theorem d_Model_passes_142 : decode prog_13_method_113_code 142 = .ok (.aload_n 0, 1) := by decide +kernel
theorem d_Model_passes_143 : decode prog_13_method_113_code 143 = .ok (.getfield 144, 3) := by decide +kernel
theorem d_Model_passes_146 : decode prog_13_method_113_code 146 = .ok (.iload_n 1, 1) := by decide +kernel
theorem d_Model_passes_147 : decode prog_13_method_113_code 147 = .ok (.invokestatic 431, 3) := by decide +kernel
theorem d_Model_passes_150 : decode prog_13_method_113_code 150 = .ok (.aload_n 0, 1) := by decide +kernel
theorem d_Model_passes_151 : decode prog_13_method_113_code 151 = .ok (.getfield 209, 3) := by decide +kernel
theorem d_Model_passes_154 : decode prog_13_method_113_code 154 = .ok (.iload 7, 2) := by decide +kernel
theorem d_Model_passes_156 : decode prog_13_method_113_code 156 = .ok (.iaload, 1) := by decide +kernel
theorem d_Model_passes_157 : decode prog_13_method_113_code 157 = .ok (.iadd, 1) := by decide +kernel
theorem d_Model_passes_158 : decode prog_13_method_113_code 158 = .ok (.iaload, 1) := by decide +kernel
theorem d_Model_passes_159 : decode prog_13_method_113_code 159 = .ok (.ifCond .ne 64, 3) := by decide +kernel
theorem d_Model_passes_162 : decode prog_13_method_113_code 162 = .ok (.aload_n 0, 1) := by decide +kernel
theorem d_Model_passes_163 : decode prog_13_method_113_code 163 = .ok (.getfield 150, 3) := by decide +kernel
theorem d_Model_passes_166 : decode prog_13_method_113_code 166 = .ok (.iload 5, 2) := by decide +kernel
theorem d_Model_passes_168 : decode prog_13_method_113_code 168 = .ok (.iaload, 1) := by decide +kernel
theorem d_Model_passes_169 : decode prog_13_method_113_code 169 = .ok (.iconst 1, 1) := by decide +kernel
theorem d_Model_passes_170 : decode prog_13_method_113_code 170 = .ok (.if_icmp .ne 17, 3) := by decide +kernel
theorem d_Model_passes_173 : decode prog_13_method_113_code 173 = .ok (.aload_n 0, 1) := by decide +kernel
theorem d_Model_passes_174 : decode prog_13_method_113_code 174 = .ok (.getfield 156, 3) := by decide +kernel
theorem d_Model_passes_177 : decode prog_13_method_113_code 177 = .ok (.iload 5, 2) := by decide +kernel
theorem d_Model_passes_179 : decode prog_13_method_113_code 179 = .ok (.baload, 1) := by decide +kernel
theorem d_Model_passes_180 : decode prog_13_method_113_code 180 = .ok (.ifCond .ne 7, 3) := by decide +kernel
theorem d_Model_passes_183 : decode prog_13_method_113_code 183 = .ok (.iconst 1, 1) := by decide +kernel
theorem d_Model_passes_184 : decode prog_13_method_113_code 184 = .ok (.goto 4, 3) := by decide +kernel
theorem d_Model_passes_187 : decode prog_13_method_113_code 187 = .ok (.iconst 0, 1) := by decide +kernel
theorem d_Model_passes_188 : decode prog_13_method_113_code 188 = .ok (.istore 8, 2) := by decide +kernel
theorem d_Model_passes_190 : decode prog_13_method_113_code 190 = .ok (.aload_n 0, 1) := by decide +kernel
theorem d_Model_passes_191 : decode prog_13_method_113_code 191 = .ok (.getfield 215, 3) := by decide +kernel
theorem d_Model_passes_194 : decode prog_13_method_113_code 194 = .ok (.iload 7, 2) := by decide +kernel
theorem d_Model_passes_196 : decode prog_13_method_113_code 196 = .ok (.aload_n 0, 1) := by decide +kernel
theorem d_Model_passes_197 : decode prog_13_method_113_code 197 = .ok (.getfield 215, 3) := by decide +kernel
theorem d_Model_passes_200 : decode prog_13_method_113_code 200 = .ok (.iload 7, 2) := by decide +kernel
theorem d_Model_passes_202 : decode prog_13_method_113_code 202 = .ok (.laload, 1) := by decide +kernel
theorem d_Model_passes_203 : decode prog_13_method_113_code 203 = .ok (.iload 8, 2) := by decide +kernel
theorem d_Model_passes_205 : decode prog_13_method_113_code 205 = .ok (.ifCond .eq 13, 3) := by decide +kernel
theorem d_Model_passes_208 : decode prog_13_method_113_code 208 = .ok (.aload_n 0, 1) := by decide +kernel
theorem d_Model_passes_209 : decode prog_13_method_113_code 209 = .ok (.iload_n 1, 1) := by decide +kernel
theorem d_Model_passes_210 : decode prog_13_method_113_code 210 = .ok (.iload 6, 2) := by decide +kernel
theorem d_Model_passes_212 : decode prog_13_method_113_code 212 = .ok (.invokevirtual 520, 3) := by decide +kernel
theorem d_Model_passes_215 : decode prog_13_method_113_code 215 = .ok (.goto 4, 3) := by decide +kernel
theorem d_Model_passes_218 : decode prog_13_method_113_code 218 = .ok (.iconst 3, 1) := by decide +kernel
theorem d_Model_passes_219 : decode prog_13_method_113_code 219 = .ok (.invokestatic 523, 3) := by decide +kernel
theorem d_Model_passes_222 : decode prog_13_method_113_code 222 = .ok (.lastore, 1) := by decide +kernel
theorem d_Model_passes_223 : decode prog_13_method_113_code 223 = .ok (.goto (-214), 3) := by decide +kernel
theorem d_Model_passes_226 : decode prog_13_method_113_code 226 = .ok (.return_, 1) := by decide +kernel
theorem d_Model_leafOf_0 : decode prog_13_method_109_code 0 = .ok (.iconst 0, 1) := by decide +kernel
theorem d_Model_leafOf_1 : decode prog_13_method_109_code 1 = .ok (.istore_n 2, 1) := by decide +kernel
theorem d_Model_leafOf_2 : decode prog_13_method_109_code 2 = .ok (.iconst 0, 1) := by decide +kernel
theorem d_Model_leafOf_3 : decode prog_13_method_109_code 3 = .ok (.istore_n 3, 1) := by decide +kernel
theorem d_Model_leafOf_4 : decode prog_13_method_109_code 4 = .ok (.iload_n 3, 1) := by decide +kernel
theorem d_Model_leafOf_5 : decode prog_13_method_109_code 5 = .ok (.aload_n 0, 1) := by decide +kernel
theorem d_Model_leafOf_6 : decode prog_13_method_109_code 6 = .ok (.getfield 510, 3) := by decide +kernel
theorem d_Model_leafOf_9 : decode prog_13_method_109_code 9 = .ok (.if_icmp .ge 25, 3) := by decide +kernel
theorem d_Model_leafOf_12 : decode prog_13_method_109_code 12 = .ok (.aload_n 0, 1) := by decide +kernel
theorem d_Model_leafOf_13 : decode prog_13_method_109_code 13 = .ok (.getfield 212, 3) := by decide +kernel
theorem d_Model_leafOf_16 : decode prog_13_method_109_code 16 = .ok (.iload_n 3, 1) := by decide +kernel
theorem d_Model_leafOf_17 : decode prog_13_method_109_code 17 = .ok (.iaload, 1) := by decide +kernel
theorem d_Model_leafOf_18 : decode prog_13_method_109_code 18 = .ok (.iload_n 1, 1) := by decide +kernel
theorem d_Model_leafOf_19 : decode prog_13_method_109_code 19 = .ok (.if_icmp .gt 7, 3) := by decide +kernel
theorem d_Model_leafOf_22 : decode prog_13_method_109_code 22 = .ok (.iload_n 3, 1) := by decide +kernel
theorem d_Model_leafOf_23 : decode prog_13_method_109_code 23 = .ok (.goto 4, 3) := by decide +kernel
theorem d_Model_leafOf_26 : decode prog_13_method_109_code 26 = .ok (.iload_n 2, 1) := by decide +kernel
theorem d_Model_leafOf_27 : decode prog_13_method_109_code 27 = .ok (.istore_n 2, 1) := by decide +kernel
theorem d_Model_leafOf_28 : decode prog_13_method_109_code 28 = .ok (.iinc 3 1, 3) := by decide +kernel
theorem d_Model_leafOf_31 : decode prog_13_method_109_code 31 = .ok (.goto (-27), 3) := by decide +kernel
theorem d_Model_leafOf_34 : decode prog_13_method_109_code 34 = .ok (.iload_n 2, 1) := by decide +kernel
theorem d_Model_leafOf_35 : decode prog_13_method_109_code 35 = .ok (.ireturn, 1) := by decide +kernel
theorem d_Model_valuesOf_0 : decode prog_13_method_111_code 0 = .ok (.aload_n 0, 1) := by decide +kernel
theorem d_Model_valuesOf_1 : decode prog_13_method_111_code 1 = .ok (.iload_n 2, 1) := by decide +kernel
theorem d_Model_valuesOf_2 : decode prog_13_method_111_code 2 = .ok (.invokevirtual 517, 3) := by decide +kernel
theorem d_Model_valuesOf_5 : decode prog_13_method_111_code 5 = .ok (.istore_n 3, 1) := by decide +kernel
theorem d_Model_valuesOf_6 : decode prog_13_method_111_code 6 = .ok (.iload_n 1, 1) := by decide +kernel
theorem d_Model_valuesOf_7 : decode prog_13_method_111_code 7 = .ok (.invokestatic 431, 3) := by decide +kernel
theorem d_Model_valuesOf_10 : decode prog_13_method_111_code 10 = .ok (.aload_n 0, 1) := by decide +kernel
theorem d_Model_valuesOf_11 : decode prog_13_method_111_code 11 = .ok (.getfield 209, 3) := by decide +kernel
theorem d_Model_valuesOf_14 : decode prog_13_method_111_code 14 = .ok (.iload_n 3, 1) := by decide +kernel
theorem d_Model_valuesOf_15 : decode prog_13_method_111_code 15 = .ok (.iaload, 1) := by decide +kernel
theorem d_Model_valuesOf_16 : decode prog_13_method_111_code 16 = .ok (.iadd, 1) := by decide +kernel
theorem d_Model_valuesOf_17 : decode prog_13_method_111_code 17 = .ok (.istore 4, 2) := by decide +kernel
theorem d_Model_valuesOf_19 : decode prog_13_method_111_code 19 = .ok (.aload_n 0, 1) := by decide +kernel
theorem d_Model_valuesOf_20 : decode prog_13_method_111_code 20 = .ok (.getfield 144, 3) := by decide +kernel
theorem d_Model_valuesOf_23 : decode prog_13_method_111_code 23 = .ok (.iload 4, 2) := by decide +kernel
theorem d_Model_valuesOf_25 : decode prog_13_method_111_code 25 = .ok (.iaload, 1) := by decide +kernel
theorem d_Model_valuesOf_26 : decode prog_13_method_111_code 26 = .ok (.ifCond .ne 29, 3) := by decide +kernel
theorem d_Model_valuesOf_29 : decode prog_13_method_111_code 29 = .ok (.aload_n 0, 1) := by decide +kernel
theorem d_Model_valuesOf_30 : decode prog_13_method_111_code 30 = .ok (.getfield 228, 3) := by decide +kernel
theorem d_Model_valuesOf_33 : decode prog_13_method_111_code 33 = .ok (.iconst 4, 1) := by decide +kernel
theorem d_Model_valuesOf_34 : decode prog_13_method_111_code 34 = .ok (.aload_n 0, 1) := by decide +kernel
theorem d_Model_valuesOf_35 : decode prog_13_method_111_code 35 = .ok (.getfield 147, 3) := by decide +kernel
theorem d_Model_valuesOf_38 : decode prog_13_method_111_code 38 = .ok (.iload 4, 2) := by decide +kernel
theorem d_Model_valuesOf_40 : decode prog_13_method_111_code 40 = .ok (.iaload, 1) := by decide +kernel
theorem d_Model_valuesOf_41 : decode prog_13_method_111_code 41 = .ok (.imul, 1) := by decide +kernel
theorem d_Model_valuesOf_42 : decode prog_13_method_111_code 42 = .ok (.iload_n 2, 1) := by decide +kernel
theorem d_Model_valuesOf_43 : decode prog_13_method_111_code 43 = .ok (.iadd, 1) := by decide +kernel
theorem d_Model_valuesOf_44 : decode prog_13_method_111_code 44 = .ok (.aload_n 0, 1) := by decide +kernel
theorem d_Model_valuesOf_45 : decode prog_13_method_111_code 45 = .ok (.getfield 212, 3) := by decide +kernel
theorem d_Model_valuesOf_48 : decode prog_13_method_111_code 48 = .ok (.iload_n 3, 1) := by decide +kernel
theorem d_Model_valuesOf_49 : decode prog_13_method_111_code 49 = .ok (.iaload, 1) := by decide +kernel
theorem d_Model_valuesOf_50 : decode prog_13_method_111_code 50 = .ok (.isub, 1) := by decide +kernel
theorem d_Model_valuesOf_51 : decode prog_13_method_111_code 51 = .ok (.iaload, 1) := by decide +kernel
theorem d_Model_valuesOf_52 : decode prog_13_method_111_code 52 = .ok (.goto 5, 3) := by decide +kernel
theorem d_Model_valuesOf_55 : decode prog_13_method_111_code 55 = .ok (.bipush 10, 2) := by decide +kernel
theorem d_Model_valuesOf_57 : decode prog_13_method_111_code 57 = .ok (.ireturn, 1) := by decide +kernel
theorem d_Model_divided_0 : decode prog_13_method_112_code 0 = .ok (.lload_n 0, 1) := by decide +kernel
theorem d_Model_divided_1 : decode prog_13_method_112_code 1 = .ok (.iload_n 2, 1) := by decide +kernel
theorem d_Model_divided_2 : decode prog_13_method_112_code 2 = .ok (.ifCond .ne 7, 3) := by decide +kernel
theorem d_Model_divided_5 : decode prog_13_method_112_code 5 = .ok (.iconst 1, 1) := by decide +kernel
theorem d_Model_divided_6 : decode prog_13_method_112_code 6 = .ok (.goto 4, 3) := by decide +kernel
theorem d_Model_divided_9 : decode prog_13_method_112_code 9 = .ok (.iload_n 2, 1) := by decide +kernel
theorem d_Model_divided_10 : decode prog_13_method_112_code 10 = .ok (.i2l, 1) := by decide +kernel
theorem d_Model_divided_11 : decode prog_13_method_112_code 11 = .ok (.ldiv, 1) := by decide +kernel
theorem d_Model_divided_12 : decode prog_13_method_112_code 12 = .ok (.lstore_n 3, 1) := by decide +kernel
theorem d_Model_divided_13 : decode prog_13_method_112_code 13 = .ok (.lload_n 3, 1) := by decide +kernel
theorem d_Model_divided_14 : decode prog_13_method_112_code 14 = .ok (.lconst 1, 1) := by decide +kernel
theorem d_Model_divided_15 : decode prog_13_method_112_code 15 = .ok (.lcmp, 1) := by decide +kernel
theorem d_Model_divided_16 : decode prog_13_method_112_code 16 = .ok (.ifCond .ge 7, 3) := by decide +kernel
theorem d_Model_divided_19 : decode prog_13_method_112_code 19 = .ok (.lconst 1, 1) := by decide +kernel
theorem d_Model_divided_20 : decode prog_13_method_112_code 20 = .ok (.goto 4, 3) := by decide +kernel
theorem d_Model_divided_23 : decode prog_13_method_112_code 23 = .ok (.lload_n 3, 1) := by decide +kernel
theorem d_Model_divided_24 : decode prog_13_method_112_code 24 = .ok (.lreturn, 1) := by decide +kernel
theorem d_Model_orderAt_0 : decode prog_13_method_116_code 0 = .ok (.iconst 0, 1) := by decide +kernel
theorem d_Model_orderAt_1 : decode prog_13_method_116_code 1 = .ok (.istore_n 2, 1) := by decide +kernel
theorem d_Model_orderAt_2 : decode prog_13_method_116_code 2 = .ok (.iload_n 1, 1) := by decide +kernel
theorem d_Model_orderAt_3 : decode prog_13_method_116_code 3 = .ok (.istore_n 3, 1) := by decide +kernel
theorem d_Model_orderAt_4 : decode prog_13_method_116_code 4 = .ok (.aload_n 0, 1) := by decide +kernel
theorem d_Model_orderAt_5 : decode prog_13_method_116_code 5 = .ok (.getfield 510, 3) := by decide +kernel
theorem d_Model_orderAt_8 : decode prog_13_method_116_code 8 = .ok (.iconst 1, 1) := by decide +kernel
theorem d_Model_orderAt_9 : decode prog_13_method_116_code 9 = .ok (.isub, 1) := by decide +kernel
theorem d_Model_orderAt_10 : decode prog_13_method_116_code 10 = .ok (.istore 4, 2) := by decide +kernel
theorem d_Model_orderAt_12 : decode prog_13_method_116_code 12 = .ok (.iload 4, 2) := by decide +kernel
theorem d_Model_orderAt_14 : decode prog_13_method_116_code 14 = .ok (.ifCond .lt 24, 3) := by decide +kernel
theorem d_Model_orderAt_17 : decode prog_13_method_116_code 17 = .ok (.iload_n 2, 1) := by decide +kernel
theorem d_Model_orderAt_18 : decode prog_13_method_116_code 18 = .ok (.iload_n 3, 1) := by decide +kernel
theorem d_Model_orderAt_19 : decode prog_13_method_116_code 19 = .ok (.iconst 3, 1) := by decide +kernel
theorem d_Model_orderAt_20 : decode prog_13_method_116_code 20 = .ok (.iand, 1) := by decide +kernel
theorem d_Model_orderAt_21 : decode prog_13_method_116_code 21 = .ok (.iconst 2, 1) := by decide +kernel
theorem d_Model_orderAt_22 : decode prog_13_method_116_code 22 = .ok (.iload 4, 2) := by decide +kernel
theorem d_Model_orderAt_24 : decode prog_13_method_116_code 24 = .ok (.imul, 1) := by decide +kernel
theorem d_Model_orderAt_25 : decode prog_13_method_116_code 25 = .ok (.ishl, 1) := by decide +kernel
theorem d_Model_orderAt_26 : decode prog_13_method_116_code 26 = .ok (.ior, 1) := by decide +kernel
theorem d_Model_orderAt_27 : decode prog_13_method_116_code 27 = .ok (.istore_n 2, 1) := by decide +kernel
theorem d_Model_orderAt_28 : decode prog_13_method_116_code 28 = .ok (.iload_n 3, 1) := by decide +kernel
theorem d_Model_orderAt_29 : decode prog_13_method_116_code 29 = .ok (.iconst 2, 1) := by decide +kernel
theorem d_Model_orderAt_30 : decode prog_13_method_116_code 30 = .ok (.ishr, 1) := by decide +kernel
theorem d_Model_orderAt_31 : decode prog_13_method_116_code 31 = .ok (.istore_n 3, 1) := by decide +kernel
theorem d_Model_orderAt_32 : decode prog_13_method_116_code 32 = .ok (.iinc 4 (-1), 3) := by decide +kernel
theorem d_Model_orderAt_35 : decode prog_13_method_116_code 35 = .ok (.goto (-23), 3) := by decide +kernel
theorem d_Model_orderAt_38 : decode prog_13_method_116_code 38 = .ok (.iload_n 2, 1) := by decide +kernel
theorem d_Model_orderAt_39 : decode prog_13_method_116_code 39 = .ok (.ireturn, 1) := by decide +kernel
theorem d_Model_isOrder_0 : decode prog_13_method_115_code 0 = .ok (.iconst 0, 1) := by decide +kernel
theorem d_Model_isOrder_1 : decode prog_13_method_115_code 1 = .ok (.istore_n 2, 1) := by decide +kernel
theorem d_Model_isOrder_2 : decode prog_13_method_115_code 2 = .ok (.iconst 0, 1) := by decide +kernel
theorem d_Model_isOrder_3 : decode prog_13_method_115_code 3 = .ok (.istore_n 3, 1) := by decide +kernel
theorem d_Model_isOrder_4 : decode prog_13_method_115_code 4 = .ok (.iload_n 3, 1) := by decide +kernel
theorem d_Model_isOrder_5 : decode prog_13_method_115_code 5 = .ok (.aload_n 0, 1) := by decide +kernel
theorem d_Model_isOrder_6 : decode prog_13_method_115_code 6 = .ok (.getfield 510, 3) := by decide +kernel
theorem d_Model_isOrder_9 : decode prog_13_method_115_code 9 = .ok (.if_icmp .ge 21, 3) := by decide +kernel
theorem d_Model_isOrder_12 : decode prog_13_method_115_code 12 = .ok (.iload_n 2, 1) := by decide +kernel
theorem d_Model_isOrder_13 : decode prog_13_method_115_code 13 = .ok (.iconst 1, 1) := by decide +kernel
theorem d_Model_isOrder_14 : decode prog_13_method_115_code 14 = .ok (.iload_n 1, 1) := by decide +kernel
theorem d_Model_isOrder_15 : decode prog_13_method_115_code 15 = .ok (.iconst 2, 1) := by decide +kernel
theorem d_Model_isOrder_16 : decode prog_13_method_115_code 16 = .ok (.iload_n 3, 1) := by decide +kernel
theorem d_Model_isOrder_17 : decode prog_13_method_115_code 17 = .ok (.imul, 1) := by decide +kernel
theorem d_Model_isOrder_18 : decode prog_13_method_115_code 18 = .ok (.ishr, 1) := by decide +kernel
theorem d_Model_isOrder_19 : decode prog_13_method_115_code 19 = .ok (.iconst 3, 1) := by decide +kernel
theorem d_Model_isOrder_20 : decode prog_13_method_115_code 20 = .ok (.iand, 1) := by decide +kernel
theorem d_Model_isOrder_21 : decode prog_13_method_115_code 21 = .ok (.ishl, 1) := by decide +kernel
theorem d_Model_isOrder_22 : decode prog_13_method_115_code 22 = .ok (.ior, 1) := by decide +kernel
theorem d_Model_isOrder_23 : decode prog_13_method_115_code 23 = .ok (.istore_n 2, 1) := by decide +kernel
theorem d_Model_isOrder_24 : decode prog_13_method_115_code 24 = .ok (.iinc 3 1, 3) := by decide +kernel
theorem d_Model_isOrder_27 : decode prog_13_method_115_code 27 = .ok (.goto (-23), 3) := by decide +kernel
theorem d_Model_isOrder_30 : decode prog_13_method_115_code 30 = .ok (.iload_n 2, 1) := by decide +kernel
theorem d_Model_isOrder_31 : decode prog_13_method_115_code 31 = .ok (.iconst 1, 1) := by decide +kernel
theorem d_Model_isOrder_32 : decode prog_13_method_115_code 32 = .ok (.aload_n 0, 1) := by decide +kernel
theorem d_Model_isOrder_33 : decode prog_13_method_115_code 33 = .ok (.getfield 510, 3) := by decide +kernel
theorem d_Model_isOrder_36 : decode prog_13_method_115_code 36 = .ok (.ishl, 1) := by decide +kernel
theorem d_Model_isOrder_37 : decode prog_13_method_115_code 37 = .ok (.iconst 1, 1) := by decide +kernel
theorem d_Model_isOrder_38 : decode prog_13_method_115_code 38 = .ok (.isub, 1) := by decide +kernel
theorem d_Model_isOrder_39 : decode prog_13_method_115_code 39 = .ok (.if_icmp .ne 7, 3) := by decide +kernel
theorem d_Model_isOrder_42 : decode prog_13_method_115_code 42 = .ok (.iconst 1, 1) := by decide +kernel
theorem d_Model_isOrder_43 : decode prog_13_method_115_code 43 = .ok (.goto 4, 3) := by decide +kernel
theorem d_Model_isOrder_46 : decode prog_13_method_115_code 46 = .ok (.iconst 0, 1) := by decide +kernel
theorem d_Model_isOrder_47 : decode prog_13_method_115_code 47 = .ok (.ireturn, 1) := by decide +kernel
theorem d_Model_costOf_0 : decode prog_13_method_114_code 0 = .ok (.aload_n 0, 1) := by decide +kernel
theorem d_Model_costOf_1 : decode prog_13_method_114_code 1 = .ok (.getfield 215, 3) := by decide +kernel
theorem d_Model_costOf_4 : decode prog_13_method_114_code 4 = .ok (.iload_n 2, 1) := by decide +kernel
theorem d_Model_costOf_5 : decode prog_13_method_114_code 5 = .ok (.iconst 3, 1) := by decide +kernel
theorem d_Model_costOf_6 : decode prog_13_method_114_code 6 = .ok (.iand, 1) := by decide +kernel
theorem d_Model_costOf_7 : decode prog_13_method_114_code 7 = .ok (.laload, 1) := by decide +kernel
theorem d_Model_costOf_8 : decode prog_13_method_114_code 8 = .ok (.lstore_n 3, 1) := by decide +kernel
theorem d_Model_costOf_9 : decode prog_13_method_114_code 9 = .ok (.lconst 0, 1) := by decide +kernel
theorem d_Model_costOf_10 : decode prog_13_method_114_code 10 = .ok (.lstore 5, 2) := by decide +kernel
theorem d_Model_costOf_12 : decode prog_13_method_114_code 12 = .ok (.iconst 1, 1) := by decide +kernel
theorem d_Model_costOf_13 : decode prog_13_method_114_code 13 = .ok (.iload_n 2, 1) := by decide +kernel
theorem d_Model_costOf_14 : decode prog_13_method_114_code 14 = .ok (.iconst 3, 1) := by decide +kernel
theorem d_Model_costOf_15 : decode prog_13_method_114_code 15 = .ok (.iand, 1) := by decide +kernel
theorem d_Model_costOf_16 : decode prog_13_method_114_code 16 = .ok (.ishl, 1) := by decide +kernel
theorem d_Model_costOf_17 : decode prog_13_method_114_code 17 = .ok (.istore 7, 2) := by decide +kernel
theorem d_Model_costOf_19 : decode prog_13_method_114_code 19 = .ok (.iconst 1, 1) := by decide +kernel
theorem d_Model_costOf_20 : decode prog_13_method_114_code 20 = .ok (.istore 8, 2) := by decide +kernel
theorem d_Model_costOf_22 : decode prog_13_method_114_code 22 = .ok (.iload 8, 2) := by decide +kernel
theorem d_Model_costOf_24 : decode prog_13_method_114_code 24 = .ok (.aload_n 0, 1) := by decide +kernel
theorem d_Model_costOf_25 : decode prog_13_method_114_code 25 = .ok (.getfield 510, 3) := by decide +kernel
theorem d_Model_costOf_28 : decode prog_13_method_114_code 28 = .ok (.if_icmp .ge 183, 3) := by decide +kernel
theorem d_Model_costOf_31 : decode prog_13_method_114_code 31 = .ok (.iload_n 2, 1) := by decide +kernel
theorem d_Model_costOf_32 : decode prog_13_method_114_code 32 = .ok (.iconst 2, 1) := by decide +kernel
theorem d_Model_costOf_33 : decode prog_13_method_114_code 33 = .ok (.iload 8, 2) := by decide +kernel
theorem d_Model_costOf_35 : decode prog_13_method_114_code 35 = .ok (.imul, 1) := by decide +kernel
theorem d_Model_costOf_36 : decode prog_13_method_114_code 36 = .ok (.ishr, 1) := by decide +kernel
theorem d_Model_costOf_37 : decode prog_13_method_114_code 37 = .ok (.iconst 3, 1) := by decide +kernel
theorem d_Model_costOf_38 : decode prog_13_method_114_code 38 = .ok (.iand, 1) := by decide +kernel
theorem d_Model_costOf_39 : decode prog_13_method_114_code 39 = .ok (.istore 9, 2) := by decide +kernel
theorem d_Model_costOf_41 : decode prog_13_method_114_code 41 = .ok (.lload_n 3, 1) := by decide +kernel
theorem d_Model_costOf_42 : decode prog_13_method_114_code 42 = .ok (.aload_n 0, 1) := by decide +kernel
theorem d_Model_costOf_43 : decode prog_13_method_114_code 43 = .ok (.getfield 215, 3) := by decide +kernel
theorem d_Model_costOf_46 : decode prog_13_method_114_code 46 = .ok (.iload 9, 2) := by decide +kernel
theorem d_Model_costOf_48 : decode prog_13_method_114_code 48 = .ok (.laload, 1) := by decide +kernel
theorem d_Model_costOf_49 : decode prog_13_method_114_code 49 = .ok (.lmul, 1) := by decide +kernel
theorem d_Model_costOf_50 : decode prog_13_method_114_code 50 = .ok (.lstore_n 3, 1) := by decide +kernel
theorem d_Model_costOf_51 : decode prog_13_method_114_code 51 = .ok (.iconst 0, 1) := by decide +kernel
theorem d_Model_costOf_52 : decode prog_13_method_114_code 52 = .ok (.istore 10, 2) := by decide +kernel
theorem d_Model_costOf_54 : decode prog_13_method_114_code 54 = .ok (.iload 10, 2) := by decide +kernel
theorem d_Model_costOf_56 : decode prog_13_method_114_code 56 = .ok (.aload_n 0, 1) := by decide +kernel
theorem d_Model_costOf_57 : decode prog_13_method_114_code 57 = .ok (.getfield 513, 3) := by decide +kernel
theorem d_Model_costOf_60 : decode prog_13_method_114_code 60 = .ok (.if_icmp .ge 130, 3) := by decide +kernel
theorem d_Model_costOf_63 : decode prog_13_method_114_code 63 = .ok (.aload_n 0, 1) := by decide +kernel
theorem d_Model_costOf_64 : decode prog_13_method_114_code 64 = .ok (.aload_n 0, 1) := by decide +kernel
theorem d_Model_costOf_65 : decode prog_13_method_114_code 65 = .ok (.getfield 219, 3) := by decide +kernel
theorem d_Model_costOf_68 : decode prog_13_method_114_code 68 = .ok (.iload 10, 2) := by decide +kernel
theorem d_Model_costOf_70 : decode prog_13_method_114_code 70 = .ok (.iaload, 1) := by decide +kernel
theorem d_Model_costOf_71 : decode prog_13_method_114_code 71 = .ok (.invokevirtual 517, 3) := by decide +kernel
theorem d_Model_costOf_74 : decode prog_13_method_114_code 74 = .ok (.istore 11, 2) := by decide +kernel
theorem d_Model_costOf_76 : decode prog_13_method_114_code 76 = .ok (.aload_n 0, 1) := by decide +kernel
theorem d_Model_costOf_77 : decode prog_13_method_114_code 77 = .ok (.aload_n 0, 1) := by decide +kernel
theorem d_Model_costOf_78 : decode prog_13_method_114_code 78 = .ok (.getfield 222, 3) := by decide +kernel
theorem d_Model_costOf_81 : decode prog_13_method_114_code 81 = .ok (.iload 10, 2) := by decide +kernel
theorem d_Model_costOf_83 : decode prog_13_method_114_code 83 = .ok (.iaload, 1) := by decide +kernel
theorem d_Model_costOf_84 : decode prog_13_method_114_code 84 = .ok (.invokevirtual 517, 3) := by decide +kernel
theorem d_Model_costOf_87 : decode prog_13_method_114_code 87 = .ok (.istore 12, 2) := by decide +kernel
theorem d_Model_costOf_89 : decode prog_13_method_114_code 89 = .ok (.iload 11, 2) := by decide +kernel
theorem d_Model_costOf_91 : decode prog_13_method_114_code 91 = .ok (.iload 9, 2) := by decide +kernel
theorem d_Model_costOf_93 : decode prog_13_method_114_code 93 = .ok (.if_icmp .ne 14, 3) := by decide +kernel
theorem d_Model_costOf_96 : decode prog_13_method_114_code 96 = .ok (.iload 7, 2) := by decide +kernel
theorem d_Model_costOf_98 : decode prog_13_method_114_code 98 = .ok (.iload 12, 2) := by decide +kernel
theorem d_Model_costOf_100 : decode prog_13_method_114_code 100 = .ok (.ishr, 1) := by decide +kernel
theorem d_Model_costOf_101 : decode prog_13_method_114_code 101 = .ok (.iconst 1, 1) := by decide +kernel
theorem d_Model_costOf_102 : decode prog_13_method_114_code 102 = .ok (.iand, 1) := by decide +kernel
theorem d_Model_costOf_103 : decode prog_13_method_114_code 103 = .ok (.iconst 1, 1) := by decide +kernel
theorem d_Model_costOf_104 : decode prog_13_method_114_code 104 = .ok (.if_icmp .eq 21, 3) := by decide +kernel
theorem d_Model_costOf_107 : decode prog_13_method_114_code 107 = .ok (.iload 12, 2) := by decide +kernel
theorem d_Model_costOf_109 : decode prog_13_method_114_code 109 = .ok (.iload 9, 2) := by decide +kernel
theorem d_Model_costOf_111 : decode prog_13_method_114_code 111 = .ok (.if_icmp .ne 18, 3) := by decide +kernel
theorem d_Model_costOf_114 : decode prog_13_method_114_code 114 = .ok (.iload 7, 2) := by decide +kernel
theorem d_Model_costOf_116 : decode prog_13_method_114_code 116 = .ok (.iload 11, 2) := by decide +kernel
theorem d_Model_costOf_118 : decode prog_13_method_114_code 118 = .ok (.ishr, 1) := by decide +kernel
theorem d_Model_costOf_119 : decode prog_13_method_114_code 119 = .ok (.iconst 1, 1) := by decide +kernel
theorem d_Model_costOf_120 : decode prog_13_method_114_code 120 = .ok (.iand, 1) := by decide +kernel
theorem d_Model_costOf_121 : decode prog_13_method_114_code 121 = .ok (.iconst 1, 1) := by decide +kernel
theorem d_Model_costOf_122 : decode prog_13_method_114_code 122 = .ok (.if_icmp .ne 7, 3) := by decide +kernel
theorem d_Model_costOf_125 : decode prog_13_method_114_code 125 = .ok (.iconst 1, 1) := by decide +kernel
theorem d_Model_costOf_126 : decode prog_13_method_114_code 126 = .ok (.goto 4, 3) := by decide +kernel
theorem d_Model_costOf_129 : decode prog_13_method_114_code 129 = .ok (.iconst 0, 1) := by decide +kernel
theorem d_Model_costOf_130 : decode prog_13_method_114_code 130 = .ok (.istore 13, 2) := by decide +kernel
theorem d_Model_costOf_132 : decode prog_13_method_114_code 132 = .ok (.iload 13, 2) := by decide +kernel
theorem d_Model_costOf_134 : decode prog_13_method_114_code 134 = .ok (.ifCond .eq 50, 3) := by decide +kernel
theorem d_Model_costOf_137 : decode prog_13_method_114_code 137 = .ok (.aload_n 0, 1) := by decide +kernel
theorem d_Model_costOf_138 : decode prog_13_method_114_code 138 = .ok (.iload_n 1, 1) := by decide +kernel
theorem d_Model_costOf_139 : decode prog_13_method_114_code 139 = .ok (.aload_n 0, 1) := by decide +kernel
theorem d_Model_costOf_140 : decode prog_13_method_114_code 140 = .ok (.getfield 219, 3) := by decide +kernel
theorem d_Model_costOf_143 : decode prog_13_method_114_code 143 = .ok (.iload 10, 2) := by decide +kernel
theorem d_Model_costOf_145 : decode prog_13_method_114_code 145 = .ok (.iaload, 1) := by decide +kernel
theorem d_Model_costOf_146 : decode prog_13_method_114_code 146 = .ok (.invokevirtual 520, 3) := by decide +kernel
theorem d_Model_costOf_149 : decode prog_13_method_114_code 149 = .ok (.istore 14, 2) := by decide +kernel
theorem d_Model_costOf_151 : decode prog_13_method_114_code 151 = .ok (.aload_n 0, 1) := by decide +kernel
theorem d_Model_costOf_152 : decode prog_13_method_114_code 152 = .ok (.iload_n 1, 1) := by decide +kernel
theorem d_Model_costOf_153 : decode prog_13_method_114_code 153 = .ok (.aload_n 0, 1) := by decide +kernel
theorem d_Model_costOf_154 : decode prog_13_method_114_code 154 = .ok (.getfield 222, 3) := by decide +kernel
theorem d_Model_costOf_157 : decode prog_13_method_114_code 157 = .ok (.iload 10, 2) := by decide +kernel
theorem d_Model_costOf_159 : decode prog_13_method_114_code 159 = .ok (.iaload, 1) := by decide +kernel
theorem d_Model_costOf_160 : decode prog_13_method_114_code 160 = .ok (.invokevirtual 520, 3) := by decide +kernel
theorem d_Model_costOf_163 : decode prog_13_method_114_code 163 = .ok (.istore 15, 2) := by decide +kernel
theorem d_Model_costOf_165 : decode prog_13_method_114_code 165 = .ok (.lload_n 3, 1) := by decide +kernel
theorem d_Model_costOf_166 : decode prog_13_method_114_code 166 = .ok (.iload 14, 2) := by decide +kernel
theorem d_Model_costOf_168 : decode prog_13_method_114_code 168 = .ok (.iload 15, 2) := by decide +kernel
theorem d_Model_costOf_170 : decode prog_13_method_114_code 170 = .ok (.if_icmp .le 8, 3) := by decide +kernel
theorem d_Model_costOf_173 : decode prog_13_method_114_code 173 = .ok (.iload 14, 2) := by decide +kernel
theorem d_Model_costOf_175 : decode prog_13_method_114_code 175 = .ok (.goto 5, 3) := by decide +kernel
theorem d_Model_costOf_178 : decode prog_13_method_114_code 178 = .ok (.iload 15, 2) := by decide +kernel
theorem d_Model_costOf_180 : decode prog_13_method_114_code 180 = .ok (.invokestatic 523, 3) := by decide +kernel
theorem d_Model_costOf_183 : decode prog_13_method_114_code 183 = .ok (.lstore_n 3, 1) := by decide +kernel
theorem d_Model_costOf_184 : decode prog_13_method_114_code 184 = .ok (.iinc 10 1, 3) := by decide +kernel
theorem d_Model_costOf_187 : decode prog_13_method_114_code 187 = .ok (.goto (-133), 3) := by decide +kernel
theorem d_Model_costOf_190 : decode prog_13_method_114_code 190 = .ok (.lload 5, 2) := by decide +kernel
theorem d_Model_costOf_192 : decode prog_13_method_114_code 192 = .ok (.lload_n 3, 1) := by decide +kernel
theorem d_Model_costOf_193 : decode prog_13_method_114_code 193 = .ok (.ladd, 1) := by decide +kernel
theorem d_Model_costOf_194 : decode prog_13_method_114_code 194 = .ok (.lstore 5, 2) := by decide +kernel
theorem d_Model_costOf_196 : decode prog_13_method_114_code 196 = .ok (.iload 7, 2) := by decide +kernel
theorem d_Model_costOf_198 : decode prog_13_method_114_code 198 = .ok (.iconst 1, 1) := by decide +kernel
theorem d_Model_costOf_199 : decode prog_13_method_114_code 199 = .ok (.iload 9, 2) := by decide +kernel
theorem d_Model_costOf_201 : decode prog_13_method_114_code 201 = .ok (.ishl, 1) := by decide +kernel
theorem d_Model_costOf_202 : decode prog_13_method_114_code 202 = .ok (.ior, 1) := by decide +kernel
theorem d_Model_costOf_203 : decode prog_13_method_114_code 203 = .ok (.istore 7, 2) := by decide +kernel
theorem d_Model_costOf_205 : decode prog_13_method_114_code 205 = .ok (.iinc 8 1, 3) := by decide +kernel
theorem d_Model_costOf_208 : decode prog_13_method_114_code 208 = .ok (.goto (-186), 3) := by decide +kernel
theorem d_Model_costOf_211 : decode prog_13_method_114_code 211 = .ok (.lload 5, 2) := by decide +kernel
theorem d_Model_costOf_213 : decode prog_13_method_114_code 213 = .ok (.lreturn, 1) := by decide +kernel
theorem d_Model_planAt_0 : decode prog_13_method_118_code 0 = .ok (.aload_n 0, 1) := by decide +kernel
theorem d_Model_planAt_1 : decode prog_13_method_118_code 1 = .ok (.aload_n 0, 1) := by decide +kernel
theorem d_Model_planAt_2 : decode prog_13_method_118_code 2 = .ok (.iload_n 1, 1) := by decide +kernel
theorem d_Model_planAt_3 : decode prog_13_method_118_code 3 = .ok (.invokevirtual 486, 3) := by decide +kernel
theorem d_Model_planAt_6 : decode prog_13_method_118_code 6 = .ok (.ifCond .ne 7, 3) := by decide +kernel
theorem d_Model_planAt_9 : decode prog_13_method_118_code 9 = .ok (.iconst 1, 1) := by decide +kernel
theorem d_Model_planAt_10 : decode prog_13_method_118_code 10 = .ok (.goto 17, 3) := by decide +kernel
theorem d_Model_planAt_13 : decode prog_13_method_118_code 13 = .ok (.aload_n 0, 1) := by decide +kernel
theorem d_Model_planAt_14 : decode prog_13_method_118_code 14 = .ok (.getfield 162, 3) := by decide +kernel
theorem d_Model_planAt_17 : decode prog_13_method_118_code 17 = .ok (.iload_n 1, 1) := by decide +kernel
theorem d_Model_planAt_18 : decode prog_13_method_118_code 18 = .ok (.baload, 1) := by decide +kernel
theorem d_Model_planAt_19 : decode prog_13_method_118_code 19 = .ok (.ifCond .eq 7, 3) := by decide +kernel
theorem d_Model_planAt_22 : decode prog_13_method_118_code 22 = .ok (.iconst 0, 1) := by decide +kernel
theorem d_Model_planAt_23 : decode prog_13_method_118_code 23 = .ok (.goto 4, 3) := by decide +kernel
theorem d_Model_planAt_26 : decode prog_13_method_118_code 26 = .ok (.iconst 2, 1) := by decide +kernel
theorem d_Model_planAt_27 : decode prog_13_method_118_code 27 = .ok (.invokevirtual 254, 3) := by decide +kernel
theorem d_Model_planAt_30 : decode prog_13_method_118_code 30 = .ok (.ifCond .eq 5, 3) := by decide +kernel
theorem d_Model_planAt_33 : decode prog_13_method_118_code 33 = .ok (.iconst 0, 1) := by decide +kernel
theorem d_Model_planAt_34 : decode prog_13_method_118_code 34 = .ok (.ireturn, 1) := by decide +kernel
theorem d_Model_planAt_35 : decode prog_13_method_118_code 35 = .ok (.iload_n 2, 1) := by decide +kernel
theorem d_Model_planAt_36 : decode prog_13_method_118_code 36 = .ok (.iconst 0, 1) := by decide +kernel
theorem d_Model_planAt_37 : decode prog_13_method_118_code 37 = .ok (.aload_n 0, 1) := by decide +kernel
theorem d_Model_planAt_38 : decode prog_13_method_118_code 38 = .ok (.getfield 168, 3) := by decide +kernel
theorem d_Model_planAt_41 : decode prog_13_method_118_code 41 = .ok (.iload_n 1, 1) := by decide +kernel
theorem d_Model_planAt_42 : decode prog_13_method_118_code 42 = .ok (.iaload, 1) := by decide +kernel
theorem d_Model_planAt_43 : decode prog_13_method_118_code 43 = .ok (.iconst 1, 1) := by decide +kernel
theorem d_Model_planAt_44 : decode prog_13_method_118_code 44 = .ok (.isub, 1) := by decide +kernel
theorem d_Model_planAt_45 : decode prog_13_method_118_code 45 = .ok (.invokestatic 235, 3) := by decide +kernel
theorem d_Model_planAt_48 : decode prog_13_method_118_code 48 = .ok (.ifCond .eq 16, 3) := by decide +kernel
theorem d_Model_planAt_51 : decode prog_13_method_118_code 51 = .ok (.aload_n 0, 1) := by decide +kernel
theorem d_Model_planAt_52 : decode prog_13_method_118_code 52 = .ok (.getfield 171, 3) := by decide +kernel
theorem d_Model_planAt_55 : decode prog_13_method_118_code 55 = .ok (.iconst 4, 1) := by decide +kernel
theorem d_Model_planAt_56 : decode prog_13_method_118_code 56 = .ok (.iload_n 1, 1) := by decide +kernel
theorem d_Model_planAt_57 : decode prog_13_method_118_code 57 = .ok (.imul, 1) := by decide +kernel
theorem d_Model_planAt_58 : decode prog_13_method_118_code 58 = .ok (.iload_n 2, 1) := by decide +kernel
theorem d_Model_planAt_59 : decode prog_13_method_118_code 59 = .ok (.iadd, 1) := by decide +kernel
theorem d_Model_planAt_60 : decode prog_13_method_118_code 60 = .ok (.iaload, 1) := by decide +kernel
theorem d_Model_planAt_61 : decode prog_13_method_118_code 61 = .ok (.goto 4, 3) := by decide +kernel
theorem d_Model_planAt_64 : decode prog_13_method_118_code 64 = .ok (.iconst (-1), 1) := by decide +kernel
theorem d_Model_planAt_65 : decode prog_13_method_118_code 65 = .ok (.ireturn, 1) := by decide +kernel
theorem d_Model_planned_0 : decode prog_13_method_119_code 0 = .ok (.aload_n 0, 1) := by decide +kernel
theorem d_Model_planned_1 : decode prog_13_method_119_code 1 = .ok (.aload_n 0, 1) := by decide +kernel
theorem d_Model_planned_2 : decode prog_13_method_119_code 2 = .ok (.getfield 551, 3) := by decide +kernel
theorem d_Model_planned_5 : decode prog_13_method_119_code 5 = .ok (.invokevirtual 554, 3) := by decide +kernel
theorem d_Model_planned_8 : decode prog_13_method_119_code 8 = .ok (.ireturn, 1) := by decide +kernel
theorem d_Model_tells_0 : decode prog_13_method_4_code 0 = .ok (.aload_n 0, 1) := by decide +kernel
theorem d_Model_tells_1 : decode prog_13_method_4_code 1 = .ok (.iconst 0, 1) := by decide +kernel
theorem d_Model_tells_2 : decode prog_13_method_4_code 2 = .ok (.putfield 231, 3) := by decide +kernel
theorem d_Model_tells_5 : decode prog_13_method_4_code 5 = .ok (.iload_n 1, 1) := by decide +kernel
theorem d_Model_tells_6 : decode prog_13_method_4_code 6 = .ok (.ireturn, 1) := by decide +kernel
theorem d_Model_view_0 : decode prog_13_method_121_code 0 = .ok (.aload_n 0, 1) := by decide +kernel
theorem d_Model_view_1 : decode prog_13_method_121_code 1 = .ok (.iload_n 1, 1) := by decide +kernel
theorem d_Model_view_2 : decode prog_13_method_121_code 2 = .ok (.invokevirtual 486, 3) := by decide +kernel
theorem d_Model_view_5 : decode prog_13_method_121_code 5 = .ok (.istore_n 2, 1) := by decide +kernel
theorem d_Model_view_6 : decode prog_13_method_121_code 6 = .ok (.aload_n 0, 1) := by decide +kernel
theorem d_Model_view_7 : decode prog_13_method_121_code 7 = .ok (.iload_n 2, 1) := by decide +kernel
theorem d_Model_view_8 : decode prog_13_method_121_code 8 = .ok (.ifCond .ne 7, 3) := by decide +kernel
theorem d_Model_view_11 : decode prog_13_method_121_code 11 = .ok (.iconst 1, 1) := by decide +kernel
theorem d_Model_view_12 : decode prog_13_method_121_code 12 = .ok (.goto 25, 3) := by decide +kernel
theorem d_Model_view_15 : decode prog_13_method_121_code 15 = .ok (.aload_n 0, 1) := by decide +kernel
theorem d_Model_view_16 : decode prog_13_method_121_code 16 = .ok (.getfield 557, 3) := by decide +kernel
theorem d_Model_view_19 : decode prog_13_method_121_code 19 = .ok (.bipush 6, 2) := by decide +kernel
theorem d_Model_view_21 : decode prog_13_method_121_code 21 = .ok (.if_icmp .ge 15, 3) := by decide +kernel
theorem d_Model_view_24 : decode prog_13_method_121_code 24 = .ok (.aload_n 0, 1) := by decide +kernel
theorem d_Model_view_25 : decode prog_13_method_121_code 25 = .ok (.iload_n 1, 1) := by decide +kernel
theorem d_Model_view_26 : decode prog_13_method_121_code 26 = .ok (.invokevirtual 560, 3) := by decide +kernel
theorem d_Model_view_29 : decode prog_13_method_121_code 29 = .ok (.ifCond .eq 7, 3) := by decide +kernel
theorem d_Model_view_32 : decode prog_13_method_121_code 32 = .ok (.iconst 0, 1) := by decide +kernel
theorem d_Model_view_33 : decode prog_13_method_121_code 33 = .ok (.goto 4, 3) := by decide +kernel
theorem d_Model_view_36 : decode prog_13_method_121_code 36 = .ok (.iconst 2, 1) := by decide +kernel
theorem d_Model_view_37 : decode prog_13_method_121_code 37 = .ok (.invokevirtual 254, 3) := by decide +kernel
theorem d_Model_view_40 : decode prog_13_method_121_code 40 = .ok (.ifCond .eq 5, 3) := by decide +kernel
theorem d_Model_view_43 : decode prog_13_method_121_code 43 = .ok (.iconst 0, 1) := by decide +kernel
theorem d_Model_view_44 : decode prog_13_method_121_code 44 = .ok (.ireturn, 1) := by decide +kernel
theorem d_Model_view_45 : decode prog_13_method_121_code 45 = .ok (.aload_n 0, 1) := by decide +kernel
theorem d_Model_view_46 : decode prog_13_method_121_code 46 = .ok (.getfield 174, 3) := by decide +kernel
theorem d_Model_view_49 : decode prog_13_method_121_code 49 = .ok (.aload_n 0, 1) := by decide +kernel
theorem d_Model_view_50 : decode prog_13_method_121_code 50 = .ok (.getfield 557, 3) := by decide +kernel
theorem d_Model_view_53 : decode prog_13_method_121_code 53 = .ok (.iload_n 1, 1) := by decide +kernel
theorem d_Model_view_54 : decode prog_13_method_121_code 54 = .ok (.iastore, 1) := by decide +kernel
theorem d_Model_view_55 : decode prog_13_method_121_code 55 = .ok (.aload_n 0, 1) := by decide +kernel
theorem d_Model_view_56 : decode prog_13_method_121_code 56 = .ok (.dup, 1) := by decide +kernel
theorem d_Model_view_57 : decode prog_13_method_121_code 57 = .ok (.getfield 557, 3) := by decide +kernel
theorem d_Model_view_60 : decode prog_13_method_121_code 60 = .ok (.iconst 1, 1) := by decide +kernel
theorem d_Model_view_61 : decode prog_13_method_121_code 61 = .ok (.iadd, 1) := by decide +kernel
theorem d_Model_view_62 : decode prog_13_method_121_code 62 = .ok (.putfield 557, 3) := by decide +kernel
theorem d_Model_view_65 : decode prog_13_method_121_code 65 = .ok (.aload_n 0, 1) := by decide +kernel
theorem d_Model_view_66 : decode prog_13_method_121_code 66 = .ok (.getfield 557, 3) := by decide +kernel
theorem d_Model_view_69 : decode prog_13_method_121_code 69 = .ok (.iconst 1, 1) := by decide +kernel
theorem d_Model_view_70 : decode prog_13_method_121_code 70 = .ok (.isub, 1) := by decide +kernel
theorem d_Model_view_71 : decode prog_13_method_121_code 71 = .ok (.ireturn, 1) := by decide +kernel
theorem d_Model_canBeView_0 : decode prog_13_method_120_code 0 = .ok (.iconst 1, 1) := by decide +kernel
theorem d_Model_canBeView_1 : decode prog_13_method_120_code 1 = .ok (.istore_n 2, 1) := by decide +kernel
theorem d_Model_canBeView_2 : decode prog_13_method_120_code 2 = .ok (.iconst 0, 1) := by decide +kernel
theorem d_Model_canBeView_3 : decode prog_13_method_120_code 3 = .ok (.istore_n 3, 1) := by decide +kernel
theorem d_Model_canBeView_4 : decode prog_13_method_120_code 4 = .ok (.iload_n 3, 1) := by decide +kernel
theorem d_Model_canBeView_5 : decode prog_13_method_120_code 5 = .ok (.aload_n 0, 1) := by decide +kernel
theorem d_Model_canBeView_6 : decode prog_13_method_120_code 6 = .ok (.getfield 159, 3) := by decide +kernel
theorem d_Model_canBeView_9 : decode prog_13_method_120_code 9 = .ok (.iload_n 1, 1) := by decide +kernel
theorem d_Model_canBeView_10 : decode prog_13_method_120_code 10 = .ok (.iaload, 1) := by decide +kernel
theorem d_Model_canBeView_11 : decode prog_13_method_120_code 11 = .ok (.if_icmp .ge 140, 3) := by decide +kernel
theorem d_Model_canBeView_14 : decode prog_13_method_120_code 14 = .ok (.iload_n 1, 1) := by decide +kernel
theorem d_Model_canBeView_15 : decode prog_13_method_120_code 15 = .ok (.invokestatic 431, 3) := by decide +kernel
theorem d_Model_canBeView_18 : decode prog_13_method_120_code 18 = .ok (.iload_n 3, 1) := by decide +kernel
theorem d_Model_canBeView_19 : decode prog_13_method_120_code 19 = .ok (.iadd, 1) := by decide +kernel
theorem d_Model_canBeView_20 : decode prog_13_method_120_code 20 = .ok (.istore 4, 2) := by decide +kernel
theorem d_Model_canBeView_22 : decode prog_13_method_120_code 22 = .ok (.iload_n 3, 1) := by decide +kernel
theorem d_Model_canBeView_23 : decode prog_13_method_120_code 23 = .ok (.aload_n 0, 1) := by decide +kernel
theorem d_Model_canBeView_24 : decode prog_13_method_120_code 24 = .ok (.getfield 159, 3) := by decide +kernel
theorem d_Model_canBeView_27 : decode prog_13_method_120_code 27 = .ok (.iload_n 1, 1) := by decide +kernel
theorem d_Model_canBeView_28 : decode prog_13_method_120_code 28 = .ok (.iaload, 1) := by decide +kernel
theorem d_Model_canBeView_29 : decode prog_13_method_120_code 29 = .ok (.iconst 1, 1) := by decide +kernel
theorem d_Model_canBeView_30 : decode prog_13_method_120_code 30 = .ok (.isub, 1) := by decide +kernel
theorem d_Model_canBeView_31 : decode prog_13_method_120_code 31 = .ok (.if_icmp .ne 7, 3) := by decide +kernel
theorem d_Model_canBeView_34 : decode prog_13_method_120_code 34 = .ok (.iconst 1, 1) := by decide +kernel
theorem d_Model_canBeView_35 : decode prog_13_method_120_code 35 = .ok (.goto 4, 3) := by decide +kernel
theorem d_Model_canBeView_38 : decode prog_13_method_120_code 38 = .ok (.iconst 0, 1) := by decide +kernel
theorem d_Model_canBeView_39 : decode prog_13_method_120_code 39 = .ok (.istore 5, 2) := by decide +kernel
theorem d_Model_canBeView_41 : decode prog_13_method_120_code 41 = .ok (.aload_n 0, 1) := by decide +kernel
theorem d_Model_canBeView_42 : decode prog_13_method_120_code 42 = .ok (.getfield 144, 3) := by decide +kernel
theorem d_Model_canBeView_45 : decode prog_13_method_120_code 45 = .ok (.iload 4, 2) := by decide +kernel
theorem d_Model_canBeView_47 : decode prog_13_method_120_code 47 = .ok (.iaload, 1) := by decide +kernel
theorem d_Model_canBeView_48 : decode prog_13_method_120_code 48 = .ok (.bipush 6, 2) := by decide +kernel
theorem d_Model_canBeView_50 : decode prog_13_method_120_code 50 = .ok (.if_icmp .ne 34, 3) := by decide +kernel
theorem d_Model_canBeView_53 : decode prog_13_method_120_code 53 = .ok (.iload 5, 2) := by decide +kernel
theorem d_Model_canBeView_55 : decode prog_13_method_120_code 55 = .ok (.ifCond .eq 29, 3) := by decide +kernel
theorem d_Model_canBeView_58 : decode prog_13_method_120_code 58 = .ok (.aload_n 0, 1) := by decide +kernel
theorem d_Model_canBeView_59 : decode prog_13_method_120_code 59 = .ok (.getfield 147, 3) := by decide +kernel
theorem d_Model_canBeView_62 : decode prog_13_method_120_code 62 = .ok (.iload 4, 2) := by decide +kernel
theorem d_Model_canBeView_64 : decode prog_13_method_120_code 64 = .ok (.iaload, 1) := by decide +kernel
theorem d_Model_canBeView_65 : decode prog_13_method_120_code 65 = .ok (.iconst (-1), 1) := by decide +kernel
theorem d_Model_canBeView_66 : decode prog_13_method_120_code 66 = .ok (.if_icmp .eq 18, 3) := by decide +kernel
theorem d_Model_canBeView_69 : decode prog_13_method_120_code 69 = .ok (.aload_n 0, 1) := by decide +kernel
theorem d_Model_canBeView_70 : decode prog_13_method_120_code 70 = .ok (.getfield 150, 3) := by decide +kernel
theorem d_Model_canBeView_73 : decode prog_13_method_120_code 73 = .ok (.iload 4, 2) := by decide +kernel
theorem d_Model_canBeView_75 : decode prog_13_method_120_code 75 = .ok (.iaload, 1) := by decide +kernel
theorem d_Model_canBeView_76 : decode prog_13_method_120_code 76 = .ok (.iconst 1, 1) := by decide +kernel
theorem d_Model_canBeView_77 : decode prog_13_method_120_code 77 = .ok (.if_icmp .gt 7, 3) := by decide +kernel
theorem d_Model_canBeView_80 : decode prog_13_method_120_code 80 = .ok (.iconst 1, 1) := by decide +kernel
theorem d_Model_canBeView_81 : decode prog_13_method_120_code 81 = .ok (.goto 4, 3) := by decide +kernel
theorem d_Model_canBeView_84 : decode prog_13_method_120_code 84 = .ok (.iconst 0, 1) := by decide +kernel
theorem d_Model_canBeView_85 : decode prog_13_method_120_code 85 = .ok (.istore 6, 2) := by decide +kernel
theorem d_Model_canBeView_87 : decode prog_13_method_120_code 87 = .ok (.iload_n 2, 1) := by decide +kernel
theorem d_Model_canBeView_88 : decode prog_13_method_120_code 88 = .ok (.ifCond .eq 55, 3) := by decide +kernel
theorem d_Model_canBeView_91 : decode prog_13_method_120_code 91 = .ok (.aload_n 0, 1) := by decide +kernel
theorem d_Model_canBeView_92 : decode prog_13_method_120_code 92 = .ok (.getfield 144, 3) := by decide +kernel
theorem d_Model_canBeView_95 : decode prog_13_method_120_code 95 = .ok (.iload 4, 2) := by decide +kernel
theorem d_Model_canBeView_97 : decode prog_13_method_120_code 97 = .ok (.iaload, 1) := by decide +kernel
theorem d_Model_canBeView_98 : decode prog_13_method_120_code 98 = .ok (.ifCond .eq 41, 3) := by decide +kernel
theorem d_Model_canBeView_101 : decode prog_13_method_120_code 101 = .ok (.aload_n 0, 1) := by decide +kernel
theorem d_Model_canBeView_102 : decode prog_13_method_120_code 102 = .ok (.getfield 144, 3) := by decide +kernel
theorem d_Model_canBeView_105 : decode prog_13_method_120_code 105 = .ok (.iload 4, 2) := by decide +kernel
theorem d_Model_canBeView_107 : decode prog_13_method_120_code 107 = .ok (.iaload, 1) := by decide +kernel
theorem d_Model_canBeView_108 : decode prog_13_method_120_code 108 = .ok (.invokestatic 504, 3) := by decide +kernel
theorem d_Model_canBeView_111 : decode prog_13_method_120_code 111 = .ok (.ifCond .ne 28, 3) := by decide +kernel
theorem d_Model_canBeView_114 : decode prog_13_method_120_code 114 = .ok (.aload_n 0, 1) := by decide +kernel
theorem d_Model_canBeView_115 : decode prog_13_method_120_code 115 = .ok (.iload_n 1, 1) := by decide +kernel
theorem d_Model_canBeView_116 : decode prog_13_method_120_code 116 = .ok (.iload_n 3, 1) := by decide +kernel
theorem d_Model_canBeView_117 : decode prog_13_method_120_code 117 = .ok (.invokevirtual 507, 3) := by decide +kernel
theorem d_Model_canBeView_120 : decode prog_13_method_120_code 120 = .ok (.ifCond .ne 19, 3) := by decide +kernel
theorem d_Model_canBeView_123 : decode prog_13_method_120_code 123 = .ok (.aload_n 0, 1) := by decide +kernel
theorem d_Model_canBeView_124 : decode prog_13_method_120_code 124 = .ok (.getfield 144, 3) := by decide +kernel
theorem d_Model_canBeView_127 : decode prog_13_method_120_code 127 = .ok (.iload 4, 2) := by decide +kernel
theorem d_Model_canBeView_129 : decode prog_13_method_120_code 129 = .ok (.iaload, 1) := by decide +kernel
theorem d_Model_canBeView_130 : decode prog_13_method_120_code 130 = .ok (.iconst 5, 1) := by decide +kernel
theorem d_Model_canBeView_131 : decode prog_13_method_120_code 131 = .ok (.if_icmp .eq 8, 3) := by decide +kernel
theorem d_Model_canBeView_134 : decode prog_13_method_120_code 134 = .ok (.iload 6, 2) := by decide +kernel
theorem d_Model_canBeView_136 : decode prog_13_method_120_code 136 = .ok (.ifCond .eq 7, 3) := by decide +kernel
theorem d_Model_canBeView_139 : decode prog_13_method_120_code 139 = .ok (.iconst 1, 1) := by decide +kernel
theorem d_Model_canBeView_140 : decode prog_13_method_120_code 140 = .ok (.goto 4, 3) := by decide +kernel
theorem d_Model_canBeView_143 : decode prog_13_method_120_code 143 = .ok (.iconst 0, 1) := by decide +kernel
theorem d_Model_canBeView_144 : decode prog_13_method_120_code 144 = .ok (.istore_n 2, 1) := by decide +kernel
theorem d_Model_canBeView_145 : decode prog_13_method_120_code 145 = .ok (.iinc 3 1, 3) := by decide +kernel
theorem d_Model_canBeView_148 : decode prog_13_method_120_code 148 = .ok (.goto (-144), 3) := by decide +kernel
theorem d_Model_canBeView_151 : decode prog_13_method_120_code 151 = .ok (.iload_n 2, 1) := by decide +kernel
theorem d_Model_canBeView_152 : decode prog_13_method_120_code 152 = .ok (.ireturn, 1) := by decide +kernel
theorem d_Model_viewRows_0 : decode prog_13_method_123_code 0 = .ok (.aload_n 0, 1) := by decide +kernel
theorem d_Model_viewRows_1 : decode prog_13_method_123_code 1 = .ok (.aload_n 0, 1) := by decide +kernel
theorem d_Model_viewRows_2 : decode prog_13_method_123_code 2 = .ok (.iload_n 1, 1) := by decide +kernel
theorem d_Model_viewRows_3 : decode prog_13_method_123_code 3 = .ok (.invokevirtual 563, 3) := by decide +kernel
theorem d_Model_viewRows_6 : decode prog_13_method_123_code 6 = .ok (.ifCond .eq 7, 3) := by decide +kernel
theorem d_Model_viewRows_9 : decode prog_13_method_123_code 9 = .ok (.iconst 0, 1) := by decide +kernel
theorem d_Model_viewRows_10 : decode prog_13_method_123_code 10 = .ok (.goto 4, 3) := by decide +kernel
theorem d_Model_viewRows_13 : decode prog_13_method_123_code 13 = .ok (.iconst 1, 1) := by decide +kernel
theorem d_Model_viewRows_14 : decode prog_13_method_123_code 14 = .ok (.invokevirtual 254, 3) := by decide +kernel
theorem d_Model_viewRows_17 : decode prog_13_method_123_code 17 = .ok (.ifCond .eq 5, 3) := by decide +kernel
theorem d_Model_viewRows_20 : decode prog_13_method_123_code 20 = .ok (.iconst 0, 1) := by decide +kernel
theorem d_Model_viewRows_21 : decode prog_13_method_123_code 21 = .ok (.ireturn, 1) := by decide +kernel
theorem d_Model_viewRows_22 : decode prog_13_method_123_code 22 = .ok (.aload_n 0, 1) := by decide +kernel
theorem d_Model_viewRows_23 : decode prog_13_method_123_code 23 = .ok (.aload_n 0, 1) := by decide +kernel
theorem d_Model_viewRows_24 : decode prog_13_method_123_code 24 = .ok (.getfield 174, 3) := by decide +kernel
theorem d_Model_viewRows_27 : decode prog_13_method_123_code 27 = .ok (.iload_n 1, 1) := by decide +kernel
theorem d_Model_viewRows_28 : decode prog_13_method_123_code 28 = .ok (.iaload, 1) := by decide +kernel
theorem d_Model_viewRows_29 : decode prog_13_method_123_code 29 = .ok (.iconst 4, 1) := by decide +kernel
theorem d_Model_viewRows_30 : decode prog_13_method_123_code 30 = .ok (.iconst 0, 1) := by decide +kernel
theorem d_Model_viewRows_31 : decode prog_13_method_123_code 31 = .ok (.invokevirtual 489, 3) := by decide +kernel
theorem d_Model_viewRows_34 : decode prog_13_method_123_code 34 = .ok (.aload_n 0, 1) := by decide +kernel
theorem d_Model_viewRows_35 : decode prog_13_method_123_code 35 = .ok (.getfield 184, 3) := by decide +kernel
theorem d_Model_viewRows_38 : decode prog_13_method_123_code 38 = .ok (.iconst 0, 1) := by decide +kernel
theorem d_Model_viewRows_39 : decode prog_13_method_123_code 39 = .ok (.iaload, 1) := by decide +kernel
theorem d_Model_viewRows_40 : decode prog_13_method_123_code 40 = .ok (.ireturn, 1) := by decide +kernel
theorem d_Model_isView_0 : decode prog_13_method_122_code 0 = .ok (.iload_n 1, 1) := by decide +kernel
theorem d_Model_isView_1 : decode prog_13_method_122_code 1 = .ok (.iconst 0, 1) := by decide +kernel
theorem d_Model_isView_2 : decode prog_13_method_122_code 2 = .ok (.aload_n 0, 1) := by decide +kernel
theorem d_Model_isView_3 : decode prog_13_method_122_code 3 = .ok (.getfield 557, 3) := by decide +kernel
theorem d_Model_isView_6 : decode prog_13_method_122_code 6 = .ok (.iconst 1, 1) := by decide +kernel
theorem d_Model_isView_7 : decode prog_13_method_122_code 7 = .ok (.isub, 1) := by decide +kernel
theorem d_Model_isView_8 : decode prog_13_method_122_code 8 = .ok (.invokestatic 235, 3) := by decide +kernel
theorem d_Model_isView_11 : decode prog_13_method_122_code 11 = .ok (.ireturn, 1) := by decide +kernel
theorem d_Model_viewAt_0 : decode prog_13_method_125_code 0 = .ok (.aload_n 0, 1) := by decide +kernel
theorem d_Model_viewAt_1 : decode prog_13_method_125_code 1 = .ok (.iload_n 1, 1) := by decide +kernel
theorem d_Model_viewAt_2 : decode prog_13_method_125_code 2 = .ok (.iload_n 2, 1) := by decide +kernel
theorem d_Model_viewAt_3 : decode prog_13_method_125_code 3 = .ok (.iload_n 3, 1) := by decide +kernel
theorem d_Model_viewAt_4 : decode prog_13_method_125_code 4 = .ok (.invokevirtual 566, 3) := by decide +kernel
theorem d_Model_viewAt_7 : decode prog_13_method_125_code 7 = .ok (.ireturn, 1) := by decide +kernel
theorem d_Model_viewed_0 : decode prog_13_method_124_code 0 = .ok (.aload_n 0, 1) := by decide +kernel
theorem d_Model_viewed_1 : decode prog_13_method_124_code 1 = .ok (.iload_n 1, 1) := by decide +kernel
theorem d_Model_viewed_2 : decode prog_13_method_124_code 2 = .ok (.invokevirtual 563, 3) := by decide +kernel
theorem d_Model_viewed_5 : decode prog_13_method_124_code 5 = .ok (.istore 4, 2) := by decide +kernel
theorem d_Model_viewed_7 : decode prog_13_method_124_code 7 = .ok (.iload 4, 2) := by decide +kernel
theorem d_Model_viewed_9 : decode prog_13_method_124_code 9 = .ok (.ifCond .eq 15, 3) := by decide +kernel
theorem d_Model_viewed_12 : decode prog_13_method_124_code 12 = .ok (.aload_n 0, 1) := by decide +kernel
theorem d_Model_viewed_13 : decode prog_13_method_124_code 13 = .ok (.aload_n 0, 1) := by decide +kernel
theorem d_Model_viewed_14 : decode prog_13_method_124_code 14 = .ok (.getfield 174, 3) := by decide +kernel
theorem d_Model_viewed_17 : decode prog_13_method_124_code 17 = .ok (.iload_n 1, 1) := by decide +kernel
theorem d_Model_viewed_18 : decode prog_13_method_124_code 18 = .ok (.iaload, 1) := by decide +kernel
theorem d_Model_viewed_19 : decode prog_13_method_124_code 19 = .ok (.iconst 4, 1) := by decide +kernel
theorem d_Model_viewed_20 : decode prog_13_method_124_code 20 = .ok (.iconst 0, 1) := by decide +kernel
theorem d_Model_viewed_21 : decode prog_13_method_124_code 21 = .ok (.invokevirtual 489, 3) := by decide +kernel
theorem d_Model_viewed_24 : decode prog_13_method_124_code 24 = .ok (.iload 4, 2) := by decide +kernel
theorem d_Model_viewed_26 : decode prog_13_method_124_code 26 = .ok (.ifCond .eq 39, 3) := by decide +kernel
theorem d_Model_viewed_29 : decode prog_13_method_124_code 29 = .ok (.iload_n 2, 1) := by decide +kernel
theorem d_Model_viewed_30 : decode prog_13_method_124_code 30 = .ok (.iconst 0, 1) := by decide +kernel
theorem d_Model_viewed_31 : decode prog_13_method_124_code 31 = .ok (.aload_n 0, 1) := by decide +kernel
theorem d_Model_viewed_32 : decode prog_13_method_124_code 32 = .ok (.getfield 184, 3) := by decide +kernel
theorem d_Model_viewed_35 : decode prog_13_method_124_code 35 = .ok (.iconst 0, 1) := by decide +kernel
theorem d_Model_viewed_36 : decode prog_13_method_124_code 36 = .ok (.iaload, 1) := by decide +kernel
theorem d_Model_viewed_37 : decode prog_13_method_124_code 37 = .ok (.iconst 1, 1) := by decide +kernel
theorem d_Model_viewed_38 : decode prog_13_method_124_code 38 = .ok (.isub, 1) := by decide +kernel
theorem d_Model_viewed_39 : decode prog_13_method_124_code 39 = .ok (.invokestatic 235, 3) := by decide +kernel
theorem d_Model_viewed_42 : decode prog_13_method_124_code 42 = .ok (.ifCond .eq 23, 3) := by decide +kernel
theorem d_Model_viewed_45 : decode prog_13_method_124_code 45 = .ok (.iload_n 3, 1) := by decide +kernel
theorem d_Model_viewed_46 : decode prog_13_method_124_code 46 = .ok (.iconst 0, 1) := by decide +kernel
theorem d_Model_viewed_47 : decode prog_13_method_124_code 47 = .ok (.aload_n 0, 1) := by decide +kernel
theorem d_Model_viewed_48 : decode prog_13_method_124_code 48 = .ok (.getfield 187, 3) := by decide +kernel
theorem d_Model_viewed_51 : decode prog_13_method_124_code 51 = .ok (.iconst 0, 1) := by decide +kernel
theorem d_Model_viewed_52 : decode prog_13_method_124_code 52 = .ok (.iaload, 1) := by decide +kernel
theorem d_Model_viewed_53 : decode prog_13_method_124_code 53 = .ok (.iconst 1, 1) := by decide +kernel
theorem d_Model_viewed_54 : decode prog_13_method_124_code 54 = .ok (.isub, 1) := by decide +kernel
theorem d_Model_viewed_55 : decode prog_13_method_124_code 55 = .ok (.invokestatic 235, 3) := by decide +kernel
theorem d_Model_viewed_58 : decode prog_13_method_124_code 58 = .ok (.ifCond .eq 7, 3) := by decide +kernel
theorem d_Model_viewed_61 : decode prog_13_method_124_code 61 = .ok (.iconst 1, 1) := by decide +kernel
theorem d_Model_viewed_62 : decode prog_13_method_124_code 62 = .ok (.goto 4, 3) := by decide +kernel
theorem d_Model_viewed_65 : decode prog_13_method_124_code 65 = .ok (.iconst 0, 1) := by decide +kernel
theorem d_Model_viewed_66 : decode prog_13_method_124_code 66 = .ok (.istore 5, 2) := by decide +kernel
theorem d_Model_viewed_68 : decode prog_13_method_124_code 68 = .ok (.aload_n 0, 1) := by decide +kernel
theorem d_Model_viewed_69 : decode prog_13_method_124_code 69 = .ok (.iload 5, 2) := by decide +kernel
theorem d_Model_viewed_71 : decode prog_13_method_124_code 71 = .ok (.ifCond .eq 7, 3) := by decide +kernel
theorem d_Model_viewed_74 : decode prog_13_method_124_code 74 = .ok (.iconst 0, 1) := by decide +kernel
theorem d_Model_viewed_75 : decode prog_13_method_124_code 75 = .ok (.goto 4, 3) := by decide +kernel
theorem d_Model_viewed_78 : decode prog_13_method_124_code 78 = .ok (.iconst 1, 1) := by decide +kernel
theorem d_Model_viewed_79 : decode prog_13_method_124_code 79 = .ok (.invokevirtual 254, 3) := by decide +kernel
theorem d_Model_viewed_82 : decode prog_13_method_124_code 82 = .ok (.ifCond .eq 7, 3) := by decide +kernel
theorem d_Model_viewed_85 : decode prog_13_method_124_code 85 = .ok (.iconst 0, 1) := by decide +kernel
theorem d_Model_viewed_86 : decode prog_13_method_124_code 86 = .ok (.goto 18, 3) := by decide +kernel
theorem d_Model_viewed_89 : decode prog_13_method_124_code 89 = .ok (.aload_n 0, 1) := by decide +kernel
theorem d_Model_viewed_90 : decode prog_13_method_124_code 90 = .ok (.getfield 178, 3) := by decide +kernel
theorem d_Model_viewed_93 : decode prog_13_method_124_code 93 = .ok (.aload_n 0, 1) := by decide +kernel
theorem d_Model_viewed_94 : decode prog_13_method_124_code 94 = .ok (.getfield 187, 3) := by decide +kernel
theorem d_Model_viewed_97 : decode prog_13_method_124_code 97 = .ok (.iconst 0, 1) := by decide +kernel
theorem d_Model_viewed_98 : decode prog_13_method_124_code 98 = .ok (.iaload, 1) := by decide +kernel
theorem d_Model_viewed_99 : decode prog_13_method_124_code 99 = .ok (.iload_n 2, 1) := by decide +kernel
theorem d_Model_viewed_100 : decode prog_13_method_124_code 100 = .ok (.imul, 1) := by decide +kernel
theorem d_Model_viewed_101 : decode prog_13_method_124_code 101 = .ok (.iload_n 3, 1) := by decide +kernel
theorem d_Model_viewed_102 : decode prog_13_method_124_code 102 = .ok (.iadd, 1) := by decide +kernel
theorem d_Model_viewed_103 : decode prog_13_method_124_code 103 = .ok (.iaload, 1) := by decide +kernel
theorem d_Model_viewed_104 : decode prog_13_method_124_code 104 = .ok (.ireturn, 1) := by decide +kernel
theorem d_Model_viewAnew_0 : decode prog_13_method_126_code 0 = .ok (.aload_n 0, 1) := by decide +kernel
theorem d_Model_viewAnew_1 : decode prog_13_method_126_code 1 = .ok (.iload_n 1, 1) := by decide +kernel
theorem d_Model_viewAnew_2 : decode prog_13_method_126_code 2 = .ok (.iload_n 2, 1) := by decide +kernel
theorem d_Model_viewAnew_3 : decode prog_13_method_126_code 3 = .ok (.iload_n 3, 1) := by decide +kernel
theorem d_Model_viewAnew_4 : decode prog_13_method_126_code 4 = .ok (.invokevirtual 566, 3) := by decide +kernel
theorem d_Model_viewAnew_7 : decode prog_13_method_126_code 7 = .ok (.ireturn, 1) := by decide +kernel
theorem d_Model_checkpoint_0 : decode prog_13_method_127_code 0 = .ok (.aload_n 0, 1) := by decide +kernel
theorem d_Model_checkpoint_1 : decode prog_13_method_127_code 1 = .ok (.iconst 4, 1) := by decide +kernel
theorem d_Model_checkpoint_2 : decode prog_13_method_127_code 2 = .ok (.iconst (-1), 1) := by decide +kernel
theorem d_Model_checkpoint_3 : decode prog_13_method_127_code 3 = .ok (.ldc 246, 2) := by decide +kernel
theorem d_Model_checkpoint_5 : decode prog_13_method_127_code 5 = .ok (.ldc 246, 2) := by decide +kernel
theorem d_Model_checkpoint_7 : decode prog_13_method_127_code 7 = .ok (.invokevirtual 297, 3) := by decide +kernel
theorem d_Model_checkpoint_10 : decode prog_13_method_127_code 10 = .ok (.aload_n 0, 1) := by decide +kernel
theorem d_Model_checkpoint_11 : decode prog_13_method_127_code 11 = .ok (.aload_n 0, 1) := by decide +kernel
theorem d_Model_checkpoint_12 : decode prog_13_method_127_code 12 = .ok (.getfield 294, 3) := by decide +kernel
theorem d_Model_checkpoint_15 : decode prog_13_method_127_code 15 = .ok (.putfield 394, 3) := by decide +kernel
theorem d_Model_checkpoint_18 : decode prog_13_method_127_code 18 = .ok (.aload_n 0, 1) := by decide +kernel
theorem d_Model_checkpoint_19 : decode prog_13_method_127_code 19 = .ok (.aload_n 0, 1) := by decide +kernel
theorem d_Model_checkpoint_20 : decode prog_13_method_127_code 20 = .ok (.getfield 294, 3) := by decide +kernel
theorem d_Model_checkpoint_23 : decode prog_13_method_127_code 23 = .ok (.invokevirtual 554, 3) := by decide +kernel
theorem d_Model_checkpoint_26 : decode prog_13_method_127_code 26 = .ok (.ireturn, 1) := by decide +kernel
theorem d_Model_crash_0 : decode prog_13_method_130_code 0 = .ok (.aload_n 0, 1) := by decide +kernel
theorem d_Model_crash_1 : decode prog_13_method_130_code 1 = .ok (.iload_n 1, 1) := by decide +kernel
theorem d_Model_crash_2 : decode prog_13_method_130_code 2 = .ok (.aload_n 0, 1) := by decide +kernel
theorem d_Model_crash_3 : decode prog_13_method_130_code 3 = .ok (.getfield 394, 3) := by decide +kernel
theorem d_Model_crash_6 : decode prog_13_method_130_code 6 = .ok (.aload_n 0, 1) := by decide +kernel
theorem d_Model_crash_7 : decode prog_13_method_130_code 7 = .ok (.getfield 294, 3) := by decide +kernel
theorem d_Model_crash_10 : decode prog_13_method_130_code 10 = .ok (.invokestatic 235, 3) := by decide +kernel
theorem d_Model_crash_13 : decode prog_13_method_130_code 13 = .ok (.ifCond .eq 7, 3) := by decide +kernel
theorem d_Model_crash_16 : decode prog_13_method_130_code 16 = .ok (.iconst 0, 1) := by decide +kernel
theorem d_Model_crash_17 : decode prog_13_method_130_code 17 = .ok (.goto 4, 3) := by decide +kernel
theorem d_Model_crash_20 : decode prog_13_method_130_code 20 = .ok (.iconst 1, 1) := by decide +kernel
theorem d_Model_crash_21 : decode prog_13_method_130_code 21 = .ok (.invokevirtual 254, 3) := by decide +kernel
theorem d_Model_crash_24 : decode prog_13_method_130_code 24 = .ok (.ifCond .eq 5, 3) := by decide +kernel
theorem d_Model_crash_27 : decode prog_13_method_130_code 27 = .ok (.iconst 0, 1) := by decide +kernel
theorem d_Model_crash_28 : decode prog_13_method_130_code 28 = .ok (.ireturn, 1) := by decide +kernel
theorem d_Model_crash_29 : decode prog_13_method_130_code 29 = .ok (.aload_n 0, 1) := by decide +kernel
theorem d_Model_crash_30 : decode prog_13_method_130_code 30 = .ok (.iload_n 1, 1) := by decide +kernel
theorem d_Model_crash_31 : decode prog_13_method_130_code 31 = .ok (.putfield 294, 3) := by decide +kernel
theorem d_Model_crash_34 : decode prog_13_method_130_code 34 = .ok (.iconst 0, 1) := by decide +kernel
theorem d_Model_crash_35 : decode prog_13_method_130_code 35 = .ok (.istore_n 2, 1) := by decide +kernel
theorem d_Model_crash_36 : decode prog_13_method_130_code 36 = .ok (.iload_n 2, 1) := by decide +kernel
theorem d_Model_crash_37 : decode prog_13_method_130_code 37 = .ok (.aload_n 0, 1) := by decide +kernel
theorem d_Model_crash_38 : decode prog_13_method_130_code 38 = .ok (.getfield 247, 3) := by decide +kernel
theorem d_Model_crash_41 : decode prog_13_method_130_code 41 = .ok (.if_icmp .ge 25, 3) := by decide +kernel
theorem d_Model_crash_44 : decode prog_13_method_130_code 44 = .ok (.aload_n 0, 1) := by decide +kernel
theorem d_Model_crash_45 : decode prog_13_method_130_code 45 = .ok (.getfield 61, 3) := by decide +kernel
theorem d_Model_crash_48 : decode prog_13_method_130_code 48 = .ok (.iload_n 2, 1) := by decide +kernel
theorem d_Model_crash_49 : decode prog_13_method_130_code 49 = .ok (.iaload, 1) := by decide +kernel
theorem d_Model_crash_50 : decode prog_13_method_130_code 50 = .ok (.iconst 2, 1) := by decide +kernel
theorem d_Model_crash_51 : decode prog_13_method_130_code 51 = .ok (.if_icmp .ge 9, 3) := by decide +kernel
theorem d_Model_crash_54 : decode prog_13_method_130_code 54 = .ok (.aload_n 0, 1) := by decide +kernel
theorem d_Model_crash_55 : decode prog_13_method_130_code 55 = .ok (.iload_n 2, 1) := by decide +kernel
theorem d_Model_crash_56 : decode prog_13_method_130_code 56 = .ok (.iconst 3, 1) := by decide +kernel
theorem d_Model_crash_57 : decode prog_13_method_130_code 57 = .ok (.invokevirtual 301, 3) := by decide +kernel
theorem d_Model_crash_60 : decode prog_13_method_130_code 60 = .ok (.iinc 2 1, 3) := by decide +kernel
theorem d_Model_crash_63 : decode prog_13_method_130_code 63 = .ok (.goto (-27), 3) := by decide +kernel
theorem d_Model_crash_66 : decode prog_13_method_130_code 66 = .ok (.iconst 0, 1) := by decide +kernel
theorem d_Model_crash_67 : decode prog_13_method_130_code 67 = .ok (.istore_n 2, 1) := by decide +kernel
theorem d_Model_crash_68 : decode prog_13_method_130_code 68 = .ok (.iconst 0, 1) := by decide +kernel
theorem d_Model_crash_69 : decode prog_13_method_130_code 69 = .ok (.istore_n 3, 1) := by decide +kernel
theorem d_Model_crash_70 : decode prog_13_method_130_code 70 = .ok (.iload_n 3, 1) := by decide +kernel
theorem d_Model_crash_71 : decode prog_13_method_130_code 71 = .ok (.aload_n 0, 1) := by decide +kernel
theorem d_Model_crash_72 : decode prog_13_method_130_code 72 = .ok (.getfield 247, 3) := by decide +kernel
theorem d_Model_crash_75 : decode prog_13_method_130_code 75 = .ok (.if_icmp .ge 44, 3) := by decide +kernel
theorem d_Model_crash_78 : decode prog_13_method_130_code 78 = .ok (.aload_n 0, 1) := by decide +kernel
theorem d_Model_crash_79 : decode prog_13_method_130_code 79 = .ok (.iload_n 3, 1) := by decide +kernel
theorem d_Model_crash_80 : decode prog_13_method_130_code 80 = .ok (.iconst 0, 1) := by decide +kernel
theorem d_Model_crash_81 : decode prog_13_method_130_code 81 = .ok (.invokevirtual 569, 3) := by decide +kernel
theorem d_Model_crash_84 : decode prog_13_method_130_code 84 = .ok (.ifCond .eq 29, 3) := by decide +kernel
theorem d_Model_crash_87 : decode prog_13_method_130_code 87 = .ok (.aload_n 0, 1) := by decide +kernel
theorem d_Model_crash_88 : decode prog_13_method_130_code 88 = .ok (.iload_n 3, 1) := by decide +kernel
theorem d_Model_crash_89 : decode prog_13_method_130_code 89 = .ok (.iconst 1, 1) := by decide +kernel
theorem d_Model_crash_90 : decode prog_13_method_130_code 90 = .ok (.invokevirtual 569, 3) := by decide +kernel
theorem d_Model_crash_93 : decode prog_13_method_130_code 93 = .ok (.ifCond .ne 20, 3) := by decide +kernel
theorem d_Model_crash_96 : decode prog_13_method_130_code 96 = .ok (.aload_n 0, 1) := by decide +kernel
theorem d_Model_crash_97 : decode prog_13_method_130_code 97 = .ok (.iload_n 3, 1) := by decide +kernel
theorem d_Model_crash_98 : decode prog_13_method_130_code 98 = .ok (.iconst 3, 1) := by decide +kernel
theorem d_Model_crash_99 : decode prog_13_method_130_code 99 = .ok (.invokevirtual 569, 3) := by decide +kernel
theorem d_Model_crash_102 : decode prog_13_method_130_code 102 = .ok (.ifCond .ne 11, 3) := by decide +kernel
theorem d_Model_crash_105 : decode prog_13_method_130_code 105 = .ok (.iload_n 2, 1) := by decide +kernel
theorem d_Model_crash_106 : decode prog_13_method_130_code 106 = .ok (.aload_n 0, 1) := by decide +kernel
theorem d_Model_crash_107 : decode prog_13_method_130_code 107 = .ok (.iload_n 3, 1) := by decide +kernel
theorem d_Model_crash_108 : decode prog_13_method_130_code 108 = .ok (.invokevirtual 572, 3) := by decide +kernel
theorem d_Model_crash_111 : decode prog_13_method_130_code 111 = .ok (.iadd, 1) := by decide +kernel
theorem d_Model_crash_112 : decode prog_13_method_130_code 112 = .ok (.istore_n 2, 1) := by decide +kernel
theorem d_Model_crash_113 : decode prog_13_method_130_code 113 = .ok (.iinc 3 1, 3) := by decide +kernel
theorem d_Model_crash_116 : decode prog_13_method_130_code 116 = .ok (.goto (-46), 3) := by decide +kernel
theorem d_Model_crash_119 : decode prog_13_method_130_code 119 = .ok (.aload_n 0, 1) := by decide +kernel
theorem d_Model_crash_120 : decode prog_13_method_130_code 120 = .ok (.aload_n 0, 1) := by decide +kernel
theorem d_Model_crash_121 : decode prog_13_method_130_code 121 = .ok (.getfield 294, 3) := by decide +kernel
theorem d_Model_crash_124 : decode prog_13_method_130_code 124 = .ok (.putfield 394, 3) := by decide +kernel
theorem d_Model_crash_127 : decode prog_13_method_130_code 127 = .ok (.iload_n 2, 1) := by decide +kernel
theorem d_Model_crash_128 : decode prog_13_method_130_code 128 = .ok (.ireturn, 1) := by decide +kernel
theorem d_Model_hasRecord_0 : decode prog_13_method_128_code 0 = .ok (.iconst 0, 1) := by decide +kernel
theorem d_Model_hasRecord_1 : decode prog_13_method_128_code 1 = .ok (.istore_n 3, 1) := by decide +kernel
theorem d_Model_hasRecord_2 : decode prog_13_method_128_code 2 = .ok (.iconst 0, 1) := by decide +kernel
theorem d_Model_hasRecord_3 : decode prog_13_method_128_code 3 = .ok (.istore 4, 2) := by decide +kernel
theorem d_Model_hasRecord_5 : decode prog_13_method_128_code 5 = .ok (.iload 4, 2) := by decide +kernel
theorem d_Model_hasRecord_7 : decode prog_13_method_128_code 7 = .ok (.aload_n 0, 1) := by decide +kernel
theorem d_Model_hasRecord_8 : decode prog_13_method_128_code 8 = .ok (.getfield 294, 3) := by decide +kernel
theorem d_Model_hasRecord_11 : decode prog_13_method_128_code 11 = .ok (.if_icmp .ge 41, 3) := by decide +kernel
theorem d_Model_hasRecord_14 : decode prog_13_method_128_code 14 = .ok (.iload_n 3, 1) := by decide +kernel
theorem d_Model_hasRecord_15 : decode prog_13_method_128_code 15 = .ok (.ifCond .ne 25, 3) := by decide +kernel
theorem d_Model_hasRecord_18 : decode prog_13_method_128_code 18 = .ok (.aload_n 0, 1) := by decide +kernel
theorem d_Model_hasRecord_19 : decode prog_13_method_128_code 19 = .ok (.getfield 126, 3) := by decide +kernel
theorem d_Model_hasRecord_22 : decode prog_13_method_128_code 22 = .ok (.iload 4, 2) := by decide +kernel
theorem d_Model_hasRecord_24 : decode prog_13_method_128_code 24 = .ok (.iaload, 1) := by decide +kernel
theorem d_Model_hasRecord_25 : decode prog_13_method_128_code 25 = .ok (.iload_n 2, 1) := by decide +kernel
theorem d_Model_hasRecord_26 : decode prog_13_method_128_code 26 = .ok (.if_icmp .ne 18, 3) := by decide +kernel
theorem d_Model_hasRecord_29 : decode prog_13_method_128_code 29 = .ok (.aload_n 0, 1) := by decide +kernel
theorem d_Model_hasRecord_30 : decode prog_13_method_128_code 30 = .ok (.getfield 129, 3) := by decide +kernel
theorem d_Model_hasRecord_33 : decode prog_13_method_128_code 33 = .ok (.iload 4, 2) := by decide +kernel
theorem d_Model_hasRecord_35 : decode prog_13_method_128_code 35 = .ok (.iaload, 1) := by decide +kernel
theorem d_Model_hasRecord_36 : decode prog_13_method_128_code 36 = .ok (.iload_n 1, 1) := by decide +kernel
theorem d_Model_hasRecord_37 : decode prog_13_method_128_code 37 = .ok (.if_icmp .ne 7, 3) := by decide +kernel
theorem d_Model_hasRecord_40 : decode prog_13_method_128_code 40 = .ok (.iconst 1, 1) := by decide +kernel
theorem d_Model_hasRecord_41 : decode prog_13_method_128_code 41 = .ok (.goto 4, 3) := by decide +kernel
theorem d_Model_hasRecord_44 : decode prog_13_method_128_code 44 = .ok (.iconst 0, 1) := by decide +kernel
theorem d_Model_hasRecord_45 : decode prog_13_method_128_code 45 = .ok (.istore_n 3, 1) := by decide +kernel
theorem d_Model_hasRecord_46 : decode prog_13_method_128_code 46 = .ok (.iinc 4 1, 3) := by decide +kernel
theorem d_Model_hasRecord_49 : decode prog_13_method_128_code 49 = .ok (.goto (-44), 3) := by decide +kernel
theorem d_Model_hasRecord_52 : decode prog_13_method_128_code 52 = .ok (.iload_n 3, 1) := by decide +kernel
theorem d_Model_hasRecord_53 : decode prog_13_method_128_code 53 = .ok (.ireturn, 1) := by decide +kernel
theorem d_Model_undoes_0 : decode prog_13_method_129_code 0 = .ok (.iconst 0, 1) := by decide +kernel
theorem d_Model_undoes_1 : decode prog_13_method_129_code 1 = .ok (.istore_n 2, 1) := by decide +kernel
theorem d_Model_undoes_2 : decode prog_13_method_129_code 2 = .ok (.aload_n 0, 1) := by decide +kernel
theorem d_Model_undoes_3 : decode prog_13_method_129_code 3 = .ok (.getfield 294, 3) := by decide +kernel
theorem d_Model_undoes_6 : decode prog_13_method_129_code 6 = .ok (.istore_n 3, 1) := by decide +kernel
theorem d_Model_undoes_7 : decode prog_13_method_129_code 7 = .ok (.iconst 0, 1) := by decide +kernel
theorem d_Model_undoes_8 : decode prog_13_method_129_code 8 = .ok (.istore 4, 2) := by decide +kernel
theorem d_Model_undoes_10 : decode prog_13_method_129_code 10 = .ok (.iload 4, 2) := by decide +kernel
theorem d_Model_undoes_12 : decode prog_13_method_129_code 12 = .ok (.iload_n 3, 1) := by decide +kernel
theorem d_Model_undoes_13 : decode prog_13_method_129_code 13 = .ok (.if_icmp .ge 39, 3) := by decide +kernel
theorem d_Model_undoes_16 : decode prog_13_method_129_code 16 = .ok (.iload_n 2, 1) := by decide +kernel
theorem d_Model_undoes_17 : decode prog_13_method_129_code 17 = .ok (.aload_n 0, 1) := by decide +kernel
theorem d_Model_undoes_18 : decode prog_13_method_129_code 18 = .ok (.getfield 126, 3) := by decide +kernel
theorem d_Model_undoes_21 : decode prog_13_method_129_code 21 = .ok (.iload 4, 2) := by decide +kernel
theorem d_Model_undoes_23 : decode prog_13_method_129_code 23 = .ok (.iaload, 1) := by decide +kernel
theorem d_Model_undoes_24 : decode prog_13_method_129_code 24 = .ok (.iconst 2, 1) := by decide +kernel
theorem d_Model_undoes_25 : decode prog_13_method_129_code 25 = .ok (.if_icmp .ne 18, 3) := by decide +kernel
theorem d_Model_undoes_28 : decode prog_13_method_129_code 28 = .ok (.aload_n 0, 1) := by decide +kernel
theorem d_Model_undoes_29 : decode prog_13_method_129_code 29 = .ok (.getfield 129, 3) := by decide +kernel
theorem d_Model_undoes_32 : decode prog_13_method_129_code 32 = .ok (.iload 4, 2) := by decide +kernel
theorem d_Model_undoes_34 : decode prog_13_method_129_code 34 = .ok (.iaload, 1) := by decide +kernel
theorem d_Model_undoes_35 : decode prog_13_method_129_code 35 = .ok (.iload_n 1, 1) := by decide +kernel
theorem d_Model_undoes_36 : decode prog_13_method_129_code 36 = .ok (.if_icmp .ne 7, 3) := by decide +kernel
theorem d_Model_undoes_39 : decode prog_13_method_129_code 39 = .ok (.iconst 1, 1) := by decide +kernel
theorem d_Model_undoes_40 : decode prog_13_method_129_code 40 = .ok (.goto 4, 3) := by decide +kernel
theorem d_Model_undoes_43 : decode prog_13_method_129_code 43 = .ok (.iconst 0, 1) := by decide +kernel
theorem d_Model_undoes_44 : decode prog_13_method_129_code 44 = .ok (.iadd, 1) := by decide +kernel
theorem d_Model_undoes_45 : decode prog_13_method_129_code 45 = .ok (.istore_n 2, 1) := by decide +kernel
theorem d_Model_undoes_46 : decode prog_13_method_129_code 46 = .ok (.iinc 4 1, 3) := by decide +kernel
theorem d_Model_undoes_49 : decode prog_13_method_129_code 49 = .ok (.goto (-39), 3) := by decide +kernel
theorem d_Model_undoes_52 : decode prog_13_method_129_code 52 = .ok (.iconst 0, 1) := by decide +kernel
theorem d_Model_undoes_53 : decode prog_13_method_129_code 53 = .ok (.istore 4, 2) := by decide +kernel
theorem d_Model_undoes_55 : decode prog_13_method_129_code 55 = .ok (.iload_n 3, 1) := by decide +kernel
theorem d_Model_undoes_56 : decode prog_13_method_129_code 56 = .ok (.iconst 1, 1) := by decide +kernel
theorem d_Model_undoes_57 : decode prog_13_method_129_code 57 = .ok (.isub, 1) := by decide +kernel
theorem d_Model_undoes_58 : decode prog_13_method_129_code 58 = .ok (.istore 5, 2) := by decide +kernel
theorem d_Model_undoes_60 : decode prog_13_method_129_code 60 = .ok (.iload 5, 2) := by decide +kernel
theorem d_Model_undoes_62 : decode prog_13_method_129_code 62 = .ok (.ifCond .lt 63, 3) := by decide +kernel
theorem d_Model_undoes_65 : decode prog_13_method_129_code 65 = .ok (.aload_n 0, 1) := by decide +kernel
theorem d_Model_undoes_66 : decode prog_13_method_129_code 66 = .ok (.getfield 126, 3) := by decide +kernel
theorem d_Model_undoes_69 : decode prog_13_method_129_code 69 = .ok (.iload 5, 2) := by decide +kernel
theorem d_Model_undoes_71 : decode prog_13_method_129_code 71 = .ok (.iaload, 1) := by decide +kernel
theorem d_Model_undoes_72 : decode prog_13_method_129_code 72 = .ok (.ifCond .ne 47, 3) := by decide +kernel
theorem d_Model_undoes_75 : decode prog_13_method_129_code 75 = .ok (.aload_n 0, 1) := by decide +kernel
theorem d_Model_undoes_76 : decode prog_13_method_129_code 76 = .ok (.getfield 129, 3) := by decide +kernel
theorem d_Model_undoes_79 : decode prog_13_method_129_code 79 = .ok (.iload 5, 2) := by decide +kernel
theorem d_Model_undoes_81 : decode prog_13_method_129_code 81 = .ok (.iaload, 1) := by decide +kernel
theorem d_Model_undoes_82 : decode prog_13_method_129_code 82 = .ok (.iload_n 1, 1) := by decide +kernel
theorem d_Model_undoes_83 : decode prog_13_method_129_code 83 = .ok (.if_icmp .ne 36, 3) := by decide +kernel
theorem d_Model_undoes_86 : decode prog_13_method_129_code 86 = .ok (.iload_n 2, 1) := by decide +kernel
theorem d_Model_undoes_87 : decode prog_13_method_129_code 87 = .ok (.ifCond .le 9, 3) := by decide +kernel
theorem d_Model_undoes_90 : decode prog_13_method_129_code 90 = .ok (.iinc 2 (-1), 3) := by decide +kernel
theorem d_Model_undoes_93 : decode prog_13_method_129_code 93 = .ok (.goto 26, 3) := by decide +kernel
theorem d_Model_undoes_96 : decode prog_13_method_129_code 96 = .ok (.aload_n 0, 1) := by decide +kernel
theorem d_Model_undoes_97 : decode prog_13_method_129_code 97 = .ok (.iconst 2, 1) := by decide +kernel
theorem d_Model_undoes_98 : decode prog_13_method_129_code 98 = .ok (.iload_n 1, 1) := by decide +kernel
theorem d_Model_undoes_99 : decode prog_13_method_129_code 99 = .ok (.aload_n 0, 1) := by decide +kernel
theorem d_Model_undoes_100 : decode prog_13_method_129_code 100 = .ok (.getfield 132, 3) := by decide +kernel
theorem d_Model_undoes_103 : decode prog_13_method_129_code 103 = .ok (.iload 5, 2) := by decide +kernel
theorem d_Model_undoes_105 : decode prog_13_method_129_code 105 = .ok (.iaload, 1) := by decide +kernel
theorem d_Model_undoes_106 : decode prog_13_method_129_code 106 = .ok (.aload_n 0, 1) := by decide +kernel
theorem d_Model_undoes_107 : decode prog_13_method_129_code 107 = .ok (.getfield 135, 3) := by decide +kernel
theorem d_Model_undoes_110 : decode prog_13_method_129_code 110 = .ok (.iload 5, 2) := by decide +kernel
theorem d_Model_undoes_112 : decode prog_13_method_129_code 112 = .ok (.iaload, 1) := by decide +kernel
theorem d_Model_undoes_113 : decode prog_13_method_129_code 113 = .ok (.invokevirtual 297, 3) := by decide +kernel
theorem d_Model_undoes_116 : decode prog_13_method_129_code 116 = .ok (.iinc 4 1, 3) := by decide +kernel
theorem d_Model_undoes_119 : decode prog_13_method_129_code 119 = .ok (.iinc 5 (-1), 3) := by decide +kernel
theorem d_Model_undoes_122 : decode prog_13_method_129_code 122 = .ok (.goto (-62), 3) := by decide +kernel
theorem d_Model_undoes_125 : decode prog_13_method_129_code 125 = .ok (.aload_n 0, 1) := by decide +kernel
theorem d_Model_undoes_126 : decode prog_13_method_129_code 126 = .ok (.iconst 3, 1) := by decide +kernel
theorem d_Model_undoes_127 : decode prog_13_method_129_code 127 = .ok (.iload_n 1, 1) := by decide +kernel
theorem d_Model_undoes_128 : decode prog_13_method_129_code 128 = .ok (.ldc 246, 2) := by decide +kernel
theorem d_Model_undoes_130 : decode prog_13_method_129_code 130 = .ok (.ldc 246, 2) := by decide +kernel
theorem d_Model_undoes_132 : decode prog_13_method_129_code 132 = .ok (.invokevirtual 297, 3) := by decide +kernel
theorem d_Model_undoes_135 : decode prog_13_method_129_code 135 = .ok (.iload 4, 2) := by decide +kernel
theorem d_Model_undoes_137 : decode prog_13_method_129_code 137 = .ok (.ireturn, 1) := by decide +kernel
theorem d_Model_records_0 : decode prog_13_method_131_code 0 = .ok (.aload_n 0, 1) := by decide +kernel
theorem d_Model_records_1 : decode prog_13_method_131_code 1 = .ok (.aload_n 0, 1) := by decide +kernel
theorem d_Model_records_2 : decode prog_13_method_131_code 2 = .ok (.getfield 294, 3) := by decide +kernel
theorem d_Model_records_5 : decode prog_13_method_131_code 5 = .ok (.invokevirtual 554, 3) := by decide +kernel
theorem d_Model_records_8 : decode prog_13_method_131_code 8 = .ok (.ireturn, 1) := by decide +kernel
theorem d_Model_flushed_0 : decode prog_13_method_132_code 0 = .ok (.aload_n 0, 1) := by decide +kernel
theorem d_Model_flushed_1 : decode prog_13_method_132_code 1 = .ok (.aload_n 0, 1) := by decide +kernel
theorem d_Model_flushed_2 : decode prog_13_method_132_code 2 = .ok (.getfield 394, 3) := by decide +kernel
theorem d_Model_flushed_5 : decode prog_13_method_132_code 5 = .ok (.invokevirtual 554, 3) := by decide +kernel
theorem d_Model_flushed_8 : decode prog_13_method_132_code 8 = .ok (.ireturn, 1) := by decide +kernel
theorem d_Model_recordKind_0 : decode prog_13_method_134_code 0 = .ok (.aload_n 0, 1) := by decide +kernel
theorem d_Model_recordKind_1 : decode prog_13_method_134_code 1 = .ok (.aload_n 0, 1) := by decide +kernel
theorem d_Model_recordKind_2 : decode prog_13_method_134_code 2 = .ok (.iload_n 1, 1) := by decide +kernel
theorem d_Model_recordKind_3 : decode prog_13_method_134_code 3 = .ok (.invokevirtual 575, 3) := by decide +kernel
theorem d_Model_recordKind_6 : decode prog_13_method_134_code 6 = .ok (.ifCond .eq 7, 3) := by decide +kernel
theorem d_Model_recordKind_9 : decode prog_13_method_134_code 9 = .ok (.iconst 0, 1) := by decide +kernel
theorem d_Model_recordKind_10 : decode prog_13_method_134_code 10 = .ok (.goto 4, 3) := by decide +kernel
theorem d_Model_recordKind_13 : decode prog_13_method_134_code 13 = .ok (.iconst 1, 1) := by decide +kernel
theorem d_Model_recordKind_14 : decode prog_13_method_134_code 14 = .ok (.invokevirtual 254, 3) := by decide +kernel
theorem d_Model_recordKind_17 : decode prog_13_method_134_code 17 = .ok (.ifCond .eq 7, 3) := by decide +kernel
theorem d_Model_recordKind_20 : decode prog_13_method_134_code 20 = .ok (.iconst 0, 1) := by decide +kernel
theorem d_Model_recordKind_21 : decode prog_13_method_134_code 21 = .ok (.goto 9, 3) := by decide +kernel
theorem d_Model_recordKind_24 : decode prog_13_method_134_code 24 = .ok (.aload_n 0, 1) := by decide +kernel
theorem d_Model_recordKind_25 : decode prog_13_method_134_code 25 = .ok (.getfield 126, 3) := by decide +kernel
theorem d_Model_recordKind_28 : decode prog_13_method_134_code 28 = .ok (.iload_n 1, 1) := by decide +kernel
theorem d_Model_recordKind_29 : decode prog_13_method_134_code 29 = .ok (.iaload, 1) := by decide +kernel
theorem d_Model_recordKind_30 : decode prog_13_method_134_code 30 = .ok (.ireturn, 1) := by decide +kernel
theorem d_Model_isRecord_0 : decode prog_13_method_133_code 0 = .ok (.iload_n 1, 1) := by decide +kernel
theorem d_Model_isRecord_1 : decode prog_13_method_133_code 1 = .ok (.iconst 0, 1) := by decide +kernel
theorem d_Model_isRecord_2 : decode prog_13_method_133_code 2 = .ok (.aload_n 0, 1) := by decide +kernel
theorem d_Model_isRecord_3 : decode prog_13_method_133_code 3 = .ok (.getfield 294, 3) := by decide +kernel
theorem d_Model_isRecord_6 : decode prog_13_method_133_code 6 = .ok (.iconst 1, 1) := by decide +kernel
theorem d_Model_isRecord_7 : decode prog_13_method_133_code 7 = .ok (.isub, 1) := by decide +kernel
theorem d_Model_isRecord_8 : decode prog_13_method_133_code 8 = .ok (.invokestatic 235, 3) := by decide +kernel
theorem d_Model_isRecord_11 : decode prog_13_method_133_code 11 = .ok (.ireturn, 1) := by decide +kernel
theorem d_Model_recordOf_0 : decode prog_13_method_135_code 0 = .ok (.aload_n 0, 1) := by decide +kernel
theorem d_Model_recordOf_1 : decode prog_13_method_135_code 1 = .ok (.aload_n 0, 1) := by decide +kernel
theorem d_Model_recordOf_2 : decode prog_13_method_135_code 2 = .ok (.iload_n 1, 1) := by decide +kernel
theorem d_Model_recordOf_3 : decode prog_13_method_135_code 3 = .ok (.invokevirtual 575, 3) := by decide +kernel
theorem d_Model_recordOf_6 : decode prog_13_method_135_code 6 = .ok (.ifCond .eq 7, 3) := by decide +kernel
theorem d_Model_recordOf_9 : decode prog_13_method_135_code 9 = .ok (.iconst 0, 1) := by decide +kernel
theorem d_Model_recordOf_10 : decode prog_13_method_135_code 10 = .ok (.goto 4, 3) := by decide +kernel
theorem d_Model_recordOf_13 : decode prog_13_method_135_code 13 = .ok (.iconst 1, 1) := by decide +kernel
theorem d_Model_recordOf_14 : decode prog_13_method_135_code 14 = .ok (.invokevirtual 254, 3) := by decide +kernel
theorem d_Model_recordOf_17 : decode prog_13_method_135_code 17 = .ok (.ifCond .eq 7, 3) := by decide +kernel
theorem d_Model_recordOf_20 : decode prog_13_method_135_code 20 = .ok (.iconst 0, 1) := by decide +kernel
theorem d_Model_recordOf_21 : decode prog_13_method_135_code 21 = .ok (.goto 9, 3) := by decide +kernel
theorem d_Model_recordOf_24 : decode prog_13_method_135_code 24 = .ok (.aload_n 0, 1) := by decide +kernel
theorem d_Model_recordOf_25 : decode prog_13_method_135_code 25 = .ok (.getfield 129, 3) := by decide +kernel
theorem d_Model_recordOf_28 : decode prog_13_method_135_code 28 = .ok (.iload_n 1, 1) := by decide +kernel
theorem d_Model_recordOf_29 : decode prog_13_method_135_code 29 = .ok (.iaload, 1) := by decide +kernel
theorem d_Model_recordOf_30 : decode prog_13_method_135_code 30 = .ok (.ireturn, 1) := by decide +kernel
theorem d_Model_recordAt_0 : decode prog_13_method_136_code 0 = .ok (.aload_n 0, 1) := by decide +kernel
theorem d_Model_recordAt_1 : decode prog_13_method_136_code 1 = .ok (.aload_n 0, 1) := by decide +kernel
theorem d_Model_recordAt_2 : decode prog_13_method_136_code 2 = .ok (.iload_n 1, 1) := by decide +kernel
theorem d_Model_recordAt_3 : decode prog_13_method_136_code 3 = .ok (.invokevirtual 575, 3) := by decide +kernel
theorem d_Model_recordAt_6 : decode prog_13_method_136_code 6 = .ok (.ifCond .eq 7, 3) := by decide +kernel
theorem d_Model_recordAt_9 : decode prog_13_method_136_code 9 = .ok (.iconst 0, 1) := by decide +kernel
theorem d_Model_recordAt_10 : decode prog_13_method_136_code 10 = .ok (.goto 4, 3) := by decide +kernel
theorem d_Model_recordAt_13 : decode prog_13_method_136_code 13 = .ok (.iconst 1, 1) := by decide +kernel
theorem d_Model_recordAt_14 : decode prog_13_method_136_code 14 = .ok (.invokevirtual 254, 3) := by decide +kernel
theorem d_Model_recordAt_17 : decode prog_13_method_136_code 17 = .ok (.ifCond .eq 7, 3) := by decide +kernel
theorem d_Model_recordAt_20 : decode prog_13_method_136_code 20 = .ok (.iconst 0, 1) := by decide +kernel
theorem d_Model_recordAt_21 : decode prog_13_method_136_code 21 = .ok (.goto 22, 3) := by decide +kernel
theorem d_Model_recordAt_24 : decode prog_13_method_136_code 24 = .ok (.iload_n 2, 1) := by decide +kernel
theorem d_Model_recordAt_25 : decode prog_13_method_136_code 25 = .ok (.ifCond .eq 12, 3) := by decide +kernel
theorem d_Model_recordAt_28 : decode prog_13_method_136_code 28 = .ok (.aload_n 0, 1) := by decide +kernel
theorem d_Model_recordAt_29 : decode prog_13_method_136_code 29 = .ok (.getfield 135, 3) := by decide +kernel
theorem d_Model_recordAt_32 : decode prog_13_method_136_code 32 = .ok (.iload_n 1, 1) := by decide +kernel
theorem d_Model_recordAt_33 : decode prog_13_method_136_code 33 = .ok (.iaload, 1) := by decide +kernel
theorem d_Model_recordAt_34 : decode prog_13_method_136_code 34 = .ok (.goto 9, 3) := by decide +kernel
theorem d_Model_recordAt_37 : decode prog_13_method_136_code 37 = .ok (.aload_n 0, 1) := by decide +kernel
theorem d_Model_recordAt_38 : decode prog_13_method_136_code 38 = .ok (.getfield 132, 3) := by decide +kernel
theorem d_Model_recordAt_41 : decode prog_13_method_136_code 41 = .ok (.iload_n 1, 1) := by decide +kernel
theorem d_Model_recordAt_42 : decode prog_13_method_136_code 42 = .ok (.iaload, 1) := by decide +kernel
theorem d_Model_recordAt_43 : decode prog_13_method_136_code 43 = .ok (.ireturn, 1) := by decide +kernel
