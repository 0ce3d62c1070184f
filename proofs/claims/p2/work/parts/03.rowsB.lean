theorem dX12_init_0 : decode cX12_init 0 = .ok (.aload_n 0, 1) := by decide +kernel
theorem dX12_init_1 : decode cX12_init 1 = .ok (.invokespecial 7, 3) := by decide +kernel
theorem dX12_init_4 : decode cX12_init 4 = .ok (.aload_n 0, 1) := by decide +kernel
theorem dX12_init_5 : decode cX12_init 5 = .ok (.sipush 2000, 3) := by decide +kernel
theorem dX12_init_8 : decode cX12_init 8 = .ok (.newarray .byte, 2) := by decide +kernel
theorem dX12_init_10 : decode cX12_init 10 = .ok (.putfield 13, 3) := by decide +kernel
theorem dX12_init_13 : decode cX12_init 13 = .ok (.aload_n 0, 1) := by decide +kernel
theorem dX12_init_14 : decode cX12_init 14 = .ok (.sipush 2000, 3) := by decide +kernel
theorem dX12_init_17 : decode cX12_init 17 = .ok (.newarray .byte, 2) := by decide +kernel
theorem dX12_init_19 : decode cX12_init 19 = .ok (.putfield 17, 3) := by decide +kernel
theorem dX12_init_22 : decode cX12_init 22 = .ok (.aload_n 0, 1) := by decide +kernel
theorem dX12_init_23 : decode cX12_init 23 = .ok (.sipush 403, 3) := by decide +kernel
theorem dX12_init_26 : decode cX12_init 26 = .ok (.newarray .int, 2) := by decide +kernel
theorem dX12_init_28 : decode cX12_init 28 = .ok (.putfield 20, 3) := by decide +kernel
theorem dX12_init_31 : decode cX12_init 31 = .ok (.aload_n 0, 1) := by decide +kernel
theorem dX12_init_32 : decode cX12_init 32 = .ok (.sipush 403, 3) := by decide +kernel
theorem dX12_init_35 : decode cX12_init 35 = .ok (.newarray .int, 2) := by decide +kernel
theorem dX12_init_37 : decode cX12_init 37 = .ok (.putfield 24, 3) := by decide +kernel
theorem dX12_init_40 : decode cX12_init 40 = .ok (.aload_n 0, 1) := by decide +kernel
theorem dX12_init_41 : decode cX12_init 41 = .ok (.sipush 403, 3) := by decide +kernel
theorem dX12_init_44 : decode cX12_init 44 = .ok (.newarray .int, 2) := by decide +kernel
theorem dX12_init_46 : decode cX12_init 46 = .ok (.putfield 27, 3) := by decide +kernel
theorem dX12_init_49 : decode cX12_init 49 = .ok (.aload_n 0, 1) := by decide +kernel
theorem dX12_init_50 : decode cX12_init 50 = .ok (.sipush 403, 3) := by decide +kernel
theorem dX12_init_53 : decode cX12_init 53 = .ok (.newarray .long, 2) := by decide +kernel
theorem dX12_init_55 : decode cX12_init 55 = .ok (.putfield 30, 3) := by decide +kernel
theorem dX12_init_58 : decode cX12_init 58 = .ok (.aload_n 0, 1) := by decide +kernel
theorem dX12_init_59 : decode cX12_init 59 = .ok (.bipush 22, 2) := by decide +kernel
theorem dX12_init_61 : decode cX12_init 61 = .ok (.newarray .long, 2) := by decide +kernel
theorem dX12_init_63 : decode cX12_init 63 = .ok (.putfield 34, 3) := by decide +kernel
theorem dX12_init_66 : decode cX12_init 66 = .ok (.aload_n 0, 1) := by decide +kernel
theorem dX12_init_67 : decode cX12_init 67 = .ok (.iconst (-1), 1) := by decide +kernel
theorem dX12_init_68 : decode cX12_init 68 = .ok (.putfield 37, 3) := by decide +kernel
theorem dX12_init_71 : decode cX12_init 71 = .ok (.aload_n 0, 1) := by decide +kernel
theorem dX12_init_72 : decode cX12_init 72 = .ok (.iconst 2, 1) := by decide +kernel
theorem dX12_init_73 : decode cX12_init 73 = .ok (.newarray .int, 2) := by decide +kernel
theorem dX12_init_75 : decode cX12_init 75 = .ok (.putfield 40, 3) := by decide +kernel
theorem dX12_init_78 : decode cX12_init 78 = .ok (.aload_n 0, 1) := by decide +kernel
theorem dX12_init_79 : decode cX12_init 79 = .ok (.bipush 8, 2) := by decide +kernel
theorem dX12_init_81 : decode cX12_init 81 = .ok (.newarray .long, 2) := by decide +kernel
theorem dX12_init_83 : decode cX12_init 83 = .ok (.putfield 43, 3) := by decide +kernel
theorem dX12_init_86 : decode cX12_init 86 = .ok (.aload_n 0, 1) := by decide +kernel
theorem dX12_init_87 : decode cX12_init 87 = .ok (.bipush 16, 2) := by decide +kernel
theorem dX12_init_89 : decode cX12_init 89 = .ok (.newarray .int, 2) := by decide +kernel
theorem dX12_init_91 : decode cX12_init 91 = .ok (.putfield 46, 3) := by decide +kernel
theorem dX12_init_94 : decode cX12_init 94 = .ok (.aload_n 0, 1) := by decide +kernel
theorem dX12_init_95 : decode cX12_init 95 = .ok (.iconst 2, 1) := by decide +kernel
theorem dX12_init_96 : decode cX12_init 96 = .ok (.newarray .int, 2) := by decide +kernel
theorem dX12_init_98 : decode cX12_init 98 = .ok (.putfield 49, 3) := by decide +kernel
theorem dX12_init_101 : decode cX12_init 101 = .ok (.aload_n 0, 1) := by decide +kernel
theorem dX12_init_102 : decode cX12_init 102 = .ok (.bipush 16, 2) := by decide +kernel
theorem dX12_init_104 : decode cX12_init 104 = .ok (.newarray .int, 2) := by decide +kernel
theorem dX12_init_106 : decode cX12_init 106 = .ok (.putfield 52, 3) := by decide +kernel
theorem dX12_init_109 : decode cX12_init 109 = .ok (.aload_n 0, 1) := by decide +kernel
theorem dX12_init_110 : decode cX12_init 110 = .ok (.bipush 16, 2) := by decide +kernel
theorem dX12_init_112 : decode cX12_init 112 = .ok (.newarray .int, 2) := by decide +kernel
theorem dX12_init_114 : decode cX12_init 114 = .ok (.putfield 55, 3) := by decide +kernel
theorem dX12_init_117 : decode cX12_init 117 = .ok (.aload_n 0, 1) := by decide +kernel
theorem dX12_init_118 : decode cX12_init 118 = .ok (.bipush 16, 2) := by decide +kernel
theorem dX12_init_120 : decode cX12_init 120 = .ok (.newarray .int, 2) := by decide +kernel
theorem dX12_init_122 : decode cX12_init 122 = .ok (.putfield 58, 3) := by decide +kernel
theorem dX12_init_125 : decode cX12_init 125 = .ok (.aload_n 0, 1) := by decide +kernel
theorem dX12_init_126 : decode cX12_init 126 = .ok (.iconst 2, 1) := by decide +kernel
theorem dX12_init_127 : decode cX12_init 127 = .ok (.newarray .int, 2) := by decide +kernel
theorem dX12_init_129 : decode cX12_init 129 = .ok (.putfield 61, 3) := by decide +kernel
theorem dX12_init_132 : decode cX12_init 132 = .ok (.aload_n 0, 1) := by decide +kernel
theorem dX12_init_133 : decode cX12_init 133 = .ok (.iconst 2, 1) := by decide +kernel
theorem dX12_init_134 : decode cX12_init 134 = .ok (.newarray .int, 2) := by decide +kernel
theorem dX12_init_136 : decode cX12_init 136 = .ok (.putfield 64, 3) := by decide +kernel
theorem dX12_init_139 : decode cX12_init 139 = .ok (.aload_n 0, 1) := by decide +kernel
theorem dX12_init_140 : decode cX12_init 140 = .ok (.sipush 128, 3) := by decide +kernel
theorem dX12_init_143 : decode cX12_init 143 = .ok (.newarray .int, 2) := by decide +kernel
theorem dX12_init_145 : decode cX12_init 145 = .ok (.putfield 67, 3) := by decide +kernel
theorem dX12_init_148 : decode cX12_init 148 = .ok (.aload_n 0, 1) := by decide +kernel
theorem dX12_init_149 : decode cX12_init 149 = .ok (.iconst 2, 1) := by decide +kernel
theorem dX12_init_150 : decode cX12_init 150 = .ok (.newarray .int, 2) := by decide +kernel
theorem dX12_init_152 : decode cX12_init 152 = .ok (.putfield 70, 3) := by decide +kernel
theorem dX12_init_155 : decode cX12_init 155 = .ok (.aload_n 0, 1) := by decide +kernel
theorem dX12_init_156 : decode cX12_init 156 = .ok (.iconst 2, 1) := by decide +kernel
theorem dX12_init_157 : decode cX12_init 157 = .ok (.newarray .int, 2) := by decide +kernel
theorem dX12_init_159 : decode cX12_init 159 = .ok (.putfield 73, 3) := by decide +kernel
theorem dX12_init_162 : decode cX12_init 162 = .ok (.aload_n 0, 1) := by decide +kernel
theorem dX12_init_163 : decode cX12_init 163 = .ok (.iconst 2, 1) := by decide +kernel
theorem dX12_init_164 : decode cX12_init 164 = .ok (.newarray .int, 2) := by decide +kernel
theorem dX12_init_166 : decode cX12_init 166 = .ok (.putfield 76, 3) := by decide +kernel
theorem dX12_init_169 : decode cX12_init 169 = .ok (.aload_n 0, 1) := by decide +kernel
theorem dX12_init_170 : decode cX12_init 170 = .ok (.iconst 2, 1) := by decide +kernel
theorem dX12_init_171 : decode cX12_init 171 = .ok (.newarray .int, 2) := by decide +kernel
theorem dX12_init_173 : decode cX12_init 173 = .ok (.putfield 79, 3) := by decide +kernel
theorem dX12_init_176 : decode cX12_init 176 = .ok (.aload_n 0, 1) := by decide +kernel
theorem dX12_init_177 : decode cX12_init 177 = .ok (.bipush 36, 2) := by decide +kernel
theorem dX12_init_179 : decode cX12_init 179 = .ok (.newarray .int, 2) := by decide +kernel
theorem dX12_init_181 : decode cX12_init 181 = .ok (.putfield 82, 3) := by decide +kernel
theorem dX12_init_184 : decode cX12_init 184 = .ok (.aload_n 0, 1) := by decide +kernel
theorem dX12_init_185 : decode cX12_init 185 = .ok (.bipush 8, 2) := by decide +kernel
theorem dX12_init_187 : decode cX12_init 187 = .ok (.newarray .int, 2) := by decide +kernel
theorem dX12_init_189 : decode cX12_init 189 = .ok (.putfield 85, 3) := by decide +kernel
theorem dX12_init_192 : decode cX12_init 192 = .ok (.aload_n 0, 1) := by decide +kernel
theorem dX12_init_193 : decode cX12_init 193 = .ok (.iconst 2, 1) := by decide +kernel
theorem dX12_init_194 : decode cX12_init 194 = .ok (.newarray .int, 2) := by decide +kernel
theorem dX12_init_196 : decode cX12_init 196 = .ok (.putfield 88, 3) := by decide +kernel
theorem dX12_init_199 : decode cX12_init 199 = .ok (.aload_n 0, 1) := by decide +kernel
theorem dX12_init_200 : decode cX12_init 200 = .ok (.iconst 2, 1) := by decide +kernel
theorem dX12_init_201 : decode cX12_init 201 = .ok (.newarray .int, 2) := by decide +kernel
theorem dX12_init_203 : decode cX12_init 203 = .ok (.putfield 91, 3) := by decide +kernel
theorem dX12_init_206 : decode cX12_init 206 = .ok (.aload_n 0, 1) := by decide +kernel
theorem dX12_init_207 : decode cX12_init 207 = .ok (.iconst 2, 1) := by decide +kernel
theorem dX12_init_208 : decode cX12_init 208 = .ok (.newarray .int, 2) := by decide +kernel
theorem dX12_init_210 : decode cX12_init 210 = .ok (.putfield 94, 3) := by decide +kernel
theorem dX12_init_213 : decode cX12_init 213 = .ok (.aload_n 0, 1) := by decide +kernel
theorem dX12_init_214 : decode cX12_init 214 = .ok (.sipush 260, 3) := by decide +kernel
theorem dX12_init_217 : decode cX12_init 217 = .ok (.newarray .boolean, 2) := by decide +kernel
theorem dX12_init_219 : decode cX12_init 219 = .ok (.putfield 97, 3) := by decide +kernel
theorem dX12_init_222 : decode cX12_init 222 = .ok (.aload_n 0, 1) := by decide +kernel
theorem dX12_init_223 : decode cX12_init 223 = .ok (.sipush 260, 3) := by decide +kernel
theorem dX12_init_226 : decode cX12_init 226 = .ok (.newarray .int, 2) := by decide +kernel
theorem dX12_init_228 : decode cX12_init 228 = .ok (.putfield 101, 3) := by decide +kernel
theorem dX12_init_231 : decode cX12_init 231 = .ok (.aload_n 0, 1) := by decide +kernel
theorem dX12_init_232 : decode cX12_init 232 = .ok (.sipush 260, 3) := by decide +kernel
theorem dX12_init_235 : decode cX12_init 235 = .ok (.newarray .int, 2) := by decide +kernel
theorem dX12_init_237 : decode cX12_init 237 = .ok (.putfield 104, 3) := by decide +kernel
theorem dX12_init_240 : decode cX12_init 240 = .ok (.aload_n 0, 1) := by decide +kernel
theorem dX12_init_241 : decode cX12_init 241 = .ok (.sipush 260, 3) := by decide +kernel
theorem dX12_init_244 : decode cX12_init 244 = .ok (.newarray .int, 2) := by decide +kernel
theorem dX12_init_246 : decode cX12_init 246 = .ok (.putfield 107, 3) := by decide +kernel
theorem dX12_init_249 : decode cX12_init 249 = .ok (.aload_n 0, 1) := by decide +kernel
theorem dX12_init_250 : decode cX12_init 250 = .ok (.sipush 260, 3) := by decide +kernel
theorem dX12_init_253 : decode cX12_init 253 = .ok (.newarray .int, 2) := by decide +kernel
theorem dX12_init_255 : decode cX12_init 255 = .ok (.putfield 110, 3) := by decide +kernel
theorem dX12_init_258 : decode cX12_init 258 = .ok (.aload_n 0, 1) := by decide +kernel
theorem dX12_init_259 : decode cX12_init 259 = .ok (.sipush 840, 3) := by decide +kernel
theorem dX12_init_262 : decode cX12_init 262 = .ok (.newarray .int, 2) := by decide +kernel
theorem dX12_init_264 : decode cX12_init 264 = .ok (.putfield 113, 3) := by decide +kernel
theorem dX12_init_267 : decode cX12_init 267 = .ok (.aload_n 0, 1) := by decide +kernel
theorem dX12_init_268 : decode cX12_init 268 = .ok (.sipush 840, 3) := by decide +kernel
theorem dX12_init_271 : decode cX12_init 271 = .ok (.newarray .int, 2) := by decide +kernel
theorem dX12_init_273 : decode cX12_init 273 = .ok (.putfield 116, 3) := by decide +kernel
theorem dX12_init_276 : decode cX12_init 276 = .ok (.aload_n 0, 1) := by decide +kernel
theorem dX12_init_277 : decode cX12_init 277 = .ok (.bipush 64, 2) := by decide +kernel
theorem dX12_init_279 : decode cX12_init 279 = .ok (.newarray .int, 2) := by decide +kernel
theorem dX12_init_281 : decode cX12_init 281 = .ok (.putfield 119, 3) := by decide +kernel
theorem dX12_init_284 : decode cX12_init 284 = .ok (.aload_n 0, 1) := by decide +kernel
theorem dX12_init_285 : decode cX12_init 285 = .ok (.iconst 5, 1) := by decide +kernel
theorem dX12_init_286 : decode cX12_init 286 = .ok (.newarray .int, 2) := by decide +kernel
theorem dX12_init_288 : decode cX12_init 288 = .ok (.putfield 122, 3) := by decide +kernel
theorem dX12_init_291 : decode cX12_init 291 = .ok (.aload_n 0, 1) := by decide +kernel
theorem dX12_init_292 : decode cX12_init 292 = .ok (.sipush 400, 3) := by decide +kernel
theorem dX12_init_295 : decode cX12_init 295 = .ok (.newarray .int, 2) := by decide +kernel
theorem dX12_init_297 : decode cX12_init 297 = .ok (.putfield 125, 3) := by decide +kernel
theorem dX12_init_300 : decode cX12_init 300 = .ok (.aload_n 0, 1) := by decide +kernel
theorem dX12_init_301 : decode cX12_init 301 = .ok (.bipush 30, 2) := by decide +kernel
theorem dX12_init_303 : decode cX12_init 303 = .ok (.newarray .int, 2) := by decide +kernel
theorem dX12_init_305 : decode cX12_init 305 = .ok (.putfield 128, 3) := by decide +kernel
theorem dX12_init_308 : decode cX12_init 308 = .ok (.aload_n 0, 1) := by decide +kernel
theorem dX12_init_309 : decode cX12_init 309 = .ok (.bipush 30, 2) := by decide +kernel
theorem dX12_init_311 : decode cX12_init 311 = .ok (.newarray .int, 2) := by decide +kernel
theorem dX12_init_313 : decode cX12_init 313 = .ok (.putfield 131, 3) := by decide +kernel
theorem dX12_init_316 : decode cX12_init 316 = .ok (.aload_n 0, 1) := by decide +kernel
theorem dX12_init_317 : decode cX12_init 317 = .ok (.sipush 1200, 3) := by decide +kernel
theorem dX12_init_320 : decode cX12_init 320 = .ok (.newarray .int, 2) := by decide +kernel
theorem dX12_init_322 : decode cX12_init 322 = .ok (.putfield 134, 3) := by decide +kernel
theorem dX12_init_325 : decode cX12_init 325 = .ok (.aload_n 0, 1) := by decide +kernel
theorem dX12_init_326 : decode cX12_init 326 = .ok (.bipush 9, 2) := by decide +kernel
theorem dX12_init_328 : decode cX12_init 328 = .ok (.newarray .int, 2) := by decide +kernel
theorem dX12_init_330 : decode cX12_init 330 = .ok (.putfield 137, 3) := by decide +kernel
theorem dX12_init_333 : decode cX12_init 333 = .ok (.aload_n 0, 1) := by decide +kernel
theorem dX12_init_334 : decode cX12_init 334 = .ok (.sipush 20000, 3) := by decide +kernel
theorem dX12_init_337 : decode cX12_init 337 = .ok (.newarray .long, 2) := by decide +kernel
theorem dX12_init_339 : decode cX12_init 339 = .ok (.putfield 140, 3) := by decide +kernel
theorem dX12_init_342 : decode cX12_init 342 = .ok (.aload_n 0, 1) := by decide +kernel
theorem dX12_init_343 : decode cX12_init 343 = .ok (.bipush 8, 2) := by decide +kernel
theorem dX12_init_345 : decode cX12_init 345 = .ok (.newarray .int, 2) := by decide +kernel
theorem dX12_init_347 : decode cX12_init 347 = .ok (.putfield 143, 3) := by decide +kernel
theorem dX12_init_350 : decode cX12_init 350 = .ok (.aload_n 0, 1) := by decide +kernel
theorem dX12_init_351 : decode cX12_init 351 = .ok (.bipush 18, 2) := by decide +kernel
theorem dX12_init_353 : decode cX12_init 353 = .ok (.newarray .int, 2) := by decide +kernel
theorem dX12_init_355 : decode cX12_init 355 = .ok (.putfield 146, 3) := by decide +kernel
theorem dX12_init_358 : decode cX12_init 358 = .ok (.aload_n 0, 1) := by decide +kernel
theorem dX12_init_359 : decode cX12_init 359 = .ok (.bipush 8, 2) := by decide +kernel
theorem dX12_init_361 : decode cX12_init 361 = .ok (.newarray .int, 2) := by decide +kernel
theorem dX12_init_363 : decode cX12_init 363 = .ok (.putfield 149, 3) := by decide +kernel
theorem dX12_init_366 : decode cX12_init 366 = .ok (.aload_n 0, 1) := by decide +kernel
theorem dX12_init_367 : decode cX12_init 367 = .ok (.bipush 18, 2) := by decide +kernel
theorem dX12_init_369 : decode cX12_init 369 = .ok (.newarray .int, 2) := by decide +kernel
theorem dX12_init_371 : decode cX12_init 371 = .ok (.putfield 152, 3) := by decide +kernel
theorem dX12_init_374 : decode cX12_init 374 = .ok (.aload_n 0, 1) := by decide +kernel
theorem dX12_init_375 : decode cX12_init 375 = .ok (.ldc 155, 2) := by decide +kernel
theorem dX12_init_377 : decode cX12_init 377 = .ok (.newarray .int, 2) := by decide +kernel
theorem dX12_init_379 : decode cX12_init 379 = .ok (.putfield 156, 3) := by decide +kernel
theorem dX12_init_382 : decode cX12_init 382 = .ok (.aload_n 0, 1) := by decide +kernel
theorem dX12_init_383 : decode cX12_init 383 = .ok (.bipush 19, 2) := by decide +kernel
theorem dX12_init_385 : decode cX12_init 385 = .ok (.newarray .long, 2) := by decide +kernel
theorem dX12_init_387 : decode cX12_init 387 = .ok (.putfield 159, 3) := by decide +kernel
theorem dX12_init_390 : decode cX12_init 390 = .ok (.aload_n 0, 1) := by decide +kernel
theorem dX12_init_391 : decode cX12_init 391 = .ok (.bipush 19, 2) := by decide +kernel
theorem dX12_init_393 : decode cX12_init 393 = .ok (.newarray .long, 2) := by decide +kernel
theorem dX12_init_395 : decode cX12_init 395 = .ok (.putfield 162, 3) := by decide +kernel
theorem dX12_init_398 : decode cX12_init 398 = .ok (.aload_n 0, 1) := by decide +kernel
theorem dX12_init_399 : decode cX12_init 399 = .ok (.bipush 18, 2) := by decide +kernel
theorem dX12_init_401 : decode cX12_init 401 = .ok (.newarray .boolean, 2) := by decide +kernel
theorem dX12_init_403 : decode cX12_init 403 = .ok (.putfield 165, 3) := by decide +kernel
theorem dX12_init_406 : decode cX12_init 406 = .ok (.aload_n 0, 1) := by decide +kernel
theorem dX12_init_407 : decode cX12_init 407 = .ok (.bipush 8, 2) := by decide +kernel
theorem dX12_init_409 : decode cX12_init 409 = .ok (.newarray .int, 2) := by decide +kernel
theorem dX12_init_411 : decode cX12_init 411 = .ok (.putfield 168, 3) := by decide +kernel
theorem dX12_init_414 : decode cX12_init 414 = .ok (.aload_n 0, 1) := by decide +kernel
theorem dX12_init_415 : decode cX12_init 415 = .ok (.bipush 20, 2) := by decide +kernel
theorem dX12_init_417 : decode cX12_init 417 = .ok (.newarray .int, 2) := by decide +kernel
theorem dX12_init_419 : decode cX12_init 419 = .ok (.putfield 171, 3) := by decide +kernel
theorem dX12_init_422 : decode cX12_init 422 = .ok (.aload_n 0, 1) := by decide +kernel
theorem dX12_init_423 : decode cX12_init 423 = .ok (.bipush 20, 2) := by decide +kernel
theorem dX12_init_425 : decode cX12_init 425 = .ok (.newarray .int, 2) := by decide +kernel
theorem dX12_init_427 : decode cX12_init 427 = .ok (.putfield 174, 3) := by decide +kernel
theorem dX12_init_430 : decode cX12_init 430 = .ok (.aload_n 0, 1) := by decide +kernel
theorem dX12_init_431 : decode cX12_init 431 = .ok (.bipush 8, 2) := by decide +kernel
theorem dX12_init_433 : decode cX12_init 433 = .ok (.newarray .int, 2) := by decide +kernel
theorem dX12_init_435 : decode cX12_init 435 = .ok (.putfield 177, 3) := by decide +kernel
theorem dX12_init_438 : decode cX12_init 438 = .ok (.aload_n 0, 1) := by decide +kernel
theorem dX12_init_439 : decode cX12_init 439 = .ok (.bipush 8, 2) := by decide +kernel
theorem dX12_init_441 : decode cX12_init 441 = .ok (.newarray .int, 2) := by decide +kernel
theorem dX12_init_443 : decode cX12_init 443 = .ok (.putfield 180, 3) := by decide +kernel
theorem dX12_init_446 : decode cX12_init 446 = .ok (.aload_n 0, 1) := by decide +kernel
theorem dX12_init_447 : decode cX12_init 447 = .ok (.iconst 3, 1) := by decide +kernel
theorem dX12_init_448 : decode cX12_init 448 = .ok (.newarray .boolean, 2) := by decide +kernel
theorem dX12_init_450 : decode cX12_init 450 = .ok (.putfield 183, 3) := by decide +kernel
theorem dX12_init_453 : decode cX12_init 453 = .ok (.aload_n 0, 1) := by decide +kernel
theorem dX12_init_454 : decode cX12_init 454 = .ok (.bipush 90, 2) := by decide +kernel
theorem dX12_init_456 : decode cX12_init 456 = .ok (.newarray .int, 2) := by decide +kernel
theorem dX12_init_458 : decode cX12_init 458 = .ok (.putfield 186, 3) := by decide +kernel
theorem dX12_init_461 : decode cX12_init 461 = .ok (.aload_n 0, 1) := by decide +kernel
theorem dX12_init_462 : decode cX12_init 462 = .ok (.iconst 0, 1) := by decide +kernel
theorem dX12_init_463 : decode cX12_init 463 = .ok (.invokevirtual 189, 3) := by decide +kernel
theorem dX12_init_466 : decode cX12_init 466 = .ok (.aload_n 0, 1) := by decide +kernel
theorem dX12_init_467 : decode cX12_init 467 = .ok (.getfield 34, 3) := by decide +kernel
theorem dX12_init_470 : decode cX12_init 470 = .ok (.iconst 0, 1) := by decide +kernel
theorem dX12_init_471 : decode cX12_init 471 = .ok (.bipush 115, 2) := by decide +kernel
theorem dX12_init_473 : decode cX12_init 473 = .ok (.bipush 111, 2) := by decide +kernel
theorem dX12_init_475 : decode cX12_init 475 = .ok (.bipush 99, 2) := by decide +kernel
theorem dX12_init_477 : decode cX12_init 477 = .ok (.bipush 107, 2) := by decide +kernel
theorem dX12_init_479 : decode cX12_init 479 = .ok (.iconst 0, 1) := by decide +kernel
theorem dX12_init_480 : decode cX12_init 480 = .ok (.iconst 0, 1) := by decide +kernel
theorem dX12_init_481 : decode cX12_init 481 = .ok (.iconst 0, 1) := by decide +kernel
theorem dX12_init_482 : decode cX12_init 482 = .ok (.invokestatic 193, 3) := by decide +kernel
theorem dX12_init_485 : decode cX12_init 485 = .ok (.lastore, 1) := by decide +kernel
theorem dX12_init_486 : decode cX12_init 486 = .ok (.aload_n 0, 1) := by decide +kernel
theorem dX12_init_487 : decode cX12_init 487 = .ok (.getfield 34, 3) := by decide +kernel
theorem dX12_init_490 : decode cX12_init 490 = .ok (.iconst 1, 1) := by decide +kernel
theorem dX12_init_491 : decode cX12_init 491 = .ok (.bipush 103, 2) := by decide +kernel
theorem dX12_init_493 : decode cX12_init 493 = .ok (.bipush 108, 2) := by decide +kernel
theorem dX12_init_495 : decode cX12_init 495 = .ok (.bipush 111, 2) := by decide +kernel
theorem dX12_init_497 : decode cX12_init 497 = .ok (.bipush 118, 2) := by decide +kernel
theorem dX12_init_499 : decode cX12_init 499 = .ok (.bipush 101, 2) := by decide +kernel
theorem dX12_init_501 : decode cX12_init 501 = .ok (.iconst 0, 1) := by decide +kernel
theorem dX12_init_502 : decode cX12_init 502 = .ok (.iconst 0, 1) := by decide +kernel
theorem dX12_init_503 : decode cX12_init 503 = .ok (.invokestatic 193, 3) := by decide +kernel
theorem dX12_init_506 : decode cX12_init 506 = .ok (.lastore, 1) := by decide +kernel
theorem dX12_init_507 : decode cX12_init 507 = .ok (.aload_n 0, 1) := by decide +kernel
theorem dX12_init_508 : decode cX12_init 508 = .ok (.getfield 34, 3) := by decide +kernel
theorem dX12_init_511 : decode cX12_init 511 = .ok (.iconst 2, 1) := by decide +kernel
theorem dX12_init_512 : decode cX12_init 512 = .ok (.bipush 108, 2) := by decide +kernel
theorem dX12_init_514 : decode cX12_init 514 = .ok (.bipush 105, 2) := by decide +kernel
theorem dX12_init_516 : decode cX12_init 516 = .ok (.bipush 107, 2) := by decide +kernel
theorem dX12_init_518 : decode cX12_init 518 = .ok (.bipush 101, 2) := by decide +kernel
theorem dX12_init_520 : decode cX12_init 520 = .ok (.iconst 0, 1) := by decide +kernel
theorem dX12_init_521 : decode cX12_init 521 = .ok (.iconst 0, 1) := by decide +kernel
theorem dX12_init_522 : decode cX12_init 522 = .ok (.iconst 0, 1) := by decide +kernel
theorem dX12_init_523 : decode cX12_init 523 = .ok (.invokestatic 193, 3) := by decide +kernel
theorem dX12_init_526 : decode cX12_init 526 = .ok (.lastore, 1) := by decide +kernel
theorem dX12_init_527 : decode cX12_init 527 = .ok (.aload_n 0, 1) := by decide +kernel
theorem dX12_init_528 : decode cX12_init 528 = .ok (.getfield 34, 3) := by decide +kernel
theorem dX12_init_531 : decode cX12_init 531 = .ok (.iconst 3, 1) := by decide +kernel
theorem dX12_init_532 : decode cX12_init 532 = .ok (.bipush 110, 2) := by decide +kernel
theorem dX12_init_534 : decode cX12_init 534 = .ok (.bipush 101, 2) := by decide +kernel
theorem dX12_init_536 : decode cX12_init 536 = .ok (.bipush 97, 2) := by decide +kernel
theorem dX12_init_538 : decode cX12_init 538 = .ok (.bipush 114, 2) := by decide +kernel
theorem dX12_init_540 : decode cX12_init 540 = .ok (.iconst 0, 1) := by decide +kernel
theorem dX12_init_541 : decode cX12_init 541 = .ok (.iconst 0, 1) := by decide +kernel
theorem dX12_init_542 : decode cX12_init 542 = .ok (.iconst 0, 1) := by decide +kernel
theorem dX12_init_543 : decode cX12_init 543 = .ok (.invokestatic 193, 3) := by decide +kernel
theorem dX12_init_546 : decode cX12_init 546 = .ok (.lastore, 1) := by decide +kernel
theorem dX12_init_547 : decode cX12_init 547 = .ok (.aload_n 0, 1) := by decide +kernel
theorem dX12_init_548 : decode cX12_init 548 = .ok (.getfield 34, 3) := by decide +kernel
theorem dX12_init_551 : decode cX12_init 551 = .ok (.iconst 4, 1) := by decide +kernel
theorem dX12_init_552 : decode cX12_init 552 = .ok (.bipush 116, 2) := by decide +kernel
theorem dX12_init_554 : decode cX12_init 554 = .ok (.bipush 97, 2) := by decide +kernel
theorem dX12_init_556 : decode cX12_init 556 = .ok (.bipush 98, 2) := by decide +kernel
theorem dX12_init_558 : decode cX12_init 558 = .ok (.bipush 108, 2) := by decide +kernel
theorem dX12_init_560 : decode cX12_init 560 = .ok (.bipush 101, 2) := by decide +kernel
theorem dX12_init_562 : decode cX12_init 562 = .ok (.iconst 0, 1) := by decide +kernel
theorem dX12_init_563 : decode cX12_init 563 = .ok (.iconst 0, 1) := by decide +kernel
theorem dX12_init_564 : decode cX12_init 564 = .ok (.invokestatic 193, 3) := by decide +kernel
theorem dX12_init_567 : decode cX12_init 567 = .ok (.lastore, 1) := by decide +kernel
theorem dX12_init_568 : decode cX12_init 568 = .ok (.aload_n 0, 1) := by decide +kernel
theorem dX12_init_569 : decode cX12_init 569 = .ok (.getfield 34, 3) := by decide +kernel
theorem dX12_init_572 : decode cX12_init 572 = .ok (.iconst 5, 1) := by decide +kernel
theorem dX12_init_573 : decode cX12_init 573 = .ok (.bipush 102, 2) := by decide +kernel
theorem dX12_init_575 : decode cX12_init 575 = .ok (.bipush 117, 2) := by decide +kernel
theorem dX12_init_577 : decode cX12_init 577 = .ok (.bipush 108, 2) := by decide +kernel
theorem dX12_init_579 : decode cX12_init 579 = .ok (.bipush 108, 2) := by decide +kernel
theorem dX12_init_581 : decode cX12_init 581 = .ok (.iconst 0, 1) := by decide +kernel
theorem dX12_init_582 : decode cX12_init 582 = .ok (.iconst 0, 1) := by decide +kernel
theorem dX12_init_583 : decode cX12_init 583 = .ok (.iconst 0, 1) := by decide +kernel
theorem dX12_init_584 : decode cX12_init 584 = .ok (.invokestatic 193, 3) := by decide +kernel
theorem dX12_init_587 : decode cX12_init 587 = .ok (.lastore, 1) := by decide +kernel
theorem dX12_init_588 : decode cX12_init 588 = .ok (.aload_n 0, 1) := by decide +kernel
theorem dX12_init_589 : decode cX12_init 589 = .ok (.getfield 34, 3) := by decide +kernel
theorem dX12_init_592 : decode cX12_init 592 = .ok (.bipush 6, 2) := by decide +kernel
theorem dX12_init_594 : decode cX12_init 594 = .ok (.bipush 98, 2) := by decide +kernel
theorem dX12_init_596 : decode cX12_init 596 = .ok (.bipush 97, 2) := by decide +kernel
theorem dX12_init_598 : decode cX12_init 598 = .ok (.bipush 99, 2) := by decide +kernel
theorem dX12_init_600 : decode cX12_init 600 = .ok (.bipush 107, 2) := by decide +kernel
theorem dX12_init_602 : decode cX12_init 602 = .ok (.iconst 0, 1) := by decide +kernel
theorem dX12_init_603 : decode cX12_init 603 = .ok (.iconst 0, 1) := by decide +kernel
theorem dX12_init_604 : decode cX12_init 604 = .ok (.iconst 0, 1) := by decide +kernel
theorem dX12_init_605 : decode cX12_init 605 = .ok (.invokestatic 193, 3) := by decide +kernel
theorem dX12_init_608 : decode cX12_init 608 = .ok (.lastore, 1) := by decide +kernel
theorem dX12_init_609 : decode cX12_init 609 = .ok (.aload_n 0, 1) := by decide +kernel
theorem dX12_init_610 : decode cX12_init 610 = .ok (.getfield 34, 3) := by decide +kernel
theorem dX12_init_613 : decode cX12_init 613 = .ok (.bipush 7, 2) := by decide +kernel
theorem dX12_init_615 : decode cX12_init 615 = .ok (.bipush 115, 2) := by decide +kernel
theorem dX12_init_617 : decode cX12_init 617 = .ok (.bipush 116, 2) := by decide +kernel
theorem dX12_init_619 : decode cX12_init 619 = .ok (.bipush 111, 2) := by decide +kernel
theorem dX12_init_621 : decode cX12_init 621 = .ok (.bipush 112, 2) := by decide +kernel
theorem dX12_init_623 : decode cX12_init 623 = .ok (.iconst 0, 1) := by decide +kernel
theorem dX12_init_624 : decode cX12_init 624 = .ok (.iconst 0, 1) := by decide +kernel
theorem dX12_init_625 : decode cX12_init 625 = .ok (.iconst 0, 1) := by decide +kernel
theorem dX12_init_626 : decode cX12_init 626 = .ok (.invokestatic 193, 3) := by decide +kernel
theorem dX12_init_629 : decode cX12_init 629 = .ok (.lastore, 1) := by decide +kernel
theorem dX12_init_630 : decode cX12_init 630 = .ok (.aload_n 0, 1) := by decide +kernel
theorem dX12_init_631 : decode cX12_init 631 = .ok (.getfield 34, 3) := by decide +kernel
theorem dX12_init_634 : decode cX12_init 634 = .ok (.bipush 8, 2) := by decide +kernel
theorem dX12_init_636 : decode cX12_init 636 = .ok (.bipush 102, 2) := by decide +kernel
theorem dX12_init_638 : decode cX12_init 638 = .ok (.bipush 101, 2) := by decide +kernel
theorem dX12_init_640 : decode cX12_init 640 = .ok (.bipush 119, 2) := by decide +kernel
theorem dX12_init_642 : decode cX12_init 642 = .ok (.iconst 0, 1) := by decide +kernel
theorem dX12_init_643 : decode cX12_init 643 = .ok (.iconst 0, 1) := by decide +kernel
theorem dX12_init_644 : decode cX12_init 644 = .ok (.iconst 0, 1) := by decide +kernel
theorem dX12_init_645 : decode cX12_init 645 = .ok (.iconst 0, 1) := by decide +kernel
theorem dX12_init_646 : decode cX12_init 646 = .ok (.invokestatic 193, 3) := by decide +kernel
theorem dX12_init_649 : decode cX12_init 649 = .ok (.lastore, 1) := by decide +kernel
theorem dX12_init_650 : decode cX12_init 650 = .ok (.aload_n 0, 1) := by decide +kernel
theorem dX12_init_651 : decode cX12_init 651 = .ok (.getfield 34, 3) := by decide +kernel
theorem dX12_init_654 : decode cX12_init 654 = .ok (.bipush 9, 2) := by decide +kernel
theorem dX12_init_656 : decode cX12_init 656 = .ok (.bipush 109, 2) := by decide +kernel
theorem dX12_init_658 : decode cX12_init 658 = .ok (.bipush 97, 2) := by decide +kernel
theorem dX12_init_660 : decode cX12_init 660 = .ok (.bipush 110, 2) := by decide +kernel
theorem dX12_init_662 : decode cX12_init 662 = .ok (.bipush 121, 2) := by decide +kernel
theorem dX12_init_664 : decode cX12_init 664 = .ok (.iconst 0, 1) := by decide +kernel
theorem dX12_init_665 : decode cX12_init 665 = .ok (.iconst 0, 1) := by decide +kernel
theorem dX12_init_666 : decode cX12_init 666 = .ok (.iconst 0, 1) := by decide +kernel
theorem dX12_init_667 : decode cX12_init 667 = .ok (.invokestatic 193, 3) := by decide +kernel
theorem dX12_init_670 : decode cX12_init 670 = .ok (.lastore, 1) := by decide +kernel
theorem dX12_init_671 : decode cX12_init 671 = .ok (.aload_n 0, 1) := by decide +kernel
theorem dX12_init_672 : decode cX12_init 672 = .ok (.getfield 34, 3) := by decide +kernel
theorem dX12_init_675 : decode cX12_init 675 = .ok (.bipush 10, 2) := by decide +kernel
theorem dX12_init_677 : decode cX12_init 677 = .ok (.bipush 108, 2) := by decide +kernel
theorem dX12_init_679 : decode cX12_init 679 = .ok (.bipush 105, 2) := by decide +kernel
theorem dX12_init_681 : decode cX12_init 681 = .ok (.bipush 110, 2) := by decide +kernel
theorem dX12_init_683 : decode cX12_init 683 = .ok (.bipush 101, 2) := by decide +kernel
theorem dX12_init_685 : decode cX12_init 685 = .ok (.iconst 0, 1) := by decide +kernel
theorem dX12_init_686 : decode cX12_init 686 = .ok (.iconst 0, 1) := by decide +kernel
theorem dX12_init_687 : decode cX12_init 687 = .ok (.iconst 0, 1) := by decide +kernel
theorem dX12_init_688 : decode cX12_init 688 = .ok (.invokestatic 193, 3) := by decide +kernel
theorem dX12_init_691 : decode cX12_init 691 = .ok (.lastore, 1) := by decide +kernel
theorem dX12_init_692 : decode cX12_init 692 = .ok (.aload_n 0, 1) := by decide +kernel
theorem dX12_init_693 : decode cX12_init 693 = .ok (.getfield 34, 3) := by decide +kernel
theorem dX12_init_696 : decode cX12_init 696 = .ok (.bipush 11, 2) := by decide +kernel
theorem dX12_init_698 : decode cX12_init 698 = .ok (.bipush 114, 2) := by decide +kernel
theorem dX12_init_700 : decode cX12_init 700 = .ok (.bipush 105, 2) := by decide +kernel
theorem dX12_init_702 : decode cX12_init 702 = .ok (.bipush 103, 2) := by decide +kernel
theorem dX12_init_704 : decode cX12_init 704 = .ok (.bipush 104, 2) := by decide +kernel
theorem dX12_init_706 : decode cX12_init 706 = .ok (.bipush 116, 2) := by decide +kernel
theorem dX12_init_708 : decode cX12_init 708 = .ok (.iconst 0, 1) := by decide +kernel
theorem dX12_init_709 : decode cX12_init 709 = .ok (.iconst 0, 1) := by decide +kernel
theorem dX12_init_710 : decode cX12_init 710 = .ok (.invokestatic 193, 3) := by decide +kernel
theorem dX12_init_713 : decode cX12_init 713 = .ok (.lastore, 1) := by decide +kernel
theorem dX12_init_714 : decode cX12_init 714 = .ok (.aload_n 0, 1) := by decide +kernel
theorem dX12_init_715 : decode cX12_init 715 = .ok (.getfield 34, 3) := by decide +kernel
theorem dX12_init_718 : decode cX12_init 718 = .ok (.bipush 12, 2) := by decide +kernel
theorem dX12_init_720 : decode cX12_init 720 = .ok (.bipush 115, 2) := by decide +kernel
theorem dX12_init_722 : decode cX12_init 722 = .ok (.bipush 101, 2) := by decide +kernel
theorem dX12_init_724 : decode cX12_init 724 = .ok (.bipush 101, 2) := by decide +kernel
theorem dX12_init_726 : decode cX12_init 726 = .ok (.bipush 100, 2) := by decide +kernel
theorem dX12_init_728 : decode cX12_init 728 = .ok (.iconst 0, 1) := by decide +kernel
theorem dX12_init_729 : decode cX12_init 729 = .ok (.iconst 0, 1) := by decide +kernel
theorem dX12_init_730 : decode cX12_init 730 = .ok (.iconst 0, 1) := by decide +kernel
theorem dX12_init_731 : decode cX12_init 731 = .ok (.invokestatic 193, 3) := by decide +kernel
theorem dX12_init_734 : decode cX12_init 734 = .ok (.lastore, 1) := by decide +kernel
theorem dX12_init_735 : decode cX12_init 735 = .ok (.aload_n 0, 1) := by decide +kernel
theorem dX12_init_736 : decode cX12_init 736 = .ok (.getfield 34, 3) := by decide +kernel
theorem dX12_init_739 : decode cX12_init 739 = .ok (.bipush 13, 2) := by decide +kernel
theorem dX12_init_741 : decode cX12_init 741 = .ok (.bipush 108, 2) := by decide +kernel
theorem dX12_init_743 : decode cX12_init 743 = .ok (.bipush 111, 2) := by decide +kernel
theorem dX12_init_745 : decode cX12_init 745 = .ok (.bipush 115, 2) := by decide +kernel
theorem dX12_init_747 : decode cX12_init 747 = .ok (.bipush 101, 2) := by decide +kernel
theorem dX12_init_749 : decode cX12_init 749 = .ok (.iconst 0, 1) := by decide +kernel
theorem dX12_init_750 : decode cX12_init 750 = .ok (.iconst 0, 1) := by decide +kernel
theorem dX12_init_751 : decode cX12_init 751 = .ok (.iconst 0, 1) := by decide +kernel
theorem dX12_init_752 : decode cX12_init 752 = .ok (.invokestatic 193, 3) := by decide +kernel
theorem dX12_init_755 : decode cX12_init 755 = .ok (.lastore, 1) := by decide +kernel
theorem dX12_init_756 : decode cX12_init 756 = .ok (.aload_n 0, 1) := by decide +kernel
theorem dX12_init_757 : decode cX12_init 757 = .ok (.getfield 34, 3) := by decide +kernel
theorem dX12_init_760 : decode cX12_init 760 = .ok (.bipush 14, 2) := by decide +kernel
theorem dX12_init_762 : decode cX12_init 762 = .ok (.bipush 105, 2) := by decide +kernel
theorem dX12_init_764 : decode cX12_init 764 = .ok (.bipush 102, 2) := by decide +kernel
theorem dX12_init_766 : decode cX12_init 766 = .ok (.iconst 0, 1) := by decide +kernel
theorem dX12_init_767 : decode cX12_init 767 = .ok (.iconst 0, 1) := by decide +kernel
theorem dX12_init_768 : decode cX12_init 768 = .ok (.iconst 0, 1) := by decide +kernel
theorem dX12_init_769 : decode cX12_init 769 = .ok (.iconst 0, 1) := by decide +kernel
theorem dX12_init_770 : decode cX12_init 770 = .ok (.iconst 0, 1) := by decide +kernel
theorem dX12_init_771 : decode cX12_init 771 = .ok (.invokestatic 193, 3) := by decide +kernel
theorem dX12_init_774 : decode cX12_init 774 = .ok (.lastore, 1) := by decide +kernel
theorem dX12_init_775 : decode cX12_init 775 = .ok (.aload_n 0, 1) := by decide +kernel
theorem dX12_init_776 : decode cX12_init 776 = .ok (.getfield 34, 3) := by decide +kernel
theorem dX12_init_779 : decode cX12_init 779 = .ok (.bipush 15, 2) := by decide +kernel
theorem dX12_init_781 : decode cX12_init 781 = .ok (.bipush 116, 2) := by decide +kernel
theorem dX12_init_783 : decode cX12_init 783 = .ok (.bipush 104, 2) := by decide +kernel
theorem dX12_init_785 : decode cX12_init 785 = .ok (.bipush 101, 2) := by decide +kernel
theorem dX12_init_787 : decode cX12_init 787 = .ok (.bipush 110, 2) := by decide +kernel
theorem dX12_init_789 : decode cX12_init 789 = .ok (.iconst 0, 1) := by decide +kernel
theorem dX12_init_790 : decode cX12_init 790 = .ok (.iconst 0, 1) := by decide +kernel
theorem dX12_init_791 : decode cX12_init 791 = .ok (.iconst 0, 1) := by decide +kernel
theorem dX12_init_792 : decode cX12_init 792 = .ok (.invokestatic 193, 3) := by decide +kernel
theorem dX12_init_795 : decode cX12_init 795 = .ok (.lastore, 1) := by decide +kernel
theorem dX12_init_796 : decode cX12_init 796 = .ok (.aload_n 0, 1) := by decide +kernel
theorem dX12_init_797 : decode cX12_init 797 = .ok (.getfield 34, 3) := by decide +kernel
theorem dX12_init_800 : decode cX12_init 800 = .ok (.bipush 16, 2) := by decide +kernel
theorem dX12_init_802 : decode cX12_init 802 = .ok (.bipush 101, 2) := by decide +kernel
theorem dX12_init_804 : decode cX12_init 804 = .ok (.bipush 108, 2) := by decide +kernel
theorem dX12_init_806 : decode cX12_init 806 = .ok (.bipush 115, 2) := by decide +kernel
theorem dX12_init_808 : decode cX12_init 808 = .ok (.bipush 101, 2) := by decide +kernel
theorem dX12_init_810 : decode cX12_init 810 = .ok (.iconst 0, 1) := by decide +kernel
theorem dX12_init_811 : decode cX12_init 811 = .ok (.iconst 0, 1) := by decide +kernel
theorem dX12_init_812 : decode cX12_init 812 = .ok (.iconst 0, 1) := by decide +kernel
theorem dX12_init_813 : decode cX12_init 813 = .ok (.invokestatic 193, 3) := by decide +kernel
theorem dX12_init_816 : decode cX12_init 816 = .ok (.lastore, 1) := by decide +kernel
theorem dX12_init_817 : decode cX12_init 817 = .ok (.aload_n 0, 1) := by decide +kernel
theorem dX12_init_818 : decode cX12_init 818 = .ok (.getfield 34, 3) := by decide +kernel
theorem dX12_init_821 : decode cX12_init 821 = .ok (.bipush 17, 2) := by decide +kernel
theorem dX12_init_823 : decode cX12_init 823 = .ok (.bipush 119, 2) := by decide +kernel
theorem dX12_init_825 : decode cX12_init 825 = .ok (.bipush 101, 2) := by decide +kernel
theorem dX12_init_827 : decode cX12_init 827 = .ok (.bipush 101, 2) := by decide +kernel
theorem dX12_init_829 : decode cX12_init 829 = .ok (.bipush 107, 2) := by decide +kernel
theorem dX12_init_831 : decode cX12_init 831 = .ok (.iconst 0, 1) := by decide +kernel
theorem dX12_init_832 : decode cX12_init 832 = .ok (.iconst 0, 1) := by decide +kernel
theorem dX12_init_833 : decode cX12_init 833 = .ok (.iconst 0, 1) := by decide +kernel
theorem dX12_init_834 : decode cX12_init 834 = .ok (.invokestatic 193, 3) := by decide +kernel
theorem dX12_init_837 : decode cX12_init 837 = .ok (.lastore, 1) := by decide +kernel
theorem dX12_init_838 : decode cX12_init 838 = .ok (.aload_n 0, 1) := by decide +kernel
theorem dX12_init_839 : decode cX12_init 839 = .ok (.getfield 34, 3) := by decide +kernel
theorem dX12_init_842 : decode cX12_init 842 = .ok (.bipush 18, 2) := by decide +kernel
theorem dX12_init_844 : decode cX12_init 844 = .ok (.bipush 107, 2) := by decide +kernel
theorem dX12_init_846 : decode cX12_init 846 = .ok (.bipush 105, 2) := by decide +kernel
theorem dX12_init_848 : decode cX12_init 848 = .ok (.bipush 110, 2) := by decide +kernel
theorem dX12_init_850 : decode cX12_init 850 = .ok (.bipush 100, 2) := by decide +kernel
theorem dX12_init_852 : decode cX12_init 852 = .ok (.iconst 0, 1) := by decide +kernel
theorem dX12_init_853 : decode cX12_init 853 = .ok (.iconst 0, 1) := by decide +kernel
theorem dX12_init_854 : decode cX12_init 854 = .ok (.iconst 0, 1) := by decide +kernel
theorem dX12_init_855 : decode cX12_init 855 = .ok (.invokestatic 193, 3) := by decide +kernel
theorem dX12_init_858 : decode cX12_init 858 = .ok (.lastore, 1) := by decide +kernel
theorem dX12_init_859 : decode cX12_init 859 = .ok (.aload_n 0, 1) := by decide +kernel
theorem dX12_init_860 : decode cX12_init 860 = .ok (.getfield 34, 3) := by decide +kernel
theorem dX12_init_863 : decode cX12_init 863 = .ok (.bipush 19, 2) := by decide +kernel
theorem dX12_init_865 : decode cX12_init 865 = .ok (.bipush 116, 2) := by decide +kernel
theorem dX12_init_867 : decode cX12_init 867 = .ok (.bipush 104, 2) := by decide +kernel
theorem dX12_init_869 : decode cX12_init 869 = .ok (.bipush 101, 2) := by decide +kernel
theorem dX12_init_871 : decode cX12_init 871 = .ok (.bipush 114, 2) := by decide +kernel
theorem dX12_init_873 : decode cX12_init 873 = .ok (.bipush 101, 2) := by decide +kernel
theorem dX12_init_875 : decode cX12_init 875 = .ok (.iconst 0, 1) := by decide +kernel
theorem dX12_init_876 : decode cX12_init 876 = .ok (.iconst 0, 1) := by decide +kernel
theorem dX12_init_877 : decode cX12_init 877 = .ok (.invokestatic 193, 3) := by decide +kernel
theorem dX12_init_880 : decode cX12_init 880 = .ok (.lastore, 1) := by decide +kernel
theorem dX12_init_881 : decode cX12_init 881 = .ok (.aload_n 0, 1) := by decide +kernel
theorem dX12_init_882 : decode cX12_init 882 = .ok (.getfield 34, 3) := by decide +kernel
theorem dX12_init_885 : decode cX12_init 885 = .ok (.bipush 20, 2) := by decide +kernel
theorem dX12_init_887 : decode cX12_init 887 = .ok (.bipush 97, 2) := by decide +kernel
theorem dX12_init_889 : decode cX12_init 889 = .ok (.bipush 108, 2) := by decide +kernel
theorem dX12_init_891 : decode cX12_init 891 = .ok (.bipush 108, 2) := by decide +kernel
theorem dX12_init_893 : decode cX12_init 893 = .ok (.iconst 0, 1) := by decide +kernel
theorem dX12_init_894 : decode cX12_init 894 = .ok (.iconst 0, 1) := by decide +kernel
theorem dX12_init_895 : decode cX12_init 895 = .ok (.iconst 0, 1) := by decide +kernel
theorem dX12_init_896 : decode cX12_init 896 = .ok (.iconst 0, 1) := by decide +kernel
theorem dX12_init_897 : decode cX12_init 897 = .ok (.invokestatic 193, 3) := by decide +kernel
theorem dX12_init_900 : decode cX12_init 900 = .ok (.lastore, 1) := by decide +kernel
theorem dX12_init_901 : decode cX12_init 901 = .ok (.aload_n 0, 1) := by decide +kernel
theorem dX12_init_902 : decode cX12_init 902 = .ok (.getfield 34, 3) := by decide +kernel
theorem dX12_init_905 : decode cX12_init 905 = .ok (.bipush 21, 2) := by decide +kernel
theorem dX12_init_907 : decode cX12_init 907 = .ok (.bipush 108, 2) := by decide +kernel
theorem dX12_init_909 : decode cX12_init 909 = .ok (.bipush 111, 2) := by decide +kernel
theorem dX12_init_911 : decode cX12_init 911 = .ok (.bipush 116, 2) := by decide +kernel
theorem dX12_init_913 : decode cX12_init 913 = .ok (.iconst 0, 1) := by decide +kernel
theorem dX12_init_914 : decode cX12_init 914 = .ok (.iconst 0, 1) := by decide +kernel
theorem dX12_init_915 : decode cX12_init 915 = .ok (.iconst 0, 1) := by decide +kernel
theorem dX12_init_916 : decode cX12_init 916 = .ok (.iconst 0, 1) := by decide +kernel
theorem dX12_init_917 : decode cX12_init 917 = .ok (.invokestatic 193, 3) := by decide +kernel
theorem dX12_init_920 : decode cX12_init 920 = .ok (.lastore, 1) := by decide +kernel
theorem dX12_init_921 : decode cX12_init 921 = .ok (.return_, 1) := by decide +kernel
theorem dX12_feed_0 : decode cX12_feed 0 = .ok (.aload_n 0, 1) := by decide +kernel
theorem dX12_feed_1 : decode cX12_feed 1 = .ok (.getfield 197, 3) := by decide +kernel
theorem dX12_feed_4 : decode cX12_feed 4 = .ok (.bipush 20, 2) := by decide +kernel
theorem dX12_feed_6 : decode cX12_feed 6 = .ok (.iadd, 1) := by decide +kernel
theorem dX12_feed_7 : decode cX12_feed 7 = .ok (.sipush 2000, 3) := by decide +kernel
theorem dX12_feed_10 : decode cX12_feed 10 = .ok (.if_icmp .le 5, 3) := by decide +kernel
theorem dX12_feed_13 : decode cX12_feed 13 = .ok (.iconst (-1), 1) := by decide +kernel
theorem dX12_feed_14 : decode cX12_feed 14 = .ok (.ireturn, 1) := by decide +kernel
theorem dX12_feed_15 : decode cX12_feed 15 = .ok (.aload_n 0, 1) := by decide +kernel
theorem dX12_feed_16 : decode cX12_feed 16 = .ok (.iload_n 1, 1) := by decide +kernel
theorem dX12_feed_17 : decode cX12_feed 17 = .ok (.invokevirtual 200, 3) := by decide +kernel
theorem dX12_feed_20 : decode cX12_feed 20 = .ok (.aload_n 0, 1) := by decide +kernel
theorem dX12_feed_21 : decode cX12_feed 21 = .ok (.iload_n 2, 1) := by decide +kernel
theorem dX12_feed_22 : decode cX12_feed 22 = .ok (.invokevirtual 200, 3) := by decide +kernel
theorem dX12_feed_25 : decode cX12_feed 25 = .ok (.aload_n 0, 1) := by decide +kernel
theorem dX12_feed_26 : decode cX12_feed 26 = .ok (.iload_n 3, 1) := by decide +kernel
theorem dX12_feed_27 : decode cX12_feed 27 = .ok (.invokevirtual 200, 3) := by decide +kernel
theorem dX12_feed_30 : decode cX12_feed 30 = .ok (.aload_n 0, 1) := by decide +kernel
theorem dX12_feed_31 : decode cX12_feed 31 = .ok (.iload 4, 2) := by decide +kernel
theorem dX12_feed_33 : decode cX12_feed 33 = .ok (.invokevirtual 200, 3) := by decide +kernel
theorem dX12_feed_36 : decode cX12_feed 36 = .ok (.aload_n 0, 1) := by decide +kernel
theorem dX12_feed_37 : decode cX12_feed 37 = .ok (.iload 5, 2) := by decide +kernel
theorem dX12_feed_39 : decode cX12_feed 39 = .ok (.invokevirtual 200, 3) := by decide +kernel
theorem dX12_feed_42 : decode cX12_feed 42 = .ok (.aload_n 0, 1) := by decide +kernel
theorem dX12_feed_43 : decode cX12_feed 43 = .ok (.getfield 197, 3) := by decide +kernel
theorem dX12_feed_46 : decode cX12_feed 46 = .ok (.ireturn, 1) := by decide +kernel
theorem dX12_put_0 : decode cX12_put 0 = .ok (.bipush 24, 2) := by decide +kernel
theorem dX12_put_2 : decode cX12_put 2 = .ok (.istore_n 2, 1) := by decide +kernel
theorem dX12_put_3 : decode cX12_put 3 = .ok (.iload_n 2, 1) := by decide +kernel
theorem dX12_put_4 : decode cX12_put 4 = .ok (.ifCond .lt 32, 3) := by decide +kernel
theorem dX12_put_7 : decode cX12_put 7 = .ok (.aload_n 0, 1) := by decide +kernel
theorem dX12_put_8 : decode cX12_put 8 = .ok (.getfield 13, 3) := by decide +kernel
theorem dX12_put_11 : decode cX12_put 11 = .ok (.aload_n 0, 1) := by decide +kernel
theorem dX12_put_12 : decode cX12_put 12 = .ok (.getfield 197, 3) := by decide +kernel
theorem dX12_put_15 : decode cX12_put 15 = .ok (.iload_n 1, 1) := by decide +kernel
theorem dX12_put_16 : decode cX12_put 16 = .ok (.iload_n 2, 1) := by decide +kernel
theorem dX12_put_17 : decode cX12_put 17 = .ok (.ishr, 1) := by decide +kernel
theorem dX12_put_18 : decode cX12_put 18 = .ok (.i2b, 1) := by decide +kernel
theorem dX12_put_19 : decode cX12_put 19 = .ok (.bastore, 1) := by decide +kernel
theorem dX12_put_20 : decode cX12_put 20 = .ok (.aload_n 0, 1) := by decide +kernel
theorem dX12_put_21 : decode cX12_put 21 = .ok (.dup, 1) := by decide +kernel
theorem dX12_put_22 : decode cX12_put 22 = .ok (.getfield 197, 3) := by decide +kernel
theorem dX12_put_25 : decode cX12_put 25 = .ok (.iconst 1, 1) := by decide +kernel
theorem dX12_put_26 : decode cX12_put 26 = .ok (.iadd, 1) := by decide +kernel
theorem dX12_put_27 : decode cX12_put 27 = .ok (.putfield 197, 3) := by decide +kernel
theorem dX12_put_30 : decode cX12_put 30 = .ok (.iinc 2 (-8), 3) := by decide +kernel
theorem dX12_put_33 : decode cX12_put 33 = .ok (.goto (-30), 3) := by decide +kernel
theorem dX12_put_36 : decode cX12_put 36 = .ok (.return_, 1) := by decide +kernel
theorem dX12_back_0 : decode cX12_back 0 = .ok (.iload_n 1, 1) := by decide +kernel
theorem dX12_back_1 : decode cX12_back 1 = .ok (.ifCond .lt 11, 3) := by decide +kernel
theorem dX12_back_4 : decode cX12_back 4 = .ok (.iload_n 1, 1) := by decide +kernel
theorem dX12_back_5 : decode cX12_back 5 = .ok (.aload_n 0, 1) := by decide +kernel
theorem dX12_back_6 : decode cX12_back 6 = .ok (.getfield 197, 3) := by decide +kernel
theorem dX12_back_9 : decode cX12_back 9 = .ok (.if_icmp .le 5, 3) := by decide +kernel
theorem dX12_back_12 : decode cX12_back 12 = .ok (.iconst (-1), 1) := by decide +kernel
theorem dX12_back_13 : decode cX12_back 13 = .ok (.ireturn, 1) := by decide +kernel
theorem dX12_back_14 : decode cX12_back 14 = .ok (.aload_n 0, 1) := by decide +kernel
theorem dX12_back_15 : decode cX12_back 15 = .ok (.dup, 1) := by decide +kernel
theorem dX12_back_16 : decode cX12_back 16 = .ok (.getfield 197, 3) := by decide +kernel
theorem dX12_back_19 : decode cX12_back 19 = .ok (.iload_n 1, 1) := by decide +kernel
theorem dX12_back_20 : decode cX12_back 20 = .ok (.isub, 1) := by decide +kernel
theorem dX12_back_21 : decode cX12_back 21 = .ok (.putfield 197, 3) := by decide +kernel
theorem dX12_back_24 : decode cX12_back 24 = .ok (.aload_n 0, 1) := by decide +kernel
theorem dX12_back_25 : decode cX12_back 25 = .ok (.getfield 197, 3) := by decide +kernel
theorem dX12_back_28 : decode cX12_back 28 = .ok (.ireturn, 1) := by decide +kernel
theorem dX12_byteAt_0 : decode cX12_byteAt 0 = .ok (.iload_n 1, 1) := by decide +kernel
theorem dX12_byteAt_1 : decode cX12_byteAt 1 = .ok (.aload_n 0, 1) := by decide +kernel
theorem dX12_byteAt_2 : decode cX12_byteAt 2 = .ok (.getfield 203, 3) := by decide +kernel
theorem dX12_byteAt_5 : decode cX12_byteAt 5 = .ok (.if_icmp .ge 16, 3) := by decide +kernel
theorem dX12_byteAt_8 : decode cX12_byteAt 8 = .ok (.aload_n 0, 1) := by decide +kernel
theorem dX12_byteAt_9 : decode cX12_byteAt 9 = .ok (.getfield 17, 3) := by decide +kernel
theorem dX12_byteAt_12 : decode cX12_byteAt 12 = .ok (.iload_n 1, 1) := by decide +kernel
theorem dX12_byteAt_13 : decode cX12_byteAt 13 = .ok (.baload, 1) := by decide +kernel
theorem dX12_byteAt_14 : decode cX12_byteAt 14 = .ok (.sipush 255, 3) := by decide +kernel
theorem dX12_byteAt_17 : decode cX12_byteAt 17 = .ok (.iand, 1) := by decide +kernel
theorem dX12_byteAt_18 : decode cX12_byteAt 18 = .ok (.goto 4, 3) := by decide +kernel
theorem dX12_byteAt_21 : decode cX12_byteAt 21 = .ok (.iconst 0, 1) := by decide +kernel
theorem dX12_byteAt_22 : decode cX12_byteAt 22 = .ok (.ireturn, 1) := by decide +kernel
theorem dX12_isDigit_0 : decode cX12_isDigit 0 = .ok (.iload_n 0, 1) := by decide +kernel
theorem dX12_isDigit_1 : decode cX12_isDigit 1 = .ok (.bipush 48, 2) := by decide +kernel
theorem dX12_isDigit_3 : decode cX12_isDigit 3 = .ok (.if_icmp .lt 13, 3) := by decide +kernel
theorem dX12_isDigit_6 : decode cX12_isDigit 6 = .ok (.iload_n 0, 1) := by decide +kernel
theorem dX12_isDigit_7 : decode cX12_isDigit 7 = .ok (.bipush 57, 2) := by decide +kernel
theorem dX12_isDigit_9 : decode cX12_isDigit 9 = .ok (.if_icmp .gt 7, 3) := by decide +kernel
theorem dX12_isDigit_12 : decode cX12_isDigit 12 = .ok (.iconst 1, 1) := by decide +kernel
theorem dX12_isDigit_13 : decode cX12_isDigit 13 = .ok (.goto 4, 3) := by decide +kernel
theorem dX12_isDigit_16 : decode cX12_isDigit 16 = .ok (.iconst 0, 1) := by decide +kernel
theorem dX12_isDigit_17 : decode cX12_isDigit 17 = .ok (.ireturn, 1) := by decide +kernel
theorem dX12_isLetter_0 : decode cX12_isLetter 0 = .ok (.iload_n 0, 1) := by decide +kernel
theorem dX12_isLetter_1 : decode cX12_isLetter 1 = .ok (.bipush 97, 2) := by decide +kernel
theorem dX12_isLetter_3 : decode cX12_isLetter 3 = .ok (.if_icmp .lt 13, 3) := by decide +kernel
theorem dX12_isLetter_6 : decode cX12_isLetter 6 = .ok (.iload_n 0, 1) := by decide +kernel
theorem dX12_isLetter_7 : decode cX12_isLetter 7 = .ok (.bipush 122, 2) := by decide +kernel
theorem dX12_isLetter_9 : decode cX12_isLetter 9 = .ok (.if_icmp .gt 7, 3) := by decide +kernel
theorem dX12_isLetter_12 : decode cX12_isLetter 12 = .ok (.iconst 1, 1) := by decide +kernel
theorem dX12_isLetter_13 : decode cX12_isLetter 13 = .ok (.goto 4, 3) := by decide +kernel
theorem dX12_isLetter_16 : decode cX12_isLetter 16 = .ok (.iconst 0, 1) := by decide +kernel
theorem dX12_isLetter_17 : decode cX12_isLetter 17 = .ok (.ireturn, 1) := by decide +kernel
theorem dX12_appends_0 : decode cX12_appends 0 = .ok (.iload_n 2, 1) := by decide +kernel
theorem dX12_appends_1 : decode cX12_appends 1 = .ok (.ifCond .ne 7, 3) := by decide +kernel
theorem dX12_appends_4 : decode cX12_appends 4 = .ok (.lload_n 0, 1) := by decide +kernel
theorem dX12_appends_5 : decode cX12_appends 5 = .ok (.goto 16, 3) := by decide +kernel
theorem dX12_appends_8 : decode cX12_appends 8 = .ok (.ldc2_w 206, 3) := by decide +kernel
theorem dX12_appends_11 : decode cX12_appends 11 = .ok (.lload_n 0, 1) := by decide +kernel
theorem dX12_appends_12 : decode cX12_appends 12 = .ok (.lmul, 1) := by decide +kernel
theorem dX12_appends_13 : decode cX12_appends 13 = .ok (.iload_n 2, 1) := by decide +kernel
theorem dX12_appends_14 : decode cX12_appends 14 = .ok (.bipush 97, 2) := by decide +kernel
theorem dX12_appends_16 : decode cX12_appends 16 = .ok (.isub, 1) := by decide +kernel
theorem dX12_appends_17 : decode cX12_appends 17 = .ok (.iconst 1, 1) := by decide +kernel
theorem dX12_appends_18 : decode cX12_appends 18 = .ok (.iadd, 1) := by decide +kernel
theorem dX12_appends_19 : decode cX12_appends 19 = .ok (.i2l, 1) := by decide +kernel
theorem dX12_appends_20 : decode cX12_appends 20 = .ok (.ladd, 1) := by decide +kernel
theorem dX12_appends_21 : decode cX12_appends 21 = .ok (.lreturn, 1) := by decide +kernel
theorem dX12_word_0 : decode cX12_word 0 = .ok (.lconst 0, 1) := by decide +kernel
theorem dX12_word_1 : decode cX12_word 1 = .ok (.iload_n 0, 1) := by decide +kernel
theorem dX12_word_2 : decode cX12_word 2 = .ok (.invokestatic 208, 3) := by decide +kernel
theorem dX12_word_5 : decode cX12_word 5 = .ok (.iload_n 1, 1) := by decide +kernel
theorem dX12_word_6 : decode cX12_word 6 = .ok (.invokestatic 208, 3) := by decide +kernel
theorem dX12_word_9 : decode cX12_word 9 = .ok (.iload_n 2, 1) := by decide +kernel
theorem dX12_word_10 : decode cX12_word 10 = .ok (.invokestatic 208, 3) := by decide +kernel
theorem dX12_word_13 : decode cX12_word 13 = .ok (.iload_n 3, 1) := by decide +kernel
theorem dX12_word_14 : decode cX12_word 14 = .ok (.invokestatic 208, 3) := by decide +kernel
theorem dX12_word_17 : decode cX12_word 17 = .ok (.iload 4, 2) := by decide +kernel
theorem dX12_word_19 : decode cX12_word 19 = .ok (.invokestatic 208, 3) := by decide +kernel
theorem dX12_word_22 : decode cX12_word 22 = .ok (.iload 5, 2) := by decide +kernel
theorem dX12_word_24 : decode cX12_word 24 = .ok (.invokestatic 208, 3) := by decide +kernel
theorem dX12_word_27 : decode cX12_word 27 = .ok (.iload 6, 2) := by decide +kernel
theorem dX12_word_29 : decode cX12_word 29 = .ok (.invokestatic 208, 3) := by decide +kernel
theorem dX12_word_32 : decode cX12_word 32 = .ok (.lreturn, 1) := by decide +kernel
theorem dX12_token_0 : decode cX12_token 0 = .ok (.aload_n 0, 1) := by decide +kernel
theorem dX12_token_1 : decode cX12_token 1 = .ok (.getfield 20, 3) := by decide +kernel
theorem dX12_token_4 : decode cX12_token 4 = .ok (.aload_n 0, 1) := by decide +kernel
theorem dX12_token_5 : decode cX12_token 5 = .ok (.getfield 212, 3) := by decide +kernel
theorem dX12_token_8 : decode cX12_token 8 = .ok (.iload_n 1, 1) := by decide +kernel
theorem dX12_token_9 : decode cX12_token 9 = .ok (.iastore, 1) := by decide +kernel
theorem dX12_token_10 : decode cX12_token 10 = .ok (.aload_n 0, 1) := by decide +kernel
theorem dX12_token_11 : decode cX12_token 11 = .ok (.getfield 24, 3) := by decide +kernel
theorem dX12_token_14 : decode cX12_token 14 = .ok (.aload_n 0, 1) := by decide +kernel
theorem dX12_token_15 : decode cX12_token 15 = .ok (.getfield 212, 3) := by decide +kernel
theorem dX12_token_18 : decode cX12_token 18 = .ok (.iload_n 2, 1) := by decide +kernel
theorem dX12_token_19 : decode cX12_token 19 = .ok (.iastore, 1) := by decide +kernel
theorem dX12_token_20 : decode cX12_token 20 = .ok (.aload_n 0, 1) := by decide +kernel
theorem dX12_token_21 : decode cX12_token 21 = .ok (.getfield 27, 3) := by decide +kernel
theorem dX12_token_24 : decode cX12_token 24 = .ok (.aload_n 0, 1) := by decide +kernel
theorem dX12_token_25 : decode cX12_token 25 = .ok (.getfield 212, 3) := by decide +kernel
theorem dX12_token_28 : decode cX12_token 28 = .ok (.iload_n 3, 1) := by decide +kernel
theorem dX12_token_29 : decode cX12_token 29 = .ok (.iastore, 1) := by decide +kernel
theorem dX12_token_30 : decode cX12_token 30 = .ok (.aload_n 0, 1) := by decide +kernel
theorem dX12_token_31 : decode cX12_token 31 = .ok (.getfield 30, 3) := by decide +kernel
theorem dX12_token_34 : decode cX12_token 34 = .ok (.aload_n 0, 1) := by decide +kernel
theorem dX12_token_35 : decode cX12_token 35 = .ok (.getfield 212, 3) := by decide +kernel
theorem dX12_token_38 : decode cX12_token 38 = .ok (.lload 4, 2) := by decide +kernel
theorem dX12_token_40 : decode cX12_token 40 = .ok (.lastore, 1) := by decide +kernel
theorem dX12_token_41 : decode cX12_token 41 = .ok (.aload_n 0, 1) := by decide +kernel
theorem dX12_token_42 : decode cX12_token 42 = .ok (.dup, 1) := by decide +kernel
theorem dX12_token_43 : decode cX12_token 43 = .ok (.getfield 212, 3) := by decide +kernel
theorem dX12_token_46 : decode cX12_token 46 = .ok (.iconst 1, 1) := by decide +kernel
theorem dX12_token_47 : decode cX12_token 47 = .ok (.iadd, 1) := by decide +kernel
theorem dX12_token_48 : decode cX12_token 48 = .ok (.putfield 212, 3) := by decide +kernel
theorem dX12_token_51 : decode cX12_token 51 = .ok (.return_, 1) := by decide +kernel
theorem dX12_cut_0 : decode cX12_cut 0 = .ok (.aload_n 0, 1) := by decide +kernel
theorem dX12_cut_1 : decode cX12_cut 1 = .ok (.iconst 0, 1) := by decide +kernel
theorem dX12_cut_2 : decode cX12_cut 2 = .ok (.putfield 212, 3) := by decide +kernel
theorem dX12_cut_5 : decode cX12_cut 5 = .ok (.iconst 0, 1) := by decide +kernel
theorem dX12_cut_6 : decode cX12_cut 6 = .ok (.istore_n 1, 1) := by decide +kernel
theorem dX12_cut_7 : decode cX12_cut 7 = .ok (.aload_n 0, 1) := by decide +kernel
theorem dX12_cut_8 : decode cX12_cut 8 = .ok (.getfield 212, 3) := by decide +kernel
theorem dX12_cut_11 : decode cX12_cut 11 = .ok (.sipush 400, 3) := by decide +kernel
theorem dX12_cut_14 : decode cX12_cut 14 = .ok (.if_icmp .gt 280, 3) := by decide +kernel
theorem dX12_cut_17 : decode cX12_cut 17 = .ok (.aload_n 0, 1) := by decide +kernel
theorem dX12_cut_18 : decode cX12_cut 18 = .ok (.iload_n 1, 1) := by decide +kernel
theorem dX12_cut_19 : decode cX12_cut 19 = .ok (.invokevirtual 215, 3) := by decide +kernel
theorem dX12_cut_22 : decode cX12_cut 22 = .ok (.istore_n 2, 1) := by decide +kernel
theorem dX12_cut_23 : decode cX12_cut 23 = .ok (.iload_n 1, 1) := by decide +kernel
theorem dX12_cut_24 : decode cX12_cut 24 = .ok (.aload_n 0, 1) := by decide +kernel
theorem dX12_cut_25 : decode cX12_cut 25 = .ok (.getfield 203, 3) := by decide +kernel
theorem dX12_cut_28 : decode cX12_cut 28 = .ok (.if_icmp .lt 15, 3) := by decide +kernel
theorem dX12_cut_31 : decode cX12_cut 31 = .ok (.aload_n 0, 1) := by decide +kernel
theorem dX12_cut_32 : decode cX12_cut 32 = .ok (.iconst 0, 1) := by decide +kernel
theorem dX12_cut_33 : decode cX12_cut 33 = .ok (.aload_n 0, 1) := by decide +kernel
theorem dX12_cut_34 : decode cX12_cut 34 = .ok (.getfield 203, 3) := by decide +kernel
theorem dX12_cut_37 : decode cX12_cut 37 = .ok (.iconst 0, 1) := by decide +kernel
theorem dX12_cut_38 : decode cX12_cut 38 = .ok (.lconst 0, 1) := by decide +kernel
theorem dX12_cut_39 : decode cX12_cut 39 = .ok (.invokevirtual 219, 3) := by decide +kernel
theorem dX12_cut_42 : decode cX12_cut 42 = .ok (.return_, 1) := by decide +kernel
theorem dX12_cut_43 : decode cX12_cut 43 = .ok (.iload_n 2, 1) := by decide +kernel
theorem dX12_cut_44 : decode cX12_cut 44 = .ok (.bipush 9, 2) := by decide +kernel
theorem dX12_cut_46 : decode cX12_cut 46 = .ok (.if_icmp .eq 21, 3) := by decide +kernel
theorem dX12_cut_49 : decode cX12_cut 49 = .ok (.iload_n 2, 1) := by decide +kernel
theorem dX12_cut_50 : decode cX12_cut 50 = .ok (.bipush 10, 2) := by decide +kernel
theorem dX12_cut_52 : decode cX12_cut 52 = .ok (.if_icmp .eq 15, 3) := by decide +kernel
theorem dX12_cut_55 : decode cX12_cut 55 = .ok (.iload_n 2, 1) := by decide +kernel
theorem dX12_cut_56 : decode cX12_cut 56 = .ok (.bipush 13, 2) := by decide +kernel
theorem dX12_cut_58 : decode cX12_cut 58 = .ok (.if_icmp .eq 9, 3) := by decide +kernel
theorem dX12_cut_61 : decode cX12_cut 61 = .ok (.iload_n 2, 1) := by decide +kernel
theorem dX12_cut_62 : decode cX12_cut 62 = .ok (.bipush 32, 2) := by decide +kernel
theorem dX12_cut_64 : decode cX12_cut 64 = .ok (.if_icmp .ne 9, 3) := by decide +kernel
theorem dX12_cut_67 : decode cX12_cut 67 = .ok (.iinc 1 1, 3) := by decide +kernel
theorem dX12_cut_70 : decode cX12_cut 70 = .ok (.goto 221, 3) := by decide +kernel
theorem dX12_cut_73 : decode cX12_cut 73 = .ok (.iload_n 2, 1) := by decide +kernel
theorem dX12_cut_74 : decode cX12_cut 74 = .ok (.invokestatic 223, 3) := by decide +kernel
theorem dX12_cut_77 : decode cX12_cut 77 = .ok (.ifCond .eq 119, 3) := by decide +kernel
theorem dX12_cut_80 : decode cX12_cut 80 = .ok (.iconst 0, 1) := by decide +kernel
theorem dX12_cut_81 : decode cX12_cut 81 = .ok (.istore_n 3, 1) := by decide +kernel
theorem dX12_cut_82 : decode cX12_cut 82 = .ok (.lconst 0, 1) := by decide +kernel
theorem dX12_cut_83 : decode cX12_cut 83 = .ok (.lstore 4, 2) := by decide +kernel
theorem dX12_cut_85 : decode cX12_cut 85 = .ok (.aload_n 0, 1) := by decide +kernel
theorem dX12_cut_86 : decode cX12_cut 86 = .ok (.iload_n 1, 1) := by decide +kernel
theorem dX12_cut_87 : decode cX12_cut 87 = .ok (.iload_n 3, 1) := by decide +kernel
theorem dX12_cut_88 : decode cX12_cut 88 = .ok (.iadd, 1) := by decide +kernel
theorem dX12_cut_89 : decode cX12_cut 89 = .ok (.invokevirtual 215, 3) := by decide +kernel
theorem dX12_cut_92 : decode cX12_cut 92 = .ok (.invokestatic 223, 3) := by decide +kernel
theorem dX12_cut_95 : decode cX12_cut 95 = .ok (.ifCond .eq 29, 3) := by decide +kernel
theorem dX12_cut_98 : decode cX12_cut 98 = .ok (.iload_n 3, 1) := by decide +kernel
theorem dX12_cut_99 : decode cX12_cut 99 = .ok (.bipush 8, 2) := by decide +kernel
theorem dX12_cut_101 : decode cX12_cut 101 = .ok (.if_icmp .ge 17, 3) := by decide +kernel
theorem dX12_cut_104 : decode cX12_cut 104 = .ok (.lload 4, 2) := by decide +kernel
theorem dX12_cut_106 : decode cX12_cut 106 = .ok (.aload_n 0, 1) := by decide +kernel
theorem dX12_cut_107 : decode cX12_cut 107 = .ok (.iload_n 1, 1) := by decide +kernel
theorem dX12_cut_108 : decode cX12_cut 108 = .ok (.iload_n 3, 1) := by decide +kernel
theorem dX12_cut_109 : decode cX12_cut 109 = .ok (.iadd, 1) := by decide +kernel
theorem dX12_cut_110 : decode cX12_cut 110 = .ok (.invokevirtual 215, 3) := by decide +kernel
theorem dX12_cut_113 : decode cX12_cut 113 = .ok (.invokestatic 208, 3) := by decide +kernel
theorem dX12_cut_116 : decode cX12_cut 116 = .ok (.lstore 4, 2) := by decide +kernel
theorem dX12_cut_118 : decode cX12_cut 118 = .ok (.iinc 3 1, 3) := by decide +kernel
theorem dX12_cut_121 : decode cX12_cut 121 = .ok (.goto (-36), 3) := by decide +kernel
theorem dX12_cut_124 : decode cX12_cut 124 = .ok (.iload_n 3, 1) := by decide +kernel
theorem dX12_cut_125 : decode cX12_cut 125 = .ok (.bipush 8, 2) := by decide +kernel
theorem dX12_cut_127 : decode cX12_cut 127 = .ok (.if_icmp .le 7, 3) := by decide +kernel
theorem dX12_cut_130 : decode cX12_cut 130 = .ok (.iconst 3, 1) := by decide +kernel
theorem dX12_cut_131 : decode cX12_cut 131 = .ok (.goto 4, 3) := by decide +kernel
theorem dX12_cut_134 : decode cX12_cut 134 = .ok (.iconst 1, 1) := by decide +kernel
theorem dX12_cut_135 : decode cX12_cut 135 = .ok (.istore 6, 2) := by decide +kernel
theorem dX12_cut_137 : decode cX12_cut 137 = .ok (.iload_n 3, 1) := by decide +kernel
theorem dX12_cut_138 : decode cX12_cut 138 = .ok (.bipush 7, 2) := by decide +kernel
theorem dX12_cut_140 : decode cX12_cut 140 = .ok (.if_icmp .gt 39, 3) := by decide +kernel
theorem dX12_cut_143 : decode cX12_cut 143 = .ok (.iconst 0, 1) := by decide +kernel
theorem dX12_cut_144 : decode cX12_cut 144 = .ok (.istore 7, 2) := by decide +kernel
theorem dX12_cut_146 : decode cX12_cut 146 = .ok (.iload 7, 2) := by decide +kernel
theorem dX12_cut_148 : decode cX12_cut 148 = .ok (.bipush 22, 2) := by decide +kernel
theorem dX12_cut_150 : decode cX12_cut 150 = .ok (.if_icmp .ge 29, 3) := by decide +kernel
theorem dX12_cut_153 : decode cX12_cut 153 = .ok (.aload_n 0, 1) := by decide +kernel
theorem dX12_cut_154 : decode cX12_cut 154 = .ok (.getfield 34, 3) := by decide +kernel
theorem dX12_cut_157 : decode cX12_cut 157 = .ok (.iload 7, 2) := by decide +kernel
theorem dX12_cut_159 : decode cX12_cut 159 = .ok (.laload, 1) := by decide +kernel
theorem dX12_cut_160 : decode cX12_cut 160 = .ok (.lload 4, 2) := by decide +kernel
theorem dX12_cut_162 : decode cX12_cut 162 = .ok (.lcmp, 1) := by decide +kernel
theorem dX12_cut_163 : decode cX12_cut 163 = .ok (.ifCond .ne 10, 3) := by decide +kernel
theorem dX12_cut_166 : decode cX12_cut 166 = .ok (.bipush 20, 2) := by decide +kernel
theorem dX12_cut_168 : decode cX12_cut 168 = .ok (.iload 7, 2) := by decide +kernel
theorem dX12_cut_170 : decode cX12_cut 170 = .ok (.iadd, 1) := by decide +kernel
theorem dX12_cut_171 : decode cX12_cut 171 = .ok (.istore 6, 2) := by decide +kernel
theorem dX12_cut_173 : decode cX12_cut 173 = .ok (.iinc 7 1, 3) := by decide +kernel
theorem dX12_cut_176 : decode cX12_cut 176 = .ok (.goto (-30), 3) := by decide +kernel
theorem dX12_cut_179 : decode cX12_cut 179 = .ok (.aload_n 0, 1) := by decide +kernel
theorem dX12_cut_180 : decode cX12_cut 180 = .ok (.iload 6, 2) := by decide +kernel
theorem dX12_cut_182 : decode cX12_cut 182 = .ok (.iload_n 1, 1) := by decide +kernel
theorem dX12_cut_183 : decode cX12_cut 183 = .ok (.iconst 0, 1) := by decide +kernel
theorem dX12_cut_184 : decode cX12_cut 184 = .ok (.lload 4, 2) := by decide +kernel
theorem dX12_cut_186 : decode cX12_cut 186 = .ok (.invokevirtual 219, 3) := by decide +kernel
theorem dX12_cut_189 : decode cX12_cut 189 = .ok (.iload_n 1, 1) := by decide +kernel
theorem dX12_cut_190 : decode cX12_cut 190 = .ok (.iload_n 3, 1) := by decide +kernel
theorem dX12_cut_191 : decode cX12_cut 191 = .ok (.iadd, 1) := by decide +kernel
theorem dX12_cut_192 : decode cX12_cut 192 = .ok (.istore_n 1, 1) := by decide +kernel
theorem dX12_cut_193 : decode cX12_cut 193 = .ok (.goto 98, 3) := by decide +kernel
theorem dX12_cut_196 : decode cX12_cut 196 = .ok (.iload_n 2, 1) := by decide +kernel
theorem dX12_cut_197 : decode cX12_cut 197 = .ok (.invokestatic 227, 3) := by decide +kernel
theorem dX12_cut_200 : decode cX12_cut 200 = .ok (.ifCond .eq 75, 3) := by decide +kernel
theorem dX12_cut_203 : decode cX12_cut 203 = .ok (.iconst 0, 1) := by decide +kernel
theorem dX12_cut_204 : decode cX12_cut 204 = .ok (.istore_n 3, 1) := by decide +kernel
theorem dX12_cut_205 : decode cX12_cut 205 = .ok (.iconst 0, 1) := by decide +kernel
theorem dX12_cut_206 : decode cX12_cut 206 = .ok (.istore 4, 2) := by decide +kernel
theorem dX12_cut_208 : decode cX12_cut 208 = .ok (.aload_n 0, 1) := by decide +kernel
theorem dX12_cut_209 : decode cX12_cut 209 = .ok (.iload_n 1, 1) := by decide +kernel
theorem dX12_cut_210 : decode cX12_cut 210 = .ok (.iload_n 3, 1) := by decide +kernel
theorem dX12_cut_211 : decode cX12_cut 211 = .ok (.iadd, 1) := by decide +kernel
theorem dX12_cut_212 : decode cX12_cut 212 = .ok (.invokevirtual 215, 3) := by decide +kernel
theorem dX12_cut_215 : decode cX12_cut 215 = .ok (.invokestatic 227, 3) := by decide +kernel
theorem dX12_cut_218 : decode cX12_cut 218 = .ok (.ifCond .eq 32, 3) := by decide +kernel
theorem dX12_cut_221 : decode cX12_cut 221 = .ok (.iload_n 3, 1) := by decide +kernel
theorem dX12_cut_222 : decode cX12_cut 222 = .ok (.iconst 4, 1) := by decide +kernel
theorem dX12_cut_223 : decode cX12_cut 223 = .ok (.if_icmp .ge 21, 3) := by decide +kernel
theorem dX12_cut_226 : decode cX12_cut 226 = .ok (.bipush 10, 2) := by decide +kernel
theorem dX12_cut_228 : decode cX12_cut 228 = .ok (.iload 4, 2) := by decide +kernel
theorem dX12_cut_230 : decode cX12_cut 230 = .ok (.imul, 1) := by decide +kernel
theorem dX12_cut_231 : decode cX12_cut 231 = .ok (.aload_n 0, 1) := by decide +kernel
theorem dX12_cut_232 : decode cX12_cut 232 = .ok (.iload_n 1, 1) := by decide +kernel
theorem dX12_cut_233 : decode cX12_cut 233 = .ok (.iload_n 3, 1) := by decide +kernel
theorem dX12_cut_234 : decode cX12_cut 234 = .ok (.iadd, 1) := by decide +kernel
theorem dX12_cut_235 : decode cX12_cut 235 = .ok (.invokevirtual 215, 3) := by decide +kernel
theorem dX12_cut_238 : decode cX12_cut 238 = .ok (.iadd, 1) := by decide +kernel
theorem dX12_cut_239 : decode cX12_cut 239 = .ok (.bipush 48, 2) := by decide +kernel
theorem dX12_cut_241 : decode cX12_cut 241 = .ok (.isub, 1) := by decide +kernel
theorem dX12_cut_242 : decode cX12_cut 242 = .ok (.istore 4, 2) := by decide +kernel
theorem dX12_cut_244 : decode cX12_cut 244 = .ok (.iinc 3 1, 3) := by decide +kernel
theorem dX12_cut_247 : decode cX12_cut 247 = .ok (.goto (-39), 3) := by decide +kernel
theorem dX12_cut_250 : decode cX12_cut 250 = .ok (.aload_n 0, 1) := by decide +kernel
theorem dX12_cut_251 : decode cX12_cut 251 = .ok (.iload_n 3, 1) := by decide +kernel
theorem dX12_cut_252 : decode cX12_cut 252 = .ok (.iconst 4, 1) := by decide +kernel
theorem dX12_cut_253 : decode cX12_cut 253 = .ok (.if_icmp .le 7, 3) := by decide +kernel
theorem dX12_cut_256 : decode cX12_cut 256 = .ok (.iconst 3, 1) := by decide +kernel
theorem dX12_cut_257 : decode cX12_cut 257 = .ok (.goto 4, 3) := by decide +kernel
theorem dX12_cut_260 : decode cX12_cut 260 = .ok (.iconst 2, 1) := by decide +kernel
theorem dX12_cut_261 : decode cX12_cut 261 = .ok (.iload_n 1, 1) := by decide +kernel
theorem dX12_cut_262 : decode cX12_cut 262 = .ok (.iload 4, 2) := by decide +kernel
theorem dX12_cut_264 : decode cX12_cut 264 = .ok (.lconst 0, 1) := by decide +kernel
theorem dX12_cut_265 : decode cX12_cut 265 = .ok (.invokevirtual 219, 3) := by decide +kernel
theorem dX12_cut_268 : decode cX12_cut 268 = .ok (.iload_n 1, 1) := by decide +kernel
theorem dX12_cut_269 : decode cX12_cut 269 = .ok (.iload_n 3, 1) := by decide +kernel
theorem dX12_cut_270 : decode cX12_cut 270 = .ok (.iadd, 1) := by decide +kernel
theorem dX12_cut_271 : decode cX12_cut 271 = .ok (.istore_n 1, 1) := by decide +kernel
theorem dX12_cut_272 : decode cX12_cut 272 = .ok (.goto 19, 3) := by decide +kernel
theorem dX12_cut_275 : decode cX12_cut 275 = .ok (.iload_n 1, 1) := by decide +kernel
theorem dX12_cut_276 : decode cX12_cut 276 = .ok (.aload_n 0, 1) := by decide +kernel
theorem dX12_cut_277 : decode cX12_cut 277 = .ok (.iload_n 1, 1) := by decide +kernel
theorem dX12_cut_278 : decode cX12_cut 278 = .ok (.iload_n 2, 1) := by decide +kernel
theorem dX12_cut_279 : decode cX12_cut 279 = .ok (.aload_n 0, 1) := by decide +kernel
theorem dX12_cut_280 : decode cX12_cut 280 = .ok (.iload_n 1, 1) := by decide +kernel
theorem dX12_cut_281 : decode cX12_cut 281 = .ok (.iconst 1, 1) := by decide +kernel
theorem dX12_cut_282 : decode cX12_cut 282 = .ok (.iadd, 1) := by decide +kernel
theorem dX12_cut_283 : decode cX12_cut 283 = .ok (.invokevirtual 215, 3) := by decide +kernel
theorem dX12_cut_286 : decode cX12_cut 286 = .ok (.invokevirtual 230, 3) := by decide +kernel
theorem dX12_cut_289 : decode cX12_cut 289 = .ok (.iadd, 1) := by decide +kernel
theorem dX12_cut_290 : decode cX12_cut 290 = .ok (.istore_n 1, 1) := by decide +kernel
theorem dX12_cut_291 : decode cX12_cut 291 = .ok (.goto (-284), 3) := by decide +kernel
theorem dX12_cut_294 : decode cX12_cut 294 = .ok (.return_, 1) := by decide +kernel
theorem dX12_sign_0 : decode cX12_sign 0 = .ok (.iload_n 2, 1) := by decide +kernel
theorem dX12_sign_1 : decode cX12_sign 1 = .ok (.bipush 59, 2) := by decide +kernel
theorem dX12_sign_3 : decode cX12_sign 3 = .ok (.if_icmp .ne 7, 3) := by decide +kernel
theorem dX12_sign_6 : decode cX12_sign 6 = .ok (.iconst 4, 1) := by decide +kernel
theorem dX12_sign_7 : decode cX12_sign 7 = .ok (.goto 36, 3) := by decide +kernel
theorem dX12_sign_10 : decode cX12_sign 10 = .ok (.iload_n 2, 1) := by decide +kernel
theorem dX12_sign_11 : decode cX12_sign 11 = .ok (.bipush 61, 2) := by decide +kernel
theorem dX12_sign_13 : decode cX12_sign 13 = .ok (.if_icmp .ne 7, 3) := by decide +kernel
theorem dX12_sign_16 : decode cX12_sign 16 = .ok (.iconst 5, 1) := by decide +kernel
theorem dX12_sign_17 : decode cX12_sign 17 = .ok (.goto 26, 3) := by decide +kernel
theorem dX12_sign_20 : decode cX12_sign 20 = .ok (.iload_n 2, 1) := by decide +kernel
theorem dX12_sign_21 : decode cX12_sign 21 = .ok (.bipush 40, 2) := by decide +kernel
theorem dX12_sign_23 : decode cX12_sign 23 = .ok (.if_icmp .ne 8, 3) := by decide +kernel
theorem dX12_sign_26 : decode cX12_sign 26 = .ok (.bipush 6, 2) := by decide +kernel
theorem dX12_sign_28 : decode cX12_sign 28 = .ok (.goto 15, 3) := by decide +kernel
theorem dX12_sign_31 : decode cX12_sign 31 = .ok (.iload_n 2, 1) := by decide +kernel
theorem dX12_sign_32 : decode cX12_sign 32 = .ok (.bipush 41, 2) := by decide +kernel
theorem dX12_sign_34 : decode cX12_sign 34 = .ok (.if_icmp .ne 8, 3) := by decide +kernel
theorem dX12_sign_37 : decode cX12_sign 37 = .ok (.bipush 7, 2) := by decide +kernel
theorem dX12_sign_39 : decode cX12_sign 39 = .ok (.goto 4, 3) := by decide +kernel
theorem dX12_sign_42 : decode cX12_sign 42 = .ok (.iconst 3, 1) := by decide +kernel
theorem dX12_sign_43 : decode cX12_sign 43 = .ok (.istore 4, 2) := by decide +kernel
theorem dX12_sign_45 : decode cX12_sign 45 = .ok (.iload_n 2, 1) := by decide +kernel
theorem dX12_sign_46 : decode cX12_sign 46 = .ok (.bipush 43, 2) := by decide +kernel
theorem dX12_sign_48 : decode cX12_sign 48 = .ok (.if_icmp .ne 7, 3) := by decide +kernel
theorem dX12_sign_51 : decode cX12_sign 51 = .ok (.bipush 8, 2) := by decide +kernel
theorem dX12_sign_53 : decode cX12_sign 53 = .ok (.istore 4, 2) := by decide +kernel
theorem dX12_sign_55 : decode cX12_sign 55 = .ok (.iload_n 2, 1) := by decide +kernel
theorem dX12_sign_56 : decode cX12_sign 56 = .ok (.bipush 45, 2) := by decide +kernel
theorem dX12_sign_58 : decode cX12_sign 58 = .ok (.if_icmp .ne 7, 3) := by decide +kernel
theorem dX12_sign_61 : decode cX12_sign 61 = .ok (.bipush 9, 2) := by decide +kernel
theorem dX12_sign_63 : decode cX12_sign 63 = .ok (.istore 4, 2) := by decide +kernel
theorem dX12_sign_65 : decode cX12_sign 65 = .ok (.iload_n 2, 1) := by decide +kernel
theorem dX12_sign_66 : decode cX12_sign 66 = .ok (.bipush 42, 2) := by decide +kernel
theorem dX12_sign_68 : decode cX12_sign 68 = .ok (.if_icmp .ne 7, 3) := by decide +kernel
theorem dX12_sign_71 : decode cX12_sign 71 = .ok (.bipush 10, 2) := by decide +kernel
theorem dX12_sign_73 : decode cX12_sign 73 = .ok (.istore 4, 2) := by decide +kernel
theorem dX12_sign_75 : decode cX12_sign 75 = .ok (.iload_n 2, 1) := by decide +kernel
theorem dX12_sign_76 : decode cX12_sign 76 = .ok (.bipush 47, 2) := by decide +kernel
theorem dX12_sign_78 : decode cX12_sign 78 = .ok (.if_icmp .ne 7, 3) := by decide +kernel
theorem dX12_sign_81 : decode cX12_sign 81 = .ok (.bipush 15, 2) := by decide +kernel
theorem dX12_sign_83 : decode cX12_sign 83 = .ok (.istore 4, 2) := by decide +kernel
theorem dX12_sign_85 : decode cX12_sign 85 = .ok (.iload_n 2, 1) := by decide +kernel
theorem dX12_sign_86 : decode cX12_sign 86 = .ok (.bipush 60, 2) := by decide +kernel
theorem dX12_sign_88 : decode cX12_sign 88 = .ok (.if_icmp .ne 7, 3) := by decide +kernel
theorem dX12_sign_91 : decode cX12_sign 91 = .ok (.bipush 13, 2) := by decide +kernel
theorem dX12_sign_93 : decode cX12_sign 93 = .ok (.istore 4, 2) := by decide +kernel
theorem dX12_sign_95 : decode cX12_sign 95 = .ok (.aload_n 0, 1) := by decide +kernel
theorem dX12_sign_96 : decode cX12_sign 96 = .ok (.iload 4, 2) := by decide +kernel
theorem dX12_sign_98 : decode cX12_sign 98 = .ok (.iload_n 1, 1) := by decide +kernel
theorem dX12_sign_99 : decode cX12_sign 99 = .ok (.iconst 0, 1) := by decide +kernel
theorem dX12_sign_100 : decode cX12_sign 100 = .ok (.lconst 0, 1) := by decide +kernel
theorem dX12_sign_101 : decode cX12_sign 101 = .ok (.invokevirtual 219, 3) := by decide +kernel
theorem dX12_sign_104 : decode cX12_sign 104 = .ok (.iconst 1, 1) := by decide +kernel
theorem dX12_sign_105 : decode cX12_sign 105 = .ok (.ireturn, 1) := by decide +kernel
theorem dX12_is_0 : decode cX12_is 0 = .ok (.aload_n 0, 1) := by decide +kernel
theorem dX12_is_1 : decode cX12_is 1 = .ok (.getfield 234, 3) := by decide +kernel
theorem dX12_is_4 : decode cX12_is 4 = .ok (.ifCond .ne 20, 3) := by decide +kernel
theorem dX12_is_7 : decode cX12_is 7 = .ok (.aload_n 0, 1) := by decide +kernel
theorem dX12_is_8 : decode cX12_is 8 = .ok (.getfield 20, 3) := by decide +kernel
theorem dX12_is_11 : decode cX12_is 11 = .ok (.aload_n 0, 1) := by decide +kernel
theorem dX12_is_12 : decode cX12_is 12 = .ok (.getfield 237, 3) := by decide +kernel
theorem dX12_is_15 : decode cX12_is 15 = .ok (.iaload, 1) := by decide +kernel
theorem dX12_is_16 : decode cX12_is 16 = .ok (.iload_n 1, 1) := by decide +kernel
theorem dX12_is_17 : decode cX12_is 17 = .ok (.if_icmp .ne 7, 3) := by decide +kernel
theorem dX12_is_20 : decode cX12_is 20 = .ok (.iconst 1, 1) := by decide +kernel
theorem dX12_is_21 : decode cX12_is 21 = .ok (.goto 4, 3) := by decide +kernel
theorem dX12_is_24 : decode cX12_is 24 = .ok (.iconst 0, 1) := by decide +kernel
theorem dX12_is_25 : decode cX12_is 25 = .ok (.ireturn, 1) := by decide +kernel
theorem dX12_fail_0 : decode cX12_fail 0 = .ok (.aload_n 0, 1) := by decide +kernel
theorem dX12_fail_1 : decode cX12_fail 1 = .ok (.getfield 234, 3) := by decide +kernel
theorem dX12_fail_4 : decode cX12_fail 4 = .ok (.ifCond .le 4, 3) := by decide +kernel
theorem dX12_fail_7 : decode cX12_fail 7 = .ok (.return_, 1) := by decide +kernel
theorem dX12_fail_8 : decode cX12_fail 8 = .ok (.aload_n 0, 1) := by decide +kernel
theorem dX12_fail_9 : decode cX12_fail 9 = .ok (.iload_n 1, 1) := by decide +kernel
theorem dX12_fail_10 : decode cX12_fail 10 = .ok (.putfield 234, 3) := by decide +kernel
theorem dX12_fail_13 : decode cX12_fail 13 = .ok (.aload_n 0, 1) := by decide +kernel
theorem dX12_fail_14 : decode cX12_fail 14 = .ok (.aload_n 0, 1) := by decide +kernel
theorem dX12_fail_15 : decode cX12_fail 15 = .ok (.getfield 24, 3) := by decide +kernel
theorem dX12_fail_18 : decode cX12_fail 18 = .ok (.aload_n 0, 1) := by decide +kernel
theorem dX12_fail_19 : decode cX12_fail 19 = .ok (.getfield 237, 3) := by decide +kernel
theorem dX12_fail_22 : decode cX12_fail 22 = .ok (.iaload, 1) := by decide +kernel
theorem dX12_fail_23 : decode cX12_fail 23 = .ok (.putfield 240, 3) := by decide +kernel
theorem dX12_fail_26 : decode cX12_fail 26 = .ok (.return_, 1) := by decide +kernel
theorem dX12_wrong_0 : decode cX12_wrong 0 = .ok (.aload_n 0, 1) := by decide +kernel
theorem dX12_wrong_1 : decode cX12_wrong 1 = .ok (.getfield 24, 3) := by decide +kernel
theorem dX12_wrong_4 : decode cX12_wrong 4 = .ok (.iload_n 2, 1) := by decide +kernel
theorem dX12_wrong_5 : decode cX12_wrong 5 = .ok (.iaload, 1) := by decide +kernel
theorem dX12_wrong_6 : decode cX12_wrong 6 = .ok (.istore_n 3, 1) := by decide +kernel
theorem dX12_wrong_7 : decode cX12_wrong 7 = .ok (.aload_n 0, 1) := by decide +kernel
theorem dX12_wrong_8 : decode cX12_wrong 8 = .ok (.getfield 234, 3) := by decide +kernel
theorem dX12_wrong_11 : decode cX12_wrong 11 = .ok (.ifCond .gt 34, 3) := by decide +kernel
theorem dX12_wrong_14 : decode cX12_wrong 14 = .ok (.aload_n 0, 1) := by decide +kernel
theorem dX12_wrong_15 : decode cX12_wrong 15 = .ok (.getfield 243, 3) := by decide +kernel
theorem dX12_wrong_18 : decode cX12_wrong 18 = .ok (.ifCond .eq 28, 3) := by decide +kernel
theorem dX12_wrong_21 : decode cX12_wrong 21 = .ok (.iload_n 3, 1) := by decide +kernel
theorem dX12_wrong_22 : decode cX12_wrong 22 = .ok (.aload_n 0, 1) := by decide +kernel
theorem dX12_wrong_23 : decode cX12_wrong 23 = .ok (.getfield 246, 3) := by decide +kernel
theorem dX12_wrong_26 : decode cX12_wrong 26 = .ok (.if_icmp .gt 19, 3) := by decide +kernel
theorem dX12_wrong_29 : decode cX12_wrong 29 = .ok (.iload_n 3, 1) := by decide +kernel
theorem dX12_wrong_30 : decode cX12_wrong 30 = .ok (.aload_n 0, 1) := by decide +kernel
theorem dX12_wrong_31 : decode cX12_wrong 31 = .ok (.getfield 246, 3) := by decide +kernel
theorem dX12_wrong_34 : decode cX12_wrong 34 = .ok (.if_icmp .ne 12, 3) := by decide +kernel
theorem dX12_wrong_37 : decode cX12_wrong 37 = .ok (.iload_n 1, 1) := by decide +kernel
theorem dX12_wrong_38 : decode cX12_wrong 38 = .ok (.aload_n 0, 1) := by decide +kernel
theorem dX12_wrong_39 : decode cX12_wrong 39 = .ok (.getfield 243, 3) := by decide +kernel
theorem dX12_wrong_42 : decode cX12_wrong 42 = .ok (.if_icmp .lt 4, 3) := by decide +kernel
theorem dX12_wrong_45 : decode cX12_wrong 45 = .ok (.return_, 1) := by decide +kernel
theorem dX12_wrong_46 : decode cX12_wrong 46 = .ok (.aload_n 0, 1) := by decide +kernel
theorem dX12_wrong_47 : decode cX12_wrong 47 = .ok (.iload_n 1, 1) := by decide +kernel
theorem dX12_wrong_48 : decode cX12_wrong 48 = .ok (.putfield 243, 3) := by decide +kernel
theorem dX12_wrong_51 : decode cX12_wrong 51 = .ok (.aload_n 0, 1) := by decide +kernel
theorem dX12_wrong_52 : decode cX12_wrong 52 = .ok (.iload_n 3, 1) := by decide +kernel
theorem dX12_wrong_53 : decode cX12_wrong 53 = .ok (.putfield 246, 3) := by decide +kernel
theorem dX12_wrong_56 : decode cX12_wrong 56 = .ok (.return_, 1) := by decide +kernel
theorem dX12_goesOn_0 : decode cX12_goesOn 0 = .ok (.aload_n 0, 1) := by decide +kernel
theorem dX12_goesOn_1 : decode cX12_goesOn 1 = .ok (.getfield 237, 3) := by decide +kernel
theorem dX12_goesOn_4 : decode cX12_goesOn 4 = .ok (.sipush 400, 3) := by decide +kernel
theorem dX12_goesOn_7 : decode cX12_goesOn 7 = .ok (.if_icmp .ne 11, 3) := by decide +kernel
theorem dX12_goesOn_10 : decode cX12_goesOn 10 = .ok (.aload_n 0, 1) := by decide +kernel
theorem dX12_goesOn_11 : decode cX12_goesOn 11 = .ok (.iconst 2, 1) := by decide +kernel
theorem dX12_goesOn_12 : decode cX12_goesOn 12 = .ok (.invokevirtual 249, 3) := by decide +kernel
theorem dX12_goesOn_15 : decode cX12_goesOn 15 = .ok (.goto 13, 3) := by decide +kernel
theorem dX12_goesOn_18 : decode cX12_goesOn 18 = .ok (.aload_n 0, 1) := by decide +kernel
theorem dX12_goesOn_19 : decode cX12_goesOn 19 = .ok (.dup, 1) := by decide +kernel
theorem dX12_goesOn_20 : decode cX12_goesOn 20 = .ok (.getfield 237, 3) := by decide +kernel
theorem dX12_goesOn_23 : decode cX12_goesOn 23 = .ok (.iconst 1, 1) := by decide +kernel
theorem dX12_goesOn_24 : decode cX12_goesOn 24 = .ok (.iadd, 1) := by decide +kernel
theorem dX12_goesOn_25 : decode cX12_goesOn 25 = .ok (.putfield 237, 3) := by decide +kernel
theorem dX12_goesOn_28 : decode cX12_goesOn 28 = .ok (.return_, 1) := by decide +kernel
theorem dX12_must_0 : decode cX12_must 0 = .ok (.aload_n 0, 1) := by decide +kernel
theorem dX12_must_1 : decode cX12_must 1 = .ok (.iload_n 1, 1) := by decide +kernel
theorem dX12_must_2 : decode cX12_must 2 = .ok (.invokevirtual 252, 3) := by decide +kernel
theorem dX12_must_5 : decode cX12_must 5 = .ok (.ifCond .eq 10, 3) := by decide +kernel
theorem dX12_must_8 : decode cX12_must 8 = .ok (.aload_n 0, 1) := by decide +kernel
theorem dX12_must_9 : decode cX12_must 9 = .ok (.invokevirtual 255, 3) := by decide +kernel
theorem dX12_must_12 : decode cX12_must 12 = .ok (.goto 8, 3) := by decide +kernel
theorem dX12_must_15 : decode cX12_must 15 = .ok (.aload_n 0, 1) := by decide +kernel
theorem dX12_must_16 : decode cX12_must 16 = .ok (.iconst 1, 1) := by decide +kernel
theorem dX12_must_17 : decode cX12_must 17 = .ok (.invokevirtual 249, 3) := by decide +kernel
theorem dX12_must_20 : decode cX12_must 20 = .ok (.return_, 1) := by decide +kernel
theorem dX12_plain_0 : decode cX12_plain 0 = .ok (.aload_n 0, 1) := by decide +kernel
theorem dX12_plain_1 : decode cX12_plain 1 = .ok (.getfield 40, 3) := by decide +kernel
theorem dX12_plain_4 : decode cX12_plain 4 = .ok (.iload_n 1, 1) := by decide +kernel
theorem dX12_plain_5 : decode cX12_plain 5 = .ok (.iconst 0, 1) := by decide +kernel
theorem dX12_plain_6 : decode cX12_plain 6 = .ok (.iastore, 1) := by decide +kernel
theorem dX12_plain_7 : decode cX12_plain 7 = .ok (.aload_n 0, 1) := by decide +kernel
theorem dX12_plain_8 : decode cX12_plain 8 = .ok (.getfield 49, 3) := by decide +kernel
theorem dX12_plain_11 : decode cX12_plain 11 = .ok (.iload_n 1, 1) := by decide +kernel
theorem dX12_plain_12 : decode cX12_plain 12 = .ok (.iconst 0, 1) := by decide +kernel
theorem dX12_plain_13 : decode cX12_plain 13 = .ok (.iastore, 1) := by decide +kernel
theorem dX12_plain_14 : decode cX12_plain 14 = .ok (.aload_n 0, 1) := by decide +kernel
theorem dX12_plain_15 : decode cX12_plain 15 = .ok (.getfield 61, 3) := by decide +kernel
theorem dX12_plain_18 : decode cX12_plain 18 = .ok (.iload_n 1, 1) := by decide +kernel
theorem dX12_plain_19 : decode cX12_plain 19 = .ok (.iconst 0, 1) := by decide +kernel
theorem dX12_plain_20 : decode cX12_plain 20 = .ok (.iastore, 1) := by decide +kernel
theorem dX12_plain_21 : decode cX12_plain 21 = .ok (.aload_n 0, 1) := by decide +kernel
theorem dX12_plain_22 : decode cX12_plain 22 = .ok (.getfield 64, 3) := by decide +kernel
theorem dX12_plain_25 : decode cX12_plain 25 = .ok (.iload_n 1, 1) := by decide +kernel
theorem dX12_plain_26 : decode cX12_plain 26 = .ok (.iconst 0, 1) := by decide +kernel
theorem dX12_plain_27 : decode cX12_plain 27 = .ok (.iastore, 1) := by decide +kernel
theorem dX12_plain_28 : decode cX12_plain 28 = .ok (.aload_n 0, 1) := by decide +kernel
theorem dX12_plain_29 : decode cX12_plain 29 = .ok (.getfield 70, 3) := by decide +kernel
theorem dX12_plain_32 : decode cX12_plain 32 = .ok (.iload_n 1, 1) := by decide +kernel
theorem dX12_plain_33 : decode cX12_plain 33 = .ok (.iconst 0, 1) := by decide +kernel
theorem dX12_plain_34 : decode cX12_plain 34 = .ok (.iastore, 1) := by decide +kernel
theorem dX12_plain_35 : decode cX12_plain 35 = .ok (.aload_n 0, 1) := by decide +kernel
theorem dX12_plain_36 : decode cX12_plain 36 = .ok (.getfield 73, 3) := by decide +kernel
theorem dX12_plain_39 : decode cX12_plain 39 = .ok (.iload_n 1, 1) := by decide +kernel
theorem dX12_plain_40 : decode cX12_plain 40 = .ok (.bipush 18, 2) := by decide +kernel
theorem dX12_plain_42 : decode cX12_plain 42 = .ok (.iastore, 1) := by decide +kernel
theorem dX12_plain_43 : decode cX12_plain 43 = .ok (.aload_n 0, 1) := by decide +kernel
theorem dX12_plain_44 : decode cX12_plain 44 = .ok (.getfield 76, 3) := by decide +kernel
theorem dX12_plain_47 : decode cX12_plain 47 = .ok (.iload_n 1, 1) := by decide +kernel
theorem dX12_plain_48 : decode cX12_plain 48 = .ok (.iconst 1, 1) := by decide +kernel
theorem dX12_plain_49 : decode cX12_plain 49 = .ok (.iastore, 1) := by decide +kernel
theorem dX12_plain_50 : decode cX12_plain 50 = .ok (.aload_n 0, 1) := by decide +kernel
theorem dX12_plain_51 : decode cX12_plain 51 = .ok (.getfield 79, 3) := by decide +kernel
theorem dX12_plain_54 : decode cX12_plain 54 = .ok (.iload_n 1, 1) := by decide +kernel
theorem dX12_plain_55 : decode cX12_plain 55 = .ok (.iconst 0, 1) := by decide +kernel
theorem dX12_plain_56 : decode cX12_plain 56 = .ok (.iastore, 1) := by decide +kernel
theorem dX12_plain_57 : decode cX12_plain 57 = .ok (.aload_n 0, 1) := by decide +kernel
theorem dX12_plain_58 : decode cX12_plain 58 = .ok (.getfield 88, 3) := by decide +kernel
theorem dX12_plain_61 : decode cX12_plain 61 = .ok (.iload_n 1, 1) := by decide +kernel
theorem dX12_plain_62 : decode cX12_plain 62 = .ok (.iconst 0, 1) := by decide +kernel
theorem dX12_plain_63 : decode cX12_plain 63 = .ok (.iastore, 1) := by decide +kernel
theorem dX12_plain_64 : decode cX12_plain 64 = .ok (.aload_n 0, 1) := by decide +kernel
theorem dX12_plain_65 : decode cX12_plain 65 = .ok (.getfield 91, 3) := by decide +kernel
theorem dX12_plain_68 : decode cX12_plain 68 = .ok (.iload_n 1, 1) := by decide +kernel
theorem dX12_plain_69 : decode cX12_plain 69 = .ok (.iconst 0, 1) := by decide +kernel
theorem dX12_plain_70 : decode cX12_plain 70 = .ok (.iastore, 1) := by decide +kernel
theorem dX12_plain_71 : decode cX12_plain 71 = .ok (.aload_n 0, 1) := by decide +kernel
theorem dX12_plain_72 : decode cX12_plain 72 = .ok (.getfield 94, 3) := by decide +kernel
theorem dX12_plain_75 : decode cX12_plain 75 = .ok (.iload_n 1, 1) := by decide +kernel
theorem dX12_plain_76 : decode cX12_plain 76 = .ok (.iconst 0, 1) := by decide +kernel
theorem dX12_plain_77 : decode cX12_plain 77 = .ok (.iastore, 1) := by decide +kernel
theorem dX12_plain_78 : decode cX12_plain 78 = .ok (.iconst 0, 1) := by decide +kernel
theorem dX12_plain_79 : decode cX12_plain 79 = .ok (.istore_n 2, 1) := by decide +kernel
theorem dX12_plain_80 : decode cX12_plain 80 = .ok (.iload_n 2, 1) := by decide +kernel
theorem dX12_plain_81 : decode cX12_plain 81 = .ok (.bipush 64, 2) := by decide +kernel
theorem dX12_plain_83 : decode cX12_plain 83 = .ok (.if_icmp .ge 37, 3) := by decide +kernel
theorem dX12_plain_86 : decode cX12_plain 86 = .ok (.aload_n 0, 1) := by decide +kernel
theorem dX12_plain_87 : decode cX12_plain 87 = .ok (.getfield 67, 3) := by decide +kernel
theorem dX12_plain_90 : decode cX12_plain 90 = .ok (.bipush 64, 2) := by decide +kernel
theorem dX12_plain_92 : decode cX12_plain 92 = .ok (.iload_n 1, 1) := by decide +kernel
theorem dX12_plain_93 : decode cX12_plain 93 = .ok (.imul, 1) := by decide +kernel
theorem dX12_plain_94 : decode cX12_plain 94 = .ok (.iload_n 2, 1) := by decide +kernel
theorem dX12_plain_95 : decode cX12_plain 95 = .ok (.iadd, 1) := by decide +kernel
theorem dX12_plain_96 : decode cX12_plain 96 = .ok (.iload_n 2, 1) := by decide +kernel
theorem dX12_plain_97 : decode cX12_plain 97 = .ok (.bipush 8, 2) := by decide +kernel
theorem dX12_plain_99 : decode cX12_plain 99 = .ok (.idiv, 1) := by decide +kernel
theorem dX12_plain_100 : decode cX12_plain 100 = .ok (.iload_n 2, 1) := by decide +kernel
theorem dX12_plain_101 : decode cX12_plain 101 = .ok (.bipush 8, 2) := by decide +kernel
theorem dX12_plain_103 : decode cX12_plain 103 = .ok (.irem, 1) := by decide +kernel
theorem dX12_plain_104 : decode cX12_plain 104 = .ok (.if_icmp .ne 7, 3) := by decide +kernel
theorem dX12_plain_107 : decode cX12_plain 107 = .ok (.iconst 0, 1) := by decide +kernel
theorem dX12_plain_108 : decode cX12_plain 108 = .ok (.goto 5, 3) := by decide +kernel
theorem dX12_plain_111 : decode cX12_plain 111 = .ok (.bipush 100, 2) := by decide +kernel
theorem dX12_plain_113 : decode cX12_plain 113 = .ok (.iastore, 1) := by decide +kernel
theorem dX12_plain_114 : decode cX12_plain 114 = .ok (.iinc 2 1, 3) := by decide +kernel
theorem dX12_plain_117 : decode cX12_plain 117 = .ok (.goto (-37), 3) := by decide +kernel
theorem dX12_plain_120 : decode cX12_plain 120 = .ok (.return_, 1) := by decide +kernel
theorem dX12_read_0 : decode cX12_read 0 = .ok (.aload_n 0, 1) := by decide +kernel
theorem dX12_read_1 : decode cX12_read 1 = .ok (.aload_n 0, 1) := by decide +kernel
theorem dX12_read_2 : decode cX12_read 2 = .ok (.getfield 197, 3) := by decide +kernel
theorem dX12_read_5 : decode cX12_read 5 = .ok (.putfield 203, 3) := by decide +kernel
theorem dX12_read_8 : decode cX12_read 8 = .ok (.iconst 0, 1) := by decide +kernel
theorem dX12_read_9 : decode cX12_read 9 = .ok (.istore_n 1, 1) := by decide +kernel
theorem dX12_read_10 : decode cX12_read 10 = .ok (.iload_n 1, 1) := by decide +kernel
theorem dX12_read_11 : decode cX12_read 11 = .ok (.aload_n 0, 1) := by decide +kernel
theorem dX12_read_12 : decode cX12_read 12 = .ok (.getfield 203, 3) := by decide +kernel
theorem dX12_read_15 : decode cX12_read 15 = .ok (.if_icmp .ge 21, 3) := by decide +kernel
theorem dX12_read_18 : decode cX12_read 18 = .ok (.aload_n 0, 1) := by decide +kernel
theorem dX12_read_19 : decode cX12_read 19 = .ok (.getfield 17, 3) := by decide +kernel
theorem dX12_read_22 : decode cX12_read 22 = .ok (.iload_n 1, 1) := by decide +kernel
theorem dX12_read_23 : decode cX12_read 23 = .ok (.aload_n 0, 1) := by decide +kernel
theorem dX12_read_24 : decode cX12_read 24 = .ok (.getfield 13, 3) := by decide +kernel
theorem dX12_read_27 : decode cX12_read 27 = .ok (.iload_n 1, 1) := by decide +kernel
theorem dX12_read_28 : decode cX12_read 28 = .ok (.baload, 1) := by decide +kernel
theorem dX12_read_29 : decode cX12_read 29 = .ok (.bastore, 1) := by decide +kernel
theorem dX12_read_30 : decode cX12_read 30 = .ok (.iinc 1 1, 3) := by decide +kernel
theorem dX12_read_33 : decode cX12_read 33 = .ok (.goto (-23), 3) := by decide +kernel
theorem dX12_read_36 : decode cX12_read 36 = .ok (.aload_n 0, 1) := by decide +kernel
theorem dX12_read_37 : decode cX12_read 37 = .ok (.iconst 0, 1) := by decide +kernel
theorem dX12_read_38 : decode cX12_read 38 = .ok (.putfield 197, 3) := by decide +kernel
theorem dX12_read_41 : decode cX12_read 41 = .ok (.aload_n 0, 1) := by decide +kernel
theorem dX12_read_42 : decode cX12_read 42 = .ok (.invokevirtual 258, 3) := by decide +kernel
theorem dX12_read_45 : decode cX12_read 45 = .ok (.aload_n 0, 1) := by decide +kernel
theorem dX12_read_46 : decode cX12_read 46 = .ok (.iconst 0, 1) := by decide +kernel
theorem dX12_read_47 : decode cX12_read 47 = .ok (.putfield 237, 3) := by decide +kernel
theorem dX12_read_50 : decode cX12_read 50 = .ok (.aload_n 0, 1) := by decide +kernel
theorem dX12_read_51 : decode cX12_read 51 = .ok (.iconst 0, 1) := by decide +kernel
theorem dX12_read_52 : decode cX12_read 52 = .ok (.putfield 261, 3) := by decide +kernel
theorem dX12_read_55 : decode cX12_read 55 = .ok (.aload_n 0, 1) := by decide +kernel
theorem dX12_read_56 : decode cX12_read 56 = .ok (.iconst 0, 1) := by decide +kernel
theorem dX12_read_57 : decode cX12_read 57 = .ok (.putfield 234, 3) := by decide +kernel
theorem dX12_read_60 : decode cX12_read 60 = .ok (.aload_n 0, 1) := by decide +kernel
theorem dX12_read_61 : decode cX12_read 61 = .ok (.iconst 0, 1) := by decide +kernel
theorem dX12_read_62 : decode cX12_read 62 = .ok (.putfield 243, 3) := by decide +kernel
theorem dX12_read_65 : decode cX12_read 65 = .ok (.aload_n 0, 1) := by decide +kernel
theorem dX12_read_66 : decode cX12_read 66 = .ok (.iconst 1, 1) := by decide +kernel
theorem dX12_read_67 : decode cX12_read 67 = .ok (.aload_n 0, 1) := by decide +kernel
theorem dX12_read_68 : decode cX12_read 68 = .ok (.getfield 264, 3) := by decide +kernel
theorem dX12_read_71 : decode cX12_read 71 = .ok (.isub, 1) := by decide +kernel
theorem dX12_read_72 : decode cX12_read 72 = .ok (.putfield 267, 3) := by decide +kernel
theorem dX12_read_75 : decode cX12_read 75 = .ok (.aload_n 0, 1) := by decide +kernel
theorem dX12_read_76 : decode cX12_read 76 = .ok (.aload_n 0, 1) := by decide +kernel
theorem dX12_read_77 : decode cX12_read 77 = .ok (.getfield 267, 3) := by decide +kernel
theorem dX12_read_80 : decode cX12_read 80 = .ok (.invokevirtual 189, 3) := by decide +kernel
theorem dX12_read_83 : decode cX12_read 83 = .ok (.aload_n 0, 1) := by decide +kernel
theorem dX12_read_84 : decode cX12_read 84 = .ok (.sipush 130, 3) := by decide +kernel
theorem dX12_read_87 : decode cX12_read 87 = .ok (.aload_n 0, 1) := by decide +kernel
theorem dX12_read_88 : decode cX12_read 88 = .ok (.getfield 267, 3) := by decide +kernel
theorem dX12_read_91 : decode cX12_read 91 = .ok (.imul, 1) := by decide +kernel
theorem dX12_read_92 : decode cX12_read 92 = .ok (.putfield 270, 3) := by decide +kernel
theorem dX12_read_95 : decode cX12_read 95 = .ok (.aload_n 0, 1) := by decide +kernel
theorem dX12_read_96 : decode cX12_read 96 = .ok (.sipush 420, 3) := by decide +kernel
theorem dX12_read_99 : decode cX12_read 99 = .ok (.aload_n 0, 1) := by decide +kernel
theorem dX12_read_100 : decode cX12_read 100 = .ok (.getfield 267, 3) := by decide +kernel
theorem dX12_read_103 : decode cX12_read 103 = .ok (.imul, 1) := by decide +kernel
theorem dX12_read_104 : decode cX12_read 104 = .ok (.putfield 273, 3) := by decide +kernel
theorem dX12_read_107 : decode cX12_read 107 = .ok (.aload_n 0, 1) := by decide +kernel
theorem dX12_read_108 : decode cX12_read 108 = .ok (.getfield 234, 3) := by decide +kernel
theorem dX12_read_111 : decode cX12_read 111 = .ok (.ifCond .ne 18, 3) := by decide +kernel
theorem dX12_read_114 : decode cX12_read 114 = .ok (.aload_n 0, 1) := by decide +kernel
theorem dX12_read_115 : decode cX12_read 115 = .ok (.iconst 0, 1) := by decide +kernel
theorem dX12_read_116 : decode cX12_read 116 = .ok (.invokevirtual 252, 3) := by decide +kernel
theorem dX12_read_119 : decode cX12_read 119 = .ok (.ifCond .ne 10, 3) := by decide +kernel
theorem dX12_read_122 : decode cX12_read 122 = .ok (.aload_n 0, 1) := by decide +kernel
theorem dX12_read_123 : decode cX12_read 123 = .ok (.invokevirtual 276, 3) := by decide +kernel
theorem dX12_read_126 : decode cX12_read 126 = .ok (.goto (-19), 3) := by decide +kernel
theorem dX12_read_129 : decode cX12_read 129 = .ok (.aload_n 0, 1) := by decide +kernel
theorem dX12_read_130 : decode cX12_read 130 = .ok (.aload_n 0, 1) := by decide +kernel
theorem dX12_read_131 : decode cX12_read 131 = .ok (.getfield 234, 3) := by decide +kernel
theorem dX12_read_134 : decode cX12_read 134 = .ok (.ifCond .le 10, 3) := by decide +kernel
theorem dX12_read_137 : decode cX12_read 137 = .ok (.aload_n 0, 1) := by decide +kernel
theorem dX12_read_138 : decode cX12_read 138 = .ok (.getfield 240, 3) := by decide +kernel
theorem dX12_read_141 : decode cX12_read 141 = .ok (.goto 18, 3) := by decide +kernel
theorem dX12_read_144 : decode cX12_read 144 = .ok (.aload_n 0, 1) := by decide +kernel
theorem dX12_read_145 : decode cX12_read 145 = .ok (.getfield 243, 3) := by decide +kernel
theorem dX12_read_148 : decode cX12_read 148 = .ok (.ifCond .le 10, 3) := by decide +kernel
theorem dX12_read_151 : decode cX12_read 151 = .ok (.aload_n 0, 1) := by decide +kernel
theorem dX12_read_152 : decode cX12_read 152 = .ok (.getfield 246, 3) := by decide +kernel
theorem dX12_read_155 : decode cX12_read 155 = .ok (.goto 4, 3) := by decide +kernel
theorem dX12_read_158 : decode cX12_read 158 = .ok (.iconst (-1), 1) := by decide +kernel
theorem dX12_read_159 : decode cX12_read 159 = .ok (.putfield 37, 3) := by decide +kernel
theorem dX12_read_162 : decode cX12_read 162 = .ok (.aload_n 0, 1) := by decide +kernel
theorem dX12_read_163 : decode cX12_read 163 = .ok (.getfield 234, 3) := by decide +kernel
theorem dX12_read_166 : decode cX12_read 166 = .ok (.ifCond .le 8, 3) := by decide +kernel
theorem dX12_read_169 : decode cX12_read 169 = .ok (.aload_n 0, 1) := by decide +kernel
theorem dX12_read_170 : decode cX12_read 170 = .ok (.getfield 234, 3) := by decide +kernel
theorem dX12_read_173 : decode cX12_read 173 = .ok (.ireturn, 1) := by decide +kernel
theorem dX12_read_174 : decode cX12_read 174 = .ok (.aload_n 0, 1) := by decide +kernel
theorem dX12_read_175 : decode cX12_read 175 = .ok (.getfield 243, 3) := by decide +kernel
theorem dX12_read_178 : decode cX12_read 178 = .ok (.ifCond .le 8, 3) := by decide +kernel
theorem dX12_read_181 : decode cX12_read 181 = .ok (.aload_n 0, 1) := by decide +kernel
theorem dX12_read_182 : decode cX12_read 182 = .ok (.getfield 243, 3) := by decide +kernel
theorem dX12_read_185 : decode cX12_read 185 = .ok (.ireturn, 1) := by decide +kernel
theorem dX12_read_186 : decode cX12_read 186 = .ok (.aload_n 0, 1) := by decide +kernel
theorem dX12_read_187 : decode cX12_read 187 = .ok (.aload_n 0, 1) := by decide +kernel
theorem dX12_read_188 : decode cX12_read 188 = .ok (.getfield 267, 3) := by decide +kernel
theorem dX12_read_191 : decode cX12_read 191 = .ok (.putfield 264, 3) := by decide +kernel
theorem dX12_read_194 : decode cX12_read 194 = .ok (.iconst 0, 1) := by decide +kernel
theorem dX12_read_195 : decode cX12_read 195 = .ok (.istore_n 1, 1) := by decide +kernel
theorem dX12_read_196 : decode cX12_read 196 = .ok (.iload_n 1, 1) := by decide +kernel
theorem dX12_read_197 : decode cX12_read 197 = .ok (.bipush 30, 2) := by decide +kernel
theorem dX12_read_199 : decode cX12_read 199 = .ok (.if_icmp .ge 16, 3) := by decide +kernel
theorem dX12_read_202 : decode cX12_read 202 = .ok (.aload_n 0, 1) := by decide +kernel
theorem dX12_read_203 : decode cX12_read 203 = .ok (.getfield 128, 3) := by decide +kernel
theorem dX12_read_206 : decode cX12_read 206 = .ok (.iload_n 1, 1) := by decide +kernel
theorem dX12_read_207 : decode cX12_read 207 = .ok (.iconst 0, 1) := by decide +kernel
theorem dX12_read_208 : decode cX12_read 208 = .ok (.iastore, 1) := by decide +kernel
theorem dX12_read_209 : decode cX12_read 209 = .ok (.iinc 1 1, 3) := by decide +kernel
theorem dX12_read_212 : decode cX12_read 212 = .ok (.goto (-16), 3) := by decide +kernel
theorem dX12_read_215 : decode cX12_read 215 = .ok (.iconst 0, 1) := by decide +kernel
theorem dX12_read_216 : decode cX12_read 216 = .ok (.istore_n 1, 1) := by decide +kernel
theorem dX12_read_217 : decode cX12_read 217 = .ok (.iload_n 1, 1) := by decide +kernel
theorem dX12_read_218 : decode cX12_read 218 = .ok (.aload_n 0, 1) := by decide +kernel
theorem dX12_read_219 : decode cX12_read 219 = .ok (.getfield 49, 3) := by decide +kernel
theorem dX12_read_222 : decode cX12_read 222 = .ok (.aload_n 0, 1) := by decide +kernel
theorem dX12_read_223 : decode cX12_read 223 = .ok (.getfield 264, 3) := by decide +kernel
theorem dX12_read_226 : decode cX12_read 226 = .ok (.iaload, 1) := by decide +kernel
theorem dX12_read_227 : decode cX12_read 227 = .ok (.if_icmp .ge 29, 3) := by decide +kernel
theorem dX12_read_230 : decode cX12_read 230 = .ok (.aload_n 0, 1) := by decide +kernel
theorem dX12_read_231 : decode cX12_read 231 = .ok (.getfield 128, 3) := by decide +kernel
theorem dX12_read_234 : decode cX12_read 234 = .ok (.iload_n 1, 1) := by decide +kernel
theorem dX12_read_235 : decode cX12_read 235 = .ok (.aload_n 0, 1) := by decide +kernel
theorem dX12_read_236 : decode cX12_read 236 = .ok (.getfield 55, 3) := by decide +kernel
theorem dX12_read_239 : decode cX12_read 239 = .ok (.bipush 8, 2) := by decide +kernel
theorem dX12_read_241 : decode cX12_read 241 = .ok (.aload_n 0, 1) := by decide +kernel
theorem dX12_read_242 : decode cX12_read 242 = .ok (.getfield 264, 3) := by decide +kernel
theorem dX12_read_245 : decode cX12_read 245 = .ok (.imul, 1) := by decide +kernel
theorem dX12_read_246 : decode cX12_read 246 = .ok (.iload_n 1, 1) := by decide +kernel
theorem dX12_read_247 : decode cX12_read 247 = .ok (.iadd, 1) := by decide +kernel
theorem dX12_read_248 : decode cX12_read 248 = .ok (.iaload, 1) := by decide +kernel
theorem dX12_read_249 : decode cX12_read 249 = .ok (.iastore, 1) := by decide +kernel
theorem dX12_read_250 : decode cX12_read 250 = .ok (.iinc 1 1, 3) := by decide +kernel
theorem dX12_read_253 : decode cX12_read 253 = .ok (.goto (-36), 3) := by decide +kernel
theorem dX12_read_256 : decode cX12_read 256 = .ok (.aload_n 0, 1) := by decide +kernel
theorem dX12_read_257 : decode cX12_read 257 = .ok (.iconst 0, 1) := by decide +kernel
theorem dX12_read_258 : decode cX12_read 258 = .ok (.putfield 279, 3) := by decide +kernel
theorem dX12_read_261 : decode cX12_read 261 = .ok (.aload_n 0, 1) := by decide +kernel
theorem dX12_read_262 : decode cX12_read 262 = .ok (.iconst 0, 1) := by decide +kernel
theorem dX12_read_263 : decode cX12_read 263 = .ok (.putfield 282, 3) := by decide +kernel
theorem dX12_read_266 : decode cX12_read 266 = .ok (.iconst 0, 1) := by decide +kernel
theorem dX12_read_267 : decode cX12_read 267 = .ok (.istore_n 1, 1) := by decide +kernel
theorem dX12_read_268 : decode cX12_read 268 = .ok (.iload_n 1, 1) := by decide +kernel
theorem dX12_read_269 : decode cX12_read 269 = .ok (.iconst 3, 1) := by decide +kernel
theorem dX12_read_270 : decode cX12_read 270 = .ok (.if_icmp .ge 16, 3) := by decide +kernel
theorem dX12_read_273 : decode cX12_read 273 = .ok (.aload_n 0, 1) := by decide +kernel
theorem dX12_read_274 : decode cX12_read 274 = .ok (.getfield 183, 3) := by decide +kernel
theorem dX12_read_277 : decode cX12_read 277 = .ok (.iload_n 1, 1) := by decide +kernel
theorem dX12_read_278 : decode cX12_read 278 = .ok (.iconst 0, 1) := by decide +kernel
theorem dX12_read_279 : decode cX12_read 279 = .ok (.bastore, 1) := by decide +kernel
theorem dX12_read_280 : decode cX12_read 280 = .ok (.iinc 1 1, 3) := by decide +kernel
theorem dX12_read_283 : decode cX12_read 283 = .ok (.goto (-15), 3) := by decide +kernel
theorem dX12_read_286 : decode cX12_read 286 = .ok (.iconst 0, 1) := by decide +kernel
theorem dX12_read_287 : decode cX12_read 287 = .ok (.ireturn, 1) := by decide +kernel
theorem dX12_place_0 : decode cX12_place 0 = .ok (.aload_n 0, 1) := by decide +kernel
theorem dX12_place_1 : decode cX12_place 1 = .ok (.getfield 37, 3) := by decide +kernel
theorem dX12_place_4 : decode cX12_place 4 = .ok (.ireturn, 1) := by decide +kernel
theorem dX12_tell_0 : decode cX12_tell 0 = .ok (.aload_n 0, 1) := by decide +kernel
theorem dX12_tell_1 : decode cX12_tell 1 = .ok (.getfield 20, 3) := by decide +kernel
theorem dX12_tell_4 : decode cX12_tell 4 = .ok (.aload_n 0, 1) := by decide +kernel
theorem dX12_tell_5 : decode cX12_tell 5 = .ok (.getfield 237, 3) := by decide +kernel
theorem dX12_tell_8 : decode cX12_tell 8 = .ok (.iaload, 1) := by decide +kernel
theorem dX12_tell_9 : decode cX12_tell 9 = .ok (.tableswitch 356 20 33 #[71, 105, 139, 172, 200, 228, 356, 356, 356, 356, 300, 356, 311, 340], 71) := by decide +kernel
theorem dX12_tell_80 : decode cX12_tell 80 = .ok (.aload_n 0, 1) := by decide +kernel
theorem dX12_tell_81 : decode cX12_tell 81 = .ok (.getfield 49, 3) := by decide +kernel
theorem dX12_tell_84 : decode cX12_tell 84 = .ok (.aload_n 0, 1) := by decide +kernel
theorem dX12_tell_85 : decode cX12_tell 85 = .ok (.getfield 267, 3) := by decide +kernel
theorem dX12_tell_88 : decode cX12_tell 88 = .ok (.iaload, 1) := by decide +kernel
theorem dX12_tell_89 : decode cX12_tell 89 = .ok (.bipush 8, 2) := by decide +kernel
theorem dX12_tell_91 : decode cX12_tell 91 = .ok (.if_icmp .ne 8, 3) := by decide +kernel
theorem dX12_tell_94 : decode cX12_tell 94 = .ok (.aload_n 0, 1) := by decide +kernel
theorem dX12_tell_95 : decode cX12_tell 95 = .ok (.iconst 2, 1) := by decide +kernel
theorem dX12_tell_96 : decode cX12_tell 96 = .ok (.invokevirtual 249, 3) := by decide +kernel
theorem dX12_tell_99 : decode cX12_tell 99 = .ok (.aload_n 0, 1) := by decide +kernel
theorem dX12_tell_100 : decode cX12_tell 100 = .ok (.getfield 234, 3) := by decide +kernel
theorem dX12_tell_103 : decode cX12_tell 103 = .ok (.ifCond .ne 267, 3) := by decide +kernel
theorem dX12_tell_106 : decode cX12_tell 106 = .ok (.aload_n 0, 1) := by decide +kernel
theorem dX12_tell_107 : decode cX12_tell 107 = .ok (.iconst 1, 1) := by decide +kernel
theorem dX12_tell_108 : decode cX12_tell 108 = .ok (.invokevirtual 285, 3) := by decide +kernel
theorem dX12_tell_111 : decode cX12_tell 111 = .ok (.goto 259, 3) := by decide +kernel
theorem dX12_tell_114 : decode cX12_tell 114 = .ok (.aload_n 0, 1) := by decide +kernel
theorem dX12_tell_115 : decode cX12_tell 115 = .ok (.getfield 49, 3) := by decide +kernel
theorem dX12_tell_118 : decode cX12_tell 118 = .ok (.aload_n 0, 1) := by decide +kernel
theorem dX12_tell_119 : decode cX12_tell 119 = .ok (.getfield 267, 3) := by decide +kernel
theorem dX12_tell_122 : decode cX12_tell 122 = .ok (.iaload, 1) := by decide +kernel
theorem dX12_tell_123 : decode cX12_tell 123 = .ok (.bipush 6, 2) := by decide +kernel
theorem dX12_tell_125 : decode cX12_tell 125 = .ok (.if_icmp .le 8, 3) := by decide +kernel
theorem dX12_tell_128 : decode cX12_tell 128 = .ok (.aload_n 0, 1) := by decide +kernel
theorem dX12_tell_129 : decode cX12_tell 129 = .ok (.iconst 2, 1) := by decide +kernel
theorem dX12_tell_130 : decode cX12_tell 130 = .ok (.invokevirtual 249, 3) := by decide +kernel
theorem dX12_tell_133 : decode cX12_tell 133 = .ok (.aload_n 0, 1) := by decide +kernel
theorem dX12_tell_134 : decode cX12_tell 134 = .ok (.getfield 234, 3) := by decide +kernel
theorem dX12_tell_137 : decode cX12_tell 137 = .ok (.ifCond .ne 233, 3) := by decide +kernel
theorem dX12_tell_140 : decode cX12_tell 140 = .ok (.aload_n 0, 1) := by decide +kernel
theorem dX12_tell_141 : decode cX12_tell 141 = .ok (.iconst 2, 1) := by decide +kernel
theorem dX12_tell_142 : decode cX12_tell 142 = .ok (.invokevirtual 285, 3) := by decide +kernel
theorem dX12_tell_145 : decode cX12_tell 145 = .ok (.goto 225, 3) := by decide +kernel
theorem dX12_tell_148 : decode cX12_tell 148 = .ok (.aload_n 0, 1) := by decide +kernel
theorem dX12_tell_149 : decode cX12_tell 149 = .ok (.getfield 64, 3) := by decide +kernel
theorem dX12_tell_152 : decode cX12_tell 152 = .ok (.aload_n 0, 1) := by decide +kernel
theorem dX12_tell_153 : decode cX12_tell 153 = .ok (.getfield 267, 3) := by decide +kernel
theorem dX12_tell_156 : decode cX12_tell 156 = .ok (.iaload, 1) := by decide +kernel
theorem dX12_tell_157 : decode cX12_tell 157 = .ok (.bipush 15, 2) := by decide +kernel
theorem dX12_tell_159 : decode cX12_tell 159 = .ok (.if_icmp .ne 8, 3) := by decide +kernel
theorem dX12_tell_162 : decode cX12_tell 162 = .ok (.aload_n 0, 1) := by decide +kernel
theorem dX12_tell_163 : decode cX12_tell 163 = .ok (.iconst 2, 1) := by decide +kernel
theorem dX12_tell_164 : decode cX12_tell 164 = .ok (.invokevirtual 249, 3) := by decide +kernel
theorem dX12_tell_167 : decode cX12_tell 167 = .ok (.aload_n 0, 1) := by decide +kernel
theorem dX12_tell_168 : decode cX12_tell 168 = .ok (.getfield 234, 3) := by decide +kernel
theorem dX12_tell_171 : decode cX12_tell 171 = .ok (.ifCond .ne 199, 3) := by decide +kernel
theorem dX12_tell_174 : decode cX12_tell 174 = .ok (.aload_n 0, 1) := by decide +kernel
theorem dX12_tell_175 : decode cX12_tell 175 = .ok (.invokevirtual 288, 3) := by decide +kernel
theorem dX12_tell_178 : decode cX12_tell 178 = .ok (.goto 192, 3) := by decide +kernel
theorem dX12_tell_181 : decode cX12_tell 181 = .ok (.aload_n 0, 1) := by decide +kernel
theorem dX12_tell_182 : decode cX12_tell 182 = .ok (.invokevirtual 255, 3) := by decide +kernel
theorem dX12_tell_185 : decode cX12_tell 185 = .ok (.aload_n 0, 1) := by decide +kernel
theorem dX12_tell_186 : decode cX12_tell 186 = .ok (.getfield 70, 3) := by decide +kernel
theorem dX12_tell_189 : decode cX12_tell 189 = .ok (.aload_n 0, 1) := by decide +kernel
theorem dX12_tell_190 : decode cX12_tell 190 = .ok (.getfield 267, 3) := by decide +kernel
theorem dX12_tell_193 : decode cX12_tell 193 = .ok (.aload_n 0, 1) := by decide +kernel
theorem dX12_tell_194 : decode cX12_tell 194 = .ok (.iconst 0, 1) := by decide +kernel
theorem dX12_tell_195 : decode cX12_tell 195 = .ok (.bipush 99, 2) := by decide +kernel
theorem dX12_tell_197 : decode cX12_tell 197 = .ok (.invokevirtual 291, 3) := by decide +kernel
theorem dX12_tell_200 : decode cX12_tell 200 = .ok (.iastore, 1) := by decide +kernel
theorem dX12_tell_201 : decode cX12_tell 201 = .ok (.aload_n 0, 1) := by decide +kernel
theorem dX12_tell_202 : decode cX12_tell 202 = .ok (.iconst 4, 1) := by decide +kernel
theorem dX12_tell_203 : decode cX12_tell 203 = .ok (.invokevirtual 295, 3) := by decide +kernel
theorem dX12_tell_206 : decode cX12_tell 206 = .ok (.goto 164, 3) := by decide +kernel
theorem dX12_tell_209 : decode cX12_tell 209 = .ok (.aload_n 0, 1) := by decide +kernel
theorem dX12_tell_210 : decode cX12_tell 210 = .ok (.invokevirtual 255, 3) := by decide +kernel
theorem dX12_tell_213 : decode cX12_tell 213 = .ok (.aload_n 0, 1) := by decide +kernel
theorem dX12_tell_214 : decode cX12_tell 214 = .ok (.getfield 73, 3) := by decide +kernel
theorem dX12_tell_217 : decode cX12_tell 217 = .ok (.aload_n 0, 1) := by decide +kernel
theorem dX12_tell_218 : decode cX12_tell 218 = .ok (.getfield 267, 3) := by decide +kernel
theorem dX12_tell_221 : decode cX12_tell 221 = .ok (.aload_n 0, 1) := by decide +kernel
theorem dX12_tell_222 : decode cX12_tell 222 = .ok (.iconst 1, 1) := by decide +kernel
theorem dX12_tell_223 : decode cX12_tell 223 = .ok (.bipush 18, 2) := by decide +kernel
theorem dX12_tell_225 : decode cX12_tell 225 = .ok (.invokevirtual 291, 3) := by decide +kernel
theorem dX12_tell_228 : decode cX12_tell 228 = .ok (.iastore, 1) := by decide +kernel
theorem dX12_tell_229 : decode cX12_tell 229 = .ok (.aload_n 0, 1) := by decide +kernel
theorem dX12_tell_230 : decode cX12_tell 230 = .ok (.iconst 4, 1) := by decide +kernel
theorem dX12_tell_231 : decode cX12_tell 231 = .ok (.invokevirtual 295, 3) := by decide +kernel
theorem dX12_tell_234 : decode cX12_tell 234 = .ok (.goto 136, 3) := by decide +kernel
theorem dX12_tell_237 : decode cX12_tell 237 = .ok (.aload_n 0, 1) := by decide +kernel
theorem dX12_tell_238 : decode cX12_tell 238 = .ok (.invokevirtual 255, 3) := by decide +kernel
theorem dX12_tell_241 : decode cX12_tell 241 = .ok (.aload_n 0, 1) := by decide +kernel
theorem dX12_tell_242 : decode cX12_tell 242 = .ok (.getfield 234, 3) := by decide +kernel
theorem dX12_tell_245 : decode cX12_tell 245 = .ok (.ifCond .le 7, 3) := by decide +kernel
theorem dX12_tell_248 : decode cX12_tell 248 = .ok (.iconst (-1), 1) := by decide +kernel
theorem dX12_tell_249 : decode cX12_tell 249 = .ok (.goto 15, 3) := by decide +kernel
theorem dX12_tell_252 : decode cX12_tell 252 = .ok (.aload_n 0, 1) := by decide +kernel
theorem dX12_tell_253 : decode cX12_tell 253 = .ok (.getfield 20, 3) := by decide +kernel
theorem dX12_tell_256 : decode cX12_tell 256 = .ok (.aload_n 0, 1) := by decide +kernel
theorem dX12_tell_257 : decode cX12_tell 257 = .ok (.getfield 237, 3) := by decide +kernel
theorem dX12_tell_260 : decode cX12_tell 260 = .ok (.iaload, 1) := by decide +kernel
theorem dX12_tell_261 : decode cX12_tell 261 = .ok (.bipush 26, 2) := by decide +kernel
theorem dX12_tell_263 : decode cX12_tell 263 = .ok (.isub, 1) := by decide +kernel
theorem dX12_tell_264 : decode cX12_tell 264 = .ok (.istore_n 1, 1) := by decide +kernel
theorem dX12_tell_265 : decode cX12_tell 265 = .ok (.iload_n 1, 1) := by decide +kernel
theorem dX12_tell_266 : decode cX12_tell 266 = .ok (.ifCond .lt 8, 3) := by decide +kernel
theorem dX12_tell_269 : decode cX12_tell 269 = .ok (.iload_n 1, 1) := by decide +kernel
theorem dX12_tell_270 : decode cX12_tell 270 = .ok (.iconst 3, 1) := by decide +kernel
theorem dX12_tell_271 : decode cX12_tell 271 = .ok (.if_icmp .le 8, 3) := by decide +kernel
theorem dX12_tell_274 : decode cX12_tell 274 = .ok (.aload_n 0, 1) := by decide +kernel
theorem dX12_tell_275 : decode cX12_tell 275 = .ok (.iconst 1, 1) := by decide +kernel
theorem dX12_tell_276 : decode cX12_tell 276 = .ok (.invokevirtual 249, 3) := by decide +kernel
theorem dX12_tell_279 : decode cX12_tell 279 = .ok (.aload_n 0, 1) := by decide +kernel
theorem dX12_tell_280 : decode cX12_tell 280 = .ok (.getfield 234, 3) := by decide +kernel
theorem dX12_tell_283 : decode cX12_tell 283 = .ok (.ifCond .le 4, 3) := by decide +kernel
theorem dX12_tell_286 : decode cX12_tell 286 = .ok (.return_, 1) := by decide +kernel
theorem dX12_tell_287 : decode cX12_tell 287 = .ok (.aload_n 0, 1) := by decide +kernel
theorem dX12_tell_288 : decode cX12_tell 288 = .ok (.getfield 76, 3) := by decide +kernel
theorem dX12_tell_291 : decode cX12_tell 291 = .ok (.aload_n 0, 1) := by decide +kernel
theorem dX12_tell_292 : decode cX12_tell 292 = .ok (.getfield 267, 3) := by decide +kernel
theorem dX12_tell_295 : decode cX12_tell 295 = .ok (.iload_n 1, 1) := by decide +kernel
theorem dX12_tell_296 : decode cX12_tell 296 = .ok (.iastore, 1) := by decide +kernel
theorem dX12_tell_297 : decode cX12_tell 297 = .ok (.aload_n 0, 1) := by decide +kernel
theorem dX12_tell_298 : decode cX12_tell 298 = .ok (.invokevirtual 255, 3) := by decide +kernel
theorem dX12_tell_301 : decode cX12_tell 301 = .ok (.aload_n 0, 1) := by decide +kernel
theorem dX12_tell_302 : decode cX12_tell 302 = .ok (.iconst 4, 1) := by decide +kernel
theorem dX12_tell_303 : decode cX12_tell 303 = .ok (.invokevirtual 295, 3) := by decide +kernel
theorem dX12_tell_306 : decode cX12_tell 306 = .ok (.goto 64, 3) := by decide +kernel
theorem dX12_tell_309 : decode cX12_tell 309 = .ok (.aload_n 0, 1) := by decide +kernel
theorem dX12_tell_310 : decode cX12_tell 310 = .ok (.invokevirtual 255, 3) := by decide +kernel
theorem dX12_tell_313 : decode cX12_tell 313 = .ok (.aload_n 0, 1) := by decide +kernel
theorem dX12_tell_314 : decode cX12_tell 314 = .ok (.invokevirtual 298, 3) := by decide +kernel
theorem dX12_tell_317 : decode cX12_tell 317 = .ok (.goto 53, 3) := by decide +kernel
theorem dX12_tell_320 : decode cX12_tell 320 = .ok (.aload_n 0, 1) := by decide +kernel
theorem dX12_tell_321 : decode cX12_tell 321 = .ok (.invokevirtual 255, 3) := by decide +kernel
theorem dX12_tell_324 : decode cX12_tell 324 = .ok (.aload_n 0, 1) := by decide +kernel
theorem dX12_tell_325 : decode cX12_tell 325 = .ok (.getfield 88, 3) := by decide +kernel
theorem dX12_tell_328 : decode cX12_tell 328 = .ok (.aload_n 0, 1) := by decide +kernel
theorem dX12_tell_329 : decode cX12_tell 329 = .ok (.getfield 267, 3) := by decide +kernel
theorem dX12_tell_332 : decode cX12_tell 332 = .ok (.aload_n 0, 1) := by decide +kernel
theorem dX12_tell_333 : decode cX12_tell 333 = .ok (.iconst 0, 1) := by decide +kernel
theorem dX12_tell_334 : decode cX12_tell 334 = .ok (.sipush 9999, 3) := by decide +kernel
theorem dX12_tell_337 : decode cX12_tell 337 = .ok (.invokevirtual 291, 3) := by decide +kernel
theorem dX12_tell_340 : decode cX12_tell 340 = .ok (.iastore, 1) := by decide +kernel
theorem dX12_tell_341 : decode cX12_tell 341 = .ok (.aload_n 0, 1) := by decide +kernel
theorem dX12_tell_342 : decode cX12_tell 342 = .ok (.iconst 4, 1) := by decide +kernel
theorem dX12_tell_343 : decode cX12_tell 343 = .ok (.invokevirtual 295, 3) := by decide +kernel
theorem dX12_tell_346 : decode cX12_tell 346 = .ok (.goto 24, 3) := by decide +kernel
theorem dX12_tell_349 : decode cX12_tell 349 = .ok (.aload_n 0, 1) := by decide +kernel
theorem dX12_tell_350 : decode cX12_tell 350 = .ok (.invokevirtual 255, 3) := by decide +kernel
theorem dX12_tell_353 : decode cX12_tell 353 = .ok (.aload_n 0, 1) := by decide +kernel
theorem dX12_tell_354 : decode cX12_tell 354 = .ok (.iconst 5, 1) := by decide +kernel
theorem dX12_tell_355 : decode cX12_tell 355 = .ok (.invokevirtual 295, 3) := by decide +kernel
theorem dX12_tell_358 : decode cX12_tell 358 = .ok (.aload_n 0, 1) := by decide +kernel
theorem dX12_tell_359 : decode cX12_tell 359 = .ok (.invokevirtual 301, 3) := by decide +kernel
theorem dX12_tell_362 : decode cX12_tell 362 = .ok (.goto 8, 3) := by decide +kernel
theorem dX12_tell_365 : decode cX12_tell 365 = .ok (.aload_n 0, 1) := by decide +kernel
theorem dX12_tell_366 : decode cX12_tell 366 = .ok (.iconst 1, 1) := by decide +kernel
theorem dX12_tell_367 : decode cX12_tell 367 = .ok (.invokevirtual 249, 3) := by decide +kernel
theorem dX12_tell_370 : decode cX12_tell 370 = .ok (.return_, 1) := by decide +kernel
theorem dX12_known_0 : decode cX12_known 0 = .ok (.aload_n 0, 1) := by decide +kernel
theorem dX12_known_1 : decode cX12_known 1 = .ok (.getfield 237, 3) := by decide +kernel
theorem dX12_known_4 : decode cX12_known 4 = .ok (.istore_n 1, 1) := by decide +kernel
theorem dX12_known_5 : decode cX12_known 5 = .ok (.aload_n 0, 1) := by decide +kernel
theorem dX12_known_6 : decode cX12_known 6 = .ok (.iconst 1, 1) := by decide +kernel
theorem dX12_known_7 : decode cX12_known 7 = .ok (.invokevirtual 295, 3) := by decide +kernel
theorem dX12_known_10 : decode cX12_known 10 = .ok (.aload_n 0, 1) := by decide +kernel
theorem dX12_known_11 : decode cX12_known 11 = .ok (.getfield 234, 3) := by decide +kernel
theorem dX12_known_14 : decode cX12_known 14 = .ok (.ifCond .le 5, 3) := by decide +kernel
theorem dX12_known_17 : decode cX12_known 17 = .ok (.iconst (-1), 1) := by decide +kernel
theorem dX12_known_18 : decode cX12_known 18 = .ok (.ireturn, 1) := by decide +kernel
theorem dX12_known_19 : decode cX12_known 19 = .ok (.iconst 0, 1) := by decide +kernel
theorem dX12_known_20 : decode cX12_known 20 = .ok (.istore_n 2, 1) := by decide +kernel
theorem dX12_known_21 : decode cX12_known 21 = .ok (.iload_n 2, 1) := by decide +kernel
theorem dX12_known_22 : decode cX12_known 22 = .ok (.aload_n 0, 1) := by decide +kernel
theorem dX12_known_23 : decode cX12_known 23 = .ok (.getfield 40, 3) := by decide +kernel
theorem dX12_known_26 : decode cX12_known 26 = .ok (.aload_n 0, 1) := by decide +kernel
theorem dX12_known_27 : decode cX12_known 27 = .ok (.getfield 267, 3) := by decide +kernel
theorem dX12_known_30 : decode cX12_known 30 = .ok (.iaload, 1) := by decide +kernel
theorem dX12_known_31 : decode cX12_known 31 = .ok (.if_icmp .ge 27, 3) := by decide +kernel
theorem dX12_known_34 : decode cX12_known 34 = .ok (.aload_n 0, 1) := by decide +kernel
theorem dX12_known_35 : decode cX12_known 35 = .ok (.getfield 43, 3) := by decide +kernel
theorem dX12_known_38 : decode cX12_known 38 = .ok (.iload_n 2, 1) := by decide +kernel
theorem dX12_known_39 : decode cX12_known 39 = .ok (.laload, 1) := by decide +kernel
theorem dX12_known_40 : decode cX12_known 40 = .ok (.aload_n 0, 1) := by decide +kernel
theorem dX12_known_41 : decode cX12_known 41 = .ok (.getfield 30, 3) := by decide +kernel
theorem dX12_known_44 : decode cX12_known 44 = .ok (.iload_n 1, 1) := by decide +kernel
theorem dX12_known_45 : decode cX12_known 45 = .ok (.laload, 1) := by decide +kernel
theorem dX12_known_46 : decode cX12_known 46 = .ok (.lcmp, 1) := by decide +kernel
theorem dX12_known_47 : decode cX12_known 47 = .ok (.ifCond .ne 5, 3) := by decide +kernel
theorem dX12_known_50 : decode cX12_known 50 = .ok (.iload_n 2, 1) := by decide +kernel
theorem dX12_known_51 : decode cX12_known 51 = .ok (.ireturn, 1) := by decide +kernel
theorem dX12_known_52 : decode cX12_known 52 = .ok (.iinc 2 1, 3) := by decide +kernel
theorem dX12_known_55 : decode cX12_known 55 = .ok (.goto (-34), 3) := by decide +kernel
theorem dX12_known_58 : decode cX12_known 58 = .ok (.aload_n 0, 1) := by decide +kernel
theorem dX12_known_59 : decode cX12_known 59 = .ok (.iconst 4, 1) := by decide +kernel
theorem dX12_known_60 : decode cX12_known 60 = .ok (.iload_n 1, 1) := by decide +kernel
theorem dX12_known_61 : decode cX12_known 61 = .ok (.invokevirtual 304, 3) := by decide +kernel
theorem dX12_known_64 : decode cX12_known 64 = .ok (.iconst (-1), 1) := by decide +kernel
theorem dX12_known_65 : decode cX12_known 65 = .ok (.ireturn, 1) := by decide +kernel
theorem dX12_bounded_0 : decode cX12_bounded 0 = .ok (.aload_n 0, 1) := by decide +kernel
theorem dX12_bounded_1 : decode cX12_bounded 1 = .ok (.getfield 234, 3) := by decide +kernel
theorem dX12_bounded_4 : decode cX12_bounded 4 = .ok (.ifCond .gt 11, 3) := by decide +kernel
theorem dX12_bounded_7 : decode cX12_bounded 7 = .ok (.aload_n 0, 1) := by decide +kernel
theorem dX12_bounded_8 : decode cX12_bounded 8 = .ok (.iconst 2, 1) := by decide +kernel
theorem dX12_bounded_9 : decode cX12_bounded 9 = .ok (.invokevirtual 252, 3) := by decide +kernel
theorem dX12_bounded_12 : decode cX12_bounded 12 = .ok (.ifCond .ne 10, 3) := by decide +kernel
theorem dX12_bounded_15 : decode cX12_bounded 15 = .ok (.aload_n 0, 1) := by decide +kernel
theorem dX12_bounded_16 : decode cX12_bounded 16 = .ok (.iconst 1, 1) := by decide +kernel
theorem dX12_bounded_17 : decode cX12_bounded 17 = .ok (.invokevirtual 249, 3) := by decide +kernel
theorem dX12_bounded_20 : decode cX12_bounded 20 = .ok (.iload_n 1, 1) := by decide +kernel
theorem dX12_bounded_21 : decode cX12_bounded 21 = .ok (.ireturn, 1) := by decide +kernel
theorem dX12_bounded_22 : decode cX12_bounded 22 = .ok (.aload_n 0, 1) := by decide +kernel
theorem dX12_bounded_23 : decode cX12_bounded 23 = .ok (.getfield 27, 3) := by decide +kernel
theorem dX12_bounded_26 : decode cX12_bounded 26 = .ok (.aload_n 0, 1) := by decide +kernel
theorem dX12_bounded_27 : decode cX12_bounded 27 = .ok (.getfield 237, 3) := by decide +kernel
theorem dX12_bounded_30 : decode cX12_bounded 30 = .ok (.iaload, 1) := by decide +kernel
theorem dX12_bounded_31 : decode cX12_bounded 31 = .ok (.istore_n 3, 1) := by decide +kernel
theorem dX12_bounded_32 : decode cX12_bounded 32 = .ok (.iload_n 3, 1) := by decide +kernel
theorem dX12_bounded_33 : decode cX12_bounded 33 = .ok (.iload_n 1, 1) := by decide +kernel
theorem dX12_bounded_34 : decode cX12_bounded 34 = .ok (.if_icmp .lt 8, 3) := by decide +kernel
theorem dX12_bounded_37 : decode cX12_bounded 37 = .ok (.iload_n 3, 1) := by decide +kernel
theorem dX12_bounded_38 : decode cX12_bounded 38 = .ok (.iload_n 2, 1) := by decide +kernel
theorem dX12_bounded_39 : decode cX12_bounded 39 = .ok (.if_icmp .le 12, 3) := by decide +kernel
theorem dX12_bounded_42 : decode cX12_bounded 42 = .ok (.aload_n 0, 1) := by decide +kernel
theorem dX12_bounded_43 : decode cX12_bounded 43 = .ok (.iconst 5, 1) := by decide +kernel
theorem dX12_bounded_44 : decode cX12_bounded 44 = .ok (.aload_n 0, 1) := by decide +kernel
theorem dX12_bounded_45 : decode cX12_bounded 45 = .ok (.getfield 237, 3) := by decide +kernel
theorem dX12_bounded_48 : decode cX12_bounded 48 = .ok (.invokevirtual 304, 3) := by decide +kernel
theorem dX12_bounded_51 : decode cX12_bounded 51 = .ok (.aload_n 0, 1) := by decide +kernel
theorem dX12_bounded_52 : decode cX12_bounded 52 = .ok (.invokevirtual 255, 3) := by decide +kernel
theorem dX12_bounded_55 : decode cX12_bounded 55 = .ok (.iload_n 3, 1) := by decide +kernel
theorem dX12_bounded_56 : decode cX12_bounded 56 = .ok (.ireturn, 1) := by decide +kernel
theorem dX12_tellThing_0 : decode cX12_tellThing 0 = .ok (.aload_n 0, 1) := by decide +kernel
theorem dX12_tellThing_1 : decode cX12_tellThing 1 = .ok (.invokevirtual 255, 3) := by decide +kernel
theorem dX12_tellThing_4 : decode cX12_tellThing 4 = .ok (.aload_n 0, 1) := by decide +kernel
theorem dX12_tellThing_5 : decode cX12_tellThing 5 = .ok (.getfield 237, 3) := by decide +kernel
theorem dX12_tellThing_8 : decode cX12_tellThing 8 = .ok (.istore_n 2, 1) := by decide +kernel
theorem dX12_tellThing_9 : decode cX12_tellThing 9 = .ok (.aload_n 0, 1) := by decide +kernel
theorem dX12_tellThing_10 : decode cX12_tellThing 10 = .ok (.iconst 1, 1) := by decide +kernel
theorem dX12_tellThing_11 : decode cX12_tellThing 11 = .ok (.invokevirtual 295, 3) := by decide +kernel
theorem dX12_tellThing_14 : decode cX12_tellThing 14 = .ok (.iconst 0, 1) := by decide +kernel
theorem dX12_tellThing_15 : decode cX12_tellThing 15 = .ok (.istore_n 3, 1) := by decide +kernel
theorem dX12_tellThing_16 : decode cX12_tellThing 16 = .ok (.iload_n 3, 1) := by decide +kernel
theorem dX12_tellThing_17 : decode cX12_tellThing 17 = .ok (.aload_n 0, 1) := by decide +kernel
theorem dX12_tellThing_18 : decode cX12_tellThing 18 = .ok (.getfield 40, 3) := by decide +kernel
theorem dX12_tellThing_21 : decode cX12_tellThing 21 = .ok (.aload_n 0, 1) := by decide +kernel
theorem dX12_tellThing_22 : decode cX12_tellThing 22 = .ok (.getfield 267, 3) := by decide +kernel
theorem dX12_tellThing_25 : decode cX12_tellThing 25 = .ok (.iaload, 1) := by decide +kernel
theorem dX12_tellThing_26 : decode cX12_tellThing 26 = .ok (.if_icmp .ge 38, 3) := by decide +kernel
theorem dX12_tellThing_29 : decode cX12_tellThing 29 = .ok (.aload_n 0, 1) := by decide +kernel
theorem dX12_tellThing_30 : decode cX12_tellThing 30 = .ok (.getfield 234, 3) := by decide +kernel
theorem dX12_tellThing_33 : decode cX12_tellThing 33 = .ok (.ifCond .ne 31, 3) := by decide +kernel
theorem dX12_tellThing_36 : decode cX12_tellThing 36 = .ok (.aload_n 0, 1) := by decide +kernel
theorem dX12_tellThing_37 : decode cX12_tellThing 37 = .ok (.getfield 43, 3) := by decide +kernel
theorem dX12_tellThing_40 : decode cX12_tellThing 40 = .ok (.iload_n 3, 1) := by decide +kernel
theorem dX12_tellThing_41 : decode cX12_tellThing 41 = .ok (.laload, 1) := by decide +kernel
theorem dX12_tellThing_42 : decode cX12_tellThing 42 = .ok (.aload_n 0, 1) := by decide +kernel
theorem dX12_tellThing_43 : decode cX12_tellThing 43 = .ok (.getfield 30, 3) := by decide +kernel
theorem dX12_tellThing_46 : decode cX12_tellThing 46 = .ok (.iload_n 2, 1) := by decide +kernel
theorem dX12_tellThing_47 : decode cX12_tellThing 47 = .ok (.laload, 1) := by decide +kernel
theorem dX12_tellThing_48 : decode cX12_tellThing 48 = .ok (.lcmp, 1) := by decide +kernel
theorem dX12_tellThing_49 : decode cX12_tellThing 49 = .ok (.ifCond .ne 9, 3) := by decide +kernel
theorem dX12_tellThing_52 : decode cX12_tellThing 52 = .ok (.aload_n 0, 1) := by decide +kernel
theorem dX12_tellThing_53 : decode cX12_tellThing 53 = .ok (.iconst 3, 1) := by decide +kernel
theorem dX12_tellThing_54 : decode cX12_tellThing 54 = .ok (.iload_n 2, 1) := by decide +kernel
theorem dX12_tellThing_55 : decode cX12_tellThing 55 = .ok (.invokevirtual 304, 3) := by decide +kernel
theorem dX12_tellThing_58 : decode cX12_tellThing 58 = .ok (.iinc 3 1, 3) := by decide +kernel
theorem dX12_tellThing_61 : decode cX12_tellThing 61 = .ok (.goto (-45), 3) := by decide +kernel
theorem dX12_tellThing_64 : decode cX12_tellThing 64 = .ok (.aload_n 0, 1) := by decide +kernel
theorem dX12_tellThing_65 : decode cX12_tellThing 65 = .ok (.getfield 49, 3) := by decide +kernel
theorem dX12_tellThing_68 : decode cX12_tellThing 68 = .ok (.aload_n 0, 1) := by decide +kernel
theorem dX12_tellThing_69 : decode cX12_tellThing 69 = .ok (.getfield 267, 3) := by decide +kernel
theorem dX12_tellThing_72 : decode cX12_tellThing 72 = .ok (.iaload, 1) := by decide +kernel
theorem dX12_tellThing_73 : decode cX12_tellThing 73 = .ok (.istore_n 3, 1) := by decide +kernel
theorem dX12_tellThing_74 : decode cX12_tellThing 74 = .ok (.aload_n 0, 1) := by decide +kernel
theorem dX12_tellThing_75 : decode cX12_tellThing 75 = .ok (.getfield 61, 3) := by decide +kernel
theorem dX12_tellThing_78 : decode cX12_tellThing 78 = .ok (.aload_n 0, 1) := by decide +kernel
theorem dX12_tellThing_79 : decode cX12_tellThing 79 = .ok (.getfield 267, 3) := by decide +kernel
theorem dX12_tellThing_82 : decode cX12_tellThing 82 = .ok (.iaload, 1) := by decide +kernel
theorem dX12_tellThing_83 : decode cX12_tellThing 83 = .ok (.istore 4, 2) := by decide +kernel
theorem dX12_tellThing_85 : decode cX12_tellThing 85 = .ok (.iconst 0, 1) := by decide +kernel
theorem dX12_tellThing_86 : decode cX12_tellThing 86 = .ok (.istore 5, 2) := by decide +kernel
theorem dX12_tellThing_88 : decode cX12_tellThing 88 = .ok (.iload 5, 2) := by decide +kernel
theorem dX12_tellThing_90 : decode cX12_tellThing 90 = .ok (.iload_n 1, 1) := by decide +kernel
theorem dX12_tellThing_91 : decode cX12_tellThing 91 = .ok (.if_icmp .ge 144, 3) := by decide +kernel
theorem dX12_tellThing_94 : decode cX12_tellThing 94 = .ok (.aload_n 0, 1) := by decide +kernel
theorem dX12_tellThing_95 : decode cX12_tellThing 95 = .ok (.getfield 237, 3) := by decide +kernel
theorem dX12_tellThing_98 : decode cX12_tellThing 98 = .ok (.istore 6, 2) := by decide +kernel
theorem dX12_tellThing_100 : decode cX12_tellThing 100 = .ok (.aload_n 0, 1) := by decide +kernel
theorem dX12_tellThing_101 : decode cX12_tellThing 101 = .ok (.iconst 0, 1) := by decide +kernel
theorem dX12_tellThing_102 : decode cX12_tellThing 102 = .ok (.bipush 9, 2) := by decide +kernel
theorem dX12_tellThing_104 : decode cX12_tellThing 104 = .ok (.invokevirtual 291, 3) := by decide +kernel
theorem dX12_tellThing_107 : decode cX12_tellThing 107 = .ok (.istore 7, 2) := by decide +kernel
theorem dX12_tellThing_109 : decode cX12_tellThing 109 = .ok (.iload 4, 2) := by decide +kernel
theorem dX12_tellThing_111 : decode cX12_tellThing 111 = .ok (.iload 7, 2) := by decide +kernel
theorem dX12_tellThing_113 : decode cX12_tellThing 113 = .ok (.iadd, 1) := by decide +kernel
theorem dX12_tellThing_114 : decode cX12_tellThing 114 = .ok (.istore 4, 2) := by decide +kernel
theorem dX12_tellThing_116 : decode cX12_tellThing 116 = .ok (.aload_n 0, 1) := by decide +kernel
theorem dX12_tellThing_117 : decode cX12_tellThing 117 = .ok (.getfield 55, 3) := by decide +kernel
theorem dX12_tellThing_120 : decode cX12_tellThing 120 = .ok (.bipush 8, 2) := by decide +kernel
theorem dX12_tellThing_122 : decode cX12_tellThing 122 = .ok (.aload_n 0, 1) := by decide +kernel
theorem dX12_tellThing_123 : decode cX12_tellThing 123 = .ok (.getfield 267, 3) := by decide +kernel
theorem dX12_tellThing_126 : decode cX12_tellThing 126 = .ok (.imul, 1) := by decide +kernel
theorem dX12_tellThing_127 : decode cX12_tellThing 127 = .ok (.iload_n 3, 1) := by decide +kernel
theorem dX12_tellThing_128 : decode cX12_tellThing 128 = .ok (.iadd, 1) := by decide +kernel
theorem dX12_tellThing_129 : decode cX12_tellThing 129 = .ok (.iload 5, 2) := by decide +kernel
theorem dX12_tellThing_131 : decode cX12_tellThing 131 = .ok (.iadd, 1) := by decide +kernel
theorem dX12_tellThing_132 : decode cX12_tellThing 132 = .ok (.iload 7, 2) := by decide +kernel
theorem dX12_tellThing_134 : decode cX12_tellThing 134 = .ok (.iastore, 1) := by decide +kernel
theorem dX12_tellThing_135 : decode cX12_tellThing 135 = .ok (.aload_n 0, 1) := by decide +kernel
theorem dX12_tellThing_136 : decode cX12_tellThing 136 = .ok (.getfield 52, 3) := by decide +kernel
theorem dX12_tellThing_139 : decode cX12_tellThing 139 = .ok (.bipush 8, 2) := by decide +kernel
theorem dX12_tellThing_141 : decode cX12_tellThing 141 = .ok (.aload_n 0, 1) := by decide +kernel
theorem dX12_tellThing_142 : decode cX12_tellThing 142 = .ok (.getfield 267, 3) := by decide +kernel
theorem dX12_tellThing_145 : decode cX12_tellThing 145 = .ok (.imul, 1) := by decide +kernel
theorem dX12_tellThing_146 : decode cX12_tellThing 146 = .ok (.iload_n 3, 1) := by decide +kernel
theorem dX12_tellThing_147 : decode cX12_tellThing 147 = .ok (.iadd, 1) := by decide +kernel
theorem dX12_tellThing_148 : decode cX12_tellThing 148 = .ok (.iload 5, 2) := by decide +kernel
theorem dX12_tellThing_150 : decode cX12_tellThing 150 = .ok (.iadd, 1) := by decide +kernel
theorem dX12_tellThing_151 : decode cX12_tellThing 151 = .ok (.iload_n 1, 1) := by decide +kernel
theorem dX12_tellThing_152 : decode cX12_tellThing 152 = .ok (.iconst 1, 1) := by decide +kernel
theorem dX12_tellThing_153 : decode cX12_tellThing 153 = .ok (.if_icmp .ne 7, 3) := by decide +kernel
theorem dX12_tellThing_156 : decode cX12_tellThing 156 = .ok (.iload_n 3, 1) := by decide +kernel
theorem dX12_tellThing_157 : decode cX12_tellThing 157 = .ok (.goto 9, 3) := by decide +kernel
theorem dX12_tellThing_160 : decode cX12_tellThing 160 = .ok (.iload_n 3, 1) := by decide +kernel
theorem dX12_tellThing_161 : decode cX12_tellThing 161 = .ok (.iconst 1, 1) := by decide +kernel
theorem dX12_tellThing_162 : decode cX12_tellThing 162 = .ok (.iadd, 1) := by decide +kernel
theorem dX12_tellThing_163 : decode cX12_tellThing 163 = .ok (.iload 5, 2) := by decide +kernel
theorem dX12_tellThing_165 : decode cX12_tellThing 165 = .ok (.isub, 1) := by decide +kernel
theorem dX12_tellThing_166 : decode cX12_tellThing 166 = .ok (.iastore, 1) := by decide +kernel
theorem dX12_tellThing_167 : decode cX12_tellThing 167 = .ok (.aload_n 0, 1) := by decide +kernel
theorem dX12_tellThing_168 : decode cX12_tellThing 168 = .ok (.getfield 58, 3) := by decide +kernel
theorem dX12_tellThing_171 : decode cX12_tellThing 171 = .ok (.bipush 8, 2) := by decide +kernel
theorem dX12_tellThing_173 : decode cX12_tellThing 173 = .ok (.aload_n 0, 1) := by decide +kernel
theorem dX12_tellThing_174 : decode cX12_tellThing 174 = .ok (.getfield 267, 3) := by decide +kernel
theorem dX12_tellThing_177 : decode cX12_tellThing 177 = .ok (.imul, 1) := by decide +kernel
theorem dX12_tellThing_178 : decode cX12_tellThing 178 = .ok (.iload_n 3, 1) := by decide +kernel
theorem dX12_tellThing_179 : decode cX12_tellThing 179 = .ok (.iadd, 1) := by decide +kernel
theorem dX12_tellThing_180 : decode cX12_tellThing 180 = .ok (.iload 5, 2) := by decide +kernel
theorem dX12_tellThing_182 : decode cX12_tellThing 182 = .ok (.iadd, 1) := by decide +kernel
theorem dX12_tellThing_183 : decode cX12_tellThing 183 = .ok (.aload_n 0, 1) := by decide +kernel
theorem dX12_tellThing_184 : decode cX12_tellThing 184 = .ok (.getfield 40, 3) := by decide +kernel
theorem dX12_tellThing_187 : decode cX12_tellThing 187 = .ok (.aload_n 0, 1) := by decide +kernel
theorem dX12_tellThing_188 : decode cX12_tellThing 188 = .ok (.getfield 267, 3) := by decide +kernel
theorem dX12_tellThing_191 : decode cX12_tellThing 191 = .ok (.iaload, 1) := by decide +kernel
theorem dX12_tellThing_192 : decode cX12_tellThing 192 = .ok (.iastore, 1) := by decide +kernel
theorem dX12_tellThing_193 : decode cX12_tellThing 193 = .ok (.aload_n 0, 1) := by decide +kernel
theorem dX12_tellThing_194 : decode cX12_tellThing 194 = .ok (.getfield 234, 3) := by decide +kernel
theorem dX12_tellThing_197 : decode cX12_tellThing 197 = .ok (.ifCond .ne 32, 3) := by decide +kernel
theorem dX12_tellThing_200 : decode cX12_tellThing 200 = .ok (.iload 5, 2) := by decide +kernel
theorem dX12_tellThing_202 : decode cX12_tellThing 202 = .ok (.iload_n 1, 1) := by decide +kernel
theorem dX12_tellThing_203 : decode cX12_tellThing 203 = .ok (.iconst 1, 1) := by decide +kernel
theorem dX12_tellThing_204 : decode cX12_tellThing 204 = .ok (.isub, 1) := by decide +kernel
theorem dX12_tellThing_205 : decode cX12_tellThing 205 = .ok (.if_icmp .ne 24, 3) := by decide +kernel
theorem dX12_tellThing_208 : decode cX12_tellThing 208 = .ok (.iload 7, 2) := by decide +kernel
theorem dX12_tellThing_210 : decode cX12_tellThing 210 = .ok (.bipush 10, 2) := by decide +kernel
theorem dX12_tellThing_212 : decode cX12_tellThing 212 = .ok (.if_icmp .ge 17, 3) := by decide +kernel
theorem dX12_tellThing_215 : decode cX12_tellThing 215 = .ok (.iload 4, 2) := by decide +kernel
theorem dX12_tellThing_217 : decode cX12_tellThing 217 = .ok (.bipush 18, 2) := by decide +kernel
theorem dX12_tellThing_219 : decode cX12_tellThing 219 = .ok (.if_icmp .le 10, 3) := by decide +kernel
theorem dX12_tellThing_222 : decode cX12_tellThing 222 = .ok (.aload_n 0, 1) := by decide +kernel
theorem dX12_tellThing_223 : decode cX12_tellThing 223 = .ok (.iconst 5, 1) := by decide +kernel
theorem dX12_tellThing_224 : decode cX12_tellThing 224 = .ok (.iload 6, 2) := by decide +kernel
theorem dX12_tellThing_226 : decode cX12_tellThing 226 = .ok (.invokevirtual 304, 3) := by decide +kernel
theorem dX12_tellThing_229 : decode cX12_tellThing 229 = .ok (.iinc 5 1, 3) := by decide +kernel
theorem dX12_tellThing_232 : decode cX12_tellThing 232 = .ok (.goto (-144), 3) := by decide +kernel
theorem dX12_tellThing_235 : decode cX12_tellThing 235 = .ok (.aload_n 0, 1) := by decide +kernel
theorem dX12_tellThing_236 : decode cX12_tellThing 236 = .ok (.iconst 4, 1) := by decide +kernel
theorem dX12_tellThing_237 : decode cX12_tellThing 237 = .ok (.invokevirtual 295, 3) := by decide +kernel
theorem dX12_tellThing_240 : decode cX12_tellThing 240 = .ok (.aload_n 0, 1) := by decide +kernel
theorem dX12_tellThing_241 : decode cX12_tellThing 241 = .ok (.getfield 234, 3) := by decide +kernel
theorem dX12_tellThing_244 : decode cX12_tellThing 244 = .ok (.ifCond .le 4, 3) := by decide +kernel
theorem dX12_tellThing_247 : decode cX12_tellThing 247 = .ok (.return_, 1) := by decide +kernel
theorem dX12_tellThing_248 : decode cX12_tellThing 248 = .ok (.aload_n 0, 1) := by decide +kernel
theorem dX12_tellThing_249 : decode cX12_tellThing 249 = .ok (.getfield 43, 3) := by decide +kernel
theorem dX12_tellThing_252 : decode cX12_tellThing 252 = .ok (.aload_n 0, 1) := by decide +kernel
theorem dX12_tellThing_253 : decode cX12_tellThing 253 = .ok (.getfield 40, 3) := by decide +kernel
theorem dX12_tellThing_256 : decode cX12_tellThing 256 = .ok (.aload_n 0, 1) := by decide +kernel
theorem dX12_tellThing_257 : decode cX12_tellThing 257 = .ok (.getfield 267, 3) := by decide +kernel
theorem dX12_tellThing_260 : decode cX12_tellThing 260 = .ok (.iaload, 1) := by decide +kernel
theorem dX12_tellThing_261 : decode cX12_tellThing 261 = .ok (.aload_n 0, 1) := by decide +kernel
theorem dX12_tellThing_262 : decode cX12_tellThing 262 = .ok (.getfield 30, 3) := by decide +kernel
theorem dX12_tellThing_265 : decode cX12_tellThing 265 = .ok (.iload_n 2, 1) := by decide +kernel
theorem dX12_tellThing_266 : decode cX12_tellThing 266 = .ok (.laload, 1) := by decide +kernel
theorem dX12_tellThing_267 : decode cX12_tellThing 267 = .ok (.lastore, 1) := by decide +kernel
theorem dX12_tellThing_268 : decode cX12_tellThing 268 = .ok (.aload_n 0, 1) := by decide +kernel
theorem dX12_tellThing_269 : decode cX12_tellThing 269 = .ok (.getfield 46, 3) := by decide +kernel
theorem dX12_tellThing_272 : decode cX12_tellThing 272 = .ok (.bipush 8, 2) := by decide +kernel
theorem dX12_tellThing_274 : decode cX12_tellThing 274 = .ok (.aload_n 0, 1) := by decide +kernel
theorem dX12_tellThing_275 : decode cX12_tellThing 275 = .ok (.getfield 267, 3) := by decide +kernel
theorem dX12_tellThing_278 : decode cX12_tellThing 278 = .ok (.imul, 1) := by decide +kernel
theorem dX12_tellThing_279 : decode cX12_tellThing 279 = .ok (.aload_n 0, 1) := by decide +kernel
theorem dX12_tellThing_280 : decode cX12_tellThing 280 = .ok (.getfield 40, 3) := by decide +kernel
theorem dX12_tellThing_283 : decode cX12_tellThing 283 = .ok (.aload_n 0, 1) := by decide +kernel
theorem dX12_tellThing_284 : decode cX12_tellThing 284 = .ok (.getfield 267, 3) := by decide +kernel
theorem dX12_tellThing_287 : decode cX12_tellThing 287 = .ok (.iaload, 1) := by decide +kernel
theorem dX12_tellThing_288 : decode cX12_tellThing 288 = .ok (.iadd, 1) := by decide +kernel
theorem dX12_tellThing_289 : decode cX12_tellThing 289 = .ok (.iload_n 3, 1) := by decide +kernel
theorem dX12_tellThing_290 : decode cX12_tellThing 290 = .ok (.iastore, 1) := by decide +kernel
theorem dX12_tellThing_291 : decode cX12_tellThing 291 = .ok (.aload_n 0, 1) := by decide +kernel
theorem dX12_tellThing_292 : decode cX12_tellThing 292 = .ok (.getfield 40, 3) := by decide +kernel
theorem dX12_tellThing_295 : decode cX12_tellThing 295 = .ok (.aload_n 0, 1) := by decide +kernel
theorem dX12_tellThing_296 : decode cX12_tellThing 296 = .ok (.getfield 267, 3) := by decide +kernel
theorem dX12_tellThing_299 : decode cX12_tellThing 299 = .ok (.dup2, 1) := by decide +kernel
theorem dX12_tellThing_300 : decode cX12_tellThing 300 = .ok (.iaload, 1) := by decide +kernel
theorem dX12_tellThing_301 : decode cX12_tellThing 301 = .ok (.iconst 1, 1) := by decide +kernel
theorem dX12_tellThing_302 : decode cX12_tellThing 302 = .ok (.iadd, 1) := by decide +kernel
theorem dX12_tellThing_303 : decode cX12_tellThing 303 = .ok (.iastore, 1) := by decide +kernel
theorem dX12_tellThing_304 : decode cX12_tellThing 304 = .ok (.aload_n 0, 1) := by decide +kernel
theorem dX12_tellThing_305 : decode cX12_tellThing 305 = .ok (.getfield 49, 3) := by decide +kernel
theorem dX12_tellThing_308 : decode cX12_tellThing 308 = .ok (.aload_n 0, 1) := by decide +kernel
theorem dX12_tellThing_309 : decode cX12_tellThing 309 = .ok (.getfield 267, 3) := by decide +kernel
theorem dX12_tellThing_312 : decode cX12_tellThing 312 = .ok (.dup2, 1) := by decide +kernel
theorem dX12_tellThing_313 : decode cX12_tellThing 313 = .ok (.iaload, 1) := by decide +kernel
theorem dX12_tellThing_314 : decode cX12_tellThing 314 = .ok (.iload_n 1, 1) := by decide +kernel
theorem dX12_tellThing_315 : decode cX12_tellThing 315 = .ok (.iadd, 1) := by decide +kernel
theorem dX12_tellThing_316 : decode cX12_tellThing 316 = .ok (.iastore, 1) := by decide +kernel
theorem dX12_tellThing_317 : decode cX12_tellThing 317 = .ok (.aload_n 0, 1) := by decide +kernel
theorem dX12_tellThing_318 : decode cX12_tellThing 318 = .ok (.getfield 61, 3) := by decide +kernel
theorem dX12_tellThing_321 : decode cX12_tellThing 321 = .ok (.aload_n 0, 1) := by decide +kernel
theorem dX12_tellThing_322 : decode cX12_tellThing 322 = .ok (.getfield 267, 3) := by decide +kernel
theorem dX12_tellThing_325 : decode cX12_tellThing 325 = .ok (.iload 4, 2) := by decide +kernel
theorem dX12_tellThing_327 : decode cX12_tellThing 327 = .ok (.iastore, 1) := by decide +kernel
theorem dX12_tellThing_328 : decode cX12_tellThing 328 = .ok (.return_, 1) := by decide +kernel
theorem dX12_tellLike_0 : decode cX12_tellLike 0 = .ok (.aload_n 0, 1) := by decide +kernel
theorem dX12_tellLike_1 : decode cX12_tellLike 1 = .ok (.invokevirtual 255, 3) := by decide +kernel
theorem dX12_tellLike_4 : decode cX12_tellLike 4 = .ok (.aload_n 0, 1) := by decide +kernel
theorem dX12_tellLike_5 : decode cX12_tellLike 5 = .ok (.invokevirtual 308, 3) := by decide +kernel
theorem dX12_tellLike_8 : decode cX12_tellLike 8 = .ok (.istore_n 1, 1) := by decide +kernel
theorem dX12_tellLike_9 : decode cX12_tellLike 9 = .ok (.aload_n 0, 1) := by decide +kernel
theorem dX12_tellLike_10 : decode cX12_tellLike 10 = .ok (.invokevirtual 308, 3) := by decide +kernel
theorem dX12_tellLike_13 : decode cX12_tellLike 13 = .ok (.istore_n 2, 1) := by decide +kernel
theorem dX12_tellLike_14 : decode cX12_tellLike 14 = .ok (.aload_n 0, 1) := by decide +kernel
theorem dX12_tellLike_15 : decode cX12_tellLike 15 = .ok (.iconst 0, 1) := by decide +kernel
theorem dX12_tellLike_16 : decode cX12_tellLike 16 = .ok (.bipush 99, 2) := by decide +kernel
theorem dX12_tellLike_18 : decode cX12_tellLike 18 = .ok (.invokevirtual 291, 3) := by decide +kernel
theorem dX12_tellLike_21 : decode cX12_tellLike 21 = .ok (.istore_n 3, 1) := by decide +kernel
theorem dX12_tellLike_22 : decode cX12_tellLike 22 = .ok (.aload_n 0, 1) := by decide +kernel
theorem dX12_tellLike_23 : decode cX12_tellLike 23 = .ok (.iconst 4, 1) := by decide +kernel
theorem dX12_tellLike_24 : decode cX12_tellLike 24 = .ok (.invokevirtual 295, 3) := by decide +kernel
theorem dX12_tellLike_27 : decode cX12_tellLike 27 = .ok (.aload_n 0, 1) := by decide +kernel
theorem dX12_tellLike_28 : decode cX12_tellLike 28 = .ok (.getfield 234, 3) := by decide +kernel
theorem dX12_tellLike_31 : decode cX12_tellLike 31 = .ok (.ifCond .le 4, 3) := by decide +kernel
theorem dX12_tellLike_34 : decode cX12_tellLike 34 = .ok (.return_, 1) := by decide +kernel
theorem dX12_tellLike_35 : decode cX12_tellLike 35 = .ok (.aload_n 0, 1) := by decide +kernel
theorem dX12_tellLike_36 : decode cX12_tellLike 36 = .ok (.getfield 64, 3) := by decide +kernel
theorem dX12_tellLike_39 : decode cX12_tellLike 39 = .ok (.aload_n 0, 1) := by decide +kernel
theorem dX12_tellLike_40 : decode cX12_tellLike 40 = .ok (.getfield 267, 3) := by decide +kernel
theorem dX12_tellLike_43 : decode cX12_tellLike 43 = .ok (.dup2, 1) := by decide +kernel
theorem dX12_tellLike_44 : decode cX12_tellLike 44 = .ok (.iaload, 1) := by decide +kernel
theorem dX12_tellLike_45 : decode cX12_tellLike 45 = .ok (.iconst 1, 1) := by decide +kernel
theorem dX12_tellLike_46 : decode cX12_tellLike 46 = .ok (.iadd, 1) := by decide +kernel
theorem dX12_tellLike_47 : decode cX12_tellLike 47 = .ok (.iastore, 1) := by decide +kernel
theorem dX12_tellLike_48 : decode cX12_tellLike 48 = .ok (.iload_n 1, 1) := by decide +kernel
theorem dX12_tellLike_49 : decode cX12_tellLike 49 = .ok (.ifCond .lt 12, 3) := by decide +kernel
theorem dX12_tellLike_52 : decode cX12_tellLike 52 = .ok (.iload_n 2, 1) := by decide +kernel
theorem dX12_tellLike_53 : decode cX12_tellLike 53 = .ok (.ifCond .lt 8, 3) := by decide +kernel
theorem dX12_tellLike_56 : decode cX12_tellLike 56 = .ok (.iload_n 1, 1) := by decide +kernel
theorem dX12_tellLike_57 : decode cX12_tellLike 57 = .ok (.iload_n 2, 1) := by decide +kernel
theorem dX12_tellLike_58 : decode cX12_tellLike 58 = .ok (.if_icmp .ne 4, 3) := by decide +kernel
theorem dX12_tellLike_61 : decode cX12_tellLike 61 = .ok (.return_, 1) := by decide +kernel
theorem dX12_tellLike_62 : decode cX12_tellLike 62 = .ok (.aload_n 0, 1) := by decide +kernel
theorem dX12_tellLike_63 : decode cX12_tellLike 63 = .ok (.getfield 67, 3) := by decide +kernel
theorem dX12_tellLike_66 : decode cX12_tellLike 66 = .ok (.bipush 64, 2) := by decide +kernel
theorem dX12_tellLike_68 : decode cX12_tellLike 68 = .ok (.aload_n 0, 1) := by decide +kernel
theorem dX12_tellLike_69 : decode cX12_tellLike 69 = .ok (.getfield 267, 3) := by decide +kernel
theorem dX12_tellLike_72 : decode cX12_tellLike 72 = .ok (.imul, 1) := by decide +kernel
theorem dX12_tellLike_73 : decode cX12_tellLike 73 = .ok (.bipush 8, 2) := by decide +kernel
theorem dX12_tellLike_75 : decode cX12_tellLike 75 = .ok (.iload_n 1, 1) := by decide +kernel
theorem dX12_tellLike_76 : decode cX12_tellLike 76 = .ok (.imul, 1) := by decide +kernel
theorem dX12_tellLike_77 : decode cX12_tellLike 77 = .ok (.iadd, 1) := by decide +kernel
theorem dX12_tellLike_78 : decode cX12_tellLike 78 = .ok (.iload_n 2, 1) := by decide +kernel
theorem dX12_tellLike_79 : decode cX12_tellLike 79 = .ok (.iadd, 1) := by decide +kernel
theorem dX12_tellLike_80 : decode cX12_tellLike 80 = .ok (.iload_n 3, 1) := by decide +kernel
theorem dX12_tellLike_81 : decode cX12_tellLike 81 = .ok (.iastore, 1) := by decide +kernel
theorem dX12_tellLike_82 : decode cX12_tellLike 82 = .ok (.aload_n 0, 1) := by decide +kernel
theorem dX12_tellLike_83 : decode cX12_tellLike 83 = .ok (.getfield 67, 3) := by decide +kernel
theorem dX12_tellLike_86 : decode cX12_tellLike 86 = .ok (.bipush 64, 2) := by decide +kernel
theorem dX12_tellLike_88 : decode cX12_tellLike 88 = .ok (.aload_n 0, 1) := by decide +kernel
theorem dX12_tellLike_89 : decode cX12_tellLike 89 = .ok (.getfield 267, 3) := by decide +kernel
theorem dX12_tellLike_92 : decode cX12_tellLike 92 = .ok (.imul, 1) := by decide +kernel
theorem dX12_tellLike_93 : decode cX12_tellLike 93 = .ok (.bipush 8, 2) := by decide +kernel
theorem dX12_tellLike_95 : decode cX12_tellLike 95 = .ok (.iload_n 2, 1) := by decide +kernel
theorem dX12_tellLike_96 : decode cX12_tellLike 96 = .ok (.imul, 1) := by decide +kernel
theorem dX12_tellLike_97 : decode cX12_tellLike 97 = .ok (.iadd, 1) := by decide +kernel
theorem dX12_tellLike_98 : decode cX12_tellLike 98 = .ok (.iload_n 1, 1) := by decide +kernel
theorem dX12_tellLike_99 : decode cX12_tellLike 99 = .ok (.iadd, 1) := by decide +kernel
theorem dX12_tellLike_100 : decode cX12_tellLike 100 = .ok (.iload_n 3, 1) := by decide +kernel
theorem dX12_tellLike_101 : decode cX12_tellLike 101 = .ok (.iastore, 1) := by decide +kernel
theorem dX12_tellLike_102 : decode cX12_tellLike 102 = .ok (.return_, 1) := by decide +kernel
theorem dX12_tellLine_0 : decode cX12_tellLine 0 = .ok (.iconst 0, 1) := by decide +kernel
theorem dX12_tellLine_1 : decode cX12_tellLine 1 = .ok (.istore_n 1, 1) := by decide +kernel
theorem dX12_tellLine_2 : decode cX12_tellLine 2 = .ok (.iconst 0, 1) := by decide +kernel
theorem dX12_tellLine_3 : decode cX12_tellLine 3 = .ok (.istore_n 2, 1) := by decide +kernel
theorem dX12_tellLine_4 : decode cX12_tellLine 4 = .ok (.iload_n 2, 1) := by decide +kernel
theorem dX12_tellLine_5 : decode cX12_tellLine 5 = .ok (.bipush 8, 2) := by decide +kernel
theorem dX12_tellLine_7 : decode cX12_tellLine 7 = .ok (.if_icmp .ge 16, 3) := by decide +kernel
theorem dX12_tellLine_10 : decode cX12_tellLine 10 = .ok (.aload_n 0, 1) := by decide +kernel
theorem dX12_tellLine_11 : decode cX12_tellLine 11 = .ok (.getfield 85, 3) := by decide +kernel
theorem dX12_tellLine_14 : decode cX12_tellLine 14 = .ok (.iload_n 2, 1) := by decide +kernel
theorem dX12_tellLine_15 : decode cX12_tellLine 15 = .ok (.iconst 0, 1) := by decide +kernel
theorem dX12_tellLine_16 : decode cX12_tellLine 16 = .ok (.iastore, 1) := by decide +kernel
theorem dX12_tellLine_17 : decode cX12_tellLine 17 = .ok (.iinc 2 1, 3) := by decide +kernel
theorem dX12_tellLine_20 : decode cX12_tellLine 20 = .ok (.goto (-16), 3) := by decide +kernel
theorem dX12_tellLine_23 : decode cX12_tellLine 23 = .ok (.aload_n 0, 1) := by decide +kernel
theorem dX12_tellLine_24 : decode cX12_tellLine 24 = .ok (.getfield 234, 3) := by decide +kernel
theorem dX12_tellLine_27 : decode cX12_tellLine 27 = .ok (.ifCond .ne 203, 3) := by decide +kernel
theorem dX12_tellLine_30 : decode cX12_tellLine 30 = .ok (.aload_n 0, 1) := by decide +kernel
theorem dX12_tellLine_31 : decode cX12_tellLine 31 = .ok (.iconst 1, 1) := by decide +kernel
theorem dX12_tellLine_32 : decode cX12_tellLine 32 = .ok (.invokevirtual 252, 3) := by decide +kernel
theorem dX12_tellLine_35 : decode cX12_tellLine 35 = .ok (.ifCond .ne 12, 3) := by decide +kernel
theorem dX12_tellLine_38 : decode cX12_tellLine 38 = .ok (.aload_n 0, 1) := by decide +kernel
theorem dX12_tellLine_39 : decode cX12_tellLine 39 = .ok (.bipush 31, 2) := by decide +kernel
theorem dX12_tellLine_41 : decode cX12_tellLine 41 = .ok (.invokevirtual 252, 3) := by decide +kernel
theorem dX12_tellLine_44 : decode cX12_tellLine 44 = .ok (.ifCond .eq 186, 3) := by decide +kernel
theorem dX12_tellLine_47 : decode cX12_tellLine 47 = .ok (.aload_n 0, 1) := by decide +kernel
theorem dX12_tellLine_48 : decode cX12_tellLine 48 = .ok (.bipush 31, 2) := by decide +kernel
theorem dX12_tellLine_50 : decode cX12_tellLine 50 = .ok (.invokevirtual 252, 3) := by decide +kernel
theorem dX12_tellLine_53 : decode cX12_tellLine 53 = .ok (.istore_n 2, 1) := by decide +kernel
theorem dX12_tellLine_54 : decode cX12_tellLine 54 = .ok (.iload_n 2, 1) := by decide +kernel
theorem dX12_tellLine_55 : decode cX12_tellLine 55 = .ok (.ifCond .eq 7, 3) := by decide +kernel
theorem dX12_tellLine_58 : decode cX12_tellLine 58 = .ok (.aload_n 0, 1) := by decide +kernel
theorem dX12_tellLine_59 : decode cX12_tellLine 59 = .ok (.invokevirtual 255, 3) := by decide +kernel
theorem dX12_tellLine_62 : decode cX12_tellLine 62 = .ok (.aload_n 0, 1) := by decide +kernel
theorem dX12_tellLine_63 : decode cX12_tellLine 63 = .ok (.getfield 237, 3) := by decide +kernel
theorem dX12_tellLine_66 : decode cX12_tellLine 66 = .ok (.istore_n 3, 1) := by decide +kernel
theorem dX12_tellLine_67 : decode cX12_tellLine 67 = .ok (.aload_n 0, 1) := by decide +kernel
theorem dX12_tellLine_68 : decode cX12_tellLine 68 = .ok (.invokevirtual 308, 3) := by decide +kernel
theorem dX12_tellLine_71 : decode cX12_tellLine 71 = .ok (.istore 4, 2) := by decide +kernel
theorem dX12_tellLine_73 : decode cX12_tellLine 73 = .ok (.aload_n 0, 1) := by decide +kernel
theorem dX12_tellLine_74 : decode cX12_tellLine 74 = .ok (.getfield 234, 3) := by decide +kernel
theorem dX12_tellLine_77 : decode cX12_tellLine 77 = .ok (.ifCond .le 4, 3) := by decide +kernel
theorem dX12_tellLine_80 : decode cX12_tellLine 80 = .ok (.return_, 1) := by decide +kernel
theorem dX12_tellLine_81 : decode cX12_tellLine 81 = .ok (.iload 4, 2) := by decide +kernel
theorem dX12_tellLine_83 : decode cX12_tellLine 83 = .ok (.ifCond .ge 6, 3) := by decide +kernel
theorem dX12_tellLine_86 : decode cX12_tellLine 86 = .ok (.goto (-63), 3) := by decide +kernel
theorem dX12_tellLine_89 : decode cX12_tellLine 89 = .ok (.aload_n 0, 1) := by decide +kernel
theorem dX12_tellLine_90 : decode cX12_tellLine 90 = .ok (.getfield 46, 3) := by decide +kernel
theorem dX12_tellLine_93 : decode cX12_tellLine 93 = .ok (.bipush 8, 2) := by decide +kernel
theorem dX12_tellLine_95 : decode cX12_tellLine 95 = .ok (.aload_n 0, 1) := by decide +kernel
theorem dX12_tellLine_96 : decode cX12_tellLine 96 = .ok (.getfield 267, 3) := by decide +kernel
theorem dX12_tellLine_99 : decode cX12_tellLine 99 = .ok (.imul, 1) := by decide +kernel
theorem dX12_tellLine_100 : decode cX12_tellLine 100 = .ok (.iload 4, 2) := by decide +kernel
theorem dX12_tellLine_102 : decode cX12_tellLine 102 = .ok (.iadd, 1) := by decide +kernel
theorem dX12_tellLine_103 : decode cX12_tellLine 103 = .ok (.iaload, 1) := by decide +kernel
theorem dX12_tellLine_104 : decode cX12_tellLine 104 = .ok (.istore 5, 2) := by decide +kernel
theorem dX12_tellLine_106 : decode cX12_tellLine 106 = .ok (.aload_n 0, 1) := by decide +kernel
theorem dX12_tellLine_107 : decode cX12_tellLine 107 = .ok (.getfield 52, 3) := by decide +kernel
theorem dX12_tellLine_110 : decode cX12_tellLine 110 = .ok (.bipush 8, 2) := by decide +kernel
theorem dX12_tellLine_112 : decode cX12_tellLine 112 = .ok (.aload_n 0, 1) := by decide +kernel
theorem dX12_tellLine_113 : decode cX12_tellLine 113 = .ok (.getfield 267, 3) := by decide +kernel
theorem dX12_tellLine_116 : decode cX12_tellLine 116 = .ok (.imul, 1) := by decide +kernel
theorem dX12_tellLine_117 : decode cX12_tellLine 117 = .ok (.iload 5, 2) := by decide +kernel
theorem dX12_tellLine_119 : decode cX12_tellLine 119 = .ok (.iadd, 1) := by decide +kernel
theorem dX12_tellLine_120 : decode cX12_tellLine 120 = .ok (.iaload, 1) := by decide +kernel
theorem dX12_tellLine_121 : decode cX12_tellLine 121 = .ok (.iload 5, 2) := by decide +kernel
theorem dX12_tellLine_123 : decode cX12_tellLine 123 = .ok (.if_icmp .ne 7, 3) := by decide +kernel
theorem dX12_tellLine_126 : decode cX12_tellLine 126 = .ok (.iconst 1, 1) := by decide +kernel
theorem dX12_tellLine_127 : decode cX12_tellLine 127 = .ok (.goto 4, 3) := by decide +kernel
theorem dX12_tellLine_130 : decode cX12_tellLine 130 = .ok (.iconst 0, 1) := by decide +kernel
theorem dX12_tellLine_131 : decode cX12_tellLine 131 = .ok (.istore 6, 2) := by decide +kernel
theorem dX12_tellLine_133 : decode cX12_tellLine 133 = .ok (.iload_n 2, 1) := by decide +kernel
theorem dX12_tellLine_134 : decode cX12_tellLine 134 = .ok (.ifCond .eq 14, 3) := by decide +kernel
theorem dX12_tellLine_137 : decode cX12_tellLine 137 = .ok (.iload 6, 2) := by decide +kernel
theorem dX12_tellLine_139 : decode cX12_tellLine 139 = .ok (.ifCond .eq 9, 3) := by decide +kernel
theorem dX12_tellLine_142 : decode cX12_tellLine 142 = .ok (.aload_n 0, 1) := by decide +kernel
theorem dX12_tellLine_143 : decode cX12_tellLine 143 = .ok (.iconst 5, 1) := by decide +kernel
theorem dX12_tellLine_144 : decode cX12_tellLine 144 = .ok (.iload_n 3, 1) := by decide +kernel
theorem dX12_tellLine_145 : decode cX12_tellLine 145 = .ok (.invokevirtual 304, 3) := by decide +kernel
theorem dX12_tellLine_148 : decode cX12_tellLine 148 = .ok (.iload_n 2, 1) := by decide +kernel
theorem dX12_tellLine_149 : decode cX12_tellLine 149 = .ok (.ifCond .eq 11, 3) := by decide +kernel
theorem dX12_tellLine_152 : decode cX12_tellLine 152 = .ok (.iload 6, 2) := by decide +kernel
theorem dX12_tellLine_154 : decode cX12_tellLine 154 = .ok (.ifCond .ne 6, 3) := by decide +kernel
theorem dX12_tellLine_157 : decode cX12_tellLine 157 = .ok (.iinc 5 1, 3) := by decide +kernel
theorem dX12_tellLine_160 : decode cX12_tellLine 160 = .ok (.aload_n 0, 1) := by decide +kernel
theorem dX12_tellLine_161 : decode cX12_tellLine 161 = .ok (.getfield 85, 3) := by decide +kernel
theorem dX12_tellLine_164 : decode cX12_tellLine 164 = .ok (.iload 5, 2) := by decide +kernel
theorem dX12_tellLine_166 : decode cX12_tellLine 166 = .ok (.dup2, 1) := by decide +kernel
theorem dX12_tellLine_167 : decode cX12_tellLine 167 = .ok (.iaload, 1) := by decide +kernel
theorem dX12_tellLine_168 : decode cX12_tellLine 168 = .ok (.iconst 1, 1) := by decide +kernel
theorem dX12_tellLine_169 : decode cX12_tellLine 169 = .ok (.iadd, 1) := by decide +kernel
theorem dX12_tellLine_170 : decode cX12_tellLine 170 = .ok (.iastore, 1) := by decide +kernel
theorem dX12_tellLine_171 : decode cX12_tellLine 171 = .ok (.aload_n 0, 1) := by decide +kernel
theorem dX12_tellLine_172 : decode cX12_tellLine 172 = .ok (.getfield 85, 3) := by decide +kernel
theorem dX12_tellLine_175 : decode cX12_tellLine 175 = .ok (.iload 5, 2) := by decide +kernel
theorem dX12_tellLine_177 : decode cX12_tellLine 177 = .ok (.iaload, 1) := by decide +kernel
theorem dX12_tellLine_178 : decode cX12_tellLine 178 = .ok (.aload_n 0, 1) := by decide +kernel
theorem dX12_tellLine_179 : decode cX12_tellLine 179 = .ok (.getfield 55, 3) := by decide +kernel
theorem dX12_tellLine_182 : decode cX12_tellLine 182 = .ok (.bipush 8, 2) := by decide +kernel
theorem dX12_tellLine_184 : decode cX12_tellLine 184 = .ok (.aload_n 0, 1) := by decide +kernel
theorem dX12_tellLine_185 : decode cX12_tellLine 185 = .ok (.getfield 267, 3) := by decide +kernel
theorem dX12_tellLine_188 : decode cX12_tellLine 188 = .ok (.imul, 1) := by decide +kernel
theorem dX12_tellLine_189 : decode cX12_tellLine 189 = .ok (.iload 5, 2) := by decide +kernel
theorem dX12_tellLine_191 : decode cX12_tellLine 191 = .ok (.iadd, 1) := by decide +kernel
theorem dX12_tellLine_192 : decode cX12_tellLine 192 = .ok (.iaload, 1) := by decide +kernel
theorem dX12_tellLine_193 : decode cX12_tellLine 193 = .ok (.if_icmp .le 9, 3) := by decide +kernel
theorem dX12_tellLine_196 : decode cX12_tellLine 196 = .ok (.aload_n 0, 1) := by decide +kernel
theorem dX12_tellLine_197 : decode cX12_tellLine 197 = .ok (.iconst 5, 1) := by decide +kernel
theorem dX12_tellLine_198 : decode cX12_tellLine 198 = .ok (.iload_n 3, 1) := by decide +kernel
theorem dX12_tellLine_199 : decode cX12_tellLine 199 = .ok (.invokevirtual 304, 3) := by decide +kernel
theorem dX12_tellLine_202 : decode cX12_tellLine 202 = .ok (.iload_n 1, 1) := by decide +kernel
theorem dX12_tellLine_203 : decode cX12_tellLine 203 = .ok (.bipush 18, 2) := by decide +kernel
theorem dX12_tellLine_205 : decode cX12_tellLine 205 = .ok (.if_icmp .ge 19, 3) := by decide +kernel
theorem dX12_tellLine_208 : decode cX12_tellLine 208 = .ok (.aload_n 0, 1) := by decide +kernel
theorem dX12_tellLine_209 : decode cX12_tellLine 209 = .ok (.getfield 82, 3) := by decide +kernel
theorem dX12_tellLine_212 : decode cX12_tellLine 212 = .ok (.bipush 18, 2) := by decide +kernel
theorem dX12_tellLine_214 : decode cX12_tellLine 214 = .ok (.aload_n 0, 1) := by decide +kernel
theorem dX12_tellLine_215 : decode cX12_tellLine 215 = .ok (.getfield 267, 3) := by decide +kernel
theorem dX12_tellLine_218 : decode cX12_tellLine 218 = .ok (.imul, 1) := by decide +kernel
theorem dX12_tellLine_219 : decode cX12_tellLine 219 = .ok (.iload_n 1, 1) := by decide +kernel
theorem dX12_tellLine_220 : decode cX12_tellLine 220 = .ok (.iadd, 1) := by decide +kernel
theorem dX12_tellLine_221 : decode cX12_tellLine 221 = .ok (.iload 5, 2) := by decide +kernel
theorem dX12_tellLine_223 : decode cX12_tellLine 223 = .ok (.iastore, 1) := by decide +kernel
theorem dX12_tellLine_224 : decode cX12_tellLine 224 = .ok (.iinc 1 1, 3) := by decide +kernel
theorem dX12_tellLine_227 : decode cX12_tellLine 227 = .ok (.goto (-204), 3) := by decide +kernel
theorem dX12_tellLine_230 : decode cX12_tellLine 230 = .ok (.aload_n 0, 1) := by decide +kernel
theorem dX12_tellLine_231 : decode cX12_tellLine 231 = .ok (.iconst 4, 1) := by decide +kernel
theorem dX12_tellLine_232 : decode cX12_tellLine 232 = .ok (.invokevirtual 295, 3) := by decide +kernel
theorem dX12_tellLine_235 : decode cX12_tellLine 235 = .ok (.aload_n 0, 1) := by decide +kernel
theorem dX12_tellLine_236 : decode cX12_tellLine 236 = .ok (.getfield 79, 3) := by decide +kernel
theorem dX12_tellLine_239 : decode cX12_tellLine 239 = .ok (.aload_n 0, 1) := by decide +kernel
theorem dX12_tellLine_240 : decode cX12_tellLine 240 = .ok (.getfield 267, 3) := by decide +kernel
theorem dX12_tellLine_243 : decode cX12_tellLine 243 = .ok (.iload_n 1, 1) := by decide +kernel
theorem dX12_tellLine_244 : decode cX12_tellLine 244 = .ok (.bipush 18, 2) := by decide +kernel
theorem dX12_tellLine_246 : decode cX12_tellLine 246 = .ok (.if_icmp .ge 7, 3) := by decide +kernel
theorem dX12_tellLine_249 : decode cX12_tellLine 249 = .ok (.iload_n 1, 1) := by decide +kernel
theorem dX12_tellLine_250 : decode cX12_tellLine 250 = .ok (.goto 5, 3) := by decide +kernel
theorem dX12_tellLine_253 : decode cX12_tellLine 253 = .ok (.bipush 18, 2) := by decide +kernel
theorem dX12_tellLine_255 : decode cX12_tellLine 255 = .ok (.iastore, 1) := by decide +kernel
theorem dX12_tellLine_256 : decode cX12_tellLine 256 = .ok (.return_, 1) := by decide +kernel
theorem dX12_tellLaw_0 : decode cX12_tellLaw 0 = .ok (.aload_n 0, 1) := by decide +kernel
theorem dX12_tellLaw_1 : decode cX12_tellLaw 1 = .ok (.getfield 270, 3) := by decide +kernel
theorem dX12_tellLaw_4 : decode cX12_tellLaw 4 = .ok (.istore_n 1, 1) := by decide +kernel
theorem dX12_tellLaw_5 : decode cX12_tellLaw 5 = .ok (.iconst 0, 1) := by decide +kernel
theorem dX12_tellLaw_6 : decode cX12_tellLaw 6 = .ok (.istore_n 2, 1) := by decide +kernel
theorem dX12_tellLaw_7 : decode cX12_tellLaw 7 = .ok (.aload_n 0, 1) := by decide +kernel
theorem dX12_tellLaw_8 : decode cX12_tellLaw 8 = .ok (.getfield 234, 3) := by decide +kernel
theorem dX12_tellLaw_11 : decode cX12_tellLaw 11 = .ok (.ifCond .ne 113, 3) := by decide +kernel
theorem dX12_tellLaw_14 : decode cX12_tellLaw 14 = .ok (.aload_n 0, 1) := by decide +kernel
theorem dX12_tellLaw_15 : decode cX12_tellLaw 15 = .ok (.bipush 34, 2) := by decide +kernel
theorem dX12_tellLaw_17 : decode cX12_tellLaw 17 = .ok (.invokevirtual 252, 3) := by decide +kernel
theorem dX12_tellLaw_20 : decode cX12_tellLaw 20 = .ok (.ifCond .eq 104, 3) := by decide +kernel
theorem dX12_tellLaw_23 : decode cX12_tellLaw 23 = .ok (.iload_n 2, 1) := by decide +kernel
theorem dX12_tellLaw_24 : decode cX12_tellLaw 24 = .ok (.iconst 4, 1) := by decide +kernel
theorem dX12_tellLaw_25 : decode cX12_tellLaw 25 = .ok (.if_icmp .ne 8, 3) := by decide +kernel
theorem dX12_tellLaw_28 : decode cX12_tellLaw 28 = .ok (.aload_n 0, 1) := by decide +kernel
theorem dX12_tellLaw_29 : decode cX12_tellLaw 29 = .ok (.iconst 2, 1) := by decide +kernel
theorem dX12_tellLaw_30 : decode cX12_tellLaw 30 = .ok (.invokevirtual 249, 3) := by decide +kernel
theorem dX12_tellLaw_33 : decode cX12_tellLaw 33 = .ok (.aload_n 0, 1) := by decide +kernel
theorem dX12_tellLaw_34 : decode cX12_tellLaw 34 = .ok (.getfield 234, 3) := by decide +kernel
theorem dX12_tellLaw_37 : decode cX12_tellLaw 37 = .ok (.ifCond .le 4, 3) := by decide +kernel
theorem dX12_tellLaw_40 : decode cX12_tellLaw 40 = .ok (.return_, 1) := by decide +kernel
theorem dX12_tellLaw_41 : decode cX12_tellLaw 41 = .ok (.iinc 2 1, 3) := by decide +kernel
theorem dX12_tellLaw_44 : decode cX12_tellLaw 44 = .ok (.aload_n 0, 1) := by decide +kernel
theorem dX12_tellLaw_45 : decode cX12_tellLaw 45 = .ok (.invokevirtual 255, 3) := by decide +kernel
theorem dX12_tellLaw_48 : decode cX12_tellLaw 48 = .ok (.aload_n 0, 1) := by decide +kernel
theorem dX12_tellLaw_49 : decode cX12_tellLaw 49 = .ok (.getfield 97, 3) := by decide +kernel
theorem dX12_tellLaw_52 : decode cX12_tellLaw 52 = .ok (.aload_n 0, 1) := by decide +kernel
theorem dX12_tellLaw_53 : decode cX12_tellLaw 53 = .ok (.getfield 270, 3) := by decide +kernel
theorem dX12_tellLaw_56 : decode cX12_tellLaw 56 = .ok (.iconst 1, 1) := by decide +kernel
theorem dX12_tellLaw_57 : decode cX12_tellLaw 57 = .ok (.bastore, 1) := by decide +kernel
theorem dX12_tellLaw_58 : decode cX12_tellLaw 58 = .ok (.aload_n 0, 1) := by decide +kernel
theorem dX12_tellLaw_59 : decode cX12_tellLaw 59 = .ok (.getfield 101, 3) := by decide +kernel
theorem dX12_tellLaw_62 : decode cX12_tellLaw 62 = .ok (.aload_n 0, 1) := by decide +kernel
theorem dX12_tellLaw_63 : decode cX12_tellLaw 63 = .ok (.getfield 270, 3) := by decide +kernel
theorem dX12_tellLaw_66 : decode cX12_tellLaw 66 = .ok (.aload_n 0, 1) := by decide +kernel
theorem dX12_tellLaw_67 : decode cX12_tellLaw 67 = .ok (.getfield 273, 3) := by decide +kernel
theorem dX12_tellLaw_70 : decode cX12_tellLaw 70 = .ok (.iastore, 1) := by decide +kernel
theorem dX12_tellLaw_71 : decode cX12_tellLaw 71 = .ok (.aload_n 0, 1) := by decide +kernel
theorem dX12_tellLaw_72 : decode cX12_tellLaw 72 = .ok (.invokevirtual 312, 3) := by decide +kernel
theorem dX12_tellLaw_75 : decode cX12_tellLaw 75 = .ok (.aload_n 0, 1) := by decide +kernel
theorem dX12_tellLaw_76 : decode cX12_tellLaw 76 = .ok (.bipush 13, 2) := by decide +kernel
theorem dX12_tellLaw_78 : decode cX12_tellLaw 78 = .ok (.invokevirtual 295, 3) := by decide +kernel
theorem dX12_tellLaw_81 : decode cX12_tellLaw 81 = .ok (.aload_n 0, 1) := by decide +kernel
theorem dX12_tellLaw_82 : decode cX12_tellLaw 82 = .ok (.getfield 104, 3) := by decide +kernel
theorem dX12_tellLaw_85 : decode cX12_tellLaw 85 = .ok (.aload_n 0, 1) := by decide +kernel
theorem dX12_tellLaw_86 : decode cX12_tellLaw 86 = .ok (.getfield 270, 3) := by decide +kernel
theorem dX12_tellLaw_89 : decode cX12_tellLaw 89 = .ok (.aload_n 0, 1) := by decide +kernel
theorem dX12_tellLaw_90 : decode cX12_tellLaw 90 = .ok (.getfield 273, 3) := by decide +kernel
theorem dX12_tellLaw_93 : decode cX12_tellLaw 93 = .ok (.iastore, 1) := by decide +kernel
theorem dX12_tellLaw_94 : decode cX12_tellLaw 94 = .ok (.aload_n 0, 1) := by decide +kernel
theorem dX12_tellLaw_95 : decode cX12_tellLaw 95 = .ok (.getfield 234, 3) := by decide +kernel
theorem dX12_tellLaw_98 : decode cX12_tellLaw 98 = .ok (.ifCond .ne 7, 3) := by decide +kernel
theorem dX12_tellLaw_101 : decode cX12_tellLaw 101 = .ok (.aload_n 0, 1) := by decide +kernel
theorem dX12_tellLaw_102 : decode cX12_tellLaw 102 = .ok (.invokevirtual 312, 3) := by decide +kernel
theorem dX12_tellLaw_105 : decode cX12_tellLaw 105 = .ok (.aload_n 0, 1) := by decide +kernel
theorem dX12_tellLaw_106 : decode cX12_tellLaw 106 = .ok (.bipush 35, 2) := by decide +kernel
theorem dX12_tellLaw_108 : decode cX12_tellLaw 108 = .ok (.invokevirtual 295, 3) := by decide +kernel
theorem dX12_tellLaw_111 : decode cX12_tellLaw 111 = .ok (.aload_n 0, 1) := by decide +kernel
theorem dX12_tellLaw_112 : decode cX12_tellLaw 112 = .ok (.invokevirtual 315, 3) := by decide +kernel
theorem dX12_tellLaw_115 : decode cX12_tellLaw 115 = .ok (.aload_n 0, 1) := by decide +kernel
theorem dX12_tellLaw_116 : decode cX12_tellLaw 116 = .ok (.bipush 36, 2) := by decide +kernel
theorem dX12_tellLaw_118 : decode cX12_tellLaw 118 = .ok (.invokevirtual 295, 3) := by decide +kernel
theorem dX12_tellLaw_121 : decode cX12_tellLaw 121 = .ok (.goto (-114), 3) := by decide +kernel
theorem dX12_tellLaw_124 : decode cX12_tellLaw 124 = .ok (.aload_n 0, 1) := by decide +kernel
theorem dX12_tellLaw_125 : decode cX12_tellLaw 125 = .ok (.getfield 97, 3) := by decide +kernel
theorem dX12_tellLaw_128 : decode cX12_tellLaw 128 = .ok (.aload_n 0, 1) := by decide +kernel
theorem dX12_tellLaw_129 : decode cX12_tellLaw 129 = .ok (.getfield 270, 3) := by decide +kernel
theorem dX12_tellLaw_132 : decode cX12_tellLaw 132 = .ok (.iconst 0, 1) := by decide +kernel
theorem dX12_tellLaw_133 : decode cX12_tellLaw 133 = .ok (.bastore, 1) := by decide +kernel
theorem dX12_tellLaw_134 : decode cX12_tellLaw 134 = .ok (.aload_n 0, 1) := by decide +kernel
theorem dX12_tellLaw_135 : decode cX12_tellLaw 135 = .ok (.invokevirtual 315, 3) := by decide +kernel
theorem dX12_tellLaw_138 : decode cX12_tellLaw 138 = .ok (.aload_n 0, 1) := by decide +kernel
theorem dX12_tellLaw_139 : decode cX12_tellLaw 139 = .ok (.iconst 4, 1) := by decide +kernel
theorem dX12_tellLaw_140 : decode cX12_tellLaw 140 = .ok (.invokevirtual 295, 3) := by decide +kernel
theorem dX12_tellLaw_143 : decode cX12_tellLaw 143 = .ok (.aload_n 0, 1) := by decide +kernel
theorem dX12_tellLaw_144 : decode cX12_tellLaw 144 = .ok (.getfield 234, 3) := by decide +kernel
theorem dX12_tellLaw_147 : decode cX12_tellLaw 147 = .ok (.ifCond .le 4, 3) := by decide +kernel
theorem dX12_tellLaw_150 : decode cX12_tellLaw 150 = .ok (.return_, 1) := by decide +kernel
theorem dX12_tellLaw_151 : decode cX12_tellLaw 151 = .ok (.aload_n 0, 1) := by decide +kernel
theorem dX12_tellLaw_152 : decode cX12_tellLaw 152 = .ok (.getfield 91, 3) := by decide +kernel
theorem dX12_tellLaw_155 : decode cX12_tellLaw 155 = .ok (.aload_n 0, 1) := by decide +kernel
theorem dX12_tellLaw_156 : decode cX12_tellLaw 156 = .ok (.getfield 267, 3) := by decide +kernel
theorem dX12_tellLaw_159 : decode cX12_tellLaw 159 = .ok (.iload_n 1, 1) := by decide +kernel
theorem dX12_tellLaw_160 : decode cX12_tellLaw 160 = .ok (.iastore, 1) := by decide +kernel
theorem dX12_tellLaw_161 : decode cX12_tellLaw 161 = .ok (.aload_n 0, 1) := by decide +kernel
theorem dX12_tellLaw_162 : decode cX12_tellLaw 162 = .ok (.getfield 94, 3) := by decide +kernel
theorem dX12_tellLaw_165 : decode cX12_tellLaw 165 = .ok (.aload_n 0, 1) := by decide +kernel
theorem dX12_tellLaw_166 : decode cX12_tellLaw 166 = .ok (.getfield 267, 3) := by decide +kernel
theorem dX12_tellLaw_169 : decode cX12_tellLaw 169 = .ok (.aload_n 0, 1) := by decide +kernel
theorem dX12_tellLaw_170 : decode cX12_tellLaw 170 = .ok (.getfield 270, 3) := by decide +kernel
theorem dX12_tellLaw_173 : decode cX12_tellLaw 173 = .ok (.iastore, 1) := by decide +kernel
theorem dX12_tellLaw_174 : decode cX12_tellLaw 174 = .ok (.return_, 1) := by decide +kernel
theorem dX12_term_0 : decode cX12_term 0 = .ok (.aload_n 0, 1) := by decide +kernel
theorem dX12_term_1 : decode cX12_term 1 = .ok (.getfield 107, 3) := by decide +kernel
theorem dX12_term_4 : decode cX12_term 4 = .ok (.aload_n 0, 1) := by decide +kernel
theorem dX12_term_5 : decode cX12_term 5 = .ok (.getfield 270, 3) := by decide +kernel
theorem dX12_term_8 : decode cX12_term 8 = .ok (.aload_n 0, 1) := by decide +kernel
theorem dX12_term_9 : decode cX12_term 9 = .ok (.getfield 273, 3) := by decide +kernel
theorem dX12_term_12 : decode cX12_term 12 = .ok (.iastore, 1) := by decide +kernel
theorem dX12_term_13 : decode cX12_term 13 = .ok (.aload_n 0, 1) := by decide +kernel
theorem dX12_term_14 : decode cX12_term 14 = .ok (.getfield 234, 3) := by decide +kernel
theorem dX12_term_17 : decode cX12_term 17 = .ok (.ifCond .ne 7, 3) := by decide +kernel
theorem dX12_term_20 : decode cX12_term 20 = .ok (.aload_n 0, 1) := by decide +kernel
theorem dX12_term_21 : decode cX12_term 21 = .ok (.invokevirtual 312, 3) := by decide +kernel
theorem dX12_term_24 : decode cX12_term 24 = .ok (.aload_n 0, 1) := by decide +kernel
theorem dX12_term_25 : decode cX12_term 25 = .ok (.getfield 110, 3) := by decide +kernel
theorem dX12_term_28 : decode cX12_term 28 = .ok (.aload_n 0, 1) := by decide +kernel
theorem dX12_term_29 : decode cX12_term 29 = .ok (.getfield 270, 3) := by decide +kernel
theorem dX12_term_32 : decode cX12_term 32 = .ok (.aload_n 0, 1) := by decide +kernel
theorem dX12_term_33 : decode cX12_term 33 = .ok (.getfield 273, 3) := by decide +kernel
theorem dX12_term_36 : decode cX12_term 36 = .ok (.iastore, 1) := by decide +kernel
theorem dX12_term_37 : decode cX12_term 37 = .ok (.aload_n 0, 1) := by decide +kernel
theorem dX12_term_38 : decode cX12_term 38 = .ok (.dup, 1) := by decide +kernel
theorem dX12_term_39 : decode cX12_term 39 = .ok (.getfield 270, 3) := by decide +kernel
theorem dX12_term_42 : decode cX12_term 42 = .ok (.iconst 1, 1) := by decide +kernel
theorem dX12_term_43 : decode cX12_term 43 = .ok (.iadd, 1) := by decide +kernel
theorem dX12_term_44 : decode cX12_term 44 = .ok (.putfield 270, 3) := by decide +kernel
theorem dX12_term_47 : decode cX12_term 47 = .ok (.return_, 1) := by decide +kernel
theorem dX12_emit_0 : decode cX12_emit 0 = .ok (.aload_n 0, 1) := by decide +kernel
theorem dX12_emit_1 : decode cX12_emit 1 = .ok (.getfield 113, 3) := by decide +kernel
theorem dX12_emit_4 : decode cX12_emit 4 = .ok (.aload_n 0, 1) := by decide +kernel
theorem dX12_emit_5 : decode cX12_emit 5 = .ok (.getfield 273, 3) := by decide +kernel
theorem dX12_emit_8 : decode cX12_emit 8 = .ok (.iload_n 1, 1) := by decide +kernel
theorem dX12_emit_9 : decode cX12_emit 9 = .ok (.iastore, 1) := by decide +kernel
theorem dX12_emit_10 : decode cX12_emit 10 = .ok (.aload_n 0, 1) := by decide +kernel
theorem dX12_emit_11 : decode cX12_emit 11 = .ok (.getfield 116, 3) := by decide +kernel
theorem dX12_emit_14 : decode cX12_emit 14 = .ok (.aload_n 0, 1) := by decide +kernel
theorem dX12_emit_15 : decode cX12_emit 15 = .ok (.getfield 273, 3) := by decide +kernel
theorem dX12_emit_18 : decode cX12_emit 18 = .ok (.iload_n 2, 1) := by decide +kernel
theorem dX12_emit_19 : decode cX12_emit 19 = .ok (.iastore, 1) := by decide +kernel
theorem dX12_emit_20 : decode cX12_emit 20 = .ok (.aload_n 0, 1) := by decide +kernel
theorem dX12_emit_21 : decode cX12_emit 21 = .ok (.dup, 1) := by decide +kernel
theorem dX12_emit_22 : decode cX12_emit 22 = .ok (.getfield 273, 3) := by decide +kernel
theorem dX12_emit_25 : decode cX12_emit 25 = .ok (.iconst 1, 1) := by decide +kernel
theorem dX12_emit_26 : decode cX12_emit 26 = .ok (.iadd, 1) := by decide +kernel
theorem dX12_emit_27 : decode cX12_emit 27 = .ok (.putfield 273, 3) := by decide +kernel
theorem dX12_emit_30 : decode cX12_emit 30 = .ok (.return_, 1) := by decide +kernel
theorem dX12_comesOut_0 : decode cX12_comesOut 0 = .ok (.aload_n 0, 1) := by decide +kernel
theorem dX12_comesOut_1 : decode cX12_comesOut 1 = .ok (.getfield 318, 3) := by decide +kernel
theorem dX12_comesOut_4 : decode cX12_comesOut 4 = .ok (.ifCond .le 87, 3) := by decide +kernel
theorem dX12_comesOut_7 : decode cX12_comesOut 7 = .ok (.aload_n 0, 1) := by decide +kernel
theorem dX12_comesOut_8 : decode cX12_comesOut 8 = .ok (.getfield 119, 3) := by decide +kernel
theorem dX12_comesOut_11 : decode cX12_comesOut 11 = .ok (.aload_n 0, 1) := by decide +kernel
theorem dX12_comesOut_12 : decode cX12_comesOut 12 = .ok (.getfield 318, 3) := by decide +kernel
theorem dX12_comesOut_15 : decode cX12_comesOut 15 = .ok (.iconst 1, 1) := by decide +kernel
theorem dX12_comesOut_16 : decode cX12_comesOut 16 = .ok (.isub, 1) := by decide +kernel
theorem dX12_comesOut_17 : decode cX12_comesOut 17 = .ok (.iaload, 1) := by decide +kernel
theorem dX12_comesOut_18 : decode cX12_comesOut 18 = .ok (.istore_n 2, 1) := by decide +kernel
theorem dX12_comesOut_19 : decode cX12_comesOut 19 = .ok (.iload_n 2, 1) := by decide +kernel
theorem dX12_comesOut_20 : decode cX12_comesOut 20 = .ok (.bipush 6, 2) := by decide +kernel
theorem dX12_comesOut_22 : decode cX12_comesOut 22 = .ok (.if_icmp .eq 19, 3) := by decide +kernel
theorem dX12_comesOut_25 : decode cX12_comesOut 25 = .ok (.iload_n 1, 1) := by decide +kernel
theorem dX12_comesOut_26 : decode cX12_comesOut 26 = .ok (.ifCond .eq 16, 3) := by decide +kernel
theorem dX12_comesOut_29 : decode cX12_comesOut 29 = .ok (.iload_n 2, 1) := by decide +kernel
theorem dX12_comesOut_30 : decode cX12_comesOut 30 = .ok (.bipush 8, 2) := by decide +kernel
theorem dX12_comesOut_32 : decode cX12_comesOut 32 = .ok (.if_icmp .eq 9, 3) := by decide +kernel
theorem dX12_comesOut_35 : decode cX12_comesOut 35 = .ok (.iload_n 2, 1) := by decide +kernel
theorem dX12_comesOut_36 : decode cX12_comesOut 36 = .ok (.bipush 9, 2) := by decide +kernel
theorem dX12_comesOut_38 : decode cX12_comesOut 38 = .ok (.if_icmp .ne 4, 3) := by decide +kernel
theorem dX12_comesOut_41 : decode cX12_comesOut 41 = .ok (.return_, 1) := by decide +kernel
theorem dX12_comesOut_42 : decode cX12_comesOut 42 = .ok (.aload_n 0, 1) := by decide +kernel
theorem dX12_comesOut_43 : decode cX12_comesOut 43 = .ok (.dup, 1) := by decide +kernel
theorem dX12_comesOut_44 : decode cX12_comesOut 44 = .ok (.getfield 318, 3) := by decide +kernel
theorem dX12_comesOut_47 : decode cX12_comesOut 47 = .ok (.iconst 1, 1) := by decide +kernel
theorem dX12_comesOut_48 : decode cX12_comesOut 48 = .ok (.isub, 1) := by decide +kernel
theorem dX12_comesOut_49 : decode cX12_comesOut 49 = .ok (.putfield 318, 3) := by decide +kernel
theorem dX12_comesOut_52 : decode cX12_comesOut 52 = .ok (.aload_n 0, 1) := by decide +kernel
theorem dX12_comesOut_53 : decode cX12_comesOut 53 = .ok (.iload_n 2, 1) := by decide +kernel
theorem dX12_comesOut_54 : decode cX12_comesOut 54 = .ok (.bipush 8, 2) := by decide +kernel
theorem dX12_comesOut_56 : decode cX12_comesOut 56 = .ok (.if_icmp .ne 7, 3) := by decide +kernel
theorem dX12_comesOut_59 : decode cX12_comesOut 59 = .ok (.iconst 2, 1) := by decide +kernel
theorem dX12_comesOut_60 : decode cX12_comesOut 60 = .ok (.goto 24, 3) := by decide +kernel
theorem dX12_comesOut_63 : decode cX12_comesOut 63 = .ok (.iload_n 2, 1) := by decide +kernel
theorem dX12_comesOut_64 : decode cX12_comesOut 64 = .ok (.bipush 9, 2) := by decide +kernel
theorem dX12_comesOut_66 : decode cX12_comesOut 66 = .ok (.if_icmp .ne 7, 3) := by decide +kernel
theorem dX12_comesOut_69 : decode cX12_comesOut 69 = .ok (.iconst 3, 1) := by decide +kernel
theorem dX12_comesOut_70 : decode cX12_comesOut 70 = .ok (.goto 14, 3) := by decide +kernel
theorem dX12_comesOut_73 : decode cX12_comesOut 73 = .ok (.iload_n 2, 1) := by decide +kernel
theorem dX12_comesOut_74 : decode cX12_comesOut 74 = .ok (.bipush 10, 2) := by decide +kernel
theorem dX12_comesOut_76 : decode cX12_comesOut 76 = .ok (.if_icmp .ne 7, 3) := by decide +kernel
theorem dX12_comesOut_79 : decode cX12_comesOut 79 = .ok (.iconst 4, 1) := by decide +kernel
theorem dX12_comesOut_80 : decode cX12_comesOut 80 = .ok (.goto 4, 3) := by decide +kernel
theorem dX12_comesOut_83 : decode cX12_comesOut 83 = .ok (.iconst 5, 1) := by decide +kernel
theorem dX12_comesOut_84 : decode cX12_comesOut 84 = .ok (.iconst 0, 1) := by decide +kernel
theorem dX12_comesOut_85 : decode cX12_comesOut 85 = .ok (.invokevirtual 321, 3) := by decide +kernel
theorem dX12_comesOut_88 : decode cX12_comesOut 88 = .ok (.goto (-88), 3) := by decide +kernel
theorem dX12_comesOut_91 : decode cX12_comesOut 91 = .ok (.return_, 1) := by decide +kernel
theorem dX12_expression_0 : decode cX12_expression 0 = .ok (.aload_n 0, 1) := by decide +kernel
theorem dX12_expression_1 : decode cX12_expression 1 = .ok (.iconst 0, 1) := by decide +kernel
theorem dX12_expression_2 : decode cX12_expression 2 = .ok (.putfield 318, 3) := by decide +kernel
theorem dX12_expression_5 : decode cX12_expression 5 = .ok (.aload_n 0, 1) := by decide +kernel
theorem dX12_expression_6 : decode cX12_expression 6 = .ok (.getfield 261, 3) := by decide +kernel
theorem dX12_expression_9 : decode cX12_expression 9 = .ok (.istore_n 1, 1) := by decide +kernel
theorem dX12_expression_10 : decode cX12_expression 10 = .ok (.iconst 1, 1) := by decide +kernel
theorem dX12_expression_11 : decode cX12_expression 11 = .ok (.istore_n 2, 1) := by decide +kernel
theorem dX12_expression_12 : decode cX12_expression 12 = .ok (.iload_n 2, 1) := by decide +kernel
theorem dX12_expression_13 : decode cX12_expression 13 = .ok (.ifCond .eq 259, 3) := by decide +kernel
theorem dX12_expression_16 : decode cX12_expression 16 = .ok (.aload_n 0, 1) := by decide +kernel
theorem dX12_expression_17 : decode cX12_expression 17 = .ok (.getfield 234, 3) := by decide +kernel
theorem dX12_expression_20 : decode cX12_expression 20 = .ok (.ifCond .ne 252, 3) := by decide +kernel
theorem dX12_expression_23 : decode cX12_expression 23 = .ok (.aload_n 0, 1) := by decide +kernel
theorem dX12_expression_24 : decode cX12_expression 24 = .ok (.bipush 6, 2) := by decide +kernel
theorem dX12_expression_26 : decode cX12_expression 26 = .ok (.invokevirtual 252, 3) := by decide +kernel
theorem dX12_expression_29 : decode cX12_expression 29 = .ok (.ifCond .eq 55, 3) := by decide +kernel
theorem dX12_expression_32 : decode cX12_expression 32 = .ok (.aload_n 0, 1) := by decide +kernel
theorem dX12_expression_33 : decode cX12_expression 33 = .ok (.getfield 261, 3) := by decide +kernel
theorem dX12_expression_36 : decode cX12_expression 36 = .ok (.bipush 6, 2) := by decide +kernel
theorem dX12_expression_38 : decode cX12_expression 38 = .ok (.if_icmp .ne 8, 3) := by decide +kernel
theorem dX12_expression_41 : decode cX12_expression 41 = .ok (.aload_n 0, 1) := by decide +kernel
theorem dX12_expression_42 : decode cX12_expression 42 = .ok (.iconst 2, 1) := by decide +kernel
theorem dX12_expression_43 : decode cX12_expression 43 = .ok (.invokevirtual 249, 3) := by decide +kernel
theorem dX12_expression_46 : decode cX12_expression 46 = .ok (.aload_n 0, 1) := by decide +kernel
theorem dX12_expression_47 : decode cX12_expression 47 = .ok (.dup, 1) := by decide +kernel
theorem dX12_expression_48 : decode cX12_expression 48 = .ok (.getfield 261, 3) := by decide +kernel
theorem dX12_expression_51 : decode cX12_expression 51 = .ok (.iconst 1, 1) := by decide +kernel
theorem dX12_expression_52 : decode cX12_expression 52 = .ok (.iadd, 1) := by decide +kernel
theorem dX12_expression_53 : decode cX12_expression 53 = .ok (.putfield 261, 3) := by decide +kernel
theorem dX12_expression_56 : decode cX12_expression 56 = .ok (.aload_n 0, 1) := by decide +kernel
theorem dX12_expression_57 : decode cX12_expression 57 = .ok (.invokevirtual 255, 3) := by decide +kernel
theorem dX12_expression_60 : decode cX12_expression 60 = .ok (.aload_n 0, 1) := by decide +kernel
theorem dX12_expression_61 : decode cX12_expression 61 = .ok (.getfield 119, 3) := by decide +kernel
theorem dX12_expression_64 : decode cX12_expression 64 = .ok (.aload_n 0, 1) := by decide +kernel
theorem dX12_expression_65 : decode cX12_expression 65 = .ok (.getfield 318, 3) := by decide +kernel
theorem dX12_expression_68 : decode cX12_expression 68 = .ok (.bipush 6, 2) := by decide +kernel
theorem dX12_expression_70 : decode cX12_expression 70 = .ok (.iastore, 1) := by decide +kernel
theorem dX12_expression_71 : decode cX12_expression 71 = .ok (.aload_n 0, 1) := by decide +kernel
theorem dX12_expression_72 : decode cX12_expression 72 = .ok (.dup, 1) := by decide +kernel
theorem dX12_expression_73 : decode cX12_expression 73 = .ok (.getfield 318, 3) := by decide +kernel
theorem dX12_expression_76 : decode cX12_expression 76 = .ok (.iconst 1, 1) := by decide +kernel
theorem dX12_expression_77 : decode cX12_expression 77 = .ok (.iadd, 1) := by decide +kernel
theorem dX12_expression_78 : decode cX12_expression 78 = .ok (.putfield 318, 3) := by decide +kernel
theorem dX12_expression_81 : decode cX12_expression 81 = .ok (.goto (-58), 3) := by decide +kernel
theorem dX12_expression_84 : decode cX12_expression 84 = .ok (.aload_n 0, 1) := by decide +kernel
theorem dX12_expression_85 : decode cX12_expression 85 = .ok (.invokevirtual 324, 3) := by decide +kernel
theorem dX12_expression_88 : decode cX12_expression 88 = .ok (.aload_n 0, 1) := by decide +kernel
theorem dX12_expression_89 : decode cX12_expression 89 = .ok (.getfield 234, 3) := by decide +kernel
theorem dX12_expression_92 : decode cX12_expression 92 = .ok (.ifCond .le 4, 3) := by decide +kernel
theorem dX12_expression_95 : decode cX12_expression 95 = .ok (.return_, 1) := by decide +kernel
theorem dX12_expression_96 : decode cX12_expression 96 = .ok (.aload_n 0, 1) := by decide +kernel
theorem dX12_expression_97 : decode cX12_expression 97 = .ok (.bipush 7, 2) := by decide +kernel
theorem dX12_expression_99 : decode cX12_expression 99 = .ok (.invokevirtual 252, 3) := by decide +kernel
theorem dX12_expression_102 : decode cX12_expression 102 = .ok (.ifCond .eq 43, 3) := by decide +kernel
theorem dX12_expression_105 : decode cX12_expression 105 = .ok (.aload_n 0, 1) := by decide +kernel
theorem dX12_expression_106 : decode cX12_expression 106 = .ok (.getfield 261, 3) := by decide +kernel
theorem dX12_expression_109 : decode cX12_expression 109 = .ok (.iload_n 1, 1) := by decide +kernel
theorem dX12_expression_110 : decode cX12_expression 110 = .ok (.if_icmp .le 35, 3) := by decide +kernel
theorem dX12_expression_113 : decode cX12_expression 113 = .ok (.aload_n 0, 1) := by decide +kernel
theorem dX12_expression_114 : decode cX12_expression 114 = .ok (.iconst 0, 1) := by decide +kernel
theorem dX12_expression_115 : decode cX12_expression 115 = .ok (.invokevirtual 327, 3) := by decide +kernel
theorem dX12_expression_118 : decode cX12_expression 118 = .ok (.aload_n 0, 1) := by decide +kernel
theorem dX12_expression_119 : decode cX12_expression 119 = .ok (.dup, 1) := by decide +kernel
theorem dX12_expression_120 : decode cX12_expression 120 = .ok (.getfield 318, 3) := by decide +kernel
theorem dX12_expression_123 : decode cX12_expression 123 = .ok (.iconst 1, 1) := by decide +kernel
theorem dX12_expression_124 : decode cX12_expression 124 = .ok (.isub, 1) := by decide +kernel
theorem dX12_expression_125 : decode cX12_expression 125 = .ok (.putfield 318, 3) := by decide +kernel
theorem dX12_expression_128 : decode cX12_expression 128 = .ok (.aload_n 0, 1) := by decide +kernel
theorem dX12_expression_129 : decode cX12_expression 129 = .ok (.dup, 1) := by decide +kernel
theorem dX12_expression_130 : decode cX12_expression 130 = .ok (.getfield 261, 3) := by decide +kernel
theorem dX12_expression_133 : decode cX12_expression 133 = .ok (.iconst 1, 1) := by decide +kernel
theorem dX12_expression_134 : decode cX12_expression 134 = .ok (.isub, 1) := by decide +kernel
theorem dX12_expression_135 : decode cX12_expression 135 = .ok (.putfield 261, 3) := by decide +kernel
theorem dX12_expression_138 : decode cX12_expression 138 = .ok (.aload_n 0, 1) := by decide +kernel
theorem dX12_expression_139 : decode cX12_expression 139 = .ok (.invokevirtual 255, 3) := by decide +kernel
theorem dX12_expression_142 : decode cX12_expression 142 = .ok (.goto (-46), 3) := by decide +kernel
theorem dX12_expression_145 : decode cX12_expression 145 = .ok (.aload_n 0, 1) := by decide +kernel
theorem dX12_expression_146 : decode cX12_expression 146 = .ok (.bipush 8, 2) := by decide +kernel
theorem dX12_expression_148 : decode cX12_expression 148 = .ok (.invokevirtual 252, 3) := by decide +kernel
theorem dX12_expression_151 : decode cX12_expression 151 = .ok (.ifCond .ne 30, 3) := by decide +kernel
theorem dX12_expression_154 : decode cX12_expression 154 = .ok (.aload_n 0, 1) := by decide +kernel
theorem dX12_expression_155 : decode cX12_expression 155 = .ok (.bipush 9, 2) := by decide +kernel
theorem dX12_expression_157 : decode cX12_expression 157 = .ok (.invokevirtual 252, 3) := by decide +kernel
theorem dX12_expression_160 : decode cX12_expression 160 = .ok (.ifCond .ne 21, 3) := by decide +kernel
theorem dX12_expression_163 : decode cX12_expression 163 = .ok (.aload_n 0, 1) := by decide +kernel
theorem dX12_expression_164 : decode cX12_expression 164 = .ok (.bipush 10, 2) := by decide +kernel
theorem dX12_expression_166 : decode cX12_expression 166 = .ok (.invokevirtual 252, 3) := by decide +kernel
theorem dX12_expression_169 : decode cX12_expression 169 = .ok (.ifCond .ne 12, 3) := by decide +kernel
theorem dX12_expression_172 : decode cX12_expression 172 = .ok (.aload_n 0, 1) := by decide +kernel
theorem dX12_expression_173 : decode cX12_expression 173 = .ok (.bipush 15, 2) := by decide +kernel
theorem dX12_expression_175 : decode cX12_expression 175 = .ok (.invokevirtual 252, 3) := by decide +kernel
theorem dX12_expression_178 : decode cX12_expression 178 = .ok (.ifCond .eq 7, 3) := by decide +kernel
theorem dX12_expression_181 : decode cX12_expression 181 = .ok (.iconst 1, 1) := by decide +kernel
theorem dX12_expression_182 : decode cX12_expression 182 = .ok (.goto 4, 3) := by decide +kernel
theorem dX12_expression_185 : decode cX12_expression 185 = .ok (.iconst 0, 1) := by decide +kernel
theorem dX12_expression_186 : decode cX12_expression 186 = .ok (.istore_n 2, 1) := by decide +kernel
theorem dX12_expression_187 : decode cX12_expression 187 = .ok (.iload_n 2, 1) := by decide +kernel
theorem dX12_expression_188 : decode cX12_expression 188 = .ok (.ifCond .ne 22, 3) := by decide +kernel
theorem dX12_expression_191 : decode cX12_expression 191 = .ok (.aload_n 0, 1) := by decide +kernel
theorem dX12_expression_192 : decode cX12_expression 192 = .ok (.getfield 261, 3) := by decide +kernel
theorem dX12_expression_195 : decode cX12_expression 195 = .ok (.iload_n 1, 1) := by decide +kernel
theorem dX12_expression_196 : decode cX12_expression 196 = .ok (.if_icmp .le 8, 3) := by decide +kernel
theorem dX12_expression_199 : decode cX12_expression 199 = .ok (.aload_n 0, 1) := by decide +kernel
theorem dX12_expression_200 : decode cX12_expression 200 = .ok (.iconst 1, 1) := by decide +kernel
theorem dX12_expression_201 : decode cX12_expression 201 = .ok (.invokevirtual 249, 3) := by decide +kernel
theorem dX12_expression_204 : decode cX12_expression 204 = .ok (.aload_n 0, 1) := by decide +kernel
theorem dX12_expression_205 : decode cX12_expression 205 = .ok (.iconst 0, 1) := by decide +kernel
theorem dX12_expression_206 : decode cX12_expression 206 = .ok (.invokevirtual 327, 3) := by decide +kernel
theorem dX12_expression_209 : decode cX12_expression 209 = .ok (.return_, 1) := by decide +kernel
theorem dX12_expression_210 : decode cX12_expression 210 = .ok (.aload_n 0, 1) := by decide +kernel
theorem dX12_expression_211 : decode cX12_expression 211 = .ok (.aload_n 0, 1) := by decide +kernel
theorem dX12_expression_212 : decode cX12_expression 212 = .ok (.bipush 10, 2) := by decide +kernel
theorem dX12_expression_214 : decode cX12_expression 214 = .ok (.invokevirtual 252, 3) := by decide +kernel
theorem dX12_expression_217 : decode cX12_expression 217 = .ok (.ifCond .ne 12, 3) := by decide +kernel
theorem dX12_expression_220 : decode cX12_expression 220 = .ok (.aload_n 0, 1) := by decide +kernel
theorem dX12_expression_221 : decode cX12_expression 221 = .ok (.bipush 15, 2) := by decide +kernel
theorem dX12_expression_223 : decode cX12_expression 223 = .ok (.invokevirtual 252, 3) := by decide +kernel
theorem dX12_expression_226 : decode cX12_expression 226 = .ok (.ifCond .eq 7, 3) := by decide +kernel
theorem dX12_expression_229 : decode cX12_expression 229 = .ok (.iconst 1, 1) := by decide +kernel
theorem dX12_expression_230 : decode cX12_expression 230 = .ok (.goto 4, 3) := by decide +kernel
theorem dX12_expression_233 : decode cX12_expression 233 = .ok (.iconst 0, 1) := by decide +kernel
theorem dX12_expression_234 : decode cX12_expression 234 = .ok (.invokevirtual 327, 3) := by decide +kernel
theorem dX12_expression_237 : decode cX12_expression 237 = .ok (.aload_n 0, 1) := by decide +kernel
theorem dX12_expression_238 : decode cX12_expression 238 = .ok (.getfield 119, 3) := by decide +kernel
theorem dX12_expression_241 : decode cX12_expression 241 = .ok (.aload_n 0, 1) := by decide +kernel
theorem dX12_expression_242 : decode cX12_expression 242 = .ok (.getfield 318, 3) := by decide +kernel
theorem dX12_expression_245 : decode cX12_expression 245 = .ok (.aload_n 0, 1) := by decide +kernel
theorem dX12_expression_246 : decode cX12_expression 246 = .ok (.getfield 20, 3) := by decide +kernel
theorem dX12_expression_249 : decode cX12_expression 249 = .ok (.aload_n 0, 1) := by decide +kernel
theorem dX12_expression_250 : decode cX12_expression 250 = .ok (.getfield 237, 3) := by decide +kernel
theorem dX12_expression_253 : decode cX12_expression 253 = .ok (.iaload, 1) := by decide +kernel
theorem dX12_expression_254 : decode cX12_expression 254 = .ok (.iastore, 1) := by decide +kernel
theorem dX12_expression_255 : decode cX12_expression 255 = .ok (.aload_n 0, 1) := by decide +kernel
theorem dX12_expression_256 : decode cX12_expression 256 = .ok (.dup, 1) := by decide +kernel
theorem dX12_expression_257 : decode cX12_expression 257 = .ok (.getfield 318, 3) := by decide +kernel
theorem dX12_expression_260 : decode cX12_expression 260 = .ok (.iconst 1, 1) := by decide +kernel
theorem dX12_expression_261 : decode cX12_expression 261 = .ok (.iadd, 1) := by decide +kernel
theorem dX12_expression_262 : decode cX12_expression 262 = .ok (.putfield 318, 3) := by decide +kernel
theorem dX12_expression_265 : decode cX12_expression 265 = .ok (.aload_n 0, 1) := by decide +kernel
theorem dX12_expression_266 : decode cX12_expression 266 = .ok (.invokevirtual 255, 3) := by decide +kernel
theorem dX12_expression_269 : decode cX12_expression 269 = .ok (.goto (-257), 3) := by decide +kernel
theorem dX12_expression_272 : decode cX12_expression 272 = .ok (.return_, 1) := by decide +kernel
theorem dX12_unit_0 : decode cX12_unit 0 = .ok (.aload_n 0, 1) := by decide +kernel
theorem dX12_unit_1 : decode cX12_unit 1 = .ok (.iconst 2, 1) := by decide +kernel
theorem dX12_unit_2 : decode cX12_unit 2 = .ok (.invokevirtual 252, 3) := by decide +kernel
theorem dX12_unit_5 : decode cX12_unit 5 = .ok (.ifCond .eq 24, 3) := by decide +kernel
theorem dX12_unit_8 : decode cX12_unit 8 = .ok (.aload_n 0, 1) := by decide +kernel
theorem dX12_unit_9 : decode cX12_unit 9 = .ok (.iconst 0, 1) := by decide +kernel
theorem dX12_unit_10 : decode cX12_unit 10 = .ok (.aload_n 0, 1) := by decide +kernel
theorem dX12_unit_11 : decode cX12_unit 11 = .ok (.getfield 27, 3) := by decide +kernel
theorem dX12_unit_14 : decode cX12_unit 14 = .ok (.aload_n 0, 1) := by decide +kernel
theorem dX12_unit_15 : decode cX12_unit 15 = .ok (.getfield 237, 3) := by decide +kernel
theorem dX12_unit_18 : decode cX12_unit 18 = .ok (.iaload, 1) := by decide +kernel
theorem dX12_unit_19 : decode cX12_unit 19 = .ok (.invokevirtual 321, 3) := by decide +kernel
theorem dX12_unit_22 : decode cX12_unit 22 = .ok (.aload_n 0, 1) := by decide +kernel
theorem dX12_unit_23 : decode cX12_unit 23 = .ok (.invokevirtual 255, 3) := by decide +kernel
theorem dX12_unit_26 : decode cX12_unit 26 = .ok (.goto 67, 3) := by decide +kernel
theorem dX12_unit_29 : decode cX12_unit 29 = .ok (.aload_n 0, 1) := by decide +kernel
theorem dX12_unit_30 : decode cX12_unit 30 = .ok (.getfield 234, 3) := by decide +kernel
theorem dX12_unit_33 : decode cX12_unit 33 = .ok (.ifCond .ne 55, 3) := by decide +kernel
theorem dX12_unit_36 : decode cX12_unit 36 = .ok (.aload_n 0, 1) := by decide +kernel
theorem dX12_unit_37 : decode cX12_unit 37 = .ok (.getfield 20, 3) := by decide +kernel
theorem dX12_unit_40 : decode cX12_unit 40 = .ok (.aload_n 0, 1) := by decide +kernel
theorem dX12_unit_41 : decode cX12_unit 41 = .ok (.getfield 237, 3) := by decide +kernel
theorem dX12_unit_44 : decode cX12_unit 44 = .ok (.iaload, 1) := by decide +kernel
theorem dX12_unit_45 : decode cX12_unit 45 = .ok (.bipush 37, 2) := by decide +kernel
theorem dX12_unit_47 : decode cX12_unit 47 = .ok (.if_icmp .lt 41, 3) := by decide +kernel
theorem dX12_unit_50 : decode cX12_unit 50 = .ok (.aload_n 0, 1) := by decide +kernel
theorem dX12_unit_51 : decode cX12_unit 51 = .ok (.getfield 20, 3) := by decide +kernel
theorem dX12_unit_54 : decode cX12_unit 54 = .ok (.aload_n 0, 1) := by decide +kernel
theorem dX12_unit_55 : decode cX12_unit 55 = .ok (.getfield 237, 3) := by decide +kernel
theorem dX12_unit_58 : decode cX12_unit 58 = .ok (.iaload, 1) := by decide +kernel
theorem dX12_unit_59 : decode cX12_unit 59 = .ok (.bipush 41, 2) := by decide +kernel
theorem dX12_unit_61 : decode cX12_unit 61 = .ok (.if_icmp .gt 27, 3) := by decide +kernel
theorem dX12_unit_64 : decode cX12_unit 64 = .ok (.aload_n 0, 1) := by decide +kernel
theorem dX12_unit_65 : decode cX12_unit 65 = .ok (.iconst 1, 1) := by decide +kernel
theorem dX12_unit_66 : decode cX12_unit 66 = .ok (.aload_n 0, 1) := by decide +kernel
theorem dX12_unit_67 : decode cX12_unit 67 = .ok (.getfield 20, 3) := by decide +kernel
theorem dX12_unit_70 : decode cX12_unit 70 = .ok (.aload_n 0, 1) := by decide +kernel
theorem dX12_unit_71 : decode cX12_unit 71 = .ok (.getfield 237, 3) := by decide +kernel
theorem dX12_unit_74 : decode cX12_unit 74 = .ok (.iaload, 1) := by decide +kernel
theorem dX12_unit_75 : decode cX12_unit 75 = .ok (.bipush 37, 2) := by decide +kernel
theorem dX12_unit_77 : decode cX12_unit 77 = .ok (.isub, 1) := by decide +kernel
theorem dX12_unit_78 : decode cX12_unit 78 = .ok (.invokevirtual 321, 3) := by decide +kernel
theorem dX12_unit_81 : decode cX12_unit 81 = .ok (.aload_n 0, 1) := by decide +kernel
theorem dX12_unit_82 : decode cX12_unit 82 = .ok (.invokevirtual 255, 3) := by decide +kernel
theorem dX12_unit_85 : decode cX12_unit 85 = .ok (.goto 8, 3) := by decide +kernel
theorem dX12_unit_88 : decode cX12_unit 88 = .ok (.aload_n 0, 1) := by decide +kernel
theorem dX12_unit_89 : decode cX12_unit 89 = .ok (.iconst 1, 1) := by decide +kernel
theorem dX12_unit_90 : decode cX12_unit 90 = .ok (.invokevirtual 249, 3) := by decide +kernel
theorem dX12_unit_93 : decode cX12_unit 93 = .ok (.return_, 1) := by decide +kernel
theorem dX12_termOf_0 : decode cX12_termOf 0 = .ok (.iconst 0, 1) := by decide +kernel
theorem dX12_termOf_1 : decode cX12_termOf 1 = .ok (.istore_n 3, 1) := by decide +kernel
theorem dX12_termOf_2 : decode cX12_termOf 2 = .ok (.iload_n 1, 1) := by decide +kernel
theorem dX12_termOf_3 : decode cX12_termOf 3 = .ok (.istore 4, 2) := by decide +kernel
theorem dX12_termOf_5 : decode cX12_termOf 5 = .ok (.iload 4, 2) := by decide +kernel
theorem dX12_termOf_7 : decode cX12_termOf 7 = .ok (.iload_n 2, 1) := by decide +kernel
theorem dX12_termOf_8 : decode cX12_termOf 8 = .ok (.if_icmp .ge 157, 3) := by decide +kernel
theorem dX12_termOf_11 : decode cX12_termOf 11 = .ok (.aload_n 0, 1) := by decide +kernel
theorem dX12_termOf_12 : decode cX12_termOf 12 = .ok (.getfield 113, 3) := by decide +kernel
theorem dX12_termOf_15 : decode cX12_termOf 15 = .ok (.iload 4, 2) := by decide +kernel
theorem dX12_termOf_17 : decode cX12_termOf 17 = .ok (.iaload, 1) := by decide +kernel
theorem dX12_termOf_18 : decode cX12_termOf 18 = .ok (.istore 5, 2) := by decide +kernel
theorem dX12_termOf_20 : decode cX12_termOf 20 = .ok (.iload 5, 2) := by decide +kernel
theorem dX12_termOf_22 : decode cX12_termOf 22 = .ok (.iconst 2, 1) := by decide +kernel
theorem dX12_termOf_23 : decode cX12_termOf 23 = .ok (.if_icmp .ge 42, 3) := by decide +kernel
theorem dX12_termOf_26 : decode cX12_termOf 26 = .ok (.aload_n 0, 1) := by decide +kernel
theorem dX12_termOf_27 : decode cX12_termOf 27 = .ok (.getfield 125, 3) := by decide +kernel
theorem dX12_termOf_30 : decode cX12_termOf 30 = .ok (.iload_n 3, 1) := by decide +kernel
theorem dX12_termOf_31 : decode cX12_termOf 31 = .ok (.iload 5, 2) := by decide +kernel
theorem dX12_termOf_33 : decode cX12_termOf 33 = .ok (.ifCond .ne 13, 3) := by decide +kernel
theorem dX12_termOf_36 : decode cX12_termOf 36 = .ok (.aload_n 0, 1) := by decide +kernel
theorem dX12_termOf_37 : decode cX12_termOf 37 = .ok (.getfield 116, 3) := by decide +kernel
theorem dX12_termOf_40 : decode cX12_termOf 40 = .ok (.iload 4, 2) := by decide +kernel
theorem dX12_termOf_42 : decode cX12_termOf 42 = .ok (.iaload, 1) := by decide +kernel
theorem dX12_termOf_43 : decode cX12_termOf 43 = .ok (.goto 15, 3) := by decide +kernel
theorem dX12_termOf_46 : decode cX12_termOf 46 = .ok (.aload_n 0, 1) := by decide +kernel
theorem dX12_termOf_47 : decode cX12_termOf 47 = .ok (.getfield 122, 3) := by decide +kernel
theorem dX12_termOf_50 : decode cX12_termOf 50 = .ok (.aload_n 0, 1) := by decide +kernel
theorem dX12_termOf_51 : decode cX12_termOf 51 = .ok (.getfield 116, 3) := by decide +kernel
theorem dX12_termOf_54 : decode cX12_termOf 54 = .ok (.iload 4, 2) := by decide +kernel
theorem dX12_termOf_56 : decode cX12_termOf 56 = .ok (.iaload, 1) := by decide +kernel
theorem dX12_termOf_57 : decode cX12_termOf 57 = .ok (.iaload, 1) := by decide +kernel
theorem dX12_termOf_58 : decode cX12_termOf 58 = .ok (.iastore, 1) := by decide +kernel
theorem dX12_termOf_59 : decode cX12_termOf 59 = .ok (.iinc 3 1, 3) := by decide +kernel
theorem dX12_termOf_62 : decode cX12_termOf 62 = .ok (.goto 97, 3) := by decide +kernel
theorem dX12_termOf_65 : decode cX12_termOf 65 = .ok (.iinc 3 (-1), 3) := by decide +kernel
theorem dX12_termOf_68 : decode cX12_termOf 68 = .ok (.aload_n 0, 1) := by decide +kernel
theorem dX12_termOf_69 : decode cX12_termOf 69 = .ok (.getfield 125, 3) := by decide +kernel
theorem dX12_termOf_72 : decode cX12_termOf 72 = .ok (.iload_n 3, 1) := by decide +kernel
theorem dX12_termOf_73 : decode cX12_termOf 73 = .ok (.iconst 1, 1) := by decide +kernel
theorem dX12_termOf_74 : decode cX12_termOf 74 = .ok (.isub, 1) := by decide +kernel
theorem dX12_termOf_75 : decode cX12_termOf 75 = .ok (.iaload, 1) := by decide +kernel
theorem dX12_termOf_76 : decode cX12_termOf 76 = .ok (.istore 6, 2) := by decide +kernel
theorem dX12_termOf_78 : decode cX12_termOf 78 = .ok (.aload_n 0, 1) := by decide +kernel
theorem dX12_termOf_79 : decode cX12_termOf 79 = .ok (.getfield 125, 3) := by decide +kernel
theorem dX12_termOf_82 : decode cX12_termOf 82 = .ok (.iload_n 3, 1) := by decide +kernel
theorem dX12_termOf_83 : decode cX12_termOf 83 = .ok (.iaload, 1) := by decide +kernel
theorem dX12_termOf_84 : decode cX12_termOf 84 = .ok (.istore 7, 2) := by decide +kernel
theorem dX12_termOf_86 : decode cX12_termOf 86 = .ok (.iload 5, 2) := by decide +kernel
theorem dX12_termOf_88 : decode cX12_termOf 88 = .ok (.iconst 5, 1) := by decide +kernel
theorem dX12_termOf_89 : decode cX12_termOf 89 = .ok (.if_icmp .ne 15, 3) := by decide +kernel
theorem dX12_termOf_92 : decode cX12_termOf 92 = .ok (.iload 7, 2) := by decide +kernel
theorem dX12_termOf_94 : decode cX12_termOf 94 = .ok (.ifCond .ne 10, 3) := by decide +kernel
theorem dX12_termOf_97 : decode cX12_termOf 97 = .ok (.aload_n 0, 1) := by decide +kernel
theorem dX12_termOf_98 : decode cX12_termOf 98 = .ok (.iconst 1, 1) := by decide +kernel
theorem dX12_termOf_99 : decode cX12_termOf 99 = .ok (.putfield 331, 3) := by decide +kernel
theorem dX12_termOf_102 : decode cX12_termOf 102 = .ok (.iconst 0, 1) := by decide +kernel
theorem dX12_termOf_103 : decode cX12_termOf 103 = .ok (.ireturn, 1) := by decide +kernel
theorem dX12_termOf_104 : decode cX12_termOf 104 = .ok (.aload_n 0, 1) := by decide +kernel
theorem dX12_termOf_105 : decode cX12_termOf 105 = .ok (.getfield 125, 3) := by decide +kernel
theorem dX12_termOf_108 : decode cX12_termOf 108 = .ok (.iload_n 3, 1) := by decide +kernel
theorem dX12_termOf_109 : decode cX12_termOf 109 = .ok (.iconst 1, 1) := by decide +kernel
theorem dX12_termOf_110 : decode cX12_termOf 110 = .ok (.isub, 1) := by decide +kernel
theorem dX12_termOf_111 : decode cX12_termOf 111 = .ok (.iload 5, 2) := by decide +kernel
theorem dX12_termOf_113 : decode cX12_termOf 113 = .ok (.iconst 2, 1) := by decide +kernel
theorem dX12_termOf_114 : decode cX12_termOf 114 = .ok (.if_icmp .ne 11, 3) := by decide +kernel
theorem dX12_termOf_117 : decode cX12_termOf 117 = .ok (.iload 6, 2) := by decide +kernel
theorem dX12_termOf_119 : decode cX12_termOf 119 = .ok (.iload 7, 2) := by decide +kernel
theorem dX12_termOf_121 : decode cX12_termOf 121 = .ok (.iadd, 1) := by decide +kernel
theorem dX12_termOf_122 : decode cX12_termOf 122 = .ok (.goto 36, 3) := by decide +kernel
theorem dX12_termOf_125 : decode cX12_termOf 125 = .ok (.iload 5, 2) := by decide +kernel
theorem dX12_termOf_127 : decode cX12_termOf 127 = .ok (.iconst 3, 1) := by decide +kernel
theorem dX12_termOf_128 : decode cX12_termOf 128 = .ok (.if_icmp .ne 11, 3) := by decide +kernel
theorem dX12_termOf_131 : decode cX12_termOf 131 = .ok (.iload 6, 2) := by decide +kernel
theorem dX12_termOf_133 : decode cX12_termOf 133 = .ok (.iload 7, 2) := by decide +kernel
theorem dX12_termOf_135 : decode cX12_termOf 135 = .ok (.isub, 1) := by decide +kernel
theorem dX12_termOf_136 : decode cX12_termOf 136 = .ok (.goto 22, 3) := by decide +kernel
theorem dX12_termOf_139 : decode cX12_termOf 139 = .ok (.iload 5, 2) := by decide +kernel
theorem dX12_termOf_141 : decode cX12_termOf 141 = .ok (.iconst 4, 1) := by decide +kernel
theorem dX12_termOf_142 : decode cX12_termOf 142 = .ok (.if_icmp .ne 11, 3) := by decide +kernel
theorem dX12_termOf_145 : decode cX12_termOf 145 = .ok (.iload 6, 2) := by decide +kernel
theorem dX12_termOf_147 : decode cX12_termOf 147 = .ok (.iload 7, 2) := by decide +kernel
theorem dX12_termOf_149 : decode cX12_termOf 149 = .ok (.imul, 1) := by decide +kernel
theorem dX12_termOf_150 : decode cX12_termOf 150 = .ok (.goto 8, 3) := by decide +kernel
theorem dX12_termOf_153 : decode cX12_termOf 153 = .ok (.iload 6, 2) := by decide +kernel
theorem dX12_termOf_155 : decode cX12_termOf 155 = .ok (.iload 7, 2) := by decide +kernel
theorem dX12_termOf_157 : decode cX12_termOf 157 = .ok (.idiv, 1) := by decide +kernel
theorem dX12_termOf_158 : decode cX12_termOf 158 = .ok (.iastore, 1) := by decide +kernel
theorem dX12_termOf_159 : decode cX12_termOf 159 = .ok (.iinc 4 1, 3) := by decide +kernel
theorem dX12_termOf_162 : decode cX12_termOf 162 = .ok (.goto (-157), 3) := by decide +kernel
theorem dX12_termOf_165 : decode cX12_termOf 165 = .ok (.aload_n 0, 1) := by decide +kernel
theorem dX12_termOf_166 : decode cX12_termOf 166 = .ok (.getfield 125, 3) := by decide +kernel
theorem dX12_termOf_169 : decode cX12_termOf 169 = .ok (.iconst 0, 1) := by decide +kernel
theorem dX12_termOf_170 : decode cX12_termOf 170 = .ok (.iaload, 1) := by decide +kernel
theorem dX12_termOf_171 : decode cX12_termOf 171 = .ok (.ireturn, 1) := by decide +kernel
theorem dX12_in_0 : decode cX12_in 0 = .ok (.iload_n 0, 1) := by decide +kernel
theorem dX12_in_1 : decode cX12_in 1 = .ok (.iload_n 1, 1) := by decide +kernel
theorem dX12_in_2 : decode cX12_in 2 = .ok (.if_icmp .lt 12, 3) := by decide +kernel
theorem dX12_in_5 : decode cX12_in 5 = .ok (.iload_n 0, 1) := by decide +kernel
theorem dX12_in_6 : decode cX12_in 6 = .ok (.iload_n 2, 1) := by decide +kernel
theorem dX12_in_7 : decode cX12_in 7 = .ok (.if_icmp .gt 7, 3) := by decide +kernel
theorem dX12_in_10 : decode cX12_in 10 = .ok (.iconst 1, 1) := by decide +kernel
theorem dX12_in_11 : decode cX12_in 11 = .ok (.goto 4, 3) := by decide +kernel
theorem dX12_in_14 : decode cX12_in 14 = .ok (.iconst 0, 1) := by decide +kernel
theorem dX12_in_15 : decode cX12_in 15 = .ok (.ireturn, 1) := by decide +kernel
theorem dX12_isKind_0 : decode cX12_isKind 0 = .ok (.iload_n 1, 1) := by decide +kernel
theorem dX12_isKind_1 : decode cX12_isKind 1 = .ok (.iconst 0, 1) := by decide +kernel
theorem dX12_isKind_2 : decode cX12_isKind 2 = .ok (.aload_n 0, 1) := by decide +kernel
theorem dX12_isKind_3 : decode cX12_isKind 3 = .ok (.getfield 49, 3) := by decide +kernel
theorem dX12_isKind_6 : decode cX12_isKind 6 = .ok (.aload_n 0, 1) := by decide +kernel
theorem dX12_isKind_7 : decode cX12_isKind 7 = .ok (.getfield 264, 3) := by decide +kernel
theorem dX12_isKind_10 : decode cX12_isKind 10 = .ok (.iaload, 1) := by decide +kernel
theorem dX12_isKind_11 : decode cX12_isKind 11 = .ok (.iconst 1, 1) := by decide +kernel
theorem dX12_isKind_12 : decode cX12_isKind 12 = .ok (.isub, 1) := by decide +kernel
theorem dX12_isKind_13 : decode cX12_isKind 13 = .ok (.invokestatic 335, 3) := by decide +kernel
theorem dX12_isKind_16 : decode cX12_isKind 16 = .ok (.ireturn, 1) := by decide +kernel
theorem dX12_copies_0 : decode cX12_copies 0 = .ok (.iconst 0, 1) := by decide +kernel
theorem dX12_copies_1 : decode cX12_copies 1 = .ok (.istore_n 1, 1) := by decide +kernel
theorem dX12_copies_2 : decode cX12_copies 2 = .ok (.iload_n 1, 1) := by decide +kernel
theorem dX12_copies_3 : decode cX12_copies 3 = .ok (.bipush 30, 2) := by decide +kernel
theorem dX12_copies_5 : decode cX12_copies 5 = .ok (.if_icmp .ge 21, 3) := by decide +kernel
theorem dX12_copies_8 : decode cX12_copies 8 = .ok (.aload_n 0, 1) := by decide +kernel
theorem dX12_copies_9 : decode cX12_copies 9 = .ok (.getfield 131, 3) := by decide +kernel
theorem dX12_copies_12 : decode cX12_copies 12 = .ok (.iload_n 1, 1) := by decide +kernel
theorem dX12_copies_13 : decode cX12_copies 13 = .ok (.aload_n 0, 1) := by decide +kernel
theorem dX12_copies_14 : decode cX12_copies 14 = .ok (.getfield 128, 3) := by decide +kernel
theorem dX12_copies_17 : decode cX12_copies 17 = .ok (.iload_n 1, 1) := by decide +kernel
theorem dX12_copies_18 : decode cX12_copies 18 = .ok (.iaload, 1) := by decide +kernel
theorem dX12_copies_19 : decode cX12_copies 19 = .ok (.iastore, 1) := by decide +kernel
theorem dX12_copies_20 : decode cX12_copies 20 = .ok (.iinc 1 1, 3) := by decide +kernel
theorem dX12_copies_23 : decode cX12_copies 23 = .ok (.goto (-21), 3) := by decide +kernel
theorem dX12_copies_26 : decode cX12_copies 26 = .ok (.aload_n 0, 1) := by decide +kernel
theorem dX12_copies_27 : decode cX12_copies 27 = .ok (.aload_n 0, 1) := by decide +kernel
theorem dX12_copies_28 : decode cX12_copies 28 = .ok (.getfield 76, 3) := by decide +kernel
theorem dX12_copies_31 : decode cX12_copies 31 = .ok (.aload_n 0, 1) := by decide +kernel
theorem dX12_copies_32 : decode cX12_copies 32 = .ok (.getfield 264, 3) := by decide +kernel
theorem dX12_copies_35 : decode cX12_copies 35 = .ok (.iaload, 1) := by decide +kernel
theorem dX12_copies_36 : decode cX12_copies 36 = .ok (.putfield 339, 3) := by decide +kernel
theorem dX12_copies_39 : decode cX12_copies 39 = .ok (.aload_n 0, 1) := by decide +kernel
theorem dX12_copies_40 : decode cX12_copies 40 = .ok (.aload_n 0, 1) := by decide +kernel
theorem dX12_copies_41 : decode cX12_copies 41 = .ok (.getfield 88, 3) := by decide +kernel
theorem dX12_copies_44 : decode cX12_copies 44 = .ok (.aload_n 0, 1) := by decide +kernel
theorem dX12_copies_45 : decode cX12_copies 45 = .ok (.getfield 264, 3) := by decide +kernel
theorem dX12_copies_48 : decode cX12_copies 48 = .ok (.iaload, 1) := by decide +kernel
theorem dX12_copies_49 : decode cX12_copies 49 = .ok (.putfield 342, 3) := by decide +kernel
theorem dX12_copies_52 : decode cX12_copies 52 = .ok (.return_, 1) := by decide +kernel
theorem dX12_partner_0 : decode cX12_partner 0 = .ok (.aload_n 0, 1) := by decide +kernel
theorem dX12_partner_1 : decode cX12_partner 1 = .ok (.getfield 52, 3) := by decide +kernel
theorem dX12_partner_4 : decode cX12_partner 4 = .ok (.bipush 8, 2) := by decide +kernel
theorem dX12_partner_6 : decode cX12_partner 6 = .ok (.aload_n 0, 1) := by decide +kernel
theorem dX12_partner_7 : decode cX12_partner 7 = .ok (.getfield 264, 3) := by decide +kernel
theorem dX12_partner_10 : decode cX12_partner 10 = .ok (.imul, 1) := by decide +kernel
theorem dX12_partner_11 : decode cX12_partner 11 = .ok (.iload_n 1, 1) := by decide +kernel
theorem dX12_partner_12 : decode cX12_partner 12 = .ok (.iadd, 1) := by decide +kernel
theorem dX12_partner_13 : decode cX12_partner 13 = .ok (.iaload, 1) := by decide +kernel
theorem dX12_partner_14 : decode cX12_partner 14 = .ok (.ireturn, 1) := by decide +kernel
theorem dX12_sumOn_0 : decode cX12_sumOn 0 = .ok (.iconst 0, 1) := by decide +kernel
theorem dX12_sumOn_1 : decode cX12_sumOn 1 = .ok (.istore_n 2, 1) := by decide +kernel
theorem dX12_sumOn_2 : decode cX12_sumOn 2 = .ok (.iconst 0, 1) := by decide +kernel
theorem dX12_sumOn_3 : decode cX12_sumOn 3 = .ok (.istore_n 3, 1) := by decide +kernel
theorem dX12_sumOn_4 : decode cX12_sumOn 4 = .ok (.iload_n 3, 1) := by decide +kernel
theorem dX12_sumOn_5 : decode cX12_sumOn 5 = .ok (.bipush 8, 2) := by decide +kernel
theorem dX12_sumOn_7 : decode cX12_sumOn 7 = .ok (.if_icmp .ge 20, 3) := by decide +kernel
theorem dX12_sumOn_10 : decode cX12_sumOn 10 = .ok (.iload_n 2, 1) := by decide +kernel
theorem dX12_sumOn_11 : decode cX12_sumOn 11 = .ok (.aload_n 0, 1) := by decide +kernel
theorem dX12_sumOn_12 : decode cX12_sumOn 12 = .ok (.getfield 131, 3) := by decide +kernel
theorem dX12_sumOn_15 : decode cX12_sumOn 15 = .ok (.iload_n 1, 1) := by decide +kernel
theorem dX12_sumOn_16 : decode cX12_sumOn 16 = .ok (.iload_n 3, 1) := by decide +kernel
theorem dX12_sumOn_17 : decode cX12_sumOn 17 = .ok (.iadd, 1) := by decide +kernel
theorem dX12_sumOn_18 : decode cX12_sumOn 18 = .ok (.iaload, 1) := by decide +kernel
theorem dX12_sumOn_19 : decode cX12_sumOn 19 = .ok (.iadd, 1) := by decide +kernel
theorem dX12_sumOn_20 : decode cX12_sumOn 20 = .ok (.istore_n 2, 1) := by decide +kernel
theorem dX12_sumOn_21 : decode cX12_sumOn 21 = .ok (.iinc 3 1, 3) := by decide +kernel
theorem dX12_sumOn_24 : decode cX12_sumOn 24 = .ok (.goto (-20), 3) := by decide +kernel
theorem dX12_sumOn_27 : decode cX12_sumOn 27 = .ok (.iload_n 2, 1) := by decide +kernel
theorem dX12_sumOn_28 : decode cX12_sumOn 28 = .ok (.ireturn, 1) := by decide +kernel
theorem dX12_mixed_0 : decode cX12_mixed 0 = .ok (.iload_n 0, 1) := by decide +kernel
theorem dX12_mixed_1 : decode cX12_mixed 1 = .ok (.iload_n 1, 1) := by decide +kernel
theorem dX12_mixed_2 : decode cX12_mixed 2 = .ok (.ixor, 1) := by decide +kernel
theorem dX12_mixed_3 : decode cX12_mixed 3 = .ok (.ldc_w 345, 3) := by decide +kernel
theorem dX12_mixed_6 : decode cX12_mixed 6 = .ok (.imul, 1) := by decide +kernel
theorem dX12_mixed_7 : decode cX12_mixed 7 = .ok (.sipush 12345, 3) := by decide +kernel
theorem dX12_mixed_10 : decode cX12_mixed 10 = .ok (.iadd, 1) := by decide +kernel
theorem dX12_mixed_11 : decode cX12_mixed 11 = .ok (.istore_n 2, 1) := by decide +kernel
theorem dX12_mixed_12 : decode cX12_mixed 12 = .ok (.iload_n 2, 1) := by decide +kernel
theorem dX12_mixed_13 : decode cX12_mixed 13 = .ok (.iload_n 2, 1) := by decide +kernel
theorem dX12_mixed_14 : decode cX12_mixed 14 = .ok (.bipush 15, 2) := by decide +kernel
theorem dX12_mixed_16 : decode cX12_mixed 16 = .ok (.iushr, 1) := by decide +kernel
theorem dX12_mixed_17 : decode cX12_mixed 17 = .ok (.ixor, 1) := by decide +kernel
theorem dX12_mixed_18 : decode cX12_mixed 18 = .ok (.ireturn, 1) := by decide +kernel
theorem dX12_lotOf_0 : decode cX12_lotOf 0 = .ok (.iload_n 0, 1) := by decide +kernel
theorem dX12_lotOf_1 : decode cX12_lotOf 1 = .ok (.bipush 26, 2) := by decide +kernel
theorem dX12_lotOf_3 : decode cX12_lotOf 3 = .ok (.invokestatic 346, 3) := by decide +kernel
theorem dX12_lotOf_6 : decode cX12_lotOf 6 = .ok (.iload_n 1, 1) := by decide +kernel
theorem dX12_lotOf_7 : decode cX12_lotOf 7 = .ok (.invokestatic 346, 3) := by decide +kernel
theorem dX12_lotOf_10 : decode cX12_lotOf 10 = .ok (.iconst 1, 1) := by decide +kernel
theorem dX12_lotOf_11 : decode cX12_lotOf 11 = .ok (.iushr, 1) := by decide +kernel
theorem dX12_lotOf_12 : decode cX12_lotOf 12 = .ok (.iload_n 2, 1) := by decide +kernel
theorem dX12_lotOf_13 : decode cX12_lotOf 13 = .ok (.irem, 1) := by decide +kernel
theorem dX12_lotOf_14 : decode cX12_lotOf 14 = .ok (.ireturn, 1) := by decide +kernel
theorem dX12_goesBack_0 : decode cX12_goesBack 0 = .ok (.iconst (-1), 1) := by decide +kernel
theorem dX12_goesBack_1 : decode cX12_goesBack 1 = .ok (.istore_n 1, 1) := by decide +kernel
theorem dX12_goesBack_2 : decode cX12_goesBack 2 = .ok (.iconst 0, 1) := by decide +kernel
theorem dX12_goesBack_3 : decode cX12_goesBack 3 = .ok (.istore_n 2, 1) := by decide +kernel
theorem dX12_goesBack_4 : decode cX12_goesBack 4 = .ok (.iload_n 2, 1) := by decide +kernel
theorem dX12_goesBack_5 : decode cX12_goesBack 5 = .ok (.aload_n 0, 1) := by decide +kernel
theorem dX12_goesBack_6 : decode cX12_goesBack 6 = .ok (.getfield 49, 3) := by decide +kernel
theorem dX12_goesBack_9 : decode cX12_goesBack 9 = .ok (.aload_n 0, 1) := by decide +kernel
theorem dX12_goesBack_10 : decode cX12_goesBack 10 = .ok (.getfield 264, 3) := by decide +kernel
theorem dX12_goesBack_13 : decode cX12_goesBack 13 = .ok (.iaload, 1) := by decide +kernel
theorem dX12_goesBack_14 : decode cX12_goesBack 14 = .ok (.if_icmp .ge 80, 3) := by decide +kernel
theorem dX12_goesBack_17 : decode cX12_goesBack 17 = .ok (.aload_n 0, 1) := by decide +kernel
theorem dX12_goesBack_18 : decode cX12_goesBack 18 = .ok (.getfield 131, 3) := by decide +kernel
theorem dX12_goesBack_21 : decode cX12_goesBack 21 = .ok (.bipush 8, 2) := by decide +kernel
theorem dX12_goesBack_23 : decode cX12_goesBack 23 = .ok (.iload_n 2, 1) := by decide +kernel
theorem dX12_goesBack_24 : decode cX12_goesBack 24 = .ok (.iadd, 1) := by decide +kernel
theorem dX12_goesBack_25 : decode cX12_goesBack 25 = .ok (.iaload, 1) := by decide +kernel
theorem dX12_goesBack_26 : decode cX12_goesBack 26 = .ok (.ifCond .ne 6, 3) := by decide +kernel
theorem dX12_goesBack_29 : decode cX12_goesBack 29 = .ok (.goto 59, 3) := by decide +kernel
theorem dX12_goesBack_32 : decode cX12_goesBack 32 = .ok (.aload_n 0, 1) := by decide +kernel
theorem dX12_goesBack_33 : decode cX12_goesBack 33 = .ok (.getfield 131, 3) := by decide +kernel
theorem dX12_goesBack_36 : decode cX12_goesBack 36 = .ok (.aload_n 0, 1) := by decide +kernel
theorem dX12_goesBack_37 : decode cX12_goesBack 37 = .ok (.iload_n 2, 1) := by decide +kernel
theorem dX12_goesBack_38 : decode cX12_goesBack 38 = .ok (.invokevirtual 349, 3) := by decide +kernel
theorem dX12_goesBack_41 : decode cX12_goesBack 41 = .ok (.iaload, 1) := by decide +kernel
theorem dX12_goesBack_42 : decode cX12_goesBack 42 = .ok (.istore_n 3, 1) := by decide +kernel
theorem dX12_goesBack_43 : decode cX12_goesBack 43 = .ok (.iload_n 1, 1) := by decide +kernel
theorem dX12_goesBack_44 : decode cX12_goesBack 44 = .ok (.ifCond .lt 42, 3) := by decide +kernel
theorem dX12_goesBack_47 : decode cX12_goesBack 47 = .ok (.aload_n 0, 1) := by decide +kernel
theorem dX12_goesBack_48 : decode cX12_goesBack 48 = .ok (.getfield 339, 3) := by decide +kernel
theorem dX12_goesBack_51 : decode cX12_goesBack 51 = .ok (.iconst 2, 1) := by decide +kernel
theorem dX12_goesBack_52 : decode cX12_goesBack 52 = .ok (.if_icmp .ne 20, 3) := by decide +kernel
theorem dX12_goesBack_55 : decode cX12_goesBack 55 = .ok (.iload_n 3, 1) := by decide +kernel
theorem dX12_goesBack_56 : decode cX12_goesBack 56 = .ok (.aload_n 0, 1) := by decide +kernel
theorem dX12_goesBack_57 : decode cX12_goesBack 57 = .ok (.getfield 131, 3) := by decide +kernel
theorem dX12_goesBack_60 : decode cX12_goesBack 60 = .ok (.aload_n 0, 1) := by decide +kernel
theorem dX12_goesBack_61 : decode cX12_goesBack 61 = .ok (.iload_n 1, 1) := by decide +kernel
theorem dX12_goesBack_62 : decode cX12_goesBack 62 = .ok (.invokevirtual 349, 3) := by decide +kernel
theorem dX12_goesBack_65 : decode cX12_goesBack 65 = .ok (.iaload, 1) := by decide +kernel
theorem dX12_goesBack_66 : decode cX12_goesBack 66 = .ok (.if_icmp .ge 22, 3) := by decide +kernel
theorem dX12_goesBack_69 : decode cX12_goesBack 69 = .ok (.goto 17, 3) := by decide +kernel
theorem dX12_goesBack_72 : decode cX12_goesBack 72 = .ok (.iload_n 3, 1) := by decide +kernel
theorem dX12_goesBack_73 : decode cX12_goesBack 73 = .ok (.aload_n 0, 1) := by decide +kernel
theorem dX12_goesBack_74 : decode cX12_goesBack 74 = .ok (.getfield 131, 3) := by decide +kernel
theorem dX12_goesBack_77 : decode cX12_goesBack 77 = .ok (.aload_n 0, 1) := by decide +kernel
theorem dX12_goesBack_78 : decode cX12_goesBack 78 = .ok (.iload_n 1, 1) := by decide +kernel
theorem dX12_goesBack_79 : decode cX12_goesBack 79 = .ok (.invokevirtual 349, 3) := by decide +kernel
theorem dX12_goesBack_82 : decode cX12_goesBack 82 = .ok (.iaload, 1) := by decide +kernel
theorem dX12_goesBack_83 : decode cX12_goesBack 83 = .ok (.if_icmp .le 5, 3) := by decide +kernel
theorem dX12_goesBack_86 : decode cX12_goesBack 86 = .ok (.iload_n 2, 1) := by decide +kernel
theorem dX12_goesBack_87 : decode cX12_goesBack 87 = .ok (.istore_n 1, 1) := by decide +kernel
theorem dX12_goesBack_88 : decode cX12_goesBack 88 = .ok (.iinc 2 1, 3) := by decide +kernel
theorem dX12_goesBack_91 : decode cX12_goesBack 91 = .ok (.goto (-87), 3) := by decide +kernel
theorem dX12_goesBack_94 : decode cX12_goesBack 94 = .ok (.iload_n 1, 1) := by decide +kernel
theorem dX12_goesBack_95 : decode cX12_goesBack 95 = .ok (.ireturn, 1) := by decide +kernel
theorem dX12_draws_0 : decode cX12_draws 0 = .ok (.aload_n 0, 1) := by decide +kernel
theorem dX12_draws_1 : decode cX12_draws 1 = .ok (.getfield 131, 3) := by decide +kernel
theorem dX12_draws_4 : decode cX12_draws 4 = .ok (.bipush 24, 2) := by decide +kernel
theorem dX12_draws_6 : decode cX12_draws 6 = .ok (.dup2, 1) := by decide +kernel
theorem dX12_draws_7 : decode cX12_draws 7 = .ok (.iaload, 1) := by decide +kernel
theorem dX12_draws_8 : decode cX12_draws 8 = .ok (.iconst 1, 1) := by decide +kernel
theorem dX12_draws_9 : decode cX12_draws 9 = .ok (.iadd, 1) := by decide +kernel
theorem dX12_draws_10 : decode cX12_draws 10 = .ok (.iastore, 1) := by decide +kernel
theorem dX12_draws_11 : decode cX12_draws 11 = .ok (.aload_n 0, 1) := by decide +kernel
theorem dX12_draws_12 : decode cX12_draws 12 = .ok (.iload_n 1, 1) := by decide +kernel
theorem dX12_draws_13 : decode cX12_draws 13 = .ok (.invokevirtual 349, 3) := by decide +kernel
theorem dX12_draws_16 : decode cX12_draws 16 = .ok (.istore_n 2, 1) := by decide +kernel
theorem dX12_draws_17 : decode cX12_draws 17 = .ok (.aload_n 0, 1) := by decide +kernel
theorem dX12_draws_18 : decode cX12_draws 18 = .ok (.getfield 131, 3) := by decide +kernel
theorem dX12_draws_21 : decode cX12_draws 21 = .ok (.iload_n 1, 1) := by decide +kernel
theorem dX12_draws_22 : decode cX12_draws 22 = .ok (.dup2, 1) := by decide +kernel
theorem dX12_draws_23 : decode cX12_draws 23 = .ok (.iaload, 1) := by decide +kernel
theorem dX12_draws_24 : decode cX12_draws 24 = .ok (.iconst 1, 1) := by decide +kernel
theorem dX12_draws_25 : decode cX12_draws 25 = .ok (.isub, 1) := by decide +kernel
theorem dX12_draws_26 : decode cX12_draws 26 = .ok (.iastore, 1) := by decide +kernel
theorem dX12_draws_27 : decode cX12_draws 27 = .ok (.aload_n 0, 1) := by decide +kernel
theorem dX12_draws_28 : decode cX12_draws 28 = .ok (.getfield 131, 3) := by decide +kernel
theorem dX12_draws_31 : decode cX12_draws 31 = .ok (.bipush 8, 2) := by decide +kernel
theorem dX12_draws_33 : decode cX12_draws 33 = .ok (.iload_n 2, 1) := by decide +kernel
theorem dX12_draws_34 : decode cX12_draws 34 = .ok (.iadd, 1) := by decide +kernel
theorem dX12_draws_35 : decode cX12_draws 35 = .ok (.iaload, 1) := by decide +kernel
theorem dX12_draws_36 : decode cX12_draws 36 = .ok (.ifCond .le 49, 3) := by decide +kernel
theorem dX12_draws_39 : decode cX12_draws 39 = .ok (.aload_n 0, 1) := by decide +kernel
theorem dX12_draws_40 : decode cX12_draws 40 = .ok (.getfield 131, 3) := by decide +kernel
theorem dX12_draws_43 : decode cX12_draws 43 = .ok (.bipush 8, 2) := by decide +kernel
theorem dX12_draws_45 : decode cX12_draws 45 = .ok (.iload_n 2, 1) := by decide +kernel
theorem dX12_draws_46 : decode cX12_draws 46 = .ok (.iadd, 1) := by decide +kernel
theorem dX12_draws_47 : decode cX12_draws 47 = .ok (.dup2, 1) := by decide +kernel
theorem dX12_draws_48 : decode cX12_draws 48 = .ok (.iaload, 1) := by decide +kernel
theorem dX12_draws_49 : decode cX12_draws 49 = .ok (.iconst 1, 1) := by decide +kernel
theorem dX12_draws_50 : decode cX12_draws 50 = .ok (.isub, 1) := by decide +kernel
theorem dX12_draws_51 : decode cX12_draws 51 = .ok (.iastore, 1) := by decide +kernel
theorem dX12_draws_52 : decode cX12_draws 52 = .ok (.aload_n 0, 1) := by decide +kernel
theorem dX12_draws_53 : decode cX12_draws 53 = .ok (.getfield 131, 3) := by decide +kernel
theorem dX12_draws_56 : decode cX12_draws 56 = .ok (.bipush 16, 2) := by decide +kernel
theorem dX12_draws_58 : decode cX12_draws 58 = .ok (.iload_n 1, 1) := by decide +kernel
theorem dX12_draws_59 : decode cX12_draws 59 = .ok (.iadd, 1) := by decide +kernel
theorem dX12_draws_60 : decode cX12_draws 60 = .ok (.dup2, 1) := by decide +kernel
theorem dX12_draws_61 : decode cX12_draws 61 = .ok (.iaload, 1) := by decide +kernel
theorem dX12_draws_62 : decode cX12_draws 62 = .ok (.iconst 1, 1) := by decide +kernel
theorem dX12_draws_63 : decode cX12_draws 63 = .ok (.iadd, 1) := by decide +kernel
theorem dX12_draws_64 : decode cX12_draws 64 = .ok (.iastore, 1) := by decide +kernel
theorem dX12_draws_65 : decode cX12_draws 65 = .ok (.iload_n 2, 1) := by decide +kernel
theorem dX12_draws_66 : decode cX12_draws 66 = .ok (.iload_n 1, 1) := by decide +kernel
theorem dX12_draws_67 : decode cX12_draws 67 = .ok (.if_icmp .eq 16, 3) := by decide +kernel
theorem dX12_draws_70 : decode cX12_draws 70 = .ok (.aload_n 0, 1) := by decide +kernel
theorem dX12_draws_71 : decode cX12_draws 71 = .ok (.getfield 131, 3) := by decide +kernel
theorem dX12_draws_74 : decode cX12_draws 74 = .ok (.bipush 16, 2) := by decide +kernel
theorem dX12_draws_76 : decode cX12_draws 76 = .ok (.iload_n 2, 1) := by decide +kernel
theorem dX12_draws_77 : decode cX12_draws 77 = .ok (.iadd, 1) := by decide +kernel
theorem dX12_draws_78 : decode cX12_draws 78 = .ok (.dup2, 1) := by decide +kernel
theorem dX12_draws_79 : decode cX12_draws 79 = .ok (.iaload, 1) := by decide +kernel
theorem dX12_draws_80 : decode cX12_draws 80 = .ok (.iconst 1, 1) := by decide +kernel
theorem dX12_draws_81 : decode cX12_draws 81 = .ok (.iadd, 1) := by decide +kernel
theorem dX12_draws_82 : decode cX12_draws 82 = .ok (.iastore, 1) := by decide +kernel
theorem dX12_draws_83 : decode cX12_draws 83 = .ok (.iconst 1, 1) := by decide +kernel
theorem dX12_draws_84 : decode cX12_draws 84 = .ok (.ireturn, 1) := by decide +kernel
theorem dX12_draws_85 : decode cX12_draws 85 = .ok (.aload_n 0, 1) := by decide +kernel
theorem dX12_draws_86 : decode cX12_draws 86 = .ok (.bipush 8, 2) := by decide +kernel
theorem dX12_draws_88 : decode cX12_draws 88 = .ok (.invokevirtual 352, 3) := by decide +kernel
theorem dX12_draws_91 : decode cX12_draws 91 = .ok (.aload_n 0, 1) := by decide +kernel
theorem dX12_draws_92 : decode cX12_draws 92 = .ok (.getfield 73, 3) := by decide +kernel
theorem dX12_draws_95 : decode cX12_draws 95 = .ok (.aload_n 0, 1) := by decide +kernel
theorem dX12_draws_96 : decode cX12_draws 96 = .ok (.getfield 264, 3) := by decide +kernel
theorem dX12_draws_99 : decode cX12_draws 99 = .ok (.iaload, 1) := by decide +kernel
theorem dX12_draws_100 : decode cX12_draws 100 = .ok (.if_icmp .ge 18, 3) := by decide +kernel
theorem dX12_draws_103 : decode cX12_draws 103 = .ok (.aload_n 0, 1) := by decide +kernel
theorem dX12_draws_104 : decode cX12_draws 104 = .ok (.getfield 131, 3) := by decide +kernel
theorem dX12_draws_107 : decode cX12_draws 107 = .ok (.bipush 8, 2) := by decide +kernel
theorem dX12_draws_109 : decode cX12_draws 109 = .ok (.iload_n 1, 1) := by decide +kernel
theorem dX12_draws_110 : decode cX12_draws 110 = .ok (.iadd, 1) := by decide +kernel
theorem dX12_draws_111 : decode cX12_draws 111 = .ok (.dup2, 1) := by decide +kernel
theorem dX12_draws_112 : decode cX12_draws 112 = .ok (.iaload, 1) := by decide +kernel
theorem dX12_draws_113 : decode cX12_draws 113 = .ok (.iconst 1, 1) := by decide +kernel
theorem dX12_draws_114 : decode cX12_draws 114 = .ok (.iadd, 1) := by decide +kernel
theorem dX12_draws_115 : decode cX12_draws 115 = .ok (.iastore, 1) := by decide +kernel
theorem dX12_draws_116 : decode cX12_draws 116 = .ok (.iconst 0, 1) := by decide +kernel
theorem dX12_draws_117 : decode cX12_draws 117 = .ok (.ireturn, 1) := by decide +kernel
theorem dX12_draws_118 : decode cX12_draws 118 = .ok (.aload_n 0, 1) := by decide +kernel
theorem dX12_draws_119 : decode cX12_draws 119 = .ok (.getfield 339, 3) := by decide +kernel
theorem dX12_draws_122 : decode cX12_draws 122 = .ok (.iconst 2, 1) := by decide +kernel
theorem dX12_draws_123 : decode cX12_draws 123 = .ok (.if_icmp .ge 31, 3) := by decide +kernel
theorem dX12_draws_126 : decode cX12_draws 126 = .ok (.aload_n 0, 1) := by decide +kernel
theorem dX12_draws_127 : decode cX12_draws 127 = .ok (.getfield 131, 3) := by decide +kernel
theorem dX12_draws_130 : decode cX12_draws 130 = .ok (.iload_n 1, 1) := by decide +kernel
theorem dX12_draws_131 : decode cX12_draws 131 = .ok (.dup2, 1) := by decide +kernel
theorem dX12_draws_132 : decode cX12_draws 132 = .ok (.iaload, 1) := by decide +kernel
theorem dX12_draws_133 : decode cX12_draws 133 = .ok (.iconst 1, 1) := by decide +kernel
theorem dX12_draws_134 : decode cX12_draws 134 = .ok (.iadd, 1) := by decide +kernel
theorem dX12_draws_135 : decode cX12_draws 135 = .ok (.iastore, 1) := by decide +kernel
theorem dX12_draws_136 : decode cX12_draws 136 = .ok (.aload_n 0, 1) := by decide +kernel
theorem dX12_draws_137 : decode cX12_draws 137 = .ok (.getfield 339, 3) := by decide +kernel
theorem dX12_draws_140 : decode cX12_draws 140 = .ok (.iconst 1, 1) := by decide +kernel
theorem dX12_draws_141 : decode cX12_draws 141 = .ok (.if_icmp .ne 11, 3) := by decide +kernel
theorem dX12_draws_144 : decode cX12_draws 144 = .ok (.aload_n 0, 1) := by decide +kernel
theorem dX12_draws_145 : decode cX12_draws 145 = .ok (.getfield 131, 3) := by decide +kernel
theorem dX12_draws_148 : decode cX12_draws 148 = .ok (.bipush 25, 2) := by decide +kernel
theorem dX12_draws_150 : decode cX12_draws 150 = .ok (.iconst 1, 1) := by decide +kernel
theorem dX12_draws_151 : decode cX12_draws 151 = .ok (.iastore, 1) := by decide +kernel
theorem dX12_draws_152 : decode cX12_draws 152 = .ok (.iconst 2, 1) := by decide +kernel
theorem dX12_draws_153 : decode cX12_draws 153 = .ok (.ireturn, 1) := by decide +kernel
theorem dX12_draws_154 : decode cX12_draws 154 = .ok (.aload_n 0, 1) := by decide +kernel
theorem dX12_draws_155 : decode cX12_draws 155 = .ok (.invokevirtual 355, 3) := by decide +kernel
theorem dX12_draws_158 : decode cX12_draws 158 = .ok (.istore_n 3, 1) := by decide +kernel
theorem dX12_draws_159 : decode cX12_draws 159 = .ok (.aload_n 0, 1) := by decide +kernel
theorem dX12_draws_160 : decode cX12_draws 160 = .ok (.getfield 131, 3) := by decide +kernel
theorem dX12_draws_163 : decode cX12_draws 163 = .ok (.bipush 8, 2) := by decide +kernel
theorem dX12_draws_165 : decode cX12_draws 165 = .ok (.iload_n 3, 1) := by decide +kernel
theorem dX12_draws_166 : decode cX12_draws 166 = .ok (.iadd, 1) := by decide +kernel
theorem dX12_draws_167 : decode cX12_draws 167 = .ok (.dup2, 1) := by decide +kernel
theorem dX12_draws_168 : decode cX12_draws 168 = .ok (.iaload, 1) := by decide +kernel
theorem dX12_draws_169 : decode cX12_draws 169 = .ok (.iconst 1, 1) := by decide +kernel
theorem dX12_draws_170 : decode cX12_draws 170 = .ok (.isub, 1) := by decide +kernel
theorem dX12_draws_171 : decode cX12_draws 171 = .ok (.iastore, 1) := by decide +kernel
theorem dX12_draws_172 : decode cX12_draws 172 = .ok (.aload_n 0, 1) := by decide +kernel
theorem dX12_draws_173 : decode cX12_draws 173 = .ok (.getfield 131, 3) := by decide +kernel
theorem dX12_draws_176 : decode cX12_draws 176 = .ok (.iload_n 3, 1) := by decide +kernel
theorem dX12_draws_177 : decode cX12_draws 177 = .ok (.dup2, 1) := by decide +kernel
theorem dX12_draws_178 : decode cX12_draws 178 = .ok (.iaload, 1) := by decide +kernel
theorem dX12_draws_179 : decode cX12_draws 179 = .ok (.iconst 1, 1) := by decide +kernel
theorem dX12_draws_180 : decode cX12_draws 180 = .ok (.iadd, 1) := by decide +kernel
theorem dX12_draws_181 : decode cX12_draws 181 = .ok (.iastore, 1) := by decide +kernel
theorem dX12_draws_182 : decode cX12_draws 182 = .ok (.aload_n 0, 1) := by decide +kernel
theorem dX12_draws_183 : decode cX12_draws 183 = .ok (.getfield 131, 3) := by decide +kernel
theorem dX12_draws_186 : decode cX12_draws 186 = .ok (.bipush 8, 2) := by decide +kernel
theorem dX12_draws_188 : decode cX12_draws 188 = .ok (.iload_n 1, 1) := by decide +kernel
theorem dX12_draws_189 : decode cX12_draws 189 = .ok (.iadd, 1) := by decide +kernel
theorem dX12_draws_190 : decode cX12_draws 190 = .ok (.dup2, 1) := by decide +kernel
theorem dX12_draws_191 : decode cX12_draws 191 = .ok (.iaload, 1) := by decide +kernel
theorem dX12_draws_192 : decode cX12_draws 192 = .ok (.iconst 1, 1) := by decide +kernel
theorem dX12_draws_193 : decode cX12_draws 193 = .ok (.iadd, 1) := by decide +kernel
theorem dX12_draws_194 : decode cX12_draws 194 = .ok (.iastore, 1) := by decide +kernel
theorem dX12_draws_195 : decode cX12_draws 195 = .ok (.iconst 2, 1) := by decide +kernel
theorem dX12_draws_196 : decode cX12_draws 196 = .ok (.ireturn, 1) := by decide +kernel
theorem dX12_kindByLot_0 : decode cX12_kindByLot 0 = .ok (.aload_n 0, 1) := by decide +kernel
theorem dX12_kindByLot_1 : decode cX12_kindByLot 1 = .ok (.getfield 342, 3) := by decide +kernel
theorem dX12_kindByLot_4 : decode cX12_kindByLot 4 = .ok (.aload_n 0, 1) := by decide +kernel
theorem dX12_kindByLot_5 : decode cX12_kindByLot 5 = .ok (.getfield 131, 3) := by decide +kernel
theorem dX12_kindByLot_8 : decode cX12_kindByLot 8 = .ok (.bipush 24, 2) := by decide +kernel
theorem dX12_kindByLot_10 : decode cX12_kindByLot 10 = .ok (.iaload, 1) := by decide +kernel
theorem dX12_kindByLot_11 : decode cX12_kindByLot 11 = .ok (.aload_n 0, 1) := by decide +kernel
theorem dX12_kindByLot_12 : decode cX12_kindByLot 12 = .ok (.iconst 0, 1) := by decide +kernel
theorem dX12_kindByLot_13 : decode cX12_kindByLot 13 = .ok (.invokevirtual 352, 3) := by decide +kernel
theorem dX12_kindByLot_16 : decode cX12_kindByLot 16 = .ok (.invokestatic 358, 3) := by decide +kernel
theorem dX12_kindByLot_19 : decode cX12_kindByLot 19 = .ok (.istore_n 1, 1) := by decide +kernel
theorem dX12_kindByLot_20 : decode cX12_kindByLot 20 = .ok (.iconst 0, 1) := by decide +kernel
theorem dX12_kindByLot_21 : decode cX12_kindByLot 21 = .ok (.istore_n 2, 1) := by decide +kernel
theorem dX12_kindByLot_22 : decode cX12_kindByLot 22 = .ok (.iload_n 1, 1) := by decide +kernel
theorem dX12_kindByLot_23 : decode cX12_kindByLot 23 = .ok (.aload_n 0, 1) := by decide +kernel
theorem dX12_kindByLot_24 : decode cX12_kindByLot 24 = .ok (.getfield 131, 3) := by decide +kernel
theorem dX12_kindByLot_27 : decode cX12_kindByLot 27 = .ok (.iload_n 2, 1) := by decide +kernel
theorem dX12_kindByLot_28 : decode cX12_kindByLot 28 = .ok (.iaload, 1) := by decide +kernel
theorem dX12_kindByLot_29 : decode cX12_kindByLot 29 = .ok (.if_icmp .lt 18, 3) := by decide +kernel
theorem dX12_kindByLot_32 : decode cX12_kindByLot 32 = .ok (.iload_n 1, 1) := by decide +kernel
theorem dX12_kindByLot_33 : decode cX12_kindByLot 33 = .ok (.aload_n 0, 1) := by decide +kernel
theorem dX12_kindByLot_34 : decode cX12_kindByLot 34 = .ok (.getfield 131, 3) := by decide +kernel
theorem dX12_kindByLot_37 : decode cX12_kindByLot 37 = .ok (.iload_n 2, 1) := by decide +kernel
theorem dX12_kindByLot_38 : decode cX12_kindByLot 38 = .ok (.iaload, 1) := by decide +kernel
theorem dX12_kindByLot_39 : decode cX12_kindByLot 39 = .ok (.isub, 1) := by decide +kernel
theorem dX12_kindByLot_40 : decode cX12_kindByLot 40 = .ok (.istore_n 1, 1) := by decide +kernel
theorem dX12_kindByLot_41 : decode cX12_kindByLot 41 = .ok (.iinc 2 1, 3) := by decide +kernel
theorem dX12_kindByLot_44 : decode cX12_kindByLot 44 = .ok (.goto (-22), 3) := by decide +kernel
theorem dX12_kindByLot_47 : decode cX12_kindByLot 47 = .ok (.iload_n 2, 1) := by decide +kernel
theorem dX12_kindByLot_48 : decode cX12_kindByLot 48 = .ok (.ireturn, 1) := by decide +kernel
theorem dX12_kind_0 : decode cX12_kind 0 = .ok (.aload_n 0, 1) := by decide +kernel
theorem dX12_kind_1 : decode cX12_kind 1 = .ok (.iload_n 1, 1) := by decide +kernel
theorem dX12_kind_2 : decode cX12_kind 2 = .ok (.invokevirtual 361, 3) := by decide +kernel
theorem dX12_kind_5 : decode cX12_kind 5 = .ok (.ifCond .ne 5, 3) := by decide +kernel
theorem dX12_kind_8 : decode cX12_kind 8 = .ok (.iconst (-1), 1) := by decide +kernel
theorem dX12_kind_9 : decode cX12_kind 9 = .ok (.ireturn, 1) := by decide +kernel
theorem dX12_kind_10 : decode cX12_kind 10 = .ok (.iload_n 2, 1) := by decide +kernel
theorem dX12_kind_11 : decode cX12_kind 11 = .ok (.tableswitch 100 0 5 #[37, 44, 54, 69, 75, 85], 37) := by decide +kernel
theorem dX12_kind_48 : decode cX12_kind 48 = .ok (.aload_n 0, 1) := by decide +kernel
theorem dX12_kind_49 : decode cX12_kind 49 = .ok (.getfield 128, 3) := by decide +kernel
theorem dX12_kind_52 : decode cX12_kind 52 = .ok (.iload_n 1, 1) := by decide +kernel
theorem dX12_kind_53 : decode cX12_kind 53 = .ok (.iaload, 1) := by decide +kernel
theorem dX12_kind_54 : decode cX12_kind 54 = .ok (.ireturn, 1) := by decide +kernel
theorem dX12_kind_55 : decode cX12_kind 55 = .ok (.aload_n 0, 1) := by decide +kernel
theorem dX12_kind_56 : decode cX12_kind 56 = .ok (.getfield 128, 3) := by decide +kernel
theorem dX12_kind_59 : decode cX12_kind 59 = .ok (.bipush 8, 2) := by decide +kernel
theorem dX12_kind_61 : decode cX12_kind 61 = .ok (.iload_n 1, 1) := by decide +kernel
theorem dX12_kind_62 : decode cX12_kind 62 = .ok (.iadd, 1) := by decide +kernel
theorem dX12_kind_63 : decode cX12_kind 63 = .ok (.iaload, 1) := by decide +kernel
theorem dX12_kind_64 : decode cX12_kind 64 = .ok (.ireturn, 1) := by decide +kernel
theorem dX12_kind_65 : decode cX12_kind 65 = .ok (.aload_n 0, 1) := by decide +kernel
theorem dX12_kind_66 : decode cX12_kind 66 = .ok (.getfield 55, 3) := by decide +kernel
theorem dX12_kind_69 : decode cX12_kind 69 = .ok (.bipush 8, 2) := by decide +kernel
theorem dX12_kind_71 : decode cX12_kind 71 = .ok (.aload_n 0, 1) := by decide +kernel
theorem dX12_kind_72 : decode cX12_kind 72 = .ok (.getfield 264, 3) := by decide +kernel
theorem dX12_kind_75 : decode cX12_kind 75 = .ok (.imul, 1) := by decide +kernel
theorem dX12_kind_76 : decode cX12_kind 76 = .ok (.iload_n 1, 1) := by decide +kernel
theorem dX12_kind_77 : decode cX12_kind 77 = .ok (.iadd, 1) := by decide +kernel
theorem dX12_kind_78 : decode cX12_kind 78 = .ok (.iaload, 1) := by decide +kernel
theorem dX12_kind_79 : decode cX12_kind 79 = .ok (.ireturn, 1) := by decide +kernel
theorem dX12_kind_80 : decode cX12_kind 80 = .ok (.aload_n 0, 1) := by decide +kernel
theorem dX12_kind_81 : decode cX12_kind 81 = .ok (.iload_n 1, 1) := by decide +kernel
theorem dX12_kind_82 : decode cX12_kind 82 = .ok (.invokevirtual 349, 3) := by decide +kernel
theorem dX12_kind_85 : decode cX12_kind 85 = .ok (.ireturn, 1) := by decide +kernel
theorem dX12_kind_86 : decode cX12_kind 86 = .ok (.aload_n 0, 1) := by decide +kernel
theorem dX12_kind_87 : decode cX12_kind 87 = .ok (.getfield 128, 3) := by decide +kernel
theorem dX12_kind_90 : decode cX12_kind 90 = .ok (.bipush 16, 2) := by decide +kernel
theorem dX12_kind_92 : decode cX12_kind 92 = .ok (.iload_n 1, 1) := by decide +kernel
theorem dX12_kind_93 : decode cX12_kind 93 = .ok (.iadd, 1) := by decide +kernel
theorem dX12_kind_94 : decode cX12_kind 94 = .ok (.iaload, 1) := by decide +kernel
theorem dX12_kind_95 : decode cX12_kind 95 = .ok (.ireturn, 1) := by decide +kernel
theorem dX12_kind_96 : decode cX12_kind 96 = .ok (.aload_n 0, 1) := by decide +kernel
theorem dX12_kind_97 : decode cX12_kind 97 = .ok (.getfield 58, 3) := by decide +kernel
theorem dX12_kind_100 : decode cX12_kind 100 = .ok (.bipush 8, 2) := by decide +kernel
theorem dX12_kind_102 : decode cX12_kind 102 = .ok (.aload_n 0, 1) := by decide +kernel
theorem dX12_kind_103 : decode cX12_kind 103 = .ok (.getfield 264, 3) := by decide +kernel
theorem dX12_kind_106 : decode cX12_kind 106 = .ok (.imul, 1) := by decide +kernel
theorem dX12_kind_107 : decode cX12_kind 107 = .ok (.iload_n 1, 1) := by decide +kernel
theorem dX12_kind_108 : decode cX12_kind 108 = .ok (.iadd, 1) := by decide +kernel
theorem dX12_kind_109 : decode cX12_kind 109 = .ok (.iaload, 1) := by decide +kernel
theorem dX12_kind_110 : decode cX12_kind 110 = .ok (.ireturn, 1) := by decide +kernel
theorem dX12_kind_111 : decode cX12_kind 111 = .ok (.iconst (-1), 1) := by decide +kernel
theorem dX12_kind_112 : decode cX12_kind 112 = .ok (.ireturn, 1) := by decide +kernel
theorem dX12_unlike_0 : decode cX12_unlike 0 = .ok (.iload_n 1, 1) := by decide +kernel
theorem dX12_unlike_1 : decode cX12_unlike 1 = .ok (.iconst 0, 1) := by decide +kernel
theorem dX12_unlike_2 : decode cX12_unlike 2 = .ok (.aload_n 0, 1) := by decide +kernel
theorem dX12_unlike_3 : decode cX12_unlike 3 = .ok (.getfield 40, 3) := by decide +kernel
theorem dX12_unlike_6 : decode cX12_unlike 6 = .ok (.aload_n 0, 1) := by decide +kernel
theorem dX12_unlike_7 : decode cX12_unlike 7 = .ok (.getfield 264, 3) := by decide +kernel
theorem dX12_unlike_10 : decode cX12_unlike 10 = .ok (.iaload, 1) := by decide +kernel
theorem dX12_unlike_11 : decode cX12_unlike 11 = .ok (.iconst 1, 1) := by decide +kernel
theorem dX12_unlike_12 : decode cX12_unlike 12 = .ok (.isub, 1) := by decide +kernel
theorem dX12_unlike_13 : decode cX12_unlike 13 = .ok (.invokestatic 335, 3) := by decide +kernel
theorem dX12_unlike_16 : decode cX12_unlike 16 = .ok (.ifCond .eq 22, 3) := by decide +kernel
theorem dX12_unlike_19 : decode cX12_unlike 19 = .ok (.iload_n 2, 1) := by decide +kernel
theorem dX12_unlike_20 : decode cX12_unlike 20 = .ok (.iconst 0, 1) := by decide +kernel
theorem dX12_unlike_21 : decode cX12_unlike 21 = .ok (.aload_n 0, 1) := by decide +kernel
theorem dX12_unlike_22 : decode cX12_unlike 22 = .ok (.getfield 40, 3) := by decide +kernel
theorem dX12_unlike_25 : decode cX12_unlike 25 = .ok (.aload_n 0, 1) := by decide +kernel
theorem dX12_unlike_26 : decode cX12_unlike 26 = .ok (.getfield 264, 3) := by decide +kernel
theorem dX12_unlike_29 : decode cX12_unlike 29 = .ok (.iaload, 1) := by decide +kernel
theorem dX12_unlike_30 : decode cX12_unlike 30 = .ok (.iconst 1, 1) := by decide +kernel
theorem dX12_unlike_31 : decode cX12_unlike 31 = .ok (.isub, 1) := by decide +kernel
theorem dX12_unlike_32 : decode cX12_unlike 32 = .ok (.invokestatic 335, 3) := by decide +kernel
theorem dX12_unlike_35 : decode cX12_unlike 35 = .ok (.ifCond .ne 5, 3) := by decide +kernel
theorem dX12_unlike_38 : decode cX12_unlike 38 = .ok (.iconst (-1), 1) := by decide +kernel
theorem dX12_unlike_39 : decode cX12_unlike 39 = .ok (.ireturn, 1) := by decide +kernel
theorem dX12_unlike_40 : decode cX12_unlike 40 = .ok (.aload_n 0, 1) := by decide +kernel
theorem dX12_unlike_41 : decode cX12_unlike 41 = .ok (.getfield 67, 3) := by decide +kernel
theorem dX12_unlike_44 : decode cX12_unlike 44 = .ok (.bipush 64, 2) := by decide +kernel
theorem dX12_unlike_46 : decode cX12_unlike 46 = .ok (.aload_n 0, 1) := by decide +kernel
theorem dX12_unlike_47 : decode cX12_unlike 47 = .ok (.getfield 264, 3) := by decide +kernel
theorem dX12_unlike_50 : decode cX12_unlike 50 = .ok (.imul, 1) := by decide +kernel
theorem dX12_unlike_51 : decode cX12_unlike 51 = .ok (.bipush 8, 2) := by decide +kernel
theorem dX12_unlike_53 : decode cX12_unlike 53 = .ok (.iload_n 1, 1) := by decide +kernel
theorem dX12_unlike_54 : decode cX12_unlike 54 = .ok (.imul, 1) := by decide +kernel
theorem dX12_unlike_55 : decode cX12_unlike 55 = .ok (.iadd, 1) := by decide +kernel
theorem dX12_unlike_56 : decode cX12_unlike 56 = .ok (.iload_n 2, 1) := by decide +kernel
theorem dX12_unlike_57 : decode cX12_unlike 57 = .ok (.iadd, 1) := by decide +kernel
theorem dX12_unlike_58 : decode cX12_unlike 58 = .ok (.iaload, 1) := by decide +kernel
theorem dX12_unlike_59 : decode cX12_unlike 59 = .ok (.ireturn, 1) := by decide +kernel
theorem dX12_keeps_0 : decode cX12_keeps 0 = .ok (.aload_n 0, 1) := by decide +kernel
theorem dX12_keeps_1 : decode cX12_keeps 1 = .ok (.getfield 279, 3) := by decide +kernel
theorem dX12_keeps_4 : decode cX12_keeps 4 = .ok (.bipush 40, 2) := by decide +kernel
theorem dX12_keeps_6 : decode cX12_keeps 6 = .ok (.if_icmp .ne 43, 3) := by decide +kernel
theorem dX12_keeps_9 : decode cX12_keeps 9 = .ok (.iconst 0, 1) := by decide +kernel
theorem dX12_keeps_10 : decode cX12_keeps 10 = .ok (.istore_n 1, 1) := by decide +kernel
theorem dX12_keeps_11 : decode cX12_keeps 11 = .ok (.iload_n 1, 1) := by decide +kernel
theorem dX12_keeps_12 : decode cX12_keeps 12 = .ok (.sipush 1170, 3) := by decide +kernel
theorem dX12_keeps_15 : decode cX12_keeps 15 = .ok (.if_icmp .ge 24, 3) := by decide +kernel
theorem dX12_keeps_18 : decode cX12_keeps 18 = .ok (.aload_n 0, 1) := by decide +kernel
theorem dX12_keeps_19 : decode cX12_keeps 19 = .ok (.getfield 134, 3) := by decide +kernel
theorem dX12_keeps_22 : decode cX12_keeps 22 = .ok (.iload_n 1, 1) := by decide +kernel
theorem dX12_keeps_23 : decode cX12_keeps 23 = .ok (.aload_n 0, 1) := by decide +kernel
theorem dX12_keeps_24 : decode cX12_keeps 24 = .ok (.getfield 134, 3) := by decide +kernel
theorem dX12_keeps_27 : decode cX12_keeps 27 = .ok (.iload_n 1, 1) := by decide +kernel
theorem dX12_keeps_28 : decode cX12_keeps 28 = .ok (.bipush 30, 2) := by decide +kernel
theorem dX12_keeps_30 : decode cX12_keeps 30 = .ok (.iadd, 1) := by decide +kernel
theorem dX12_keeps_31 : decode cX12_keeps 31 = .ok (.iaload, 1) := by decide +kernel
theorem dX12_keeps_32 : decode cX12_keeps 32 = .ok (.iastore, 1) := by decide +kernel
theorem dX12_keeps_33 : decode cX12_keeps 33 = .ok (.iinc 1 1, 3) := by decide +kernel
theorem dX12_keeps_36 : decode cX12_keeps 36 = .ok (.goto (-25), 3) := by decide +kernel
theorem dX12_keeps_39 : decode cX12_keeps 39 = .ok (.aload_n 0, 1) := by decide +kernel
theorem dX12_keeps_40 : decode cX12_keeps 40 = .ok (.dup, 1) := by decide +kernel
theorem dX12_keeps_41 : decode cX12_keeps 41 = .ok (.getfield 279, 3) := by decide +kernel
theorem dX12_keeps_44 : decode cX12_keeps 44 = .ok (.iconst 1, 1) := by decide +kernel
theorem dX12_keeps_45 : decode cX12_keeps 45 = .ok (.isub, 1) := by decide +kernel
theorem dX12_keeps_46 : decode cX12_keeps 46 = .ok (.putfield 279, 3) := by decide +kernel
theorem dX12_keeps_49 : decode cX12_keeps 49 = .ok (.iconst 0, 1) := by decide +kernel
theorem dX12_keeps_50 : decode cX12_keeps 50 = .ok (.istore_n 1, 1) := by decide +kernel
theorem dX12_keeps_51 : decode cX12_keeps 51 = .ok (.iload_n 1, 1) := by decide +kernel
theorem dX12_keeps_52 : decode cX12_keeps 52 = .ok (.bipush 30, 2) := by decide +kernel
theorem dX12_keeps_54 : decode cX12_keeps 54 = .ok (.if_icmp .ge 29, 3) := by decide +kernel
theorem dX12_keeps_57 : decode cX12_keeps 57 = .ok (.aload_n 0, 1) := by decide +kernel
theorem dX12_keeps_58 : decode cX12_keeps 58 = .ok (.getfield 134, 3) := by decide +kernel
theorem dX12_keeps_61 : decode cX12_keeps 61 = .ok (.bipush 30, 2) := by decide +kernel
theorem dX12_keeps_63 : decode cX12_keeps 63 = .ok (.aload_n 0, 1) := by decide +kernel
theorem dX12_keeps_64 : decode cX12_keeps 64 = .ok (.getfield 279, 3) := by decide +kernel
theorem dX12_keeps_67 : decode cX12_keeps 67 = .ok (.imul, 1) := by decide +kernel
theorem dX12_keeps_68 : decode cX12_keeps 68 = .ok (.iload_n 1, 1) := by decide +kernel
theorem dX12_keeps_69 : decode cX12_keeps 69 = .ok (.iadd, 1) := by decide +kernel
theorem dX12_keeps_70 : decode cX12_keeps 70 = .ok (.aload_n 0, 1) := by decide +kernel
theorem dX12_keeps_71 : decode cX12_keeps 71 = .ok (.getfield 128, 3) := by decide +kernel
theorem dX12_keeps_74 : decode cX12_keeps 74 = .ok (.iload_n 1, 1) := by decide +kernel
theorem dX12_keeps_75 : decode cX12_keeps 75 = .ok (.iaload, 1) := by decide +kernel
theorem dX12_keeps_76 : decode cX12_keeps 76 = .ok (.iastore, 1) := by decide +kernel
theorem dX12_keeps_77 : decode cX12_keeps 77 = .ok (.iinc 1 1, 3) := by decide +kernel
theorem dX12_keeps_80 : decode cX12_keeps 80 = .ok (.goto (-29), 3) := by decide +kernel
theorem dX12_keeps_83 : decode cX12_keeps 83 = .ok (.aload_n 0, 1) := by decide +kernel
theorem dX12_keeps_84 : decode cX12_keeps 84 = .ok (.dup, 1) := by decide +kernel
theorem dX12_keeps_85 : decode cX12_keeps 85 = .ok (.getfield 279, 3) := by decide +kernel
theorem dX12_keeps_88 : decode cX12_keeps 88 = .ok (.iconst 1, 1) := by decide +kernel
theorem dX12_keeps_89 : decode cX12_keeps 89 = .ok (.iadd, 1) := by decide +kernel
theorem dX12_keeps_90 : decode cX12_keeps 90 = .ok (.putfield 279, 3) := by decide +kernel
theorem dX12_keeps_93 : decode cX12_keeps 93 = .ok (.iconst 0, 1) := by decide +kernel
theorem dX12_keeps_94 : decode cX12_keeps 94 = .ok (.istore_n 1, 1) := by decide +kernel
theorem dX12_keeps_95 : decode cX12_keeps 95 = .ok (.iload_n 1, 1) := by decide +kernel
theorem dX12_keeps_96 : decode cX12_keeps 96 = .ok (.bipush 30, 2) := by decide +kernel
theorem dX12_keeps_98 : decode cX12_keeps 98 = .ok (.if_icmp .ge 21, 3) := by decide +kernel
theorem dX12_keeps_101 : decode cX12_keeps 101 = .ok (.aload_n 0, 1) := by decide +kernel
theorem dX12_keeps_102 : decode cX12_keeps 102 = .ok (.getfield 128, 3) := by decide +kernel
theorem dX12_keeps_105 : decode cX12_keeps 105 = .ok (.iload_n 1, 1) := by decide +kernel
theorem dX12_keeps_106 : decode cX12_keeps 106 = .ok (.aload_n 0, 1) := by decide +kernel
theorem dX12_keeps_107 : decode cX12_keeps 107 = .ok (.getfield 131, 3) := by decide +kernel
theorem dX12_keeps_110 : decode cX12_keeps 110 = .ok (.iload_n 1, 1) := by decide +kernel
theorem dX12_keeps_111 : decode cX12_keeps 111 = .ok (.iaload, 1) := by decide +kernel
theorem dX12_keeps_112 : decode cX12_keeps 112 = .ok (.iastore, 1) := by decide +kernel
theorem dX12_keeps_113 : decode cX12_keeps 113 = .ok (.iinc 1 1, 3) := by decide +kernel
theorem dX12_keeps_116 : decode cX12_keeps 116 = .ok (.goto (-21), 3) := by decide +kernel
theorem dX12_keeps_119 : decode cX12_keeps 119 = .ok (.return_, 1) := by decide +kernel
theorem dX12_draw_0 : decode cX12_draw 0 = .ok (.aload_n 0, 1) := by decide +kernel
theorem dX12_draw_1 : decode cX12_draw 1 = .ok (.iload_n 1, 1) := by decide +kernel
theorem dX12_draw_2 : decode cX12_draw 2 = .ok (.invokevirtual 361, 3) := by decide +kernel
theorem dX12_draw_5 : decode cX12_draw 5 = .ok (.ifCond .eq 12, 3) := by decide +kernel
theorem dX12_draw_8 : decode cX12_draw 8 = .ok (.aload_n 0, 1) := by decide +kernel
theorem dX12_draw_9 : decode cX12_draw 9 = .ok (.getfield 128, 3) := by decide +kernel
theorem dX12_draw_12 : decode cX12_draw 12 = .ok (.iload_n 1, 1) := by decide +kernel
theorem dX12_draw_13 : decode cX12_draw 13 = .ok (.iaload, 1) := by decide +kernel
theorem dX12_draw_14 : decode cX12_draw 14 = .ok (.ifCond .ne 5, 3) := by decide +kernel
theorem dX12_draw_17 : decode cX12_draw 17 = .ok (.iconst (-1), 1) := by decide +kernel
theorem dX12_draw_18 : decode cX12_draw 18 = .ok (.ireturn, 1) := by decide +kernel
theorem dX12_draw_19 : decode cX12_draw 19 = .ok (.aload_n 0, 1) := by decide +kernel
theorem dX12_draw_20 : decode cX12_draw 20 = .ok (.getfield 128, 3) := by decide +kernel
theorem dX12_draw_23 : decode cX12_draw 23 = .ok (.bipush 25, 2) := by decide +kernel
theorem dX12_draw_25 : decode cX12_draw 25 = .ok (.iaload, 1) := by decide +kernel
theorem dX12_draw_26 : decode cX12_draw 26 = .ok (.iconst 1, 1) := by decide +kernel
theorem dX12_draw_27 : decode cX12_draw 27 = .ok (.if_icmp .ne 5, 3) := by decide +kernel
theorem dX12_draw_30 : decode cX12_draw 30 = .ok (.iconst 3, 1) := by decide +kernel
theorem dX12_draw_31 : decode cX12_draw 31 = .ok (.ireturn, 1) := by decide +kernel
theorem dX12_draw_32 : decode cX12_draw 32 = .ok (.aload_n 0, 1) := by decide +kernel
theorem dX12_draw_33 : decode cX12_draw 33 = .ok (.invokevirtual 364, 3) := by decide +kernel
theorem dX12_draw_36 : decode cX12_draw 36 = .ok (.aload_n 0, 1) := by decide +kernel
theorem dX12_draw_37 : decode cX12_draw 37 = .ok (.iload_n 1, 1) := by decide +kernel
theorem dX12_draw_38 : decode cX12_draw 38 = .ok (.invokevirtual 367, 3) := by decide +kernel
theorem dX12_draw_41 : decode cX12_draw 41 = .ok (.istore_n 2, 1) := by decide +kernel
theorem dX12_draw_42 : decode cX12_draw 42 = .ok (.aload_n 0, 1) := by decide +kernel
theorem dX12_draw_43 : decode cX12_draw 43 = .ok (.invokevirtual 370, 3) := by decide +kernel
theorem dX12_draw_46 : decode cX12_draw 46 = .ok (.iload_n 2, 1) := by decide +kernel
theorem dX12_draw_47 : decode cX12_draw 47 = .ok (.ireturn, 1) := by decide +kernel
theorem dX12_lot_0 : decode cX12_lot 0 = .ok (.aload_n 0, 1) := by decide +kernel
theorem dX12_lot_1 : decode cX12_lot 1 = .ok (.invokevirtual 364, 3) := by decide +kernel
theorem dX12_lot_4 : decode cX12_lot 4 = .ok (.aload_n 0, 1) := by decide +kernel
theorem dX12_lot_5 : decode cX12_lot 5 = .ok (.iconst 0, 1) := by decide +kernel
theorem dX12_lot_6 : decode cX12_lot 6 = .ok (.invokevirtual 352, 3) := by decide +kernel
theorem dX12_lot_9 : decode cX12_lot 9 = .ok (.ifCond .ne 6, 3) := by decide +kernel
theorem dX12_lot_12 : decode cX12_lot 12 = .ok (.bipush (-2), 2) := by decide +kernel
theorem dX12_lot_14 : decode cX12_lot 14 = .ok (.ireturn, 1) := by decide +kernel
theorem dX12_lot_15 : decode cX12_lot 15 = .ok (.aload_n 0, 1) := by decide +kernel
theorem dX12_lot_16 : decode cX12_lot 16 = .ok (.getfield 131, 3) := by decide +kernel
theorem dX12_lot_19 : decode cX12_lot 19 = .ok (.bipush 25, 2) := by decide +kernel
theorem dX12_lot_21 : decode cX12_lot 21 = .ok (.iaload, 1) := by decide +kernel
theorem dX12_lot_22 : decode cX12_lot 22 = .ok (.iconst 1, 1) := by decide +kernel
theorem dX12_lot_23 : decode cX12_lot 23 = .ok (.if_icmp .ne 5, 3) := by decide +kernel
theorem dX12_lot_26 : decode cX12_lot 26 = .ok (.iconst 3, 1) := by decide +kernel
theorem dX12_lot_27 : decode cX12_lot 27 = .ok (.ireturn, 1) := by decide +kernel
theorem dX12_lot_28 : decode cX12_lot 28 = .ok (.aload_n 0, 1) := by decide +kernel
theorem dX12_lot_29 : decode cX12_lot 29 = .ok (.invokevirtual 373, 3) := by decide +kernel
theorem dX12_lot_32 : decode cX12_lot 32 = .ok (.istore_n 1, 1) := by decide +kernel
theorem dX12_lot_33 : decode cX12_lot 33 = .ok (.aload_n 0, 1) := by decide +kernel
theorem dX12_lot_34 : decode cX12_lot 34 = .ok (.iload_n 1, 1) := by decide +kernel
theorem dX12_lot_35 : decode cX12_lot 35 = .ok (.invokevirtual 367, 3) := by decide +kernel
theorem dX12_lot_38 : decode cX12_lot 38 = .ok (.istore_n 2, 1) := by decide +kernel
theorem dX12_lot_39 : decode cX12_lot 39 = .ok (.aload_n 0, 1) := by decide +kernel
theorem dX12_lot_40 : decode cX12_lot 40 = .ok (.invokevirtual 370, 3) := by decide +kernel
theorem dX12_lot_43 : decode cX12_lot 43 = .ok (.bipush 10, 2) := by decide +kernel
theorem dX12_lot_45 : decode cX12_lot 45 = .ok (.iload_n 1, 1) := by decide +kernel
theorem dX12_lot_46 : decode cX12_lot 46 = .ok (.imul, 1) := by decide +kernel
theorem dX12_lot_47 : decode cX12_lot 47 = .ok (.iload_n 2, 1) := by decide +kernel
theorem dX12_lot_48 : decode cX12_lot 48 = .ok (.iadd, 1) := by decide +kernel
theorem dX12_lot_49 : decode cX12_lot 49 = .ok (.ireturn, 1) := by decide +kernel
theorem dX12_take_0 : decode cX12_take 0 = .ok (.aload_n 0, 1) := by decide +kernel
theorem dX12_take_1 : decode cX12_take 1 = .ok (.iload_n 1, 1) := by decide +kernel
theorem dX12_take_2 : decode cX12_take 2 = .ok (.invokevirtual 361, 3) := by decide +kernel
theorem dX12_take_5 : decode cX12_take 5 = .ok (.ifCond .eq 15, 3) := by decide +kernel
theorem dX12_take_8 : decode cX12_take 8 = .ok (.aload_n 0, 1) := by decide +kernel
theorem dX12_take_9 : decode cX12_take 9 = .ok (.getfield 128, 3) := by decide +kernel
theorem dX12_take_12 : decode cX12_take 12 = .ok (.bipush 8, 2) := by decide +kernel
theorem dX12_take_14 : decode cX12_take 14 = .ok (.iload_n 1, 1) := by decide +kernel
theorem dX12_take_15 : decode cX12_take 15 = .ok (.iadd, 1) := by decide +kernel
theorem dX12_take_16 : decode cX12_take 16 = .ok (.iaload, 1) := by decide +kernel
theorem dX12_take_17 : decode cX12_take 17 = .ok (.ifCond .ne 5, 3) := by decide +kernel
theorem dX12_take_20 : decode cX12_take 20 = .ok (.iconst 0, 1) := by decide +kernel
theorem dX12_take_21 : decode cX12_take 21 = .ok (.ireturn, 1) := by decide +kernel
theorem dX12_take_22 : decode cX12_take 22 = .ok (.aload_n 0, 1) := by decide +kernel
theorem dX12_take_23 : decode cX12_take 23 = .ok (.invokevirtual 364, 3) := by decide +kernel
theorem dX12_take_26 : decode cX12_take 26 = .ok (.aload_n 0, 1) := by decide +kernel
theorem dX12_take_27 : decode cX12_take 27 = .ok (.getfield 131, 3) := by decide +kernel
theorem dX12_take_30 : decode cX12_take 30 = .ok (.bipush 8, 2) := by decide +kernel
theorem dX12_take_32 : decode cX12_take 32 = .ok (.iload_n 1, 1) := by decide +kernel
theorem dX12_take_33 : decode cX12_take 33 = .ok (.iadd, 1) := by decide +kernel
theorem dX12_take_34 : decode cX12_take 34 = .ok (.dup2, 1) := by decide +kernel
theorem dX12_take_35 : decode cX12_take 35 = .ok (.iaload, 1) := by decide +kernel
theorem dX12_take_36 : decode cX12_take 36 = .ok (.iconst 1, 1) := by decide +kernel
theorem dX12_take_37 : decode cX12_take 37 = .ok (.isub, 1) := by decide +kernel
theorem dX12_take_38 : decode cX12_take 38 = .ok (.iastore, 1) := by decide +kernel
theorem dX12_take_39 : decode cX12_take 39 = .ok (.aload_n 0, 1) := by decide +kernel
theorem dX12_take_40 : decode cX12_take 40 = .ok (.getfield 131, 3) := by decide +kernel
theorem dX12_take_43 : decode cX12_take 43 = .ok (.iload_n 1, 1) := by decide +kernel
theorem dX12_take_44 : decode cX12_take 44 = .ok (.dup2, 1) := by decide +kernel
theorem dX12_take_45 : decode cX12_take 45 = .ok (.iaload, 1) := by decide +kernel
theorem dX12_take_46 : decode cX12_take 46 = .ok (.iconst 1, 1) := by decide +kernel
theorem dX12_take_47 : decode cX12_take 47 = .ok (.iadd, 1) := by decide +kernel
theorem dX12_take_48 : decode cX12_take 48 = .ok (.iastore, 1) := by decide +kernel
theorem dX12_take_49 : decode cX12_take 49 = .ok (.aload_n 0, 1) := by decide +kernel
theorem dX12_take_50 : decode cX12_take 50 = .ok (.getfield 131, 3) := by decide +kernel
theorem dX12_take_53 : decode cX12_take 53 = .ok (.bipush 25, 2) := by decide +kernel
theorem dX12_take_55 : decode cX12_take 55 = .ok (.iconst 0, 1) := by decide +kernel
theorem dX12_take_56 : decode cX12_take 56 = .ok (.iastore, 1) := by decide +kernel
theorem dX12_take_57 : decode cX12_take 57 = .ok (.aload_n 0, 1) := by decide +kernel
theorem dX12_take_58 : decode cX12_take 58 = .ok (.invokevirtual 370, 3) := by decide +kernel
theorem dX12_take_61 : decode cX12_take 61 = .ok (.iconst 1, 1) := by decide +kernel
theorem dX12_take_62 : decode cX12_take 62 = .ok (.ireturn, 1) := by decide +kernel
theorem dX12_undo_0 : decode cX12_undo 0 = .ok (.aload_n 0, 1) := by decide +kernel
theorem dX12_undo_1 : decode cX12_undo 1 = .ok (.getfield 279, 3) := by decide +kernel
theorem dX12_undo_4 : decode cX12_undo 4 = .ok (.ifCond .ne 5, 3) := by decide +kernel
theorem dX12_undo_7 : decode cX12_undo 7 = .ok (.iconst 0, 1) := by decide +kernel
theorem dX12_undo_8 : decode cX12_undo 8 = .ok (.ireturn, 1) := by decide +kernel
theorem dX12_undo_9 : decode cX12_undo 9 = .ok (.aload_n 0, 1) := by decide +kernel
theorem dX12_undo_10 : decode cX12_undo 10 = .ok (.dup, 1) := by decide +kernel
theorem dX12_undo_11 : decode cX12_undo 11 = .ok (.getfield 279, 3) := by decide +kernel
theorem dX12_undo_14 : decode cX12_undo 14 = .ok (.iconst 1, 1) := by decide +kernel
theorem dX12_undo_15 : decode cX12_undo 15 = .ok (.isub, 1) := by decide +kernel
theorem dX12_undo_16 : decode cX12_undo 16 = .ok (.putfield 279, 3) := by decide +kernel
theorem dX12_undo_19 : decode cX12_undo 19 = .ok (.iconst 0, 1) := by decide +kernel
theorem dX12_undo_20 : decode cX12_undo 20 = .ok (.istore_n 1, 1) := by decide +kernel
theorem dX12_undo_21 : decode cX12_undo 21 = .ok (.iload_n 1, 1) := by decide +kernel
theorem dX12_undo_22 : decode cX12_undo 22 = .ok (.bipush 30, 2) := by decide +kernel
theorem dX12_undo_24 : decode cX12_undo 24 = .ok (.if_icmp .ge 29, 3) := by decide +kernel
theorem dX12_undo_27 : decode cX12_undo 27 = .ok (.aload_n 0, 1) := by decide +kernel
theorem dX12_undo_28 : decode cX12_undo 28 = .ok (.getfield 128, 3) := by decide +kernel
theorem dX12_undo_31 : decode cX12_undo 31 = .ok (.iload_n 1, 1) := by decide +kernel
theorem dX12_undo_32 : decode cX12_undo 32 = .ok (.aload_n 0, 1) := by decide +kernel
theorem dX12_undo_33 : decode cX12_undo 33 = .ok (.getfield 134, 3) := by decide +kernel
theorem dX12_undo_36 : decode cX12_undo 36 = .ok (.bipush 30, 2) := by decide +kernel
theorem dX12_undo_38 : decode cX12_undo 38 = .ok (.aload_n 0, 1) := by decide +kernel
theorem dX12_undo_39 : decode cX12_undo 39 = .ok (.getfield 279, 3) := by decide +kernel
theorem dX12_undo_42 : decode cX12_undo 42 = .ok (.imul, 1) := by decide +kernel
theorem dX12_undo_43 : decode cX12_undo 43 = .ok (.iload_n 1, 1) := by decide +kernel
theorem dX12_undo_44 : decode cX12_undo 44 = .ok (.iadd, 1) := by decide +kernel
theorem dX12_undo_45 : decode cX12_undo 45 = .ok (.iaload, 1) := by decide +kernel
theorem dX12_undo_46 : decode cX12_undo 46 = .ok (.iastore, 1) := by decide +kernel
theorem dX12_undo_47 : decode cX12_undo 47 = .ok (.iinc 1 1, 3) := by decide +kernel
theorem dX12_undo_50 : decode cX12_undo 50 = .ok (.goto (-29), 3) := by decide +kernel
theorem dX12_undo_53 : decode cX12_undo 53 = .ok (.iconst 1, 1) := by decide +kernel
theorem dX12_undo_54 : decode cX12_undo 54 = .ok (.ireturn, 1) := by decide +kernel
theorem dX12_orders_0 : decode cX12_orders 0 = .ok (.lconst 1, 1) := by decide +kernel
theorem dX12_orders_1 : decode cX12_orders 1 = .ok (.lstore_n 1, 1) := by decide +kernel
theorem dX12_orders_2 : decode cX12_orders 2 = .ok (.iconst 2, 1) := by decide +kernel
theorem dX12_orders_3 : decode cX12_orders 3 = .ok (.istore_n 3, 1) := by decide +kernel
theorem dX12_orders_4 : decode cX12_orders 4 = .ok (.iload_n 3, 1) := by decide +kernel
theorem dX12_orders_5 : decode cX12_orders 5 = .ok (.iload_n 0, 1) := by decide +kernel
theorem dX12_orders_6 : decode cX12_orders 6 = .ok (.if_icmp .gt 14, 3) := by decide +kernel
theorem dX12_orders_9 : decode cX12_orders 9 = .ok (.lload_n 1, 1) := by decide +kernel
theorem dX12_orders_10 : decode cX12_orders 10 = .ok (.iload_n 3, 1) := by decide +kernel
theorem dX12_orders_11 : decode cX12_orders 11 = .ok (.i2l, 1) := by decide +kernel
theorem dX12_orders_12 : decode cX12_orders 12 = .ok (.lmul, 1) := by decide +kernel
theorem dX12_orders_13 : decode cX12_orders 13 = .ok (.lstore_n 1, 1) := by decide +kernel
theorem dX12_orders_14 : decode cX12_orders 14 = .ok (.iinc 3 1, 3) := by decide +kernel
theorem dX12_orders_17 : decode cX12_orders 17 = .ok (.goto (-13), 3) := by decide +kernel
theorem dX12_orders_20 : decode cX12_orders 20 = .ok (.lload_n 1, 1) := by decide +kernel
theorem dX12_orders_21 : decode cX12_orders 21 = .ok (.lreturn, 1) := by decide +kernel
theorem dX12_fillsSteps_0 : decode cX12_fillsSteps 0 = .ok (.aload_n 0, 1) := by decide +kernel
theorem dX12_fillsSteps_1 : decode cX12_fillsSteps 1 = .ok (.getfield 137, 3) := by decide +kernel
theorem dX12_fillsSteps_4 : decode cX12_fillsSteps 4 = .ok (.iconst 0, 1) := by decide +kernel
theorem dX12_fillsSteps_5 : decode cX12_fillsSteps 5 = .ok (.iconst 1, 1) := by decide +kernel
theorem dX12_fillsSteps_6 : decode cX12_fillsSteps 6 = .ok (.iastore, 1) := by decide +kernel
theorem dX12_fillsSteps_7 : decode cX12_fillsSteps 7 = .ok (.iconst 0, 1) := by decide +kernel
theorem dX12_fillsSteps_8 : decode cX12_fillsSteps 8 = .ok (.istore_n 1, 1) := by decide +kernel
theorem dX12_fillsSteps_9 : decode cX12_fillsSteps 9 = .ok (.iload_n 1, 1) := by decide +kernel
theorem dX12_fillsSteps_10 : decode cX12_fillsSteps 10 = .ok (.bipush 8, 2) := by decide +kernel
theorem dX12_fillsSteps_12 : decode cX12_fillsSteps 12 = .ok (.if_icmp .ge 49, 3) := by decide +kernel
theorem dX12_fillsSteps_15 : decode cX12_fillsSteps 15 = .ok (.aload_n 0, 1) := by decide +kernel
theorem dX12_fillsSteps_16 : decode cX12_fillsSteps 16 = .ok (.getfield 137, 3) := by decide +kernel
theorem dX12_fillsSteps_19 : decode cX12_fillsSteps 19 = .ok (.iload_n 1, 1) := by decide +kernel
theorem dX12_fillsSteps_20 : decode cX12_fillsSteps 20 = .ok (.iconst 1, 1) := by decide +kernel
theorem dX12_fillsSteps_21 : decode cX12_fillsSteps 21 = .ok (.iadd, 1) := by decide +kernel
theorem dX12_fillsSteps_22 : decode cX12_fillsSteps 22 = .ok (.aload_n 0, 1) := by decide +kernel
theorem dX12_fillsSteps_23 : decode cX12_fillsSteps 23 = .ok (.getfield 137, 3) := by decide +kernel
theorem dX12_fillsSteps_26 : decode cX12_fillsSteps 26 = .ok (.iload_n 1, 1) := by decide +kernel
theorem dX12_fillsSteps_27 : decode cX12_fillsSteps 27 = .ok (.iaload, 1) := by decide +kernel
theorem dX12_fillsSteps_28 : decode cX12_fillsSteps 28 = .ok (.iload_n 1, 1) := by decide +kernel
theorem dX12_fillsSteps_29 : decode cX12_fillsSteps 29 = .ok (.aload_n 0, 1) := by decide +kernel
theorem dX12_fillsSteps_30 : decode cX12_fillsSteps 30 = .ok (.getfield 49, 3) := by decide +kernel
theorem dX12_fillsSteps_33 : decode cX12_fillsSteps 33 = .ok (.aload_n 0, 1) := by decide +kernel
theorem dX12_fillsSteps_34 : decode cX12_fillsSteps 34 = .ok (.getfield 264, 3) := by decide +kernel
theorem dX12_fillsSteps_37 : decode cX12_fillsSteps 37 = .ok (.iaload, 1) := by decide +kernel
theorem dX12_fillsSteps_38 : decode cX12_fillsSteps 38 = .ok (.if_icmp .ge 14, 3) := by decide +kernel
theorem dX12_fillsSteps_41 : decode cX12_fillsSteps 41 = .ok (.aload_n 0, 1) := by decide +kernel
theorem dX12_fillsSteps_42 : decode cX12_fillsSteps 42 = .ok (.getfield 131, 3) := by decide +kernel
theorem dX12_fillsSteps_45 : decode cX12_fillsSteps 45 = .ok (.iload_n 1, 1) := by decide +kernel
theorem dX12_fillsSteps_46 : decode cX12_fillsSteps 46 = .ok (.iaload, 1) := by decide +kernel
theorem dX12_fillsSteps_47 : decode cX12_fillsSteps 47 = .ok (.iconst 1, 1) := by decide +kernel
theorem dX12_fillsSteps_48 : decode cX12_fillsSteps 48 = .ok (.iadd, 1) := by decide +kernel
theorem dX12_fillsSteps_49 : decode cX12_fillsSteps 49 = .ok (.goto 4, 3) := by decide +kernel
theorem dX12_fillsSteps_52 : decode cX12_fillsSteps 52 = .ok (.iconst 1, 1) := by decide +kernel
theorem dX12_fillsSteps_53 : decode cX12_fillsSteps 53 = .ok (.imul, 1) := by decide +kernel
theorem dX12_fillsSteps_54 : decode cX12_fillsSteps 54 = .ok (.iastore, 1) := by decide +kernel
theorem dX12_fillsSteps_55 : decode cX12_fillsSteps 55 = .ok (.iinc 1 1, 3) := by decide +kernel
theorem dX12_fillsSteps_58 : decode cX12_fillsSteps 58 = .ok (.goto (-49), 3) := by decide +kernel
theorem dX12_fillsSteps_61 : decode cX12_fillsSteps 61 = .ok (.return_, 1) := by decide +kernel
theorem dX12_takesNumber_0 : decode cX12_takesNumber 0 = .ok (.iconst 0, 1) := by decide +kernel
theorem dX12_takesNumber_1 : decode cX12_takesNumber 1 = .ok (.istore_n 2, 1) := by decide +kernel
theorem dX12_takesNumber_2 : decode cX12_takesNumber 2 = .ok (.iload_n 2, 1) := by decide +kernel
theorem dX12_takesNumber_3 : decode cX12_takesNumber 3 = .ok (.bipush 8, 2) := by decide +kernel
theorem dX12_takesNumber_5 : decode cX12_takesNumber 5 = .ok (.if_icmp .ge 49, 3) := by decide +kernel
theorem dX12_takesNumber_8 : decode cX12_takesNumber 8 = .ok (.aload_n 0, 1) := by decide +kernel
theorem dX12_takesNumber_9 : decode cX12_takesNumber 9 = .ok (.getfield 143, 3) := by decide +kernel
theorem dX12_takesNumber_12 : decode cX12_takesNumber 12 = .ok (.iload_n 2, 1) := by decide +kernel
theorem dX12_takesNumber_13 : decode cX12_takesNumber 13 = .ok (.iload_n 2, 1) := by decide +kernel
theorem dX12_takesNumber_14 : decode cX12_takesNumber 14 = .ok (.aload_n 0, 1) := by decide +kernel
theorem dX12_takesNumber_15 : decode cX12_takesNumber 15 = .ok (.getfield 49, 3) := by decide +kernel
theorem dX12_takesNumber_18 : decode cX12_takesNumber 18 = .ok (.aload_n 0, 1) := by decide +kernel
theorem dX12_takesNumber_19 : decode cX12_takesNumber 19 = .ok (.getfield 264, 3) := by decide +kernel
theorem dX12_takesNumber_22 : decode cX12_takesNumber 22 = .ok (.iaload, 1) := by decide +kernel
theorem dX12_takesNumber_23 : decode cX12_takesNumber 23 = .ok (.if_icmp .ge 23, 3) := by decide +kernel
theorem dX12_takesNumber_26 : decode cX12_takesNumber 26 = .ok (.iload_n 1, 1) := by decide +kernel
theorem dX12_takesNumber_27 : decode cX12_takesNumber 27 = .ok (.aload_n 0, 1) := by decide +kernel
theorem dX12_takesNumber_28 : decode cX12_takesNumber 28 = .ok (.getfield 137, 3) := by decide +kernel
theorem dX12_takesNumber_31 : decode cX12_takesNumber 31 = .ok (.iload_n 2, 1) := by decide +kernel
theorem dX12_takesNumber_32 : decode cX12_takesNumber 32 = .ok (.iaload, 1) := by decide +kernel
theorem dX12_takesNumber_33 : decode cX12_takesNumber 33 = .ok (.idiv, 1) := by decide +kernel
theorem dX12_takesNumber_34 : decode cX12_takesNumber 34 = .ok (.aload_n 0, 1) := by decide +kernel
theorem dX12_takesNumber_35 : decode cX12_takesNumber 35 = .ok (.getfield 131, 3) := by decide +kernel
theorem dX12_takesNumber_38 : decode cX12_takesNumber 38 = .ok (.iload_n 2, 1) := by decide +kernel
theorem dX12_takesNumber_39 : decode cX12_takesNumber 39 = .ok (.iaload, 1) := by decide +kernel
theorem dX12_takesNumber_40 : decode cX12_takesNumber 40 = .ok (.iconst 1, 1) := by decide +kernel
theorem dX12_takesNumber_41 : decode cX12_takesNumber 41 = .ok (.iadd, 1) := by decide +kernel
theorem dX12_takesNumber_42 : decode cX12_takesNumber 42 = .ok (.irem, 1) := by decide +kernel
theorem dX12_takesNumber_43 : decode cX12_takesNumber 43 = .ok (.goto 4, 3) := by decide +kernel
theorem dX12_takesNumber_46 : decode cX12_takesNumber 46 = .ok (.iconst 0, 1) := by decide +kernel
theorem dX12_takesNumber_47 : decode cX12_takesNumber 47 = .ok (.iastore, 1) := by decide +kernel
theorem dX12_takesNumber_48 : decode cX12_takesNumber 48 = .ok (.iinc 2 1, 3) := by decide +kernel
theorem dX12_takesNumber_51 : decode cX12_takesNumber 51 = .ok (.goto (-49), 3) := by decide +kernel
theorem dX12_takesNumber_54 : decode cX12_takesNumber 54 = .ok (.return_, 1) := by decide +kernel
theorem dX12_drawnAll_0 : decode cX12_drawnAll 0 = .ok (.iconst 0, 1) := by decide +kernel
theorem dX12_drawnAll_1 : decode cX12_drawnAll 1 = .ok (.istore_n 1, 1) := by decide +kernel
theorem dX12_drawnAll_2 : decode cX12_drawnAll 2 = .ok (.iconst 0, 1) := by decide +kernel
theorem dX12_drawnAll_3 : decode cX12_drawnAll 3 = .ok (.istore_n 2, 1) := by decide +kernel
theorem dX12_drawnAll_4 : decode cX12_drawnAll 4 = .ok (.iload_n 2, 1) := by decide +kernel
theorem dX12_drawnAll_5 : decode cX12_drawnAll 5 = .ok (.bipush 8, 2) := by decide +kernel
theorem dX12_drawnAll_7 : decode cX12_drawnAll 7 = .ok (.if_icmp .ge 18, 3) := by decide +kernel
theorem dX12_drawnAll_10 : decode cX12_drawnAll 10 = .ok (.iload_n 1, 1) := by decide +kernel
theorem dX12_drawnAll_11 : decode cX12_drawnAll 11 = .ok (.aload_n 0, 1) := by decide +kernel
theorem dX12_drawnAll_12 : decode cX12_drawnAll 12 = .ok (.getfield 143, 3) := by decide +kernel
theorem dX12_drawnAll_15 : decode cX12_drawnAll 15 = .ok (.iload_n 2, 1) := by decide +kernel
theorem dX12_drawnAll_16 : decode cX12_drawnAll 16 = .ok (.iaload, 1) := by decide +kernel
theorem dX12_drawnAll_17 : decode cX12_drawnAll 17 = .ok (.iadd, 1) := by decide +kernel
theorem dX12_drawnAll_18 : decode cX12_drawnAll 18 = .ok (.istore_n 1, 1) := by decide +kernel
theorem dX12_drawnAll_19 : decode cX12_drawnAll 19 = .ok (.iinc 2 1, 3) := by decide +kernel
theorem dX12_drawnAll_22 : decode cX12_drawnAll 22 = .ok (.goto (-18), 3) := by decide +kernel
theorem dX12_drawnAll_25 : decode cX12_drawnAll 25 = .ok (.iload_n 1, 1) := by decide +kernel
theorem dX12_drawnAll_26 : decode cX12_drawnAll 26 = .ok (.ireturn, 1) := by decide +kernel
theorem dX12_lieOut_0 : decode cX12_lieOut 0 = .ok (.iconst 0, 1) := by decide +kernel
theorem dX12_lieOut_1 : decode cX12_lieOut 1 = .ok (.istore_n 1, 1) := by decide +kernel
theorem dX12_lieOut_2 : decode cX12_lieOut 2 = .ok (.iconst 0, 1) := by decide +kernel
theorem dX12_lieOut_3 : decode cX12_lieOut 3 = .ok (.istore_n 2, 1) := by decide +kernel
theorem dX12_lieOut_4 : decode cX12_lieOut 4 = .ok (.iload_n 2, 1) := by decide +kernel
theorem dX12_lieOut_5 : decode cX12_lieOut 5 = .ok (.aload_n 0, 1) := by decide +kernel
theorem dX12_lieOut_6 : decode cX12_lieOut 6 = .ok (.getfield 49, 3) := by decide +kernel
theorem dX12_lieOut_9 : decode cX12_lieOut 9 = .ok (.aload_n 0, 1) := by decide +kernel
theorem dX12_lieOut_10 : decode cX12_lieOut 10 = .ok (.getfield 264, 3) := by decide +kernel
theorem dX12_lieOut_13 : decode cX12_lieOut 13 = .ok (.iaload, 1) := by decide +kernel
theorem dX12_lieOut_14 : decode cX12_lieOut 14 = .ok (.if_icmp .ge 91, 3) := by decide +kernel
theorem dX12_lieOut_17 : decode cX12_lieOut 17 = .ok (.aload_n 0, 1) := by decide +kernel
theorem dX12_lieOut_18 : decode cX12_lieOut 18 = .ok (.iload_n 2, 1) := by decide +kernel
theorem dX12_lieOut_19 : decode cX12_lieOut 19 = .ok (.invokevirtual 349, 3) := by decide +kernel
theorem dX12_lieOut_22 : decode cX12_lieOut 22 = .ok (.istore_n 3, 1) := by decide +kernel
theorem dX12_lieOut_23 : decode cX12_lieOut 23 = .ok (.aload_n 0, 1) := by decide +kernel
theorem dX12_lieOut_24 : decode cX12_lieOut 24 = .ok (.getfield 131, 3) := by decide +kernel
theorem dX12_lieOut_27 : decode cX12_lieOut 27 = .ok (.bipush 8, 2) := by decide +kernel
theorem dX12_lieOut_29 : decode cX12_lieOut 29 = .ok (.iload_n 2, 1) := by decide +kernel
theorem dX12_lieOut_30 : decode cX12_lieOut 30 = .ok (.iadd, 1) := by decide +kernel
theorem dX12_lieOut_31 : decode cX12_lieOut 31 = .ok (.iaload, 1) := by decide +kernel
theorem dX12_lieOut_32 : decode cX12_lieOut 32 = .ok (.aload_n 0, 1) := by decide +kernel
theorem dX12_lieOut_33 : decode cX12_lieOut 33 = .ok (.getfield 143, 3) := by decide +kernel
theorem dX12_lieOut_36 : decode cX12_lieOut 36 = .ok (.iload_n 2, 1) := by decide +kernel
theorem dX12_lieOut_37 : decode cX12_lieOut 37 = .ok (.iaload, 1) := by decide +kernel
theorem dX12_lieOut_38 : decode cX12_lieOut 38 = .ok (.iadd, 1) := by decide +kernel
theorem dX12_lieOut_39 : decode cX12_lieOut 39 = .ok (.istore 4, 2) := by decide +kernel
theorem dX12_lieOut_41 : decode cX12_lieOut 41 = .ok (.iload_n 3, 1) := by decide +kernel
theorem dX12_lieOut_42 : decode cX12_lieOut 42 = .ok (.iload_n 2, 1) := by decide +kernel
theorem dX12_lieOut_43 : decode cX12_lieOut 43 = .ok (.if_icmp .ne 13, 3) := by decide +kernel
theorem dX12_lieOut_46 : decode cX12_lieOut 46 = .ok (.iload_n 1, 1) := by decide +kernel
theorem dX12_lieOut_47 : decode cX12_lieOut 47 = .ok (.iload 4, 2) := by decide +kernel
theorem dX12_lieOut_49 : decode cX12_lieOut 49 = .ok (.iconst 2, 1) := by decide +kernel
theorem dX12_lieOut_50 : decode cX12_lieOut 50 = .ok (.irem, 1) := by decide +kernel
theorem dX12_lieOut_51 : decode cX12_lieOut 51 = .ok (.iadd, 1) := by decide +kernel
theorem dX12_lieOut_52 : decode cX12_lieOut 52 = .ok (.istore_n 1, 1) := by decide +kernel
theorem dX12_lieOut_53 : decode cX12_lieOut 53 = .ok (.goto 46, 3) := by decide +kernel
theorem dX12_lieOut_56 : decode cX12_lieOut 56 = .ok (.iload 4, 2) := by decide +kernel
theorem dX12_lieOut_58 : decode cX12_lieOut 58 = .ok (.aload_n 0, 1) := by decide +kernel
theorem dX12_lieOut_59 : decode cX12_lieOut 59 = .ok (.getfield 131, 3) := by decide +kernel
theorem dX12_lieOut_62 : decode cX12_lieOut 62 = .ok (.bipush 8, 2) := by decide +kernel
theorem dX12_lieOut_64 : decode cX12_lieOut 64 = .ok (.iload_n 3, 1) := by decide +kernel
theorem dX12_lieOut_65 : decode cX12_lieOut 65 = .ok (.iadd, 1) := by decide +kernel
theorem dX12_lieOut_66 : decode cX12_lieOut 66 = .ok (.iaload, 1) := by decide +kernel
theorem dX12_lieOut_67 : decode cX12_lieOut 67 = .ok (.aload_n 0, 1) := by decide +kernel
theorem dX12_lieOut_68 : decode cX12_lieOut 68 = .ok (.getfield 143, 3) := by decide +kernel
theorem dX12_lieOut_71 : decode cX12_lieOut 71 = .ok (.iload_n 3, 1) := by decide +kernel
theorem dX12_lieOut_72 : decode cX12_lieOut 72 = .ok (.iaload, 1) := by decide +kernel
theorem dX12_lieOut_73 : decode cX12_lieOut 73 = .ok (.iadd, 1) := by decide +kernel
theorem dX12_lieOut_74 : decode cX12_lieOut 74 = .ok (.if_icmp .le 25, 3) := by decide +kernel
theorem dX12_lieOut_77 : decode cX12_lieOut 77 = .ok (.iload_n 1, 1) := by decide +kernel
theorem dX12_lieOut_78 : decode cX12_lieOut 78 = .ok (.iload 4, 2) := by decide +kernel
theorem dX12_lieOut_80 : decode cX12_lieOut 80 = .ok (.aload_n 0, 1) := by decide +kernel
theorem dX12_lieOut_81 : decode cX12_lieOut 81 = .ok (.getfield 131, 3) := by decide +kernel
theorem dX12_lieOut_84 : decode cX12_lieOut 84 = .ok (.bipush 8, 2) := by decide +kernel
theorem dX12_lieOut_86 : decode cX12_lieOut 86 = .ok (.iload_n 3, 1) := by decide +kernel
theorem dX12_lieOut_87 : decode cX12_lieOut 87 = .ok (.iadd, 1) := by decide +kernel
theorem dX12_lieOut_88 : decode cX12_lieOut 88 = .ok (.iaload, 1) := by decide +kernel
theorem dX12_lieOut_89 : decode cX12_lieOut 89 = .ok (.isub, 1) := by decide +kernel
theorem dX12_lieOut_90 : decode cX12_lieOut 90 = .ok (.aload_n 0, 1) := by decide +kernel
theorem dX12_lieOut_91 : decode cX12_lieOut 91 = .ok (.getfield 143, 3) := by decide +kernel
theorem dX12_lieOut_94 : decode cX12_lieOut 94 = .ok (.iload_n 3, 1) := by decide +kernel
theorem dX12_lieOut_95 : decode cX12_lieOut 95 = .ok (.iaload, 1) := by decide +kernel
theorem dX12_lieOut_96 : decode cX12_lieOut 96 = .ok (.isub, 1) := by decide +kernel
theorem dX12_lieOut_97 : decode cX12_lieOut 97 = .ok (.iadd, 1) := by decide +kernel
theorem dX12_lieOut_98 : decode cX12_lieOut 98 = .ok (.istore_n 1, 1) := by decide +kernel
theorem dX12_lieOut_99 : decode cX12_lieOut 99 = .ok (.iinc 2 1, 3) := by decide +kernel
theorem dX12_lieOut_102 : decode cX12_lieOut 102 = .ok (.goto (-98), 3) := by decide +kernel
theorem dX12_lieOut_105 : decode cX12_lieOut 105 = .ok (.iload_n 1, 1) := by decide +kernel
theorem dX12_lieOut_106 : decode cX12_lieOut 106 = .ok (.ireturn, 1) := by decide +kernel
theorem dX12_fillsWays_0 : decode cX12_fillsWays 0 = .ok (.aload_n 0, 1) := by decide +kernel
theorem dX12_fillsWays_1 : decode cX12_fillsWays 1 = .ok (.invokevirtual 364, 3) := by decide +kernel
theorem dX12_fillsWays_4 : decode cX12_fillsWays 4 = .ok (.aload_n 0, 1) := by decide +kernel
theorem dX12_fillsWays_5 : decode cX12_fillsWays 5 = .ok (.invokevirtual 376, 3) := by decide +kernel
theorem dX12_fillsWays_8 : decode cX12_fillsWays 8 = .ok (.aload_n 0, 1) := by decide +kernel
theorem dX12_fillsWays_9 : decode cX12_fillsWays 9 = .ok (.getfield 140, 3) := by decide +kernel
theorem dX12_fillsWays_12 : decode cX12_fillsWays 12 = .ok (.iconst 0, 1) := by decide +kernel
theorem dX12_fillsWays_13 : decode cX12_fillsWays 13 = .ok (.lconst 1, 1) := by decide +kernel
theorem dX12_fillsWays_14 : decode cX12_fillsWays 14 = .ok (.lastore, 1) := by decide +kernel
theorem dX12_fillsWays_15 : decode cX12_fillsWays 15 = .ok (.iconst 1, 1) := by decide +kernel
theorem dX12_fillsWays_16 : decode cX12_fillsWays 16 = .ok (.istore_n 2, 1) := by decide +kernel
theorem dX12_fillsWays_17 : decode cX12_fillsWays 17 = .ok (.iload_n 2, 1) := by decide +kernel
theorem dX12_fillsWays_18 : decode cX12_fillsWays 18 = .ok (.aload_n 0, 1) := by decide +kernel
theorem dX12_fillsWays_19 : decode cX12_fillsWays 19 = .ok (.getfield 137, 3) := by decide +kernel
theorem dX12_fillsWays_22 : decode cX12_fillsWays 22 = .ok (.bipush 8, 2) := by decide +kernel
theorem dX12_fillsWays_24 : decode cX12_fillsWays 24 = .ok (.iaload, 1) := by decide +kernel
theorem dX12_fillsWays_25 : decode cX12_fillsWays 25 = .ok (.if_icmp .ge 100, 3) := by decide +kernel
theorem dX12_fillsWays_28 : decode cX12_fillsWays 28 = .ok (.aload_n 0, 1) := by decide +kernel
theorem dX12_fillsWays_29 : decode cX12_fillsWays 29 = .ok (.iload_n 2, 1) := by decide +kernel
theorem dX12_fillsWays_30 : decode cX12_fillsWays 30 = .ok (.invokevirtual 379, 3) := by decide +kernel
theorem dX12_fillsWays_33 : decode cX12_fillsWays 33 = .ok (.lconst 0, 1) := by decide +kernel
theorem dX12_fillsWays_34 : decode cX12_fillsWays 34 = .ok (.lstore_n 3, 1) := by decide +kernel
theorem dX12_fillsWays_35 : decode cX12_fillsWays 35 = .ok (.aload_n 0, 1) := by decide +kernel
theorem dX12_fillsWays_36 : decode cX12_fillsWays 36 = .ok (.invokevirtual 382, 3) := by decide +kernel
theorem dX12_fillsWays_39 : decode cX12_fillsWays 39 = .ok (.iload_n 1, 1) := by decide +kernel
theorem dX12_fillsWays_40 : decode cX12_fillsWays 40 = .ok (.if_icmp .gt 72, 3) := by decide +kernel
theorem dX12_fillsWays_43 : decode cX12_fillsWays 43 = .ok (.iconst 0, 1) := by decide +kernel
theorem dX12_fillsWays_44 : decode cX12_fillsWays 44 = .ok (.istore 5, 2) := by decide +kernel
theorem dX12_fillsWays_46 : decode cX12_fillsWays 46 = .ok (.iload 5, 2) := by decide +kernel
theorem dX12_fillsWays_48 : decode cX12_fillsWays 48 = .ok (.aload_n 0, 1) := by decide +kernel
theorem dX12_fillsWays_49 : decode cX12_fillsWays 49 = .ok (.getfield 49, 3) := by decide +kernel
theorem dX12_fillsWays_52 : decode cX12_fillsWays 52 = .ok (.aload_n 0, 1) := by decide +kernel
theorem dX12_fillsWays_53 : decode cX12_fillsWays 53 = .ok (.getfield 264, 3) := by decide +kernel
theorem dX12_fillsWays_56 : decode cX12_fillsWays 56 = .ok (.iaload, 1) := by decide +kernel
theorem dX12_fillsWays_57 : decode cX12_fillsWays 57 = .ok (.if_icmp .ge 55, 3) := by decide +kernel
theorem dX12_fillsWays_60 : decode cX12_fillsWays 60 = .ok (.aload_n 0, 1) := by decide +kernel
theorem dX12_fillsWays_61 : decode cX12_fillsWays 61 = .ok (.getfield 143, 3) := by decide +kernel
theorem dX12_fillsWays_64 : decode cX12_fillsWays 64 = .ok (.iload 5, 2) := by decide +kernel
theorem dX12_fillsWays_66 : decode cX12_fillsWays 66 = .ok (.iaload, 1) := by decide +kernel
theorem dX12_fillsWays_67 : decode cX12_fillsWays 67 = .ok (.ifCond .le 39, 3) := by decide +kernel
theorem dX12_fillsWays_70 : decode cX12_fillsWays 70 = .ok (.lload_n 3, 1) := by decide +kernel
theorem dX12_fillsWays_71 : decode cX12_fillsWays 71 = .ok (.aload_n 0, 1) := by decide +kernel
theorem dX12_fillsWays_72 : decode cX12_fillsWays 72 = .ok (.getfield 140, 3) := by decide +kernel
theorem dX12_fillsWays_75 : decode cX12_fillsWays 75 = .ok (.iload_n 2, 1) := by decide +kernel
theorem dX12_fillsWays_76 : decode cX12_fillsWays 76 = .ok (.aload_n 0, 1) := by decide +kernel
theorem dX12_fillsWays_77 : decode cX12_fillsWays 77 = .ok (.getfield 137, 3) := by decide +kernel
theorem dX12_fillsWays_80 : decode cX12_fillsWays 80 = .ok (.iload 5, 2) := by decide +kernel
theorem dX12_fillsWays_82 : decode cX12_fillsWays 82 = .ok (.iaload, 1) := by decide +kernel
theorem dX12_fillsWays_83 : decode cX12_fillsWays 83 = .ok (.isub, 1) := by decide +kernel
theorem dX12_fillsWays_84 : decode cX12_fillsWays 84 = .ok (.laload, 1) := by decide +kernel
theorem dX12_fillsWays_85 : decode cX12_fillsWays 85 = .ok (.aload_n 0, 1) := by decide +kernel
theorem dX12_fillsWays_86 : decode cX12_fillsWays 86 = .ok (.getfield 131, 3) := by decide +kernel
theorem dX12_fillsWays_89 : decode cX12_fillsWays 89 = .ok (.iload 5, 2) := by decide +kernel
theorem dX12_fillsWays_91 : decode cX12_fillsWays 91 = .ok (.iaload, 1) := by decide +kernel
theorem dX12_fillsWays_92 : decode cX12_fillsWays 92 = .ok (.aload_n 0, 1) := by decide +kernel
theorem dX12_fillsWays_93 : decode cX12_fillsWays 93 = .ok (.getfield 143, 3) := by decide +kernel
theorem dX12_fillsWays_96 : decode cX12_fillsWays 96 = .ok (.iload 5, 2) := by decide +kernel
theorem dX12_fillsWays_98 : decode cX12_fillsWays 98 = .ok (.iaload, 1) := by decide +kernel
theorem dX12_fillsWays_99 : decode cX12_fillsWays 99 = .ok (.isub, 1) := by decide +kernel
theorem dX12_fillsWays_100 : decode cX12_fillsWays 100 = .ok (.iconst 1, 1) := by decide +kernel
theorem dX12_fillsWays_101 : decode cX12_fillsWays 101 = .ok (.iadd, 1) := by decide +kernel
theorem dX12_fillsWays_102 : decode cX12_fillsWays 102 = .ok (.i2l, 1) := by decide +kernel
theorem dX12_fillsWays_103 : decode cX12_fillsWays 103 = .ok (.lmul, 1) := by decide +kernel
theorem dX12_fillsWays_104 : decode cX12_fillsWays 104 = .ok (.ladd, 1) := by decide +kernel
theorem dX12_fillsWays_105 : decode cX12_fillsWays 105 = .ok (.lstore_n 3, 1) := by decide +kernel
theorem dX12_fillsWays_106 : decode cX12_fillsWays 106 = .ok (.iinc 5 1, 3) := by decide +kernel
theorem dX12_fillsWays_109 : decode cX12_fillsWays 109 = .ok (.goto (-63), 3) := by decide +kernel
theorem dX12_fillsWays_112 : decode cX12_fillsWays 112 = .ok (.aload_n 0, 1) := by decide +kernel
theorem dX12_fillsWays_113 : decode cX12_fillsWays 113 = .ok (.getfield 140, 3) := by decide +kernel
theorem dX12_fillsWays_116 : decode cX12_fillsWays 116 = .ok (.iload_n 2, 1) := by decide +kernel
theorem dX12_fillsWays_117 : decode cX12_fillsWays 117 = .ok (.lload_n 3, 1) := by decide +kernel
theorem dX12_fillsWays_118 : decode cX12_fillsWays 118 = .ok (.lastore, 1) := by decide +kernel
theorem dX12_fillsWays_119 : decode cX12_fillsWays 119 = .ok (.iinc 2 1, 3) := by decide +kernel
theorem dX12_fillsWays_122 : decode cX12_fillsWays 122 = .ok (.goto (-105), 3) := by decide +kernel
theorem dX12_fillsWays_125 : decode cX12_fillsWays 125 = .ok (.return_, 1) := by decide +kernel
theorem dX12_withinOf_0 : decode cX12_withinOf 0 = .ok (.aload_n 0, 1) := by decide +kernel
theorem dX12_withinOf_1 : decode cX12_withinOf 1 = .ok (.iload_n 1, 1) := by decide +kernel
theorem dX12_withinOf_2 : decode cX12_withinOf 2 = .ok (.invokevirtual 385, 3) := by decide +kernel
theorem dX12_withinOf_5 : decode cX12_withinOf 5 = .ok (.aload_n 0, 1) := by decide +kernel
theorem dX12_withinOf_6 : decode cX12_withinOf 6 = .ok (.getfield 140, 3) := by decide +kernel
theorem dX12_withinOf_9 : decode cX12_withinOf 9 = .ok (.aload_n 0, 1) := by decide +kernel
theorem dX12_withinOf_10 : decode cX12_withinOf 10 = .ok (.getfield 137, 3) := by decide +kernel
theorem dX12_withinOf_13 : decode cX12_withinOf 13 = .ok (.bipush 8, 2) := by decide +kernel
theorem dX12_withinOf_15 : decode cX12_withinOf 15 = .ok (.iaload, 1) := by decide +kernel
theorem dX12_withinOf_16 : decode cX12_withinOf 16 = .ok (.iconst 1, 1) := by decide +kernel
theorem dX12_withinOf_17 : decode cX12_withinOf 17 = .ok (.isub, 1) := by decide +kernel
theorem dX12_withinOf_18 : decode cX12_withinOf 18 = .ok (.laload, 1) := by decide +kernel
theorem dX12_withinOf_19 : decode cX12_withinOf 19 = .ok (.lreturn, 1) := by decide +kernel
theorem dX12_within_0 : decode cX12_within 0 = .ok (.iload_n 1, 1) := by decide +kernel
theorem dX12_within_1 : decode cX12_within 1 = .ok (.iconst 0, 1) := by decide +kernel
theorem dX12_within_2 : decode cX12_within 2 = .ok (.bipush 18, 2) := by decide +kernel
theorem dX12_within_4 : decode cX12_within 4 = .ok (.invokestatic 335, 3) := by decide +kernel
theorem dX12_within_7 : decode cX12_within 7 = .ok (.ifCond .eq 11, 3) := by decide +kernel
theorem dX12_within_10 : decode cX12_within 10 = .ok (.aload_n 0, 1) := by decide +kernel
theorem dX12_within_11 : decode cX12_within 11 = .ok (.iload_n 1, 1) := by decide +kernel
theorem dX12_within_12 : decode cX12_within 12 = .ok (.invokevirtual 388, 3) := by decide +kernel
theorem dX12_within_15 : decode cX12_within 15 = .ok (.goto 6, 3) := by decide +kernel
theorem dX12_within_18 : decode cX12_within 18 = .ok (.ldc2_w 392, 3) := by decide +kernel
theorem dX12_within_21 : decode cX12_within 21 = .ok (.lreturn, 1) := by decide +kernel
theorem dX12_lies_0 : decode cX12_lies 0 = .ok (.aload_n 0, 1) := by decide +kernel
theorem dX12_lies_1 : decode cX12_lies 1 = .ok (.invokevirtual 364, 3) := by decide +kernel
theorem dX12_lies_4 : decode cX12_lies 4 = .ok (.iload_n 1, 1) := by decide +kernel
theorem dX12_lies_5 : decode cX12_lies 5 = .ok (.iconst 0, 1) := by decide +kernel
theorem dX12_lies_6 : decode cX12_lies 6 = .ok (.aload_n 0, 1) := by decide +kernel
theorem dX12_lies_7 : decode cX12_lies 7 = .ok (.iconst 0, 1) := by decide +kernel
theorem dX12_lies_8 : decode cX12_lies 8 = .ok (.invokevirtual 352, 3) := by decide +kernel
theorem dX12_lies_11 : decode cX12_lies 11 = .ok (.invokestatic 335, 3) := by decide +kernel
theorem dX12_lies_14 : decode cX12_lies 14 = .ok (.ifCond .ne 7, 3) := by decide +kernel
theorem dX12_lies_17 : decode cX12_lies 17 = .ok (.ldc2_w 392, 3) := by decide +kernel
theorem dX12_lies_20 : decode cX12_lies 20 = .ok (.lreturn, 1) := by decide +kernel
theorem dX12_lies_21 : decode cX12_lies 21 = .ok (.aload_n 0, 1) := by decide +kernel
theorem dX12_lies_22 : decode cX12_lies 22 = .ok (.bipush 18, 2) := by decide +kernel
theorem dX12_lies_24 : decode cX12_lies 24 = .ok (.invokevirtual 385, 3) := by decide +kernel
theorem dX12_lies_27 : decode cX12_lies 27 = .ok (.aload_n 0, 1) := by decide +kernel
theorem dX12_lies_28 : decode cX12_lies 28 = .ok (.iconst 0, 1) := by decide +kernel
theorem dX12_lies_29 : decode cX12_lies 29 = .ok (.invokevirtual 352, 3) := by decide +kernel
theorem dX12_lies_32 : decode cX12_lies 32 = .ok (.iload_n 1, 1) := by decide +kernel
theorem dX12_lies_33 : decode cX12_lies 33 = .ok (.isub, 1) := by decide +kernel
theorem dX12_lies_34 : decode cX12_lies 34 = .ok (.invokestatic 394, 3) := by decide +kernel
theorem dX12_lies_37 : decode cX12_lies 37 = .ok (.lstore_n 2, 1) := by decide +kernel
theorem dX12_lies_38 : decode cX12_lies 38 = .ok (.lconst 0, 1) := by decide +kernel
theorem dX12_lies_39 : decode cX12_lies 39 = .ok (.lstore 4, 2) := by decide +kernel
theorem dX12_lies_41 : decode cX12_lies 41 = .ok (.iconst 0, 1) := by decide +kernel
theorem dX12_lies_42 : decode cX12_lies 42 = .ok (.istore 6, 2) := by decide +kernel
theorem dX12_lies_44 : decode cX12_lies 44 = .ok (.iload 6, 2) := by decide +kernel
theorem dX12_lies_46 : decode cX12_lies 46 = .ok (.aload_n 0, 1) := by decide +kernel
theorem dX12_lies_47 : decode cX12_lies 47 = .ok (.getfield 137, 3) := by decide +kernel
theorem dX12_lies_50 : decode cX12_lies 50 = .ok (.bipush 8, 2) := by decide +kernel
theorem dX12_lies_52 : decode cX12_lies 52 = .ok (.iaload, 1) := by decide +kernel
theorem dX12_lies_53 : decode cX12_lies 53 = .ok (.if_icmp .ge 43, 3) := by decide +kernel
theorem dX12_lies_56 : decode cX12_lies 56 = .ok (.aload_n 0, 1) := by decide +kernel
theorem dX12_lies_57 : decode cX12_lies 57 = .ok (.iload 6, 2) := by decide +kernel
theorem dX12_lies_59 : decode cX12_lies 59 = .ok (.invokevirtual 379, 3) := by decide +kernel
theorem dX12_lies_62 : decode cX12_lies 62 = .ok (.aload_n 0, 1) := by decide +kernel
theorem dX12_lies_63 : decode cX12_lies 63 = .ok (.invokevirtual 397, 3) := by decide +kernel
theorem dX12_lies_66 : decode cX12_lies 66 = .ok (.iload_n 1, 1) := by decide +kernel
theorem dX12_lies_67 : decode cX12_lies 67 = .ok (.if_icmp .ne 23, 3) := by decide +kernel
theorem dX12_lies_70 : decode cX12_lies 70 = .ok (.lload 4, 2) := by decide +kernel
theorem dX12_lies_72 : decode cX12_lies 72 = .ok (.aload_n 0, 1) := by decide +kernel
theorem dX12_lies_73 : decode cX12_lies 73 = .ok (.getfield 140, 3) := by decide +kernel
theorem dX12_lies_76 : decode cX12_lies 76 = .ok (.iload 6, 2) := by decide +kernel
theorem dX12_lies_78 : decode cX12_lies 78 = .ok (.laload, 1) := by decide +kernel
theorem dX12_lies_79 : decode cX12_lies 79 = .ok (.lload_n 2, 1) := by decide +kernel
theorem dX12_lies_80 : decode cX12_lies 80 = .ok (.lmul, 1) := by decide +kernel
theorem dX12_lies_81 : decode cX12_lies 81 = .ok (.aload_n 0, 1) := by decide +kernel
theorem dX12_lies_82 : decode cX12_lies 82 = .ok (.invokevirtual 382, 3) := by decide +kernel
theorem dX12_lies_85 : decode cX12_lies 85 = .ok (.i2l, 1) := by decide +kernel
theorem dX12_lies_86 : decode cX12_lies 86 = .ok (.lmul, 1) := by decide +kernel
theorem dX12_lies_87 : decode cX12_lies 87 = .ok (.ladd, 1) := by decide +kernel
theorem dX12_lies_88 : decode cX12_lies 88 = .ok (.lstore 4, 2) := by decide +kernel
theorem dX12_lies_90 : decode cX12_lies 90 = .ok (.iinc 6 1, 3) := by decide +kernel
theorem dX12_lies_93 : decode cX12_lies 93 = .ok (.goto (-49), 3) := by decide +kernel
theorem dX12_lies_96 : decode cX12_lies 96 = .ok (.lload 4, 2) := by decide +kernel
theorem dX12_lies_98 : decode cX12_lies 98 = .ok (.lreturn, 1) := by decide +kernel
theorem dX12_mosts_0 : decode cX12_mosts 0 = .ok (.aload_n 0, 1) := by decide +kernel
theorem dX12_mosts_1 : decode cX12_mosts 1 = .ok (.invokevirtual 364, 3) := by decide +kernel
theorem dX12_mosts_4 : decode cX12_mosts 4 = .ok (.aload_n 0, 1) := by decide +kernel
theorem dX12_mosts_5 : decode cX12_mosts 5 = .ok (.iconst 0, 1) := by decide +kernel
theorem dX12_mosts_6 : decode cX12_mosts 6 = .ok (.invokevirtual 352, 3) := by decide +kernel
theorem dX12_mosts_9 : decode cX12_mosts 9 = .ok (.invokestatic 394, 3) := by decide +kernel
theorem dX12_mosts_12 : decode cX12_mosts 12 = .ok (.lstore_n 1, 1) := by decide +kernel
theorem dX12_mosts_13 : decode cX12_mosts 13 = .ok (.lconst 0, 1) := by decide +kernel
theorem dX12_mosts_14 : decode cX12_mosts 14 = .ok (.lstore_n 3, 1) := by decide +kernel
theorem dX12_mosts_15 : decode cX12_mosts 15 = .ok (.iconst 0, 1) := by decide +kernel
theorem dX12_mosts_16 : decode cX12_mosts 16 = .ok (.istore 5, 2) := by decide +kernel
theorem dX12_mosts_18 : decode cX12_mosts 18 = .ok (.iload 5, 2) := by decide +kernel
theorem dX12_mosts_20 : decode cX12_mosts 20 = .ok (.bipush 18, 2) := by decide +kernel
theorem dX12_mosts_22 : decode cX12_mosts 22 = .ok (.if_icmp .ge 20, 3) := by decide +kernel
theorem dX12_mosts_25 : decode cX12_mosts 25 = .ok (.lload_n 3, 1) := by decide +kernel
theorem dX12_mosts_26 : decode cX12_mosts 26 = .ok (.lload_n 1, 1) := by decide +kernel
theorem dX12_mosts_27 : decode cX12_mosts 27 = .ok (.aload_n 0, 1) := by decide +kernel
theorem dX12_mosts_28 : decode cX12_mosts 28 = .ok (.iload 5, 2) := by decide +kernel
theorem dX12_mosts_30 : decode cX12_mosts 30 = .ok (.invokevirtual 388, 3) := by decide +kernel
theorem dX12_mosts_33 : decode cX12_mosts 33 = .ok (.lsub, 1) := by decide +kernel
theorem dX12_mosts_34 : decode cX12_mosts 34 = .ok (.ladd, 1) := by decide +kernel
theorem dX12_mosts_35 : decode cX12_mosts 35 = .ok (.lstore_n 3, 1) := by decide +kernel
theorem dX12_mosts_36 : decode cX12_mosts 36 = .ok (.iinc 5 1, 3) := by decide +kernel
theorem dX12_mosts_39 : decode cX12_mosts 39 = .ok (.goto (-21), 3) := by decide +kernel
theorem dX12_mosts_42 : decode cX12_mosts 42 = .ok (.lload_n 3, 1) := by decide +kernel
theorem dX12_mosts_43 : decode cX12_mosts 43 = .ok (.lreturn, 1) := by decide +kernel
theorem dX12_sure_0 : decode cX12_sure 0 = .ok (.iload_n 2, 1) := by decide +kernel
theorem dX12_sure_1 : decode cX12_sure 1 = .ok (.iconst 1, 1) := by decide +kernel
theorem dX12_sure_2 : decode cX12_sure 2 = .ok (.bipush 99, 2) := by decide +kernel
theorem dX12_sure_4 : decode cX12_sure 4 = .ok (.invokestatic 335, 3) := by decide +kernel
theorem dX12_sure_7 : decode cX12_sure 7 = .ok (.ifCond .eq 12, 3) := by decide +kernel
theorem dX12_sure_10 : decode cX12_sure 10 = .ok (.iload_n 1, 1) := by decide +kernel
theorem dX12_sure_11 : decode cX12_sure 11 = .ok (.iconst 0, 1) := by decide +kernel
theorem dX12_sure_12 : decode cX12_sure 12 = .ok (.iload_n 2, 1) := by decide +kernel
theorem dX12_sure_13 : decode cX12_sure 13 = .ok (.invokestatic 335, 3) := by decide +kernel
theorem dX12_sure_16 : decode cX12_sure 16 = .ok (.ifCond .ne 5, 3) := by decide +kernel
theorem dX12_sure_19 : decode cX12_sure 19 = .ok (.iconst (-1), 1) := by decide +kernel
theorem dX12_sure_20 : decode cX12_sure 20 = .ok (.ireturn, 1) := by decide +kernel
theorem dX12_sure_21 : decode cX12_sure 21 = .ok (.aload_n 0, 1) := by decide +kernel
theorem dX12_sure_22 : decode cX12_sure 22 = .ok (.invokevirtual 364, 3) := by decide +kernel
theorem dX12_sure_25 : decode cX12_sure 25 = .ok (.aload_n 0, 1) := by decide +kernel
theorem dX12_sure_26 : decode cX12_sure 26 = .ok (.iconst 0, 1) := by decide +kernel
theorem dX12_sure_27 : decode cX12_sure 27 = .ok (.invokevirtual 352, 3) := by decide +kernel
theorem dX12_sure_30 : decode cX12_sure 30 = .ok (.invokestatic 394, 3) := by decide +kernel
theorem dX12_sure_33 : decode cX12_sure 33 = .ok (.lstore_n 3, 1) := by decide +kernel
theorem dX12_sure_34 : decode cX12_sure 34 = .ok (.iconst 0, 1) := by decide +kernel
theorem dX12_sure_35 : decode cX12_sure 35 = .ok (.istore 5, 2) := by decide +kernel
theorem dX12_sure_37 : decode cX12_sure 37 = .ok (.aload_n 0, 1) := by decide +kernel
theorem dX12_sure_38 : decode cX12_sure 38 = .ok (.iload 5, 2) := by decide +kernel
theorem dX12_sure_40 : decode cX12_sure 40 = .ok (.invokevirtual 388, 3) := by decide +kernel
theorem dX12_sure_43 : decode cX12_sure 43 = .ok (.iload_n 2, 1) := by decide +kernel
theorem dX12_sure_44 : decode cX12_sure 44 = .ok (.i2l, 1) := by decide +kernel
theorem dX12_sure_45 : decode cX12_sure 45 = .ok (.lmul, 1) := by decide +kernel
theorem dX12_sure_46 : decode cX12_sure 46 = .ok (.iload_n 1, 1) := by decide +kernel
theorem dX12_sure_47 : decode cX12_sure 47 = .ok (.i2l, 1) := by decide +kernel
theorem dX12_sure_48 : decode cX12_sure 48 = .ok (.lload_n 3, 1) := by decide +kernel
theorem dX12_sure_49 : decode cX12_sure 49 = .ok (.lmul, 1) := by decide +kernel
theorem dX12_sure_50 : decode cX12_sure 50 = .ok (.lcmp, 1) := by decide +kernel
theorem dX12_sure_51 : decode cX12_sure 51 = .ok (.ifCond .ge 9, 3) := by decide +kernel
theorem dX12_sure_54 : decode cX12_sure 54 = .ok (.iinc 5 1, 3) := by decide +kernel
theorem dX12_sure_57 : decode cX12_sure 57 = .ok (.goto (-20), 3) := by decide +kernel
theorem dX12_sure_60 : decode cX12_sure 60 = .ok (.iload 5, 2) := by decide +kernel
theorem dX12_sure_62 : decode cX12_sure 62 = .ok (.ireturn, 1) := by decide +kernel
theorem dX12_drawsIn_0 : decode cX12_drawsIn 0 = .ok (.iconst 0, 1) := by decide +kernel
theorem dX12_drawsIn_1 : decode cX12_drawsIn 1 = .ok (.istore_n 2, 1) := by decide +kernel
theorem dX12_drawsIn_2 : decode cX12_drawsIn 2 = .ok (.iload_n 2, 1) := by decide +kernel
theorem dX12_drawsIn_3 : decode cX12_drawsIn 3 = .ok (.iload_n 1, 1) := by decide +kernel
theorem dX12_drawsIn_4 : decode cX12_drawsIn 4 = .ok (.if_icmp .ge 36, 3) := by decide +kernel
theorem dX12_drawsIn_7 : decode cX12_drawsIn 7 = .ok (.aload_n 0, 1) := by decide +kernel
theorem dX12_drawsIn_8 : decode cX12_drawsIn 8 = .ok (.iconst 0, 1) := by decide +kernel
theorem dX12_drawsIn_9 : decode cX12_drawsIn 9 = .ok (.invokevirtual 352, 3) := by decide +kernel
theorem dX12_drawsIn_12 : decode cX12_drawsIn 12 = .ok (.ifCond .le 28, 3) := by decide +kernel
theorem dX12_drawsIn_15 : decode cX12_drawsIn 15 = .ok (.aload_n 0, 1) := by decide +kernel
theorem dX12_drawsIn_16 : decode cX12_drawsIn 16 = .ok (.getfield 131, 3) := by decide +kernel
theorem dX12_drawsIn_19 : decode cX12_drawsIn 19 = .ok (.bipush 25, 2) := by decide +kernel
theorem dX12_drawsIn_21 : decode cX12_drawsIn 21 = .ok (.iaload, 1) := by decide +kernel
theorem dX12_drawsIn_22 : decode cX12_drawsIn 22 = .ok (.ifCond .ne 18, 3) := by decide +kernel
theorem dX12_drawsIn_25 : decode cX12_drawsIn 25 = .ok (.aload_n 0, 1) := by decide +kernel
theorem dX12_drawsIn_26 : decode cX12_drawsIn 26 = .ok (.aload_n 0, 1) := by decide +kernel
theorem dX12_drawsIn_27 : decode cX12_drawsIn 27 = .ok (.invokevirtual 373, 3) := by decide +kernel
theorem dX12_drawsIn_30 : decode cX12_drawsIn 30 = .ok (.invokevirtual 367, 3) := by decide +kernel
theorem dX12_drawsIn_33 : decode cX12_drawsIn 33 = .ok (.pop, 1) := by decide +kernel
theorem dX12_drawsIn_34 : decode cX12_drawsIn 34 = .ok (.iinc 2 1, 3) := by decide +kernel
theorem dX12_drawsIn_37 : decode cX12_drawsIn 37 = .ok (.goto (-35), 3) := by decide +kernel
theorem dX12_drawsIn_40 : decode cX12_drawsIn 40 = .ok (.iload_n 2, 1) := by decide +kernel
theorem dX12_drawsIn_41 : decode cX12_drawsIn 41 = .ok (.ireturn, 1) := by decide +kernel
theorem dX12_evening_0 : decode cX12_evening 0 = .ok (.iload_n 1, 1) := by decide +kernel
theorem dX12_evening_1 : decode cX12_evening 1 = .ok (.iconst 1, 1) := by decide +kernel
theorem dX12_evening_2 : decode cX12_evening 2 = .ok (.sipush 500, 3) := by decide +kernel
theorem dX12_evening_5 : decode cX12_evening 5 = .ok (.invokestatic 335, 3) := by decide +kernel
theorem dX12_evening_8 : decode cX12_evening 8 = .ok (.ifCond .ne 5, 3) := by decide +kernel
theorem dX12_evening_11 : decode cX12_evening 11 = .ok (.iconst (-1), 1) := by decide +kernel
theorem dX12_evening_12 : decode cX12_evening 12 = .ok (.ireturn, 1) := by decide +kernel
theorem dX12_evening_13 : decode cX12_evening 13 = .ok (.aload_n 0, 1) := by decide +kernel
theorem dX12_evening_14 : decode cX12_evening 14 = .ok (.invokevirtual 364, 3) := by decide +kernel
theorem dX12_evening_17 : decode cX12_evening 17 = .ok (.aload_n 0, 1) := by decide +kernel
theorem dX12_evening_18 : decode cX12_evening 18 = .ok (.iload_n 1, 1) := by decide +kernel
theorem dX12_evening_19 : decode cX12_evening 19 = .ok (.invokevirtual 400, 3) := by decide +kernel
theorem dX12_evening_22 : decode cX12_evening 22 = .ok (.ireturn, 1) := by decide +kernel
theorem dX12_soonest_0 : decode cX12_soonest 0 = .ok (.iload_n 1, 1) := by decide +kernel
theorem dX12_soonest_1 : decode cX12_soonest 1 = .ok (.iconst 1, 1) := by decide +kernel
theorem dX12_soonest_2 : decode cX12_soonest 2 = .ok (.bipush 30, 2) := by decide +kernel
theorem dX12_soonest_4 : decode cX12_soonest 4 = .ok (.invokestatic 335, 3) := by decide +kernel
theorem dX12_soonest_7 : decode cX12_soonest 7 = .ok (.ifCond .eq 12, 3) := by decide +kernel
theorem dX12_soonest_10 : decode cX12_soonest 10 = .ok (.iload_n 2, 1) := by decide +kernel
theorem dX12_soonest_11 : decode cX12_soonest 11 = .ok (.iconst 0, 1) := by decide +kernel
theorem dX12_soonest_12 : decode cX12_soonest 12 = .ok (.iconst 1, 1) := by decide +kernel
theorem dX12_soonest_13 : decode cX12_soonest 13 = .ok (.invokestatic 335, 3) := by decide +kernel
theorem dX12_soonest_16 : decode cX12_soonest 16 = .ok (.ifCond .ne 5, 3) := by decide +kernel
theorem dX12_soonest_19 : decode cX12_soonest 19 = .ok (.iconst (-1), 1) := by decide +kernel
theorem dX12_soonest_20 : decode cX12_soonest 20 = .ok (.ireturn, 1) := by decide +kernel
theorem dX12_soonest_21 : decode cX12_soonest 21 = .ok (.iconst (-1), 1) := by decide +kernel
theorem dX12_soonest_22 : decode cX12_soonest 22 = .ok (.istore_n 3, 1) := by decide +kernel
theorem dX12_soonest_23 : decode cX12_soonest 23 = .ok (.iconst 0, 1) := by decide +kernel
theorem dX12_soonest_24 : decode cX12_soonest 24 = .ok (.istore 4, 2) := by decide +kernel
theorem dX12_soonest_26 : decode cX12_soonest 26 = .ok (.iconst 0, 1) := by decide +kernel
theorem dX12_soonest_27 : decode cX12_soonest 27 = .ok (.istore 5, 2) := by decide +kernel
theorem dX12_soonest_29 : decode cX12_soonest 29 = .ok (.iload 5, 2) := by decide +kernel
theorem dX12_soonest_31 : decode cX12_soonest 31 = .ok (.iconst 4, 1) := by decide +kernel
theorem dX12_soonest_32 : decode cX12_soonest 32 = .ok (.if_icmp .ge 94, 3) := by decide +kernel
theorem dX12_soonest_35 : decode cX12_soonest 35 = .ok (.iconst 0, 1) := by decide +kernel
theorem dX12_soonest_36 : decode cX12_soonest 36 = .ok (.istore 6, 2) := by decide +kernel
theorem dX12_soonest_38 : decode cX12_soonest 38 = .ok (.iconst 0, 1) := by decide +kernel
theorem dX12_soonest_39 : decode cX12_soonest 39 = .ok (.istore 7, 2) := by decide +kernel
theorem dX12_soonest_41 : decode cX12_soonest 41 = .ok (.iload 7, 2) := by decide +kernel
theorem dX12_soonest_43 : decode cX12_soonest 43 = .ok (.iload_n 1, 1) := by decide +kernel
theorem dX12_soonest_44 : decode cX12_soonest 44 = .ok (.if_icmp .ge 55, 3) := by decide +kernel
theorem dX12_soonest_47 : decode cX12_soonest 47 = .ok (.aload_n 0, 1) := by decide +kernel
theorem dX12_soonest_48 : decode cX12_soonest 48 = .ok (.invokevirtual 364, 3) := by decide +kernel
theorem dX12_soonest_51 : decode cX12_soonest 51 = .ok (.aload_n 0, 1) := by decide +kernel
theorem dX12_soonest_52 : decode cX12_soonest 52 = .ok (.iload 5, 2) := by decide +kernel
theorem dX12_soonest_54 : decode cX12_soonest 54 = .ok (.putfield 339, 3) := by decide +kernel
theorem dX12_soonest_57 : decode cX12_soonest 57 = .ok (.aload_n 0, 1) := by decide +kernel
theorem dX12_soonest_58 : decode cX12_soonest 58 = .ok (.iload 7, 2) := by decide +kernel
theorem dX12_soonest_60 : decode cX12_soonest 60 = .ok (.putfield 342, 3) := by decide +kernel
theorem dX12_soonest_63 : decode cX12_soonest 63 = .ok (.aload_n 0, 1) := by decide +kernel
theorem dX12_soonest_64 : decode cX12_soonest 64 = .ok (.sipush 200, 3) := by decide +kernel
theorem dX12_soonest_67 : decode cX12_soonest 67 = .ok (.invokevirtual 400, 3) := by decide +kernel
theorem dX12_soonest_70 : decode cX12_soonest 70 = .ok (.istore 8, 2) := by decide +kernel
theorem dX12_soonest_72 : decode cX12_soonest 72 = .ok (.iload 6, 2) := by decide +kernel
theorem dX12_soonest_74 : decode cX12_soonest 74 = .ok (.aload_n 0, 1) := by decide +kernel
theorem dX12_soonest_75 : decode cX12_soonest 75 = .ok (.iconst 0, 1) := by decide +kernel
theorem dX12_soonest_76 : decode cX12_soonest 76 = .ok (.invokevirtual 352, 3) := by decide +kernel
theorem dX12_soonest_79 : decode cX12_soonest 79 = .ok (.ifCond .le 9, 3) := by decide +kernel
theorem dX12_soonest_82 : decode cX12_soonest 82 = .ok (.sipush 500, 3) := by decide +kernel
theorem dX12_soonest_85 : decode cX12_soonest 85 = .ok (.goto 5, 3) := by decide +kernel
theorem dX12_soonest_88 : decode cX12_soonest 88 = .ok (.iload 8, 2) := by decide +kernel
theorem dX12_soonest_90 : decode cX12_soonest 90 = .ok (.iadd, 1) := by decide +kernel
theorem dX12_soonest_91 : decode cX12_soonest 91 = .ok (.istore 6, 2) := by decide +kernel
theorem dX12_soonest_93 : decode cX12_soonest 93 = .ok (.iinc 7 1, 3) := by decide +kernel
theorem dX12_soonest_96 : decode cX12_soonest 96 = .ok (.goto (-55), 3) := by decide +kernel
theorem dX12_soonest_99 : decode cX12_soonest 99 = .ok (.iload_n 3, 1) := by decide +kernel
theorem dX12_soonest_100 : decode cX12_soonest 100 = .ok (.ifCond .lt 13, 3) := by decide +kernel
theorem dX12_soonest_103 : decode cX12_soonest 103 = .ok (.iload 6, 2) := by decide +kernel
theorem dX12_soonest_105 : decode cX12_soonest 105 = .ok (.iload 4, 2) := by decide +kernel
theorem dX12_soonest_107 : decode cX12_soonest 107 = .ok (.if_icmp .lt 6, 3) := by decide +kernel
theorem dX12_soonest_110 : decode cX12_soonest 110 = .ok (.goto 10, 3) := by decide +kernel
theorem dX12_soonest_113 : decode cX12_soonest 113 = .ok (.iload 5, 2) := by decide +kernel
theorem dX12_soonest_115 : decode cX12_soonest 115 = .ok (.istore_n 3, 1) := by decide +kernel
theorem dX12_soonest_116 : decode cX12_soonest 116 = .ok (.iload 6, 2) := by decide +kernel
theorem dX12_soonest_118 : decode cX12_soonest 118 = .ok (.istore 4, 2) := by decide +kernel
theorem dX12_soonest_120 : decode cX12_soonest 120 = .ok (.iinc 5 1, 3) := by decide +kernel
theorem dX12_soonest_123 : decode cX12_soonest 123 = .ok (.goto (-94), 3) := by decide +kernel
theorem dX12_soonest_126 : decode cX12_soonest 126 = .ok (.iload_n 2, 1) := by decide +kernel
theorem dX12_soonest_127 : decode cX12_soonest 127 = .ok (.ifCond .ne 7, 3) := by decide +kernel
theorem dX12_soonest_130 : decode cX12_soonest 130 = .ok (.iload_n 3, 1) := by decide +kernel
theorem dX12_soonest_131 : decode cX12_soonest 131 = .ok (.goto 5, 3) := by decide +kernel
theorem dX12_soonest_134 : decode cX12_soonest 134 = .ok (.iload 4, 2) := by decide +kernel
theorem dX12_soonest_136 : decode cX12_soonest 136 = .ok (.ireturn, 1) := by decide +kernel
theorem dX12_hangs_0 : decode cX12_hangs 0 = .ok (.iconst 0, 1) := by decide +kernel
theorem dX12_hangs_1 : decode cX12_hangs 1 = .ok (.istore_n 1, 1) := by decide +kernel
theorem dX12_hangs_2 : decode cX12_hangs 2 = .ok (.iload_n 1, 1) := by decide +kernel
theorem dX12_hangs_3 : decode cX12_hangs 3 = .ok (.aload_n 0, 1) := by decide +kernel
theorem dX12_hangs_4 : decode cX12_hangs 4 = .ok (.getfield 79, 3) := by decide +kernel
theorem dX12_hangs_7 : decode cX12_hangs 7 = .ok (.aload_n 0, 1) := by decide +kernel
theorem dX12_hangs_8 : decode cX12_hangs 8 = .ok (.getfield 264, 3) := by decide +kernel
theorem dX12_hangs_11 : decode cX12_hangs 11 = .ok (.iaload, 1) := by decide +kernel
theorem dX12_hangs_12 : decode cX12_hangs 12 = .ok (.if_icmp .ge 29, 3) := by decide +kernel
theorem dX12_hangs_15 : decode cX12_hangs 15 = .ok (.aload_n 0, 1) := by decide +kernel
theorem dX12_hangs_16 : decode cX12_hangs 16 = .ok (.getfield 146, 3) := by decide +kernel
theorem dX12_hangs_19 : decode cX12_hangs 19 = .ok (.iload_n 1, 1) := by decide +kernel
theorem dX12_hangs_20 : decode cX12_hangs 20 = .ok (.aload_n 0, 1) := by decide +kernel
theorem dX12_hangs_21 : decode cX12_hangs 21 = .ok (.getfield 82, 3) := by decide +kernel
theorem dX12_hangs_24 : decode cX12_hangs 24 = .ok (.bipush 18, 2) := by decide +kernel
theorem dX12_hangs_26 : decode cX12_hangs 26 = .ok (.aload_n 0, 1) := by decide +kernel
theorem dX12_hangs_27 : decode cX12_hangs 27 = .ok (.getfield 264, 3) := by decide +kernel
theorem dX12_hangs_30 : decode cX12_hangs 30 = .ok (.imul, 1) := by decide +kernel
theorem dX12_hangs_31 : decode cX12_hangs 31 = .ok (.iload_n 1, 1) := by decide +kernel
theorem dX12_hangs_32 : decode cX12_hangs 32 = .ok (.iadd, 1) := by decide +kernel
theorem dX12_hangs_33 : decode cX12_hangs 33 = .ok (.iaload, 1) := by decide +kernel
theorem dX12_hangs_34 : decode cX12_hangs 34 = .ok (.iastore, 1) := by decide +kernel
theorem dX12_hangs_35 : decode cX12_hangs 35 = .ok (.iinc 1 1, 3) := by decide +kernel
theorem dX12_hangs_38 : decode cX12_hangs 38 = .ok (.goto (-36), 3) := by decide +kernel
theorem dX12_hangs_41 : decode cX12_hangs 41 = .ok (.return_, 1) := by decide +kernel
theorem dX12_mostOut_0 : decode cX12_mostOut 0 = .ok (.iconst 0, 1) := by decide +kernel
theorem dX12_mostOut_1 : decode cX12_mostOut 1 = .ok (.istore_n 1, 1) := by decide +kernel
theorem dX12_mostOut_2 : decode cX12_mostOut 2 = .ok (.iload_n 1, 1) := by decide +kernel
theorem dX12_mostOut_3 : decode cX12_mostOut 3 = .ok (.bipush 8, 2) := by decide +kernel
theorem dX12_mostOut_5 : decode cX12_mostOut 5 = .ok (.if_icmp .ge 16, 3) := by decide +kernel
theorem dX12_mostOut_8 : decode cX12_mostOut 8 = .ok (.aload_n 0, 1) := by decide +kernel
theorem dX12_mostOut_9 : decode cX12_mostOut 9 = .ok (.getfield 149, 3) := by decide +kernel
theorem dX12_mostOut_12 : decode cX12_mostOut 12 = .ok (.iload_n 1, 1) := by decide +kernel
theorem dX12_mostOut_13 : decode cX12_mostOut 13 = .ok (.iconst 0, 1) := by decide +kernel
theorem dX12_mostOut_14 : decode cX12_mostOut 14 = .ok (.iastore, 1) := by decide +kernel
theorem dX12_mostOut_15 : decode cX12_mostOut 15 = .ok (.iinc 1 1, 3) := by decide +kernel
theorem dX12_mostOut_18 : decode cX12_mostOut 18 = .ok (.goto (-16), 3) := by decide +kernel
theorem dX12_mostOut_21 : decode cX12_mostOut 21 = .ok (.iconst 0, 1) := by decide +kernel
theorem dX12_mostOut_22 : decode cX12_mostOut 22 = .ok (.istore_n 1, 1) := by decide +kernel
theorem dX12_mostOut_23 : decode cX12_mostOut 23 = .ok (.iconst 0, 1) := by decide +kernel
theorem dX12_mostOut_24 : decode cX12_mostOut 24 = .ok (.istore_n 2, 1) := by decide +kernel
theorem dX12_mostOut_25 : decode cX12_mostOut 25 = .ok (.aload_n 0, 1) := by decide +kernel
theorem dX12_mostOut_26 : decode cX12_mostOut 26 = .ok (.getfield 79, 3) := by decide +kernel
theorem dX12_mostOut_29 : decode cX12_mostOut 29 = .ok (.aload_n 0, 1) := by decide +kernel
theorem dX12_mostOut_30 : decode cX12_mostOut 30 = .ok (.getfield 264, 3) := by decide +kernel
theorem dX12_mostOut_33 : decode cX12_mostOut 33 = .ok (.iaload, 1) := by decide +kernel
theorem dX12_mostOut_34 : decode cX12_mostOut 34 = .ok (.iconst 1, 1) := by decide +kernel
theorem dX12_mostOut_35 : decode cX12_mostOut 35 = .ok (.isub, 1) := by decide +kernel
theorem dX12_mostOut_36 : decode cX12_mostOut 36 = .ok (.istore_n 3, 1) := by decide +kernel
theorem dX12_mostOut_37 : decode cX12_mostOut 37 = .ok (.iload_n 3, 1) := by decide +kernel
theorem dX12_mostOut_38 : decode cX12_mostOut 38 = .ok (.ifCond .lt 73, 3) := by decide +kernel
theorem dX12_mostOut_41 : decode cX12_mostOut 41 = .ok (.aload_n 0, 1) := by decide +kernel
theorem dX12_mostOut_42 : decode cX12_mostOut 42 = .ok (.aload_n 0, 1) := by decide +kernel
theorem dX12_mostOut_43 : decode cX12_mostOut 43 = .ok (.getfield 146, 3) := by decide +kernel
theorem dX12_mostOut_46 : decode cX12_mostOut 46 = .ok (.iload_n 3, 1) := by decide +kernel
theorem dX12_mostOut_47 : decode cX12_mostOut 47 = .ok (.iaload, 1) := by decide +kernel
theorem dX12_mostOut_48 : decode cX12_mostOut 48 = .ok (.invokevirtual 349, 3) := by decide +kernel
theorem dX12_mostOut_51 : decode cX12_mostOut 51 = .ok (.istore 4, 2) := by decide +kernel
theorem dX12_mostOut_53 : decode cX12_mostOut 53 = .ok (.aload_n 0, 1) := by decide +kernel
theorem dX12_mostOut_54 : decode cX12_mostOut 54 = .ok (.getfield 149, 3) := by decide +kernel
theorem dX12_mostOut_57 : decode cX12_mostOut 57 = .ok (.iload 4, 2) := by decide +kernel
theorem dX12_mostOut_59 : decode cX12_mostOut 59 = .ok (.iaload, 1) := by decide +kernel
theorem dX12_mostOut_60 : decode cX12_mostOut 60 = .ok (.ifCond .le 20, 3) := by decide +kernel
theorem dX12_mostOut_63 : decode cX12_mostOut 63 = .ok (.aload_n 0, 1) := by decide +kernel
theorem dX12_mostOut_64 : decode cX12_mostOut 64 = .ok (.getfield 149, 3) := by decide +kernel
theorem dX12_mostOut_67 : decode cX12_mostOut 67 = .ok (.iload 4, 2) := by decide +kernel
theorem dX12_mostOut_69 : decode cX12_mostOut 69 = .ok (.dup2, 1) := by decide +kernel
theorem dX12_mostOut_70 : decode cX12_mostOut 70 = .ok (.iaload, 1) := by decide +kernel
theorem dX12_mostOut_71 : decode cX12_mostOut 71 = .ok (.iconst 1, 1) := by decide +kernel
theorem dX12_mostOut_72 : decode cX12_mostOut 72 = .ok (.isub, 1) := by decide +kernel
theorem dX12_mostOut_73 : decode cX12_mostOut 73 = .ok (.iastore, 1) := by decide +kernel
theorem dX12_mostOut_74 : decode cX12_mostOut 74 = .ok (.iinc 2 (-1), 3) := by decide +kernel
theorem dX12_mostOut_77 : decode cX12_mostOut 77 = .ok (.goto 21, 3) := by decide +kernel
theorem dX12_mostOut_80 : decode cX12_mostOut 80 = .ok (.aload_n 0, 1) := by decide +kernel
theorem dX12_mostOut_81 : decode cX12_mostOut 81 = .ok (.getfield 149, 3) := by decide +kernel
theorem dX12_mostOut_84 : decode cX12_mostOut 84 = .ok (.aload_n 0, 1) := by decide +kernel
theorem dX12_mostOut_85 : decode cX12_mostOut 85 = .ok (.getfield 146, 3) := by decide +kernel
theorem dX12_mostOut_88 : decode cX12_mostOut 88 = .ok (.iload_n 3, 1) := by decide +kernel
theorem dX12_mostOut_89 : decode cX12_mostOut 89 = .ok (.iaload, 1) := by decide +kernel
theorem dX12_mostOut_90 : decode cX12_mostOut 90 = .ok (.dup2, 1) := by decide +kernel
theorem dX12_mostOut_91 : decode cX12_mostOut 91 = .ok (.iaload, 1) := by decide +kernel
theorem dX12_mostOut_92 : decode cX12_mostOut 92 = .ok (.iconst 1, 1) := by decide +kernel
theorem dX12_mostOut_93 : decode cX12_mostOut 93 = .ok (.iadd, 1) := by decide +kernel
theorem dX12_mostOut_94 : decode cX12_mostOut 94 = .ok (.iastore, 1) := by decide +kernel
theorem dX12_mostOut_95 : decode cX12_mostOut 95 = .ok (.iinc 2 1, 3) := by decide +kernel
theorem dX12_mostOut_98 : decode cX12_mostOut 98 = .ok (.iload_n 2, 1) := by decide +kernel
theorem dX12_mostOut_99 : decode cX12_mostOut 99 = .ok (.iload_n 1, 1) := by decide +kernel
theorem dX12_mostOut_100 : decode cX12_mostOut 100 = .ok (.if_icmp .le 5, 3) := by decide +kernel
theorem dX12_mostOut_103 : decode cX12_mostOut 103 = .ok (.iload_n 2, 1) := by decide +kernel
theorem dX12_mostOut_104 : decode cX12_mostOut 104 = .ok (.istore_n 1, 1) := by decide +kernel
theorem dX12_mostOut_105 : decode cX12_mostOut 105 = .ok (.iinc 3 (-1), 3) := by decide +kernel
theorem dX12_mostOut_108 : decode cX12_mostOut 108 = .ok (.goto (-71), 3) := by decide +kernel
theorem dX12_mostOut_111 : decode cX12_mostOut 111 = .ok (.iload_n 1, 1) := by decide +kernel
theorem dX12_mostOut_112 : decode cX12_mostOut 112 = .ok (.ireturn, 1) := by decide +kernel
theorem dX12_line_0 : decode cX12_line 0 = .ok (.aload_n 0, 1) := by decide +kernel
theorem dX12_line_1 : decode cX12_line 1 = .ok (.invokevirtual 403, 3) := by decide +kernel
theorem dX12_line_4 : decode cX12_line 4 = .ok (.aload_n 0, 1) := by decide +kernel
theorem dX12_line_5 : decode cX12_line 5 = .ok (.invokevirtual 406, 3) := by decide +kernel
theorem dX12_line_8 : decode cX12_line 8 = .ok (.ireturn, 1) := by decide +kernel
theorem dX12_exchange_0 : decode cX12_exchange 0 = .ok (.iload_n 1, 1) := by decide +kernel
theorem dX12_exchange_1 : decode cX12_exchange 1 = .ok (.iconst 0, 1) := by decide +kernel
theorem dX12_exchange_2 : decode cX12_exchange 2 = .ok (.iconst 1, 1) := by decide +kernel
theorem dX12_exchange_3 : decode cX12_exchange 3 = .ok (.invokestatic 335, 3) := by decide +kernel
theorem dX12_exchange_6 : decode cX12_exchange 6 = .ok (.ifCond .ne 5, 3) := by decide +kernel
theorem dX12_exchange_9 : decode cX12_exchange 9 = .ok (.iconst (-1), 1) := by decide +kernel
theorem dX12_exchange_10 : decode cX12_exchange 10 = .ok (.ireturn, 1) := by decide +kernel
theorem dX12_exchange_11 : decode cX12_exchange 11 = .ok (.aload_n 0, 1) := by decide +kernel
theorem dX12_exchange_12 : decode cX12_exchange 12 = .ok (.invokevirtual 403, 3) := by decide +kernel
theorem dX12_exchange_15 : decode cX12_exchange 15 = .ok (.bipush (-2), 2) := by decide +kernel
theorem dX12_exchange_17 : decode cX12_exchange 17 = .ok (.istore_n 2, 1) := by decide +kernel
theorem dX12_exchange_18 : decode cX12_exchange 18 = .ok (.aload_n 0, 1) := by decide +kernel
theorem dX12_exchange_19 : decode cX12_exchange 19 = .ok (.invokevirtual 406, 3) := by decide +kernel
theorem dX12_exchange_22 : decode cX12_exchange 22 = .ok (.istore_n 3, 1) := by decide +kernel
theorem dX12_exchange_23 : decode cX12_exchange 23 = .ok (.iconst 0, 1) := by decide +kernel
theorem dX12_exchange_24 : decode cX12_exchange 24 = .ok (.istore 4, 2) := by decide +kernel
theorem dX12_exchange_26 : decode cX12_exchange 26 = .ok (.iload 4, 2) := by decide +kernel
theorem dX12_exchange_28 : decode cX12_exchange 28 = .ok (.aload_n 0, 1) := by decide +kernel
theorem dX12_exchange_29 : decode cX12_exchange 29 = .ok (.getfield 79, 3) := by decide +kernel
theorem dX12_exchange_32 : decode cX12_exchange 32 = .ok (.aload_n 0, 1) := by decide +kernel
theorem dX12_exchange_33 : decode cX12_exchange 33 = .ok (.getfield 264, 3) := by decide +kernel
theorem dX12_exchange_36 : decode cX12_exchange 36 = .ok (.iaload, 1) := by decide +kernel
theorem dX12_exchange_37 : decode cX12_exchange 37 = .ok (.if_icmp .ge 117, 3) := by decide +kernel
theorem dX12_exchange_40 : decode cX12_exchange 40 = .ok (.iload 4, 2) := by decide +kernel
theorem dX12_exchange_42 : decode cX12_exchange 42 = .ok (.iconst 1, 1) := by decide +kernel
theorem dX12_exchange_43 : decode cX12_exchange 43 = .ok (.iadd, 1) := by decide +kernel
theorem dX12_exchange_44 : decode cX12_exchange 44 = .ok (.istore 5, 2) := by decide +kernel
theorem dX12_exchange_46 : decode cX12_exchange 46 = .ok (.iload 5, 2) := by decide +kernel
theorem dX12_exchange_48 : decode cX12_exchange 48 = .ok (.aload_n 0, 1) := by decide +kernel
theorem dX12_exchange_49 : decode cX12_exchange 49 = .ok (.getfield 79, 3) := by decide +kernel
theorem dX12_exchange_52 : decode cX12_exchange 52 = .ok (.aload_n 0, 1) := by decide +kernel
theorem dX12_exchange_53 : decode cX12_exchange 53 = .ok (.getfield 264, 3) := by decide +kernel
theorem dX12_exchange_56 : decode cX12_exchange 56 = .ok (.iaload, 1) := by decide +kernel
theorem dX12_exchange_57 : decode cX12_exchange 57 = .ok (.if_icmp .ge 91, 3) := by decide +kernel
theorem dX12_exchange_60 : decode cX12_exchange 60 = .ok (.aload_n 0, 1) := by decide +kernel
theorem dX12_exchange_61 : decode cX12_exchange 61 = .ok (.getfield 146, 3) := by decide +kernel
theorem dX12_exchange_64 : decode cX12_exchange 64 = .ok (.iload 4, 2) := by decide +kernel
theorem dX12_exchange_66 : decode cX12_exchange 66 = .ok (.iaload, 1) := by decide +kernel
theorem dX12_exchange_67 : decode cX12_exchange 67 = .ok (.istore 6, 2) := by decide +kernel
theorem dX12_exchange_69 : decode cX12_exchange 69 = .ok (.aload_n 0, 1) := by decide +kernel
theorem dX12_exchange_70 : decode cX12_exchange 70 = .ok (.getfield 146, 3) := by decide +kernel
theorem dX12_exchange_73 : decode cX12_exchange 73 = .ok (.iload 4, 2) := by decide +kernel
theorem dX12_exchange_75 : decode cX12_exchange 75 = .ok (.aload_n 0, 1) := by decide +kernel
theorem dX12_exchange_76 : decode cX12_exchange 76 = .ok (.getfield 146, 3) := by decide +kernel
theorem dX12_exchange_79 : decode cX12_exchange 79 = .ok (.iload 5, 2) := by decide +kernel
theorem dX12_exchange_81 : decode cX12_exchange 81 = .ok (.iaload, 1) := by decide +kernel
theorem dX12_exchange_82 : decode cX12_exchange 82 = .ok (.iastore, 1) := by decide +kernel
theorem dX12_exchange_83 : decode cX12_exchange 83 = .ok (.aload_n 0, 1) := by decide +kernel
theorem dX12_exchange_84 : decode cX12_exchange 84 = .ok (.getfield 146, 3) := by decide +kernel
theorem dX12_exchange_87 : decode cX12_exchange 87 = .ok (.iload 5, 2) := by decide +kernel
theorem dX12_exchange_89 : decode cX12_exchange 89 = .ok (.iload 6, 2) := by decide +kernel
theorem dX12_exchange_91 : decode cX12_exchange 91 = .ok (.iastore, 1) := by decide +kernel
theorem dX12_exchange_92 : decode cX12_exchange 92 = .ok (.aload_n 0, 1) := by decide +kernel
theorem dX12_exchange_93 : decode cX12_exchange 93 = .ok (.invokevirtual 406, 3) := by decide +kernel
theorem dX12_exchange_96 : decode cX12_exchange 96 = .ok (.istore 7, 2) := by decide +kernel
theorem dX12_exchange_98 : decode cX12_exchange 98 = .ok (.aload_n 0, 1) := by decide +kernel
theorem dX12_exchange_99 : decode cX12_exchange 99 = .ok (.getfield 146, 3) := by decide +kernel
theorem dX12_exchange_102 : decode cX12_exchange 102 = .ok (.iload 5, 2) := by decide +kernel
theorem dX12_exchange_104 : decode cX12_exchange 104 = .ok (.aload_n 0, 1) := by decide +kernel
theorem dX12_exchange_105 : decode cX12_exchange 105 = .ok (.getfield 146, 3) := by decide +kernel
theorem dX12_exchange_108 : decode cX12_exchange 108 = .ok (.iload 4, 2) := by decide +kernel
theorem dX12_exchange_110 : decode cX12_exchange 110 = .ok (.iaload, 1) := by decide +kernel
theorem dX12_exchange_111 : decode cX12_exchange 111 = .ok (.iastore, 1) := by decide +kernel
theorem dX12_exchange_112 : decode cX12_exchange 112 = .ok (.aload_n 0, 1) := by decide +kernel
theorem dX12_exchange_113 : decode cX12_exchange 113 = .ok (.getfield 146, 3) := by decide +kernel
theorem dX12_exchange_116 : decode cX12_exchange 116 = .ok (.iload 4, 2) := by decide +kernel
theorem dX12_exchange_118 : decode cX12_exchange 118 = .ok (.iload 6, 2) := by decide +kernel
theorem dX12_exchange_120 : decode cX12_exchange 120 = .ok (.iastore, 1) := by decide +kernel
theorem dX12_exchange_121 : decode cX12_exchange 121 = .ok (.iload 7, 2) := by decide +kernel
theorem dX12_exchange_123 : decode cX12_exchange 123 = .ok (.iload_n 3, 1) := by decide +kernel
theorem dX12_exchange_124 : decode cX12_exchange 124 = .ok (.if_icmp .lt 6, 3) := by decide +kernel
theorem dX12_exchange_127 : decode cX12_exchange 127 = .ok (.goto 15, 3) := by decide +kernel
theorem dX12_exchange_130 : decode cX12_exchange 130 = .ok (.bipush 100, 2) := by decide +kernel
theorem dX12_exchange_132 : decode cX12_exchange 132 = .ok (.iload 4, 2) := by decide +kernel
theorem dX12_exchange_134 : decode cX12_exchange 134 = .ok (.imul, 1) := by decide +kernel
theorem dX12_exchange_135 : decode cX12_exchange 135 = .ok (.iload 5, 2) := by decide +kernel
theorem dX12_exchange_137 : decode cX12_exchange 137 = .ok (.iadd, 1) := by decide +kernel
theorem dX12_exchange_138 : decode cX12_exchange 138 = .ok (.istore_n 2, 1) := by decide +kernel
theorem dX12_exchange_139 : decode cX12_exchange 139 = .ok (.iload 7, 2) := by decide +kernel
theorem dX12_exchange_141 : decode cX12_exchange 141 = .ok (.istore_n 3, 1) := by decide +kernel
theorem dX12_exchange_142 : decode cX12_exchange 142 = .ok (.iinc 5 1, 3) := by decide +kernel
theorem dX12_exchange_145 : decode cX12_exchange 145 = .ok (.goto (-99), 3) := by decide +kernel
theorem dX12_exchange_148 : decode cX12_exchange 148 = .ok (.iinc 4 1, 3) := by decide +kernel
theorem dX12_exchange_151 : decode cX12_exchange 151 = .ok (.goto (-125), 3) := by decide +kernel
theorem dX12_exchange_154 : decode cX12_exchange 154 = .ok (.iload_n 1, 1) := by decide +kernel
theorem dX12_exchange_155 : decode cX12_exchange 155 = .ok (.ifCond .ne 7, 3) := by decide +kernel
theorem dX12_exchange_158 : decode cX12_exchange 158 = .ok (.iload_n 2, 1) := by decide +kernel
theorem dX12_exchange_159 : decode cX12_exchange 159 = .ok (.goto 4, 3) := by decide +kernel
theorem dX12_exchange_162 : decode cX12_exchange 162 = .ok (.iload_n 3, 1) := by decide +kernel
theorem dX12_exchange_163 : decode cX12_exchange 163 = .ok (.ireturn, 1) := by decide +kernel
theorem dX12_canPair_0 : decode cX12_canPair 0 = .ok (.aload_n 0, 1) := by decide +kernel
theorem dX12_canPair_1 : decode cX12_canPair 1 = .ok (.iload_n 1, 1) := by decide +kernel
theorem dX12_canPair_2 : decode cX12_canPair 2 = .ok (.invokevirtual 349, 3) := by decide +kernel
theorem dX12_canPair_5 : decode cX12_canPair 5 = .ok (.iload_n 1, 1) := by decide +kernel
theorem dX12_canPair_6 : decode cX12_canPair 6 = .ok (.if_icmp .ne 7, 3) := by decide +kernel
theorem dX12_canPair_9 : decode cX12_canPair 9 = .ok (.iconst 1, 1) := by decide +kernel
theorem dX12_canPair_10 : decode cX12_canPair 10 = .ok (.goto 4, 3) := by decide +kernel
theorem dX12_canPair_13 : decode cX12_canPair 13 = .ok (.iconst 0, 1) := by decide +kernel
theorem dX12_canPair_14 : decode cX12_canPair 14 = .ok (.istore_n 3, 1) := by decide +kernel
theorem dX12_canPair_15 : decode cX12_canPair 15 = .ok (.aload_n 0, 1) := by decide +kernel
theorem dX12_canPair_16 : decode cX12_canPair 16 = .ok (.iload_n 2, 1) := by decide +kernel
theorem dX12_canPair_17 : decode cX12_canPair 17 = .ok (.invokevirtual 349, 3) := by decide +kernel
theorem dX12_canPair_20 : decode cX12_canPair 20 = .ok (.iload_n 2, 1) := by decide +kernel
theorem dX12_canPair_21 : decode cX12_canPair 21 = .ok (.if_icmp .ne 7, 3) := by decide +kernel
theorem dX12_canPair_24 : decode cX12_canPair 24 = .ok (.iconst 1, 1) := by decide +kernel
theorem dX12_canPair_25 : decode cX12_canPair 25 = .ok (.goto 4, 3) := by decide +kernel
theorem dX12_canPair_28 : decode cX12_canPair 28 = .ok (.iconst 0, 1) := by decide +kernel
theorem dX12_canPair_29 : decode cX12_canPair 29 = .ok (.istore 4, 2) := by decide +kernel
theorem dX12_canPair_31 : decode cX12_canPair 31 = .ok (.iload_n 3, 1) := by decide +kernel
theorem dX12_canPair_32 : decode cX12_canPair 32 = .ok (.ifCond .eq 8, 3) := by decide +kernel
theorem dX12_canPair_35 : decode cX12_canPair 35 = .ok (.iload 4, 2) := by decide +kernel
theorem dX12_canPair_37 : decode cX12_canPair 37 = .ok (.ifCond .ne 43, 3) := by decide +kernel
theorem dX12_canPair_40 : decode cX12_canPair 40 = .ok (.iload_n 3, 1) := by decide +kernel
theorem dX12_canPair_41 : decode cX12_canPair 41 = .ok (.ifCond .ne 43, 3) := by decide +kernel
theorem dX12_canPair_44 : decode cX12_canPair 44 = .ok (.iload 4, 2) := by decide +kernel
theorem dX12_canPair_46 : decode cX12_canPair 46 = .ok (.ifCond .ne 38, 3) := by decide +kernel
theorem dX12_canPair_49 : decode cX12_canPair 49 = .ok (.iload_n 1, 1) := by decide +kernel
theorem dX12_canPair_50 : decode cX12_canPair 50 = .ok (.aload_n 0, 1) := by decide +kernel
theorem dX12_canPair_51 : decode cX12_canPair 51 = .ok (.iload_n 1, 1) := by decide +kernel
theorem dX12_canPair_52 : decode cX12_canPair 52 = .ok (.invokevirtual 349, 3) := by decide +kernel
theorem dX12_canPair_55 : decode cX12_canPair 55 = .ok (.if_icmp .ge 7, 3) := by decide +kernel
theorem dX12_canPair_58 : decode cX12_canPair 58 = .ok (.iconst 1, 1) := by decide +kernel
theorem dX12_canPair_59 : decode cX12_canPair 59 = .ok (.goto 4, 3) := by decide +kernel
theorem dX12_canPair_62 : decode cX12_canPair 62 = .ok (.iconst 0, 1) := by decide +kernel
theorem dX12_canPair_63 : decode cX12_canPair 63 = .ok (.iload_n 2, 1) := by decide +kernel
theorem dX12_canPair_64 : decode cX12_canPair 64 = .ok (.aload_n 0, 1) := by decide +kernel
theorem dX12_canPair_65 : decode cX12_canPair 65 = .ok (.iload_n 2, 1) := by decide +kernel
theorem dX12_canPair_66 : decode cX12_canPair 66 = .ok (.invokevirtual 349, 3) := by decide +kernel
theorem dX12_canPair_69 : decode cX12_canPair 69 = .ok (.if_icmp .ge 7, 3) := by decide +kernel
theorem dX12_canPair_72 : decode cX12_canPair 72 = .ok (.iconst 1, 1) := by decide +kernel
theorem dX12_canPair_73 : decode cX12_canPair 73 = .ok (.goto 4, 3) := by decide +kernel
theorem dX12_canPair_76 : decode cX12_canPair 76 = .ok (.iconst 0, 1) := by decide +kernel
theorem dX12_canPair_77 : decode cX12_canPair 77 = .ok (.if_icmp .eq 7, 3) := by decide +kernel
theorem dX12_canPair_80 : decode cX12_canPair 80 = .ok (.iconst 1, 1) := by decide +kernel
theorem dX12_canPair_81 : decode cX12_canPair 81 = .ok (.goto 4, 3) := by decide +kernel
theorem dX12_canPair_84 : decode cX12_canPair 84 = .ok (.iconst 0, 1) := by decide +kernel
theorem dX12_canPair_85 : decode cX12_canPair 85 = .ok (.istore 5, 2) := by decide +kernel
theorem dX12_canPair_87 : decode cX12_canPair 87 = .ok (.iload 5, 2) := by decide +kernel
theorem dX12_canPair_89 : decode cX12_canPair 89 = .ok (.ifCond .eq 25, 3) := by decide +kernel
theorem dX12_canPair_92 : decode cX12_canPair 92 = .ok (.aload_n 0, 1) := by decide +kernel
theorem dX12_canPair_93 : decode cX12_canPair 93 = .ok (.iload_n 1, 1) := by decide +kernel
theorem dX12_canPair_94 : decode cX12_canPair 94 = .ok (.iload_n 2, 1) := by decide +kernel
theorem dX12_canPair_95 : decode cX12_canPair 95 = .ok (.invokevirtual 409, 3) := by decide +kernel
theorem dX12_canPair_98 : decode cX12_canPair 98 = .ok (.aload_n 0, 1) := by decide +kernel
theorem dX12_canPair_99 : decode cX12_canPair 99 = .ok (.getfield 70, 3) := by decide +kernel
theorem dX12_canPair_102 : decode cX12_canPair 102 = .ok (.aload_n 0, 1) := by decide +kernel
theorem dX12_canPair_103 : decode cX12_canPair 103 = .ok (.getfield 264, 3) := by decide +kernel
theorem dX12_canPair_106 : decode cX12_canPair 106 = .ok (.iaload, 1) := by decide +kernel
theorem dX12_canPair_107 : decode cX12_canPair 107 = .ok (.if_icmp .gt 7, 3) := by decide +kernel
theorem dX12_canPair_110 : decode cX12_canPair 110 = .ok (.iconst 1, 1) := by decide +kernel
theorem dX12_canPair_111 : decode cX12_canPair 111 = .ok (.goto 4, 3) := by decide +kernel
theorem dX12_canPair_114 : decode cX12_canPair 114 = .ok (.iconst 0, 1) := by decide +kernel
theorem dX12_canPair_115 : decode cX12_canPair 115 = .ok (.ireturn, 1) := by decide +kernel
theorem dX12_unlikeBy_0 : decode cX12_unlikeBy 0 = .ok (.aload_n 0, 1) := by decide +kernel
theorem dX12_unlikeBy_1 : decode cX12_unlikeBy 1 = .ok (.getfield 67, 3) := by decide +kernel
theorem dX12_unlikeBy_4 : decode cX12_unlikeBy 4 = .ok (.bipush 64, 2) := by decide +kernel
theorem dX12_unlikeBy_6 : decode cX12_unlikeBy 6 = .ok (.aload_n 0, 1) := by decide +kernel
theorem dX12_unlikeBy_7 : decode cX12_unlikeBy 7 = .ok (.getfield 264, 3) := by decide +kernel
theorem dX12_unlikeBy_10 : decode cX12_unlikeBy 10 = .ok (.imul, 1) := by decide +kernel
theorem dX12_unlikeBy_11 : decode cX12_unlikeBy 11 = .ok (.bipush 8, 2) := by decide +kernel
theorem dX12_unlikeBy_13 : decode cX12_unlikeBy 13 = .ok (.aload_n 0, 1) := by decide +kernel
theorem dX12_unlikeBy_14 : decode cX12_unlikeBy 14 = .ok (.getfield 58, 3) := by decide +kernel
theorem dX12_unlikeBy_17 : decode cX12_unlikeBy 17 = .ok (.bipush 8, 2) := by decide +kernel
theorem dX12_unlikeBy_19 : decode cX12_unlikeBy 19 = .ok (.aload_n 0, 1) := by decide +kernel
theorem dX12_unlikeBy_20 : decode cX12_unlikeBy 20 = .ok (.getfield 264, 3) := by decide +kernel
theorem dX12_unlikeBy_23 : decode cX12_unlikeBy 23 = .ok (.imul, 1) := by decide +kernel
theorem dX12_unlikeBy_24 : decode cX12_unlikeBy 24 = .ok (.iload_n 1, 1) := by decide +kernel
theorem dX12_unlikeBy_25 : decode cX12_unlikeBy 25 = .ok (.iadd, 1) := by decide +kernel
theorem dX12_unlikeBy_26 : decode cX12_unlikeBy 26 = .ok (.iaload, 1) := by decide +kernel
theorem dX12_unlikeBy_27 : decode cX12_unlikeBy 27 = .ok (.imul, 1) := by decide +kernel
theorem dX12_unlikeBy_28 : decode cX12_unlikeBy 28 = .ok (.iadd, 1) := by decide +kernel
theorem dX12_unlikeBy_29 : decode cX12_unlikeBy 29 = .ok (.aload_n 0, 1) := by decide +kernel
theorem dX12_unlikeBy_30 : decode cX12_unlikeBy 30 = .ok (.getfield 58, 3) := by decide +kernel
theorem dX12_unlikeBy_33 : decode cX12_unlikeBy 33 = .ok (.bipush 8, 2) := by decide +kernel
theorem dX12_unlikeBy_35 : decode cX12_unlikeBy 35 = .ok (.aload_n 0, 1) := by decide +kernel
theorem dX12_unlikeBy_36 : decode cX12_unlikeBy 36 = .ok (.getfield 264, 3) := by decide +kernel
theorem dX12_unlikeBy_39 : decode cX12_unlikeBy 39 = .ok (.imul, 1) := by decide +kernel
theorem dX12_unlikeBy_40 : decode cX12_unlikeBy 40 = .ok (.iload_n 2, 1) := by decide +kernel
theorem dX12_unlikeBy_41 : decode cX12_unlikeBy 41 = .ok (.iadd, 1) := by decide +kernel
theorem dX12_unlikeBy_42 : decode cX12_unlikeBy 42 = .ok (.iaload, 1) := by decide +kernel
theorem dX12_unlikeBy_43 : decode cX12_unlikeBy 43 = .ok (.iadd, 1) := by decide +kernel
theorem dX12_unlikeBy_44 : decode cX12_unlikeBy 44 = .ok (.iaload, 1) := by decide +kernel
theorem dX12_unlikeBy_45 : decode cX12_unlikeBy 45 = .ok (.ireturn, 1) := by decide +kernel
theorem dX12_odd_0 : decode cX12_odd 0 = .ok (.iload_n 1, 1) := by decide +kernel
theorem dX12_odd_1 : decode cX12_odd 1 = .ok (.iconst 0, 1) := by decide +kernel
theorem dX12_odd_2 : decode cX12_odd 2 = .ok (.iconst 1, 1) := by decide +kernel
theorem dX12_odd_3 : decode cX12_odd 3 = .ok (.invokestatic 335, 3) := by decide +kernel
theorem dX12_odd_6 : decode cX12_odd 6 = .ok (.ifCond .ne 5, 3) := by decide +kernel
theorem dX12_odd_9 : decode cX12_odd 9 = .ok (.iconst (-1), 1) := by decide +kernel
theorem dX12_odd_10 : decode cX12_odd 10 = .ok (.ireturn, 1) := by decide +kernel
theorem dX12_odd_11 : decode cX12_odd 11 = .ok (.iconst 0, 1) := by decide +kernel
theorem dX12_odd_12 : decode cX12_odd 12 = .ok (.istore_n 2, 1) := by decide +kernel
theorem dX12_odd_13 : decode cX12_odd 13 = .ok (.iconst 0, 1) := by decide +kernel
theorem dX12_odd_14 : decode cX12_odd 14 = .ok (.istore_n 3, 1) := by decide +kernel
theorem dX12_odd_15 : decode cX12_odd 15 = .ok (.iload_n 3, 1) := by decide +kernel
theorem dX12_odd_16 : decode cX12_odd 16 = .ok (.aload_n 0, 1) := by decide +kernel
theorem dX12_odd_17 : decode cX12_odd 17 = .ok (.getfield 49, 3) := by decide +kernel
theorem dX12_odd_20 : decode cX12_odd 20 = .ok (.aload_n 0, 1) := by decide +kernel
theorem dX12_odd_21 : decode cX12_odd 21 = .ok (.getfield 264, 3) := by decide +kernel
theorem dX12_odd_24 : decode cX12_odd 24 = .ok (.iaload, 1) := by decide +kernel
theorem dX12_odd_25 : decode cX12_odd 25 = .ok (.if_icmp .ge 42, 3) := by decide +kernel
theorem dX12_odd_28 : decode cX12_odd 28 = .ok (.iconst 0, 1) := by decide +kernel
theorem dX12_odd_29 : decode cX12_odd 29 = .ok (.istore 4, 2) := by decide +kernel
theorem dX12_odd_31 : decode cX12_odd 31 = .ok (.iload 4, 2) := by decide +kernel
theorem dX12_odd_33 : decode cX12_odd 33 = .ok (.aload_n 0, 1) := by decide +kernel
theorem dX12_odd_34 : decode cX12_odd 34 = .ok (.getfield 128, 3) := by decide +kernel
theorem dX12_odd_37 : decode cX12_odd 37 = .ok (.bipush 8, 2) := by decide +kernel
theorem dX12_odd_39 : decode cX12_odd 39 = .ok (.iload_n 3, 1) := by decide +kernel
theorem dX12_odd_40 : decode cX12_odd 40 = .ok (.iadd, 1) := by decide +kernel
theorem dX12_odd_41 : decode cX12_odd 41 = .ok (.iaload, 1) := by decide +kernel
theorem dX12_odd_42 : decode cX12_odd 42 = .ok (.if_icmp .ge 19, 3) := by decide +kernel
theorem dX12_odd_45 : decode cX12_odd 45 = .ok (.aload_n 0, 1) := by decide +kernel
theorem dX12_odd_46 : decode cX12_odd 46 = .ok (.getfield 152, 3) := by decide +kernel
theorem dX12_odd_49 : decode cX12_odd 49 = .ok (.iload_n 2, 1) := by decide +kernel
theorem dX12_odd_50 : decode cX12_odd 50 = .ok (.iload_n 3, 1) := by decide +kernel
theorem dX12_odd_51 : decode cX12_odd 51 = .ok (.iastore, 1) := by decide +kernel
theorem dX12_odd_52 : decode cX12_odd 52 = .ok (.iinc 2 1, 3) := by decide +kernel
theorem dX12_odd_55 : decode cX12_odd 55 = .ok (.iinc 4 1, 3) := by decide +kernel
theorem dX12_odd_58 : decode cX12_odd 58 = .ok (.goto (-27), 3) := by decide +kernel
theorem dX12_odd_61 : decode cX12_odd 61 = .ok (.iinc 3 1, 3) := by decide +kernel
theorem dX12_odd_64 : decode cX12_odd 64 = .ok (.goto (-49), 3) := by decide +kernel
theorem dX12_odd_67 : decode cX12_odd 67 = .ok (.aload_n 0, 1) := by decide +kernel
theorem dX12_odd_68 : decode cX12_odd 68 = .ok (.getfield 156, 3) := by decide +kernel
theorem dX12_odd_71 : decode cX12_odd 71 = .ok (.iconst 0, 1) := by decide +kernel
theorem dX12_odd_72 : decode cX12_odd 72 = .ok (.iconst 0, 1) := by decide +kernel
theorem dX12_odd_73 : decode cX12_odd 73 = .ok (.iastore, 1) := by decide +kernel
theorem dX12_odd_74 : decode cX12_odd 74 = .ok (.iconst 1, 1) := by decide +kernel
theorem dX12_odd_75 : decode cX12_odd 75 = .ok (.istore_n 3, 1) := by decide +kernel
theorem dX12_odd_76 : decode cX12_odd 76 = .ok (.iload_n 3, 1) := by decide +kernel
theorem dX12_odd_77 : decode cX12_odd 77 = .ok (.iconst 1, 1) := by decide +kernel
theorem dX12_odd_78 : decode cX12_odd 78 = .ok (.iload_n 2, 1) := by decide +kernel
theorem dX12_odd_79 : decode cX12_odd 79 = .ok (.ishl, 1) := by decide +kernel
theorem dX12_odd_80 : decode cX12_odd 80 = .ok (.if_icmp .ge 157, 3) := by decide +kernel
theorem dX12_odd_83 : decode cX12_odd 83 = .ok (.iconst 0, 1) := by decide +kernel
theorem dX12_odd_84 : decode cX12_odd 84 = .ok (.istore 4, 2) := by decide +kernel
theorem dX12_odd_86 : decode cX12_odd 86 = .ok (.iload_n 3, 1) := by decide +kernel
theorem dX12_odd_87 : decode cX12_odd 87 = .ok (.iload 4, 2) := by decide +kernel
theorem dX12_odd_89 : decode cX12_odd 89 = .ok (.ishr, 1) := by decide +kernel
theorem dX12_odd_90 : decode cX12_odd 90 = .ok (.iconst 1, 1) := by decide +kernel
theorem dX12_odd_91 : decode cX12_odd 91 = .ok (.iand, 1) := by decide +kernel
theorem dX12_odd_92 : decode cX12_odd 92 = .ok (.ifCond .ne 9, 3) := by decide +kernel
theorem dX12_odd_95 : decode cX12_odd 95 = .ok (.iinc 4 1, 3) := by decide +kernel
theorem dX12_odd_98 : decode cX12_odd 98 = .ok (.goto (-12), 3) := by decide +kernel
theorem dX12_odd_101 : decode cX12_odd 101 = .ok (.aload_n 0, 1) := by decide +kernel
theorem dX12_odd_102 : decode cX12_odd 102 = .ok (.getfield 156, 3) := by decide +kernel
theorem dX12_odd_105 : decode cX12_odd 105 = .ok (.iload_n 3, 1) := by decide +kernel
theorem dX12_odd_106 : decode cX12_odd 106 = .ok (.iconst 1, 1) := by decide +kernel
theorem dX12_odd_107 : decode cX12_odd 107 = .ok (.iload 4, 2) := by decide +kernel
theorem dX12_odd_109 : decode cX12_odd 109 = .ok (.ishl, 1) := by decide +kernel
theorem dX12_odd_110 : decode cX12_odd 110 = .ok (.iconst (-1), 1) := by decide +kernel
theorem dX12_odd_111 : decode cX12_odd 111 = .ok (.ixor, 1) := by decide +kernel
theorem dX12_odd_112 : decode cX12_odd 112 = .ok (.iand, 1) := by decide +kernel
theorem dX12_odd_113 : decode cX12_odd 113 = .ok (.iaload, 1) := by decide +kernel
theorem dX12_odd_114 : decode cX12_odd 114 = .ok (.istore 5, 2) := by decide +kernel
theorem dX12_odd_116 : decode cX12_odd 116 = .ok (.iload 4, 2) := by decide +kernel
theorem dX12_odd_118 : decode cX12_odd 118 = .ok (.iconst 1, 1) := by decide +kernel
theorem dX12_odd_119 : decode cX12_odd 119 = .ok (.iadd, 1) := by decide +kernel
theorem dX12_odd_120 : decode cX12_odd 120 = .ok (.istore 6, 2) := by decide +kernel
theorem dX12_odd_122 : decode cX12_odd 122 = .ok (.iload 6, 2) := by decide +kernel
theorem dX12_odd_124 : decode cX12_odd 124 = .ok (.iload_n 2, 1) := by decide +kernel
theorem dX12_odd_125 : decode cX12_odd 125 = .ok (.if_icmp .ge 98, 3) := by decide +kernel
theorem dX12_odd_128 : decode cX12_odd 128 = .ok (.iload_n 3, 1) := by decide +kernel
theorem dX12_odd_129 : decode cX12_odd 129 = .ok (.iload 6, 2) := by decide +kernel
theorem dX12_odd_131 : decode cX12_odd 131 = .ok (.ishr, 1) := by decide +kernel
theorem dX12_odd_132 : decode cX12_odd 132 = .ok (.iconst 1, 1) := by decide +kernel
theorem dX12_odd_133 : decode cX12_odd 133 = .ok (.iand, 1) := by decide +kernel
theorem dX12_odd_134 : decode cX12_odd 134 = .ok (.ifCond .eq 83, 3) := by decide +kernel
theorem dX12_odd_137 : decode cX12_odd 137 = .ok (.aload_n 0, 1) := by decide +kernel
theorem dX12_odd_138 : decode cX12_odd 138 = .ok (.aload_n 0, 1) := by decide +kernel
theorem dX12_odd_139 : decode cX12_odd 139 = .ok (.getfield 152, 3) := by decide +kernel
theorem dX12_odd_142 : decode cX12_odd 142 = .ok (.iload 4, 2) := by decide +kernel
theorem dX12_odd_144 : decode cX12_odd 144 = .ok (.iaload, 1) := by decide +kernel
theorem dX12_odd_145 : decode cX12_odd 145 = .ok (.aload_n 0, 1) := by decide +kernel
theorem dX12_odd_146 : decode cX12_odd 146 = .ok (.getfield 152, 3) := by decide +kernel
theorem dX12_odd_149 : decode cX12_odd 149 = .ok (.iload 6, 2) := by decide +kernel
theorem dX12_odd_151 : decode cX12_odd 151 = .ok (.iaload, 1) := by decide +kernel
theorem dX12_odd_152 : decode cX12_odd 152 = .ok (.invokevirtual 412, 3) := by decide +kernel
theorem dX12_odd_155 : decode cX12_odd 155 = .ok (.ifCond .ne 6, 3) := by decide +kernel
theorem dX12_odd_158 : decode cX12_odd 158 = .ok (.goto 59, 3) := by decide +kernel
theorem dX12_odd_161 : decode cX12_odd 161 = .ok (.aload_n 0, 1) := by decide +kernel
theorem dX12_odd_162 : decode cX12_odd 162 = .ok (.getfield 156, 3) := by decide +kernel
theorem dX12_odd_165 : decode cX12_odd 165 = .ok (.iload_n 3, 1) := by decide +kernel
theorem dX12_odd_166 : decode cX12_odd 166 = .ok (.iconst 1, 1) := by decide +kernel
theorem dX12_odd_167 : decode cX12_odd 167 = .ok (.iload 4, 2) := by decide +kernel
theorem dX12_odd_169 : decode cX12_odd 169 = .ok (.ishl, 1) := by decide +kernel
theorem dX12_odd_170 : decode cX12_odd 170 = .ok (.iconst (-1), 1) := by decide +kernel
theorem dX12_odd_171 : decode cX12_odd 171 = .ok (.ixor, 1) := by decide +kernel
theorem dX12_odd_172 : decode cX12_odd 172 = .ok (.iand, 1) := by decide +kernel
theorem dX12_odd_173 : decode cX12_odd 173 = .ok (.iconst 1, 1) := by decide +kernel
theorem dX12_odd_174 : decode cX12_odd 174 = .ok (.iload 6, 2) := by decide +kernel
theorem dX12_odd_176 : decode cX12_odd 176 = .ok (.ishl, 1) := by decide +kernel
theorem dX12_odd_177 : decode cX12_odd 177 = .ok (.iconst (-1), 1) := by decide +kernel
theorem dX12_odd_178 : decode cX12_odd 178 = .ok (.ixor, 1) := by decide +kernel
theorem dX12_odd_179 : decode cX12_odd 179 = .ok (.iand, 1) := by decide +kernel
theorem dX12_odd_180 : decode cX12_odd 180 = .ok (.iaload, 1) := by decide +kernel
theorem dX12_odd_181 : decode cX12_odd 181 = .ok (.sipush 10000, 3) := by decide +kernel
theorem dX12_odd_184 : decode cX12_odd 184 = .ok (.iadd, 1) := by decide +kernel
theorem dX12_odd_185 : decode cX12_odd 185 = .ok (.aload_n 0, 1) := by decide +kernel
theorem dX12_odd_186 : decode cX12_odd 186 = .ok (.aload_n 0, 1) := by decide +kernel
theorem dX12_odd_187 : decode cX12_odd 187 = .ok (.getfield 152, 3) := by decide +kernel
theorem dX12_odd_190 : decode cX12_odd 190 = .ok (.iload 4, 2) := by decide +kernel
theorem dX12_odd_192 : decode cX12_odd 192 = .ok (.iaload, 1) := by decide +kernel
theorem dX12_odd_193 : decode cX12_odd 193 = .ok (.aload_n 0, 1) := by decide +kernel
theorem dX12_odd_194 : decode cX12_odd 194 = .ok (.getfield 152, 3) := by decide +kernel
theorem dX12_odd_197 : decode cX12_odd 197 = .ok (.iload 6, 2) := by decide +kernel
theorem dX12_odd_199 : decode cX12_odd 199 = .ok (.iaload, 1) := by decide +kernel
theorem dX12_odd_200 : decode cX12_odd 200 = .ok (.invokevirtual 409, 3) := by decide +kernel
theorem dX12_odd_203 : decode cX12_odd 203 = .ok (.isub, 1) := by decide +kernel
theorem dX12_odd_204 : decode cX12_odd 204 = .ok (.istore 7, 2) := by decide +kernel
theorem dX12_odd_206 : decode cX12_odd 206 = .ok (.iload 7, 2) := by decide +kernel
theorem dX12_odd_208 : decode cX12_odd 208 = .ok (.iload 5, 2) := by decide +kernel
theorem dX12_odd_210 : decode cX12_odd 210 = .ok (.if_icmp .le 7, 3) := by decide +kernel
theorem dX12_odd_213 : decode cX12_odd 213 = .ok (.iload 7, 2) := by decide +kernel
theorem dX12_odd_215 : decode cX12_odd 215 = .ok (.istore 5, 2) := by decide +kernel
theorem dX12_odd_217 : decode cX12_odd 217 = .ok (.iinc 6 1, 3) := by decide +kernel
theorem dX12_odd_220 : decode cX12_odd 220 = .ok (.goto (-98), 3) := by decide +kernel
theorem dX12_odd_223 : decode cX12_odd 223 = .ok (.aload_n 0, 1) := by decide +kernel
theorem dX12_odd_224 : decode cX12_odd 224 = .ok (.getfield 156, 3) := by decide +kernel
theorem dX12_odd_227 : decode cX12_odd 227 = .ok (.iload_n 3, 1) := by decide +kernel
theorem dX12_odd_228 : decode cX12_odd 228 = .ok (.iload 5, 2) := by decide +kernel
theorem dX12_odd_230 : decode cX12_odd 230 = .ok (.iastore, 1) := by decide +kernel
theorem dX12_odd_231 : decode cX12_odd 231 = .ok (.iinc 3 1, 3) := by decide +kernel
theorem dX12_odd_234 : decode cX12_odd 234 = .ok (.goto (-158), 3) := by decide +kernel
theorem dX12_odd_237 : decode cX12_odd 237 = .ok (.aload_n 0, 1) := by decide +kernel
theorem dX12_odd_238 : decode cX12_odd 238 = .ok (.getfield 156, 3) := by decide +kernel
theorem dX12_odd_241 : decode cX12_odd 241 = .ok (.iconst 1, 1) := by decide +kernel
theorem dX12_odd_242 : decode cX12_odd 242 = .ok (.iload_n 2, 1) := by decide +kernel
theorem dX12_odd_243 : decode cX12_odd 243 = .ok (.ishl, 1) := by decide +kernel
theorem dX12_odd_244 : decode cX12_odd 244 = .ok (.iconst 1, 1) := by decide +kernel
theorem dX12_odd_245 : decode cX12_odd 245 = .ok (.isub, 1) := by decide +kernel
theorem dX12_odd_246 : decode cX12_odd 246 = .ok (.iaload, 1) := by decide +kernel
theorem dX12_odd_247 : decode cX12_odd 247 = .ok (.istore_n 3, 1) := by decide +kernel
theorem dX12_odd_248 : decode cX12_odd 248 = .ok (.iload_n 3, 1) := by decide +kernel
theorem dX12_odd_249 : decode cX12_odd 249 = .ok (.sipush 9999, 3) := by decide +kernel
theorem dX12_odd_252 : decode cX12_odd 252 = .ok (.iadd, 1) := by decide +kernel
theorem dX12_odd_253 : decode cX12_odd 253 = .ok (.sipush 10000, 3) := by decide +kernel
theorem dX12_odd_256 : decode cX12_odd 256 = .ok (.idiv, 1) := by decide +kernel
theorem dX12_odd_257 : decode cX12_odd 257 = .ok (.istore 4, 2) := by decide +kernel
theorem dX12_odd_259 : decode cX12_odd 259 = .ok (.iload_n 1, 1) := by decide +kernel
theorem dX12_odd_260 : decode cX12_odd 260 = .ok (.ifCond .ne 8, 3) := by decide +kernel
theorem dX12_odd_263 : decode cX12_odd 263 = .ok (.iload 4, 2) := by decide +kernel
theorem dX12_odd_265 : decode cX12_odd 265 = .ok (.goto 11, 3) := by decide +kernel
theorem dX12_odd_268 : decode cX12_odd 268 = .ok (.sipush 10000, 3) := by decide +kernel
theorem dX12_odd_271 : decode cX12_odd 271 = .ok (.iload 4, 2) := by decide +kernel
theorem dX12_odd_273 : decode cX12_odd 273 = .ok (.imul, 1) := by decide +kernel
theorem dX12_odd_274 : decode cX12_odd 274 = .ok (.iload_n 3, 1) := by decide +kernel
theorem dX12_odd_275 : decode cX12_odd 275 = .ok (.isub, 1) := by decide +kernel
theorem dX12_odd_276 : decode cX12_odd 276 = .ok (.ireturn, 1) := by decide +kernel
theorem dX12_choose_0 : decode cX12_choose 0 = .ok (.lconst 1, 1) := by decide +kernel
theorem dX12_choose_1 : decode cX12_choose 1 = .ok (.lstore_n 2, 1) := by decide +kernel
theorem dX12_choose_2 : decode cX12_choose 2 = .ok (.iconst 1, 1) := by decide +kernel
theorem dX12_choose_3 : decode cX12_choose 3 = .ok (.istore 4, 2) := by decide +kernel
theorem dX12_choose_5 : decode cX12_choose 5 = .ok (.iload 4, 2) := by decide +kernel
theorem dX12_choose_7 : decode cX12_choose 7 = .ok (.iload_n 1, 1) := by decide +kernel
theorem dX12_choose_8 : decode cX12_choose 8 = .ok (.if_icmp .gt 23, 3) := by decide +kernel
theorem dX12_choose_11 : decode cX12_choose 11 = .ok (.lload_n 2, 1) := by decide +kernel
theorem dX12_choose_12 : decode cX12_choose 12 = .ok (.iload_n 0, 1) := by decide +kernel
theorem dX12_choose_13 : decode cX12_choose 13 = .ok (.iload_n 1, 1) := by decide +kernel
theorem dX12_choose_14 : decode cX12_choose 14 = .ok (.isub, 1) := by decide +kernel
theorem dX12_choose_15 : decode cX12_choose 15 = .ok (.iload 4, 2) := by decide +kernel
theorem dX12_choose_17 : decode cX12_choose 17 = .ok (.iadd, 1) := by decide +kernel
theorem dX12_choose_18 : decode cX12_choose 18 = .ok (.i2l, 1) := by decide +kernel
theorem dX12_choose_19 : decode cX12_choose 19 = .ok (.lmul, 1) := by decide +kernel
theorem dX12_choose_20 : decode cX12_choose 20 = .ok (.iload 4, 2) := by decide +kernel
theorem dX12_choose_22 : decode cX12_choose 22 = .ok (.i2l, 1) := by decide +kernel
theorem dX12_choose_23 : decode cX12_choose 23 = .ok (.ldiv, 1) := by decide +kernel
theorem dX12_choose_24 : decode cX12_choose 24 = .ok (.lstore_n 2, 1) := by decide +kernel
theorem dX12_choose_25 : decode cX12_choose 25 = .ok (.iinc 4 1, 3) := by decide +kernel
theorem dX12_choose_28 : decode cX12_choose 28 = .ok (.goto (-23), 3) := by decide +kernel
theorem dX12_choose_31 : decode cX12_choose 31 = .ok (.lload_n 2, 1) := by decide +kernel
theorem dX12_choose_32 : decode cX12_choose 32 = .ok (.lreturn, 1) := by decide +kernel
theorem dX12_left_0 : decode cX12_left 0 = .ok (.iload_n 0, 1) := by decide +kernel
theorem dX12_left_1 : decode cX12_left 1 = .ok (.iload_n 1, 1) := by decide +kernel
theorem dX12_left_2 : decode cX12_left 2 = .ok (.invokestatic 416, 3) := by decide +kernel
theorem dX12_left_5 : decode cX12_left 5 = .ok (.lstore 4, 2) := by decide +kernel
theorem dX12_left_7 : decode cX12_left 7 = .ok (.iconst 0, 1) := by decide +kernel
theorem dX12_left_8 : decode cX12_left 8 = .ok (.istore 6, 2) := by decide +kernel
theorem dX12_left_10 : decode cX12_left 10 = .ok (.iload 6, 2) := by decide +kernel
theorem dX12_left_12 : decode cX12_left 12 = .ok (.iload_n 0, 1) := by decide +kernel
theorem dX12_left_13 : decode cX12_left 13 = .ok (.if_icmp .ge 29, 3) := by decide +kernel
theorem dX12_left_16 : decode cX12_left 16 = .ok (.lload 4, 2) := by decide +kernel
theorem dX12_left_18 : decode cX12_left 18 = .ok (.iload 6, 2) := by decide +kernel
theorem dX12_left_20 : decode cX12_left 20 = .ok (.iload_n 1, 1) := by decide +kernel
theorem dX12_left_21 : decode cX12_left 21 = .ok (.if_icmp .ge 10, 3) := by decide +kernel
theorem dX12_left_24 : decode cX12_left 24 = .ok (.iload_n 3, 1) := by decide +kernel
theorem dX12_left_25 : decode cX12_left 25 = .ok (.iload_n 2, 1) := by decide +kernel
theorem dX12_left_26 : decode cX12_left 26 = .ok (.isub, 1) := by decide +kernel
theorem dX12_left_27 : decode cX12_left 27 = .ok (.i2l, 1) := by decide +kernel
theorem dX12_left_28 : decode cX12_left 28 = .ok (.goto 5, 3) := by decide +kernel
theorem dX12_left_31 : decode cX12_left 31 = .ok (.iload_n 2, 1) := by decide +kernel
theorem dX12_left_32 : decode cX12_left 32 = .ok (.i2l, 1) := by decide +kernel
theorem dX12_left_33 : decode cX12_left 33 = .ok (.lmul, 1) := by decide +kernel
theorem dX12_left_34 : decode cX12_left 34 = .ok (.lstore 4, 2) := by decide +kernel
theorem dX12_left_36 : decode cX12_left 36 = .ok (.iinc 6 1, 3) := by decide +kernel
theorem dX12_left_39 : decode cX12_left 39 = .ok (.goto (-29), 3) := by decide +kernel
theorem dX12_left_42 : decode cX12_left 42 = .ok (.lload 4, 2) := by decide +kernel
theorem dX12_left_44 : decode cX12_left 44 = .ok (.lreturn, 1) := by decide +kernel
theorem dX12_joins_0 : decode cX12_joins 0 = .ok (.iconst 0, 1) := by decide +kernel
theorem dX12_joins_1 : decode cX12_joins 1 = .ok (.istore 4, 2) := by decide +kernel
theorem dX12_joins_3 : decode cX12_joins 3 = .ok (.iload 4, 2) := by decide +kernel
theorem dX12_joins_5 : decode cX12_joins 5 = .ok (.iload_n 1, 1) := by decide +kernel
theorem dX12_joins_6 : decode cX12_joins 6 = .ok (.iadd, 1) := by decide +kernel
theorem dX12_joins_7 : decode cX12_joins 7 = .ok (.bipush 19, 2) := by decide +kernel
theorem dX12_joins_9 : decode cX12_joins 9 = .ok (.if_icmp .ge 30, 3) := by decide +kernel
theorem dX12_joins_12 : decode cX12_joins 12 = .ok (.aload_n 0, 1) := by decide +kernel
theorem dX12_joins_13 : decode cX12_joins 13 = .ok (.getfield 162, 3) := by decide +kernel
theorem dX12_joins_16 : decode cX12_joins 16 = .ok (.iload 4, 2) := by decide +kernel
theorem dX12_joins_18 : decode cX12_joins 18 = .ok (.iload_n 1, 1) := by decide +kernel
theorem dX12_joins_19 : decode cX12_joins 19 = .ok (.iadd, 1) := by decide +kernel
theorem dX12_joins_20 : decode cX12_joins 20 = .ok (.dup2, 1) := by decide +kernel
theorem dX12_joins_21 : decode cX12_joins 21 = .ok (.laload, 1) := by decide +kernel
theorem dX12_joins_22 : decode cX12_joins 22 = .ok (.aload_n 0, 1) := by decide +kernel
theorem dX12_joins_23 : decode cX12_joins 23 = .ok (.getfield 159, 3) := by decide +kernel
theorem dX12_joins_26 : decode cX12_joins 26 = .ok (.iload 4, 2) := by decide +kernel
theorem dX12_joins_28 : decode cX12_joins 28 = .ok (.laload, 1) := by decide +kernel
theorem dX12_joins_29 : decode cX12_joins 29 = .ok (.lload_n 2, 1) := by decide +kernel
theorem dX12_joins_30 : decode cX12_joins 30 = .ok (.lmul, 1) := by decide +kernel
theorem dX12_joins_31 : decode cX12_joins 31 = .ok (.ladd, 1) := by decide +kernel
theorem dX12_joins_32 : decode cX12_joins 32 = .ok (.lastore, 1) := by decide +kernel
theorem dX12_joins_33 : decode cX12_joins 33 = .ok (.iinc 4 1, 3) := by decide +kernel
theorem dX12_joins_36 : decode cX12_joins 36 = .ok (.goto (-33), 3) := by decide +kernel
theorem dX12_joins_39 : decode cX12_joins 39 = .ok (.return_, 1) := by decide +kernel
theorem dX12_lost_0 : decode cX12_lost 0 = .ok (.iload_n 1, 1) := by decide +kernel
theorem dX12_lost_1 : decode cX12_lost 1 = .ok (.iconst 0, 1) := by decide +kernel
theorem dX12_lost_2 : decode cX12_lost 2 = .ok (.bipush 18, 2) := by decide +kernel
theorem dX12_lost_4 : decode cX12_lost 4 = .ok (.invokestatic 335, 3) := by decide +kernel
theorem dX12_lost_7 : decode cX12_lost 7 = .ok (.ifCond .eq 22, 3) := by decide +kernel
theorem dX12_lost_10 : decode cX12_lost 10 = .ok (.iload_n 3, 1) := by decide +kernel
theorem dX12_lost_11 : decode cX12_lost 11 = .ok (.iconst 1, 1) := by decide +kernel
theorem dX12_lost_12 : decode cX12_lost 12 = .ok (.bipush 9, 2) := by decide +kernel
theorem dX12_lost_14 : decode cX12_lost 14 = .ok (.invokestatic 335, 3) := by decide +kernel
theorem dX12_lost_17 : decode cX12_lost 17 = .ok (.ifCond .eq 12, 3) := by decide +kernel
theorem dX12_lost_20 : decode cX12_lost 20 = .ok (.iload_n 2, 1) := by decide +kernel
theorem dX12_lost_21 : decode cX12_lost 21 = .ok (.iconst 0, 1) := by decide +kernel
theorem dX12_lost_22 : decode cX12_lost 22 = .ok (.iload_n 3, 1) := by decide +kernel
theorem dX12_lost_23 : decode cX12_lost 23 = .ok (.invokestatic 335, 3) := by decide +kernel
theorem dX12_lost_26 : decode cX12_lost 26 = .ok (.ifCond .ne 7, 3) := by decide +kernel
theorem dX12_lost_29 : decode cX12_lost 29 = .ok (.ldc2_w 392, 3) := by decide +kernel
theorem dX12_lost_32 : decode cX12_lost 32 = .ok (.lreturn, 1) := by decide +kernel
theorem dX12_lost_33 : decode cX12_lost 33 = .ok (.iconst 0, 1) := by decide +kernel
theorem dX12_lost_34 : decode cX12_lost 34 = .ok (.istore 4, 2) := by decide +kernel
theorem dX12_lost_36 : decode cX12_lost 36 = .ok (.iload 4, 2) := by decide +kernel
theorem dX12_lost_38 : decode cX12_lost 38 = .ok (.bipush 19, 2) := by decide +kernel
theorem dX12_lost_40 : decode cX12_lost 40 = .ok (.if_icmp .ge 26, 3) := by decide +kernel
theorem dX12_lost_43 : decode cX12_lost 43 = .ok (.aload_n 0, 1) := by decide +kernel
theorem dX12_lost_44 : decode cX12_lost 44 = .ok (.getfield 159, 3) := by decide +kernel
theorem dX12_lost_47 : decode cX12_lost 47 = .ok (.iload 4, 2) := by decide +kernel
theorem dX12_lost_49 : decode cX12_lost 49 = .ok (.iload 4, 2) := by decide +kernel
theorem dX12_lost_51 : decode cX12_lost 51 = .ok (.ifCond .ne 7, 3) := by decide +kernel
theorem dX12_lost_54 : decode cX12_lost 54 = .ok (.lconst 1, 1) := by decide +kernel
theorem dX12_lost_55 : decode cX12_lost 55 = .ok (.goto 4, 3) := by decide +kernel
theorem dX12_lost_58 : decode cX12_lost 58 = .ok (.lconst 0, 1) := by decide +kernel
theorem dX12_lost_59 : decode cX12_lost 59 = .ok (.lastore, 1) := by decide +kernel
theorem dX12_lost_60 : decode cX12_lost 60 = .ok (.iinc 4 1, 3) := by decide +kernel
theorem dX12_lost_63 : decode cX12_lost 63 = .ok (.goto (-27), 3) := by decide +kernel
theorem dX12_lost_66 : decode cX12_lost 66 = .ok (.iconst 0, 1) := by decide +kernel
theorem dX12_lost_67 : decode cX12_lost 67 = .ok (.istore 4, 2) := by decide +kernel
theorem dX12_lost_69 : decode cX12_lost 69 = .ok (.iload 4, 2) := by decide +kernel
theorem dX12_lost_71 : decode cX12_lost 71 = .ok (.aload_n 0, 1) := by decide +kernel
theorem dX12_lost_72 : decode cX12_lost 72 = .ok (.getfield 49, 3) := by decide +kernel
theorem dX12_lost_75 : decode cX12_lost 75 = .ok (.aload_n 0, 1) := by decide +kernel
theorem dX12_lost_76 : decode cX12_lost 76 = .ok (.getfield 264, 3) := by decide +kernel
theorem dX12_lost_79 : decode cX12_lost 79 = .ok (.iaload, 1) := by decide +kernel
theorem dX12_lost_80 : decode cX12_lost 80 = .ok (.if_icmp .ge 223, 3) := by decide +kernel
theorem dX12_lost_83 : decode cX12_lost 83 = .ok (.aload_n 0, 1) := by decide +kernel
theorem dX12_lost_84 : decode cX12_lost 84 = .ok (.iload 4, 2) := by decide +kernel
theorem dX12_lost_86 : decode cX12_lost 86 = .ok (.invokevirtual 349, 3) := by decide +kernel
theorem dX12_lost_89 : decode cX12_lost 89 = .ok (.istore 5, 2) := by decide +kernel
theorem dX12_lost_91 : decode cX12_lost 91 = .ok (.iload 5, 2) := by decide +kernel
theorem dX12_lost_93 : decode cX12_lost 93 = .ok (.iload 4, 2) := by decide +kernel
theorem dX12_lost_95 : decode cX12_lost 95 = .ok (.if_icmp .ge 6, 3) := by decide +kernel
theorem dX12_lost_98 : decode cX12_lost 98 = .ok (.goto 199, 3) := by decide +kernel
theorem dX12_lost_101 : decode cX12_lost 101 = .ok (.iconst 0, 1) := by decide +kernel
theorem dX12_lost_102 : decode cX12_lost 102 = .ok (.istore 6, 2) := by decide +kernel
theorem dX12_lost_104 : decode cX12_lost 104 = .ok (.iload 6, 2) := by decide +kernel
theorem dX12_lost_106 : decode cX12_lost 106 = .ok (.bipush 19, 2) := by decide +kernel
theorem dX12_lost_108 : decode cX12_lost 108 = .ok (.if_icmp .ge 17, 3) := by decide +kernel
theorem dX12_lost_111 : decode cX12_lost 111 = .ok (.aload_n 0, 1) := by decide +kernel
theorem dX12_lost_112 : decode cX12_lost 112 = .ok (.getfield 162, 3) := by decide +kernel
theorem dX12_lost_115 : decode cX12_lost 115 = .ok (.iload 6, 2) := by decide +kernel
theorem dX12_lost_117 : decode cX12_lost 117 = .ok (.lconst 0, 1) := by decide +kernel
theorem dX12_lost_118 : decode cX12_lost 118 = .ok (.lastore, 1) := by decide +kernel
theorem dX12_lost_119 : decode cX12_lost 119 = .ok (.iinc 6 1, 3) := by decide +kernel
theorem dX12_lost_122 : decode cX12_lost 122 = .ok (.goto (-18), 3) := by decide +kernel
theorem dX12_lost_125 : decode cX12_lost 125 = .ok (.aload_n 0, 1) := by decide +kernel
theorem dX12_lost_126 : decode cX12_lost 126 = .ok (.getfield 128, 3) := by decide +kernel
theorem dX12_lost_129 : decode cX12_lost 129 = .ok (.iload 4, 2) := by decide +kernel
theorem dX12_lost_131 : decode cX12_lost 131 = .ok (.iaload, 1) := by decide +kernel
theorem dX12_lost_132 : decode cX12_lost 132 = .ok (.aload_n 0, 1) := by decide +kernel
theorem dX12_lost_133 : decode cX12_lost 133 = .ok (.getfield 128, 3) := by decide +kernel
theorem dX12_lost_136 : decode cX12_lost 136 = .ok (.bipush 8, 2) := by decide +kernel
theorem dX12_lost_138 : decode cX12_lost 138 = .ok (.iload 4, 2) := by decide +kernel
theorem dX12_lost_140 : decode cX12_lost 140 = .ok (.iadd, 1) := by decide +kernel
theorem dX12_lost_141 : decode cX12_lost 141 = .ok (.iaload, 1) := by decide +kernel
theorem dX12_lost_142 : decode cX12_lost 142 = .ok (.iadd, 1) := by decide +kernel
theorem dX12_lost_143 : decode cX12_lost 143 = .ok (.istore 6, 2) := by decide +kernel
theorem dX12_lost_145 : decode cX12_lost 145 = .ok (.aload_n 0, 1) := by decide +kernel
theorem dX12_lost_146 : decode cX12_lost 146 = .ok (.getfield 128, 3) := by decide +kernel
theorem dX12_lost_149 : decode cX12_lost 149 = .ok (.iload 5, 2) := by decide +kernel
theorem dX12_lost_151 : decode cX12_lost 151 = .ok (.iaload, 1) := by decide +kernel
theorem dX12_lost_152 : decode cX12_lost 152 = .ok (.aload_n 0, 1) := by decide +kernel
theorem dX12_lost_153 : decode cX12_lost 153 = .ok (.getfield 128, 3) := by decide +kernel
theorem dX12_lost_156 : decode cX12_lost 156 = .ok (.bipush 8, 2) := by decide +kernel
theorem dX12_lost_158 : decode cX12_lost 158 = .ok (.iload 5, 2) := by decide +kernel
theorem dX12_lost_160 : decode cX12_lost 160 = .ok (.iadd, 1) := by decide +kernel
theorem dX12_lost_161 : decode cX12_lost 161 = .ok (.iaload, 1) := by decide +kernel
theorem dX12_lost_162 : decode cX12_lost 162 = .ok (.iadd, 1) := by decide +kernel
theorem dX12_lost_163 : decode cX12_lost 163 = .ok (.istore 7, 2) := by decide +kernel
theorem dX12_lost_165 : decode cX12_lost 165 = .ok (.iconst 0, 1) := by decide +kernel
theorem dX12_lost_166 : decode cX12_lost 166 = .ok (.istore 8, 2) := by decide +kernel
theorem dX12_lost_168 : decode cX12_lost 168 = .ok (.iload 8, 2) := by decide +kernel
theorem dX12_lost_170 : decode cX12_lost 170 = .ok (.iload 6, 2) := by decide +kernel
theorem dX12_lost_172 : decode cX12_lost 172 = .ok (.if_icmp .gt 95, 3) := by decide +kernel
theorem dX12_lost_175 : decode cX12_lost 175 = .ok (.iload 5, 2) := by decide +kernel
theorem dX12_lost_177 : decode cX12_lost 177 = .ok (.iload 4, 2) := by decide +kernel
theorem dX12_lost_179 : decode cX12_lost 179 = .ok (.if_icmp .ne 23, 3) := by decide +kernel
theorem dX12_lost_182 : decode cX12_lost 182 = .ok (.aload_n 0, 1) := by decide +kernel
theorem dX12_lost_183 : decode cX12_lost 183 = .ok (.iload 8, 2) := by decide +kernel
theorem dX12_lost_185 : decode cX12_lost 185 = .ok (.iconst 2, 1) := by decide +kernel
theorem dX12_lost_186 : decode cX12_lost 186 = .ok (.irem, 1) := by decide +kernel
theorem dX12_lost_187 : decode cX12_lost 187 = .ok (.iload 6, 2) := by decide +kernel
theorem dX12_lost_189 : decode cX12_lost 189 = .ok (.iload 8, 2) := by decide +kernel
theorem dX12_lost_191 : decode cX12_lost 191 = .ok (.iload_n 2, 1) := by decide +kernel
theorem dX12_lost_192 : decode cX12_lost 192 = .ok (.iload_n 3, 1) := by decide +kernel
theorem dX12_lost_193 : decode cX12_lost 193 = .ok (.invokestatic 420, 3) := by decide +kernel
theorem dX12_lost_196 : decode cX12_lost 196 = .ok (.invokevirtual 424, 3) := by decide +kernel
theorem dX12_lost_199 : decode cX12_lost 199 = .ok (.goto 62, 3) := by decide +kernel
theorem dX12_lost_202 : decode cX12_lost 202 = .ok (.iconst 0, 1) := by decide +kernel
theorem dX12_lost_203 : decode cX12_lost 203 = .ok (.istore 9, 2) := by decide +kernel
theorem dX12_lost_205 : decode cX12_lost 205 = .ok (.iload 9, 2) := by decide +kernel
theorem dX12_lost_207 : decode cX12_lost 207 = .ok (.iload 7, 2) := by decide +kernel
theorem dX12_lost_209 : decode cX12_lost 209 = .ok (.if_icmp .gt 52, 3) := by decide +kernel
theorem dX12_lost_212 : decode cX12_lost 212 = .ok (.aload_n 0, 1) := by decide +kernel
theorem dX12_lost_213 : decode cX12_lost 213 = .ok (.iload 8, 2) := by decide +kernel
theorem dX12_lost_215 : decode cX12_lost 215 = .ok (.iload 9, 2) := by decide +kernel
theorem dX12_lost_217 : decode cX12_lost 217 = .ok (.if_icmp .le 11, 3) := by decide +kernel
theorem dX12_lost_220 : decode cX12_lost 220 = .ok (.iload 8, 2) := by decide +kernel
theorem dX12_lost_222 : decode cX12_lost 222 = .ok (.iload 9, 2) := by decide +kernel
theorem dX12_lost_224 : decode cX12_lost 224 = .ok (.isub, 1) := by decide +kernel
theorem dX12_lost_225 : decode cX12_lost 225 = .ok (.goto 8, 3) := by decide +kernel
theorem dX12_lost_228 : decode cX12_lost 228 = .ok (.iload 9, 2) := by decide +kernel
theorem dX12_lost_230 : decode cX12_lost 230 = .ok (.iload 8, 2) := by decide +kernel
theorem dX12_lost_232 : decode cX12_lost 232 = .ok (.isub, 1) := by decide +kernel
theorem dX12_lost_233 : decode cX12_lost 233 = .ok (.iload 6, 2) := by decide +kernel
theorem dX12_lost_235 : decode cX12_lost 235 = .ok (.iload 8, 2) := by decide +kernel
theorem dX12_lost_237 : decode cX12_lost 237 = .ok (.iload_n 2, 1) := by decide +kernel
theorem dX12_lost_238 : decode cX12_lost 238 = .ok (.iload_n 3, 1) := by decide +kernel
theorem dX12_lost_239 : decode cX12_lost 239 = .ok (.invokestatic 420, 3) := by decide +kernel
theorem dX12_lost_242 : decode cX12_lost 242 = .ok (.iload 7, 2) := by decide +kernel
theorem dX12_lost_244 : decode cX12_lost 244 = .ok (.iload 9, 2) := by decide +kernel
theorem dX12_lost_246 : decode cX12_lost 246 = .ok (.iload_n 2, 1) := by decide +kernel
theorem dX12_lost_247 : decode cX12_lost 247 = .ok (.iload_n 3, 1) := by decide +kernel
theorem dX12_lost_248 : decode cX12_lost 248 = .ok (.invokestatic 420, 3) := by decide +kernel
theorem dX12_lost_251 : decode cX12_lost 251 = .ok (.lmul, 1) := by decide +kernel
theorem dX12_lost_252 : decode cX12_lost 252 = .ok (.invokevirtual 424, 3) := by decide +kernel
theorem dX12_lost_255 : decode cX12_lost 255 = .ok (.iinc 9 1, 3) := by decide +kernel
theorem dX12_lost_258 : decode cX12_lost 258 = .ok (.goto (-53), 3) := by decide +kernel
theorem dX12_lost_261 : decode cX12_lost 261 = .ok (.iinc 8 1, 3) := by decide +kernel
theorem dX12_lost_264 : decode cX12_lost 264 = .ok (.goto (-96), 3) := by decide +kernel
theorem dX12_lost_267 : decode cX12_lost 267 = .ok (.iconst 0, 1) := by decide +kernel
theorem dX12_lost_268 : decode cX12_lost 268 = .ok (.istore 8, 2) := by decide +kernel
theorem dX12_lost_270 : decode cX12_lost 270 = .ok (.iload 8, 2) := by decide +kernel
theorem dX12_lost_272 : decode cX12_lost 272 = .ok (.bipush 19, 2) := by decide +kernel
theorem dX12_lost_274 : decode cX12_lost 274 = .ok (.if_icmp .ge 23, 3) := by decide +kernel
theorem dX12_lost_277 : decode cX12_lost 277 = .ok (.aload_n 0, 1) := by decide +kernel
theorem dX12_lost_278 : decode cX12_lost 278 = .ok (.getfield 159, 3) := by decide +kernel
theorem dX12_lost_281 : decode cX12_lost 281 = .ok (.iload 8, 2) := by decide +kernel
theorem dX12_lost_283 : decode cX12_lost 283 = .ok (.aload_n 0, 1) := by decide +kernel
theorem dX12_lost_284 : decode cX12_lost 284 = .ok (.getfield 162, 3) := by decide +kernel
theorem dX12_lost_287 : decode cX12_lost 287 = .ok (.iload 8, 2) := by decide +kernel
theorem dX12_lost_289 : decode cX12_lost 289 = .ok (.laload, 1) := by decide +kernel
theorem dX12_lost_290 : decode cX12_lost 290 = .ok (.lastore, 1) := by decide +kernel
theorem dX12_lost_291 : decode cX12_lost 291 = .ok (.iinc 8 1, 3) := by decide +kernel
theorem dX12_lost_294 : decode cX12_lost 294 = .ok (.goto (-24), 3) := by decide +kernel
theorem dX12_lost_297 : decode cX12_lost 297 = .ok (.iinc 4 1, 3) := by decide +kernel
theorem dX12_lost_300 : decode cX12_lost 300 = .ok (.goto (-231), 3) := by decide +kernel
theorem dX12_lost_303 : decode cX12_lost 303 = .ok (.aload_n 0, 1) := by decide +kernel
theorem dX12_lost_304 : decode cX12_lost 304 = .ok (.getfield 159, 3) := by decide +kernel
theorem dX12_lost_307 : decode cX12_lost 307 = .ok (.iload_n 1, 1) := by decide +kernel
theorem dX12_lost_308 : decode cX12_lost 308 = .ok (.laload, 1) := by decide +kernel
theorem dX12_lost_309 : decode cX12_lost 309 = .ok (.lreturn, 1) := by decide +kernel
theorem dX12_loses_0 : decode cX12_loses 0 = .ok (.aload_n 0, 1) := by decide +kernel
theorem dX12_loses_1 : decode cX12_loses 1 = .ok (.iconst 0, 1) := by decide +kernel
theorem dX12_loses_2 : decode cX12_loses 2 = .ok (.putfield 331, 3) := by decide +kernel
theorem dX12_loses_5 : decode cX12_loses 5 = .ok (.aload_n 0, 1) := by decide +kernel
theorem dX12_loses_6 : decode cX12_loses 6 = .ok (.getfield 91, 3) := by decide +kernel
theorem dX12_loses_9 : decode cX12_loses 9 = .ok (.aload_n 0, 1) := by decide +kernel
theorem dX12_loses_10 : decode cX12_loses 10 = .ok (.getfield 264, 3) := by decide +kernel
theorem dX12_loses_13 : decode cX12_loses 13 = .ok (.iaload, 1) := by decide +kernel
theorem dX12_loses_14 : decode cX12_loses 14 = .ok (.istore_n 1, 1) := by decide +kernel
theorem dX12_loses_15 : decode cX12_loses 15 = .ok (.iload_n 1, 1) := by decide +kernel
theorem dX12_loses_16 : decode cX12_loses 16 = .ok (.aload_n 0, 1) := by decide +kernel
theorem dX12_loses_17 : decode cX12_loses 17 = .ok (.getfield 94, 3) := by decide +kernel
theorem dX12_loses_20 : decode cX12_loses 20 = .ok (.aload_n 0, 1) := by decide +kernel
theorem dX12_loses_21 : decode cX12_loses 21 = .ok (.getfield 264, 3) := by decide +kernel
theorem dX12_loses_24 : decode cX12_loses 24 = .ok (.iaload, 1) := by decide +kernel
theorem dX12_loses_25 : decode cX12_loses 25 = .ok (.if_icmp .ge 99, 3) := by decide +kernel
theorem dX12_loses_28 : decode cX12_loses 28 = .ok (.aload_n 0, 1) := by decide +kernel
theorem dX12_loses_29 : decode cX12_loses 29 = .ok (.getfield 97, 3) := by decide +kernel
theorem dX12_loses_32 : decode cX12_loses 32 = .ok (.iload_n 1, 1) := by decide +kernel
theorem dX12_loses_33 : decode cX12_loses 33 = .ok (.baload, 1) := by decide +kernel
theorem dX12_loses_34 : decode cX12_loses 34 = .ok (.ifCond .eq 54, 3) := by decide +kernel
theorem dX12_loses_37 : decode cX12_loses 37 = .ok (.aload_n 0, 1) := by decide +kernel
theorem dX12_loses_38 : decode cX12_loses 38 = .ok (.aload_n 0, 1) := by decide +kernel
theorem dX12_loses_39 : decode cX12_loses 39 = .ok (.getfield 101, 3) := by decide +kernel
theorem dX12_loses_42 : decode cX12_loses 42 = .ok (.iload_n 1, 1) := by decide +kernel
theorem dX12_loses_43 : decode cX12_loses 43 = .ok (.iaload, 1) := by decide +kernel
theorem dX12_loses_44 : decode cX12_loses 44 = .ok (.aload_n 0, 1) := by decide +kernel
theorem dX12_loses_45 : decode cX12_loses 45 = .ok (.getfield 104, 3) := by decide +kernel
theorem dX12_loses_48 : decode cX12_loses 48 = .ok (.iload_n 1, 1) := by decide +kernel
theorem dX12_loses_49 : decode cX12_loses 49 = .ok (.iaload, 1) := by decide +kernel
theorem dX12_loses_50 : decode cX12_loses 50 = .ok (.invokevirtual 428, 3) := by decide +kernel
theorem dX12_loses_53 : decode cX12_loses 53 = .ok (.istore_n 2, 1) := by decide +kernel
theorem dX12_loses_54 : decode cX12_loses 54 = .ok (.aload_n 0, 1) := by decide +kernel
theorem dX12_loses_55 : decode cX12_loses 55 = .ok (.aload_n 0, 1) := by decide +kernel
theorem dX12_loses_56 : decode cX12_loses 56 = .ok (.getfield 104, 3) := by decide +kernel
theorem dX12_loses_59 : decode cX12_loses 59 = .ok (.iload_n 1, 1) := by decide +kernel
theorem dX12_loses_60 : decode cX12_loses 60 = .ok (.iaload, 1) := by decide +kernel
theorem dX12_loses_61 : decode cX12_loses 61 = .ok (.aload_n 0, 1) := by decide +kernel
theorem dX12_loses_62 : decode cX12_loses 62 = .ok (.getfield 107, 3) := by decide +kernel
theorem dX12_loses_65 : decode cX12_loses 65 = .ok (.iload_n 1, 1) := by decide +kernel
theorem dX12_loses_66 : decode cX12_loses 66 = .ok (.iaload, 1) := by decide +kernel
theorem dX12_loses_67 : decode cX12_loses 67 = .ok (.invokevirtual 428, 3) := by decide +kernel
theorem dX12_loses_70 : decode cX12_loses 70 = .ok (.istore_n 3, 1) := by decide +kernel
theorem dX12_loses_71 : decode cX12_loses 71 = .ok (.aload_n 0, 1) := by decide +kernel
theorem dX12_loses_72 : decode cX12_loses 72 = .ok (.getfield 331, 3) := by decide +kernel
theorem dX12_loses_75 : decode cX12_loses 75 = .ok (.ifCond .eq 5, 3) := by decide +kernel
theorem dX12_loses_78 : decode cX12_loses 78 = .ok (.iconst 0, 1) := by decide +kernel
theorem dX12_loses_79 : decode cX12_loses 79 = .ok (.ireturn, 1) := by decide +kernel
theorem dX12_loses_80 : decode cX12_loses 80 = .ok (.iload_n 2, 1) := by decide +kernel
theorem dX12_loses_81 : decode cX12_loses 81 = .ok (.iload_n 3, 1) := by decide +kernel
theorem dX12_loses_82 : decode cX12_loses 82 = .ok (.if_icmp .lt 6, 3) := by decide +kernel
theorem dX12_loses_85 : decode cX12_loses 85 = .ok (.goto 33, 3) := by decide +kernel
theorem dX12_loses_88 : decode cX12_loses 88 = .ok (.aload_n 0, 1) := by decide +kernel
theorem dX12_loses_89 : decode cX12_loses 89 = .ok (.aload_n 0, 1) := by decide +kernel
theorem dX12_loses_90 : decode cX12_loses 90 = .ok (.getfield 107, 3) := by decide +kernel
theorem dX12_loses_93 : decode cX12_loses 93 = .ok (.iload_n 1, 1) := by decide +kernel
theorem dX12_loses_94 : decode cX12_loses 94 = .ok (.iaload, 1) := by decide +kernel
theorem dX12_loses_95 : decode cX12_loses 95 = .ok (.aload_n 0, 1) := by decide +kernel
theorem dX12_loses_96 : decode cX12_loses 96 = .ok (.getfield 110, 3) := by decide +kernel
theorem dX12_loses_99 : decode cX12_loses 99 = .ok (.iload_n 1, 1) := by decide +kernel
theorem dX12_loses_100 : decode cX12_loses 100 = .ok (.iaload, 1) := by decide +kernel
theorem dX12_loses_101 : decode cX12_loses 101 = .ok (.invokevirtual 428, 3) := by decide +kernel
theorem dX12_loses_104 : decode cX12_loses 104 = .ok (.istore_n 2, 1) := by decide +kernel
theorem dX12_loses_105 : decode cX12_loses 105 = .ok (.aload_n 0, 1) := by decide +kernel
theorem dX12_loses_106 : decode cX12_loses 106 = .ok (.getfield 331, 3) := by decide +kernel
theorem dX12_loses_109 : decode cX12_loses 109 = .ok (.ifCond .eq 7, 3) := by decide +kernel
theorem dX12_loses_112 : decode cX12_loses 112 = .ok (.iconst 0, 1) := by decide +kernel
theorem dX12_loses_113 : decode cX12_loses 113 = .ok (.goto 4, 3) := by decide +kernel
theorem dX12_loses_116 : decode cX12_loses 116 = .ok (.iload_n 2, 1) := by decide +kernel
theorem dX12_loses_117 : decode cX12_loses 117 = .ok (.ireturn, 1) := by decide +kernel
theorem dX12_loses_118 : decode cX12_loses 118 = .ok (.iinc 1 1, 3) := by decide +kernel
theorem dX12_loses_121 : decode cX12_loses 121 = .ok (.goto (-106), 3) := by decide +kernel
theorem dX12_loses_124 : decode cX12_loses 124 = .ok (.iconst 0, 1) := by decide +kernel
theorem dX12_loses_125 : decode cX12_loses 125 = .ok (.ireturn, 1) := by decide +kernel
theorem dX12_years_0 : decode cX12_years 0 = .ok (.iload_n 1, 1) := by decide +kernel
theorem dX12_years_1 : decode cX12_years 1 = .ok (.iconst 1, 1) := by decide +kernel
theorem dX12_years_2 : decode cX12_years 2 = .ok (.sipush 200, 3) := by decide +kernel
theorem dX12_years_5 : decode cX12_years 5 = .ok (.invokestatic 335, 3) := by decide +kernel
theorem dX12_years_8 : decode cX12_years 8 = .ok (.ifCond .eq 12, 3) := by decide +kernel
theorem dX12_years_11 : decode cX12_years 11 = .ok (.iload_n 2, 1) := by decide +kernel
theorem dX12_years_12 : decode cX12_years 12 = .ok (.iconst 0, 1) := by decide +kernel
theorem dX12_years_13 : decode cX12_years 13 = .ok (.iconst 2, 1) := by decide +kernel
theorem dX12_years_14 : decode cX12_years 14 = .ok (.invokestatic 335, 3) := by decide +kernel
theorem dX12_years_17 : decode cX12_years 17 = .ok (.ifCond .ne 5, 3) := by decide +kernel
theorem dX12_years_20 : decode cX12_years 20 = .ok (.iconst (-1), 1) := by decide +kernel
theorem dX12_years_21 : decode cX12_years 21 = .ok (.ireturn, 1) := by decide +kernel
theorem dX12_years_22 : decode cX12_years 22 = .ok (.aload_n 0, 1) := by decide +kernel
theorem dX12_years_23 : decode cX12_years 23 = .ok (.getfield 61, 3) := by decide +kernel
theorem dX12_years_26 : decode cX12_years 26 = .ok (.aload_n 0, 1) := by decide +kernel
theorem dX12_years_27 : decode cX12_years 27 = .ok (.getfield 264, 3) := by decide +kernel
theorem dX12_years_30 : decode cX12_years 30 = .ok (.iaload, 1) := by decide +kernel
theorem dX12_years_31 : decode cX12_years 31 = .ok (.istore_n 3, 1) := by decide +kernel
theorem dX12_years_32 : decode cX12_years 32 = .ok (.iconst 0, 1) := by decide +kernel
theorem dX12_years_33 : decode cX12_years 33 = .ok (.istore 4, 2) := by decide +kernel
theorem dX12_years_35 : decode cX12_years 35 = .ok (.iload 4, 2) := by decide +kernel
theorem dX12_years_37 : decode cX12_years 37 = .ok (.bipush 18, 2) := by decide +kernel
theorem dX12_years_39 : decode cX12_years 39 = .ok (.if_icmp .ge 17, 3) := by decide +kernel
theorem dX12_years_42 : decode cX12_years 42 = .ok (.aload_n 0, 1) := by decide +kernel
theorem dX12_years_43 : decode cX12_years 43 = .ok (.getfield 165, 3) := by decide +kernel
theorem dX12_years_46 : decode cX12_years 46 = .ok (.iload 4, 2) := by decide +kernel
theorem dX12_years_48 : decode cX12_years 48 = .ok (.iconst 0, 1) := by decide +kernel
theorem dX12_years_49 : decode cX12_years 49 = .ok (.bastore, 1) := by decide +kernel
theorem dX12_years_50 : decode cX12_years 50 = .ok (.iinc 4 1, 3) := by decide +kernel
theorem dX12_years_53 : decode cX12_years 53 = .ok (.goto (-18), 3) := by decide +kernel
theorem dX12_years_56 : decode cX12_years 56 = .ok (.iconst 0, 1) := by decide +kernel
theorem dX12_years_57 : decode cX12_years 57 = .ok (.istore 4, 2) := by decide +kernel
theorem dX12_years_59 : decode cX12_years 59 = .ok (.iload 4, 2) := by decide +kernel
theorem dX12_years_61 : decode cX12_years 61 = .ok (.aload_n 0, 1) := by decide +kernel
theorem dX12_years_62 : decode cX12_years 62 = .ok (.getfield 49, 3) := by decide +kernel
theorem dX12_years_65 : decode cX12_years 65 = .ok (.aload_n 0, 1) := by decide +kernel
theorem dX12_years_66 : decode cX12_years 66 = .ok (.getfield 264, 3) := by decide +kernel
theorem dX12_years_69 : decode cX12_years 69 = .ok (.iaload, 1) := by decide +kernel
theorem dX12_years_70 : decode cX12_years 70 = .ok (.if_icmp .ge 31, 3) := by decide +kernel
theorem dX12_years_73 : decode cX12_years 73 = .ok (.aload_n 0, 1) := by decide +kernel
theorem dX12_years_74 : decode cX12_years 74 = .ok (.getfield 168, 3) := by decide +kernel
theorem dX12_years_77 : decode cX12_years 77 = .ok (.iload 4, 2) := by decide +kernel
theorem dX12_years_79 : decode cX12_years 79 = .ok (.aload_n 0, 1) := by decide +kernel
theorem dX12_years_80 : decode cX12_years 80 = .ok (.getfield 55, 3) := by decide +kernel
theorem dX12_years_83 : decode cX12_years 83 = .ok (.bipush 8, 2) := by decide +kernel
theorem dX12_years_85 : decode cX12_years 85 = .ok (.aload_n 0, 1) := by decide +kernel
theorem dX12_years_86 : decode cX12_years 86 = .ok (.getfield 264, 3) := by decide +kernel
theorem dX12_years_89 : decode cX12_years 89 = .ok (.imul, 1) := by decide +kernel
theorem dX12_years_90 : decode cX12_years 90 = .ok (.iload 4, 2) := by decide +kernel
theorem dX12_years_92 : decode cX12_years 92 = .ok (.iadd, 1) := by decide +kernel
theorem dX12_years_93 : decode cX12_years 93 = .ok (.iaload, 1) := by decide +kernel
theorem dX12_years_94 : decode cX12_years 94 = .ok (.iastore, 1) := by decide +kernel
theorem dX12_years_95 : decode cX12_years 95 = .ok (.iinc 4 1, 3) := by decide +kernel
theorem dX12_years_98 : decode cX12_years 98 = .ok (.goto (-39), 3) := by decide +kernel
theorem dX12_years_101 : decode cX12_years 101 = .ok (.bipush (-2), 2) := by decide +kernel
theorem dX12_years_103 : decode cX12_years 103 = .ok (.istore 4, 2) := by decide +kernel
theorem dX12_years_105 : decode cX12_years 105 = .ok (.iconst 0, 1) := by decide +kernel
theorem dX12_years_106 : decode cX12_years 106 = .ok (.istore 5, 2) := by decide +kernel
theorem dX12_years_108 : decode cX12_years 108 = .ok (.iload 5, 2) := by decide +kernel
theorem dX12_years_110 : decode cX12_years 110 = .ok (.iload_n 1, 1) := by decide +kernel
theorem dX12_years_111 : decode cX12_years 111 = .ok (.if_icmp .ge 200, 3) := by decide +kernel
theorem dX12_years_114 : decode cX12_years 114 = .ok (.iconst 0, 1) := by decide +kernel
theorem dX12_years_115 : decode cX12_years 115 = .ok (.istore 6, 2) := by decide +kernel
theorem dX12_years_117 : decode cX12_years 117 = .ok (.iconst 0, 1) := by decide +kernel
theorem dX12_years_118 : decode cX12_years 118 = .ok (.istore 7, 2) := by decide +kernel
theorem dX12_years_120 : decode cX12_years 120 = .ok (.iload 7, 2) := by decide +kernel
theorem dX12_years_122 : decode cX12_years 122 = .ok (.aload_n 0, 1) := by decide +kernel
theorem dX12_years_123 : decode cX12_years 123 = .ok (.getfield 49, 3) := by decide +kernel
theorem dX12_years_126 : decode cX12_years 126 = .ok (.aload_n 0, 1) := by decide +kernel
theorem dX12_years_127 : decode cX12_years 127 = .ok (.getfield 264, 3) := by decide +kernel
theorem dX12_years_130 : decode cX12_years 130 = .ok (.iaload, 1) := by decide +kernel
theorem dX12_years_131 : decode cX12_years 131 = .ok (.if_icmp .ge 174, 3) := by decide +kernel
theorem dX12_years_134 : decode cX12_years 134 = .ok (.iconst 0, 1) := by decide +kernel
theorem dX12_years_135 : decode cX12_years 135 = .ok (.istore 8, 2) := by decide +kernel
theorem dX12_years_137 : decode cX12_years 137 = .ok (.iload 8, 2) := by decide +kernel
theorem dX12_years_139 : decode cX12_years 139 = .ok (.aload_n 0, 1) := by decide +kernel
theorem dX12_years_140 : decode cX12_years 140 = .ok (.getfield 55, 3) := by decide +kernel
theorem dX12_years_143 : decode cX12_years 143 = .ok (.bipush 8, 2) := by decide +kernel
theorem dX12_years_145 : decode cX12_years 145 = .ok (.aload_n 0, 1) := by decide +kernel
theorem dX12_years_146 : decode cX12_years 146 = .ok (.getfield 264, 3) := by decide +kernel
theorem dX12_years_149 : decode cX12_years 149 = .ok (.imul, 1) := by decide +kernel
theorem dX12_years_150 : decode cX12_years 150 = .ok (.iload 7, 2) := by decide +kernel
theorem dX12_years_152 : decode cX12_years 152 = .ok (.iadd, 1) := by decide +kernel
theorem dX12_years_153 : decode cX12_years 153 = .ok (.iaload, 1) := by decide +kernel
theorem dX12_years_154 : decode cX12_years 154 = .ok (.if_icmp .ge 145, 3) := by decide +kernel
theorem dX12_years_157 : decode cX12_years 157 = .ok (.bipush 20, 2) := by decide +kernel
theorem dX12_years_159 : decode cX12_years 159 = .ok (.iload 5, 2) := by decide +kernel
theorem dX12_years_161 : decode cX12_years 161 = .ok (.imul, 1) := by decide +kernel
theorem dX12_years_162 : decode cX12_years 162 = .ok (.iload 6, 2) := by decide +kernel
theorem dX12_years_164 : decode cX12_years 164 = .ok (.iadd, 1) := by decide +kernel
theorem dX12_years_165 : decode cX12_years 165 = .ok (.istore 9, 2) := by decide +kernel
theorem dX12_years_167 : decode cX12_years 167 = .ok (.aload_n 0, 1) := by decide +kernel
theorem dX12_years_168 : decode cX12_years 168 = .ok (.getfield 165, 3) := by decide +kernel
theorem dX12_years_171 : decode cX12_years 171 = .ok (.iload 6, 2) := by decide +kernel
theorem dX12_years_173 : decode cX12_years 173 = .ok (.baload, 1) := by decide +kernel
theorem dX12_years_174 : decode cX12_years 174 = .ok (.ifCond .ne 116, 3) := by decide +kernel
theorem dX12_years_177 : decode cX12_years 177 = .ok (.aload_n 0, 1) := by decide +kernel
theorem dX12_years_178 : decode cX12_years 178 = .ok (.getfield 122, 3) := by decide +kernel
theorem dX12_years_181 : decode cX12_years 181 = .ok (.iconst 0, 1) := by decide +kernel
theorem dX12_years_182 : decode cX12_years 182 = .ok (.iload 5, 2) := by decide +kernel
theorem dX12_years_184 : decode cX12_years 184 = .ok (.iastore, 1) := by decide +kernel
theorem dX12_years_185 : decode cX12_years 185 = .ok (.aload_n 0, 1) := by decide +kernel
theorem dX12_years_186 : decode cX12_years 186 = .ok (.getfield 122, 3) := by decide +kernel
theorem dX12_years_189 : decode cX12_years 189 = .ok (.iconst 1, 1) := by decide +kernel
theorem dX12_years_190 : decode cX12_years 190 = .ok (.iload 7, 2) := by decide +kernel
theorem dX12_years_192 : decode cX12_years 192 = .ok (.iastore, 1) := by decide +kernel
theorem dX12_years_193 : decode cX12_years 193 = .ok (.aload_n 0, 1) := by decide +kernel
theorem dX12_years_194 : decode cX12_years 194 = .ok (.getfield 122, 3) := by decide +kernel
theorem dX12_years_197 : decode cX12_years 197 = .ok (.iconst 2, 1) := by decide +kernel
theorem dX12_years_198 : decode cX12_years 198 = .ok (.aload_n 0, 1) := by decide +kernel
theorem dX12_years_199 : decode cX12_years 199 = .ok (.getfield 168, 3) := by decide +kernel
theorem dX12_years_202 : decode cX12_years 202 = .ok (.iload 7, 2) := by decide +kernel
theorem dX12_years_204 : decode cX12_years 204 = .ok (.iaload, 1) := by decide +kernel
theorem dX12_years_205 : decode cX12_years 205 = .ok (.iastore, 1) := by decide +kernel
theorem dX12_years_206 : decode cX12_years 206 = .ok (.aload_n 0, 1) := by decide +kernel
theorem dX12_years_207 : decode cX12_years 207 = .ok (.getfield 122, 3) := by decide +kernel
theorem dX12_years_210 : decode cX12_years 210 = .ok (.iconst 3, 1) := by decide +kernel
theorem dX12_years_211 : decode cX12_years 211 = .ok (.iload_n 3, 1) := by decide +kernel
theorem dX12_years_212 : decode cX12_years 212 = .ok (.iastore, 1) := by decide +kernel
theorem dX12_years_213 : decode cX12_years 213 = .ok (.aload_n 0, 1) := by decide +kernel
theorem dX12_years_214 : decode cX12_years 214 = .ok (.getfield 122, 3) := by decide +kernel
theorem dX12_years_217 : decode cX12_years 217 = .ok (.iconst 4, 1) := by decide +kernel
theorem dX12_years_218 : decode cX12_years 218 = .ok (.aload_n 0, 1) := by decide +kernel
theorem dX12_years_219 : decode cX12_years 219 = .ok (.getfield 88, 3) := by decide +kernel
theorem dX12_years_222 : decode cX12_years 222 = .ok (.aload_n 0, 1) := by decide +kernel
theorem dX12_years_223 : decode cX12_years 223 = .ok (.getfield 264, 3) := by decide +kernel
theorem dX12_years_226 : decode cX12_years 226 = .ok (.iaload, 1) := by decide +kernel
theorem dX12_years_227 : decode cX12_years 227 = .ok (.iload 9, 2) := by decide +kernel
theorem dX12_years_229 : decode cX12_years 229 = .ok (.bipush 100, 2) := by decide +kernel
theorem dX12_years_231 : decode cX12_years 231 = .ok (.invokestatic 358, 3) := by decide +kernel
theorem dX12_years_234 : decode cX12_years 234 = .ok (.iastore, 1) := by decide +kernel
theorem dX12_years_235 : decode cX12_years 235 = .ok (.aload_n 0, 1) := by decide +kernel
theorem dX12_years_236 : decode cX12_years 236 = .ok (.getfield 88, 3) := by decide +kernel
theorem dX12_years_239 : decode cX12_years 239 = .ok (.aload_n 0, 1) := by decide +kernel
theorem dX12_years_240 : decode cX12_years 240 = .ok (.getfield 264, 3) := by decide +kernel
theorem dX12_years_243 : decode cX12_years 243 = .ok (.iaload, 1) := by decide +kernel
theorem dX12_years_244 : decode cX12_years 244 = .ok (.iload 9, 2) := by decide +kernel
theorem dX12_years_246 : decode cX12_years 246 = .ok (.sipush 1000, 3) := by decide +kernel
theorem dX12_years_249 : decode cX12_years 249 = .ok (.invokestatic 358, 3) := by decide +kernel
theorem dX12_years_252 : decode cX12_years 252 = .ok (.aload_n 0, 1) := by decide +kernel
theorem dX12_years_253 : decode cX12_years 253 = .ok (.invokevirtual 431, 3) := by decide +kernel
theorem dX12_years_256 : decode cX12_years 256 = .ok (.if_icmp .ge 34, 3) := by decide +kernel
theorem dX12_years_259 : decode cX12_years 259 = .ok (.aload_n 0, 1) := by decide +kernel
theorem dX12_years_260 : decode cX12_years 260 = .ok (.getfield 165, 3) := by decide +kernel
theorem dX12_years_263 : decode cX12_years 263 = .ok (.iload 6, 2) := by decide +kernel
theorem dX12_years_265 : decode cX12_years 265 = .ok (.iconst 1, 1) := by decide +kernel
theorem dX12_years_266 : decode cX12_years 266 = .ok (.bastore, 1) := by decide +kernel
theorem dX12_years_267 : decode cX12_years 267 = .ok (.aload_n 0, 1) := by decide +kernel
theorem dX12_years_268 : decode cX12_years 268 = .ok (.getfield 168, 3) := by decide +kernel
theorem dX12_years_271 : decode cX12_years 271 = .ok (.iload 7, 2) := by decide +kernel
theorem dX12_years_273 : decode cX12_years 273 = .ok (.dup2, 1) := by decide +kernel
theorem dX12_years_274 : decode cX12_years 274 = .ok (.iaload, 1) := by decide +kernel
theorem dX12_years_275 : decode cX12_years 275 = .ok (.iconst 1, 1) := by decide +kernel
theorem dX12_years_276 : decode cX12_years 276 = .ok (.isub, 1) := by decide +kernel
theorem dX12_years_277 : decode cX12_years 277 = .ok (.iastore, 1) := by decide +kernel
theorem dX12_years_278 : decode cX12_years 278 = .ok (.iinc 3 (-1), 3) := by decide +kernel
theorem dX12_years_281 : decode cX12_years 281 = .ok (.iload 4, 2) := by decide +kernel
theorem dX12_years_283 : decode cX12_years 283 = .ok (.ifCond .ge 7, 3) := by decide +kernel
theorem dX12_years_286 : decode cX12_years 286 = .ok (.iload 5, 2) := by decide +kernel
theorem dX12_years_288 : decode cX12_years 288 = .ok (.istore 4, 2) := by decide +kernel
theorem dX12_years_290 : decode cX12_years 290 = .ok (.iinc 6 1, 3) := by decide +kernel
theorem dX12_years_293 : decode cX12_years 293 = .ok (.iinc 8 1, 3) := by decide +kernel
theorem dX12_years_296 : decode cX12_years 296 = .ok (.goto (-159), 3) := by decide +kernel
theorem dX12_years_299 : decode cX12_years 299 = .ok (.iinc 7 1, 3) := by decide +kernel
theorem dX12_years_302 : decode cX12_years 302 = .ok (.goto (-182), 3) := by decide +kernel
theorem dX12_years_305 : decode cX12_years 305 = .ok (.iinc 5 1, 3) := by decide +kernel
theorem dX12_years_308 : decode cX12_years 308 = .ok (.goto (-200), 3) := by decide +kernel
theorem dX12_years_311 : decode cX12_years 311 = .ok (.iload_n 2, 1) := by decide +kernel
theorem dX12_years_312 : decode cX12_years 312 = .ok (.ifCond .ne 5, 3) := by decide +kernel
theorem dX12_years_315 : decode cX12_years 315 = .ok (.iload_n 3, 1) := by decide +kernel
theorem dX12_years_316 : decode cX12_years 316 = .ok (.ireturn, 1) := by decide +kernel
theorem dX12_years_317 : decode cX12_years 317 = .ok (.iload_n 2, 1) := by decide +kernel
theorem dX12_years_318 : decode cX12_years 318 = .ok (.iconst 2, 1) := by decide +kernel
theorem dX12_years_319 : decode cX12_years 319 = .ok (.if_icmp .ne 6, 3) := by decide +kernel
theorem dX12_years_322 : decode cX12_years 322 = .ok (.iload 4, 2) := by decide +kernel
theorem dX12_years_324 : decode cX12_years 324 = .ok (.ireturn, 1) := by decide +kernel
theorem dX12_years_325 : decode cX12_years 325 = .ok (.iconst 0, 1) := by decide +kernel
theorem dX12_years_326 : decode cX12_years 326 = .ok (.istore 5, 2) := by decide +kernel
theorem dX12_years_328 : decode cX12_years 328 = .ok (.iconst 0, 1) := by decide +kernel
theorem dX12_years_329 : decode cX12_years 329 = .ok (.istore 6, 2) := by decide +kernel
theorem dX12_years_331 : decode cX12_years 331 = .ok (.iload 6, 2) := by decide +kernel
theorem dX12_years_333 : decode cX12_years 333 = .ok (.aload_n 0, 1) := by decide +kernel
theorem dX12_years_334 : decode cX12_years 334 = .ok (.getfield 49, 3) := by decide +kernel
theorem dX12_years_337 : decode cX12_years 337 = .ok (.aload_n 0, 1) := by decide +kernel
theorem dX12_years_338 : decode cX12_years 338 = .ok (.getfield 264, 3) := by decide +kernel
theorem dX12_years_341 : decode cX12_years 341 = .ok (.iaload, 1) := by decide +kernel
theorem dX12_years_342 : decode cX12_years 342 = .ok (.if_icmp .ge 84, 3) := by decide +kernel
theorem dX12_years_345 : decode cX12_years 345 = .ok (.aload_n 0, 1) := by decide +kernel
theorem dX12_years_346 : decode cX12_years 346 = .ok (.iload 6, 2) := by decide +kernel
theorem dX12_years_348 : decode cX12_years 348 = .ok (.invokevirtual 349, 3) := by decide +kernel
theorem dX12_years_351 : decode cX12_years 351 = .ok (.istore 7, 2) := by decide +kernel
theorem dX12_years_353 : decode cX12_years 353 = .ok (.iload 7, 2) := by decide +kernel
theorem dX12_years_355 : decode cX12_years 355 = .ok (.iload 6, 2) := by decide +kernel
theorem dX12_years_357 : decode cX12_years 357 = .ok (.if_icmp .ne 17, 3) := by decide +kernel
theorem dX12_years_360 : decode cX12_years 360 = .ok (.iload 5, 2) := by decide +kernel
theorem dX12_years_362 : decode cX12_years 362 = .ok (.aload_n 0, 1) := by decide +kernel
theorem dX12_years_363 : decode cX12_years 363 = .ok (.getfield 168, 3) := by decide +kernel
theorem dX12_years_366 : decode cX12_years 366 = .ok (.iload 6, 2) := by decide +kernel
theorem dX12_years_368 : decode cX12_years 368 = .ok (.iaload, 1) := by decide +kernel
theorem dX12_years_369 : decode cX12_years 369 = .ok (.iconst 2, 1) := by decide +kernel
theorem dX12_years_370 : decode cX12_years 370 = .ok (.idiv, 1) := by decide +kernel
theorem dX12_years_371 : decode cX12_years 371 = .ok (.iadd, 1) := by decide +kernel
theorem dX12_years_372 : decode cX12_years 372 = .ok (.istore 5, 2) := by decide +kernel
theorem dX12_years_374 : decode cX12_years 374 = .ok (.iload 7, 2) := by decide +kernel
theorem dX12_years_376 : decode cX12_years 376 = .ok (.iload 6, 2) := by decide +kernel
theorem dX12_years_378 : decode cX12_years 378 = .ok (.if_icmp .le 42, 3) := by decide +kernel
theorem dX12_years_381 : decode cX12_years 381 = .ok (.iload 5, 2) := by decide +kernel
theorem dX12_years_383 : decode cX12_years 383 = .ok (.aload_n 0, 1) := by decide +kernel
theorem dX12_years_384 : decode cX12_years 384 = .ok (.getfield 168, 3) := by decide +kernel
theorem dX12_years_387 : decode cX12_years 387 = .ok (.iload 6, 2) := by decide +kernel
theorem dX12_years_389 : decode cX12_years 389 = .ok (.iaload, 1) := by decide +kernel
theorem dX12_years_390 : decode cX12_years 390 = .ok (.aload_n 0, 1) := by decide +kernel
theorem dX12_years_391 : decode cX12_years 391 = .ok (.getfield 168, 3) := by decide +kernel
theorem dX12_years_394 : decode cX12_years 394 = .ok (.iload 7, 2) := by decide +kernel
theorem dX12_years_396 : decode cX12_years 396 = .ok (.iaload, 1) := by decide +kernel
theorem dX12_years_397 : decode cX12_years 397 = .ok (.if_icmp .ge 13, 3) := by decide +kernel
theorem dX12_years_400 : decode cX12_years 400 = .ok (.aload_n 0, 1) := by decide +kernel
theorem dX12_years_401 : decode cX12_years 401 = .ok (.getfield 168, 3) := by decide +kernel
theorem dX12_years_404 : decode cX12_years 404 = .ok (.iload 6, 2) := by decide +kernel
theorem dX12_years_406 : decode cX12_years 406 = .ok (.iaload, 1) := by decide +kernel
theorem dX12_years_407 : decode cX12_years 407 = .ok (.goto 10, 3) := by decide +kernel
theorem dX12_years_410 : decode cX12_years 410 = .ok (.aload_n 0, 1) := by decide +kernel
theorem dX12_years_411 : decode cX12_years 411 = .ok (.getfield 168, 3) := by decide +kernel
theorem dX12_years_414 : decode cX12_years 414 = .ok (.iload 7, 2) := by decide +kernel
theorem dX12_years_416 : decode cX12_years 416 = .ok (.iaload, 1) := by decide +kernel
theorem dX12_years_417 : decode cX12_years 417 = .ok (.iadd, 1) := by decide +kernel
theorem dX12_years_418 : decode cX12_years 418 = .ok (.istore 5, 2) := by decide +kernel
theorem dX12_years_420 : decode cX12_years 420 = .ok (.iinc 6 1, 3) := by decide +kernel
theorem dX12_years_423 : decode cX12_years 423 = .ok (.goto (-92), 3) := by decide +kernel
theorem dX12_years_426 : decode cX12_years 426 = .ok (.iload 5, 2) := by decide +kernel
theorem dX12_years_428 : decode cX12_years 428 = .ok (.ireturn, 1) := by decide +kernel
theorem dX12_see_0 : decode cX12_see 0 = .ok (.aload_n 0, 1) := by decide +kernel
theorem dX12_see_1 : decode cX12_see 1 = .ok (.getfield 282, 3) := by decide +kernel
theorem dX12_see_4 : decode cX12_see 4 = .ok (.bipush 20, 2) := by decide +kernel
theorem dX12_see_6 : decode cX12_see 6 = .ok (.if_icmp .eq 21, 3) := by decide +kernel
theorem dX12_see_9 : decode cX12_see 9 = .ok (.aload_n 0, 1) := by decide +kernel
theorem dX12_see_10 : decode cX12_see 10 = .ok (.iload_n 1, 1) := by decide +kernel
theorem dX12_see_11 : decode cX12_see 11 = .ok (.invokevirtual 361, 3) := by decide +kernel
theorem dX12_see_14 : decode cX12_see 14 = .ok (.ifCond .eq 13, 3) := by decide +kernel
theorem dX12_see_17 : decode cX12_see 17 = .ok (.iload_n 2, 1) := by decide +kernel
theorem dX12_see_18 : decode cX12_see 18 = .ok (.iconst 0, 1) := by decide +kernel
theorem dX12_see_19 : decode cX12_see 19 = .ok (.bipush 18, 2) := by decide +kernel
theorem dX12_see_21 : decode cX12_see 21 = .ok (.invokestatic 335, 3) := by decide +kernel
theorem dX12_see_24 : decode cX12_see 24 = .ok (.ifCond .ne 5, 3) := by decide +kernel
theorem dX12_see_27 : decode cX12_see 27 = .ok (.iconst (-1), 1) := by decide +kernel
theorem dX12_see_28 : decode cX12_see 28 = .ok (.ireturn, 1) := by decide +kernel
theorem dX12_see_29 : decode cX12_see 29 = .ok (.aload_n 0, 1) := by decide +kernel
theorem dX12_see_30 : decode cX12_see 30 = .ok (.getfield 171, 3) := by decide +kernel
theorem dX12_see_33 : decode cX12_see 33 = .ok (.aload_n 0, 1) := by decide +kernel
theorem dX12_see_34 : decode cX12_see 34 = .ok (.getfield 282, 3) := by decide +kernel
theorem dX12_see_37 : decode cX12_see 37 = .ok (.iload_n 1, 1) := by decide +kernel
theorem dX12_see_38 : decode cX12_see 38 = .ok (.iastore, 1) := by decide +kernel
theorem dX12_see_39 : decode cX12_see 39 = .ok (.aload_n 0, 1) := by decide +kernel
theorem dX12_see_40 : decode cX12_see 40 = .ok (.getfield 174, 3) := by decide +kernel
theorem dX12_see_43 : decode cX12_see 43 = .ok (.aload_n 0, 1) := by decide +kernel
theorem dX12_see_44 : decode cX12_see 44 = .ok (.getfield 282, 3) := by decide +kernel
theorem dX12_see_47 : decode cX12_see 47 = .ok (.iload_n 2, 1) := by decide +kernel
theorem dX12_see_48 : decode cX12_see 48 = .ok (.iastore, 1) := by decide +kernel
theorem dX12_see_49 : decode cX12_see 49 = .ok (.aload_n 0, 1) := by decide +kernel
theorem dX12_see_50 : decode cX12_see 50 = .ok (.dup, 1) := by decide +kernel
theorem dX12_see_51 : decode cX12_see 51 = .ok (.getfield 282, 3) := by decide +kernel
theorem dX12_see_54 : decode cX12_see 54 = .ok (.iconst 1, 1) := by decide +kernel
theorem dX12_see_55 : decode cX12_see 55 = .ok (.iadd, 1) := by decide +kernel
theorem dX12_see_56 : decode cX12_see 56 = .ok (.putfield 282, 3) := by decide +kernel
theorem dX12_see_59 : decode cX12_see 59 = .ok (.aload_n 0, 1) := by decide +kernel
theorem dX12_see_60 : decode cX12_see 60 = .ok (.getfield 282, 3) := by decide +kernel
theorem dX12_see_63 : decode cX12_see 63 = .ok (.iconst 1, 1) := by decide +kernel
theorem dX12_see_64 : decode cX12_see 64 = .ok (.isub, 1) := by decide +kernel
theorem dX12_see_65 : decode cX12_see 65 = .ok (.ireturn, 1) := by decide +kernel
theorem dX12_forget_0 : decode cX12_forget 0 = .ok (.aload_n 0, 1) := by decide +kernel
theorem dX12_forget_1 : decode cX12_forget 1 = .ok (.getfield 282, 3) := by decide +kernel
theorem dX12_forget_4 : decode cX12_forget 4 = .ok (.istore_n 1, 1) := by decide +kernel
theorem dX12_forget_5 : decode cX12_forget 5 = .ok (.aload_n 0, 1) := by decide +kernel
theorem dX12_forget_6 : decode cX12_forget 6 = .ok (.iconst 0, 1) := by decide +kernel
theorem dX12_forget_7 : decode cX12_forget 7 = .ok (.putfield 282, 3) := by decide +kernel
theorem dX12_forget_10 : decode cX12_forget 10 = .ok (.iload_n 1, 1) := by decide +kernel
theorem dX12_forget_11 : decode cX12_forget 11 = .ok (.ireturn, 1) := by decide +kernel
theorem dX12_liesOf_0 : decode cX12_liesOf 0 = .ok (.aload_n 0, 1) := by decide +kernel
theorem dX12_liesOf_1 : decode cX12_liesOf 1 = .ok (.iload_n 1, 1) := by decide +kernel
theorem dX12_liesOf_2 : decode cX12_liesOf 2 = .ok (.invokevirtual 349, 3) := by decide +kernel
theorem dX12_liesOf_5 : decode cX12_liesOf 5 = .ok (.istore_n 2, 1) := by decide +kernel
theorem dX12_liesOf_6 : decode cX12_liesOf 6 = .ok (.iload_n 2, 1) := by decide +kernel
theorem dX12_liesOf_7 : decode cX12_liesOf 7 = .ok (.iload_n 1, 1) := by decide +kernel
theorem dX12_liesOf_8 : decode cX12_liesOf 8 = .ok (.if_icmp .ne 12, 3) := by decide +kernel
theorem dX12_liesOf_11 : decode cX12_liesOf 11 = .ok (.aload_n 0, 1) := by decide +kernel
theorem dX12_liesOf_12 : decode cX12_liesOf 12 = .ok (.getfield 143, 3) := by decide +kernel
theorem dX12_liesOf_15 : decode cX12_liesOf 15 = .ok (.iload_n 1, 1) := by decide +kernel
theorem dX12_liesOf_16 : decode cX12_liesOf 16 = .ok (.iaload, 1) := by decide +kernel
theorem dX12_liesOf_17 : decode cX12_liesOf 17 = .ok (.iconst 2, 1) := by decide +kernel
theorem dX12_liesOf_18 : decode cX12_liesOf 18 = .ok (.irem, 1) := by decide +kernel
theorem dX12_liesOf_19 : decode cX12_liesOf 19 = .ok (.ireturn, 1) := by decide +kernel
theorem dX12_liesOf_20 : decode cX12_liesOf 20 = .ok (.aload_n 0, 1) := by decide +kernel
theorem dX12_liesOf_21 : decode cX12_liesOf 21 = .ok (.getfield 143, 3) := by decide +kernel
theorem dX12_liesOf_24 : decode cX12_liesOf 24 = .ok (.iload_n 1, 1) := by decide +kernel
theorem dX12_liesOf_25 : decode cX12_liesOf 25 = .ok (.iaload, 1) := by decide +kernel
theorem dX12_liesOf_26 : decode cX12_liesOf 26 = .ok (.aload_n 0, 1) := by decide +kernel
theorem dX12_liesOf_27 : decode cX12_liesOf 27 = .ok (.getfield 143, 3) := by decide +kernel
theorem dX12_liesOf_30 : decode cX12_liesOf 30 = .ok (.iload_n 2, 1) := by decide +kernel
theorem dX12_liesOf_31 : decode cX12_liesOf 31 = .ok (.iaload, 1) := by decide +kernel
theorem dX12_liesOf_32 : decode cX12_liesOf 32 = .ok (.if_icmp .le 19, 3) := by decide +kernel
theorem dX12_liesOf_35 : decode cX12_liesOf 35 = .ok (.aload_n 0, 1) := by decide +kernel
theorem dX12_liesOf_36 : decode cX12_liesOf 36 = .ok (.getfield 143, 3) := by decide +kernel
theorem dX12_liesOf_39 : decode cX12_liesOf 39 = .ok (.iload_n 1, 1) := by decide +kernel
theorem dX12_liesOf_40 : decode cX12_liesOf 40 = .ok (.iaload, 1) := by decide +kernel
theorem dX12_liesOf_41 : decode cX12_liesOf 41 = .ok (.aload_n 0, 1) := by decide +kernel
theorem dX12_liesOf_42 : decode cX12_liesOf 42 = .ok (.getfield 143, 3) := by decide +kernel
theorem dX12_liesOf_45 : decode cX12_liesOf 45 = .ok (.iload_n 2, 1) := by decide +kernel
theorem dX12_liesOf_46 : decode cX12_liesOf 46 = .ok (.iaload, 1) := by decide +kernel
theorem dX12_liesOf_47 : decode cX12_liesOf 47 = .ok (.isub, 1) := by decide +kernel
theorem dX12_liesOf_48 : decode cX12_liesOf 48 = .ok (.goto 4, 3) := by decide +kernel
theorem dX12_liesOf_51 : decode cX12_liesOf 51 = .ok (.iconst 0, 1) := by decide +kernel
theorem dX12_liesOf_52 : decode cX12_liesOf 52 = .ok (.ireturn, 1) := by decide +kernel
theorem dX12_fillsRows_0 : decode cX12_fillsRows 0 = .ok (.iconst 0, 1) := by decide +kernel
theorem dX12_fillsRows_1 : decode cX12_fillsRows 1 = .ok (.istore_n 3, 1) := by decide +kernel
theorem dX12_fillsRows_2 : decode cX12_fillsRows 2 = .ok (.iload_n 3, 1) := by decide +kernel
theorem dX12_fillsRows_3 : decode cX12_fillsRows 3 = .ok (.bipush 30, 2) := by decide +kernel
theorem dX12_fillsRows_5 : decode cX12_fillsRows 5 = .ok (.if_icmp .ge 46, 3) := by decide +kernel
theorem dX12_fillsRows_8 : decode cX12_fillsRows 8 = .ok (.aload_n 0, 1) := by decide +kernel
theorem dX12_fillsRows_9 : decode cX12_fillsRows 9 = .ok (.getfield 131, 3) := by decide +kernel
theorem dX12_fillsRows_12 : decode cX12_fillsRows 12 = .ok (.iload_n 3, 1) := by decide +kernel
theorem dX12_fillsRows_13 : decode cX12_fillsRows 13 = .ok (.iload_n 3, 1) := by decide +kernel
theorem dX12_fillsRows_14 : decode cX12_fillsRows 14 = .ok (.aload_n 0, 1) := by decide +kernel
theorem dX12_fillsRows_15 : decode cX12_fillsRows 15 = .ok (.getfield 49, 3) := by decide +kernel
theorem dX12_fillsRows_18 : decode cX12_fillsRows 18 = .ok (.aload_n 0, 1) := by decide +kernel
theorem dX12_fillsRows_19 : decode cX12_fillsRows 19 = .ok (.getfield 264, 3) := by decide +kernel
theorem dX12_fillsRows_22 : decode cX12_fillsRows 22 = .ok (.iaload, 1) := by decide +kernel
theorem dX12_fillsRows_23 : decode cX12_fillsRows 23 = .ok (.if_icmp .ge 20, 3) := by decide +kernel
theorem dX12_fillsRows_26 : decode cX12_fillsRows 26 = .ok (.aload_n 0, 1) := by decide +kernel
theorem dX12_fillsRows_27 : decode cX12_fillsRows 27 = .ok (.getfield 55, 3) := by decide +kernel
theorem dX12_fillsRows_30 : decode cX12_fillsRows 30 = .ok (.bipush 8, 2) := by decide +kernel
theorem dX12_fillsRows_32 : decode cX12_fillsRows 32 = .ok (.aload_n 0, 1) := by decide +kernel
theorem dX12_fillsRows_33 : decode cX12_fillsRows 33 = .ok (.getfield 264, 3) := by decide +kernel
theorem dX12_fillsRows_36 : decode cX12_fillsRows 36 = .ok (.imul, 1) := by decide +kernel
theorem dX12_fillsRows_37 : decode cX12_fillsRows 37 = .ok (.iload_n 3, 1) := by decide +kernel
theorem dX12_fillsRows_38 : decode cX12_fillsRows 38 = .ok (.iadd, 1) := by decide +kernel
theorem dX12_fillsRows_39 : decode cX12_fillsRows 39 = .ok (.iaload, 1) := by decide +kernel
theorem dX12_fillsRows_40 : decode cX12_fillsRows 40 = .ok (.goto 4, 3) := by decide +kernel
theorem dX12_fillsRows_43 : decode cX12_fillsRows 43 = .ok (.iconst 0, 1) := by decide +kernel
theorem dX12_fillsRows_44 : decode cX12_fillsRows 44 = .ok (.iastore, 1) := by decide +kernel
theorem dX12_fillsRows_45 : decode cX12_fillsRows 45 = .ok (.iinc 3 1, 3) := by decide +kernel
theorem dX12_fillsRows_48 : decode cX12_fillsRows 48 = .ok (.goto (-46), 3) := by decide +kernel
theorem dX12_fillsRows_51 : decode cX12_fillsRows 51 = .ok (.aload_n 0, 1) := by decide +kernel
theorem dX12_fillsRows_52 : decode cX12_fillsRows 52 = .ok (.invokevirtual 376, 3) := by decide +kernel
theorem dX12_fillsRows_55 : decode cX12_fillsRows 55 = .ok (.iconst 0, 1) := by decide +kernel
theorem dX12_fillsRows_56 : decode cX12_fillsRows 56 = .ok (.istore_n 3, 1) := by decide +kernel
theorem dX12_fillsRows_57 : decode cX12_fillsRows 57 = .ok (.iconst 0, 1) := by decide +kernel
theorem dX12_fillsRows_58 : decode cX12_fillsRows 58 = .ok (.istore 4, 2) := by decide +kernel
theorem dX12_fillsRows_60 : decode cX12_fillsRows 60 = .ok (.iload 4, 2) := by decide +kernel
theorem dX12_fillsRows_62 : decode cX12_fillsRows 62 = .ok (.aload_n 0, 1) := by decide +kernel
theorem dX12_fillsRows_63 : decode cX12_fillsRows 63 = .ok (.getfield 137, 3) := by decide +kernel
theorem dX12_fillsRows_66 : decode cX12_fillsRows 66 = .ok (.bipush 8, 2) := by decide +kernel
theorem dX12_fillsRows_68 : decode cX12_fillsRows 68 = .ok (.iaload, 1) := by decide +kernel
theorem dX12_fillsRows_69 : decode cX12_fillsRows 69 = .ok (.if_icmp .ge 175, 3) := by decide +kernel
theorem dX12_fillsRows_72 : decode cX12_fillsRows 72 = .ok (.aload_n 0, 1) := by decide +kernel
theorem dX12_fillsRows_73 : decode cX12_fillsRows 73 = .ok (.iload 4, 2) := by decide +kernel
theorem dX12_fillsRows_75 : decode cX12_fillsRows 75 = .ok (.invokevirtual 379, 3) := by decide +kernel
theorem dX12_fillsRows_78 : decode cX12_fillsRows 78 = .ok (.aload_n 0, 1) := by decide +kernel
theorem dX12_fillsRows_79 : decode cX12_fillsRows 79 = .ok (.invokevirtual 397, 3) := by decide +kernel
theorem dX12_fillsRows_82 : decode cX12_fillsRows 82 = .ok (.iload_n 2, 1) := by decide +kernel
theorem dX12_fillsRows_83 : decode cX12_fillsRows 83 = .ok (.if_icmp .ne 7, 3) := by decide +kernel
theorem dX12_fillsRows_86 : decode cX12_fillsRows 86 = .ok (.iconst 1, 1) := by decide +kernel
theorem dX12_fillsRows_87 : decode cX12_fillsRows 87 = .ok (.goto 4, 3) := by decide +kernel
theorem dX12_fillsRows_90 : decode cX12_fillsRows 90 = .ok (.iconst 0, 1) := by decide +kernel
theorem dX12_fillsRows_91 : decode cX12_fillsRows 91 = .ok (.istore 5, 2) := by decide +kernel
theorem dX12_fillsRows_93 : decode cX12_fillsRows 93 = .ok (.iconst 0, 1) := by decide +kernel
theorem dX12_fillsRows_94 : decode cX12_fillsRows 94 = .ok (.istore 6, 2) := by decide +kernel
theorem dX12_fillsRows_96 : decode cX12_fillsRows 96 = .ok (.iload 6, 2) := by decide +kernel
theorem dX12_fillsRows_98 : decode cX12_fillsRows 98 = .ok (.iload_n 1, 1) := by decide +kernel
theorem dX12_fillsRows_99 : decode cX12_fillsRows 99 = .ok (.if_icmp .ge 42, 3) := by decide +kernel
theorem dX12_fillsRows_102 : decode cX12_fillsRows 102 = .ok (.iload 5, 2) := by decide +kernel
theorem dX12_fillsRows_104 : decode cX12_fillsRows 104 = .ok (.ifCond .eq 37, 3) := by decide +kernel
theorem dX12_fillsRows_107 : decode cX12_fillsRows 107 = .ok (.aload_n 0, 1) := by decide +kernel
theorem dX12_fillsRows_108 : decode cX12_fillsRows 108 = .ok (.aload_n 0, 1) := by decide +kernel
theorem dX12_fillsRows_109 : decode cX12_fillsRows 109 = .ok (.getfield 171, 3) := by decide +kernel
theorem dX12_fillsRows_112 : decode cX12_fillsRows 112 = .ok (.iload 6, 2) := by decide +kernel
theorem dX12_fillsRows_114 : decode cX12_fillsRows 114 = .ok (.iaload, 1) := by decide +kernel
theorem dX12_fillsRows_115 : decode cX12_fillsRows 115 = .ok (.invokevirtual 434, 3) := by decide +kernel
theorem dX12_fillsRows_118 : decode cX12_fillsRows 118 = .ok (.aload_n 0, 1) := by decide +kernel
theorem dX12_fillsRows_119 : decode cX12_fillsRows 119 = .ok (.getfield 174, 3) := by decide +kernel
theorem dX12_fillsRows_122 : decode cX12_fillsRows 122 = .ok (.iload 6, 2) := by decide +kernel
theorem dX12_fillsRows_124 : decode cX12_fillsRows 124 = .ok (.iaload, 1) := by decide +kernel
theorem dX12_fillsRows_125 : decode cX12_fillsRows 125 = .ok (.if_icmp .ne 7, 3) := by decide +kernel
theorem dX12_fillsRows_128 : decode cX12_fillsRows 128 = .ok (.iconst 1, 1) := by decide +kernel
theorem dX12_fillsRows_129 : decode cX12_fillsRows 129 = .ok (.goto 4, 3) := by decide +kernel
theorem dX12_fillsRows_132 : decode cX12_fillsRows 132 = .ok (.iconst 0, 1) := by decide +kernel
theorem dX12_fillsRows_133 : decode cX12_fillsRows 133 = .ok (.istore 5, 2) := by decide +kernel
theorem dX12_fillsRows_135 : decode cX12_fillsRows 135 = .ok (.iinc 6 1, 3) := by decide +kernel
theorem dX12_fillsRows_138 : decode cX12_fillsRows 138 = .ok (.goto (-42), 3) := by decide +kernel
theorem dX12_fillsRows_141 : decode cX12_fillsRows 141 = .ok (.iload 5, 2) := by decide +kernel
theorem dX12_fillsRows_143 : decode cX12_fillsRows 143 = .ok (.ifCond .ne 6, 3) := by decide +kernel
theorem dX12_fillsRows_146 : decode cX12_fillsRows 146 = .ok (.goto 92, 3) := by decide +kernel
theorem dX12_fillsRows_149 : decode cX12_fillsRows 149 = .ok (.iconst 0, 1) := by decide +kernel
theorem dX12_fillsRows_150 : decode cX12_fillsRows 150 = .ok (.istore 6, 2) := by decide +kernel
theorem dX12_fillsRows_152 : decode cX12_fillsRows 152 = .ok (.iload 6, 2) := by decide +kernel
theorem dX12_fillsRows_154 : decode cX12_fillsRows 154 = .ok (.bipush 8, 2) := by decide +kernel
theorem dX12_fillsRows_156 : decode cX12_fillsRows 156 = .ok (.if_icmp .ge 79, 3) := by decide +kernel
theorem dX12_fillsRows_159 : decode cX12_fillsRows 159 = .ok (.iload_n 3, 1) := by decide +kernel
theorem dX12_fillsRows_160 : decode cX12_fillsRows 160 = .ok (.ifCond .eq 20, 3) := by decide +kernel
theorem dX12_fillsRows_163 : decode cX12_fillsRows 163 = .ok (.aload_n 0, 1) := by decide +kernel
theorem dX12_fillsRows_164 : decode cX12_fillsRows 164 = .ok (.getfield 143, 3) := by decide +kernel
theorem dX12_fillsRows_167 : decode cX12_fillsRows 167 = .ok (.iload 6, 2) := by decide +kernel
theorem dX12_fillsRows_169 : decode cX12_fillsRows 169 = .ok (.iaload, 1) := by decide +kernel
theorem dX12_fillsRows_170 : decode cX12_fillsRows 170 = .ok (.aload_n 0, 1) := by decide +kernel
theorem dX12_fillsRows_171 : decode cX12_fillsRows 171 = .ok (.getfield 177, 3) := by decide +kernel
theorem dX12_fillsRows_174 : decode cX12_fillsRows 174 = .ok (.iload 6, 2) := by decide +kernel
theorem dX12_fillsRows_176 : decode cX12_fillsRows 176 = .ok (.iaload, 1) := by decide +kernel
theorem dX12_fillsRows_177 : decode cX12_fillsRows 177 = .ok (.if_icmp .ge 17, 3) := by decide +kernel
theorem dX12_fillsRows_180 : decode cX12_fillsRows 180 = .ok (.aload_n 0, 1) := by decide +kernel
theorem dX12_fillsRows_181 : decode cX12_fillsRows 181 = .ok (.getfield 177, 3) := by decide +kernel
theorem dX12_fillsRows_184 : decode cX12_fillsRows 184 = .ok (.iload 6, 2) := by decide +kernel
theorem dX12_fillsRows_186 : decode cX12_fillsRows 186 = .ok (.aload_n 0, 1) := by decide +kernel
theorem dX12_fillsRows_187 : decode cX12_fillsRows 187 = .ok (.getfield 143, 3) := by decide +kernel
theorem dX12_fillsRows_190 : decode cX12_fillsRows 190 = .ok (.iload 6, 2) := by decide +kernel
theorem dX12_fillsRows_192 : decode cX12_fillsRows 192 = .ok (.iaload, 1) := by decide +kernel
theorem dX12_fillsRows_193 : decode cX12_fillsRows 193 = .ok (.iastore, 1) := by decide +kernel
theorem dX12_fillsRows_194 : decode cX12_fillsRows 194 = .ok (.iload_n 3, 1) := by decide +kernel
theorem dX12_fillsRows_195 : decode cX12_fillsRows 195 = .ok (.ifCond .eq 20, 3) := by decide +kernel
theorem dX12_fillsRows_198 : decode cX12_fillsRows 198 = .ok (.aload_n 0, 1) := by decide +kernel
theorem dX12_fillsRows_199 : decode cX12_fillsRows 199 = .ok (.getfield 143, 3) := by decide +kernel
theorem dX12_fillsRows_202 : decode cX12_fillsRows 202 = .ok (.iload 6, 2) := by decide +kernel
theorem dX12_fillsRows_204 : decode cX12_fillsRows 204 = .ok (.iaload, 1) := by decide +kernel
theorem dX12_fillsRows_205 : decode cX12_fillsRows 205 = .ok (.aload_n 0, 1) := by decide +kernel
theorem dX12_fillsRows_206 : decode cX12_fillsRows 206 = .ok (.getfield 180, 3) := by decide +kernel
theorem dX12_fillsRows_209 : decode cX12_fillsRows 209 = .ok (.iload 6, 2) := by decide +kernel
theorem dX12_fillsRows_211 : decode cX12_fillsRows 211 = .ok (.iaload, 1) := by decide +kernel
theorem dX12_fillsRows_212 : decode cX12_fillsRows 212 = .ok (.if_icmp .le 17, 3) := by decide +kernel
theorem dX12_fillsRows_215 : decode cX12_fillsRows 215 = .ok (.aload_n 0, 1) := by decide +kernel
theorem dX12_fillsRows_216 : decode cX12_fillsRows 216 = .ok (.getfield 180, 3) := by decide +kernel
theorem dX12_fillsRows_219 : decode cX12_fillsRows 219 = .ok (.iload 6, 2) := by decide +kernel
theorem dX12_fillsRows_221 : decode cX12_fillsRows 221 = .ok (.aload_n 0, 1) := by decide +kernel
theorem dX12_fillsRows_222 : decode cX12_fillsRows 222 = .ok (.getfield 143, 3) := by decide +kernel
theorem dX12_fillsRows_225 : decode cX12_fillsRows 225 = .ok (.iload 6, 2) := by decide +kernel
theorem dX12_fillsRows_227 : decode cX12_fillsRows 227 = .ok (.iaload, 1) := by decide +kernel
theorem dX12_fillsRows_228 : decode cX12_fillsRows 228 = .ok (.iastore, 1) := by decide +kernel
theorem dX12_fillsRows_229 : decode cX12_fillsRows 229 = .ok (.iinc 6 1, 3) := by decide +kernel
theorem dX12_fillsRows_232 : decode cX12_fillsRows 232 = .ok (.goto (-80), 3) := by decide +kernel
theorem dX12_fillsRows_235 : decode cX12_fillsRows 235 = .ok (.iinc 3 1, 3) := by decide +kernel
theorem dX12_fillsRows_238 : decode cX12_fillsRows 238 = .ok (.iinc 4 1, 3) := by decide +kernel
theorem dX12_fillsRows_241 : decode cX12_fillsRows 241 = .ok (.goto (-181), 3) := by decide +kernel
theorem dX12_fillsRows_244 : decode cX12_fillsRows 244 = .ok (.iload_n 3, 1) := by decide +kernel
theorem dX12_fillsRows_245 : decode cX12_fillsRows 245 = .ok (.ireturn, 1) := by decide +kernel
theorem dX12_rows_0 : decode cX12_rows 0 = .ok (.iload_n 1, 1) := by decide +kernel
theorem dX12_rows_1 : decode cX12_rows 1 = .ok (.iconst 0, 1) := by decide +kernel
theorem dX12_rows_2 : decode cX12_rows 2 = .ok (.aload_n 0, 1) := by decide +kernel
theorem dX12_rows_3 : decode cX12_rows 3 = .ok (.getfield 282, 3) := by decide +kernel
theorem dX12_rows_6 : decode cX12_rows 6 = .ok (.invokestatic 335, 3) := by decide +kernel
theorem dX12_rows_9 : decode cX12_rows 9 = .ok (.ifCond .eq 23, 3) := by decide +kernel
theorem dX12_rows_12 : decode cX12_rows 12 = .ok (.iload_n 2, 1) := by decide +kernel
theorem dX12_rows_13 : decode cX12_rows 13 = .ok (.iconst 0, 1) := by decide +kernel
theorem dX12_rows_14 : decode cX12_rows 14 = .ok (.bipush 18, 2) := by decide +kernel
theorem dX12_rows_16 : decode cX12_rows 16 = .ok (.invokestatic 335, 3) := by decide +kernel
theorem dX12_rows_19 : decode cX12_rows 19 = .ok (.ifCond .eq 13, 3) := by decide +kernel
theorem dX12_rows_22 : decode cX12_rows 22 = .ok (.aload_n 0, 1) := by decide +kernel
theorem dX12_rows_23 : decode cX12_rows 23 = .ok (.iload_n 1, 1) := by decide +kernel
theorem dX12_rows_24 : decode cX12_rows 24 = .ok (.iload_n 2, 1) := by decide +kernel
theorem dX12_rows_25 : decode cX12_rows 25 = .ok (.invokevirtual 437, 3) := by decide +kernel
theorem dX12_rows_28 : decode cX12_rows 28 = .ok (.i2l, 1) := by decide +kernel
theorem dX12_rows_29 : decode cX12_rows 29 = .ok (.goto 6, 3) := by decide +kernel
theorem dX12_rows_32 : decode cX12_rows 32 = .ok (.ldc2_w 392, 3) := by decide +kernel
theorem dX12_rows_35 : decode cX12_rows 35 = .ok (.lreturn, 1) := by decide +kernel
theorem dX12_span_0 : decode cX12_span 0 = .ok (.iload_n 1, 1) := by decide +kernel
theorem dX12_span_1 : decode cX12_span 1 = .ok (.iconst 0, 1) := by decide +kernel
theorem dX12_span_2 : decode cX12_span 2 = .ok (.aload_n 0, 1) := by decide +kernel
theorem dX12_span_3 : decode cX12_span 3 = .ok (.getfield 282, 3) := by decide +kernel
theorem dX12_span_6 : decode cX12_span 6 = .ok (.invokestatic 335, 3) := by decide +kernel
theorem dX12_span_9 : decode cX12_span 9 = .ok (.ifCond .eq 21, 3) := by decide +kernel
theorem dX12_span_12 : decode cX12_span 12 = .ok (.iload_n 2, 1) := by decide +kernel
theorem dX12_span_13 : decode cX12_span 13 = .ok (.iconst 0, 1) := by decide +kernel
theorem dX12_span_14 : decode cX12_span 14 = .ok (.bipush 18, 2) := by decide +kernel
theorem dX12_span_16 : decode cX12_span 16 = .ok (.invokestatic 335, 3) := by decide +kernel
theorem dX12_span_19 : decode cX12_span 19 = .ok (.ifCond .eq 11, 3) := by decide +kernel
theorem dX12_span_22 : decode cX12_span 22 = .ok (.aload_n 0, 1) := by decide +kernel
theorem dX12_span_23 : decode cX12_span 23 = .ok (.iload_n 3, 1) := by decide +kernel
theorem dX12_span_24 : decode cX12_span 24 = .ok (.invokevirtual 361, 3) := by decide +kernel
theorem dX12_span_27 : decode cX12_span 27 = .ok (.ifCond .ne 5, 3) := by decide +kernel
theorem dX12_span_30 : decode cX12_span 30 = .ok (.iconst (-1), 1) := by decide +kernel
theorem dX12_span_31 : decode cX12_span 31 = .ok (.ireturn, 1) := by decide +kernel
theorem dX12_span_32 : decode cX12_span 32 = .ok (.aload_n 0, 1) := by decide +kernel
theorem dX12_span_33 : decode cX12_span 33 = .ok (.iload_n 1, 1) := by decide +kernel
theorem dX12_span_34 : decode cX12_span 34 = .ok (.iload_n 2, 1) := by decide +kernel
theorem dX12_span_35 : decode cX12_span 35 = .ok (.invokevirtual 437, 3) := by decide +kernel
theorem dX12_span_38 : decode cX12_span 38 = .ok (.ifCond .ne 8, 3) := by decide +kernel
theorem dX12_span_41 : decode cX12_span 41 = .ok (.bipush (-2), 2) := by decide +kernel
theorem dX12_span_43 : decode cX12_span 43 = .ok (.goto 19, 3) := by decide +kernel
theorem dX12_span_46 : decode cX12_span 46 = .ok (.bipush 100, 2) := by decide +kernel
theorem dX12_span_48 : decode cX12_span 48 = .ok (.aload_n 0, 1) := by decide +kernel
theorem dX12_span_49 : decode cX12_span 49 = .ok (.getfield 177, 3) := by decide +kernel
theorem dX12_span_52 : decode cX12_span 52 = .ok (.iload_n 3, 1) := by decide +kernel
theorem dX12_span_53 : decode cX12_span 53 = .ok (.iaload, 1) := by decide +kernel
theorem dX12_span_54 : decode cX12_span 54 = .ok (.imul, 1) := by decide +kernel
theorem dX12_span_55 : decode cX12_span 55 = .ok (.aload_n 0, 1) := by decide +kernel
theorem dX12_span_56 : decode cX12_span 56 = .ok (.getfield 180, 3) := by decide +kernel
theorem dX12_span_59 : decode cX12_span 59 = .ok (.iload_n 3, 1) := by decide +kernel
theorem dX12_span_60 : decode cX12_span 60 = .ok (.iaload, 1) := by decide +kernel
theorem dX12_span_61 : decode cX12_span 61 = .ok (.iadd, 1) := by decide +kernel
theorem dX12_span_62 : decode cX12_span 62 = .ok (.ireturn, 1) := by decide +kernel
theorem dX12_hold_0 : decode cX12_hold 0 = .ok (.iload_n 1, 1) := by decide +kernel
theorem dX12_hold_1 : decode cX12_hold 1 = .ok (.iconst 0, 1) := by decide +kernel
theorem dX12_hold_2 : decode cX12_hold 2 = .ok (.iconst 2, 1) := by decide +kernel
theorem dX12_hold_3 : decode cX12_hold 3 = .ok (.invokestatic 335, 3) := by decide +kernel
theorem dX12_hold_6 : decode cX12_hold 6 = .ok (.ifCond .ne 5, 3) := by decide +kernel
theorem dX12_hold_9 : decode cX12_hold 9 = .ok (.iconst 0, 1) := by decide +kernel
theorem dX12_hold_10 : decode cX12_hold 10 = .ok (.ireturn, 1) := by decide +kernel
theorem dX12_hold_11 : decode cX12_hold 11 = .ok (.aload_n 0, 1) := by decide +kernel
theorem dX12_hold_12 : decode cX12_hold 12 = .ok (.getfield 183, 3) := by decide +kernel
theorem dX12_hold_15 : decode cX12_hold 15 = .ok (.iload_n 1, 1) := by decide +kernel
theorem dX12_hold_16 : decode cX12_hold 16 = .ok (.iconst 1, 1) := by decide +kernel
theorem dX12_hold_17 : decode cX12_hold 17 = .ok (.bastore, 1) := by decide +kernel
theorem dX12_hold_18 : decode cX12_hold 18 = .ok (.iconst 0, 1) := by decide +kernel
theorem dX12_hold_19 : decode cX12_hold 19 = .ok (.istore_n 2, 1) := by decide +kernel
theorem dX12_hold_20 : decode cX12_hold 20 = .ok (.iload_n 2, 1) := by decide +kernel
theorem dX12_hold_21 : decode cX12_hold 21 = .ok (.bipush 30, 2) := by decide +kernel
theorem dX12_hold_23 : decode cX12_hold 23 = .ok (.if_icmp .ge 26, 3) := by decide +kernel
theorem dX12_hold_26 : decode cX12_hold 26 = .ok (.aload_n 0, 1) := by decide +kernel
theorem dX12_hold_27 : decode cX12_hold 27 = .ok (.getfield 186, 3) := by decide +kernel
theorem dX12_hold_30 : decode cX12_hold 30 = .ok (.bipush 30, 2) := by decide +kernel
theorem dX12_hold_32 : decode cX12_hold 32 = .ok (.iload_n 1, 1) := by decide +kernel
theorem dX12_hold_33 : decode cX12_hold 33 = .ok (.imul, 1) := by decide +kernel
theorem dX12_hold_34 : decode cX12_hold 34 = .ok (.iload_n 2, 1) := by decide +kernel
theorem dX12_hold_35 : decode cX12_hold 35 = .ok (.iadd, 1) := by decide +kernel
theorem dX12_hold_36 : decode cX12_hold 36 = .ok (.aload_n 0, 1) := by decide +kernel
theorem dX12_hold_37 : decode cX12_hold 37 = .ok (.getfield 128, 3) := by decide +kernel
theorem dX12_hold_40 : decode cX12_hold 40 = .ok (.iload_n 2, 1) := by decide +kernel
theorem dX12_hold_41 : decode cX12_hold 41 = .ok (.iaload, 1) := by decide +kernel
theorem dX12_hold_42 : decode cX12_hold 42 = .ok (.iastore, 1) := by decide +kernel
theorem dX12_hold_43 : decode cX12_hold 43 = .ok (.iinc 2 1, 3) := by decide +kernel
theorem dX12_hold_46 : decode cX12_hold 46 = .ok (.goto (-26), 3) := by decide +kernel
theorem dX12_hold_49 : decode cX12_hold 49 = .ok (.iconst 1, 1) := by decide +kernel
theorem dX12_hold_50 : decode cX12_hold 50 = .ok (.ireturn, 1) := by decide +kernel
theorem dX12_restore_0 : decode cX12_restore 0 = .ok (.iload_n 1, 1) := by decide +kernel
theorem dX12_restore_1 : decode cX12_restore 1 = .ok (.iconst 0, 1) := by decide +kernel
theorem dX12_restore_2 : decode cX12_restore 2 = .ok (.iconst 2, 1) := by decide +kernel
theorem dX12_restore_3 : decode cX12_restore 3 = .ok (.invokestatic 335, 3) := by decide +kernel
theorem dX12_restore_6 : decode cX12_restore 6 = .ok (.ifCond .eq 12, 3) := by decide +kernel
theorem dX12_restore_9 : decode cX12_restore 9 = .ok (.aload_n 0, 1) := by decide +kernel
theorem dX12_restore_10 : decode cX12_restore 10 = .ok (.getfield 183, 3) := by decide +kernel
theorem dX12_restore_13 : decode cX12_restore 13 = .ok (.iload_n 1, 1) := by decide +kernel
theorem dX12_restore_14 : decode cX12_restore 14 = .ok (.baload, 1) := by decide +kernel
theorem dX12_restore_15 : decode cX12_restore 15 = .ok (.ifCond .ne 5, 3) := by decide +kernel
theorem dX12_restore_18 : decode cX12_restore 18 = .ok (.iconst 0, 1) := by decide +kernel
theorem dX12_restore_19 : decode cX12_restore 19 = .ok (.ireturn, 1) := by decide +kernel
theorem dX12_restore_20 : decode cX12_restore 20 = .ok (.iconst 0, 1) := by decide +kernel
theorem dX12_restore_21 : decode cX12_restore 21 = .ok (.istore_n 2, 1) := by decide +kernel
theorem dX12_restore_22 : decode cX12_restore 22 = .ok (.iload_n 2, 1) := by decide +kernel
theorem dX12_restore_23 : decode cX12_restore 23 = .ok (.bipush 30, 2) := by decide +kernel
theorem dX12_restore_25 : decode cX12_restore 25 = .ok (.if_icmp .ge 26, 3) := by decide +kernel
theorem dX12_restore_28 : decode cX12_restore 28 = .ok (.aload_n 0, 1) := by decide +kernel
theorem dX12_restore_29 : decode cX12_restore 29 = .ok (.getfield 128, 3) := by decide +kernel
theorem dX12_restore_32 : decode cX12_restore 32 = .ok (.iload_n 2, 1) := by decide +kernel
theorem dX12_restore_33 : decode cX12_restore 33 = .ok (.aload_n 0, 1) := by decide +kernel
theorem dX12_restore_34 : decode cX12_restore 34 = .ok (.getfield 186, 3) := by decide +kernel
theorem dX12_restore_37 : decode cX12_restore 37 = .ok (.bipush 30, 2) := by decide +kernel
theorem dX12_restore_39 : decode cX12_restore 39 = .ok (.iload_n 1, 1) := by decide +kernel
theorem dX12_restore_40 : decode cX12_restore 40 = .ok (.imul, 1) := by decide +kernel
theorem dX12_restore_41 : decode cX12_restore 41 = .ok (.iload_n 2, 1) := by decide +kernel
theorem dX12_restore_42 : decode cX12_restore 42 = .ok (.iadd, 1) := by decide +kernel
theorem dX12_restore_43 : decode cX12_restore 43 = .ok (.iaload, 1) := by decide +kernel
theorem dX12_restore_44 : decode cX12_restore 44 = .ok (.iastore, 1) := by decide +kernel
theorem dX12_restore_45 : decode cX12_restore 45 = .ok (.iinc 2 1, 3) := by decide +kernel
theorem dX12_restore_48 : decode cX12_restore 48 = .ok (.goto (-26), 3) := by decide +kernel
theorem dX12_restore_51 : decode cX12_restore 51 = .ok (.aload_n 0, 1) := by decide +kernel
theorem dX12_restore_52 : decode cX12_restore 52 = .ok (.iconst 0, 1) := by decide +kernel
theorem dX12_restore_53 : decode cX12_restore 53 = .ok (.putfield 279, 3) := by decide +kernel
theorem dX12_restore_56 : decode cX12_restore 56 = .ok (.iconst 1, 1) := by decide +kernel
theorem dX12_restore_57 : decode cX12_restore 57 = .ok (.ireturn, 1) := by decide +kernel
theorem dX12_rolledAll_0 : decode cX12_rolledAll 0 = .ok (.iconst 0, 1) := by decide +kernel
theorem dX12_rolledAll_1 : decode cX12_rolledAll 1 = .ok (.istore_n 1, 1) := by decide +kernel
theorem dX12_rolledAll_2 : decode cX12_rolledAll 2 = .ok (.iconst 0, 1) := by decide +kernel
theorem dX12_rolledAll_3 : decode cX12_rolledAll 3 = .ok (.istore_n 2, 1) := by decide +kernel
theorem dX12_rolledAll_4 : decode cX12_rolledAll 4 = .ok (.iload_n 2, 1) := by decide +kernel
theorem dX12_rolledAll_5 : decode cX12_rolledAll 5 = .ok (.aload_n 0, 1) := by decide +kernel
theorem dX12_rolledAll_6 : decode cX12_rolledAll 6 = .ok (.getfield 49, 3) := by decide +kernel
theorem dX12_rolledAll_9 : decode cX12_rolledAll 9 = .ok (.aload_n 0, 1) := by decide +kernel
theorem dX12_rolledAll_10 : decode cX12_rolledAll 10 = .ok (.getfield 264, 3) := by decide +kernel
theorem dX12_rolledAll_13 : decode cX12_rolledAll 13 = .ok (.iaload, 1) := by decide +kernel
theorem dX12_rolledAll_14 : decode cX12_rolledAll 14 = .ok (.if_icmp .ge 30, 3) := by decide +kernel
theorem dX12_rolledAll_17 : decode cX12_rolledAll 17 = .ok (.aload_n 0, 1) := by decide +kernel
theorem dX12_rolledAll_18 : decode cX12_rolledAll 18 = .ok (.iload_n 2, 1) := by decide +kernel
theorem dX12_rolledAll_19 : decode cX12_rolledAll 19 = .ok (.invokevirtual 349, 3) := by decide +kernel
theorem dX12_rolledAll_22 : decode cX12_rolledAll 22 = .ok (.iload_n 2, 1) := by decide +kernel
theorem dX12_rolledAll_23 : decode cX12_rolledAll 23 = .ok (.if_icmp .lt 15, 3) := by decide +kernel
theorem dX12_rolledAll_26 : decode cX12_rolledAll 26 = .ok (.iload_n 1, 1) := by decide +kernel
theorem dX12_rolledAll_27 : decode cX12_rolledAll 27 = .ok (.aload_n 0, 1) := by decide +kernel
theorem dX12_rolledAll_28 : decode cX12_rolledAll 28 = .ok (.getfield 128, 3) := by decide +kernel
theorem dX12_rolledAll_31 : decode cX12_rolledAll 31 = .ok (.bipush 16, 2) := by decide +kernel
theorem dX12_rolledAll_33 : decode cX12_rolledAll 33 = .ok (.iload_n 2, 1) := by decide +kernel
theorem dX12_rolledAll_34 : decode cX12_rolledAll 34 = .ok (.iadd, 1) := by decide +kernel
theorem dX12_rolledAll_35 : decode cX12_rolledAll 35 = .ok (.iaload, 1) := by decide +kernel
theorem dX12_rolledAll_36 : decode cX12_rolledAll 36 = .ok (.iadd, 1) := by decide +kernel
theorem dX12_rolledAll_37 : decode cX12_rolledAll 37 = .ok (.istore_n 1, 1) := by decide +kernel
theorem dX12_rolledAll_38 : decode cX12_rolledAll 38 = .ok (.iinc 2 1, 3) := by decide +kernel
theorem dX12_rolledAll_41 : decode cX12_rolledAll 41 = .ok (.goto (-37), 3) := by decide +kernel
theorem dX12_rolledAll_44 : decode cX12_rolledAll 44 = .ok (.iload_n 1, 1) := by decide +kernel
theorem dX12_rolledAll_45 : decode cX12_rolledAll 45 = .ok (.ireturn, 1) := by decide +kernel
theorem dX12_count_0 : decode cX12_count 0 = .ok (.aload_n 0, 1) := by decide +kernel
theorem dX12_count_1 : decode cX12_count 1 = .ok (.invokevirtual 364, 3) := by decide +kernel
theorem dX12_count_4 : decode cX12_count 4 = .ok (.iload_n 1, 1) := by decide +kernel
theorem dX12_count_5 : decode cX12_count 5 = .ok (.tableswitch 231 0 14 #[75, 85, 95, 105, 111, 118, 123, 133, 143, 151, 161, 171, 176, 181, 186], 75) := by decide +kernel
theorem dX12_count_80 : decode cX12_count 80 = .ok (.aload_n 0, 1) := by decide +kernel
theorem dX12_count_81 : decode cX12_count 81 = .ok (.getfield 49, 3) := by decide +kernel
theorem dX12_count_84 : decode cX12_count 84 = .ok (.aload_n 0, 1) := by decide +kernel
theorem dX12_count_85 : decode cX12_count 85 = .ok (.getfield 264, 3) := by decide +kernel
theorem dX12_count_88 : decode cX12_count 88 = .ok (.iaload, 1) := by decide +kernel
theorem dX12_count_89 : decode cX12_count 89 = .ok (.ireturn, 1) := by decide +kernel
theorem dX12_count_90 : decode cX12_count 90 = .ok (.aload_n 0, 1) := by decide +kernel
theorem dX12_count_91 : decode cX12_count 91 = .ok (.getfield 40, 3) := by decide +kernel
theorem dX12_count_94 : decode cX12_count 94 = .ok (.aload_n 0, 1) := by decide +kernel
theorem dX12_count_95 : decode cX12_count 95 = .ok (.getfield 264, 3) := by decide +kernel
theorem dX12_count_98 : decode cX12_count 98 = .ok (.iaload, 1) := by decide +kernel
theorem dX12_count_99 : decode cX12_count 99 = .ok (.ireturn, 1) := by decide +kernel
theorem dX12_count_100 : decode cX12_count 100 = .ok (.aload_n 0, 1) := by decide +kernel
theorem dX12_count_101 : decode cX12_count 101 = .ok (.getfield 61, 3) := by decide +kernel
theorem dX12_count_104 : decode cX12_count 104 = .ok (.aload_n 0, 1) := by decide +kernel
theorem dX12_count_105 : decode cX12_count 105 = .ok (.getfield 264, 3) := by decide +kernel
theorem dX12_count_108 : decode cX12_count 108 = .ok (.iaload, 1) := by decide +kernel
theorem dX12_count_109 : decode cX12_count 109 = .ok (.ireturn, 1) := by decide +kernel
theorem dX12_count_110 : decode cX12_count 110 = .ok (.aload_n 0, 1) := by decide +kernel
theorem dX12_count_111 : decode cX12_count 111 = .ok (.iconst 0, 1) := by decide +kernel
theorem dX12_count_112 : decode cX12_count 112 = .ok (.invokevirtual 352, 3) := by decide +kernel
theorem dX12_count_115 : decode cX12_count 115 = .ok (.ireturn, 1) := by decide +kernel
theorem dX12_count_116 : decode cX12_count 116 = .ok (.aload_n 0, 1) := by decide +kernel
theorem dX12_count_117 : decode cX12_count 117 = .ok (.bipush 8, 2) := by decide +kernel
theorem dX12_count_119 : decode cX12_count 119 = .ok (.invokevirtual 352, 3) := by decide +kernel
theorem dX12_count_122 : decode cX12_count 122 = .ok (.ireturn, 1) := by decide +kernel
theorem dX12_count_123 : decode cX12_count 123 = .ok (.aload_n 0, 1) := by decide +kernel
theorem dX12_count_124 : decode cX12_count 124 = .ok (.invokevirtual 440, 3) := by decide +kernel
theorem dX12_count_127 : decode cX12_count 127 = .ok (.ireturn, 1) := by decide +kernel
theorem dX12_count_128 : decode cX12_count 128 = .ok (.aload_n 0, 1) := by decide +kernel
theorem dX12_count_129 : decode cX12_count 129 = .ok (.getfield 73, 3) := by decide +kernel
theorem dX12_count_132 : decode cX12_count 132 = .ok (.aload_n 0, 1) := by decide +kernel
theorem dX12_count_133 : decode cX12_count 133 = .ok (.getfield 264, 3) := by decide +kernel
theorem dX12_count_136 : decode cX12_count 136 = .ok (.iaload, 1) := by decide +kernel
theorem dX12_count_137 : decode cX12_count 137 = .ok (.ireturn, 1) := by decide +kernel
theorem dX12_count_138 : decode cX12_count 138 = .ok (.aload_n 0, 1) := by decide +kernel
theorem dX12_count_139 : decode cX12_count 139 = .ok (.getfield 76, 3) := by decide +kernel
theorem dX12_count_142 : decode cX12_count 142 = .ok (.aload_n 0, 1) := by decide +kernel
theorem dX12_count_143 : decode cX12_count 143 = .ok (.getfield 264, 3) := by decide +kernel
theorem dX12_count_146 : decode cX12_count 146 = .ok (.iaload, 1) := by decide +kernel
theorem dX12_count_147 : decode cX12_count 147 = .ok (.ireturn, 1) := by decide +kernel
theorem dX12_count_148 : decode cX12_count 148 = .ok (.aload_n 0, 1) := by decide +kernel
theorem dX12_count_149 : decode cX12_count 149 = .ok (.getfield 131, 3) := by decide +kernel
theorem dX12_count_152 : decode cX12_count 152 = .ok (.bipush 24, 2) := by decide +kernel
theorem dX12_count_154 : decode cX12_count 154 = .ok (.iaload, 1) := by decide +kernel
theorem dX12_count_155 : decode cX12_count 155 = .ok (.ireturn, 1) := by decide +kernel
theorem dX12_count_156 : decode cX12_count 156 = .ok (.aload_n 0, 1) := by decide +kernel
theorem dX12_count_157 : decode cX12_count 157 = .ok (.getfield 79, 3) := by decide +kernel
theorem dX12_count_160 : decode cX12_count 160 = .ok (.aload_n 0, 1) := by decide +kernel
theorem dX12_count_161 : decode cX12_count 161 = .ok (.getfield 264, 3) := by decide +kernel
theorem dX12_count_164 : decode cX12_count 164 = .ok (.iaload, 1) := by decide +kernel
theorem dX12_count_165 : decode cX12_count 165 = .ok (.ireturn, 1) := by decide +kernel
theorem dX12_count_166 : decode cX12_count 166 = .ok (.aload_n 0, 1) := by decide +kernel
theorem dX12_count_167 : decode cX12_count 167 = .ok (.getfield 70, 3) := by decide +kernel
theorem dX12_count_170 : decode cX12_count 170 = .ok (.aload_n 0, 1) := by decide +kernel
theorem dX12_count_171 : decode cX12_count 171 = .ok (.getfield 264, 3) := by decide +kernel
theorem dX12_count_174 : decode cX12_count 174 = .ok (.iaload, 1) := by decide +kernel
theorem dX12_count_175 : decode cX12_count 175 = .ok (.ireturn, 1) := by decide +kernel
theorem dX12_count_176 : decode cX12_count 176 = .ok (.aload_n 0, 1) := by decide +kernel
theorem dX12_count_177 : decode cX12_count 177 = .ok (.getfield 197, 3) := by decide +kernel
theorem dX12_count_180 : decode cX12_count 180 = .ok (.ireturn, 1) := by decide +kernel
theorem dX12_count_181 : decode cX12_count 181 = .ok (.aload_n 0, 1) := by decide +kernel
theorem dX12_count_182 : decode cX12_count 182 = .ok (.getfield 279, 3) := by decide +kernel
theorem dX12_count_185 : decode cX12_count 185 = .ok (.ireturn, 1) := by decide +kernel
theorem dX12_count_186 : decode cX12_count 186 = .ok (.aload_n 0, 1) := by decide +kernel
theorem dX12_count_187 : decode cX12_count 187 = .ok (.getfield 282, 3) := by decide +kernel
theorem dX12_count_190 : decode cX12_count 190 = .ok (.ireturn, 1) := by decide +kernel
theorem dX12_count_191 : decode cX12_count 191 = .ok (.aload_n 0, 1) := by decide +kernel
theorem dX12_count_192 : decode cX12_count 192 = .ok (.getfield 183, 3) := by decide +kernel
theorem dX12_count_195 : decode cX12_count 195 = .ok (.iconst 0, 1) := by decide +kernel
theorem dX12_count_196 : decode cX12_count 196 = .ok (.baload, 1) := by decide +kernel
theorem dX12_count_197 : decode cX12_count 197 = .ok (.ifCond .eq 7, 3) := by decide +kernel
theorem dX12_count_200 : decode cX12_count 200 = .ok (.iconst 1, 1) := by decide +kernel
theorem dX12_count_201 : decode cX12_count 201 = .ok (.goto 4, 3) := by decide +kernel
theorem dX12_count_204 : decode cX12_count 204 = .ok (.iconst 0, 1) := by decide +kernel
theorem dX12_count_205 : decode cX12_count 205 = .ok (.aload_n 0, 1) := by decide +kernel
theorem dX12_count_206 : decode cX12_count 206 = .ok (.getfield 183, 3) := by decide +kernel
theorem dX12_count_209 : decode cX12_count 209 = .ok (.iconst 1, 1) := by decide +kernel
theorem dX12_count_210 : decode cX12_count 210 = .ok (.baload, 1) := by decide +kernel
theorem dX12_count_211 : decode cX12_count 211 = .ok (.ifCond .eq 7, 3) := by decide +kernel
theorem dX12_count_214 : decode cX12_count 214 = .ok (.iconst 1, 1) := by decide +kernel
theorem dX12_count_215 : decode cX12_count 215 = .ok (.goto 4, 3) := by decide +kernel
theorem dX12_count_218 : decode cX12_count 218 = .ok (.iconst 0, 1) := by decide +kernel
theorem dX12_count_219 : decode cX12_count 219 = .ok (.iadd, 1) := by decide +kernel
theorem dX12_count_220 : decode cX12_count 220 = .ok (.aload_n 0, 1) := by decide +kernel
theorem dX12_count_221 : decode cX12_count 221 = .ok (.getfield 183, 3) := by decide +kernel
theorem dX12_count_224 : decode cX12_count 224 = .ok (.iconst 2, 1) := by decide +kernel
theorem dX12_count_225 : decode cX12_count 225 = .ok (.baload, 1) := by decide +kernel
theorem dX12_count_226 : decode cX12_count 226 = .ok (.ifCond .eq 7, 3) := by decide +kernel
theorem dX12_count_229 : decode cX12_count 229 = .ok (.iconst 1, 1) := by decide +kernel
theorem dX12_count_230 : decode cX12_count 230 = .ok (.goto 4, 3) := by decide +kernel
theorem dX12_count_233 : decode cX12_count 233 = .ok (.iconst 0, 1) := by decide +kernel
theorem dX12_count_234 : decode cX12_count 234 = .ok (.iadd, 1) := by decide +kernel
theorem dX12_count_235 : decode cX12_count 235 = .ok (.ireturn, 1) := by decide +kernel
theorem dX12_count_236 : decode cX12_count 236 = .ok (.iconst (-1), 1) := by decide +kernel
theorem dX12_count_237 : decode cX12_count 237 = .ok (.ireturn, 1) := by decide +kernel
