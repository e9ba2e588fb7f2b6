theorem dX12_init_0 : decode cX12_init 0 = .ok (.aload_n 0, 1) := by decide +kernel
theorem dX12_init_1 : decode cX12_init 1 = .ok (.invokespecial 7, 3) := by decide +kernel
theorem dX12_init_4 : decode cX12_init 4 = .ok (.aload_n 0, 1) := by decide +kernel
theorem dX12_init_5 : decode cX12_init 5 = .ok (.ldc 13, 2) := by decide +kernel
theorem dX12_init_7 : decode cX12_init 7 = .ok (.newarray .char, 2) := by decide +kernel
theorem dX12_init_9 : decode cX12_init 9 = .ok (.putfield 14, 3) := by decide +kernel
theorem dX12_init_12 : decode cX12_init 12 = .ok (.aload_n 0, 1) := by decide +kernel
theorem dX12_init_13 : decode cX12_init 13 = .ok (.ldc 13, 2) := by decide +kernel
theorem dX12_init_15 : decode cX12_init 15 = .ok (.newarray .char, 2) := by decide +kernel
theorem dX12_init_17 : decode cX12_init 17 = .ok (.putfield 18, 3) := by decide +kernel
theorem dX12_init_20 : decode cX12_init 20 = .ok (.aload_n 0, 1) := by decide +kernel
theorem dX12_init_21 : decode cX12_init 21 = .ok (.sipush 24000, 3) := by decide +kernel
theorem dX12_init_24 : decode cX12_init 24 = .ok (.newarray .int, 2) := by decide +kernel
theorem dX12_init_26 : decode cX12_init 26 = .ok (.putfield 21, 3) := by decide +kernel
theorem dX12_init_29 : decode cX12_init 29 = .ok (.aload_n 0, 1) := by decide +kernel
theorem dX12_init_30 : decode cX12_init 30 = .ok (.sipush 24000, 3) := by decide +kernel
theorem dX12_init_33 : decode cX12_init 33 = .ok (.newarray .int, 2) := by decide +kernel
theorem dX12_init_35 : decode cX12_init 35 = .ok (.putfield 25, 3) := by decide +kernel
theorem dX12_init_38 : decode cX12_init 38 = .ok (.aload_n 0, 1) := by decide +kernel
theorem dX12_init_39 : decode cX12_init 39 = .ok (.sipush 24000, 3) := by decide +kernel
theorem dX12_init_42 : decode cX12_init 42 = .ok (.newarray .int, 2) := by decide +kernel
theorem dX12_init_44 : decode cX12_init 44 = .ok (.putfield 28, 3) := by decide +kernel
theorem dX12_init_47 : decode cX12_init 47 = .ok (.aload_n 0, 1) := by decide +kernel
theorem dX12_init_48 : decode cX12_init 48 = .ok (.sipush 4096, 3) := by decide +kernel
theorem dX12_init_51 : decode cX12_init 51 = .ok (.newarray .int, 2) := by decide +kernel
theorem dX12_init_53 : decode cX12_init 53 = .ok (.putfield 31, 3) := by decide +kernel
theorem dX12_init_56 : decode cX12_init 56 = .ok (.aload_n 0, 1) := by decide +kernel
theorem dX12_init_57 : decode cX12_init 57 = .ok (.ldc 34, 2) := by decide +kernel
theorem dX12_init_59 : decode cX12_init 59 = .ok (.newarray .byte, 2) := by decide +kernel
theorem dX12_init_61 : decode cX12_init 61 = .ok (.putfield 35, 3) := by decide +kernel
theorem dX12_init_64 : decode cX12_init 64 = .ok (.aload_n 0, 1) := by decide +kernel
theorem dX12_init_65 : decode cX12_init 65 = .ok (.ldc 39, 2) := by decide +kernel
theorem dX12_init_67 : decode cX12_init 67 = .ok (.newarray .byte, 2) := by decide +kernel
theorem dX12_init_69 : decode cX12_init 69 = .ok (.putfield 40, 3) := by decide +kernel
theorem dX12_init_72 : decode cX12_init 72 = .ok (.aload_n 0, 1) := by decide +kernel
theorem dX12_init_73 : decode cX12_init 73 = .ok (.ldc 39, 2) := by decide +kernel
theorem dX12_init_75 : decode cX12_init 75 = .ok (.newarray .byte, 2) := by decide +kernel
theorem dX12_init_77 : decode cX12_init 77 = .ok (.putfield 43, 3) := by decide +kernel
theorem dX12_init_80 : decode cX12_init 80 = .ok (.aload_n 0, 1) := by decide +kernel
theorem dX12_init_81 : decode cX12_init 81 = .ok (.ldc 39, 2) := by decide +kernel
theorem dX12_init_83 : decode cX12_init 83 = .ok (.newarray .byte, 2) := by decide +kernel
theorem dX12_init_85 : decode cX12_init 85 = .ok (.putfield 46, 3) := by decide +kernel
theorem dX12_init_88 : decode cX12_init 88 = .ok (.aload_n 0, 1) := by decide +kernel
theorem dX12_init_89 : decode cX12_init 89 = .ok (.iconst (-1), 1) := by decide +kernel
theorem dX12_init_90 : decode cX12_init 90 = .ok (.putfield 49, 3) := by decide +kernel
theorem dX12_init_93 : decode cX12_init 93 = .ok (.aload_n 0, 1) := by decide +kernel
theorem dX12_init_94 : decode cX12_init 94 = .ok (.ldc 52, 2) := by decide +kernel
theorem dX12_init_96 : decode cX12_init 96 = .ok (.newarray .int, 2) := by decide +kernel
theorem dX12_init_98 : decode cX12_init 98 = .ok (.putfield 53, 3) := by decide +kernel
theorem dX12_init_101 : decode cX12_init 101 = .ok (.aload_n 0, 1) := by decide +kernel
theorem dX12_init_102 : decode cX12_init 102 = .ok (.ldc 52, 2) := by decide +kernel
theorem dX12_init_104 : decode cX12_init 104 = .ok (.newarray .int, 2) := by decide +kernel
theorem dX12_init_106 : decode cX12_init 106 = .ok (.putfield 56, 3) := by decide +kernel
theorem dX12_init_109 : decode cX12_init 109 = .ok (.aload_n 0, 1) := by decide +kernel
theorem dX12_init_110 : decode cX12_init 110 = .ok (.iconst 1, 1) := by decide +kernel
theorem dX12_init_111 : decode cX12_init 111 = .ok (.newarray .int, 2) := by decide +kernel
theorem dX12_init_113 : decode cX12_init 113 = .ok (.putfield 59, 3) := by decide +kernel
theorem dX12_init_116 : decode cX12_init 116 = .ok (.aload_n 0, 1) := by decide +kernel
theorem dX12_init_117 : decode cX12_init 117 = .ok (.iconst 1, 1) := by decide +kernel
theorem dX12_init_118 : decode cX12_init 118 = .ok (.newarray .int, 2) := by decide +kernel
theorem dX12_init_120 : decode cX12_init 120 = .ok (.putfield 62, 3) := by decide +kernel
theorem dX12_init_123 : decode cX12_init 123 = .ok (.aload_n 0, 1) := by decide +kernel
theorem dX12_init_124 : decode cX12_init 124 = .ok (.sipush 8300, 3) := by decide +kernel
theorem dX12_init_127 : decode cX12_init 127 = .ok (.newarray .int, 2) := by decide +kernel
theorem dX12_init_129 : decode cX12_init 129 = .ok (.putfield 65, 3) := by decide +kernel
theorem dX12_init_132 : decode cX12_init 132 = .ok (.aload_n 0, 1) := by decide +kernel
theorem dX12_init_133 : decode cX12_init 133 = .ok (.sipush 8300, 3) := by decide +kernel
theorem dX12_init_136 : decode cX12_init 136 = .ok (.newarray .int, 2) := by decide +kernel
theorem dX12_init_138 : decode cX12_init 138 = .ok (.putfield 68, 3) := by decide +kernel
theorem dX12_init_141 : decode cX12_init 141 = .ok (.aload_n 0, 1) := by decide +kernel
theorem dX12_init_142 : decode cX12_init 142 = .ok (.sipush 8300, 3) := by decide +kernel
theorem dX12_init_145 : decode cX12_init 145 = .ok (.newarray .int, 2) := by decide +kernel
theorem dX12_init_147 : decode cX12_init 147 = .ok (.putfield 71, 3) := by decide +kernel
theorem dX12_init_150 : decode cX12_init 150 = .ok (.aload_n 0, 1) := by decide +kernel
theorem dX12_init_151 : decode cX12_init 151 = .ok (.sipush 8300, 3) := by decide +kernel
theorem dX12_init_154 : decode cX12_init 154 = .ok (.newarray .int, 2) := by decide +kernel
theorem dX12_init_156 : decode cX12_init 156 = .ok (.putfield 74, 3) := by decide +kernel
theorem dX12_init_159 : decode cX12_init 159 = .ok (.aload_n 0, 1) := by decide +kernel
theorem dX12_init_160 : decode cX12_init 160 = .ok (.sipush 8300, 3) := by decide +kernel
theorem dX12_init_163 : decode cX12_init 163 = .ok (.newarray .int, 2) := by decide +kernel
theorem dX12_init_165 : decode cX12_init 165 = .ok (.putfield 77, 3) := by decide +kernel
theorem dX12_init_168 : decode cX12_init 168 = .ok (.aload_n 0, 1) := by decide +kernel
theorem dX12_init_169 : decode cX12_init 169 = .ok (.sipush 8300, 3) := by decide +kernel
theorem dX12_init_172 : decode cX12_init 172 = .ok (.newarray .int, 2) := by decide +kernel
theorem dX12_init_174 : decode cX12_init 174 = .ok (.putfield 80, 3) := by decide +kernel
theorem dX12_init_177 : decode cX12_init 177 = .ok (.aload_n 0, 1) := by decide +kernel
theorem dX12_init_178 : decode cX12_init 178 = .ok (.sipush 8300, 3) := by decide +kernel
theorem dX12_init_181 : decode cX12_init 181 = .ok (.newarray .int, 2) := by decide +kernel
theorem dX12_init_183 : decode cX12_init 183 = .ok (.putfield 83, 3) := by decide +kernel
theorem dX12_init_186 : decode cX12_init 186 = .ok (.aload_n 0, 1) := by decide +kernel
theorem dX12_init_187 : decode cX12_init 187 = .ok (.sipush 8300, 3) := by decide +kernel
theorem dX12_init_190 : decode cX12_init 190 = .ok (.newarray .int, 2) := by decide +kernel
theorem dX12_init_192 : decode cX12_init 192 = .ok (.putfield 86, 3) := by decide +kernel
theorem dX12_init_195 : decode cX12_init 195 = .ok (.aload_n 0, 1) := by decide +kernel
theorem dX12_init_196 : decode cX12_init 196 = .ok (.sipush 8300, 3) := by decide +kernel
theorem dX12_init_199 : decode cX12_init 199 = .ok (.newarray .int, 2) := by decide +kernel
theorem dX12_init_201 : decode cX12_init 201 = .ok (.putfield 89, 3) := by decide +kernel
theorem dX12_init_204 : decode cX12_init 204 = .ok (.aload_n 0, 1) := by decide +kernel
theorem dX12_init_205 : decode cX12_init 205 = .ok (.sipush 8300, 3) := by decide +kernel
theorem dX12_init_208 : decode cX12_init 208 = .ok (.newarray .int, 2) := by decide +kernel
theorem dX12_init_210 : decode cX12_init 210 = .ok (.putfield 92, 3) := by decide +kernel
theorem dX12_init_213 : decode cX12_init 213 = .ok (.aload_n 0, 1) := by decide +kernel
theorem dX12_init_214 : decode cX12_init 214 = .ok (.sipush 8300, 3) := by decide +kernel
theorem dX12_init_217 : decode cX12_init 217 = .ok (.newarray .int, 2) := by decide +kernel
theorem dX12_init_219 : decode cX12_init 219 = .ok (.putfield 95, 3) := by decide +kernel
theorem dX12_init_222 : decode cX12_init 222 = .ok (.aload_n 0, 1) := by decide +kernel
theorem dX12_init_223 : decode cX12_init 223 = .ok (.sipush 8300, 3) := by decide +kernel
theorem dX12_init_226 : decode cX12_init 226 = .ok (.newarray .int, 2) := by decide +kernel
theorem dX12_init_228 : decode cX12_init 228 = .ok (.putfield 98, 3) := by decide +kernel
theorem dX12_init_231 : decode cX12_init 231 = .ok (.aload_n 0, 1) := by decide +kernel
theorem dX12_init_232 : decode cX12_init 232 = .ok (.sipush 8300, 3) := by decide +kernel
theorem dX12_init_235 : decode cX12_init 235 = .ok (.newarray .int, 2) := by decide +kernel
theorem dX12_init_237 : decode cX12_init 237 = .ok (.putfield 101, 3) := by decide +kernel
theorem dX12_init_240 : decode cX12_init 240 = .ok (.aload_n 0, 1) := by decide +kernel
theorem dX12_init_241 : decode cX12_init 241 = .ok (.sipush 8300, 3) := by decide +kernel
theorem dX12_init_244 : decode cX12_init 244 = .ok (.newarray .int, 2) := by decide +kernel
theorem dX12_init_246 : decode cX12_init 246 = .ok (.putfield 104, 3) := by decide +kernel
theorem dX12_init_249 : decode cX12_init 249 = .ok (.aload_n 0, 1) := by decide +kernel
theorem dX12_init_250 : decode cX12_init 250 = .ok (.sipush 8300, 3) := by decide +kernel
theorem dX12_init_253 : decode cX12_init 253 = .ok (.newarray .int, 2) := by decide +kernel
theorem dX12_init_255 : decode cX12_init 255 = .ok (.putfield 107, 3) := by decide +kernel
theorem dX12_init_258 : decode cX12_init 258 = .ok (.aload_n 0, 1) := by decide +kernel
theorem dX12_init_259 : decode cX12_init 259 = .ok (.sipush 8300, 3) := by decide +kernel
theorem dX12_init_262 : decode cX12_init 262 = .ok (.newarray .int, 2) := by decide +kernel
theorem dX12_init_264 : decode cX12_init 264 = .ok (.putfield 110, 3) := by decide +kernel
theorem dX12_init_267 : decode cX12_init 267 = .ok (.aload_n 0, 1) := by decide +kernel
theorem dX12_init_268 : decode cX12_init 268 = .ok (.sipush 8300, 3) := by decide +kernel
theorem dX12_init_271 : decode cX12_init 271 = .ok (.newarray .int, 2) := by decide +kernel
theorem dX12_init_273 : decode cX12_init 273 = .ok (.putfield 113, 3) := by decide +kernel
theorem dX12_init_276 : decode cX12_init 276 = .ok (.aload_n 0, 1) := by decide +kernel
theorem dX12_init_277 : decode cX12_init 277 = .ok (.sipush 8300, 3) := by decide +kernel
theorem dX12_init_280 : decode cX12_init 280 = .ok (.newarray .int, 2) := by decide +kernel
theorem dX12_init_282 : decode cX12_init 282 = .ok (.putfield 116, 3) := by decide +kernel
theorem dX12_init_285 : decode cX12_init 285 = .ok (.aload_n 0, 1) := by decide +kernel
theorem dX12_init_286 : decode cX12_init 286 = .ok (.sipush 8300, 3) := by decide +kernel
theorem dX12_init_289 : decode cX12_init 289 = .ok (.newarray .int, 2) := by decide +kernel
theorem dX12_init_291 : decode cX12_init 291 = .ok (.putfield 119, 3) := by decide +kernel
theorem dX12_init_294 : decode cX12_init 294 = .ok (.aload_n 0, 1) := by decide +kernel
theorem dX12_init_295 : decode cX12_init 295 = .ok (.sipush 8300, 3) := by decide +kernel
theorem dX12_init_298 : decode cX12_init 298 = .ok (.newarray .int, 2) := by decide +kernel
theorem dX12_init_300 : decode cX12_init 300 = .ok (.putfield 122, 3) := by decide +kernel
theorem dX12_init_303 : decode cX12_init 303 = .ok (.aload_n 0, 1) := by decide +kernel
theorem dX12_init_304 : decode cX12_init 304 = .ok (.bipush 10, 2) := by decide +kernel
theorem dX12_init_306 : decode cX12_init 306 = .ok (.anewarray 125, 3) := by decide +kernel
theorem dX12_init_309 : decode cX12_init 309 = .ok (.dup, 1) := by decide +kernel
theorem dX12_init_310 : decode cX12_init 310 = .ok (.iconst 0, 1) := by decide +kernel
theorem dX12_init_311 : decode cX12_init 311 = .ok (.ldc 127, 2) := by decide +kernel
theorem dX12_init_313 : decode cX12_init 313 = .ok (.aastore, 1) := by decide +kernel
theorem dX12_init_314 : decode cX12_init 314 = .ok (.dup, 1) := by decide +kernel
theorem dX12_init_315 : decode cX12_init 315 = .ok (.iconst 1, 1) := by decide +kernel
theorem dX12_init_316 : decode cX12_init 316 = .ok (.ldc 129, 2) := by decide +kernel
theorem dX12_init_318 : decode cX12_init 318 = .ok (.aastore, 1) := by decide +kernel
theorem dX12_init_319 : decode cX12_init 319 = .ok (.dup, 1) := by decide +kernel
theorem dX12_init_320 : decode cX12_init 320 = .ok (.iconst 2, 1) := by decide +kernel
theorem dX12_init_321 : decode cX12_init 321 = .ok (.ldc 131, 2) := by decide +kernel
theorem dX12_init_323 : decode cX12_init 323 = .ok (.aastore, 1) := by decide +kernel
theorem dX12_init_324 : decode cX12_init 324 = .ok (.dup, 1) := by decide +kernel
theorem dX12_init_325 : decode cX12_init 325 = .ok (.iconst 3, 1) := by decide +kernel
theorem dX12_init_326 : decode cX12_init 326 = .ok (.ldc 133, 2) := by decide +kernel
theorem dX12_init_328 : decode cX12_init 328 = .ok (.aastore, 1) := by decide +kernel
theorem dX12_init_329 : decode cX12_init 329 = .ok (.dup, 1) := by decide +kernel
theorem dX12_init_330 : decode cX12_init 330 = .ok (.iconst 4, 1) := by decide +kernel
theorem dX12_init_331 : decode cX12_init 331 = .ok (.ldc 135, 2) := by decide +kernel
theorem dX12_init_333 : decode cX12_init 333 = .ok (.aastore, 1) := by decide +kernel
theorem dX12_init_334 : decode cX12_init 334 = .ok (.dup, 1) := by decide +kernel
theorem dX12_init_335 : decode cX12_init 335 = .ok (.iconst 5, 1) := by decide +kernel
theorem dX12_init_336 : decode cX12_init 336 = .ok (.ldc 137, 2) := by decide +kernel
theorem dX12_init_338 : decode cX12_init 338 = .ok (.aastore, 1) := by decide +kernel
theorem dX12_init_339 : decode cX12_init 339 = .ok (.dup, 1) := by decide +kernel
theorem dX12_init_340 : decode cX12_init 340 = .ok (.bipush 6, 2) := by decide +kernel
theorem dX12_init_342 : decode cX12_init 342 = .ok (.ldc 139, 2) := by decide +kernel
theorem dX12_init_344 : decode cX12_init 344 = .ok (.aastore, 1) := by decide +kernel
theorem dX12_init_345 : decode cX12_init 345 = .ok (.dup, 1) := by decide +kernel
theorem dX12_init_346 : decode cX12_init 346 = .ok (.bipush 7, 2) := by decide +kernel
theorem dX12_init_348 : decode cX12_init 348 = .ok (.ldc 141, 2) := by decide +kernel
theorem dX12_init_350 : decode cX12_init 350 = .ok (.aastore, 1) := by decide +kernel
theorem dX12_init_351 : decode cX12_init 351 = .ok (.dup, 1) := by decide +kernel
theorem dX12_init_352 : decode cX12_init 352 = .ok (.bipush 8, 2) := by decide +kernel
theorem dX12_init_354 : decode cX12_init 354 = .ok (.ldc 143, 2) := by decide +kernel
theorem dX12_init_356 : decode cX12_init 356 = .ok (.aastore, 1) := by decide +kernel
theorem dX12_init_357 : decode cX12_init 357 = .ok (.dup, 1) := by decide +kernel
theorem dX12_init_358 : decode cX12_init 358 = .ok (.bipush 9, 2) := by decide +kernel
theorem dX12_init_360 : decode cX12_init 360 = .ok (.ldc 145, 2) := by decide +kernel
theorem dX12_init_362 : decode cX12_init 362 = .ok (.aastore, 1) := by decide +kernel
theorem dX12_init_363 : decode cX12_init 363 = .ok (.putfield 147, 3) := by decide +kernel
theorem dX12_init_366 : decode cX12_init 366 = .ok (.aload_n 0, 1) := by decide +kernel
theorem dX12_init_367 : decode cX12_init 367 = .ok (.bipush 10, 2) := by decide +kernel
theorem dX12_init_369 : decode cX12_init 369 = .ok (.newarray .int, 2) := by decide +kernel
theorem dX12_init_371 : decode cX12_init 371 = .ok (.dup, 1) := by decide +kernel
theorem dX12_init_372 : decode cX12_init 372 = .ok (.iconst 0, 1) := by decide +kernel
theorem dX12_init_373 : decode cX12_init 373 = .ok (.iconst 1, 1) := by decide +kernel
theorem dX12_init_374 : decode cX12_init 374 = .ok (.iastore, 1) := by decide +kernel
theorem dX12_init_375 : decode cX12_init 375 = .ok (.dup, 1) := by decide +kernel
theorem dX12_init_376 : decode cX12_init 376 = .ok (.iconst 1, 1) := by decide +kernel
theorem dX12_init_377 : decode cX12_init 377 = .ok (.iconst 2, 1) := by decide +kernel
theorem dX12_init_378 : decode cX12_init 378 = .ok (.iastore, 1) := by decide +kernel
theorem dX12_init_379 : decode cX12_init 379 = .ok (.dup, 1) := by decide +kernel
theorem dX12_init_380 : decode cX12_init 380 = .ok (.iconst 2, 1) := by decide +kernel
theorem dX12_init_381 : decode cX12_init 381 = .ok (.iconst 2, 1) := by decide +kernel
theorem dX12_init_382 : decode cX12_init 382 = .ok (.iastore, 1) := by decide +kernel
theorem dX12_init_383 : decode cX12_init 383 = .ok (.dup, 1) := by decide +kernel
theorem dX12_init_384 : decode cX12_init 384 = .ok (.iconst 3, 1) := by decide +kernel
theorem dX12_init_385 : decode cX12_init 385 = .ok (.iconst 3, 1) := by decide +kernel
theorem dX12_init_386 : decode cX12_init 386 = .ok (.iastore, 1) := by decide +kernel
theorem dX12_init_387 : decode cX12_init 387 = .ok (.dup, 1) := by decide +kernel
theorem dX12_init_388 : decode cX12_init 388 = .ok (.iconst 4, 1) := by decide +kernel
theorem dX12_init_389 : decode cX12_init 389 = .ok (.iconst 4, 1) := by decide +kernel
theorem dX12_init_390 : decode cX12_init 390 = .ok (.iastore, 1) := by decide +kernel
theorem dX12_init_391 : decode cX12_init 391 = .ok (.dup, 1) := by decide +kernel
theorem dX12_init_392 : decode cX12_init 392 = .ok (.iconst 5, 1) := by decide +kernel
theorem dX12_init_393 : decode cX12_init 393 = .ok (.iconst 4, 1) := by decide +kernel
theorem dX12_init_394 : decode cX12_init 394 = .ok (.iastore, 1) := by decide +kernel
theorem dX12_init_395 : decode cX12_init 395 = .ok (.dup, 1) := by decide +kernel
theorem dX12_init_396 : decode cX12_init 396 = .ok (.bipush 6, 2) := by decide +kernel
theorem dX12_init_398 : decode cX12_init 398 = .ok (.iconst 4, 1) := by decide +kernel
theorem dX12_init_399 : decode cX12_init 399 = .ok (.iastore, 1) := by decide +kernel
theorem dX12_init_400 : decode cX12_init 400 = .ok (.dup, 1) := by decide +kernel
theorem dX12_init_401 : decode cX12_init 401 = .ok (.bipush 7, 2) := by decide +kernel
theorem dX12_init_403 : decode cX12_init 403 = .ok (.iconst 4, 1) := by decide +kernel
theorem dX12_init_404 : decode cX12_init 404 = .ok (.iastore, 1) := by decide +kernel
theorem dX12_init_405 : decode cX12_init 405 = .ok (.dup, 1) := by decide +kernel
theorem dX12_init_406 : decode cX12_init 406 = .ok (.bipush 8, 2) := by decide +kernel
theorem dX12_init_408 : decode cX12_init 408 = .ok (.iconst 4, 1) := by decide +kernel
theorem dX12_init_409 : decode cX12_init 409 = .ok (.iastore, 1) := by decide +kernel
theorem dX12_init_410 : decode cX12_init 410 = .ok (.dup, 1) := by decide +kernel
theorem dX12_init_411 : decode cX12_init 411 = .ok (.bipush 9, 2) := by decide +kernel
theorem dX12_init_413 : decode cX12_init 413 = .ok (.iconst 4, 1) := by decide +kernel
theorem dX12_init_414 : decode cX12_init 414 = .ok (.iastore, 1) := by decide +kernel
theorem dX12_init_415 : decode cX12_init 415 = .ok (.putfield 151, 3) := by decide +kernel
theorem dX12_init_418 : decode cX12_init 418 = .ok (.aload_n 0, 1) := by decide +kernel
theorem dX12_init_419 : decode cX12_init 419 = .ok (.bipush 10, 2) := by decide +kernel
theorem dX12_init_421 : decode cX12_init 421 = .ok (.newarray .int, 2) := by decide +kernel
theorem dX12_init_423 : decode cX12_init 423 = .ok (.dup, 1) := by decide +kernel
theorem dX12_init_424 : decode cX12_init 424 = .ok (.iconst 0, 1) := by decide +kernel
theorem dX12_init_425 : decode cX12_init 425 = .ok (.iconst 0, 1) := by decide +kernel
theorem dX12_init_426 : decode cX12_init 426 = .ok (.iastore, 1) := by decide +kernel
theorem dX12_init_427 : decode cX12_init 427 = .ok (.dup, 1) := by decide +kernel
theorem dX12_init_428 : decode cX12_init 428 = .ok (.iconst 1, 1) := by decide +kernel
theorem dX12_init_429 : decode cX12_init 429 = .ok (.iconst 0, 1) := by decide +kernel
theorem dX12_init_430 : decode cX12_init 430 = .ok (.iastore, 1) := by decide +kernel
theorem dX12_init_431 : decode cX12_init 431 = .ok (.dup, 1) := by decide +kernel
theorem dX12_init_432 : decode cX12_init 432 = .ok (.iconst 2, 1) := by decide +kernel
theorem dX12_init_433 : decode cX12_init 433 = .ok (.iconst 0, 1) := by decide +kernel
theorem dX12_init_434 : decode cX12_init 434 = .ok (.iastore, 1) := by decide +kernel
theorem dX12_init_435 : decode cX12_init 435 = .ok (.dup, 1) := by decide +kernel
theorem dX12_init_436 : decode cX12_init 436 = .ok (.iconst 3, 1) := by decide +kernel
theorem dX12_init_437 : decode cX12_init 437 = .ok (.bipush 50, 2) := by decide +kernel
theorem dX12_init_439 : decode cX12_init 439 = .ok (.iastore, 1) := by decide +kernel
theorem dX12_init_440 : decode cX12_init 440 = .ok (.dup, 1) := by decide +kernel
theorem dX12_init_441 : decode cX12_init 441 = .ok (.iconst 4, 1) := by decide +kernel
theorem dX12_init_442 : decode cX12_init 442 = .ok (.iconst 0, 1) := by decide +kernel
theorem dX12_init_443 : decode cX12_init 443 = .ok (.iastore, 1) := by decide +kernel
theorem dX12_init_444 : decode cX12_init 444 = .ok (.dup, 1) := by decide +kernel
theorem dX12_init_445 : decode cX12_init 445 = .ok (.iconst 5, 1) := by decide +kernel
theorem dX12_init_446 : decode cX12_init 446 = .ok (.bipush 51, 2) := by decide +kernel
theorem dX12_init_448 : decode cX12_init 448 = .ok (.iastore, 1) := by decide +kernel
theorem dX12_init_449 : decode cX12_init 449 = .ok (.dup, 1) := by decide +kernel
theorem dX12_init_450 : decode cX12_init 450 = .ok (.bipush 6, 2) := by decide +kernel
theorem dX12_init_452 : decode cX12_init 452 = .ok (.bipush 55, 2) := by decide +kernel
theorem dX12_init_454 : decode cX12_init 454 = .ok (.iastore, 1) := by decide +kernel
theorem dX12_init_455 : decode cX12_init 455 = .ok (.dup, 1) := by decide +kernel
theorem dX12_init_456 : decode cX12_init 456 = .ok (.bipush 7, 2) := by decide +kernel
theorem dX12_init_458 : decode cX12_init 458 = .ok (.bipush 55, 2) := by decide +kernel
theorem dX12_init_460 : decode cX12_init 460 = .ok (.iastore, 1) := by decide +kernel
theorem dX12_init_461 : decode cX12_init 461 = .ok (.dup, 1) := by decide +kernel
theorem dX12_init_462 : decode cX12_init 462 = .ok (.bipush 8, 2) := by decide +kernel
theorem dX12_init_464 : decode cX12_init 464 = .ok (.bipush 60, 2) := by decide +kernel
theorem dX12_init_466 : decode cX12_init 466 = .ok (.iastore, 1) := by decide +kernel
theorem dX12_init_467 : decode cX12_init 467 = .ok (.dup, 1) := by decide +kernel
theorem dX12_init_468 : decode cX12_init 468 = .ok (.bipush 9, 2) := by decide +kernel
theorem dX12_init_470 : decode cX12_init 470 = .ok (.bipush 61, 2) := by decide +kernel
theorem dX12_init_472 : decode cX12_init 472 = .ok (.iastore, 1) := by decide +kernel
theorem dX12_init_473 : decode cX12_init 473 = .ok (.putfield 154, 3) := by decide +kernel
theorem dX12_init_476 : decode cX12_init 476 = .ok (.aload_n 0, 1) := by decide +kernel
theorem dX12_init_477 : decode cX12_init 477 = .ok (.iconst (-1), 1) := by decide +kernel
theorem dX12_init_478 : decode cX12_init 478 = .ok (.putfield 157, 3) := by decide +kernel
theorem dX12_init_481 : decode cX12_init 481 = .ok (.aload_n 0, 1) := by decide +kernel
theorem dX12_init_482 : decode cX12_init 482 = .ok (.iconst (-1), 1) := by decide +kernel
theorem dX12_init_483 : decode cX12_init 483 = .ok (.putfield 160, 3) := by decide +kernel
theorem dX12_init_486 : decode cX12_init 486 = .ok (.aload_n 0, 1) := by decide +kernel
theorem dX12_init_487 : decode cX12_init 487 = .ok (.ldc 52, 2) := by decide +kernel
theorem dX12_init_489 : decode cX12_init 489 = .ok (.newarray .int, 2) := by decide +kernel
theorem dX12_init_491 : decode cX12_init 491 = .ok (.putfield 163, 3) := by decide +kernel
theorem dX12_init_494 : decode cX12_init 494 = .ok (.aload_n 0, 1) := by decide +kernel
theorem dX12_init_495 : decode cX12_init 495 = .ok (.ldc 52, 2) := by decide +kernel
theorem dX12_init_497 : decode cX12_init 497 = .ok (.newarray .int, 2) := by decide +kernel
theorem dX12_init_499 : decode cX12_init 499 = .ok (.putfield 166, 3) := by decide +kernel
theorem dX12_init_502 : decode cX12_init 502 = .ok (.aload_n 0, 1) := by decide +kernel
theorem dX12_init_503 : decode cX12_init 503 = .ok (.invokevirtual 169, 3) := by decide +kernel
theorem dX12_init_506 : decode cX12_init 506 = .ok (.return_, 1) := by decide +kernel
set_option maxHeartbeats 4000000 in
set_option maxRecDepth 100000 in
theorem mm_init (l : Launch) (D : va_G) (g : xe_G) (m0 : Nat) (fs : List Value) (sz : Nat) (hm : md_has fs [(17, .int 0), (19, .int 0)]) : Met l yX12_init (.code yX12_init cX12_init 1 none :: bg) ({ frames := 8, cells := 39, slots := 898568, locals := 1200 } : Room) (xb_Pre (xe_E g) D vwCl [(m0, .inr (12, fs))] [] sz [.ref m0]) (va_Qv (fun u => md_has u.1 [(1, .ref u.2.1), (2, .ref u.2.2.1), (4, .ref u.2.2.2.1), (5, .ref u.2.2.2.2.1), (6, .ref u.2.2.2.2.2.1), (7, .ref u.2.2.2.2.2.2.1), (13, .ref u.2.2.2.2.2.2.2.1), (15, .ref u.2.2.2.2.2.2.2.2.1), (17, .int 0), (18, .int (-1)), (19, .int 0), (73, .int (-1))]) (xb_B D vwCl (va_A [(m0, .inr (12, fs))] sz) (fun u : List Value × Nat × Nat × Nat × Nat × Nat × Nat × Nat × Nat × ClassId × ClassId × ClassId × ClassId × ClassId × ClassId × ClassId × (Nat → Int32) × (Nat → Int32) × (Nat → Int32) × (Nat → Int32) × (Nat → Int32) × (Nat → Int32) × (Nat → Int32) => [(m0, .inr (12, u.1)), (u.2.1, .inl (u.2.2.2.2.2.2.2.2.2.1, 66000, .inl u.2.2.2.2.2.2.2.2.2.2.2.2.2.2.2.2.1)), (u.2.2.1, .inl (u.2.2.2.2.2.2.2.2.2.2.1, 66000, .inl u.2.2.2.2.2.2.2.2.2.2.2.2.2.2.2.2.2.1)), (u.2.2.2.1, .inl (u.2.2.2.2.2.2.2.2.2.2.2.1, 24000, .inl u.2.2.2.2.2.2.2.2.2.2.2.2.2.2.2.2.2.2.1)), (u.2.2.2.2.1, .inl (u.2.2.2.2.2.2.2.2.2.2.2.2.1, 24000, .inl u.2.2.2.2.2.2.2.2.2.2.2.2.2.2.2.2.2.2.2.1)), (u.2.2.2.2.2.1, .inl (u.2.2.2.2.2.2.2.2.2.2.2.2.2.1, 24000, .inl u.2.2.2.2.2.2.2.2.2.2.2.2.2.2.2.2.2.2.2.2.1)), (u.2.2.2.2.2.2.1, .inl (u.2.2.2.2.2.2.2.2.2.2.2.2.2.2.1, 4096, .inl u.2.2.2.2.2.2.2.2.2.2.2.2.2.2.2.2.2.2.2.2.2.1)), (u.2.2.2.2.2.2.2.2.1, .inl (u.2.2.2.2.2.2.2.2.2.2.2.2.2.2.2.1, 65560, .inl u.2.2.2.2.2.2.2.2.2.2.2.2.2.2.2.2.2.2.2.2.2.2))]) (fun u : List Value × Nat × Nat × Nat × Nat × Nat × Nat × Nat × Nat × ClassId × ClassId × ClassId × ClassId × ClassId × ClassId × ClassId × (Nat → Int32) × (Nat → Int32) × (Nat → Int32) × (Nat → Int32) × (Nat → Int32) × (Nat → Int32) × (Nat → Int32) => [(u.2.2.2.2.2.2.2.2.2.1, .char), (u.2.2.2.2.2.2.2.2.2.2.1, .char), (u.2.2.2.2.2.2.2.2.2.2.2.1, .int), (u.2.2.2.2.2.2.2.2.2.2.2.2.1, .int), (u.2.2.2.2.2.2.2.2.2.2.2.2.2.1, .int), (u.2.2.2.2.2.2.2.2.2.2.2.2.2.2.1, .int), (u.2.2.2.2.2.2.2.2.2.2.2.2.2.2.2.1, .byte)])) (va_A [(m0, .inr (12, fs))] sz)) 39 898568 (va_A [(m0, .inr (12, fs))] sz) := by
  refine Met.ofW (cc := cX12_init) (maxL := 1) (ret := none) (by decide) rfl ?_
  intro p e s m args below meth c s₁ B hml hv
  obtain ⟨rfl, hsz, hP, hK, hD0, hE⟩ := hv
  have hx := B.exec
  have hb := B.bytes
  have hr := B.returns
  have hts := atoms_spec (ws := (.code yX12_init cX12_init 1 none :: bg)) B.pre
  have htb : ∀ w ∈ bg, w.before _ s = true := fun w h => hts w (List.mem_cons_of_mem _ h)
  have hown : s.vm.findClass RX12 = some m.cls := findClass_of_methodNamed B.named
  have hlocks := B.notSynchronized
  have hin : meth.name = "<init>" := (name_of_methodNamed B.named B.method).1
  subst hsz
  have hD := hD0.self (sz := s.heap.size)
  generalize hAe : va_A [(m0, .inr (12, fs))] s.heap.size = A at hD hE ⊢
  have hA : ∀ q : Nat, s.heap.size ≤ q → A q := fun q h => by rw [← hAe]; exact Or.inr h
  have hS : va_S A s.heap s.heap [] := va_S.rf
  have hP : va_P D vwCl [(m0, .inr (12, fs))] s.heap := hP
  have hl := lv_entry ([.ref m0]) (n := 1) (Nat.le_of_ble_eq_true rfl)
  rw [lg_entry_eq]
  generalize (lg_sl ([.ref m0]) ++ List.replicate (1 - (lg_sl ([.ref m0])).length) Slot.unset).toArray = ls at hl ⊢
  have hl : lv_has ls 1 [(0, .ref m0)] := hl
  refine lv_aload_n hx hb dX12_init_0 rfl (lv_at hl 0 rfl) ?_
  refine W.objInit hx hb hown (htb _ bg_90) (htb _ bg_3) (htb _ bg_2) rfl (by rw [hml]; exact hl.1) rfl dX12_init_1 (Nat.le_of_ble_eq_true rfl) (Nat.le_of_ble_eq_true rfl) ?_
  refine W.eq (g2 := F0 m 4 ls []) rfl ?_
  refine lv_aload_n hx hb dX12_init_4 rfl (lv_at hl 0 rfl) ?_
  refine lv_ldc (own := RX12) (v := 66000) hx hb hown (htb _ bg_91) dX12_init_5 ?_
  refine va_newa (atype := .char) (ty := .char) (a0 := (66000, .inl (fun _ => 0))) (N' := 66000) hx hb (htb _ bg_92) rfl hK hP hD hS hA (fun _ => rfl) (by decide) (by decide) (by decide) (Nat.le_of_ble_eq_true rfl) (Nat.le_of_ble_eq_true rfl) dX12_init_7 (fun q7 a7 H hK hP hD hS => ?_)
  have hP : va_P D vwCl [(m0, .inr (12, fs)), (q7, .inl (a7, 66000, .inl (fun _ => 0)))] H := hP
  have hD : va_D A [(m0, .inr (12, fs)), (q7, .inl (a7, 66000, .inl (fun _ => 0)))] := hD
  have hK : va_K D vwCl [(a7, .char)] s := hK
  refine W.widen (k := 1) (n := 66000) (by decide) (by decide) ?_
  refine va_putF (D := D) (ci := 12) (v := .ref q7) (ty := tyX12 1) (C := RX12) (T := TX12) (N := 82) hx hb htb bi_X12 tyX12 tyX12_ok nmX12 hown hK hP hD hS 0 rfl rfl 1 (by decide) (htb _ bg_93) (fun _ h9 => h9) rfl hin rfl (tyX12_ok 1 (by decide)) rfl rfl (by rw [hm.1]; decide) dX12_init_9 (fun H locs hP hD hS => ?_)
  have hP : va_P D vwCl [(m0, .inr (12, (fs.set 1 (.ref q7)))), (q7, .inl (a7, 66000, .inl (fun _ => 0)))] H := hP
  have hD : va_D A [(m0, .inr (12, (fs.set 1 (.ref q7)))), (q7, .inl (a7, 66000, .inl (fun _ => 0)))] := hD
  have hm : md_has (fs.set 1 (.ref q7)) [(1, .ref q7), (17, .int 0), (19, .int 0)] := md_put hm 1 (.ref q7) (by decide) rfl
  generalize (fs.set 1 (.ref q7)) = fs at hP hD hm
  refine lv_aload_n hx hb dX12_init_12 rfl (lv_at hl 0 rfl) ?_
  refine lv_ldc (own := RX12) (v := 66000) hx hb hown (htb _ bg_91) dX12_init_13 ?_
  refine va_newa (atype := .char) (ty := .char) (a0 := (66000, .inl (fun _ => 0))) (N' := 66000) hx hb (htb _ bg_92) rfl hK hP hD hS hA (fun _ => rfl) (by decide) (by decide) (by decide) (Nat.le_of_ble_eq_true rfl) (Nat.le_of_ble_eq_true rfl) dX12_init_15 (fun q15 a15 H hK hP hD hS => ?_)
  have hP : va_P D vwCl [(m0, .inr (12, fs)), (q7, .inl (a7, 66000, .inl (fun _ => 0))), (q15, .inl (a15, 66000, .inl (fun _ => 0)))] H := hP
  have hD : va_D A [(m0, .inr (12, fs)), (q7, .inl (a7, 66000, .inl (fun _ => 0))), (q15, .inl (a15, 66000, .inl (fun _ => 0)))] := hD
  have hK : va_K D vwCl [(a7, .char), (a15, .char)] s := hK
  refine W.widen (k := 2) (n := 132000) (by decide) (by decide) ?_
  refine va_putF (D := D) (ci := 12) (v := .ref q15) (ty := tyX12 2) (C := RX12) (T := TX12) (N := 82) hx hb htb bi_X12 tyX12 tyX12_ok nmX12 hown hK hP hD hS 0 rfl rfl 2 (by decide) (htb _ bg_94) (fun _ h9 => h9) rfl hin rfl (tyX12_ok 2 (by decide)) rfl rfl (by rw [hm.1]; decide) dX12_init_17 (fun H locs hP hD hS => ?_)
  have hP : va_P D vwCl [(m0, .inr (12, (fs.set 2 (.ref q15)))), (q7, .inl (a7, 66000, .inl (fun _ => 0))), (q15, .inl (a15, 66000, .inl (fun _ => 0)))] H := hP
  have hD : va_D A [(m0, .inr (12, (fs.set 2 (.ref q15)))), (q7, .inl (a7, 66000, .inl (fun _ => 0))), (q15, .inl (a15, 66000, .inl (fun _ => 0)))] := hD
  have hm : md_has (fs.set 2 (.ref q15)) [(2, .ref q15), (1, .ref q7), (17, .int 0), (19, .int 0)] := md_put hm 2 (.ref q15) (by decide) rfl
  generalize (fs.set 2 (.ref q15)) = fs at hP hD hm
  refine lv_aload_n hx hb dX12_init_20 rfl (lv_at hl 0 rfl) ?_
  refine lv_sipush (v := 24000) hx hb dX12_init_21 (by decide) ?_
  refine va_newa (atype := .int) (ty := .int) (a0 := (24000, .inl (fun _ => 0))) (N' := 24000) hx hb (htb _ bg_95) rfl hK hP hD hS hA (fun _ => rfl) (by decide) (by decide) (by decide) (Nat.le_of_ble_eq_true rfl) (Nat.le_of_ble_eq_true rfl) dX12_init_24 (fun q24 a24 H hK hP hD hS => ?_)
  have hP : va_P D vwCl [(m0, .inr (12, fs)), (q7, .inl (a7, 66000, .inl (fun _ => 0))), (q15, .inl (a15, 66000, .inl (fun _ => 0))), (q24, .inl (a24, 24000, .inl (fun _ => 0)))] H := hP
  have hD : va_D A [(m0, .inr (12, fs)), (q7, .inl (a7, 66000, .inl (fun _ => 0))), (q15, .inl (a15, 66000, .inl (fun _ => 0))), (q24, .inl (a24, 24000, .inl (fun _ => 0)))] := hD
  have hK : va_K D vwCl [(a7, .char), (a15, .char), (a24, .int)] s := hK
  refine W.widen (k := 3) (n := 156000) (by decide) (by decide) ?_
  refine va_putF (D := D) (ci := 12) (v := .ref q24) (ty := tyX12 4) (C := RX12) (T := TX12) (N := 82) hx hb htb bi_X12 tyX12 tyX12_ok nmX12 hown hK hP hD hS 0 rfl rfl 4 (by decide) (htb _ bg_96) (fun _ h9 => h9) rfl hin rfl (tyX12_ok 4 (by decide)) rfl rfl (by rw [hm.1]; decide) dX12_init_26 (fun H locs hP hD hS => ?_)
  have hP : va_P D vwCl [(m0, .inr (12, (fs.set 4 (.ref q24)))), (q7, .inl (a7, 66000, .inl (fun _ => 0))), (q15, .inl (a15, 66000, .inl (fun _ => 0))), (q24, .inl (a24, 24000, .inl (fun _ => 0)))] H := hP
  have hD : va_D A [(m0, .inr (12, (fs.set 4 (.ref q24)))), (q7, .inl (a7, 66000, .inl (fun _ => 0))), (q15, .inl (a15, 66000, .inl (fun _ => 0))), (q24, .inl (a24, 24000, .inl (fun _ => 0)))] := hD
  have hm : md_has (fs.set 4 (.ref q24)) [(4, .ref q24), (2, .ref q15), (1, .ref q7), (17, .int 0), (19, .int 0)] := md_put hm 4 (.ref q24) (by decide) rfl
  generalize (fs.set 4 (.ref q24)) = fs at hP hD hm
  refine lv_aload_n hx hb dX12_init_29 rfl (lv_at hl 0 rfl) ?_
  refine lv_sipush (v := 24000) hx hb dX12_init_30 (by decide) ?_
  refine va_newa (atype := .int) (ty := .int) (a0 := (24000, .inl (fun _ => 0))) (N' := 24000) hx hb (htb _ bg_95) rfl hK hP hD hS hA (fun _ => rfl) (by decide) (by decide) (by decide) (Nat.le_of_ble_eq_true rfl) (Nat.le_of_ble_eq_true rfl) dX12_init_33 (fun q33 a33 H hK hP hD hS => ?_)
  have hP : va_P D vwCl [(m0, .inr (12, fs)), (q7, .inl (a7, 66000, .inl (fun _ => 0))), (q15, .inl (a15, 66000, .inl (fun _ => 0))), (q24, .inl (a24, 24000, .inl (fun _ => 0))), (q33, .inl (a33, 24000, .inl (fun _ => 0)))] H := hP
  have hD : va_D A [(m0, .inr (12, fs)), (q7, .inl (a7, 66000, .inl (fun _ => 0))), (q15, .inl (a15, 66000, .inl (fun _ => 0))), (q24, .inl (a24, 24000, .inl (fun _ => 0))), (q33, .inl (a33, 24000, .inl (fun _ => 0)))] := hD
  have hK : va_K D vwCl [(a7, .char), (a15, .char), (a24, .int), (a33, .int)] s := hK
  refine W.widen (k := 4) (n := 180000) (by decide) (by decide) ?_
  refine va_putF (D := D) (ci := 12) (v := .ref q33) (ty := tyX12 5) (C := RX12) (T := TX12) (N := 82) hx hb htb bi_X12 tyX12 tyX12_ok nmX12 hown hK hP hD hS 0 rfl rfl 5 (by decide) (htb _ bg_97) (fun _ h9 => h9) rfl hin rfl (tyX12_ok 5 (by decide)) rfl rfl (by rw [hm.1]; decide) dX12_init_35 (fun H locs hP hD hS => ?_)
  have hP : va_P D vwCl [(m0, .inr (12, (fs.set 5 (.ref q33)))), (q7, .inl (a7, 66000, .inl (fun _ => 0))), (q15, .inl (a15, 66000, .inl (fun _ => 0))), (q24, .inl (a24, 24000, .inl (fun _ => 0))), (q33, .inl (a33, 24000, .inl (fun _ => 0)))] H := hP
  have hD : va_D A [(m0, .inr (12, (fs.set 5 (.ref q33)))), (q7, .inl (a7, 66000, .inl (fun _ => 0))), (q15, .inl (a15, 66000, .inl (fun _ => 0))), (q24, .inl (a24, 24000, .inl (fun _ => 0))), (q33, .inl (a33, 24000, .inl (fun _ => 0)))] := hD
  have hm : md_has (fs.set 5 (.ref q33)) [(5, .ref q33), (4, .ref q24), (2, .ref q15), (1, .ref q7), (17, .int 0), (19, .int 0)] := md_put hm 5 (.ref q33) (by decide) rfl
  generalize (fs.set 5 (.ref q33)) = fs at hP hD hm
  refine lv_aload_n hx hb dX12_init_38 rfl (lv_at hl 0 rfl) ?_
  refine lv_sipush (v := 24000) hx hb dX12_init_39 (by decide) ?_
  refine va_newa (atype := .int) (ty := .int) (a0 := (24000, .inl (fun _ => 0))) (N' := 24000) hx hb (htb _ bg_95) rfl hK hP hD hS hA (fun _ => rfl) (by decide) (by decide) (by decide) (Nat.le_of_ble_eq_true rfl) (Nat.le_of_ble_eq_true rfl) dX12_init_42 (fun q42 a42 H hK hP hD hS => ?_)
  have hP : va_P D vwCl [(m0, .inr (12, fs)), (q7, .inl (a7, 66000, .inl (fun _ => 0))), (q15, .inl (a15, 66000, .inl (fun _ => 0))), (q24, .inl (a24, 24000, .inl (fun _ => 0))), (q33, .inl (a33, 24000, .inl (fun _ => 0))), (q42, .inl (a42, 24000, .inl (fun _ => 0)))] H := hP
  have hD : va_D A [(m0, .inr (12, fs)), (q7, .inl (a7, 66000, .inl (fun _ => 0))), (q15, .inl (a15, 66000, .inl (fun _ => 0))), (q24, .inl (a24, 24000, .inl (fun _ => 0))), (q33, .inl (a33, 24000, .inl (fun _ => 0))), (q42, .inl (a42, 24000, .inl (fun _ => 0)))] := hD
  have hK : va_K D vwCl [(a7, .char), (a15, .char), (a24, .int), (a33, .int), (a42, .int)] s := hK
  refine W.widen (k := 5) (n := 204000) (by decide) (by decide) ?_
  refine va_putF (D := D) (ci := 12) (v := .ref q42) (ty := tyX12 6) (C := RX12) (T := TX12) (N := 82) hx hb htb bi_X12 tyX12 tyX12_ok nmX12 hown hK hP hD hS 0 rfl rfl 6 (by decide) (htb _ bg_98) (fun _ h9 => h9) rfl hin rfl (tyX12_ok 6 (by decide)) rfl rfl (by rw [hm.1]; decide) dX12_init_44 (fun H locs hP hD hS => ?_)
  have hP : va_P D vwCl [(m0, .inr (12, (fs.set 6 (.ref q42)))), (q7, .inl (a7, 66000, .inl (fun _ => 0))), (q15, .inl (a15, 66000, .inl (fun _ => 0))), (q24, .inl (a24, 24000, .inl (fun _ => 0))), (q33, .inl (a33, 24000, .inl (fun _ => 0))), (q42, .inl (a42, 24000, .inl (fun _ => 0)))] H := hP
  have hD : va_D A [(m0, .inr (12, (fs.set 6 (.ref q42)))), (q7, .inl (a7, 66000, .inl (fun _ => 0))), (q15, .inl (a15, 66000, .inl (fun _ => 0))), (q24, .inl (a24, 24000, .inl (fun _ => 0))), (q33, .inl (a33, 24000, .inl (fun _ => 0))), (q42, .inl (a42, 24000, .inl (fun _ => 0)))] := hD
  have hm : md_has (fs.set 6 (.ref q42)) [(6, .ref q42), (5, .ref q33), (4, .ref q24), (2, .ref q15), (1, .ref q7), (17, .int 0), (19, .int 0)] := md_put hm 6 (.ref q42) (by decide) rfl
  generalize (fs.set 6 (.ref q42)) = fs at hP hD hm
  refine lv_aload_n hx hb dX12_init_47 rfl (lv_at hl 0 rfl) ?_
  refine lv_sipush (v := 4096) hx hb dX12_init_48 (by decide) ?_
  refine va_newa (atype := .int) (ty := .int) (a0 := (4096, .inl (fun _ => 0))) (N' := 4096) hx hb (htb _ bg_95) rfl hK hP hD hS hA (fun _ => rfl) (by decide) (by decide) (by decide) (Nat.le_of_ble_eq_true rfl) (Nat.le_of_ble_eq_true rfl) dX12_init_51 (fun q51 a51 H hK hP hD hS => ?_)
  have hP : va_P D vwCl [(m0, .inr (12, fs)), (q7, .inl (a7, 66000, .inl (fun _ => 0))), (q15, .inl (a15, 66000, .inl (fun _ => 0))), (q24, .inl (a24, 24000, .inl (fun _ => 0))), (q33, .inl (a33, 24000, .inl (fun _ => 0))), (q42, .inl (a42, 24000, .inl (fun _ => 0))), (q51, .inl (a51, 4096, .inl (fun _ => 0)))] H := hP
  have hD : va_D A [(m0, .inr (12, fs)), (q7, .inl (a7, 66000, .inl (fun _ => 0))), (q15, .inl (a15, 66000, .inl (fun _ => 0))), (q24, .inl (a24, 24000, .inl (fun _ => 0))), (q33, .inl (a33, 24000, .inl (fun _ => 0))), (q42, .inl (a42, 24000, .inl (fun _ => 0))), (q51, .inl (a51, 4096, .inl (fun _ => 0)))] := hD
  have hK : va_K D vwCl [(a7, .char), (a15, .char), (a24, .int), (a33, .int), (a42, .int), (a51, .int)] s := hK
  refine W.widen (k := 6) (n := 208096) (by decide) (by decide) ?_
  refine va_putF (D := D) (ci := 12) (v := .ref q51) (ty := tyX12 7) (C := RX12) (T := TX12) (N := 82) hx hb htb bi_X12 tyX12 tyX12_ok nmX12 hown hK hP hD hS 0 rfl rfl 7 (by decide) (htb _ bg_99) (fun _ h9 => h9) rfl hin rfl (tyX12_ok 7 (by decide)) rfl rfl (by rw [hm.1]; decide) dX12_init_53 (fun H locs hP hD hS => ?_)
  have hP : va_P D vwCl [(m0, .inr (12, (fs.set 7 (.ref q51)))), (q7, .inl (a7, 66000, .inl (fun _ => 0))), (q15, .inl (a15, 66000, .inl (fun _ => 0))), (q24, .inl (a24, 24000, .inl (fun _ => 0))), (q33, .inl (a33, 24000, .inl (fun _ => 0))), (q42, .inl (a42, 24000, .inl (fun _ => 0))), (q51, .inl (a51, 4096, .inl (fun _ => 0)))] H := hP
  have hD : va_D A [(m0, .inr (12, (fs.set 7 (.ref q51)))), (q7, .inl (a7, 66000, .inl (fun _ => 0))), (q15, .inl (a15, 66000, .inl (fun _ => 0))), (q24, .inl (a24, 24000, .inl (fun _ => 0))), (q33, .inl (a33, 24000, .inl (fun _ => 0))), (q42, .inl (a42, 24000, .inl (fun _ => 0))), (q51, .inl (a51, 4096, .inl (fun _ => 0)))] := hD
  have hm : md_has (fs.set 7 (.ref q51)) [(7, .ref q51), (6, .ref q42), (5, .ref q33), (4, .ref q24), (2, .ref q15), (1, .ref q7), (17, .int 0), (19, .int 0)] := md_put hm 7 (.ref q51) (by decide) rfl
  generalize (fs.set 7 (.ref q51)) = fs at hP hD hm
  refine lv_aload_n hx hb dX12_init_56 rfl (lv_at hl 0 rfl) ?_
  refine lv_ldc (own := RX12) (v := 65600) hx hb hown (htb _ bg_100) dX12_init_57 ?_
  refine va_newa (atype := .byte) (ty := .byte) (a0 := (65600, .inl (fun _ => 0))) (N' := 65600) hx hb (htb _ bg_4) rfl hK hP hD hS hA (fun _ => rfl) (by decide) (by decide) (by decide) (Nat.le_of_ble_eq_true rfl) (Nat.le_of_ble_eq_true rfl) dX12_init_59 (fun q59 a59 H hK hP hD hS => ?_)
  have hP : va_P D vwCl [(m0, .inr (12, fs)), (q7, .inl (a7, 66000, .inl (fun _ => 0))), (q15, .inl (a15, 66000, .inl (fun _ => 0))), (q24, .inl (a24, 24000, .inl (fun _ => 0))), (q33, .inl (a33, 24000, .inl (fun _ => 0))), (q42, .inl (a42, 24000, .inl (fun _ => 0))), (q51, .inl (a51, 4096, .inl (fun _ => 0))), (q59, .inl (a59, 65600, .inl (fun _ => 0)))] H := hP
  have hD : va_D A [(m0, .inr (12, fs)), (q7, .inl (a7, 66000, .inl (fun _ => 0))), (q15, .inl (a15, 66000, .inl (fun _ => 0))), (q24, .inl (a24, 24000, .inl (fun _ => 0))), (q33, .inl (a33, 24000, .inl (fun _ => 0))), (q42, .inl (a42, 24000, .inl (fun _ => 0))), (q51, .inl (a51, 4096, .inl (fun _ => 0))), (q59, .inl (a59, 65600, .inl (fun _ => 0)))] := hD
  have hK : va_K D vwCl [(a7, .char), (a15, .char), (a24, .int), (a33, .int), (a42, .int), (a51, .int), (a59, .byte)] s := hK
  refine W.widen (k := 7) (n := 273696) (by decide) (by decide) ?_
  refine va_putF (D := D) (ci := 12) (v := .ref q59) (ty := tyX12 12) (C := RX12) (T := TX12) (N := 82) hx hb htb bi_X12 tyX12 tyX12_ok nmX12 hown hK hP hD hS 0 rfl rfl 12 (by decide) (htb _ bg_101) (fun _ h9 => h9) rfl hin rfl (tyX12_ok 12 (by decide)) rfl rfl (by rw [hm.1]; decide) dX12_init_61 (fun H locs hP hD hS => ?_)
  have hP : va_P D vwCl [(m0, .inr (12, (fs.set 12 (.ref q59)))), (q7, .inl (a7, 66000, .inl (fun _ => 0))), (q15, .inl (a15, 66000, .inl (fun _ => 0))), (q24, .inl (a24, 24000, .inl (fun _ => 0))), (q33, .inl (a33, 24000, .inl (fun _ => 0))), (q42, .inl (a42, 24000, .inl (fun _ => 0))), (q51, .inl (a51, 4096, .inl (fun _ => 0))), (q59, .inl (a59, 65600, .inl (fun _ => 0)))] H := hP
  have hD : va_D A [(m0, .inr (12, (fs.set 12 (.ref q59)))), (q7, .inl (a7, 66000, .inl (fun _ => 0))), (q15, .inl (a15, 66000, .inl (fun _ => 0))), (q24, .inl (a24, 24000, .inl (fun _ => 0))), (q33, .inl (a33, 24000, .inl (fun _ => 0))), (q42, .inl (a42, 24000, .inl (fun _ => 0))), (q51, .inl (a51, 4096, .inl (fun _ => 0))), (q59, .inl (a59, 65600, .inl (fun _ => 0)))] := hD
  have hm : md_has (fs.set 12 (.ref q59)) [(7, .ref q51), (6, .ref q42), (5, .ref q33), (4, .ref q24), (2, .ref q15), (1, .ref q7), (17, .int 0), (19, .int 0)] := md_putD hm 12 (.ref q59) (by decide) rfl
  generalize (fs.set 12 (.ref q59)) = fs at hP hD hm
  have hP := hP.sub (ws' := [(m0, .inr (12, fs)), (q7, .inl (a7, 66000, .inl (fun _ => 0))), (q15, .inl (a15, 66000, .inl (fun _ => 0))), (q24, .inl (a24, 24000, .inl (fun _ => 0))), (q33, .inl (a33, 24000, .inl (fun _ => 0))), (q42, .inl (a42, 24000, .inl (fun _ => 0))), (q51, .inl (a51, 4096, .inl (fun _ => 0)))]) [0, 1, 2, 3, 4, 5, 6] rfl
  have hD := hD.sub (ws' := [(m0, .inr (12, fs)), (q7, .inl (a7, 66000, .inl (fun _ => 0))), (q15, .inl (a15, 66000, .inl (fun _ => 0))), (q24, .inl (a24, 24000, .inl (fun _ => 0))), (q33, .inl (a33, 24000, .inl (fun _ => 0))), (q42, .inl (a42, 24000, .inl (fun _ => 0))), (q51, .inl (a51, 4096, .inl (fun _ => 0)))]) [0, 1, 2, 3, 4, 5, 6] rfl rfl
  have hK := hK.sub (tys' := [(a7, .char), (a15, .char), (a24, .int), (a33, .int), (a42, .int), (a51, .int)]) [0, 1, 2, 3, 4, 5] rfl
  refine lv_aload_n hx hb dX12_init_64 rfl (lv_at hl 0 rfl) ?_
  refine lv_ldc (own := RX12) (v := 65560) hx hb hown (htb _ bg_102) dX12_init_65 ?_
  refine va_newa (atype := .byte) (ty := .byte) (a0 := (65560, .inl (fun _ => 0))) (N' := 65560) hx hb (htb _ bg_4) rfl hK hP hD hS hA (fun _ => rfl) (by decide) (by decide) (by decide) (Nat.le_of_ble_eq_true rfl) (Nat.le_of_ble_eq_true rfl) dX12_init_67 (fun q67 a67 H hK hP hD hS => ?_)
  have hP : va_P D vwCl [(m0, .inr (12, fs)), (q7, .inl (a7, 66000, .inl (fun _ => 0))), (q15, .inl (a15, 66000, .inl (fun _ => 0))), (q24, .inl (a24, 24000, .inl (fun _ => 0))), (q33, .inl (a33, 24000, .inl (fun _ => 0))), (q42, .inl (a42, 24000, .inl (fun _ => 0))), (q51, .inl (a51, 4096, .inl (fun _ => 0))), (q67, .inl (a67, 65560, .inl (fun _ => 0)))] H := hP
  have hD : va_D A [(m0, .inr (12, fs)), (q7, .inl (a7, 66000, .inl (fun _ => 0))), (q15, .inl (a15, 66000, .inl (fun _ => 0))), (q24, .inl (a24, 24000, .inl (fun _ => 0))), (q33, .inl (a33, 24000, .inl (fun _ => 0))), (q42, .inl (a42, 24000, .inl (fun _ => 0))), (q51, .inl (a51, 4096, .inl (fun _ => 0))), (q67, .inl (a67, 65560, .inl (fun _ => 0)))] := hD
  have hK : va_K D vwCl [(a7, .char), (a15, .char), (a24, .int), (a33, .int), (a42, .int), (a51, .int), (a67, .byte)] s := hK
  refine W.widen (k := 8) (n := 339256) (by decide) (by decide) ?_
  refine va_putF (D := D) (ci := 12) (v := .ref q67) (ty := tyX12 13) (C := RX12) (T := TX12) (N := 82) hx hb htb bi_X12 tyX12 tyX12_ok nmX12 hown hK hP hD hS 0 rfl rfl 13 (by decide) (htb _ bg_103) (fun _ h9 => h9) rfl hin rfl (tyX12_ok 13 (by decide)) rfl rfl (by rw [hm.1]; decide) dX12_init_69 (fun H locs hP hD hS => ?_)
  have hP : va_P D vwCl [(m0, .inr (12, (fs.set 13 (.ref q67)))), (q7, .inl (a7, 66000, .inl (fun _ => 0))), (q15, .inl (a15, 66000, .inl (fun _ => 0))), (q24, .inl (a24, 24000, .inl (fun _ => 0))), (q33, .inl (a33, 24000, .inl (fun _ => 0))), (q42, .inl (a42, 24000, .inl (fun _ => 0))), (q51, .inl (a51, 4096, .inl (fun _ => 0))), (q67, .inl (a67, 65560, .inl (fun _ => 0)))] H := hP
  have hD : va_D A [(m0, .inr (12, (fs.set 13 (.ref q67)))), (q7, .inl (a7, 66000, .inl (fun _ => 0))), (q15, .inl (a15, 66000, .inl (fun _ => 0))), (q24, .inl (a24, 24000, .inl (fun _ => 0))), (q33, .inl (a33, 24000, .inl (fun _ => 0))), (q42, .inl (a42, 24000, .inl (fun _ => 0))), (q51, .inl (a51, 4096, .inl (fun _ => 0))), (q67, .inl (a67, 65560, .inl (fun _ => 0)))] := hD
  have hm : md_has (fs.set 13 (.ref q67)) [(13, .ref q67), (7, .ref q51), (6, .ref q42), (5, .ref q33), (4, .ref q24), (2, .ref q15), (1, .ref q7), (17, .int 0), (19, .int 0)] := md_put hm 13 (.ref q67) (by decide) rfl
  generalize (fs.set 13 (.ref q67)) = fs at hP hD hm
  have hP := hP.sub (ws' := [(m0, .inr (12, fs)), (q7, .inl (a7, 66000, .inl (fun _ => 0))), (q15, .inl (a15, 66000, .inl (fun _ => 0))), (q24, .inl (a24, 24000, .inl (fun _ => 0))), (q33, .inl (a33, 24000, .inl (fun _ => 0))), (q42, .inl (a42, 24000, .inl (fun _ => 0))), (q51, .inl (a51, 4096, .inl (fun _ => 0)))]) [0, 1, 2, 3, 4, 5, 6] rfl
  have hD := hD.sub (ws' := [(m0, .inr (12, fs)), (q7, .inl (a7, 66000, .inl (fun _ => 0))), (q15, .inl (a15, 66000, .inl (fun _ => 0))), (q24, .inl (a24, 24000, .inl (fun _ => 0))), (q33, .inl (a33, 24000, .inl (fun _ => 0))), (q42, .inl (a42, 24000, .inl (fun _ => 0))), (q51, .inl (a51, 4096, .inl (fun _ => 0)))]) [0, 1, 2, 3, 4, 5, 6] rfl rfl
  have hK := hK.sub (tys' := [(a7, .char), (a15, .char), (a24, .int), (a33, .int), (a42, .int), (a51, .int)]) [0, 1, 2, 3, 4, 5] rfl
  refine lv_aload_n hx hb dX12_init_72 rfl (lv_at hl 0 rfl) ?_
  refine lv_ldc (own := RX12) (v := 65560) hx hb hown (htb _ bg_102) dX12_init_73 ?_
  refine va_newa (atype := .byte) (ty := .byte) (a0 := (65560, .inl (fun _ => 0))) (N' := 65560) hx hb (htb _ bg_4) rfl hK hP hD hS hA (fun _ => rfl) (by decide) (by decide) (by decide) (Nat.le_of_ble_eq_true rfl) (Nat.le_of_ble_eq_true rfl) dX12_init_75 (fun q75 a75 H hK hP hD hS => ?_)
  have hP : va_P D vwCl [(m0, .inr (12, fs)), (q7, .inl (a7, 66000, .inl (fun _ => 0))), (q15, .inl (a15, 66000, .inl (fun _ => 0))), (q24, .inl (a24, 24000, .inl (fun _ => 0))), (q33, .inl (a33, 24000, .inl (fun _ => 0))), (q42, .inl (a42, 24000, .inl (fun _ => 0))), (q51, .inl (a51, 4096, .inl (fun _ => 0))), (q75, .inl (a75, 65560, .inl (fun _ => 0)))] H := hP
  have hD : va_D A [(m0, .inr (12, fs)), (q7, .inl (a7, 66000, .inl (fun _ => 0))), (q15, .inl (a15, 66000, .inl (fun _ => 0))), (q24, .inl (a24, 24000, .inl (fun _ => 0))), (q33, .inl (a33, 24000, .inl (fun _ => 0))), (q42, .inl (a42, 24000, .inl (fun _ => 0))), (q51, .inl (a51, 4096, .inl (fun _ => 0))), (q75, .inl (a75, 65560, .inl (fun _ => 0)))] := hD
  have hK : va_K D vwCl [(a7, .char), (a15, .char), (a24, .int), (a33, .int), (a42, .int), (a51, .int), (a75, .byte)] s := hK
  refine W.widen (k := 9) (n := 404816) (by decide) (by decide) ?_
  refine va_putF (D := D) (ci := 12) (v := .ref q75) (ty := tyX12 14) (C := RX12) (T := TX12) (N := 82) hx hb htb bi_X12 tyX12 tyX12_ok nmX12 hown hK hP hD hS 0 rfl rfl 14 (by decide) (htb _ bg_104) (fun _ h9 => h9) rfl hin rfl (tyX12_ok 14 (by decide)) rfl rfl (by rw [hm.1]; decide) dX12_init_77 (fun H locs hP hD hS => ?_)
  have hP : va_P D vwCl [(m0, .inr (12, (fs.set 14 (.ref q75)))), (q7, .inl (a7, 66000, .inl (fun _ => 0))), (q15, .inl (a15, 66000, .inl (fun _ => 0))), (q24, .inl (a24, 24000, .inl (fun _ => 0))), (q33, .inl (a33, 24000, .inl (fun _ => 0))), (q42, .inl (a42, 24000, .inl (fun _ => 0))), (q51, .inl (a51, 4096, .inl (fun _ => 0))), (q75, .inl (a75, 65560, .inl (fun _ => 0)))] H := hP
  have hD : va_D A [(m0, .inr (12, (fs.set 14 (.ref q75)))), (q7, .inl (a7, 66000, .inl (fun _ => 0))), (q15, .inl (a15, 66000, .inl (fun _ => 0))), (q24, .inl (a24, 24000, .inl (fun _ => 0))), (q33, .inl (a33, 24000, .inl (fun _ => 0))), (q42, .inl (a42, 24000, .inl (fun _ => 0))), (q51, .inl (a51, 4096, .inl (fun _ => 0))), (q75, .inl (a75, 65560, .inl (fun _ => 0)))] := hD
  have hm : md_has (fs.set 14 (.ref q75)) [(13, .ref q67), (7, .ref q51), (6, .ref q42), (5, .ref q33), (4, .ref q24), (2, .ref q15), (1, .ref q7), (17, .int 0), (19, .int 0)] := md_putD hm 14 (.ref q75) (by decide) rfl
  generalize (fs.set 14 (.ref q75)) = fs at hP hD hm
  have hP := hP.sub (ws' := [(m0, .inr (12, fs)), (q7, .inl (a7, 66000, .inl (fun _ => 0))), (q15, .inl (a15, 66000, .inl (fun _ => 0))), (q24, .inl (a24, 24000, .inl (fun _ => 0))), (q33, .inl (a33, 24000, .inl (fun _ => 0))), (q42, .inl (a42, 24000, .inl (fun _ => 0))), (q51, .inl (a51, 4096, .inl (fun _ => 0)))]) [0, 1, 2, 3, 4, 5, 6] rfl
  have hD := hD.sub (ws' := [(m0, .inr (12, fs)), (q7, .inl (a7, 66000, .inl (fun _ => 0))), (q15, .inl (a15, 66000, .inl (fun _ => 0))), (q24, .inl (a24, 24000, .inl (fun _ => 0))), (q33, .inl (a33, 24000, .inl (fun _ => 0))), (q42, .inl (a42, 24000, .inl (fun _ => 0))), (q51, .inl (a51, 4096, .inl (fun _ => 0)))]) [0, 1, 2, 3, 4, 5, 6] rfl rfl
  have hK := hK.sub (tys' := [(a7, .char), (a15, .char), (a24, .int), (a33, .int), (a42, .int), (a51, .int)]) [0, 1, 2, 3, 4, 5] rfl
  refine lv_aload_n hx hb dX12_init_80 rfl (lv_at hl 0 rfl) ?_
  refine lv_ldc (own := RX12) (v := 65560) hx hb hown (htb _ bg_102) dX12_init_81 ?_
  refine va_newa (atype := .byte) (ty := .byte) (a0 := (65560, .inl (fun _ => 0))) (N' := 65560) hx hb (htb _ bg_4) rfl hK hP hD hS hA (fun _ => rfl) (by decide) (by decide) (by decide) (Nat.le_of_ble_eq_true rfl) (Nat.le_of_ble_eq_true rfl) dX12_init_83 (fun q83 a83 H hK hP hD hS => ?_)
  have hP : va_P D vwCl [(m0, .inr (12, fs)), (q7, .inl (a7, 66000, .inl (fun _ => 0))), (q15, .inl (a15, 66000, .inl (fun _ => 0))), (q24, .inl (a24, 24000, .inl (fun _ => 0))), (q33, .inl (a33, 24000, .inl (fun _ => 0))), (q42, .inl (a42, 24000, .inl (fun _ => 0))), (q51, .inl (a51, 4096, .inl (fun _ => 0))), (q83, .inl (a83, 65560, .inl (fun _ => 0)))] H := hP
  have hD : va_D A [(m0, .inr (12, fs)), (q7, .inl (a7, 66000, .inl (fun _ => 0))), (q15, .inl (a15, 66000, .inl (fun _ => 0))), (q24, .inl (a24, 24000, .inl (fun _ => 0))), (q33, .inl (a33, 24000, .inl (fun _ => 0))), (q42, .inl (a42, 24000, .inl (fun _ => 0))), (q51, .inl (a51, 4096, .inl (fun _ => 0))), (q83, .inl (a83, 65560, .inl (fun _ => 0)))] := hD
  have hK : va_K D vwCl [(a7, .char), (a15, .char), (a24, .int), (a33, .int), (a42, .int), (a51, .int), (a83, .byte)] s := hK
  refine W.widen (k := 10) (n := 470376) (by decide) (by decide) ?_
  refine va_putF (D := D) (ci := 12) (v := .ref q83) (ty := tyX12 15) (C := RX12) (T := TX12) (N := 82) hx hb htb bi_X12 tyX12 tyX12_ok nmX12 hown hK hP hD hS 0 rfl rfl 15 (by decide) (htb _ bg_105) (fun _ h9 => h9) rfl hin rfl (tyX12_ok 15 (by decide)) rfl rfl (by rw [hm.1]; decide) dX12_init_85 (fun H locs hP hD hS => ?_)
  have hP : va_P D vwCl [(m0, .inr (12, (fs.set 15 (.ref q83)))), (q7, .inl (a7, 66000, .inl (fun _ => 0))), (q15, .inl (a15, 66000, .inl (fun _ => 0))), (q24, .inl (a24, 24000, .inl (fun _ => 0))), (q33, .inl (a33, 24000, .inl (fun _ => 0))), (q42, .inl (a42, 24000, .inl (fun _ => 0))), (q51, .inl (a51, 4096, .inl (fun _ => 0))), (q83, .inl (a83, 65560, .inl (fun _ => 0)))] H := hP
  have hD : va_D A [(m0, .inr (12, (fs.set 15 (.ref q83)))), (q7, .inl (a7, 66000, .inl (fun _ => 0))), (q15, .inl (a15, 66000, .inl (fun _ => 0))), (q24, .inl (a24, 24000, .inl (fun _ => 0))), (q33, .inl (a33, 24000, .inl (fun _ => 0))), (q42, .inl (a42, 24000, .inl (fun _ => 0))), (q51, .inl (a51, 4096, .inl (fun _ => 0))), (q83, .inl (a83, 65560, .inl (fun _ => 0)))] := hD
  have hm : md_has (fs.set 15 (.ref q83)) [(15, .ref q83), (13, .ref q67), (7, .ref q51), (6, .ref q42), (5, .ref q33), (4, .ref q24), (2, .ref q15), (1, .ref q7), (17, .int 0), (19, .int 0)] := md_put hm 15 (.ref q83) (by decide) rfl
  generalize (fs.set 15 (.ref q83)) = fs at hP hD hm
  refine lv_aload_n hx hb dX12_init_88 rfl (lv_at hl 0 rfl) ?_
  refine lv_iconst (v := (-1)) hx hb dX12_init_89 (by decide) ?_
  refine va_put (D := D) (ci := 12) (v := .int (-1)) (ty := tyX12 18) (C := RX12) (T := TX12) (N := 82) hx hb htb bi_X12 tyX12 tyX12_ok nmX12 hown hK hP hD hS 0 rfl rfl 18 (by decide) (htb _ bg_106) (fun _ h9 => h9) rfl (tyX12_ok 18 (by decide)) rfl rfl (by rw [hm.1]; decide) dX12_init_90 (fun H locs hP hD hS => ?_)
  have hP : va_P D vwCl [(m0, .inr (12, (fs.set 18 (.int (-1))))), (q7, .inl (a7, 66000, .inl (fun _ => 0))), (q15, .inl (a15, 66000, .inl (fun _ => 0))), (q24, .inl (a24, 24000, .inl (fun _ => 0))), (q33, .inl (a33, 24000, .inl (fun _ => 0))), (q42, .inl (a42, 24000, .inl (fun _ => 0))), (q51, .inl (a51, 4096, .inl (fun _ => 0))), (q83, .inl (a83, 65560, .inl (fun _ => 0)))] H := hP
  have hD : va_D A [(m0, .inr (12, (fs.set 18 (.int (-1))))), (q7, .inl (a7, 66000, .inl (fun _ => 0))), (q15, .inl (a15, 66000, .inl (fun _ => 0))), (q24, .inl (a24, 24000, .inl (fun _ => 0))), (q33, .inl (a33, 24000, .inl (fun _ => 0))), (q42, .inl (a42, 24000, .inl (fun _ => 0))), (q51, .inl (a51, 4096, .inl (fun _ => 0))), (q83, .inl (a83, 65560, .inl (fun _ => 0)))] := hD
  have hm : md_has (fs.set 18 (.int (-1))) [(18, .int (-1)), (15, .ref q83), (13, .ref q67), (7, .ref q51), (6, .ref q42), (5, .ref q33), (4, .ref q24), (2, .ref q15), (1, .ref q7), (17, .int 0), (19, .int 0)] := md_put hm 18 (.int (-1)) (by decide) rfl
  generalize (fs.set 18 (.int (-1))) = fs at hP hD hm
  refine lv_aload_n hx hb dX12_init_93 rfl (lv_at hl 0 rfl) ?_
  refine lv_ldc (own := RX12) (v := 65540) hx hb hown (htb _ bg_107) dX12_init_94 ?_
  refine va_newa (atype := .int) (ty := .int) (a0 := (65540, .inl (fun _ => 0))) (N' := 65540) hx hb (htb _ bg_95) rfl hK hP hD hS hA (fun _ => rfl) (by decide) (by decide) (by decide) (Nat.le_of_ble_eq_true rfl) (Nat.le_of_ble_eq_true rfl) dX12_init_96 (fun q96 a96 H hK hP hD hS => ?_)
  have hP : va_P D vwCl [(m0, .inr (12, fs)), (q7, .inl (a7, 66000, .inl (fun _ => 0))), (q15, .inl (a15, 66000, .inl (fun _ => 0))), (q24, .inl (a24, 24000, .inl (fun _ => 0))), (q33, .inl (a33, 24000, .inl (fun _ => 0))), (q42, .inl (a42, 24000, .inl (fun _ => 0))), (q51, .inl (a51, 4096, .inl (fun _ => 0))), (q83, .inl (a83, 65560, .inl (fun _ => 0))), (q96, .inl (a96, 65540, .inl (fun _ => 0)))] H := hP
  have hD : va_D A [(m0, .inr (12, fs)), (q7, .inl (a7, 66000, .inl (fun _ => 0))), (q15, .inl (a15, 66000, .inl (fun _ => 0))), (q24, .inl (a24, 24000, .inl (fun _ => 0))), (q33, .inl (a33, 24000, .inl (fun _ => 0))), (q42, .inl (a42, 24000, .inl (fun _ => 0))), (q51, .inl (a51, 4096, .inl (fun _ => 0))), (q83, .inl (a83, 65560, .inl (fun _ => 0))), (q96, .inl (a96, 65540, .inl (fun _ => 0)))] := hD
  have hK : va_K D vwCl [(a7, .char), (a15, .char), (a24, .int), (a33, .int), (a42, .int), (a51, .int), (a83, .byte), (a96, .int)] s := hK
  refine W.widen (k := 11) (n := 535916) (by decide) (by decide) ?_
  refine va_putF (D := D) (ci := 12) (v := .ref q96) (ty := tyX12 21) (C := RX12) (T := TX12) (N := 82) hx hb htb bi_X12 tyX12 tyX12_ok nmX12 hown hK hP hD hS 0 rfl rfl 21 (by decide) (htb _ bg_108) (fun _ h9 => h9) rfl hin rfl (tyX12_ok 21 (by decide)) rfl rfl (by rw [hm.1]; decide) dX12_init_98 (fun H locs hP hD hS => ?_)
  have hP : va_P D vwCl [(m0, .inr (12, (fs.set 21 (.ref q96)))), (q7, .inl (a7, 66000, .inl (fun _ => 0))), (q15, .inl (a15, 66000, .inl (fun _ => 0))), (q24, .inl (a24, 24000, .inl (fun _ => 0))), (q33, .inl (a33, 24000, .inl (fun _ => 0))), (q42, .inl (a42, 24000, .inl (fun _ => 0))), (q51, .inl (a51, 4096, .inl (fun _ => 0))), (q83, .inl (a83, 65560, .inl (fun _ => 0))), (q96, .inl (a96, 65540, .inl (fun _ => 0)))] H := hP
  have hD : va_D A [(m0, .inr (12, (fs.set 21 (.ref q96)))), (q7, .inl (a7, 66000, .inl (fun _ => 0))), (q15, .inl (a15, 66000, .inl (fun _ => 0))), (q24, .inl (a24, 24000, .inl (fun _ => 0))), (q33, .inl (a33, 24000, .inl (fun _ => 0))), (q42, .inl (a42, 24000, .inl (fun _ => 0))), (q51, .inl (a51, 4096, .inl (fun _ => 0))), (q83, .inl (a83, 65560, .inl (fun _ => 0))), (q96, .inl (a96, 65540, .inl (fun _ => 0)))] := hD
  have hm : md_has (fs.set 21 (.ref q96)) [(18, .int (-1)), (15, .ref q83), (13, .ref q67), (7, .ref q51), (6, .ref q42), (5, .ref q33), (4, .ref q24), (2, .ref q15), (1, .ref q7), (17, .int 0), (19, .int 0)] := md_putD hm 21 (.ref q96) (by decide) rfl
  generalize (fs.set 21 (.ref q96)) = fs at hP hD hm
  have hP := hP.sub (ws' := [(m0, .inr (12, fs)), (q7, .inl (a7, 66000, .inl (fun _ => 0))), (q15, .inl (a15, 66000, .inl (fun _ => 0))), (q24, .inl (a24, 24000, .inl (fun _ => 0))), (q33, .inl (a33, 24000, .inl (fun _ => 0))), (q42, .inl (a42, 24000, .inl (fun _ => 0))), (q51, .inl (a51, 4096, .inl (fun _ => 0))), (q83, .inl (a83, 65560, .inl (fun _ => 0)))]) [0, 1, 2, 3, 4, 5, 6, 7] rfl
  have hD := hD.sub (ws' := [(m0, .inr (12, fs)), (q7, .inl (a7, 66000, .inl (fun _ => 0))), (q15, .inl (a15, 66000, .inl (fun _ => 0))), (q24, .inl (a24, 24000, .inl (fun _ => 0))), (q33, .inl (a33, 24000, .inl (fun _ => 0))), (q42, .inl (a42, 24000, .inl (fun _ => 0))), (q51, .inl (a51, 4096, .inl (fun _ => 0))), (q83, .inl (a83, 65560, .inl (fun _ => 0)))]) [0, 1, 2, 3, 4, 5, 6, 7] rfl rfl
  have hK := hK.sub (tys' := [(a7, .char), (a15, .char), (a24, .int), (a33, .int), (a42, .int), (a51, .int), (a83, .byte)]) [0, 1, 2, 3, 4, 5, 6] rfl
  refine lv_aload_n hx hb dX12_init_101 rfl (lv_at hl 0 rfl) ?_
  refine lv_ldc (own := RX12) (v := 65540) hx hb hown (htb _ bg_107) dX12_init_102 ?_
  refine va_newa (atype := .int) (ty := .int) (a0 := (65540, .inl (fun _ => 0))) (N' := 65540) hx hb (htb _ bg_95) rfl hK hP hD hS hA (fun _ => rfl) (by decide) (by decide) (by decide) (Nat.le_of_ble_eq_true rfl) (Nat.le_of_ble_eq_true rfl) dX12_init_104 (fun q104 a104 H hK hP hD hS => ?_)
  have hP : va_P D vwCl [(m0, .inr (12, fs)), (q7, .inl (a7, 66000, .inl (fun _ => 0))), (q15, .inl (a15, 66000, .inl (fun _ => 0))), (q24, .inl (a24, 24000, .inl (fun _ => 0))), (q33, .inl (a33, 24000, .inl (fun _ => 0))), (q42, .inl (a42, 24000, .inl (fun _ => 0))), (q51, .inl (a51, 4096, .inl (fun _ => 0))), (q83, .inl (a83, 65560, .inl (fun _ => 0))), (q104, .inl (a104, 65540, .inl (fun _ => 0)))] H := hP
  have hD : va_D A [(m0, .inr (12, fs)), (q7, .inl (a7, 66000, .inl (fun _ => 0))), (q15, .inl (a15, 66000, .inl (fun _ => 0))), (q24, .inl (a24, 24000, .inl (fun _ => 0))), (q33, .inl (a33, 24000, .inl (fun _ => 0))), (q42, .inl (a42, 24000, .inl (fun _ => 0))), (q51, .inl (a51, 4096, .inl (fun _ => 0))), (q83, .inl (a83, 65560, .inl (fun _ => 0))), (q104, .inl (a104, 65540, .inl (fun _ => 0)))] := hD
  have hK : va_K D vwCl [(a7, .char), (a15, .char), (a24, .int), (a33, .int), (a42, .int), (a51, .int), (a83, .byte), (a104, .int)] s := hK
  refine W.widen (k := 12) (n := 601456) (by decide) (by decide) ?_
  refine va_putF (D := D) (ci := 12) (v := .ref q104) (ty := tyX12 22) (C := RX12) (T := TX12) (N := 82) hx hb htb bi_X12 tyX12 tyX12_ok nmX12 hown hK hP hD hS 0 rfl rfl 22 (by decide) (htb _ bg_109) (fun _ h9 => h9) rfl hin rfl (tyX12_ok 22 (by decide)) rfl rfl (by rw [hm.1]; decide) dX12_init_106 (fun H locs hP hD hS => ?_)
  have hP : va_P D vwCl [(m0, .inr (12, (fs.set 22 (.ref q104)))), (q7, .inl (a7, 66000, .inl (fun _ => 0))), (q15, .inl (a15, 66000, .inl (fun _ => 0))), (q24, .inl (a24, 24000, .inl (fun _ => 0))), (q33, .inl (a33, 24000, .inl (fun _ => 0))), (q42, .inl (a42, 24000, .inl (fun _ => 0))), (q51, .inl (a51, 4096, .inl (fun _ => 0))), (q83, .inl (a83, 65560, .inl (fun _ => 0))), (q104, .inl (a104, 65540, .inl (fun _ => 0)))] H := hP
  have hD : va_D A [(m0, .inr (12, (fs.set 22 (.ref q104)))), (q7, .inl (a7, 66000, .inl (fun _ => 0))), (q15, .inl (a15, 66000, .inl (fun _ => 0))), (q24, .inl (a24, 24000, .inl (fun _ => 0))), (q33, .inl (a33, 24000, .inl (fun _ => 0))), (q42, .inl (a42, 24000, .inl (fun _ => 0))), (q51, .inl (a51, 4096, .inl (fun _ => 0))), (q83, .inl (a83, 65560, .inl (fun _ => 0))), (q104, .inl (a104, 65540, .inl (fun _ => 0)))] := hD
  have hm : md_has (fs.set 22 (.ref q104)) [(18, .int (-1)), (15, .ref q83), (13, .ref q67), (7, .ref q51), (6, .ref q42), (5, .ref q33), (4, .ref q24), (2, .ref q15), (1, .ref q7), (17, .int 0), (19, .int 0)] := md_putD hm 22 (.ref q104) (by decide) rfl
  generalize (fs.set 22 (.ref q104)) = fs at hP hD hm
  have hP := hP.sub (ws' := [(m0, .inr (12, fs)), (q7, .inl (a7, 66000, .inl (fun _ => 0))), (q15, .inl (a15, 66000, .inl (fun _ => 0))), (q24, .inl (a24, 24000, .inl (fun _ => 0))), (q33, .inl (a33, 24000, .inl (fun _ => 0))), (q42, .inl (a42, 24000, .inl (fun _ => 0))), (q51, .inl (a51, 4096, .inl (fun _ => 0))), (q83, .inl (a83, 65560, .inl (fun _ => 0)))]) [0, 1, 2, 3, 4, 5, 6, 7] rfl
  have hD := hD.sub (ws' := [(m0, .inr (12, fs)), (q7, .inl (a7, 66000, .inl (fun _ => 0))), (q15, .inl (a15, 66000, .inl (fun _ => 0))), (q24, .inl (a24, 24000, .inl (fun _ => 0))), (q33, .inl (a33, 24000, .inl (fun _ => 0))), (q42, .inl (a42, 24000, .inl (fun _ => 0))), (q51, .inl (a51, 4096, .inl (fun _ => 0))), (q83, .inl (a83, 65560, .inl (fun _ => 0)))]) [0, 1, 2, 3, 4, 5, 6, 7] rfl rfl
  have hK := hK.sub (tys' := [(a7, .char), (a15, .char), (a24, .int), (a33, .int), (a42, .int), (a51, .int), (a83, .byte)]) [0, 1, 2, 3, 4, 5, 6] rfl
  refine lv_aload_n hx hb dX12_init_109 rfl (lv_at hl 0 rfl) ?_
  refine lv_iconst (v := 1) hx hb dX12_init_110 (by decide) ?_
  refine va_newa (atype := .int) (ty := .int) (a0 := (1, .inl (fun _ => 0))) (N' := 1) hx hb (htb _ bg_95) rfl hK hP hD hS hA (fun _ => rfl) (by decide) (by decide) (by decide) (Nat.le_of_ble_eq_true rfl) (Nat.le_of_ble_eq_true rfl) dX12_init_111 (fun q111 a111 H hK hP hD hS => ?_)
  have hP : va_P D vwCl [(m0, .inr (12, fs)), (q7, .inl (a7, 66000, .inl (fun _ => 0))), (q15, .inl (a15, 66000, .inl (fun _ => 0))), (q24, .inl (a24, 24000, .inl (fun _ => 0))), (q33, .inl (a33, 24000, .inl (fun _ => 0))), (q42, .inl (a42, 24000, .inl (fun _ => 0))), (q51, .inl (a51, 4096, .inl (fun _ => 0))), (q83, .inl (a83, 65560, .inl (fun _ => 0))), (q111, .inl (a111, 1, .inl (fun _ => 0)))] H := hP
  have hD : va_D A [(m0, .inr (12, fs)), (q7, .inl (a7, 66000, .inl (fun _ => 0))), (q15, .inl (a15, 66000, .inl (fun _ => 0))), (q24, .inl (a24, 24000, .inl (fun _ => 0))), (q33, .inl (a33, 24000, .inl (fun _ => 0))), (q42, .inl (a42, 24000, .inl (fun _ => 0))), (q51, .inl (a51, 4096, .inl (fun _ => 0))), (q83, .inl (a83, 65560, .inl (fun _ => 0))), (q111, .inl (a111, 1, .inl (fun _ => 0)))] := hD
  have hK : va_K D vwCl [(a7, .char), (a15, .char), (a24, .int), (a33, .int), (a42, .int), (a51, .int), (a83, .byte), (a111, .int)] s := hK
  refine W.widen (k := 13) (n := 601457) (by decide) (by decide) ?_
  refine va_putF (D := D) (ci := 12) (v := .ref q111) (ty := tyX12 23) (C := RX12) (T := TX12) (N := 82) hx hb htb bi_X12 tyX12 tyX12_ok nmX12 hown hK hP hD hS 0 rfl rfl 23 (by decide) (htb _ bg_110) (fun _ h9 => h9) rfl hin rfl (tyX12_ok 23 (by decide)) rfl rfl (by rw [hm.1]; decide) dX12_init_113 (fun H locs hP hD hS => ?_)
  have hP : va_P D vwCl [(m0, .inr (12, (fs.set 23 (.ref q111)))), (q7, .inl (a7, 66000, .inl (fun _ => 0))), (q15, .inl (a15, 66000, .inl (fun _ => 0))), (q24, .inl (a24, 24000, .inl (fun _ => 0))), (q33, .inl (a33, 24000, .inl (fun _ => 0))), (q42, .inl (a42, 24000, .inl (fun _ => 0))), (q51, .inl (a51, 4096, .inl (fun _ => 0))), (q83, .inl (a83, 65560, .inl (fun _ => 0))), (q111, .inl (a111, 1, .inl (fun _ => 0)))] H := hP
  have hD : va_D A [(m0, .inr (12, (fs.set 23 (.ref q111)))), (q7, .inl (a7, 66000, .inl (fun _ => 0))), (q15, .inl (a15, 66000, .inl (fun _ => 0))), (q24, .inl (a24, 24000, .inl (fun _ => 0))), (q33, .inl (a33, 24000, .inl (fun _ => 0))), (q42, .inl (a42, 24000, .inl (fun _ => 0))), (q51, .inl (a51, 4096, .inl (fun _ => 0))), (q83, .inl (a83, 65560, .inl (fun _ => 0))), (q111, .inl (a111, 1, .inl (fun _ => 0)))] := hD
  have hm : md_has (fs.set 23 (.ref q111)) [(18, .int (-1)), (15, .ref q83), (13, .ref q67), (7, .ref q51), (6, .ref q42), (5, .ref q33), (4, .ref q24), (2, .ref q15), (1, .ref q7), (17, .int 0), (19, .int 0)] := md_putD hm 23 (.ref q111) (by decide) rfl
  generalize (fs.set 23 (.ref q111)) = fs at hP hD hm
  have hP := hP.sub (ws' := [(m0, .inr (12, fs)), (q7, .inl (a7, 66000, .inl (fun _ => 0))), (q15, .inl (a15, 66000, .inl (fun _ => 0))), (q24, .inl (a24, 24000, .inl (fun _ => 0))), (q33, .inl (a33, 24000, .inl (fun _ => 0))), (q42, .inl (a42, 24000, .inl (fun _ => 0))), (q51, .inl (a51, 4096, .inl (fun _ => 0))), (q83, .inl (a83, 65560, .inl (fun _ => 0)))]) [0, 1, 2, 3, 4, 5, 6, 7] rfl
  have hD := hD.sub (ws' := [(m0, .inr (12, fs)), (q7, .inl (a7, 66000, .inl (fun _ => 0))), (q15, .inl (a15, 66000, .inl (fun _ => 0))), (q24, .inl (a24, 24000, .inl (fun _ => 0))), (q33, .inl (a33, 24000, .inl (fun _ => 0))), (q42, .inl (a42, 24000, .inl (fun _ => 0))), (q51, .inl (a51, 4096, .inl (fun _ => 0))), (q83, .inl (a83, 65560, .inl (fun _ => 0)))]) [0, 1, 2, 3, 4, 5, 6, 7] rfl rfl
  have hK := hK.sub (tys' := [(a7, .char), (a15, .char), (a24, .int), (a33, .int), (a42, .int), (a51, .int), (a83, .byte)]) [0, 1, 2, 3, 4, 5, 6] rfl
  refine lv_aload_n hx hb dX12_init_116 rfl (lv_at hl 0 rfl) ?_
  refine lv_iconst (v := 1) hx hb dX12_init_117 (by decide) ?_
  refine va_newa (atype := .int) (ty := .int) (a0 := (1, .inl (fun _ => 0))) (N' := 1) hx hb (htb _ bg_95) rfl hK hP hD hS hA (fun _ => rfl) (by decide) (by decide) (by decide) (Nat.le_of_ble_eq_true rfl) (Nat.le_of_ble_eq_true rfl) dX12_init_118 (fun q118 a118 H hK hP hD hS => ?_)
  have hP : va_P D vwCl [(m0, .inr (12, fs)), (q7, .inl (a7, 66000, .inl (fun _ => 0))), (q15, .inl (a15, 66000, .inl (fun _ => 0))), (q24, .inl (a24, 24000, .inl (fun _ => 0))), (q33, .inl (a33, 24000, .inl (fun _ => 0))), (q42, .inl (a42, 24000, .inl (fun _ => 0))), (q51, .inl (a51, 4096, .inl (fun _ => 0))), (q83, .inl (a83, 65560, .inl (fun _ => 0))), (q118, .inl (a118, 1, .inl (fun _ => 0)))] H := hP
  have hD : va_D A [(m0, .inr (12, fs)), (q7, .inl (a7, 66000, .inl (fun _ => 0))), (q15, .inl (a15, 66000, .inl (fun _ => 0))), (q24, .inl (a24, 24000, .inl (fun _ => 0))), (q33, .inl (a33, 24000, .inl (fun _ => 0))), (q42, .inl (a42, 24000, .inl (fun _ => 0))), (q51, .inl (a51, 4096, .inl (fun _ => 0))), (q83, .inl (a83, 65560, .inl (fun _ => 0))), (q118, .inl (a118, 1, .inl (fun _ => 0)))] := hD
  have hK : va_K D vwCl [(a7, .char), (a15, .char), (a24, .int), (a33, .int), (a42, .int), (a51, .int), (a83, .byte), (a118, .int)] s := hK
  refine W.widen (k := 14) (n := 601458) (by decide) (by decide) ?_
  refine va_putF (D := D) (ci := 12) (v := .ref q118) (ty := tyX12 24) (C := RX12) (T := TX12) (N := 82) hx hb htb bi_X12 tyX12 tyX12_ok nmX12 hown hK hP hD hS 0 rfl rfl 24 (by decide) (htb _ bg_111) (fun _ h9 => h9) rfl hin rfl (tyX12_ok 24 (by decide)) rfl rfl (by rw [hm.1]; decide) dX12_init_120 (fun H locs hP hD hS => ?_)
  have hP : va_P D vwCl [(m0, .inr (12, (fs.set 24 (.ref q118)))), (q7, .inl (a7, 66000, .inl (fun _ => 0))), (q15, .inl (a15, 66000, .inl (fun _ => 0))), (q24, .inl (a24, 24000, .inl (fun _ => 0))), (q33, .inl (a33, 24000, .inl (fun _ => 0))), (q42, .inl (a42, 24000, .inl (fun _ => 0))), (q51, .inl (a51, 4096, .inl (fun _ => 0))), (q83, .inl (a83, 65560, .inl (fun _ => 0))), (q118, .inl (a118, 1, .inl (fun _ => 0)))] H := hP
  have hD : va_D A [(m0, .inr (12, (fs.set 24 (.ref q118)))), (q7, .inl (a7, 66000, .inl (fun _ => 0))), (q15, .inl (a15, 66000, .inl (fun _ => 0))), (q24, .inl (a24, 24000, .inl (fun _ => 0))), (q33, .inl (a33, 24000, .inl (fun _ => 0))), (q42, .inl (a42, 24000, .inl (fun _ => 0))), (q51, .inl (a51, 4096, .inl (fun _ => 0))), (q83, .inl (a83, 65560, .inl (fun _ => 0))), (q118, .inl (a118, 1, .inl (fun _ => 0)))] := hD
  have hm : md_has (fs.set 24 (.ref q118)) [(18, .int (-1)), (15, .ref q83), (13, .ref q67), (7, .ref q51), (6, .ref q42), (5, .ref q33), (4, .ref q24), (2, .ref q15), (1, .ref q7), (17, .int 0), (19, .int 0)] := md_putD hm 24 (.ref q118) (by decide) rfl
  generalize (fs.set 24 (.ref q118)) = fs at hP hD hm
  have hP := hP.sub (ws' := [(m0, .inr (12, fs)), (q7, .inl (a7, 66000, .inl (fun _ => 0))), (q15, .inl (a15, 66000, .inl (fun _ => 0))), (q24, .inl (a24, 24000, .inl (fun _ => 0))), (q33, .inl (a33, 24000, .inl (fun _ => 0))), (q42, .inl (a42, 24000, .inl (fun _ => 0))), (q51, .inl (a51, 4096, .inl (fun _ => 0))), (q83, .inl (a83, 65560, .inl (fun _ => 0)))]) [0, 1, 2, 3, 4, 5, 6, 7] rfl
  have hD := hD.sub (ws' := [(m0, .inr (12, fs)), (q7, .inl (a7, 66000, .inl (fun _ => 0))), (q15, .inl (a15, 66000, .inl (fun _ => 0))), (q24, .inl (a24, 24000, .inl (fun _ => 0))), (q33, .inl (a33, 24000, .inl (fun _ => 0))), (q42, .inl (a42, 24000, .inl (fun _ => 0))), (q51, .inl (a51, 4096, .inl (fun _ => 0))), (q83, .inl (a83, 65560, .inl (fun _ => 0)))]) [0, 1, 2, 3, 4, 5, 6, 7] rfl rfl
  have hK := hK.sub (tys' := [(a7, .char), (a15, .char), (a24, .int), (a33, .int), (a42, .int), (a51, .int), (a83, .byte)]) [0, 1, 2, 3, 4, 5, 6] rfl
  refine lv_aload_n hx hb dX12_init_123 rfl (lv_at hl 0 rfl) ?_
  refine lv_sipush (v := 8300) hx hb dX12_init_124 (by decide) ?_
  refine va_newa (atype := .int) (ty := .int) (a0 := (8300, .inl (fun _ => 0))) (N' := 8300) hx hb (htb _ bg_95) rfl hK hP hD hS hA (fun _ => rfl) (by decide) (by decide) (by decide) (Nat.le_of_ble_eq_true rfl) (Nat.le_of_ble_eq_true rfl) dX12_init_127 (fun q127 a127 H hK hP hD hS => ?_)
  have hP : va_P D vwCl [(m0, .inr (12, fs)), (q7, .inl (a7, 66000, .inl (fun _ => 0))), (q15, .inl (a15, 66000, .inl (fun _ => 0))), (q24, .inl (a24, 24000, .inl (fun _ => 0))), (q33, .inl (a33, 24000, .inl (fun _ => 0))), (q42, .inl (a42, 24000, .inl (fun _ => 0))), (q51, .inl (a51, 4096, .inl (fun _ => 0))), (q83, .inl (a83, 65560, .inl (fun _ => 0))), (q127, .inl (a127, 8300, .inl (fun _ => 0)))] H := hP
  have hD : va_D A [(m0, .inr (12, fs)), (q7, .inl (a7, 66000, .inl (fun _ => 0))), (q15, .inl (a15, 66000, .inl (fun _ => 0))), (q24, .inl (a24, 24000, .inl (fun _ => 0))), (q33, .inl (a33, 24000, .inl (fun _ => 0))), (q42, .inl (a42, 24000, .inl (fun _ => 0))), (q51, .inl (a51, 4096, .inl (fun _ => 0))), (q83, .inl (a83, 65560, .inl (fun _ => 0))), (q127, .inl (a127, 8300, .inl (fun _ => 0)))] := hD
  have hK : va_K D vwCl [(a7, .char), (a15, .char), (a24, .int), (a33, .int), (a42, .int), (a51, .int), (a83, .byte), (a127, .int)] s := hK
  refine W.widen (k := 15) (n := 609758) (by decide) (by decide) ?_
  refine va_putF (D := D) (ci := 12) (v := .ref q127) (ty := tyX12 27) (C := RX12) (T := TX12) (N := 82) hx hb htb bi_X12 tyX12 tyX12_ok nmX12 hown hK hP hD hS 0 rfl rfl 27 (by decide) (htb _ bg_112) (fun _ h9 => h9) rfl hin rfl (tyX12_ok 27 (by decide)) rfl rfl (by rw [hm.1]; decide) dX12_init_129 (fun H locs hP hD hS => ?_)
  have hP : va_P D vwCl [(m0, .inr (12, (fs.set 27 (.ref q127)))), (q7, .inl (a7, 66000, .inl (fun _ => 0))), (q15, .inl (a15, 66000, .inl (fun _ => 0))), (q24, .inl (a24, 24000, .inl (fun _ => 0))), (q33, .inl (a33, 24000, .inl (fun _ => 0))), (q42, .inl (a42, 24000, .inl (fun _ => 0))), (q51, .inl (a51, 4096, .inl (fun _ => 0))), (q83, .inl (a83, 65560, .inl (fun _ => 0))), (q127, .inl (a127, 8300, .inl (fun _ => 0)))] H := hP
  have hD : va_D A [(m0, .inr (12, (fs.set 27 (.ref q127)))), (q7, .inl (a7, 66000, .inl (fun _ => 0))), (q15, .inl (a15, 66000, .inl (fun _ => 0))), (q24, .inl (a24, 24000, .inl (fun _ => 0))), (q33, .inl (a33, 24000, .inl (fun _ => 0))), (q42, .inl (a42, 24000, .inl (fun _ => 0))), (q51, .inl (a51, 4096, .inl (fun _ => 0))), (q83, .inl (a83, 65560, .inl (fun _ => 0))), (q127, .inl (a127, 8300, .inl (fun _ => 0)))] := hD
  have hm : md_has (fs.set 27 (.ref q127)) [(18, .int (-1)), (15, .ref q83), (13, .ref q67), (7, .ref q51), (6, .ref q42), (5, .ref q33), (4, .ref q24), (2, .ref q15), (1, .ref q7), (17, .int 0), (19, .int 0)] := md_putD hm 27 (.ref q127) (by decide) rfl
  generalize (fs.set 27 (.ref q127)) = fs at hP hD hm
  have hP := hP.sub (ws' := [(m0, .inr (12, fs)), (q7, .inl (a7, 66000, .inl (fun _ => 0))), (q15, .inl (a15, 66000, .inl (fun _ => 0))), (q24, .inl (a24, 24000, .inl (fun _ => 0))), (q33, .inl (a33, 24000, .inl (fun _ => 0))), (q42, .inl (a42, 24000, .inl (fun _ => 0))), (q51, .inl (a51, 4096, .inl (fun _ => 0))), (q83, .inl (a83, 65560, .inl (fun _ => 0)))]) [0, 1, 2, 3, 4, 5, 6, 7] rfl
  have hD := hD.sub (ws' := [(m0, .inr (12, fs)), (q7, .inl (a7, 66000, .inl (fun _ => 0))), (q15, .inl (a15, 66000, .inl (fun _ => 0))), (q24, .inl (a24, 24000, .inl (fun _ => 0))), (q33, .inl (a33, 24000, .inl (fun _ => 0))), (q42, .inl (a42, 24000, .inl (fun _ => 0))), (q51, .inl (a51, 4096, .inl (fun _ => 0))), (q83, .inl (a83, 65560, .inl (fun _ => 0)))]) [0, 1, 2, 3, 4, 5, 6, 7] rfl rfl
  have hK := hK.sub (tys' := [(a7, .char), (a15, .char), (a24, .int), (a33, .int), (a42, .int), (a51, .int), (a83, .byte)]) [0, 1, 2, 3, 4, 5, 6] rfl
  refine lv_aload_n hx hb dX12_init_132 rfl (lv_at hl 0 rfl) ?_
  refine lv_sipush (v := 8300) hx hb dX12_init_133 (by decide) ?_
  refine va_newa (atype := .int) (ty := .int) (a0 := (8300, .inl (fun _ => 0))) (N' := 8300) hx hb (htb _ bg_95) rfl hK hP hD hS hA (fun _ => rfl) (by decide) (by decide) (by decide) (Nat.le_of_ble_eq_true rfl) (Nat.le_of_ble_eq_true rfl) dX12_init_136 (fun q136 a136 H hK hP hD hS => ?_)
  have hP : va_P D vwCl [(m0, .inr (12, fs)), (q7, .inl (a7, 66000, .inl (fun _ => 0))), (q15, .inl (a15, 66000, .inl (fun _ => 0))), (q24, .inl (a24, 24000, .inl (fun _ => 0))), (q33, .inl (a33, 24000, .inl (fun _ => 0))), (q42, .inl (a42, 24000, .inl (fun _ => 0))), (q51, .inl (a51, 4096, .inl (fun _ => 0))), (q83, .inl (a83, 65560, .inl (fun _ => 0))), (q136, .inl (a136, 8300, .inl (fun _ => 0)))] H := hP
  have hD : va_D A [(m0, .inr (12, fs)), (q7, .inl (a7, 66000, .inl (fun _ => 0))), (q15, .inl (a15, 66000, .inl (fun _ => 0))), (q24, .inl (a24, 24000, .inl (fun _ => 0))), (q33, .inl (a33, 24000, .inl (fun _ => 0))), (q42, .inl (a42, 24000, .inl (fun _ => 0))), (q51, .inl (a51, 4096, .inl (fun _ => 0))), (q83, .inl (a83, 65560, .inl (fun _ => 0))), (q136, .inl (a136, 8300, .inl (fun _ => 0)))] := hD
  have hK : va_K D vwCl [(a7, .char), (a15, .char), (a24, .int), (a33, .int), (a42, .int), (a51, .int), (a83, .byte), (a136, .int)] s := hK
  refine W.widen (k := 16) (n := 618058) (by decide) (by decide) ?_
  refine va_putF (D := D) (ci := 12) (v := .ref q136) (ty := tyX12 28) (C := RX12) (T := TX12) (N := 82) hx hb htb bi_X12 tyX12 tyX12_ok nmX12 hown hK hP hD hS 0 rfl rfl 28 (by decide) (htb _ bg_113) (fun _ h9 => h9) rfl hin rfl (tyX12_ok 28 (by decide)) rfl rfl (by rw [hm.1]; decide) dX12_init_138 (fun H locs hP hD hS => ?_)
  have hP : va_P D vwCl [(m0, .inr (12, (fs.set 28 (.ref q136)))), (q7, .inl (a7, 66000, .inl (fun _ => 0))), (q15, .inl (a15, 66000, .inl (fun _ => 0))), (q24, .inl (a24, 24000, .inl (fun _ => 0))), (q33, .inl (a33, 24000, .inl (fun _ => 0))), (q42, .inl (a42, 24000, .inl (fun _ => 0))), (q51, .inl (a51, 4096, .inl (fun _ => 0))), (q83, .inl (a83, 65560, .inl (fun _ => 0))), (q136, .inl (a136, 8300, .inl (fun _ => 0)))] H := hP
  have hD : va_D A [(m0, .inr (12, (fs.set 28 (.ref q136)))), (q7, .inl (a7, 66000, .inl (fun _ => 0))), (q15, .inl (a15, 66000, .inl (fun _ => 0))), (q24, .inl (a24, 24000, .inl (fun _ => 0))), (q33, .inl (a33, 24000, .inl (fun _ => 0))), (q42, .inl (a42, 24000, .inl (fun _ => 0))), (q51, .inl (a51, 4096, .inl (fun _ => 0))), (q83, .inl (a83, 65560, .inl (fun _ => 0))), (q136, .inl (a136, 8300, .inl (fun _ => 0)))] := hD
  have hm : md_has (fs.set 28 (.ref q136)) [(18, .int (-1)), (15, .ref q83), (13, .ref q67), (7, .ref q51), (6, .ref q42), (5, .ref q33), (4, .ref q24), (2, .ref q15), (1, .ref q7), (17, .int 0), (19, .int 0)] := md_putD hm 28 (.ref q136) (by decide) rfl
  generalize (fs.set 28 (.ref q136)) = fs at hP hD hm
  have hP := hP.sub (ws' := [(m0, .inr (12, fs)), (q7, .inl (a7, 66000, .inl (fun _ => 0))), (q15, .inl (a15, 66000, .inl (fun _ => 0))), (q24, .inl (a24, 24000, .inl (fun _ => 0))), (q33, .inl (a33, 24000, .inl (fun _ => 0))), (q42, .inl (a42, 24000, .inl (fun _ => 0))), (q51, .inl (a51, 4096, .inl (fun _ => 0))), (q83, .inl (a83, 65560, .inl (fun _ => 0)))]) [0, 1, 2, 3, 4, 5, 6, 7] rfl
  have hD := hD.sub (ws' := [(m0, .inr (12, fs)), (q7, .inl (a7, 66000, .inl (fun _ => 0))), (q15, .inl (a15, 66000, .inl (fun _ => 0))), (q24, .inl (a24, 24000, .inl (fun _ => 0))), (q33, .inl (a33, 24000, .inl (fun _ => 0))), (q42, .inl (a42, 24000, .inl (fun _ => 0))), (q51, .inl (a51, 4096, .inl (fun _ => 0))), (q83, .inl (a83, 65560, .inl (fun _ => 0)))]) [0, 1, 2, 3, 4, 5, 6, 7] rfl rfl
  have hK := hK.sub (tys' := [(a7, .char), (a15, .char), (a24, .int), (a33, .int), (a42, .int), (a51, .int), (a83, .byte)]) [0, 1, 2, 3, 4, 5, 6] rfl
  refine lv_aload_n hx hb dX12_init_141 rfl (lv_at hl 0 rfl) ?_
  refine lv_sipush (v := 8300) hx hb dX12_init_142 (by decide) ?_
  refine va_newa (atype := .int) (ty := .int) (a0 := (8300, .inl (fun _ => 0))) (N' := 8300) hx hb (htb _ bg_95) rfl hK hP hD hS hA (fun _ => rfl) (by decide) (by decide) (by decide) (Nat.le_of_ble_eq_true rfl) (Nat.le_of_ble_eq_true rfl) dX12_init_145 (fun q145 a145 H hK hP hD hS => ?_)
  have hP : va_P D vwCl [(m0, .inr (12, fs)), (q7, .inl (a7, 66000, .inl (fun _ => 0))), (q15, .inl (a15, 66000, .inl (fun _ => 0))), (q24, .inl (a24, 24000, .inl (fun _ => 0))), (q33, .inl (a33, 24000, .inl (fun _ => 0))), (q42, .inl (a42, 24000, .inl (fun _ => 0))), (q51, .inl (a51, 4096, .inl (fun _ => 0))), (q83, .inl (a83, 65560, .inl (fun _ => 0))), (q145, .inl (a145, 8300, .inl (fun _ => 0)))] H := hP
  have hD : va_D A [(m0, .inr (12, fs)), (q7, .inl (a7, 66000, .inl (fun _ => 0))), (q15, .inl (a15, 66000, .inl (fun _ => 0))), (q24, .inl (a24, 24000, .inl (fun _ => 0))), (q33, .inl (a33, 24000, .inl (fun _ => 0))), (q42, .inl (a42, 24000, .inl (fun _ => 0))), (q51, .inl (a51, 4096, .inl (fun _ => 0))), (q83, .inl (a83, 65560, .inl (fun _ => 0))), (q145, .inl (a145, 8300, .inl (fun _ => 0)))] := hD
  have hK : va_K D vwCl [(a7, .char), (a15, .char), (a24, .int), (a33, .int), (a42, .int), (a51, .int), (a83, .byte), (a145, .int)] s := hK
  refine W.widen (k := 17) (n := 626358) (by decide) (by decide) ?_
  refine va_putF (D := D) (ci := 12) (v := .ref q145) (ty := tyX12 29) (C := RX12) (T := TX12) (N := 82) hx hb htb bi_X12 tyX12 tyX12_ok nmX12 hown hK hP hD hS 0 rfl rfl 29 (by decide) (htb _ bg_114) (fun _ h9 => h9) rfl hin rfl (tyX12_ok 29 (by decide)) rfl rfl (by rw [hm.1]; decide) dX12_init_147 (fun H locs hP hD hS => ?_)
  have hP : va_P D vwCl [(m0, .inr (12, (fs.set 29 (.ref q145)))), (q7, .inl (a7, 66000, .inl (fun _ => 0))), (q15, .inl (a15, 66000, .inl (fun _ => 0))), (q24, .inl (a24, 24000, .inl (fun _ => 0))), (q33, .inl (a33, 24000, .inl (fun _ => 0))), (q42, .inl (a42, 24000, .inl (fun _ => 0))), (q51, .inl (a51, 4096, .inl (fun _ => 0))), (q83, .inl (a83, 65560, .inl (fun _ => 0))), (q145, .inl (a145, 8300, .inl (fun _ => 0)))] H := hP
  have hD : va_D A [(m0, .inr (12, (fs.set 29 (.ref q145)))), (q7, .inl (a7, 66000, .inl (fun _ => 0))), (q15, .inl (a15, 66000, .inl (fun _ => 0))), (q24, .inl (a24, 24000, .inl (fun _ => 0))), (q33, .inl (a33, 24000, .inl (fun _ => 0))), (q42, .inl (a42, 24000, .inl (fun _ => 0))), (q51, .inl (a51, 4096, .inl (fun _ => 0))), (q83, .inl (a83, 65560, .inl (fun _ => 0))), (q145, .inl (a145, 8300, .inl (fun _ => 0)))] := hD
  have hm : md_has (fs.set 29 (.ref q145)) [(18, .int (-1)), (15, .ref q83), (13, .ref q67), (7, .ref q51), (6, .ref q42), (5, .ref q33), (4, .ref q24), (2, .ref q15), (1, .ref q7), (17, .int 0), (19, .int 0)] := md_putD hm 29 (.ref q145) (by decide) rfl
  generalize (fs.set 29 (.ref q145)) = fs at hP hD hm
  have hP := hP.sub (ws' := [(m0, .inr (12, fs)), (q7, .inl (a7, 66000, .inl (fun _ => 0))), (q15, .inl (a15, 66000, .inl (fun _ => 0))), (q24, .inl (a24, 24000, .inl (fun _ => 0))), (q33, .inl (a33, 24000, .inl (fun _ => 0))), (q42, .inl (a42, 24000, .inl (fun _ => 0))), (q51, .inl (a51, 4096, .inl (fun _ => 0))), (q83, .inl (a83, 65560, .inl (fun _ => 0)))]) [0, 1, 2, 3, 4, 5, 6, 7] rfl
  have hD := hD.sub (ws' := [(m0, .inr (12, fs)), (q7, .inl (a7, 66000, .inl (fun _ => 0))), (q15, .inl (a15, 66000, .inl (fun _ => 0))), (q24, .inl (a24, 24000, .inl (fun _ => 0))), (q33, .inl (a33, 24000, .inl (fun _ => 0))), (q42, .inl (a42, 24000, .inl (fun _ => 0))), (q51, .inl (a51, 4096, .inl (fun _ => 0))), (q83, .inl (a83, 65560, .inl (fun _ => 0)))]) [0, 1, 2, 3, 4, 5, 6, 7] rfl rfl
  have hK := hK.sub (tys' := [(a7, .char), (a15, .char), (a24, .int), (a33, .int), (a42, .int), (a51, .int), (a83, .byte)]) [0, 1, 2, 3, 4, 5, 6] rfl
  refine lv_aload_n hx hb dX12_init_150 rfl (lv_at hl 0 rfl) ?_
  refine lv_sipush (v := 8300) hx hb dX12_init_151 (by decide) ?_
  refine va_newa (atype := .int) (ty := .int) (a0 := (8300, .inl (fun _ => 0))) (N' := 8300) hx hb (htb _ bg_95) rfl hK hP hD hS hA (fun _ => rfl) (by decide) (by decide) (by decide) (Nat.le_of_ble_eq_true rfl) (Nat.le_of_ble_eq_true rfl) dX12_init_154 (fun q154 a154 H hK hP hD hS => ?_)
  have hP : va_P D vwCl [(m0, .inr (12, fs)), (q7, .inl (a7, 66000, .inl (fun _ => 0))), (q15, .inl (a15, 66000, .inl (fun _ => 0))), (q24, .inl (a24, 24000, .inl (fun _ => 0))), (q33, .inl (a33, 24000, .inl (fun _ => 0))), (q42, .inl (a42, 24000, .inl (fun _ => 0))), (q51, .inl (a51, 4096, .inl (fun _ => 0))), (q83, .inl (a83, 65560, .inl (fun _ => 0))), (q154, .inl (a154, 8300, .inl (fun _ => 0)))] H := hP
  have hD : va_D A [(m0, .inr (12, fs)), (q7, .inl (a7, 66000, .inl (fun _ => 0))), (q15, .inl (a15, 66000, .inl (fun _ => 0))), (q24, .inl (a24, 24000, .inl (fun _ => 0))), (q33, .inl (a33, 24000, .inl (fun _ => 0))), (q42, .inl (a42, 24000, .inl (fun _ => 0))), (q51, .inl (a51, 4096, .inl (fun _ => 0))), (q83, .inl (a83, 65560, .inl (fun _ => 0))), (q154, .inl (a154, 8300, .inl (fun _ => 0)))] := hD
  have hK : va_K D vwCl [(a7, .char), (a15, .char), (a24, .int), (a33, .int), (a42, .int), (a51, .int), (a83, .byte), (a154, .int)] s := hK
  refine W.widen (k := 18) (n := 634658) (by decide) (by decide) ?_
  refine va_putF (D := D) (ci := 12) (v := .ref q154) (ty := tyX12 30) (C := RX12) (T := TX12) (N := 82) hx hb htb bi_X12 tyX12 tyX12_ok nmX12 hown hK hP hD hS 0 rfl rfl 30 (by decide) (htb _ bg_115) (fun _ h9 => h9) rfl hin rfl (tyX12_ok 30 (by decide)) rfl rfl (by rw [hm.1]; decide) dX12_init_156 (fun H locs hP hD hS => ?_)
  have hP : va_P D vwCl [(m0, .inr (12, (fs.set 30 (.ref q154)))), (q7, .inl (a7, 66000, .inl (fun _ => 0))), (q15, .inl (a15, 66000, .inl (fun _ => 0))), (q24, .inl (a24, 24000, .inl (fun _ => 0))), (q33, .inl (a33, 24000, .inl (fun _ => 0))), (q42, .inl (a42, 24000, .inl (fun _ => 0))), (q51, .inl (a51, 4096, .inl (fun _ => 0))), (q83, .inl (a83, 65560, .inl (fun _ => 0))), (q154, .inl (a154, 8300, .inl (fun _ => 0)))] H := hP
  have hD : va_D A [(m0, .inr (12, (fs.set 30 (.ref q154)))), (q7, .inl (a7, 66000, .inl (fun _ => 0))), (q15, .inl (a15, 66000, .inl (fun _ => 0))), (q24, .inl (a24, 24000, .inl (fun _ => 0))), (q33, .inl (a33, 24000, .inl (fun _ => 0))), (q42, .inl (a42, 24000, .inl (fun _ => 0))), (q51, .inl (a51, 4096, .inl (fun _ => 0))), (q83, .inl (a83, 65560, .inl (fun _ => 0))), (q154, .inl (a154, 8300, .inl (fun _ => 0)))] := hD
  have hm : md_has (fs.set 30 (.ref q154)) [(18, .int (-1)), (15, .ref q83), (13, .ref q67), (7, .ref q51), (6, .ref q42), (5, .ref q33), (4, .ref q24), (2, .ref q15), (1, .ref q7), (17, .int 0), (19, .int 0)] := md_putD hm 30 (.ref q154) (by decide) rfl
  generalize (fs.set 30 (.ref q154)) = fs at hP hD hm
  have hP := hP.sub (ws' := [(m0, .inr (12, fs)), (q7, .inl (a7, 66000, .inl (fun _ => 0))), (q15, .inl (a15, 66000, .inl (fun _ => 0))), (q24, .inl (a24, 24000, .inl (fun _ => 0))), (q33, .inl (a33, 24000, .inl (fun _ => 0))), (q42, .inl (a42, 24000, .inl (fun _ => 0))), (q51, .inl (a51, 4096, .inl (fun _ => 0))), (q83, .inl (a83, 65560, .inl (fun _ => 0)))]) [0, 1, 2, 3, 4, 5, 6, 7] rfl
  have hD := hD.sub (ws' := [(m0, .inr (12, fs)), (q7, .inl (a7, 66000, .inl (fun _ => 0))), (q15, .inl (a15, 66000, .inl (fun _ => 0))), (q24, .inl (a24, 24000, .inl (fun _ => 0))), (q33, .inl (a33, 24000, .inl (fun _ => 0))), (q42, .inl (a42, 24000, .inl (fun _ => 0))), (q51, .inl (a51, 4096, .inl (fun _ => 0))), (q83, .inl (a83, 65560, .inl (fun _ => 0)))]) [0, 1, 2, 3, 4, 5, 6, 7] rfl rfl
  have hK := hK.sub (tys' := [(a7, .char), (a15, .char), (a24, .int), (a33, .int), (a42, .int), (a51, .int), (a83, .byte)]) [0, 1, 2, 3, 4, 5, 6] rfl
  refine lv_aload_n hx hb dX12_init_159 rfl (lv_at hl 0 rfl) ?_
  refine lv_sipush (v := 8300) hx hb dX12_init_160 (by decide) ?_
  refine va_newa (atype := .int) (ty := .int) (a0 := (8300, .inl (fun _ => 0))) (N' := 8300) hx hb (htb _ bg_95) rfl hK hP hD hS hA (fun _ => rfl) (by decide) (by decide) (by decide) (Nat.le_of_ble_eq_true rfl) (Nat.le_of_ble_eq_true rfl) dX12_init_163 (fun q163 a163 H hK hP hD hS => ?_)
  have hP : va_P D vwCl [(m0, .inr (12, fs)), (q7, .inl (a7, 66000, .inl (fun _ => 0))), (q15, .inl (a15, 66000, .inl (fun _ => 0))), (q24, .inl (a24, 24000, .inl (fun _ => 0))), (q33, .inl (a33, 24000, .inl (fun _ => 0))), (q42, .inl (a42, 24000, .inl (fun _ => 0))), (q51, .inl (a51, 4096, .inl (fun _ => 0))), (q83, .inl (a83, 65560, .inl (fun _ => 0))), (q163, .inl (a163, 8300, .inl (fun _ => 0)))] H := hP
  have hD : va_D A [(m0, .inr (12, fs)), (q7, .inl (a7, 66000, .inl (fun _ => 0))), (q15, .inl (a15, 66000, .inl (fun _ => 0))), (q24, .inl (a24, 24000, .inl (fun _ => 0))), (q33, .inl (a33, 24000, .inl (fun _ => 0))), (q42, .inl (a42, 24000, .inl (fun _ => 0))), (q51, .inl (a51, 4096, .inl (fun _ => 0))), (q83, .inl (a83, 65560, .inl (fun _ => 0))), (q163, .inl (a163, 8300, .inl (fun _ => 0)))] := hD
  have hK : va_K D vwCl [(a7, .char), (a15, .char), (a24, .int), (a33, .int), (a42, .int), (a51, .int), (a83, .byte), (a163, .int)] s := hK
  refine W.widen (k := 19) (n := 642958) (by decide) (by decide) ?_
  refine va_putF (D := D) (ci := 12) (v := .ref q163) (ty := tyX12 31) (C := RX12) (T := TX12) (N := 82) hx hb htb bi_X12 tyX12 tyX12_ok nmX12 hown hK hP hD hS 0 rfl rfl 31 (by decide) (htb _ bg_116) (fun _ h9 => h9) rfl hin rfl (tyX12_ok 31 (by decide)) rfl rfl (by rw [hm.1]; decide) dX12_init_165 (fun H locs hP hD hS => ?_)
  have hP : va_P D vwCl [(m0, .inr (12, (fs.set 31 (.ref q163)))), (q7, .inl (a7, 66000, .inl (fun _ => 0))), (q15, .inl (a15, 66000, .inl (fun _ => 0))), (q24, .inl (a24, 24000, .inl (fun _ => 0))), (q33, .inl (a33, 24000, .inl (fun _ => 0))), (q42, .inl (a42, 24000, .inl (fun _ => 0))), (q51, .inl (a51, 4096, .inl (fun _ => 0))), (q83, .inl (a83, 65560, .inl (fun _ => 0))), (q163, .inl (a163, 8300, .inl (fun _ => 0)))] H := hP
  have hD : va_D A [(m0, .inr (12, (fs.set 31 (.ref q163)))), (q7, .inl (a7, 66000, .inl (fun _ => 0))), (q15, .inl (a15, 66000, .inl (fun _ => 0))), (q24, .inl (a24, 24000, .inl (fun _ => 0))), (q33, .inl (a33, 24000, .inl (fun _ => 0))), (q42, .inl (a42, 24000, .inl (fun _ => 0))), (q51, .inl (a51, 4096, .inl (fun _ => 0))), (q83, .inl (a83, 65560, .inl (fun _ => 0))), (q163, .inl (a163, 8300, .inl (fun _ => 0)))] := hD
  have hm : md_has (fs.set 31 (.ref q163)) [(18, .int (-1)), (15, .ref q83), (13, .ref q67), (7, .ref q51), (6, .ref q42), (5, .ref q33), (4, .ref q24), (2, .ref q15), (1, .ref q7), (17, .int 0), (19, .int 0)] := md_putD hm 31 (.ref q163) (by decide) rfl
  generalize (fs.set 31 (.ref q163)) = fs at hP hD hm
  have hP := hP.sub (ws' := [(m0, .inr (12, fs)), (q7, .inl (a7, 66000, .inl (fun _ => 0))), (q15, .inl (a15, 66000, .inl (fun _ => 0))), (q24, .inl (a24, 24000, .inl (fun _ => 0))), (q33, .inl (a33, 24000, .inl (fun _ => 0))), (q42, .inl (a42, 24000, .inl (fun _ => 0))), (q51, .inl (a51, 4096, .inl (fun _ => 0))), (q83, .inl (a83, 65560, .inl (fun _ => 0)))]) [0, 1, 2, 3, 4, 5, 6, 7] rfl
  have hD := hD.sub (ws' := [(m0, .inr (12, fs)), (q7, .inl (a7, 66000, .inl (fun _ => 0))), (q15, .inl (a15, 66000, .inl (fun _ => 0))), (q24, .inl (a24, 24000, .inl (fun _ => 0))), (q33, .inl (a33, 24000, .inl (fun _ => 0))), (q42, .inl (a42, 24000, .inl (fun _ => 0))), (q51, .inl (a51, 4096, .inl (fun _ => 0))), (q83, .inl (a83, 65560, .inl (fun _ => 0)))]) [0, 1, 2, 3, 4, 5, 6, 7] rfl rfl
  have hK := hK.sub (tys' := [(a7, .char), (a15, .char), (a24, .int), (a33, .int), (a42, .int), (a51, .int), (a83, .byte)]) [0, 1, 2, 3, 4, 5, 6] rfl
  refine lv_aload_n hx hb dX12_init_168 rfl (lv_at hl 0 rfl) ?_
  refine lv_sipush (v := 8300) hx hb dX12_init_169 (by decide) ?_
  refine va_newa (atype := .int) (ty := .int) (a0 := (8300, .inl (fun _ => 0))) (N' := 8300) hx hb (htb _ bg_95) rfl hK hP hD hS hA (fun _ => rfl) (by decide) (by decide) (by decide) (Nat.le_of_ble_eq_true rfl) (Nat.le_of_ble_eq_true rfl) dX12_init_172 (fun q172 a172 H hK hP hD hS => ?_)
  have hP : va_P D vwCl [(m0, .inr (12, fs)), (q7, .inl (a7, 66000, .inl (fun _ => 0))), (q15, .inl (a15, 66000, .inl (fun _ => 0))), (q24, .inl (a24, 24000, .inl (fun _ => 0))), (q33, .inl (a33, 24000, .inl (fun _ => 0))), (q42, .inl (a42, 24000, .inl (fun _ => 0))), (q51, .inl (a51, 4096, .inl (fun _ => 0))), (q83, .inl (a83, 65560, .inl (fun _ => 0))), (q172, .inl (a172, 8300, .inl (fun _ => 0)))] H := hP
  have hD : va_D A [(m0, .inr (12, fs)), (q7, .inl (a7, 66000, .inl (fun _ => 0))), (q15, .inl (a15, 66000, .inl (fun _ => 0))), (q24, .inl (a24, 24000, .inl (fun _ => 0))), (q33, .inl (a33, 24000, .inl (fun _ => 0))), (q42, .inl (a42, 24000, .inl (fun _ => 0))), (q51, .inl (a51, 4096, .inl (fun _ => 0))), (q83, .inl (a83, 65560, .inl (fun _ => 0))), (q172, .inl (a172, 8300, .inl (fun _ => 0)))] := hD
  have hK : va_K D vwCl [(a7, .char), (a15, .char), (a24, .int), (a33, .int), (a42, .int), (a51, .int), (a83, .byte), (a172, .int)] s := hK
  refine W.widen (k := 20) (n := 651258) (by decide) (by decide) ?_
  refine va_putF (D := D) (ci := 12) (v := .ref q172) (ty := tyX12 32) (C := RX12) (T := TX12) (N := 82) hx hb htb bi_X12 tyX12 tyX12_ok nmX12 hown hK hP hD hS 0 rfl rfl 32 (by decide) (htb _ bg_117) (fun _ h9 => h9) rfl hin rfl (tyX12_ok 32 (by decide)) rfl rfl (by rw [hm.1]; decide) dX12_init_174 (fun H locs hP hD hS => ?_)
  have hP : va_P D vwCl [(m0, .inr (12, (fs.set 32 (.ref q172)))), (q7, .inl (a7, 66000, .inl (fun _ => 0))), (q15, .inl (a15, 66000, .inl (fun _ => 0))), (q24, .inl (a24, 24000, .inl (fun _ => 0))), (q33, .inl (a33, 24000, .inl (fun _ => 0))), (q42, .inl (a42, 24000, .inl (fun _ => 0))), (q51, .inl (a51, 4096, .inl (fun _ => 0))), (q83, .inl (a83, 65560, .inl (fun _ => 0))), (q172, .inl (a172, 8300, .inl (fun _ => 0)))] H := hP
  have hD : va_D A [(m0, .inr (12, (fs.set 32 (.ref q172)))), (q7, .inl (a7, 66000, .inl (fun _ => 0))), (q15, .inl (a15, 66000, .inl (fun _ => 0))), (q24, .inl (a24, 24000, .inl (fun _ => 0))), (q33, .inl (a33, 24000, .inl (fun _ => 0))), (q42, .inl (a42, 24000, .inl (fun _ => 0))), (q51, .inl (a51, 4096, .inl (fun _ => 0))), (q83, .inl (a83, 65560, .inl (fun _ => 0))), (q172, .inl (a172, 8300, .inl (fun _ => 0)))] := hD
  have hm : md_has (fs.set 32 (.ref q172)) [(18, .int (-1)), (15, .ref q83), (13, .ref q67), (7, .ref q51), (6, .ref q42), (5, .ref q33), (4, .ref q24), (2, .ref q15), (1, .ref q7), (17, .int 0), (19, .int 0)] := md_putD hm 32 (.ref q172) (by decide) rfl
  generalize (fs.set 32 (.ref q172)) = fs at hP hD hm
  have hP := hP.sub (ws' := [(m0, .inr (12, fs)), (q7, .inl (a7, 66000, .inl (fun _ => 0))), (q15, .inl (a15, 66000, .inl (fun _ => 0))), (q24, .inl (a24, 24000, .inl (fun _ => 0))), (q33, .inl (a33, 24000, .inl (fun _ => 0))), (q42, .inl (a42, 24000, .inl (fun _ => 0))), (q51, .inl (a51, 4096, .inl (fun _ => 0))), (q83, .inl (a83, 65560, .inl (fun _ => 0)))]) [0, 1, 2, 3, 4, 5, 6, 7] rfl
  have hD := hD.sub (ws' := [(m0, .inr (12, fs)), (q7, .inl (a7, 66000, .inl (fun _ => 0))), (q15, .inl (a15, 66000, .inl (fun _ => 0))), (q24, .inl (a24, 24000, .inl (fun _ => 0))), (q33, .inl (a33, 24000, .inl (fun _ => 0))), (q42, .inl (a42, 24000, .inl (fun _ => 0))), (q51, .inl (a51, 4096, .inl (fun _ => 0))), (q83, .inl (a83, 65560, .inl (fun _ => 0)))]) [0, 1, 2, 3, 4, 5, 6, 7] rfl rfl
  have hK := hK.sub (tys' := [(a7, .char), (a15, .char), (a24, .int), (a33, .int), (a42, .int), (a51, .int), (a83, .byte)]) [0, 1, 2, 3, 4, 5, 6] rfl
  refine lv_aload_n hx hb dX12_init_177 rfl (lv_at hl 0 rfl) ?_
  refine lv_sipush (v := 8300) hx hb dX12_init_178 (by decide) ?_
  refine va_newa (atype := .int) (ty := .int) (a0 := (8300, .inl (fun _ => 0))) (N' := 8300) hx hb (htb _ bg_95) rfl hK hP hD hS hA (fun _ => rfl) (by decide) (by decide) (by decide) (Nat.le_of_ble_eq_true rfl) (Nat.le_of_ble_eq_true rfl) dX12_init_181 (fun q181 a181 H hK hP hD hS => ?_)
  have hP : va_P D vwCl [(m0, .inr (12, fs)), (q7, .inl (a7, 66000, .inl (fun _ => 0))), (q15, .inl (a15, 66000, .inl (fun _ => 0))), (q24, .inl (a24, 24000, .inl (fun _ => 0))), (q33, .inl (a33, 24000, .inl (fun _ => 0))), (q42, .inl (a42, 24000, .inl (fun _ => 0))), (q51, .inl (a51, 4096, .inl (fun _ => 0))), (q83, .inl (a83, 65560, .inl (fun _ => 0))), (q181, .inl (a181, 8300, .inl (fun _ => 0)))] H := hP
  have hD : va_D A [(m0, .inr (12, fs)), (q7, .inl (a7, 66000, .inl (fun _ => 0))), (q15, .inl (a15, 66000, .inl (fun _ => 0))), (q24, .inl (a24, 24000, .inl (fun _ => 0))), (q33, .inl (a33, 24000, .inl (fun _ => 0))), (q42, .inl (a42, 24000, .inl (fun _ => 0))), (q51, .inl (a51, 4096, .inl (fun _ => 0))), (q83, .inl (a83, 65560, .inl (fun _ => 0))), (q181, .inl (a181, 8300, .inl (fun _ => 0)))] := hD
  have hK : va_K D vwCl [(a7, .char), (a15, .char), (a24, .int), (a33, .int), (a42, .int), (a51, .int), (a83, .byte), (a181, .int)] s := hK
  refine W.widen (k := 21) (n := 659558) (by decide) (by decide) ?_
  refine va_putF (D := D) (ci := 12) (v := .ref q181) (ty := tyX12 33) (C := RX12) (T := TX12) (N := 82) hx hb htb bi_X12 tyX12 tyX12_ok nmX12 hown hK hP hD hS 0 rfl rfl 33 (by decide) (htb _ bg_118) (fun _ h9 => h9) rfl hin rfl (tyX12_ok 33 (by decide)) rfl rfl (by rw [hm.1]; decide) dX12_init_183 (fun H locs hP hD hS => ?_)
  have hP : va_P D vwCl [(m0, .inr (12, (fs.set 33 (.ref q181)))), (q7, .inl (a7, 66000, .inl (fun _ => 0))), (q15, .inl (a15, 66000, .inl (fun _ => 0))), (q24, .inl (a24, 24000, .inl (fun _ => 0))), (q33, .inl (a33, 24000, .inl (fun _ => 0))), (q42, .inl (a42, 24000, .inl (fun _ => 0))), (q51, .inl (a51, 4096, .inl (fun _ => 0))), (q83, .inl (a83, 65560, .inl (fun _ => 0))), (q181, .inl (a181, 8300, .inl (fun _ => 0)))] H := hP
  have hD : va_D A [(m0, .inr (12, (fs.set 33 (.ref q181)))), (q7, .inl (a7, 66000, .inl (fun _ => 0))), (q15, .inl (a15, 66000, .inl (fun _ => 0))), (q24, .inl (a24, 24000, .inl (fun _ => 0))), (q33, .inl (a33, 24000, .inl (fun _ => 0))), (q42, .inl (a42, 24000, .inl (fun _ => 0))), (q51, .inl (a51, 4096, .inl (fun _ => 0))), (q83, .inl (a83, 65560, .inl (fun _ => 0))), (q181, .inl (a181, 8300, .inl (fun _ => 0)))] := hD
  have hm : md_has (fs.set 33 (.ref q181)) [(18, .int (-1)), (15, .ref q83), (13, .ref q67), (7, .ref q51), (6, .ref q42), (5, .ref q33), (4, .ref q24), (2, .ref q15), (1, .ref q7), (17, .int 0), (19, .int 0)] := md_putD hm 33 (.ref q181) (by decide) rfl
  generalize (fs.set 33 (.ref q181)) = fs at hP hD hm
  have hP := hP.sub (ws' := [(m0, .inr (12, fs)), (q7, .inl (a7, 66000, .inl (fun _ => 0))), (q15, .inl (a15, 66000, .inl (fun _ => 0))), (q24, .inl (a24, 24000, .inl (fun _ => 0))), (q33, .inl (a33, 24000, .inl (fun _ => 0))), (q42, .inl (a42, 24000, .inl (fun _ => 0))), (q51, .inl (a51, 4096, .inl (fun _ => 0))), (q83, .inl (a83, 65560, .inl (fun _ => 0)))]) [0, 1, 2, 3, 4, 5, 6, 7] rfl
  have hD := hD.sub (ws' := [(m0, .inr (12, fs)), (q7, .inl (a7, 66000, .inl (fun _ => 0))), (q15, .inl (a15, 66000, .inl (fun _ => 0))), (q24, .inl (a24, 24000, .inl (fun _ => 0))), (q33, .inl (a33, 24000, .inl (fun _ => 0))), (q42, .inl (a42, 24000, .inl (fun _ => 0))), (q51, .inl (a51, 4096, .inl (fun _ => 0))), (q83, .inl (a83, 65560, .inl (fun _ => 0)))]) [0, 1, 2, 3, 4, 5, 6, 7] rfl rfl
  have hK := hK.sub (tys' := [(a7, .char), (a15, .char), (a24, .int), (a33, .int), (a42, .int), (a51, .int), (a83, .byte)]) [0, 1, 2, 3, 4, 5, 6] rfl
  refine lv_aload_n hx hb dX12_init_186 rfl (lv_at hl 0 rfl) ?_
  refine lv_sipush (v := 8300) hx hb dX12_init_187 (by decide) ?_
  refine va_newa (atype := .int) (ty := .int) (a0 := (8300, .inl (fun _ => 0))) (N' := 8300) hx hb (htb _ bg_95) rfl hK hP hD hS hA (fun _ => rfl) (by decide) (by decide) (by decide) (Nat.le_of_ble_eq_true rfl) (Nat.le_of_ble_eq_true rfl) dX12_init_190 (fun q190 a190 H hK hP hD hS => ?_)
  have hP : va_P D vwCl [(m0, .inr (12, fs)), (q7, .inl (a7, 66000, .inl (fun _ => 0))), (q15, .inl (a15, 66000, .inl (fun _ => 0))), (q24, .inl (a24, 24000, .inl (fun _ => 0))), (q33, .inl (a33, 24000, .inl (fun _ => 0))), (q42, .inl (a42, 24000, .inl (fun _ => 0))), (q51, .inl (a51, 4096, .inl (fun _ => 0))), (q83, .inl (a83, 65560, .inl (fun _ => 0))), (q190, .inl (a190, 8300, .inl (fun _ => 0)))] H := hP
  have hD : va_D A [(m0, .inr (12, fs)), (q7, .inl (a7, 66000, .inl (fun _ => 0))), (q15, .inl (a15, 66000, .inl (fun _ => 0))), (q24, .inl (a24, 24000, .inl (fun _ => 0))), (q33, .inl (a33, 24000, .inl (fun _ => 0))), (q42, .inl (a42, 24000, .inl (fun _ => 0))), (q51, .inl (a51, 4096, .inl (fun _ => 0))), (q83, .inl (a83, 65560, .inl (fun _ => 0))), (q190, .inl (a190, 8300, .inl (fun _ => 0)))] := hD
  have hK : va_K D vwCl [(a7, .char), (a15, .char), (a24, .int), (a33, .int), (a42, .int), (a51, .int), (a83, .byte), (a190, .int)] s := hK
  refine W.widen (k := 22) (n := 667858) (by decide) (by decide) ?_
  refine va_putF (D := D) (ci := 12) (v := .ref q190) (ty := tyX12 34) (C := RX12) (T := TX12) (N := 82) hx hb htb bi_X12 tyX12 tyX12_ok nmX12 hown hK hP hD hS 0 rfl rfl 34 (by decide) (htb _ bg_119) (fun _ h9 => h9) rfl hin rfl (tyX12_ok 34 (by decide)) rfl rfl (by rw [hm.1]; decide) dX12_init_192 (fun H locs hP hD hS => ?_)
  have hP : va_P D vwCl [(m0, .inr (12, (fs.set 34 (.ref q190)))), (q7, .inl (a7, 66000, .inl (fun _ => 0))), (q15, .inl (a15, 66000, .inl (fun _ => 0))), (q24, .inl (a24, 24000, .inl (fun _ => 0))), (q33, .inl (a33, 24000, .inl (fun _ => 0))), (q42, .inl (a42, 24000, .inl (fun _ => 0))), (q51, .inl (a51, 4096, .inl (fun _ => 0))), (q83, .inl (a83, 65560, .inl (fun _ => 0))), (q190, .inl (a190, 8300, .inl (fun _ => 0)))] H := hP
  have hD : va_D A [(m0, .inr (12, (fs.set 34 (.ref q190)))), (q7, .inl (a7, 66000, .inl (fun _ => 0))), (q15, .inl (a15, 66000, .inl (fun _ => 0))), (q24, .inl (a24, 24000, .inl (fun _ => 0))), (q33, .inl (a33, 24000, .inl (fun _ => 0))), (q42, .inl (a42, 24000, .inl (fun _ => 0))), (q51, .inl (a51, 4096, .inl (fun _ => 0))), (q83, .inl (a83, 65560, .inl (fun _ => 0))), (q190, .inl (a190, 8300, .inl (fun _ => 0)))] := hD
  have hm : md_has (fs.set 34 (.ref q190)) [(18, .int (-1)), (15, .ref q83), (13, .ref q67), (7, .ref q51), (6, .ref q42), (5, .ref q33), (4, .ref q24), (2, .ref q15), (1, .ref q7), (17, .int 0), (19, .int 0)] := md_putD hm 34 (.ref q190) (by decide) rfl
  generalize (fs.set 34 (.ref q190)) = fs at hP hD hm
  have hP := hP.sub (ws' := [(m0, .inr (12, fs)), (q7, .inl (a7, 66000, .inl (fun _ => 0))), (q15, .inl (a15, 66000, .inl (fun _ => 0))), (q24, .inl (a24, 24000, .inl (fun _ => 0))), (q33, .inl (a33, 24000, .inl (fun _ => 0))), (q42, .inl (a42, 24000, .inl (fun _ => 0))), (q51, .inl (a51, 4096, .inl (fun _ => 0))), (q83, .inl (a83, 65560, .inl (fun _ => 0)))]) [0, 1, 2, 3, 4, 5, 6, 7] rfl
  have hD := hD.sub (ws' := [(m0, .inr (12, fs)), (q7, .inl (a7, 66000, .inl (fun _ => 0))), (q15, .inl (a15, 66000, .inl (fun _ => 0))), (q24, .inl (a24, 24000, .inl (fun _ => 0))), (q33, .inl (a33, 24000, .inl (fun _ => 0))), (q42, .inl (a42, 24000, .inl (fun _ => 0))), (q51, .inl (a51, 4096, .inl (fun _ => 0))), (q83, .inl (a83, 65560, .inl (fun _ => 0)))]) [0, 1, 2, 3, 4, 5, 6, 7] rfl rfl
  have hK := hK.sub (tys' := [(a7, .char), (a15, .char), (a24, .int), (a33, .int), (a42, .int), (a51, .int), (a83, .byte)]) [0, 1, 2, 3, 4, 5, 6] rfl
  refine lv_aload_n hx hb dX12_init_195 rfl (lv_at hl 0 rfl) ?_
  refine lv_sipush (v := 8300) hx hb dX12_init_196 (by decide) ?_
  refine va_newa (atype := .int) (ty := .int) (a0 := (8300, .inl (fun _ => 0))) (N' := 8300) hx hb (htb _ bg_95) rfl hK hP hD hS hA (fun _ => rfl) (by decide) (by decide) (by decide) (Nat.le_of_ble_eq_true rfl) (Nat.le_of_ble_eq_true rfl) dX12_init_199 (fun q199 a199 H hK hP hD hS => ?_)
  have hP : va_P D vwCl [(m0, .inr (12, fs)), (q7, .inl (a7, 66000, .inl (fun _ => 0))), (q15, .inl (a15, 66000, .inl (fun _ => 0))), (q24, .inl (a24, 24000, .inl (fun _ => 0))), (q33, .inl (a33, 24000, .inl (fun _ => 0))), (q42, .inl (a42, 24000, .inl (fun _ => 0))), (q51, .inl (a51, 4096, .inl (fun _ => 0))), (q83, .inl (a83, 65560, .inl (fun _ => 0))), (q199, .inl (a199, 8300, .inl (fun _ => 0)))] H := hP
  have hD : va_D A [(m0, .inr (12, fs)), (q7, .inl (a7, 66000, .inl (fun _ => 0))), (q15, .inl (a15, 66000, .inl (fun _ => 0))), (q24, .inl (a24, 24000, .inl (fun _ => 0))), (q33, .inl (a33, 24000, .inl (fun _ => 0))), (q42, .inl (a42, 24000, .inl (fun _ => 0))), (q51, .inl (a51, 4096, .inl (fun _ => 0))), (q83, .inl (a83, 65560, .inl (fun _ => 0))), (q199, .inl (a199, 8300, .inl (fun _ => 0)))] := hD
  have hK : va_K D vwCl [(a7, .char), (a15, .char), (a24, .int), (a33, .int), (a42, .int), (a51, .int), (a83, .byte), (a199, .int)] s := hK
  refine W.widen (k := 23) (n := 676158) (by decide) (by decide) ?_
  refine va_putF (D := D) (ci := 12) (v := .ref q199) (ty := tyX12 35) (C := RX12) (T := TX12) (N := 82) hx hb htb bi_X12 tyX12 tyX12_ok nmX12 hown hK hP hD hS 0 rfl rfl 35 (by decide) (htb _ bg_120) (fun _ h9 => h9) rfl hin rfl (tyX12_ok 35 (by decide)) rfl rfl (by rw [hm.1]; decide) dX12_init_201 (fun H locs hP hD hS => ?_)
  have hP : va_P D vwCl [(m0, .inr (12, (fs.set 35 (.ref q199)))), (q7, .inl (a7, 66000, .inl (fun _ => 0))), (q15, .inl (a15, 66000, .inl (fun _ => 0))), (q24, .inl (a24, 24000, .inl (fun _ => 0))), (q33, .inl (a33, 24000, .inl (fun _ => 0))), (q42, .inl (a42, 24000, .inl (fun _ => 0))), (q51, .inl (a51, 4096, .inl (fun _ => 0))), (q83, .inl (a83, 65560, .inl (fun _ => 0))), (q199, .inl (a199, 8300, .inl (fun _ => 0)))] H := hP
  have hD : va_D A [(m0, .inr (12, (fs.set 35 (.ref q199)))), (q7, .inl (a7, 66000, .inl (fun _ => 0))), (q15, .inl (a15, 66000, .inl (fun _ => 0))), (q24, .inl (a24, 24000, .inl (fun _ => 0))), (q33, .inl (a33, 24000, .inl (fun _ => 0))), (q42, .inl (a42, 24000, .inl (fun _ => 0))), (q51, .inl (a51, 4096, .inl (fun _ => 0))), (q83, .inl (a83, 65560, .inl (fun _ => 0))), (q199, .inl (a199, 8300, .inl (fun _ => 0)))] := hD
  have hm : md_has (fs.set 35 (.ref q199)) [(18, .int (-1)), (15, .ref q83), (13, .ref q67), (7, .ref q51), (6, .ref q42), (5, .ref q33), (4, .ref q24), (2, .ref q15), (1, .ref q7), (17, .int 0), (19, .int 0)] := md_putD hm 35 (.ref q199) (by decide) rfl
  generalize (fs.set 35 (.ref q199)) = fs at hP hD hm
  have hP := hP.sub (ws' := [(m0, .inr (12, fs)), (q7, .inl (a7, 66000, .inl (fun _ => 0))), (q15, .inl (a15, 66000, .inl (fun _ => 0))), (q24, .inl (a24, 24000, .inl (fun _ => 0))), (q33, .inl (a33, 24000, .inl (fun _ => 0))), (q42, .inl (a42, 24000, .inl (fun _ => 0))), (q51, .inl (a51, 4096, .inl (fun _ => 0))), (q83, .inl (a83, 65560, .inl (fun _ => 0)))]) [0, 1, 2, 3, 4, 5, 6, 7] rfl
  have hD := hD.sub (ws' := [(m0, .inr (12, fs)), (q7, .inl (a7, 66000, .inl (fun _ => 0))), (q15, .inl (a15, 66000, .inl (fun _ => 0))), (q24, .inl (a24, 24000, .inl (fun _ => 0))), (q33, .inl (a33, 24000, .inl (fun _ => 0))), (q42, .inl (a42, 24000, .inl (fun _ => 0))), (q51, .inl (a51, 4096, .inl (fun _ => 0))), (q83, .inl (a83, 65560, .inl (fun _ => 0)))]) [0, 1, 2, 3, 4, 5, 6, 7] rfl rfl
  have hK := hK.sub (tys' := [(a7, .char), (a15, .char), (a24, .int), (a33, .int), (a42, .int), (a51, .int), (a83, .byte)]) [0, 1, 2, 3, 4, 5, 6] rfl
  refine lv_aload_n hx hb dX12_init_204 rfl (lv_at hl 0 rfl) ?_
  refine lv_sipush (v := 8300) hx hb dX12_init_205 (by decide) ?_
  refine va_newa (atype := .int) (ty := .int) (a0 := (8300, .inl (fun _ => 0))) (N' := 8300) hx hb (htb _ bg_95) rfl hK hP hD hS hA (fun _ => rfl) (by decide) (by decide) (by decide) (Nat.le_of_ble_eq_true rfl) (Nat.le_of_ble_eq_true rfl) dX12_init_208 (fun q208 a208 H hK hP hD hS => ?_)
  have hP : va_P D vwCl [(m0, .inr (12, fs)), (q7, .inl (a7, 66000, .inl (fun _ => 0))), (q15, .inl (a15, 66000, .inl (fun _ => 0))), (q24, .inl (a24, 24000, .inl (fun _ => 0))), (q33, .inl (a33, 24000, .inl (fun _ => 0))), (q42, .inl (a42, 24000, .inl (fun _ => 0))), (q51, .inl (a51, 4096, .inl (fun _ => 0))), (q83, .inl (a83, 65560, .inl (fun _ => 0))), (q208, .inl (a208, 8300, .inl (fun _ => 0)))] H := hP
  have hD : va_D A [(m0, .inr (12, fs)), (q7, .inl (a7, 66000, .inl (fun _ => 0))), (q15, .inl (a15, 66000, .inl (fun _ => 0))), (q24, .inl (a24, 24000, .inl (fun _ => 0))), (q33, .inl (a33, 24000, .inl (fun _ => 0))), (q42, .inl (a42, 24000, .inl (fun _ => 0))), (q51, .inl (a51, 4096, .inl (fun _ => 0))), (q83, .inl (a83, 65560, .inl (fun _ => 0))), (q208, .inl (a208, 8300, .inl (fun _ => 0)))] := hD
  have hK : va_K D vwCl [(a7, .char), (a15, .char), (a24, .int), (a33, .int), (a42, .int), (a51, .int), (a83, .byte), (a208, .int)] s := hK
  refine W.widen (k := 24) (n := 684458) (by decide) (by decide) ?_
  refine va_putF (D := D) (ci := 12) (v := .ref q208) (ty := tyX12 36) (C := RX12) (T := TX12) (N := 82) hx hb htb bi_X12 tyX12 tyX12_ok nmX12 hown hK hP hD hS 0 rfl rfl 36 (by decide) (htb _ bg_121) (fun _ h9 => h9) rfl hin rfl (tyX12_ok 36 (by decide)) rfl rfl (by rw [hm.1]; decide) dX12_init_210 (fun H locs hP hD hS => ?_)
  have hP : va_P D vwCl [(m0, .inr (12, (fs.set 36 (.ref q208)))), (q7, .inl (a7, 66000, .inl (fun _ => 0))), (q15, .inl (a15, 66000, .inl (fun _ => 0))), (q24, .inl (a24, 24000, .inl (fun _ => 0))), (q33, .inl (a33, 24000, .inl (fun _ => 0))), (q42, .inl (a42, 24000, .inl (fun _ => 0))), (q51, .inl (a51, 4096, .inl (fun _ => 0))), (q83, .inl (a83, 65560, .inl (fun _ => 0))), (q208, .inl (a208, 8300, .inl (fun _ => 0)))] H := hP
  have hD : va_D A [(m0, .inr (12, (fs.set 36 (.ref q208)))), (q7, .inl (a7, 66000, .inl (fun _ => 0))), (q15, .inl (a15, 66000, .inl (fun _ => 0))), (q24, .inl (a24, 24000, .inl (fun _ => 0))), (q33, .inl (a33, 24000, .inl (fun _ => 0))), (q42, .inl (a42, 24000, .inl (fun _ => 0))), (q51, .inl (a51, 4096, .inl (fun _ => 0))), (q83, .inl (a83, 65560, .inl (fun _ => 0))), (q208, .inl (a208, 8300, .inl (fun _ => 0)))] := hD
  have hm : md_has (fs.set 36 (.ref q208)) [(18, .int (-1)), (15, .ref q83), (13, .ref q67), (7, .ref q51), (6, .ref q42), (5, .ref q33), (4, .ref q24), (2, .ref q15), (1, .ref q7), (17, .int 0), (19, .int 0)] := md_putD hm 36 (.ref q208) (by decide) rfl
  generalize (fs.set 36 (.ref q208)) = fs at hP hD hm
  have hP := hP.sub (ws' := [(m0, .inr (12, fs)), (q7, .inl (a7, 66000, .inl (fun _ => 0))), (q15, .inl (a15, 66000, .inl (fun _ => 0))), (q24, .inl (a24, 24000, .inl (fun _ => 0))), (q33, .inl (a33, 24000, .inl (fun _ => 0))), (q42, .inl (a42, 24000, .inl (fun _ => 0))), (q51, .inl (a51, 4096, .inl (fun _ => 0))), (q83, .inl (a83, 65560, .inl (fun _ => 0)))]) [0, 1, 2, 3, 4, 5, 6, 7] rfl
  have hD := hD.sub (ws' := [(m0, .inr (12, fs)), (q7, .inl (a7, 66000, .inl (fun _ => 0))), (q15, .inl (a15, 66000, .inl (fun _ => 0))), (q24, .inl (a24, 24000, .inl (fun _ => 0))), (q33, .inl (a33, 24000, .inl (fun _ => 0))), (q42, .inl (a42, 24000, .inl (fun _ => 0))), (q51, .inl (a51, 4096, .inl (fun _ => 0))), (q83, .inl (a83, 65560, .inl (fun _ => 0)))]) [0, 1, 2, 3, 4, 5, 6, 7] rfl rfl
  have hK := hK.sub (tys' := [(a7, .char), (a15, .char), (a24, .int), (a33, .int), (a42, .int), (a51, .int), (a83, .byte)]) [0, 1, 2, 3, 4, 5, 6] rfl
  refine lv_aload_n hx hb dX12_init_213 rfl (lv_at hl 0 rfl) ?_
  refine lv_sipush (v := 8300) hx hb dX12_init_214 (by decide) ?_
  refine va_newa (atype := .int) (ty := .int) (a0 := (8300, .inl (fun _ => 0))) (N' := 8300) hx hb (htb _ bg_95) rfl hK hP hD hS hA (fun _ => rfl) (by decide) (by decide) (by decide) (Nat.le_of_ble_eq_true rfl) (Nat.le_of_ble_eq_true rfl) dX12_init_217 (fun q217 a217 H hK hP hD hS => ?_)
  have hP : va_P D vwCl [(m0, .inr (12, fs)), (q7, .inl (a7, 66000, .inl (fun _ => 0))), (q15, .inl (a15, 66000, .inl (fun _ => 0))), (q24, .inl (a24, 24000, .inl (fun _ => 0))), (q33, .inl (a33, 24000, .inl (fun _ => 0))), (q42, .inl (a42, 24000, .inl (fun _ => 0))), (q51, .inl (a51, 4096, .inl (fun _ => 0))), (q83, .inl (a83, 65560, .inl (fun _ => 0))), (q217, .inl (a217, 8300, .inl (fun _ => 0)))] H := hP
  have hD : va_D A [(m0, .inr (12, fs)), (q7, .inl (a7, 66000, .inl (fun _ => 0))), (q15, .inl (a15, 66000, .inl (fun _ => 0))), (q24, .inl (a24, 24000, .inl (fun _ => 0))), (q33, .inl (a33, 24000, .inl (fun _ => 0))), (q42, .inl (a42, 24000, .inl (fun _ => 0))), (q51, .inl (a51, 4096, .inl (fun _ => 0))), (q83, .inl (a83, 65560, .inl (fun _ => 0))), (q217, .inl (a217, 8300, .inl (fun _ => 0)))] := hD
  have hK : va_K D vwCl [(a7, .char), (a15, .char), (a24, .int), (a33, .int), (a42, .int), (a51, .int), (a83, .byte), (a217, .int)] s := hK
  refine W.widen (k := 25) (n := 692758) (by decide) (by decide) ?_
  refine va_putF (D := D) (ci := 12) (v := .ref q217) (ty := tyX12 37) (C := RX12) (T := TX12) (N := 82) hx hb htb bi_X12 tyX12 tyX12_ok nmX12 hown hK hP hD hS 0 rfl rfl 37 (by decide) (htb _ bg_122) (fun _ h9 => h9) rfl hin rfl (tyX12_ok 37 (by decide)) rfl rfl (by rw [hm.1]; decide) dX12_init_219 (fun H locs hP hD hS => ?_)
  have hP : va_P D vwCl [(m0, .inr (12, (fs.set 37 (.ref q217)))), (q7, .inl (a7, 66000, .inl (fun _ => 0))), (q15, .inl (a15, 66000, .inl (fun _ => 0))), (q24, .inl (a24, 24000, .inl (fun _ => 0))), (q33, .inl (a33, 24000, .inl (fun _ => 0))), (q42, .inl (a42, 24000, .inl (fun _ => 0))), (q51, .inl (a51, 4096, .inl (fun _ => 0))), (q83, .inl (a83, 65560, .inl (fun _ => 0))), (q217, .inl (a217, 8300, .inl (fun _ => 0)))] H := hP
  have hD : va_D A [(m0, .inr (12, (fs.set 37 (.ref q217)))), (q7, .inl (a7, 66000, .inl (fun _ => 0))), (q15, .inl (a15, 66000, .inl (fun _ => 0))), (q24, .inl (a24, 24000, .inl (fun _ => 0))), (q33, .inl (a33, 24000, .inl (fun _ => 0))), (q42, .inl (a42, 24000, .inl (fun _ => 0))), (q51, .inl (a51, 4096, .inl (fun _ => 0))), (q83, .inl (a83, 65560, .inl (fun _ => 0))), (q217, .inl (a217, 8300, .inl (fun _ => 0)))] := hD
  have hm : md_has (fs.set 37 (.ref q217)) [(18, .int (-1)), (15, .ref q83), (13, .ref q67), (7, .ref q51), (6, .ref q42), (5, .ref q33), (4, .ref q24), (2, .ref q15), (1, .ref q7), (17, .int 0), (19, .int 0)] := md_putD hm 37 (.ref q217) (by decide) rfl
  generalize (fs.set 37 (.ref q217)) = fs at hP hD hm
  have hP := hP.sub (ws' := [(m0, .inr (12, fs)), (q7, .inl (a7, 66000, .inl (fun _ => 0))), (q15, .inl (a15, 66000, .inl (fun _ => 0))), (q24, .inl (a24, 24000, .inl (fun _ => 0))), (q33, .inl (a33, 24000, .inl (fun _ => 0))), (q42, .inl (a42, 24000, .inl (fun _ => 0))), (q51, .inl (a51, 4096, .inl (fun _ => 0))), (q83, .inl (a83, 65560, .inl (fun _ => 0)))]) [0, 1, 2, 3, 4, 5, 6, 7] rfl
  have hD := hD.sub (ws' := [(m0, .inr (12, fs)), (q7, .inl (a7, 66000, .inl (fun _ => 0))), (q15, .inl (a15, 66000, .inl (fun _ => 0))), (q24, .inl (a24, 24000, .inl (fun _ => 0))), (q33, .inl (a33, 24000, .inl (fun _ => 0))), (q42, .inl (a42, 24000, .inl (fun _ => 0))), (q51, .inl (a51, 4096, .inl (fun _ => 0))), (q83, .inl (a83, 65560, .inl (fun _ => 0)))]) [0, 1, 2, 3, 4, 5, 6, 7] rfl rfl
  have hK := hK.sub (tys' := [(a7, .char), (a15, .char), (a24, .int), (a33, .int), (a42, .int), (a51, .int), (a83, .byte)]) [0, 1, 2, 3, 4, 5, 6] rfl
  refine lv_aload_n hx hb dX12_init_222 rfl (lv_at hl 0 rfl) ?_
  refine lv_sipush (v := 8300) hx hb dX12_init_223 (by decide) ?_
  refine va_newa (atype := .int) (ty := .int) (a0 := (8300, .inl (fun _ => 0))) (N' := 8300) hx hb (htb _ bg_95) rfl hK hP hD hS hA (fun _ => rfl) (by decide) (by decide) (by decide) (Nat.le_of_ble_eq_true rfl) (Nat.le_of_ble_eq_true rfl) dX12_init_226 (fun q226 a226 H hK hP hD hS => ?_)
  have hP : va_P D vwCl [(m0, .inr (12, fs)), (q7, .inl (a7, 66000, .inl (fun _ => 0))), (q15, .inl (a15, 66000, .inl (fun _ => 0))), (q24, .inl (a24, 24000, .inl (fun _ => 0))), (q33, .inl (a33, 24000, .inl (fun _ => 0))), (q42, .inl (a42, 24000, .inl (fun _ => 0))), (q51, .inl (a51, 4096, .inl (fun _ => 0))), (q83, .inl (a83, 65560, .inl (fun _ => 0))), (q226, .inl (a226, 8300, .inl (fun _ => 0)))] H := hP
  have hD : va_D A [(m0, .inr (12, fs)), (q7, .inl (a7, 66000, .inl (fun _ => 0))), (q15, .inl (a15, 66000, .inl (fun _ => 0))), (q24, .inl (a24, 24000, .inl (fun _ => 0))), (q33, .inl (a33, 24000, .inl (fun _ => 0))), (q42, .inl (a42, 24000, .inl (fun _ => 0))), (q51, .inl (a51, 4096, .inl (fun _ => 0))), (q83, .inl (a83, 65560, .inl (fun _ => 0))), (q226, .inl (a226, 8300, .inl (fun _ => 0)))] := hD
  have hK : va_K D vwCl [(a7, .char), (a15, .char), (a24, .int), (a33, .int), (a42, .int), (a51, .int), (a83, .byte), (a226, .int)] s := hK
  refine W.widen (k := 26) (n := 701058) (by decide) (by decide) ?_
  refine va_putF (D := D) (ci := 12) (v := .ref q226) (ty := tyX12 38) (C := RX12) (T := TX12) (N := 82) hx hb htb bi_X12 tyX12 tyX12_ok nmX12 hown hK hP hD hS 0 rfl rfl 38 (by decide) (htb _ bg_123) (fun _ h9 => h9) rfl hin rfl (tyX12_ok 38 (by decide)) rfl rfl (by rw [hm.1]; decide) dX12_init_228 (fun H locs hP hD hS => ?_)
  have hP : va_P D vwCl [(m0, .inr (12, (fs.set 38 (.ref q226)))), (q7, .inl (a7, 66000, .inl (fun _ => 0))), (q15, .inl (a15, 66000, .inl (fun _ => 0))), (q24, .inl (a24, 24000, .inl (fun _ => 0))), (q33, .inl (a33, 24000, .inl (fun _ => 0))), (q42, .inl (a42, 24000, .inl (fun _ => 0))), (q51, .inl (a51, 4096, .inl (fun _ => 0))), (q83, .inl (a83, 65560, .inl (fun _ => 0))), (q226, .inl (a226, 8300, .inl (fun _ => 0)))] H := hP
  have hD : va_D A [(m0, .inr (12, (fs.set 38 (.ref q226)))), (q7, .inl (a7, 66000, .inl (fun _ => 0))), (q15, .inl (a15, 66000, .inl (fun _ => 0))), (q24, .inl (a24, 24000, .inl (fun _ => 0))), (q33, .inl (a33, 24000, .inl (fun _ => 0))), (q42, .inl (a42, 24000, .inl (fun _ => 0))), (q51, .inl (a51, 4096, .inl (fun _ => 0))), (q83, .inl (a83, 65560, .inl (fun _ => 0))), (q226, .inl (a226, 8300, .inl (fun _ => 0)))] := hD
  have hm : md_has (fs.set 38 (.ref q226)) [(18, .int (-1)), (15, .ref q83), (13, .ref q67), (7, .ref q51), (6, .ref q42), (5, .ref q33), (4, .ref q24), (2, .ref q15), (1, .ref q7), (17, .int 0), (19, .int 0)] := md_putD hm 38 (.ref q226) (by decide) rfl
  generalize (fs.set 38 (.ref q226)) = fs at hP hD hm
  have hP := hP.sub (ws' := [(m0, .inr (12, fs)), (q7, .inl (a7, 66000, .inl (fun _ => 0))), (q15, .inl (a15, 66000, .inl (fun _ => 0))), (q24, .inl (a24, 24000, .inl (fun _ => 0))), (q33, .inl (a33, 24000, .inl (fun _ => 0))), (q42, .inl (a42, 24000, .inl (fun _ => 0))), (q51, .inl (a51, 4096, .inl (fun _ => 0))), (q83, .inl (a83, 65560, .inl (fun _ => 0)))]) [0, 1, 2, 3, 4, 5, 6, 7] rfl
  have hD := hD.sub (ws' := [(m0, .inr (12, fs)), (q7, .inl (a7, 66000, .inl (fun _ => 0))), (q15, .inl (a15, 66000, .inl (fun _ => 0))), (q24, .inl (a24, 24000, .inl (fun _ => 0))), (q33, .inl (a33, 24000, .inl (fun _ => 0))), (q42, .inl (a42, 24000, .inl (fun _ => 0))), (q51, .inl (a51, 4096, .inl (fun _ => 0))), (q83, .inl (a83, 65560, .inl (fun _ => 0)))]) [0, 1, 2, 3, 4, 5, 6, 7] rfl rfl
  have hK := hK.sub (tys' := [(a7, .char), (a15, .char), (a24, .int), (a33, .int), (a42, .int), (a51, .int), (a83, .byte)]) [0, 1, 2, 3, 4, 5, 6] rfl
  refine lv_aload_n hx hb dX12_init_231 rfl (lv_at hl 0 rfl) ?_
  refine lv_sipush (v := 8300) hx hb dX12_init_232 (by decide) ?_
  refine va_newa (atype := .int) (ty := .int) (a0 := (8300, .inl (fun _ => 0))) (N' := 8300) hx hb (htb _ bg_95) rfl hK hP hD hS hA (fun _ => rfl) (by decide) (by decide) (by decide) (Nat.le_of_ble_eq_true rfl) (Nat.le_of_ble_eq_true rfl) dX12_init_235 (fun q235 a235 H hK hP hD hS => ?_)
  have hP : va_P D vwCl [(m0, .inr (12, fs)), (q7, .inl (a7, 66000, .inl (fun _ => 0))), (q15, .inl (a15, 66000, .inl (fun _ => 0))), (q24, .inl (a24, 24000, .inl (fun _ => 0))), (q33, .inl (a33, 24000, .inl (fun _ => 0))), (q42, .inl (a42, 24000, .inl (fun _ => 0))), (q51, .inl (a51, 4096, .inl (fun _ => 0))), (q83, .inl (a83, 65560, .inl (fun _ => 0))), (q235, .inl (a235, 8300, .inl (fun _ => 0)))] H := hP
  have hD : va_D A [(m0, .inr (12, fs)), (q7, .inl (a7, 66000, .inl (fun _ => 0))), (q15, .inl (a15, 66000, .inl (fun _ => 0))), (q24, .inl (a24, 24000, .inl (fun _ => 0))), (q33, .inl (a33, 24000, .inl (fun _ => 0))), (q42, .inl (a42, 24000, .inl (fun _ => 0))), (q51, .inl (a51, 4096, .inl (fun _ => 0))), (q83, .inl (a83, 65560, .inl (fun _ => 0))), (q235, .inl (a235, 8300, .inl (fun _ => 0)))] := hD
  have hK : va_K D vwCl [(a7, .char), (a15, .char), (a24, .int), (a33, .int), (a42, .int), (a51, .int), (a83, .byte), (a235, .int)] s := hK
  refine W.widen (k := 27) (n := 709358) (by decide) (by decide) ?_
  refine va_putF (D := D) (ci := 12) (v := .ref q235) (ty := tyX12 39) (C := RX12) (T := TX12) (N := 82) hx hb htb bi_X12 tyX12 tyX12_ok nmX12 hown hK hP hD hS 0 rfl rfl 39 (by decide) (htb _ bg_124) (fun _ h9 => h9) rfl hin rfl (tyX12_ok 39 (by decide)) rfl rfl (by rw [hm.1]; decide) dX12_init_237 (fun H locs hP hD hS => ?_)
  have hP : va_P D vwCl [(m0, .inr (12, (fs.set 39 (.ref q235)))), (q7, .inl (a7, 66000, .inl (fun _ => 0))), (q15, .inl (a15, 66000, .inl (fun _ => 0))), (q24, .inl (a24, 24000, .inl (fun _ => 0))), (q33, .inl (a33, 24000, .inl (fun _ => 0))), (q42, .inl (a42, 24000, .inl (fun _ => 0))), (q51, .inl (a51, 4096, .inl (fun _ => 0))), (q83, .inl (a83, 65560, .inl (fun _ => 0))), (q235, .inl (a235, 8300, .inl (fun _ => 0)))] H := hP
  have hD : va_D A [(m0, .inr (12, (fs.set 39 (.ref q235)))), (q7, .inl (a7, 66000, .inl (fun _ => 0))), (q15, .inl (a15, 66000, .inl (fun _ => 0))), (q24, .inl (a24, 24000, .inl (fun _ => 0))), (q33, .inl (a33, 24000, .inl (fun _ => 0))), (q42, .inl (a42, 24000, .inl (fun _ => 0))), (q51, .inl (a51, 4096, .inl (fun _ => 0))), (q83, .inl (a83, 65560, .inl (fun _ => 0))), (q235, .inl (a235, 8300, .inl (fun _ => 0)))] := hD
  have hm : md_has (fs.set 39 (.ref q235)) [(18, .int (-1)), (15, .ref q83), (13, .ref q67), (7, .ref q51), (6, .ref q42), (5, .ref q33), (4, .ref q24), (2, .ref q15), (1, .ref q7), (17, .int 0), (19, .int 0)] := md_putD hm 39 (.ref q235) (by decide) rfl
  generalize (fs.set 39 (.ref q235)) = fs at hP hD hm
  have hP := hP.sub (ws' := [(m0, .inr (12, fs)), (q7, .inl (a7, 66000, .inl (fun _ => 0))), (q15, .inl (a15, 66000, .inl (fun _ => 0))), (q24, .inl (a24, 24000, .inl (fun _ => 0))), (q33, .inl (a33, 24000, .inl (fun _ => 0))), (q42, .inl (a42, 24000, .inl (fun _ => 0))), (q51, .inl (a51, 4096, .inl (fun _ => 0))), (q83, .inl (a83, 65560, .inl (fun _ => 0)))]) [0, 1, 2, 3, 4, 5, 6, 7] rfl
  have hD := hD.sub (ws' := [(m0, .inr (12, fs)), (q7, .inl (a7, 66000, .inl (fun _ => 0))), (q15, .inl (a15, 66000, .inl (fun _ => 0))), (q24, .inl (a24, 24000, .inl (fun _ => 0))), (q33, .inl (a33, 24000, .inl (fun _ => 0))), (q42, .inl (a42, 24000, .inl (fun _ => 0))), (q51, .inl (a51, 4096, .inl (fun _ => 0))), (q83, .inl (a83, 65560, .inl (fun _ => 0)))]) [0, 1, 2, 3, 4, 5, 6, 7] rfl rfl
  have hK := hK.sub (tys' := [(a7, .char), (a15, .char), (a24, .int), (a33, .int), (a42, .int), (a51, .int), (a83, .byte)]) [0, 1, 2, 3, 4, 5, 6] rfl
  refine lv_aload_n hx hb dX12_init_240 rfl (lv_at hl 0 rfl) ?_
  refine lv_sipush (v := 8300) hx hb dX12_init_241 (by decide) ?_
  refine va_newa (atype := .int) (ty := .int) (a0 := (8300, .inl (fun _ => 0))) (N' := 8300) hx hb (htb _ bg_95) rfl hK hP hD hS hA (fun _ => rfl) (by decide) (by decide) (by decide) (Nat.le_of_ble_eq_true rfl) (Nat.le_of_ble_eq_true rfl) dX12_init_244 (fun q244 a244 H hK hP hD hS => ?_)
  have hP : va_P D vwCl [(m0, .inr (12, fs)), (q7, .inl (a7, 66000, .inl (fun _ => 0))), (q15, .inl (a15, 66000, .inl (fun _ => 0))), (q24, .inl (a24, 24000, .inl (fun _ => 0))), (q33, .inl (a33, 24000, .inl (fun _ => 0))), (q42, .inl (a42, 24000, .inl (fun _ => 0))), (q51, .inl (a51, 4096, .inl (fun _ => 0))), (q83, .inl (a83, 65560, .inl (fun _ => 0))), (q244, .inl (a244, 8300, .inl (fun _ => 0)))] H := hP
  have hD : va_D A [(m0, .inr (12, fs)), (q7, .inl (a7, 66000, .inl (fun _ => 0))), (q15, .inl (a15, 66000, .inl (fun _ => 0))), (q24, .inl (a24, 24000, .inl (fun _ => 0))), (q33, .inl (a33, 24000, .inl (fun _ => 0))), (q42, .inl (a42, 24000, .inl (fun _ => 0))), (q51, .inl (a51, 4096, .inl (fun _ => 0))), (q83, .inl (a83, 65560, .inl (fun _ => 0))), (q244, .inl (a244, 8300, .inl (fun _ => 0)))] := hD
  have hK : va_K D vwCl [(a7, .char), (a15, .char), (a24, .int), (a33, .int), (a42, .int), (a51, .int), (a83, .byte), (a244, .int)] s := hK
  refine W.widen (k := 28) (n := 717658) (by decide) (by decide) ?_
  refine va_putF (D := D) (ci := 12) (v := .ref q244) (ty := tyX12 40) (C := RX12) (T := TX12) (N := 82) hx hb htb bi_X12 tyX12 tyX12_ok nmX12 hown hK hP hD hS 0 rfl rfl 40 (by decide) (htb _ bg_125) (fun _ h9 => h9) rfl hin rfl (tyX12_ok 40 (by decide)) rfl rfl (by rw [hm.1]; decide) dX12_init_246 (fun H locs hP hD hS => ?_)
  have hP : va_P D vwCl [(m0, .inr (12, (fs.set 40 (.ref q244)))), (q7, .inl (a7, 66000, .inl (fun _ => 0))), (q15, .inl (a15, 66000, .inl (fun _ => 0))), (q24, .inl (a24, 24000, .inl (fun _ => 0))), (q33, .inl (a33, 24000, .inl (fun _ => 0))), (q42, .inl (a42, 24000, .inl (fun _ => 0))), (q51, .inl (a51, 4096, .inl (fun _ => 0))), (q83, .inl (a83, 65560, .inl (fun _ => 0))), (q244, .inl (a244, 8300, .inl (fun _ => 0)))] H := hP
  have hD : va_D A [(m0, .inr (12, (fs.set 40 (.ref q244)))), (q7, .inl (a7, 66000, .inl (fun _ => 0))), (q15, .inl (a15, 66000, .inl (fun _ => 0))), (q24, .inl (a24, 24000, .inl (fun _ => 0))), (q33, .inl (a33, 24000, .inl (fun _ => 0))), (q42, .inl (a42, 24000, .inl (fun _ => 0))), (q51, .inl (a51, 4096, .inl (fun _ => 0))), (q83, .inl (a83, 65560, .inl (fun _ => 0))), (q244, .inl (a244, 8300, .inl (fun _ => 0)))] := hD
  have hm : md_has (fs.set 40 (.ref q244)) [(18, .int (-1)), (15, .ref q83), (13, .ref q67), (7, .ref q51), (6, .ref q42), (5, .ref q33), (4, .ref q24), (2, .ref q15), (1, .ref q7), (17, .int 0), (19, .int 0)] := md_putD hm 40 (.ref q244) (by decide) rfl
  generalize (fs.set 40 (.ref q244)) = fs at hP hD hm
  have hP := hP.sub (ws' := [(m0, .inr (12, fs)), (q7, .inl (a7, 66000, .inl (fun _ => 0))), (q15, .inl (a15, 66000, .inl (fun _ => 0))), (q24, .inl (a24, 24000, .inl (fun _ => 0))), (q33, .inl (a33, 24000, .inl (fun _ => 0))), (q42, .inl (a42, 24000, .inl (fun _ => 0))), (q51, .inl (a51, 4096, .inl (fun _ => 0))), (q83, .inl (a83, 65560, .inl (fun _ => 0)))]) [0, 1, 2, 3, 4, 5, 6, 7] rfl
  have hD := hD.sub (ws' := [(m0, .inr (12, fs)), (q7, .inl (a7, 66000, .inl (fun _ => 0))), (q15, .inl (a15, 66000, .inl (fun _ => 0))), (q24, .inl (a24, 24000, .inl (fun _ => 0))), (q33, .inl (a33, 24000, .inl (fun _ => 0))), (q42, .inl (a42, 24000, .inl (fun _ => 0))), (q51, .inl (a51, 4096, .inl (fun _ => 0))), (q83, .inl (a83, 65560, .inl (fun _ => 0)))]) [0, 1, 2, 3, 4, 5, 6, 7] rfl rfl
  have hK := hK.sub (tys' := [(a7, .char), (a15, .char), (a24, .int), (a33, .int), (a42, .int), (a51, .int), (a83, .byte)]) [0, 1, 2, 3, 4, 5, 6] rfl
  refine lv_aload_n hx hb dX12_init_249 rfl (lv_at hl 0 rfl) ?_
  refine lv_sipush (v := 8300) hx hb dX12_init_250 (by decide) ?_
  refine va_newa (atype := .int) (ty := .int) (a0 := (8300, .inl (fun _ => 0))) (N' := 8300) hx hb (htb _ bg_95) rfl hK hP hD hS hA (fun _ => rfl) (by decide) (by decide) (by decide) (Nat.le_of_ble_eq_true rfl) (Nat.le_of_ble_eq_true rfl) dX12_init_253 (fun q253 a253 H hK hP hD hS => ?_)
  have hP : va_P D vwCl [(m0, .inr (12, fs)), (q7, .inl (a7, 66000, .inl (fun _ => 0))), (q15, .inl (a15, 66000, .inl (fun _ => 0))), (q24, .inl (a24, 24000, .inl (fun _ => 0))), (q33, .inl (a33, 24000, .inl (fun _ => 0))), (q42, .inl (a42, 24000, .inl (fun _ => 0))), (q51, .inl (a51, 4096, .inl (fun _ => 0))), (q83, .inl (a83, 65560, .inl (fun _ => 0))), (q253, .inl (a253, 8300, .inl (fun _ => 0)))] H := hP
  have hD : va_D A [(m0, .inr (12, fs)), (q7, .inl (a7, 66000, .inl (fun _ => 0))), (q15, .inl (a15, 66000, .inl (fun _ => 0))), (q24, .inl (a24, 24000, .inl (fun _ => 0))), (q33, .inl (a33, 24000, .inl (fun _ => 0))), (q42, .inl (a42, 24000, .inl (fun _ => 0))), (q51, .inl (a51, 4096, .inl (fun _ => 0))), (q83, .inl (a83, 65560, .inl (fun _ => 0))), (q253, .inl (a253, 8300, .inl (fun _ => 0)))] := hD
  have hK : va_K D vwCl [(a7, .char), (a15, .char), (a24, .int), (a33, .int), (a42, .int), (a51, .int), (a83, .byte), (a253, .int)] s := hK
  refine W.widen (k := 29) (n := 725958) (by decide) (by decide) ?_
  refine va_putF (D := D) (ci := 12) (v := .ref q253) (ty := tyX12 41) (C := RX12) (T := TX12) (N := 82) hx hb htb bi_X12 tyX12 tyX12_ok nmX12 hown hK hP hD hS 0 rfl rfl 41 (by decide) (htb _ bg_126) (fun _ h9 => h9) rfl hin rfl (tyX12_ok 41 (by decide)) rfl rfl (by rw [hm.1]; decide) dX12_init_255 (fun H locs hP hD hS => ?_)
  have hP : va_P D vwCl [(m0, .inr (12, (fs.set 41 (.ref q253)))), (q7, .inl (a7, 66000, .inl (fun _ => 0))), (q15, .inl (a15, 66000, .inl (fun _ => 0))), (q24, .inl (a24, 24000, .inl (fun _ => 0))), (q33, .inl (a33, 24000, .inl (fun _ => 0))), (q42, .inl (a42, 24000, .inl (fun _ => 0))), (q51, .inl (a51, 4096, .inl (fun _ => 0))), (q83, .inl (a83, 65560, .inl (fun _ => 0))), (q253, .inl (a253, 8300, .inl (fun _ => 0)))] H := hP
  have hD : va_D A [(m0, .inr (12, (fs.set 41 (.ref q253)))), (q7, .inl (a7, 66000, .inl (fun _ => 0))), (q15, .inl (a15, 66000, .inl (fun _ => 0))), (q24, .inl (a24, 24000, .inl (fun _ => 0))), (q33, .inl (a33, 24000, .inl (fun _ => 0))), (q42, .inl (a42, 24000, .inl (fun _ => 0))), (q51, .inl (a51, 4096, .inl (fun _ => 0))), (q83, .inl (a83, 65560, .inl (fun _ => 0))), (q253, .inl (a253, 8300, .inl (fun _ => 0)))] := hD
  have hm : md_has (fs.set 41 (.ref q253)) [(18, .int (-1)), (15, .ref q83), (13, .ref q67), (7, .ref q51), (6, .ref q42), (5, .ref q33), (4, .ref q24), (2, .ref q15), (1, .ref q7), (17, .int 0), (19, .int 0)] := md_putD hm 41 (.ref q253) (by decide) rfl
  generalize (fs.set 41 (.ref q253)) = fs at hP hD hm
  have hP := hP.sub (ws' := [(m0, .inr (12, fs)), (q7, .inl (a7, 66000, .inl (fun _ => 0))), (q15, .inl (a15, 66000, .inl (fun _ => 0))), (q24, .inl (a24, 24000, .inl (fun _ => 0))), (q33, .inl (a33, 24000, .inl (fun _ => 0))), (q42, .inl (a42, 24000, .inl (fun _ => 0))), (q51, .inl (a51, 4096, .inl (fun _ => 0))), (q83, .inl (a83, 65560, .inl (fun _ => 0)))]) [0, 1, 2, 3, 4, 5, 6, 7] rfl
  have hD := hD.sub (ws' := [(m0, .inr (12, fs)), (q7, .inl (a7, 66000, .inl (fun _ => 0))), (q15, .inl (a15, 66000, .inl (fun _ => 0))), (q24, .inl (a24, 24000, .inl (fun _ => 0))), (q33, .inl (a33, 24000, .inl (fun _ => 0))), (q42, .inl (a42, 24000, .inl (fun _ => 0))), (q51, .inl (a51, 4096, .inl (fun _ => 0))), (q83, .inl (a83, 65560, .inl (fun _ => 0)))]) [0, 1, 2, 3, 4, 5, 6, 7] rfl rfl
  have hK := hK.sub (tys' := [(a7, .char), (a15, .char), (a24, .int), (a33, .int), (a42, .int), (a51, .int), (a83, .byte)]) [0, 1, 2, 3, 4, 5, 6] rfl
  refine lv_aload_n hx hb dX12_init_258 rfl (lv_at hl 0 rfl) ?_
  refine lv_sipush (v := 8300) hx hb dX12_init_259 (by decide) ?_
  refine va_newa (atype := .int) (ty := .int) (a0 := (8300, .inl (fun _ => 0))) (N' := 8300) hx hb (htb _ bg_95) rfl hK hP hD hS hA (fun _ => rfl) (by decide) (by decide) (by decide) (Nat.le_of_ble_eq_true rfl) (Nat.le_of_ble_eq_true rfl) dX12_init_262 (fun q262 a262 H hK hP hD hS => ?_)
  have hP : va_P D vwCl [(m0, .inr (12, fs)), (q7, .inl (a7, 66000, .inl (fun _ => 0))), (q15, .inl (a15, 66000, .inl (fun _ => 0))), (q24, .inl (a24, 24000, .inl (fun _ => 0))), (q33, .inl (a33, 24000, .inl (fun _ => 0))), (q42, .inl (a42, 24000, .inl (fun _ => 0))), (q51, .inl (a51, 4096, .inl (fun _ => 0))), (q83, .inl (a83, 65560, .inl (fun _ => 0))), (q262, .inl (a262, 8300, .inl (fun _ => 0)))] H := hP
  have hD : va_D A [(m0, .inr (12, fs)), (q7, .inl (a7, 66000, .inl (fun _ => 0))), (q15, .inl (a15, 66000, .inl (fun _ => 0))), (q24, .inl (a24, 24000, .inl (fun _ => 0))), (q33, .inl (a33, 24000, .inl (fun _ => 0))), (q42, .inl (a42, 24000, .inl (fun _ => 0))), (q51, .inl (a51, 4096, .inl (fun _ => 0))), (q83, .inl (a83, 65560, .inl (fun _ => 0))), (q262, .inl (a262, 8300, .inl (fun _ => 0)))] := hD
  have hK : va_K D vwCl [(a7, .char), (a15, .char), (a24, .int), (a33, .int), (a42, .int), (a51, .int), (a83, .byte), (a262, .int)] s := hK
  refine W.widen (k := 30) (n := 734258) (by decide) (by decide) ?_
  refine va_putF (D := D) (ci := 12) (v := .ref q262) (ty := tyX12 42) (C := RX12) (T := TX12) (N := 82) hx hb htb bi_X12 tyX12 tyX12_ok nmX12 hown hK hP hD hS 0 rfl rfl 42 (by decide) (htb _ bg_127) (fun _ h9 => h9) rfl hin rfl (tyX12_ok 42 (by decide)) rfl rfl (by rw [hm.1]; decide) dX12_init_264 (fun H locs hP hD hS => ?_)
  have hP : va_P D vwCl [(m0, .inr (12, (fs.set 42 (.ref q262)))), (q7, .inl (a7, 66000, .inl (fun _ => 0))), (q15, .inl (a15, 66000, .inl (fun _ => 0))), (q24, .inl (a24, 24000, .inl (fun _ => 0))), (q33, .inl (a33, 24000, .inl (fun _ => 0))), (q42, .inl (a42, 24000, .inl (fun _ => 0))), (q51, .inl (a51, 4096, .inl (fun _ => 0))), (q83, .inl (a83, 65560, .inl (fun _ => 0))), (q262, .inl (a262, 8300, .inl (fun _ => 0)))] H := hP
  have hD : va_D A [(m0, .inr (12, (fs.set 42 (.ref q262)))), (q7, .inl (a7, 66000, .inl (fun _ => 0))), (q15, .inl (a15, 66000, .inl (fun _ => 0))), (q24, .inl (a24, 24000, .inl (fun _ => 0))), (q33, .inl (a33, 24000, .inl (fun _ => 0))), (q42, .inl (a42, 24000, .inl (fun _ => 0))), (q51, .inl (a51, 4096, .inl (fun _ => 0))), (q83, .inl (a83, 65560, .inl (fun _ => 0))), (q262, .inl (a262, 8300, .inl (fun _ => 0)))] := hD
  have hm : md_has (fs.set 42 (.ref q262)) [(18, .int (-1)), (15, .ref q83), (13, .ref q67), (7, .ref q51), (6, .ref q42), (5, .ref q33), (4, .ref q24), (2, .ref q15), (1, .ref q7), (17, .int 0), (19, .int 0)] := md_putD hm 42 (.ref q262) (by decide) rfl
  generalize (fs.set 42 (.ref q262)) = fs at hP hD hm
  have hP := hP.sub (ws' := [(m0, .inr (12, fs)), (q7, .inl (a7, 66000, .inl (fun _ => 0))), (q15, .inl (a15, 66000, .inl (fun _ => 0))), (q24, .inl (a24, 24000, .inl (fun _ => 0))), (q33, .inl (a33, 24000, .inl (fun _ => 0))), (q42, .inl (a42, 24000, .inl (fun _ => 0))), (q51, .inl (a51, 4096, .inl (fun _ => 0))), (q83, .inl (a83, 65560, .inl (fun _ => 0)))]) [0, 1, 2, 3, 4, 5, 6, 7] rfl
  have hD := hD.sub (ws' := [(m0, .inr (12, fs)), (q7, .inl (a7, 66000, .inl (fun _ => 0))), (q15, .inl (a15, 66000, .inl (fun _ => 0))), (q24, .inl (a24, 24000, .inl (fun _ => 0))), (q33, .inl (a33, 24000, .inl (fun _ => 0))), (q42, .inl (a42, 24000, .inl (fun _ => 0))), (q51, .inl (a51, 4096, .inl (fun _ => 0))), (q83, .inl (a83, 65560, .inl (fun _ => 0)))]) [0, 1, 2, 3, 4, 5, 6, 7] rfl rfl
  have hK := hK.sub (tys' := [(a7, .char), (a15, .char), (a24, .int), (a33, .int), (a42, .int), (a51, .int), (a83, .byte)]) [0, 1, 2, 3, 4, 5, 6] rfl
  refine lv_aload_n hx hb dX12_init_267 rfl (lv_at hl 0 rfl) ?_
  refine lv_sipush (v := 8300) hx hb dX12_init_268 (by decide) ?_
  refine va_newa (atype := .int) (ty := .int) (a0 := (8300, .inl (fun _ => 0))) (N' := 8300) hx hb (htb _ bg_95) rfl hK hP hD hS hA (fun _ => rfl) (by decide) (by decide) (by decide) (Nat.le_of_ble_eq_true rfl) (Nat.le_of_ble_eq_true rfl) dX12_init_271 (fun q271 a271 H hK hP hD hS => ?_)
  have hP : va_P D vwCl [(m0, .inr (12, fs)), (q7, .inl (a7, 66000, .inl (fun _ => 0))), (q15, .inl (a15, 66000, .inl (fun _ => 0))), (q24, .inl (a24, 24000, .inl (fun _ => 0))), (q33, .inl (a33, 24000, .inl (fun _ => 0))), (q42, .inl (a42, 24000, .inl (fun _ => 0))), (q51, .inl (a51, 4096, .inl (fun _ => 0))), (q83, .inl (a83, 65560, .inl (fun _ => 0))), (q271, .inl (a271, 8300, .inl (fun _ => 0)))] H := hP
  have hD : va_D A [(m0, .inr (12, fs)), (q7, .inl (a7, 66000, .inl (fun _ => 0))), (q15, .inl (a15, 66000, .inl (fun _ => 0))), (q24, .inl (a24, 24000, .inl (fun _ => 0))), (q33, .inl (a33, 24000, .inl (fun _ => 0))), (q42, .inl (a42, 24000, .inl (fun _ => 0))), (q51, .inl (a51, 4096, .inl (fun _ => 0))), (q83, .inl (a83, 65560, .inl (fun _ => 0))), (q271, .inl (a271, 8300, .inl (fun _ => 0)))] := hD
  have hK : va_K D vwCl [(a7, .char), (a15, .char), (a24, .int), (a33, .int), (a42, .int), (a51, .int), (a83, .byte), (a271, .int)] s := hK
  refine W.widen (k := 31) (n := 742558) (by decide) (by decide) ?_
  refine va_putF (D := D) (ci := 12) (v := .ref q271) (ty := tyX12 43) (C := RX12) (T := TX12) (N := 82) hx hb htb bi_X12 tyX12 tyX12_ok nmX12 hown hK hP hD hS 0 rfl rfl 43 (by decide) (htb _ bg_128) (fun _ h9 => h9) rfl hin rfl (tyX12_ok 43 (by decide)) rfl rfl (by rw [hm.1]; decide) dX12_init_273 (fun H locs hP hD hS => ?_)
  have hP : va_P D vwCl [(m0, .inr (12, (fs.set 43 (.ref q271)))), (q7, .inl (a7, 66000, .inl (fun _ => 0))), (q15, .inl (a15, 66000, .inl (fun _ => 0))), (q24, .inl (a24, 24000, .inl (fun _ => 0))), (q33, .inl (a33, 24000, .inl (fun _ => 0))), (q42, .inl (a42, 24000, .inl (fun _ => 0))), (q51, .inl (a51, 4096, .inl (fun _ => 0))), (q83, .inl (a83, 65560, .inl (fun _ => 0))), (q271, .inl (a271, 8300, .inl (fun _ => 0)))] H := hP
  have hD : va_D A [(m0, .inr (12, (fs.set 43 (.ref q271)))), (q7, .inl (a7, 66000, .inl (fun _ => 0))), (q15, .inl (a15, 66000, .inl (fun _ => 0))), (q24, .inl (a24, 24000, .inl (fun _ => 0))), (q33, .inl (a33, 24000, .inl (fun _ => 0))), (q42, .inl (a42, 24000, .inl (fun _ => 0))), (q51, .inl (a51, 4096, .inl (fun _ => 0))), (q83, .inl (a83, 65560, .inl (fun _ => 0))), (q271, .inl (a271, 8300, .inl (fun _ => 0)))] := hD
  have hm : md_has (fs.set 43 (.ref q271)) [(18, .int (-1)), (15, .ref q83), (13, .ref q67), (7, .ref q51), (6, .ref q42), (5, .ref q33), (4, .ref q24), (2, .ref q15), (1, .ref q7), (17, .int 0), (19, .int 0)] := md_putD hm 43 (.ref q271) (by decide) rfl
  generalize (fs.set 43 (.ref q271)) = fs at hP hD hm
  have hP := hP.sub (ws' := [(m0, .inr (12, fs)), (q7, .inl (a7, 66000, .inl (fun _ => 0))), (q15, .inl (a15, 66000, .inl (fun _ => 0))), (q24, .inl (a24, 24000, .inl (fun _ => 0))), (q33, .inl (a33, 24000, .inl (fun _ => 0))), (q42, .inl (a42, 24000, .inl (fun _ => 0))), (q51, .inl (a51, 4096, .inl (fun _ => 0))), (q83, .inl (a83, 65560, .inl (fun _ => 0)))]) [0, 1, 2, 3, 4, 5, 6, 7] rfl
  have hD := hD.sub (ws' := [(m0, .inr (12, fs)), (q7, .inl (a7, 66000, .inl (fun _ => 0))), (q15, .inl (a15, 66000, .inl (fun _ => 0))), (q24, .inl (a24, 24000, .inl (fun _ => 0))), (q33, .inl (a33, 24000, .inl (fun _ => 0))), (q42, .inl (a42, 24000, .inl (fun _ => 0))), (q51, .inl (a51, 4096, .inl (fun _ => 0))), (q83, .inl (a83, 65560, .inl (fun _ => 0)))]) [0, 1, 2, 3, 4, 5, 6, 7] rfl rfl
  have hK := hK.sub (tys' := [(a7, .char), (a15, .char), (a24, .int), (a33, .int), (a42, .int), (a51, .int), (a83, .byte)]) [0, 1, 2, 3, 4, 5, 6] rfl
  refine lv_aload_n hx hb dX12_init_276 rfl (lv_at hl 0 rfl) ?_
  refine lv_sipush (v := 8300) hx hb dX12_init_277 (by decide) ?_
  refine va_newa (atype := .int) (ty := .int) (a0 := (8300, .inl (fun _ => 0))) (N' := 8300) hx hb (htb _ bg_95) rfl hK hP hD hS hA (fun _ => rfl) (by decide) (by decide) (by decide) (Nat.le_of_ble_eq_true rfl) (Nat.le_of_ble_eq_true rfl) dX12_init_280 (fun q280 a280 H hK hP hD hS => ?_)
  have hP : va_P D vwCl [(m0, .inr (12, fs)), (q7, .inl (a7, 66000, .inl (fun _ => 0))), (q15, .inl (a15, 66000, .inl (fun _ => 0))), (q24, .inl (a24, 24000, .inl (fun _ => 0))), (q33, .inl (a33, 24000, .inl (fun _ => 0))), (q42, .inl (a42, 24000, .inl (fun _ => 0))), (q51, .inl (a51, 4096, .inl (fun _ => 0))), (q83, .inl (a83, 65560, .inl (fun _ => 0))), (q280, .inl (a280, 8300, .inl (fun _ => 0)))] H := hP
  have hD : va_D A [(m0, .inr (12, fs)), (q7, .inl (a7, 66000, .inl (fun _ => 0))), (q15, .inl (a15, 66000, .inl (fun _ => 0))), (q24, .inl (a24, 24000, .inl (fun _ => 0))), (q33, .inl (a33, 24000, .inl (fun _ => 0))), (q42, .inl (a42, 24000, .inl (fun _ => 0))), (q51, .inl (a51, 4096, .inl (fun _ => 0))), (q83, .inl (a83, 65560, .inl (fun _ => 0))), (q280, .inl (a280, 8300, .inl (fun _ => 0)))] := hD
  have hK : va_K D vwCl [(a7, .char), (a15, .char), (a24, .int), (a33, .int), (a42, .int), (a51, .int), (a83, .byte), (a280, .int)] s := hK
  refine W.widen (k := 32) (n := 750858) (by decide) (by decide) ?_
  refine va_putF (D := D) (ci := 12) (v := .ref q280) (ty := tyX12 44) (C := RX12) (T := TX12) (N := 82) hx hb htb bi_X12 tyX12 tyX12_ok nmX12 hown hK hP hD hS 0 rfl rfl 44 (by decide) (htb _ bg_129) (fun _ h9 => h9) rfl hin rfl (tyX12_ok 44 (by decide)) rfl rfl (by rw [hm.1]; decide) dX12_init_282 (fun H locs hP hD hS => ?_)
  have hP : va_P D vwCl [(m0, .inr (12, (fs.set 44 (.ref q280)))), (q7, .inl (a7, 66000, .inl (fun _ => 0))), (q15, .inl (a15, 66000, .inl (fun _ => 0))), (q24, .inl (a24, 24000, .inl (fun _ => 0))), (q33, .inl (a33, 24000, .inl (fun _ => 0))), (q42, .inl (a42, 24000, .inl (fun _ => 0))), (q51, .inl (a51, 4096, .inl (fun _ => 0))), (q83, .inl (a83, 65560, .inl (fun _ => 0))), (q280, .inl (a280, 8300, .inl (fun _ => 0)))] H := hP
  have hD : va_D A [(m0, .inr (12, (fs.set 44 (.ref q280)))), (q7, .inl (a7, 66000, .inl (fun _ => 0))), (q15, .inl (a15, 66000, .inl (fun _ => 0))), (q24, .inl (a24, 24000, .inl (fun _ => 0))), (q33, .inl (a33, 24000, .inl (fun _ => 0))), (q42, .inl (a42, 24000, .inl (fun _ => 0))), (q51, .inl (a51, 4096, .inl (fun _ => 0))), (q83, .inl (a83, 65560, .inl (fun _ => 0))), (q280, .inl (a280, 8300, .inl (fun _ => 0)))] := hD
  have hm : md_has (fs.set 44 (.ref q280)) [(18, .int (-1)), (15, .ref q83), (13, .ref q67), (7, .ref q51), (6, .ref q42), (5, .ref q33), (4, .ref q24), (2, .ref q15), (1, .ref q7), (17, .int 0), (19, .int 0)] := md_putD hm 44 (.ref q280) (by decide) rfl
  generalize (fs.set 44 (.ref q280)) = fs at hP hD hm
  have hP := hP.sub (ws' := [(m0, .inr (12, fs)), (q7, .inl (a7, 66000, .inl (fun _ => 0))), (q15, .inl (a15, 66000, .inl (fun _ => 0))), (q24, .inl (a24, 24000, .inl (fun _ => 0))), (q33, .inl (a33, 24000, .inl (fun _ => 0))), (q42, .inl (a42, 24000, .inl (fun _ => 0))), (q51, .inl (a51, 4096, .inl (fun _ => 0))), (q83, .inl (a83, 65560, .inl (fun _ => 0)))]) [0, 1, 2, 3, 4, 5, 6, 7] rfl
  have hD := hD.sub (ws' := [(m0, .inr (12, fs)), (q7, .inl (a7, 66000, .inl (fun _ => 0))), (q15, .inl (a15, 66000, .inl (fun _ => 0))), (q24, .inl (a24, 24000, .inl (fun _ => 0))), (q33, .inl (a33, 24000, .inl (fun _ => 0))), (q42, .inl (a42, 24000, .inl (fun _ => 0))), (q51, .inl (a51, 4096, .inl (fun _ => 0))), (q83, .inl (a83, 65560, .inl (fun _ => 0)))]) [0, 1, 2, 3, 4, 5, 6, 7] rfl rfl
  have hK := hK.sub (tys' := [(a7, .char), (a15, .char), (a24, .int), (a33, .int), (a42, .int), (a51, .int), (a83, .byte)]) [0, 1, 2, 3, 4, 5, 6] rfl
  refine lv_aload_n hx hb dX12_init_285 rfl (lv_at hl 0 rfl) ?_
  refine lv_sipush (v := 8300) hx hb dX12_init_286 (by decide) ?_
  refine va_newa (atype := .int) (ty := .int) (a0 := (8300, .inl (fun _ => 0))) (N' := 8300) hx hb (htb _ bg_95) rfl hK hP hD hS hA (fun _ => rfl) (by decide) (by decide) (by decide) (Nat.le_of_ble_eq_true rfl) (Nat.le_of_ble_eq_true rfl) dX12_init_289 (fun q289 a289 H hK hP hD hS => ?_)
  have hP : va_P D vwCl [(m0, .inr (12, fs)), (q7, .inl (a7, 66000, .inl (fun _ => 0))), (q15, .inl (a15, 66000, .inl (fun _ => 0))), (q24, .inl (a24, 24000, .inl (fun _ => 0))), (q33, .inl (a33, 24000, .inl (fun _ => 0))), (q42, .inl (a42, 24000, .inl (fun _ => 0))), (q51, .inl (a51, 4096, .inl (fun _ => 0))), (q83, .inl (a83, 65560, .inl (fun _ => 0))), (q289, .inl (a289, 8300, .inl (fun _ => 0)))] H := hP
  have hD : va_D A [(m0, .inr (12, fs)), (q7, .inl (a7, 66000, .inl (fun _ => 0))), (q15, .inl (a15, 66000, .inl (fun _ => 0))), (q24, .inl (a24, 24000, .inl (fun _ => 0))), (q33, .inl (a33, 24000, .inl (fun _ => 0))), (q42, .inl (a42, 24000, .inl (fun _ => 0))), (q51, .inl (a51, 4096, .inl (fun _ => 0))), (q83, .inl (a83, 65560, .inl (fun _ => 0))), (q289, .inl (a289, 8300, .inl (fun _ => 0)))] := hD
  have hK : va_K D vwCl [(a7, .char), (a15, .char), (a24, .int), (a33, .int), (a42, .int), (a51, .int), (a83, .byte), (a289, .int)] s := hK
  refine W.widen (k := 33) (n := 759158) (by decide) (by decide) ?_
  refine va_putF (D := D) (ci := 12) (v := .ref q289) (ty := tyX12 45) (C := RX12) (T := TX12) (N := 82) hx hb htb bi_X12 tyX12 tyX12_ok nmX12 hown hK hP hD hS 0 rfl rfl 45 (by decide) (htb _ bg_130) (fun _ h9 => h9) rfl hin rfl (tyX12_ok 45 (by decide)) rfl rfl (by rw [hm.1]; decide) dX12_init_291 (fun H locs hP hD hS => ?_)
  have hP : va_P D vwCl [(m0, .inr (12, (fs.set 45 (.ref q289)))), (q7, .inl (a7, 66000, .inl (fun _ => 0))), (q15, .inl (a15, 66000, .inl (fun _ => 0))), (q24, .inl (a24, 24000, .inl (fun _ => 0))), (q33, .inl (a33, 24000, .inl (fun _ => 0))), (q42, .inl (a42, 24000, .inl (fun _ => 0))), (q51, .inl (a51, 4096, .inl (fun _ => 0))), (q83, .inl (a83, 65560, .inl (fun _ => 0))), (q289, .inl (a289, 8300, .inl (fun _ => 0)))] H := hP
  have hD : va_D A [(m0, .inr (12, (fs.set 45 (.ref q289)))), (q7, .inl (a7, 66000, .inl (fun _ => 0))), (q15, .inl (a15, 66000, .inl (fun _ => 0))), (q24, .inl (a24, 24000, .inl (fun _ => 0))), (q33, .inl (a33, 24000, .inl (fun _ => 0))), (q42, .inl (a42, 24000, .inl (fun _ => 0))), (q51, .inl (a51, 4096, .inl (fun _ => 0))), (q83, .inl (a83, 65560, .inl (fun _ => 0))), (q289, .inl (a289, 8300, .inl (fun _ => 0)))] := hD
  have hm : md_has (fs.set 45 (.ref q289)) [(18, .int (-1)), (15, .ref q83), (13, .ref q67), (7, .ref q51), (6, .ref q42), (5, .ref q33), (4, .ref q24), (2, .ref q15), (1, .ref q7), (17, .int 0), (19, .int 0)] := md_putD hm 45 (.ref q289) (by decide) rfl
  generalize (fs.set 45 (.ref q289)) = fs at hP hD hm
  have hP := hP.sub (ws' := [(m0, .inr (12, fs)), (q7, .inl (a7, 66000, .inl (fun _ => 0))), (q15, .inl (a15, 66000, .inl (fun _ => 0))), (q24, .inl (a24, 24000, .inl (fun _ => 0))), (q33, .inl (a33, 24000, .inl (fun _ => 0))), (q42, .inl (a42, 24000, .inl (fun _ => 0))), (q51, .inl (a51, 4096, .inl (fun _ => 0))), (q83, .inl (a83, 65560, .inl (fun _ => 0)))]) [0, 1, 2, 3, 4, 5, 6, 7] rfl
  have hD := hD.sub (ws' := [(m0, .inr (12, fs)), (q7, .inl (a7, 66000, .inl (fun _ => 0))), (q15, .inl (a15, 66000, .inl (fun _ => 0))), (q24, .inl (a24, 24000, .inl (fun _ => 0))), (q33, .inl (a33, 24000, .inl (fun _ => 0))), (q42, .inl (a42, 24000, .inl (fun _ => 0))), (q51, .inl (a51, 4096, .inl (fun _ => 0))), (q83, .inl (a83, 65560, .inl (fun _ => 0)))]) [0, 1, 2, 3, 4, 5, 6, 7] rfl rfl
  have hK := hK.sub (tys' := [(a7, .char), (a15, .char), (a24, .int), (a33, .int), (a42, .int), (a51, .int), (a83, .byte)]) [0, 1, 2, 3, 4, 5, 6] rfl
  refine lv_aload_n hx hb dX12_init_294 rfl (lv_at hl 0 rfl) ?_
  refine lv_sipush (v := 8300) hx hb dX12_init_295 (by decide) ?_
  refine va_newa (atype := .int) (ty := .int) (a0 := (8300, .inl (fun _ => 0))) (N' := 8300) hx hb (htb _ bg_95) rfl hK hP hD hS hA (fun _ => rfl) (by decide) (by decide) (by decide) (Nat.le_of_ble_eq_true rfl) (Nat.le_of_ble_eq_true rfl) dX12_init_298 (fun q298 a298 H hK hP hD hS => ?_)
  have hP : va_P D vwCl [(m0, .inr (12, fs)), (q7, .inl (a7, 66000, .inl (fun _ => 0))), (q15, .inl (a15, 66000, .inl (fun _ => 0))), (q24, .inl (a24, 24000, .inl (fun _ => 0))), (q33, .inl (a33, 24000, .inl (fun _ => 0))), (q42, .inl (a42, 24000, .inl (fun _ => 0))), (q51, .inl (a51, 4096, .inl (fun _ => 0))), (q83, .inl (a83, 65560, .inl (fun _ => 0))), (q298, .inl (a298, 8300, .inl (fun _ => 0)))] H := hP
  have hD : va_D A [(m0, .inr (12, fs)), (q7, .inl (a7, 66000, .inl (fun _ => 0))), (q15, .inl (a15, 66000, .inl (fun _ => 0))), (q24, .inl (a24, 24000, .inl (fun _ => 0))), (q33, .inl (a33, 24000, .inl (fun _ => 0))), (q42, .inl (a42, 24000, .inl (fun _ => 0))), (q51, .inl (a51, 4096, .inl (fun _ => 0))), (q83, .inl (a83, 65560, .inl (fun _ => 0))), (q298, .inl (a298, 8300, .inl (fun _ => 0)))] := hD
  have hK : va_K D vwCl [(a7, .char), (a15, .char), (a24, .int), (a33, .int), (a42, .int), (a51, .int), (a83, .byte), (a298, .int)] s := hK
  refine W.widen (k := 34) (n := 767458) (by decide) (by decide) ?_
  refine va_putF (D := D) (ci := 12) (v := .ref q298) (ty := tyX12 46) (C := RX12) (T := TX12) (N := 82) hx hb htb bi_X12 tyX12 tyX12_ok nmX12 hown hK hP hD hS 0 rfl rfl 46 (by decide) (htb _ bg_131) (fun _ h9 => h9) rfl hin rfl (tyX12_ok 46 (by decide)) rfl rfl (by rw [hm.1]; decide) dX12_init_300 (fun H locs hP hD hS => ?_)
  have hP : va_P D vwCl [(m0, .inr (12, (fs.set 46 (.ref q298)))), (q7, .inl (a7, 66000, .inl (fun _ => 0))), (q15, .inl (a15, 66000, .inl (fun _ => 0))), (q24, .inl (a24, 24000, .inl (fun _ => 0))), (q33, .inl (a33, 24000, .inl (fun _ => 0))), (q42, .inl (a42, 24000, .inl (fun _ => 0))), (q51, .inl (a51, 4096, .inl (fun _ => 0))), (q83, .inl (a83, 65560, .inl (fun _ => 0))), (q298, .inl (a298, 8300, .inl (fun _ => 0)))] H := hP
  have hD : va_D A [(m0, .inr (12, (fs.set 46 (.ref q298)))), (q7, .inl (a7, 66000, .inl (fun _ => 0))), (q15, .inl (a15, 66000, .inl (fun _ => 0))), (q24, .inl (a24, 24000, .inl (fun _ => 0))), (q33, .inl (a33, 24000, .inl (fun _ => 0))), (q42, .inl (a42, 24000, .inl (fun _ => 0))), (q51, .inl (a51, 4096, .inl (fun _ => 0))), (q83, .inl (a83, 65560, .inl (fun _ => 0))), (q298, .inl (a298, 8300, .inl (fun _ => 0)))] := hD
  have hm : md_has (fs.set 46 (.ref q298)) [(18, .int (-1)), (15, .ref q83), (13, .ref q67), (7, .ref q51), (6, .ref q42), (5, .ref q33), (4, .ref q24), (2, .ref q15), (1, .ref q7), (17, .int 0), (19, .int 0)] := md_putD hm 46 (.ref q298) (by decide) rfl
  generalize (fs.set 46 (.ref q298)) = fs at hP hD hm
  have hP := hP.sub (ws' := [(m0, .inr (12, fs)), (q7, .inl (a7, 66000, .inl (fun _ => 0))), (q15, .inl (a15, 66000, .inl (fun _ => 0))), (q24, .inl (a24, 24000, .inl (fun _ => 0))), (q33, .inl (a33, 24000, .inl (fun _ => 0))), (q42, .inl (a42, 24000, .inl (fun _ => 0))), (q51, .inl (a51, 4096, .inl (fun _ => 0))), (q83, .inl (a83, 65560, .inl (fun _ => 0)))]) [0, 1, 2, 3, 4, 5, 6, 7] rfl
  have hD := hD.sub (ws' := [(m0, .inr (12, fs)), (q7, .inl (a7, 66000, .inl (fun _ => 0))), (q15, .inl (a15, 66000, .inl (fun _ => 0))), (q24, .inl (a24, 24000, .inl (fun _ => 0))), (q33, .inl (a33, 24000, .inl (fun _ => 0))), (q42, .inl (a42, 24000, .inl (fun _ => 0))), (q51, .inl (a51, 4096, .inl (fun _ => 0))), (q83, .inl (a83, 65560, .inl (fun _ => 0)))]) [0, 1, 2, 3, 4, 5, 6, 7] rfl rfl
  have hK := hK.sub (tys' := [(a7, .char), (a15, .char), (a24, .int), (a33, .int), (a42, .int), (a51, .int), (a83, .byte)]) [0, 1, 2, 3, 4, 5, 6] rfl
  refine lv_aload_n hx hb dX12_init_303 rfl (lv_at hl 0 rfl) ?_
  refine lv_bipush (v := 10) hx hb dX12_init_304 (by decide) ?_
  refine va_newq (C := RJ0) (N' := 10) hx hb hown (htb _ bg_132) (hE.2.2.2.2.2.2.2.2.2.2) hK hP hD hS hA (by decide) (by decide) (by decide) (Nat.le_of_ble_eq_true rfl) (Nat.le_of_ble_eq_true rfl) dX12_init_306 (fun q306 a306 H hK hP hD hS => ?_)
  have hP : va_P D vwCl [(m0, .inr (12, fs)), (q7, .inl (a7, 66000, .inl (fun _ => 0))), (q15, .inl (a15, 66000, .inl (fun _ => 0))), (q24, .inl (a24, 24000, .inl (fun _ => 0))), (q33, .inl (a33, 24000, .inl (fun _ => 0))), (q42, .inl (a42, 24000, .inl (fun _ => 0))), (q51, .inl (a51, 4096, .inl (fun _ => 0))), (q83, .inl (a83, 65560, .inl (fun _ => 0))), (q306, .inl (a306, 10, .inr (.inr (.inr (.inr (fun _ => none))))))] H := hP
  have hD : va_D A [(m0, .inr (12, fs)), (q7, .inl (a7, 66000, .inl (fun _ => 0))), (q15, .inl (a15, 66000, .inl (fun _ => 0))), (q24, .inl (a24, 24000, .inl (fun _ => 0))), (q33, .inl (a33, 24000, .inl (fun _ => 0))), (q42, .inl (a42, 24000, .inl (fun _ => 0))), (q51, .inl (a51, 4096, .inl (fun _ => 0))), (q83, .inl (a83, 65560, .inl (fun _ => 0))), (q306, .inl (a306, 10, .inr (.inr (.inr (.inr (fun _ => none))))))] := hD
  have hK : va_K D vwCl [(a7, .char), (a15, .char), (a24, .int), (a33, .int), (a42, .int), (a51, .int), (a83, .byte), (a306, .object RJ0)] s := hK
  refine W.widen (k := 35) (n := 767468) (by decide) (by decide) ?_
  refine lv_dup hx hb dX12_init_309 rfl ?_
  refine lv_iconst (v := 0) hx hb dX12_init_310 (by decide) ?_
  refine va_ldcS hx hb hown (hE.2.2.2.2.2.2.1 3 (by decide)).1 dX12_init_311 ?_
  refine va_astqM hx hb hK hP hD hS 8 7 rfl rfl (xe_any hE hS 3 (by decide)) (by unfold vp_in; decide) dX12_init_313 (fun H locs hP hD hS => ?_)
  have hP : va_P D vwCl [(m0, .inr (12, fs)), (q7, .inl (a7, 66000, .inl (fun _ => 0))), (q15, .inl (a15, 66000, .inl (fun _ => 0))), (q24, .inl (a24, 24000, .inl (fun _ => 0))), (q33, .inl (a33, 24000, .inl (fun _ => 0))), (q42, .inl (a42, 24000, .inl (fun _ => 0))), (q51, .inl (a51, 4096, .inl (fun _ => 0))), (q83, .inl (a83, 65560, .inl (fun _ => 0))), (q306, .inl (a306, 10, .inr (.inr (.inr (.inr (va_up (fun _ => none) (Int32.toNatClampNeg 0) (some (g.2.1 3))))))))] H := hP
  have hD : va_D A [(m0, .inr (12, fs)), (q7, .inl (a7, 66000, .inl (fun _ => 0))), (q15, .inl (a15, 66000, .inl (fun _ => 0))), (q24, .inl (a24, 24000, .inl (fun _ => 0))), (q33, .inl (a33, 24000, .inl (fun _ => 0))), (q42, .inl (a42, 24000, .inl (fun _ => 0))), (q51, .inl (a51, 4096, .inl (fun _ => 0))), (q83, .inl (a83, 65560, .inl (fun _ => 0))), (q306, .inl (a306, 10, .inr (.inr (.inr (.inr (va_up (fun _ => none) (Int32.toNatClampNeg 0) (some (g.2.1 3))))))))] := hD
  generalize (va_up (fun _ => none) (Int32.toNatClampNeg 0) (some (g.2.1 3))) = kn313 at hP hD
  refine lv_dup hx hb dX12_init_314 rfl ?_
  refine lv_iconst (v := 1) hx hb dX12_init_315 (by decide) ?_
  refine va_ldcS hx hb hown (hE.2.2.2.2.2.2.1 4 (by decide)).1 dX12_init_316 ?_
  refine va_astqM hx hb hK hP hD hS 8 7 rfl rfl (xe_any hE hS 4 (by decide)) (by unfold vp_in; decide) dX12_init_318 (fun H locs hP hD hS => ?_)
  have hP : va_P D vwCl [(m0, .inr (12, fs)), (q7, .inl (a7, 66000, .inl (fun _ => 0))), (q15, .inl (a15, 66000, .inl (fun _ => 0))), (q24, .inl (a24, 24000, .inl (fun _ => 0))), (q33, .inl (a33, 24000, .inl (fun _ => 0))), (q42, .inl (a42, 24000, .inl (fun _ => 0))), (q51, .inl (a51, 4096, .inl (fun _ => 0))), (q83, .inl (a83, 65560, .inl (fun _ => 0))), (q306, .inl (a306, 10, .inr (.inr (.inr (.inr (va_up kn313 (Int32.toNatClampNeg 1) (some (g.2.1 4))))))))] H := hP
  have hD : va_D A [(m0, .inr (12, fs)), (q7, .inl (a7, 66000, .inl (fun _ => 0))), (q15, .inl (a15, 66000, .inl (fun _ => 0))), (q24, .inl (a24, 24000, .inl (fun _ => 0))), (q33, .inl (a33, 24000, .inl (fun _ => 0))), (q42, .inl (a42, 24000, .inl (fun _ => 0))), (q51, .inl (a51, 4096, .inl (fun _ => 0))), (q83, .inl (a83, 65560, .inl (fun _ => 0))), (q306, .inl (a306, 10, .inr (.inr (.inr (.inr (va_up kn313 (Int32.toNatClampNeg 1) (some (g.2.1 4))))))))] := hD
  generalize (va_up kn313 (Int32.toNatClampNeg 1) (some (g.2.1 4))) = kn318 at hP hD
  refine lv_dup hx hb dX12_init_319 rfl ?_
  refine lv_iconst (v := 2) hx hb dX12_init_320 (by decide) ?_
  refine va_ldcS hx hb hown (hE.2.2.2.2.2.2.1 5 (by decide)).1 dX12_init_321 ?_
  refine va_astqM hx hb hK hP hD hS 8 7 rfl rfl (xe_any hE hS 5 (by decide)) (by unfold vp_in; decide) dX12_init_323 (fun H locs hP hD hS => ?_)
  have hP : va_P D vwCl [(m0, .inr (12, fs)), (q7, .inl (a7, 66000, .inl (fun _ => 0))), (q15, .inl (a15, 66000, .inl (fun _ => 0))), (q24, .inl (a24, 24000, .inl (fun _ => 0))), (q33, .inl (a33, 24000, .inl (fun _ => 0))), (q42, .inl (a42, 24000, .inl (fun _ => 0))), (q51, .inl (a51, 4096, .inl (fun _ => 0))), (q83, .inl (a83, 65560, .inl (fun _ => 0))), (q306, .inl (a306, 10, .inr (.inr (.inr (.inr (va_up kn318 (Int32.toNatClampNeg 2) (some (g.2.1 5))))))))] H := hP
  have hD : va_D A [(m0, .inr (12, fs)), (q7, .inl (a7, 66000, .inl (fun _ => 0))), (q15, .inl (a15, 66000, .inl (fun _ => 0))), (q24, .inl (a24, 24000, .inl (fun _ => 0))), (q33, .inl (a33, 24000, .inl (fun _ => 0))), (q42, .inl (a42, 24000, .inl (fun _ => 0))), (q51, .inl (a51, 4096, .inl (fun _ => 0))), (q83, .inl (a83, 65560, .inl (fun _ => 0))), (q306, .inl (a306, 10, .inr (.inr (.inr (.inr (va_up kn318 (Int32.toNatClampNeg 2) (some (g.2.1 5))))))))] := hD
  generalize (va_up kn318 (Int32.toNatClampNeg 2) (some (g.2.1 5))) = kn323 at hP hD
  refine lv_dup hx hb dX12_init_324 rfl ?_
  refine lv_iconst (v := 3) hx hb dX12_init_325 (by decide) ?_
  refine va_ldcS hx hb hown (hE.2.2.2.2.2.2.1 6 (by decide)).1 dX12_init_326 ?_
  refine va_astqM hx hb hK hP hD hS 8 7 rfl rfl (xe_any hE hS 6 (by decide)) (by unfold vp_in; decide) dX12_init_328 (fun H locs hP hD hS => ?_)
  have hP : va_P D vwCl [(m0, .inr (12, fs)), (q7, .inl (a7, 66000, .inl (fun _ => 0))), (q15, .inl (a15, 66000, .inl (fun _ => 0))), (q24, .inl (a24, 24000, .inl (fun _ => 0))), (q33, .inl (a33, 24000, .inl (fun _ => 0))), (q42, .inl (a42, 24000, .inl (fun _ => 0))), (q51, .inl (a51, 4096, .inl (fun _ => 0))), (q83, .inl (a83, 65560, .inl (fun _ => 0))), (q306, .inl (a306, 10, .inr (.inr (.inr (.inr (va_up kn323 (Int32.toNatClampNeg 3) (some (g.2.1 6))))))))] H := hP
  have hD : va_D A [(m0, .inr (12, fs)), (q7, .inl (a7, 66000, .inl (fun _ => 0))), (q15, .inl (a15, 66000, .inl (fun _ => 0))), (q24, .inl (a24, 24000, .inl (fun _ => 0))), (q33, .inl (a33, 24000, .inl (fun _ => 0))), (q42, .inl (a42, 24000, .inl (fun _ => 0))), (q51, .inl (a51, 4096, .inl (fun _ => 0))), (q83, .inl (a83, 65560, .inl (fun _ => 0))), (q306, .inl (a306, 10, .inr (.inr (.inr (.inr (va_up kn323 (Int32.toNatClampNeg 3) (some (g.2.1 6))))))))] := hD
  generalize (va_up kn323 (Int32.toNatClampNeg 3) (some (g.2.1 6))) = kn328 at hP hD
  refine lv_dup hx hb dX12_init_329 rfl ?_
  refine lv_iconst (v := 4) hx hb dX12_init_330 (by decide) ?_
  refine va_ldcS hx hb hown (hE.2.2.2.2.2.2.1 7 (by decide)).1 dX12_init_331 ?_
  refine va_astqM hx hb hK hP hD hS 8 7 rfl rfl (xe_any hE hS 7 (by decide)) (by unfold vp_in; decide) dX12_init_333 (fun H locs hP hD hS => ?_)
  have hP : va_P D vwCl [(m0, .inr (12, fs)), (q7, .inl (a7, 66000, .inl (fun _ => 0))), (q15, .inl (a15, 66000, .inl (fun _ => 0))), (q24, .inl (a24, 24000, .inl (fun _ => 0))), (q33, .inl (a33, 24000, .inl (fun _ => 0))), (q42, .inl (a42, 24000, .inl (fun _ => 0))), (q51, .inl (a51, 4096, .inl (fun _ => 0))), (q83, .inl (a83, 65560, .inl (fun _ => 0))), (q306, .inl (a306, 10, .inr (.inr (.inr (.inr (va_up kn328 (Int32.toNatClampNeg 4) (some (g.2.1 7))))))))] H := hP
  have hD : va_D A [(m0, .inr (12, fs)), (q7, .inl (a7, 66000, .inl (fun _ => 0))), (q15, .inl (a15, 66000, .inl (fun _ => 0))), (q24, .inl (a24, 24000, .inl (fun _ => 0))), (q33, .inl (a33, 24000, .inl (fun _ => 0))), (q42, .inl (a42, 24000, .inl (fun _ => 0))), (q51, .inl (a51, 4096, .inl (fun _ => 0))), (q83, .inl (a83, 65560, .inl (fun _ => 0))), (q306, .inl (a306, 10, .inr (.inr (.inr (.inr (va_up kn328 (Int32.toNatClampNeg 4) (some (g.2.1 7))))))))] := hD
  generalize (va_up kn328 (Int32.toNatClampNeg 4) (some (g.2.1 7))) = kn333 at hP hD
  refine lv_dup hx hb dX12_init_334 rfl ?_
  refine lv_iconst (v := 5) hx hb dX12_init_335 (by decide) ?_
  refine va_ldcS hx hb hown (hE.2.2.2.2.2.2.1 8 (by decide)).1 dX12_init_336 ?_
  refine va_astqM hx hb hK hP hD hS 8 7 rfl rfl (xe_any hE hS 8 (by decide)) (by unfold vp_in; decide) dX12_init_338 (fun H locs hP hD hS => ?_)
  have hP : va_P D vwCl [(m0, .inr (12, fs)), (q7, .inl (a7, 66000, .inl (fun _ => 0))), (q15, .inl (a15, 66000, .inl (fun _ => 0))), (q24, .inl (a24, 24000, .inl (fun _ => 0))), (q33, .inl (a33, 24000, .inl (fun _ => 0))), (q42, .inl (a42, 24000, .inl (fun _ => 0))), (q51, .inl (a51, 4096, .inl (fun _ => 0))), (q83, .inl (a83, 65560, .inl (fun _ => 0))), (q306, .inl (a306, 10, .inr (.inr (.inr (.inr (va_up kn333 (Int32.toNatClampNeg 5) (some (g.2.1 8))))))))] H := hP
  have hD : va_D A [(m0, .inr (12, fs)), (q7, .inl (a7, 66000, .inl (fun _ => 0))), (q15, .inl (a15, 66000, .inl (fun _ => 0))), (q24, .inl (a24, 24000, .inl (fun _ => 0))), (q33, .inl (a33, 24000, .inl (fun _ => 0))), (q42, .inl (a42, 24000, .inl (fun _ => 0))), (q51, .inl (a51, 4096, .inl (fun _ => 0))), (q83, .inl (a83, 65560, .inl (fun _ => 0))), (q306, .inl (a306, 10, .inr (.inr (.inr (.inr (va_up kn333 (Int32.toNatClampNeg 5) (some (g.2.1 8))))))))] := hD
  generalize (va_up kn333 (Int32.toNatClampNeg 5) (some (g.2.1 8))) = kn338 at hP hD
  refine lv_dup hx hb dX12_init_339 rfl ?_
  refine lv_bipush (v := 6) hx hb dX12_init_340 (by decide) ?_
  refine va_ldcS hx hb hown (hE.2.2.2.2.2.2.1 9 (by decide)).1 dX12_init_342 ?_
  refine va_astqM hx hb hK hP hD hS 8 7 rfl rfl (xe_any hE hS 9 (by decide)) (by unfold vp_in; decide) dX12_init_344 (fun H locs hP hD hS => ?_)
  have hP : va_P D vwCl [(m0, .inr (12, fs)), (q7, .inl (a7, 66000, .inl (fun _ => 0))), (q15, .inl (a15, 66000, .inl (fun _ => 0))), (q24, .inl (a24, 24000, .inl (fun _ => 0))), (q33, .inl (a33, 24000, .inl (fun _ => 0))), (q42, .inl (a42, 24000, .inl (fun _ => 0))), (q51, .inl (a51, 4096, .inl (fun _ => 0))), (q83, .inl (a83, 65560, .inl (fun _ => 0))), (q306, .inl (a306, 10, .inr (.inr (.inr (.inr (va_up kn338 (Int32.toNatClampNeg 6) (some (g.2.1 9))))))))] H := hP
  have hD : va_D A [(m0, .inr (12, fs)), (q7, .inl (a7, 66000, .inl (fun _ => 0))), (q15, .inl (a15, 66000, .inl (fun _ => 0))), (q24, .inl (a24, 24000, .inl (fun _ => 0))), (q33, .inl (a33, 24000, .inl (fun _ => 0))), (q42, .inl (a42, 24000, .inl (fun _ => 0))), (q51, .inl (a51, 4096, .inl (fun _ => 0))), (q83, .inl (a83, 65560, .inl (fun _ => 0))), (q306, .inl (a306, 10, .inr (.inr (.inr (.inr (va_up kn338 (Int32.toNatClampNeg 6) (some (g.2.1 9))))))))] := hD
  generalize (va_up kn338 (Int32.toNatClampNeg 6) (some (g.2.1 9))) = kn344 at hP hD
  refine lv_dup hx hb dX12_init_345 rfl ?_
  refine lv_bipush (v := 7) hx hb dX12_init_346 (by decide) ?_
  refine va_ldcS hx hb hown (hE.2.2.2.2.2.2.1 10 (by decide)).1 dX12_init_348 ?_
  refine va_astqM hx hb hK hP hD hS 8 7 rfl rfl (xe_any hE hS 10 (by decide)) (by unfold vp_in; decide) dX12_init_350 (fun H locs hP hD hS => ?_)
  have hP : va_P D vwCl [(m0, .inr (12, fs)), (q7, .inl (a7, 66000, .inl (fun _ => 0))), (q15, .inl (a15, 66000, .inl (fun _ => 0))), (q24, .inl (a24, 24000, .inl (fun _ => 0))), (q33, .inl (a33, 24000, .inl (fun _ => 0))), (q42, .inl (a42, 24000, .inl (fun _ => 0))), (q51, .inl (a51, 4096, .inl (fun _ => 0))), (q83, .inl (a83, 65560, .inl (fun _ => 0))), (q306, .inl (a306, 10, .inr (.inr (.inr (.inr (va_up kn344 (Int32.toNatClampNeg 7) (some (g.2.1 10))))))))] H := hP
  have hD : va_D A [(m0, .inr (12, fs)), (q7, .inl (a7, 66000, .inl (fun _ => 0))), (q15, .inl (a15, 66000, .inl (fun _ => 0))), (q24, .inl (a24, 24000, .inl (fun _ => 0))), (q33, .inl (a33, 24000, .inl (fun _ => 0))), (q42, .inl (a42, 24000, .inl (fun _ => 0))), (q51, .inl (a51, 4096, .inl (fun _ => 0))), (q83, .inl (a83, 65560, .inl (fun _ => 0))), (q306, .inl (a306, 10, .inr (.inr (.inr (.inr (va_up kn344 (Int32.toNatClampNeg 7) (some (g.2.1 10))))))))] := hD
  generalize (va_up kn344 (Int32.toNatClampNeg 7) (some (g.2.1 10))) = kn350 at hP hD
  refine lv_dup hx hb dX12_init_351 rfl ?_
  refine lv_bipush (v := 8) hx hb dX12_init_352 (by decide) ?_
  refine va_ldcS hx hb hown (hE.2.2.2.2.2.2.1 11 (by decide)).1 dX12_init_354 ?_
  refine va_astqM hx hb hK hP hD hS 8 7 rfl rfl (xe_any hE hS 11 (by decide)) (by unfold vp_in; decide) dX12_init_356 (fun H locs hP hD hS => ?_)
  have hP : va_P D vwCl [(m0, .inr (12, fs)), (q7, .inl (a7, 66000, .inl (fun _ => 0))), (q15, .inl (a15, 66000, .inl (fun _ => 0))), (q24, .inl (a24, 24000, .inl (fun _ => 0))), (q33, .inl (a33, 24000, .inl (fun _ => 0))), (q42, .inl (a42, 24000, .inl (fun _ => 0))), (q51, .inl (a51, 4096, .inl (fun _ => 0))), (q83, .inl (a83, 65560, .inl (fun _ => 0))), (q306, .inl (a306, 10, .inr (.inr (.inr (.inr (va_up kn350 (Int32.toNatClampNeg 8) (some (g.2.1 11))))))))] H := hP
  have hD : va_D A [(m0, .inr (12, fs)), (q7, .inl (a7, 66000, .inl (fun _ => 0))), (q15, .inl (a15, 66000, .inl (fun _ => 0))), (q24, .inl (a24, 24000, .inl (fun _ => 0))), (q33, .inl (a33, 24000, .inl (fun _ => 0))), (q42, .inl (a42, 24000, .inl (fun _ => 0))), (q51, .inl (a51, 4096, .inl (fun _ => 0))), (q83, .inl (a83, 65560, .inl (fun _ => 0))), (q306, .inl (a306, 10, .inr (.inr (.inr (.inr (va_up kn350 (Int32.toNatClampNeg 8) (some (g.2.1 11))))))))] := hD
  generalize (va_up kn350 (Int32.toNatClampNeg 8) (some (g.2.1 11))) = kn356 at hP hD
  refine lv_dup hx hb dX12_init_357 rfl ?_
  refine lv_bipush (v := 9) hx hb dX12_init_358 (by decide) ?_
  refine va_ldcS hx hb hown (hE.2.2.2.2.2.2.1 12 (by decide)).1 dX12_init_360 ?_
  refine va_astqM hx hb hK hP hD hS 8 7 rfl rfl (xe_any hE hS 12 (by decide)) (by unfold vp_in; decide) dX12_init_362 (fun H locs hP hD hS => ?_)
  have hP : va_P D vwCl [(m0, .inr (12, fs)), (q7, .inl (a7, 66000, .inl (fun _ => 0))), (q15, .inl (a15, 66000, .inl (fun _ => 0))), (q24, .inl (a24, 24000, .inl (fun _ => 0))), (q33, .inl (a33, 24000, .inl (fun _ => 0))), (q42, .inl (a42, 24000, .inl (fun _ => 0))), (q51, .inl (a51, 4096, .inl (fun _ => 0))), (q83, .inl (a83, 65560, .inl (fun _ => 0))), (q306, .inl (a306, 10, .inr (.inr (.inr (.inr (va_up kn356 (Int32.toNatClampNeg 9) (some (g.2.1 12))))))))] H := hP
  have hD : va_D A [(m0, .inr (12, fs)), (q7, .inl (a7, 66000, .inl (fun _ => 0))), (q15, .inl (a15, 66000, .inl (fun _ => 0))), (q24, .inl (a24, 24000, .inl (fun _ => 0))), (q33, .inl (a33, 24000, .inl (fun _ => 0))), (q42, .inl (a42, 24000, .inl (fun _ => 0))), (q51, .inl (a51, 4096, .inl (fun _ => 0))), (q83, .inl (a83, 65560, .inl (fun _ => 0))), (q306, .inl (a306, 10, .inr (.inr (.inr (.inr (va_up kn356 (Int32.toNatClampNeg 9) (some (g.2.1 12))))))))] := hD
  generalize (va_up kn356 (Int32.toNatClampNeg 9) (some (g.2.1 12))) = kn362 at hP hD
  refine va_putF (D := D) (ci := 12) (v := .ref q306) (ty := tyX12 62) (C := RX12) (T := TX12) (N := 82) hx hb htb bi_X12 tyX12 tyX12_ok nmX12 hown hK hP hD hS 0 rfl rfl 62 (by decide) (htb _ bg_133) (fun _ h9 => h9) rfl hin rfl (tyX12_ok 62 (by decide)) rfl rfl (by rw [hm.1]; decide) dX12_init_363 (fun H locs hP hD hS => ?_)
  have hP : va_P D vwCl [(m0, .inr (12, (fs.set 62 (.ref q306)))), (q7, .inl (a7, 66000, .inl (fun _ => 0))), (q15, .inl (a15, 66000, .inl (fun _ => 0))), (q24, .inl (a24, 24000, .inl (fun _ => 0))), (q33, .inl (a33, 24000, .inl (fun _ => 0))), (q42, .inl (a42, 24000, .inl (fun _ => 0))), (q51, .inl (a51, 4096, .inl (fun _ => 0))), (q83, .inl (a83, 65560, .inl (fun _ => 0))), (q306, .inl (a306, 10, .inr (.inr (.inr (.inr kn362)))))] H := hP
  have hD : va_D A [(m0, .inr (12, (fs.set 62 (.ref q306)))), (q7, .inl (a7, 66000, .inl (fun _ => 0))), (q15, .inl (a15, 66000, .inl (fun _ => 0))), (q24, .inl (a24, 24000, .inl (fun _ => 0))), (q33, .inl (a33, 24000, .inl (fun _ => 0))), (q42, .inl (a42, 24000, .inl (fun _ => 0))), (q51, .inl (a51, 4096, .inl (fun _ => 0))), (q83, .inl (a83, 65560, .inl (fun _ => 0))), (q306, .inl (a306, 10, .inr (.inr (.inr (.inr kn362)))))] := hD
  have hm : md_has (fs.set 62 (.ref q306)) [(18, .int (-1)), (15, .ref q83), (13, .ref q67), (7, .ref q51), (6, .ref q42), (5, .ref q33), (4, .ref q24), (2, .ref q15), (1, .ref q7), (17, .int 0), (19, .int 0)] := md_putD hm 62 (.ref q306) (by decide) rfl
  generalize (fs.set 62 (.ref q306)) = fs at hP hD hm
  have hP := hP.sub (ws' := [(m0, .inr (12, fs)), (q7, .inl (a7, 66000, .inl (fun _ => 0))), (q15, .inl (a15, 66000, .inl (fun _ => 0))), (q24, .inl (a24, 24000, .inl (fun _ => 0))), (q33, .inl (a33, 24000, .inl (fun _ => 0))), (q42, .inl (a42, 24000, .inl (fun _ => 0))), (q51, .inl (a51, 4096, .inl (fun _ => 0))), (q83, .inl (a83, 65560, .inl (fun _ => 0)))]) [0, 1, 2, 3, 4, 5, 6, 7] rfl
  have hD := hD.sub (ws' := [(m0, .inr (12, fs)), (q7, .inl (a7, 66000, .inl (fun _ => 0))), (q15, .inl (a15, 66000, .inl (fun _ => 0))), (q24, .inl (a24, 24000, .inl (fun _ => 0))), (q33, .inl (a33, 24000, .inl (fun _ => 0))), (q42, .inl (a42, 24000, .inl (fun _ => 0))), (q51, .inl (a51, 4096, .inl (fun _ => 0))), (q83, .inl (a83, 65560, .inl (fun _ => 0)))]) [0, 1, 2, 3, 4, 5, 6, 7] rfl rfl
  have hK := hK.sub (tys' := [(a7, .char), (a15, .char), (a24, .int), (a33, .int), (a42, .int), (a51, .int), (a83, .byte)]) [0, 1, 2, 3, 4, 5, 6] rfl
  refine lv_aload_n hx hb dX12_init_366 rfl (lv_at hl 0 rfl) ?_
  refine lv_bipush (v := 10) hx hb dX12_init_367 (by decide) ?_
  refine va_newa (atype := .int) (ty := .int) (a0 := (10, .inl (fun _ => 0))) (N' := 10) hx hb (htb _ bg_95) rfl hK hP hD hS hA (fun _ => rfl) (by decide) (by decide) (by decide) (Nat.le_of_ble_eq_true rfl) (Nat.le_of_ble_eq_true rfl) dX12_init_369 (fun q369 a369 H hK hP hD hS => ?_)
  have hP : va_P D vwCl [(m0, .inr (12, fs)), (q7, .inl (a7, 66000, .inl (fun _ => 0))), (q15, .inl (a15, 66000, .inl (fun _ => 0))), (q24, .inl (a24, 24000, .inl (fun _ => 0))), (q33, .inl (a33, 24000, .inl (fun _ => 0))), (q42, .inl (a42, 24000, .inl (fun _ => 0))), (q51, .inl (a51, 4096, .inl (fun _ => 0))), (q83, .inl (a83, 65560, .inl (fun _ => 0))), (q369, .inl (a369, 10, .inl (fun _ => 0)))] H := hP
  have hD : va_D A [(m0, .inr (12, fs)), (q7, .inl (a7, 66000, .inl (fun _ => 0))), (q15, .inl (a15, 66000, .inl (fun _ => 0))), (q24, .inl (a24, 24000, .inl (fun _ => 0))), (q33, .inl (a33, 24000, .inl (fun _ => 0))), (q42, .inl (a42, 24000, .inl (fun _ => 0))), (q51, .inl (a51, 4096, .inl (fun _ => 0))), (q83, .inl (a83, 65560, .inl (fun _ => 0))), (q369, .inl (a369, 10, .inl (fun _ => 0)))] := hD
  have hK : va_K D vwCl [(a7, .char), (a15, .char), (a24, .int), (a33, .int), (a42, .int), (a51, .int), (a83, .byte), (a369, .int)] s := hK
  refine W.widen (k := 36) (n := 767478) (by decide) (by decide) ?_
  refine lv_dup hx hb dX12_init_371 rfl ?_
  refine lv_iconst (v := 0) hx hb dX12_init_372 (by decide) ?_
  refine lv_iconst (v := 1) hx hb dX12_init_373 (by decide) ?_
  refine va_iast hx hb hK hP hD hS 8 7 rfl rfl (by unfold vp_in; decide) dX12_init_374 (fun H locs hP hD hS => ?_)
  have hP : va_P D vwCl [(m0, .inr (12, fs)), (q7, .inl (a7, 66000, .inl (fun _ => 0))), (q15, .inl (a15, 66000, .inl (fun _ => 0))), (q24, .inl (a24, 24000, .inl (fun _ => 0))), (q33, .inl (a33, 24000, .inl (fun _ => 0))), (q42, .inl (a42, 24000, .inl (fun _ => 0))), (q51, .inl (a51, 4096, .inl (fun _ => 0))), (q83, .inl (a83, 65560, .inl (fun _ => 0))), (q369, .inl (a369, 10, .inl (upd (fun _ => 0) (Int32.toNatClampNeg 0) 1)))] H := hP
  have hD : va_D A [(m0, .inr (12, fs)), (q7, .inl (a7, 66000, .inl (fun _ => 0))), (q15, .inl (a15, 66000, .inl (fun _ => 0))), (q24, .inl (a24, 24000, .inl (fun _ => 0))), (q33, .inl (a33, 24000, .inl (fun _ => 0))), (q42, .inl (a42, 24000, .inl (fun _ => 0))), (q51, .inl (a51, 4096, .inl (fun _ => 0))), (q83, .inl (a83, 65560, .inl (fun _ => 0))), (q369, .inl (a369, 10, .inl (upd (fun _ => 0) (Int32.toNatClampNeg 0) 1)))] := hD
  generalize (upd (fun _ => 0) (Int32.toNatClampNeg 0) 1) = kf at hP hD
  refine lv_dup hx hb dX12_init_375 rfl ?_
  refine lv_iconst (v := 1) hx hb dX12_init_376 (by decide) ?_
  refine lv_iconst (v := 2) hx hb dX12_init_377 (by decide) ?_
  refine va_iast hx hb hK hP hD hS 8 7 rfl rfl (by unfold vp_in; decide) dX12_init_378 (fun H locs hP hD hS => ?_)
  have hP : va_P D vwCl [(m0, .inr (12, fs)), (q7, .inl (a7, 66000, .inl (fun _ => 0))), (q15, .inl (a15, 66000, .inl (fun _ => 0))), (q24, .inl (a24, 24000, .inl (fun _ => 0))), (q33, .inl (a33, 24000, .inl (fun _ => 0))), (q42, .inl (a42, 24000, .inl (fun _ => 0))), (q51, .inl (a51, 4096, .inl (fun _ => 0))), (q83, .inl (a83, 65560, .inl (fun _ => 0))), (q369, .inl (a369, 10, .inl (upd kf (Int32.toNatClampNeg 1) 2)))] H := hP
  have hD : va_D A [(m0, .inr (12, fs)), (q7, .inl (a7, 66000, .inl (fun _ => 0))), (q15, .inl (a15, 66000, .inl (fun _ => 0))), (q24, .inl (a24, 24000, .inl (fun _ => 0))), (q33, .inl (a33, 24000, .inl (fun _ => 0))), (q42, .inl (a42, 24000, .inl (fun _ => 0))), (q51, .inl (a51, 4096, .inl (fun _ => 0))), (q83, .inl (a83, 65560, .inl (fun _ => 0))), (q369, .inl (a369, 10, .inl (upd kf (Int32.toNatClampNeg 1) 2)))] := hD
  generalize (upd kf (Int32.toNatClampNeg 1) 2) = kf at hP hD
  refine lv_dup hx hb dX12_init_379 rfl ?_
  refine lv_iconst (v := 2) hx hb dX12_init_380 (by decide) ?_
  refine lv_iconst (v := 2) hx hb dX12_init_381 (by decide) ?_
  refine va_iast hx hb hK hP hD hS 8 7 rfl rfl (by unfold vp_in; decide) dX12_init_382 (fun H locs hP hD hS => ?_)
  have hP : va_P D vwCl [(m0, .inr (12, fs)), (q7, .inl (a7, 66000, .inl (fun _ => 0))), (q15, .inl (a15, 66000, .inl (fun _ => 0))), (q24, .inl (a24, 24000, .inl (fun _ => 0))), (q33, .inl (a33, 24000, .inl (fun _ => 0))), (q42, .inl (a42, 24000, .inl (fun _ => 0))), (q51, .inl (a51, 4096, .inl (fun _ => 0))), (q83, .inl (a83, 65560, .inl (fun _ => 0))), (q369, .inl (a369, 10, .inl (upd kf (Int32.toNatClampNeg 2) 2)))] H := hP
  have hD : va_D A [(m0, .inr (12, fs)), (q7, .inl (a7, 66000, .inl (fun _ => 0))), (q15, .inl (a15, 66000, .inl (fun _ => 0))), (q24, .inl (a24, 24000, .inl (fun _ => 0))), (q33, .inl (a33, 24000, .inl (fun _ => 0))), (q42, .inl (a42, 24000, .inl (fun _ => 0))), (q51, .inl (a51, 4096, .inl (fun _ => 0))), (q83, .inl (a83, 65560, .inl (fun _ => 0))), (q369, .inl (a369, 10, .inl (upd kf (Int32.toNatClampNeg 2) 2)))] := hD
  generalize (upd kf (Int32.toNatClampNeg 2) 2) = kf at hP hD
  refine lv_dup hx hb dX12_init_383 rfl ?_
  refine lv_iconst (v := 3) hx hb dX12_init_384 (by decide) ?_
  refine lv_iconst (v := 3) hx hb dX12_init_385 (by decide) ?_
  refine va_iast hx hb hK hP hD hS 8 7 rfl rfl (by unfold vp_in; decide) dX12_init_386 (fun H locs hP hD hS => ?_)
  have hP : va_P D vwCl [(m0, .inr (12, fs)), (q7, .inl (a7, 66000, .inl (fun _ => 0))), (q15, .inl (a15, 66000, .inl (fun _ => 0))), (q24, .inl (a24, 24000, .inl (fun _ => 0))), (q33, .inl (a33, 24000, .inl (fun _ => 0))), (q42, .inl (a42, 24000, .inl (fun _ => 0))), (q51, .inl (a51, 4096, .inl (fun _ => 0))), (q83, .inl (a83, 65560, .inl (fun _ => 0))), (q369, .inl (a369, 10, .inl (upd kf (Int32.toNatClampNeg 3) 3)))] H := hP
  have hD : va_D A [(m0, .inr (12, fs)), (q7, .inl (a7, 66000, .inl (fun _ => 0))), (q15, .inl (a15, 66000, .inl (fun _ => 0))), (q24, .inl (a24, 24000, .inl (fun _ => 0))), (q33, .inl (a33, 24000, .inl (fun _ => 0))), (q42, .inl (a42, 24000, .inl (fun _ => 0))), (q51, .inl (a51, 4096, .inl (fun _ => 0))), (q83, .inl (a83, 65560, .inl (fun _ => 0))), (q369, .inl (a369, 10, .inl (upd kf (Int32.toNatClampNeg 3) 3)))] := hD
  generalize (upd kf (Int32.toNatClampNeg 3) 3) = kf at hP hD
  refine lv_dup hx hb dX12_init_387 rfl ?_
  refine lv_iconst (v := 4) hx hb dX12_init_388 (by decide) ?_
  refine lv_iconst (v := 4) hx hb dX12_init_389 (by decide) ?_
  refine va_iast hx hb hK hP hD hS 8 7 rfl rfl (by unfold vp_in; decide) dX12_init_390 (fun H locs hP hD hS => ?_)
  have hP : va_P D vwCl [(m0, .inr (12, fs)), (q7, .inl (a7, 66000, .inl (fun _ => 0))), (q15, .inl (a15, 66000, .inl (fun _ => 0))), (q24, .inl (a24, 24000, .inl (fun _ => 0))), (q33, .inl (a33, 24000, .inl (fun _ => 0))), (q42, .inl (a42, 24000, .inl (fun _ => 0))), (q51, .inl (a51, 4096, .inl (fun _ => 0))), (q83, .inl (a83, 65560, .inl (fun _ => 0))), (q369, .inl (a369, 10, .inl (upd kf (Int32.toNatClampNeg 4) 4)))] H := hP
  have hD : va_D A [(m0, .inr (12, fs)), (q7, .inl (a7, 66000, .inl (fun _ => 0))), (q15, .inl (a15, 66000, .inl (fun _ => 0))), (q24, .inl (a24, 24000, .inl (fun _ => 0))), (q33, .inl (a33, 24000, .inl (fun _ => 0))), (q42, .inl (a42, 24000, .inl (fun _ => 0))), (q51, .inl (a51, 4096, .inl (fun _ => 0))), (q83, .inl (a83, 65560, .inl (fun _ => 0))), (q369, .inl (a369, 10, .inl (upd kf (Int32.toNatClampNeg 4) 4)))] := hD
  generalize (upd kf (Int32.toNatClampNeg 4) 4) = kf at hP hD
  refine lv_dup hx hb dX12_init_391 rfl ?_
  refine lv_iconst (v := 5) hx hb dX12_init_392 (by decide) ?_
  refine lv_iconst (v := 4) hx hb dX12_init_393 (by decide) ?_
  refine va_iast hx hb hK hP hD hS 8 7 rfl rfl (by unfold vp_in; decide) dX12_init_394 (fun H locs hP hD hS => ?_)
  have hP : va_P D vwCl [(m0, .inr (12, fs)), (q7, .inl (a7, 66000, .inl (fun _ => 0))), (q15, .inl (a15, 66000, .inl (fun _ => 0))), (q24, .inl (a24, 24000, .inl (fun _ => 0))), (q33, .inl (a33, 24000, .inl (fun _ => 0))), (q42, .inl (a42, 24000, .inl (fun _ => 0))), (q51, .inl (a51, 4096, .inl (fun _ => 0))), (q83, .inl (a83, 65560, .inl (fun _ => 0))), (q369, .inl (a369, 10, .inl (upd kf (Int32.toNatClampNeg 5) 4)))] H := hP
  have hD : va_D A [(m0, .inr (12, fs)), (q7, .inl (a7, 66000, .inl (fun _ => 0))), (q15, .inl (a15, 66000, .inl (fun _ => 0))), (q24, .inl (a24, 24000, .inl (fun _ => 0))), (q33, .inl (a33, 24000, .inl (fun _ => 0))), (q42, .inl (a42, 24000, .inl (fun _ => 0))), (q51, .inl (a51, 4096, .inl (fun _ => 0))), (q83, .inl (a83, 65560, .inl (fun _ => 0))), (q369, .inl (a369, 10, .inl (upd kf (Int32.toNatClampNeg 5) 4)))] := hD
  generalize (upd kf (Int32.toNatClampNeg 5) 4) = kf at hP hD
  refine lv_dup hx hb dX12_init_395 rfl ?_
  refine lv_bipush (v := 6) hx hb dX12_init_396 (by decide) ?_
  refine lv_iconst (v := 4) hx hb dX12_init_398 (by decide) ?_
  refine va_iast hx hb hK hP hD hS 8 7 rfl rfl (by unfold vp_in; decide) dX12_init_399 (fun H locs hP hD hS => ?_)
  have hP : va_P D vwCl [(m0, .inr (12, fs)), (q7, .inl (a7, 66000, .inl (fun _ => 0))), (q15, .inl (a15, 66000, .inl (fun _ => 0))), (q24, .inl (a24, 24000, .inl (fun _ => 0))), (q33, .inl (a33, 24000, .inl (fun _ => 0))), (q42, .inl (a42, 24000, .inl (fun _ => 0))), (q51, .inl (a51, 4096, .inl (fun _ => 0))), (q83, .inl (a83, 65560, .inl (fun _ => 0))), (q369, .inl (a369, 10, .inl (upd kf (Int32.toNatClampNeg 6) 4)))] H := hP
  have hD : va_D A [(m0, .inr (12, fs)), (q7, .inl (a7, 66000, .inl (fun _ => 0))), (q15, .inl (a15, 66000, .inl (fun _ => 0))), (q24, .inl (a24, 24000, .inl (fun _ => 0))), (q33, .inl (a33, 24000, .inl (fun _ => 0))), (q42, .inl (a42, 24000, .inl (fun _ => 0))), (q51, .inl (a51, 4096, .inl (fun _ => 0))), (q83, .inl (a83, 65560, .inl (fun _ => 0))), (q369, .inl (a369, 10, .inl (upd kf (Int32.toNatClampNeg 6) 4)))] := hD
  generalize (upd kf (Int32.toNatClampNeg 6) 4) = kf at hP hD
  refine lv_dup hx hb dX12_init_400 rfl ?_
  refine lv_bipush (v := 7) hx hb dX12_init_401 (by decide) ?_
  refine lv_iconst (v := 4) hx hb dX12_init_403 (by decide) ?_
  refine va_iast hx hb hK hP hD hS 8 7 rfl rfl (by unfold vp_in; decide) dX12_init_404 (fun H locs hP hD hS => ?_)
  have hP : va_P D vwCl [(m0, .inr (12, fs)), (q7, .inl (a7, 66000, .inl (fun _ => 0))), (q15, .inl (a15, 66000, .inl (fun _ => 0))), (q24, .inl (a24, 24000, .inl (fun _ => 0))), (q33, .inl (a33, 24000, .inl (fun _ => 0))), (q42, .inl (a42, 24000, .inl (fun _ => 0))), (q51, .inl (a51, 4096, .inl (fun _ => 0))), (q83, .inl (a83, 65560, .inl (fun _ => 0))), (q369, .inl (a369, 10, .inl (upd kf (Int32.toNatClampNeg 7) 4)))] H := hP
  have hD : va_D A [(m0, .inr (12, fs)), (q7, .inl (a7, 66000, .inl (fun _ => 0))), (q15, .inl (a15, 66000, .inl (fun _ => 0))), (q24, .inl (a24, 24000, .inl (fun _ => 0))), (q33, .inl (a33, 24000, .inl (fun _ => 0))), (q42, .inl (a42, 24000, .inl (fun _ => 0))), (q51, .inl (a51, 4096, .inl (fun _ => 0))), (q83, .inl (a83, 65560, .inl (fun _ => 0))), (q369, .inl (a369, 10, .inl (upd kf (Int32.toNatClampNeg 7) 4)))] := hD
  generalize (upd kf (Int32.toNatClampNeg 7) 4) = kf at hP hD
  refine lv_dup hx hb dX12_init_405 rfl ?_
  refine lv_bipush (v := 8) hx hb dX12_init_406 (by decide) ?_
  refine lv_iconst (v := 4) hx hb dX12_init_408 (by decide) ?_
  refine va_iast hx hb hK hP hD hS 8 7 rfl rfl (by unfold vp_in; decide) dX12_init_409 (fun H locs hP hD hS => ?_)
  have hP : va_P D vwCl [(m0, .inr (12, fs)), (q7, .inl (a7, 66000, .inl (fun _ => 0))), (q15, .inl (a15, 66000, .inl (fun _ => 0))), (q24, .inl (a24, 24000, .inl (fun _ => 0))), (q33, .inl (a33, 24000, .inl (fun _ => 0))), (q42, .inl (a42, 24000, .inl (fun _ => 0))), (q51, .inl (a51, 4096, .inl (fun _ => 0))), (q83, .inl (a83, 65560, .inl (fun _ => 0))), (q369, .inl (a369, 10, .inl (upd kf (Int32.toNatClampNeg 8) 4)))] H := hP
  have hD : va_D A [(m0, .inr (12, fs)), (q7, .inl (a7, 66000, .inl (fun _ => 0))), (q15, .inl (a15, 66000, .inl (fun _ => 0))), (q24, .inl (a24, 24000, .inl (fun _ => 0))), (q33, .inl (a33, 24000, .inl (fun _ => 0))), (q42, .inl (a42, 24000, .inl (fun _ => 0))), (q51, .inl (a51, 4096, .inl (fun _ => 0))), (q83, .inl (a83, 65560, .inl (fun _ => 0))), (q369, .inl (a369, 10, .inl (upd kf (Int32.toNatClampNeg 8) 4)))] := hD
  generalize (upd kf (Int32.toNatClampNeg 8) 4) = kf at hP hD
  refine lv_dup hx hb dX12_init_410 rfl ?_
  refine lv_bipush (v := 9) hx hb dX12_init_411 (by decide) ?_
  refine lv_iconst (v := 4) hx hb dX12_init_413 (by decide) ?_
  refine va_iast hx hb hK hP hD hS 8 7 rfl rfl (by unfold vp_in; decide) dX12_init_414 (fun H locs hP hD hS => ?_)
  have hP : va_P D vwCl [(m0, .inr (12, fs)), (q7, .inl (a7, 66000, .inl (fun _ => 0))), (q15, .inl (a15, 66000, .inl (fun _ => 0))), (q24, .inl (a24, 24000, .inl (fun _ => 0))), (q33, .inl (a33, 24000, .inl (fun _ => 0))), (q42, .inl (a42, 24000, .inl (fun _ => 0))), (q51, .inl (a51, 4096, .inl (fun _ => 0))), (q83, .inl (a83, 65560, .inl (fun _ => 0))), (q369, .inl (a369, 10, .inl (upd kf (Int32.toNatClampNeg 9) 4)))] H := hP
  have hD : va_D A [(m0, .inr (12, fs)), (q7, .inl (a7, 66000, .inl (fun _ => 0))), (q15, .inl (a15, 66000, .inl (fun _ => 0))), (q24, .inl (a24, 24000, .inl (fun _ => 0))), (q33, .inl (a33, 24000, .inl (fun _ => 0))), (q42, .inl (a42, 24000, .inl (fun _ => 0))), (q51, .inl (a51, 4096, .inl (fun _ => 0))), (q83, .inl (a83, 65560, .inl (fun _ => 0))), (q369, .inl (a369, 10, .inl (upd kf (Int32.toNatClampNeg 9) 4)))] := hD
  generalize (upd kf (Int32.toNatClampNeg 9) 4) = kf at hP hD
  refine va_putF (D := D) (ci := 12) (v := .ref q369) (ty := tyX12 63) (C := RX12) (T := TX12) (N := 82) hx hb htb bi_X12 tyX12 tyX12_ok nmX12 hown hK hP hD hS 0 rfl rfl 63 (by decide) (htb _ bg_134) (fun _ h9 => h9) rfl hin rfl (tyX12_ok 63 (by decide)) rfl rfl (by rw [hm.1]; decide) dX12_init_415 (fun H locs hP hD hS => ?_)
  have hP : va_P D vwCl [(m0, .inr (12, (fs.set 63 (.ref q369)))), (q7, .inl (a7, 66000, .inl (fun _ => 0))), (q15, .inl (a15, 66000, .inl (fun _ => 0))), (q24, .inl (a24, 24000, .inl (fun _ => 0))), (q33, .inl (a33, 24000, .inl (fun _ => 0))), (q42, .inl (a42, 24000, .inl (fun _ => 0))), (q51, .inl (a51, 4096, .inl (fun _ => 0))), (q83, .inl (a83, 65560, .inl (fun _ => 0))), (q369, .inl (a369, 10, .inl kf))] H := hP
  have hD : va_D A [(m0, .inr (12, (fs.set 63 (.ref q369)))), (q7, .inl (a7, 66000, .inl (fun _ => 0))), (q15, .inl (a15, 66000, .inl (fun _ => 0))), (q24, .inl (a24, 24000, .inl (fun _ => 0))), (q33, .inl (a33, 24000, .inl (fun _ => 0))), (q42, .inl (a42, 24000, .inl (fun _ => 0))), (q51, .inl (a51, 4096, .inl (fun _ => 0))), (q83, .inl (a83, 65560, .inl (fun _ => 0))), (q369, .inl (a369, 10, .inl kf))] := hD
  have hm : md_has (fs.set 63 (.ref q369)) [(18, .int (-1)), (15, .ref q83), (13, .ref q67), (7, .ref q51), (6, .ref q42), (5, .ref q33), (4, .ref q24), (2, .ref q15), (1, .ref q7), (17, .int 0), (19, .int 0)] := md_putD hm 63 (.ref q369) (by decide) rfl
  generalize (fs.set 63 (.ref q369)) = fs at hP hD hm
  have hP := hP.sub (ws' := [(m0, .inr (12, fs)), (q7, .inl (a7, 66000, .inl (fun _ => 0))), (q15, .inl (a15, 66000, .inl (fun _ => 0))), (q24, .inl (a24, 24000, .inl (fun _ => 0))), (q33, .inl (a33, 24000, .inl (fun _ => 0))), (q42, .inl (a42, 24000, .inl (fun _ => 0))), (q51, .inl (a51, 4096, .inl (fun _ => 0))), (q83, .inl (a83, 65560, .inl (fun _ => 0)))]) [0, 1, 2, 3, 4, 5, 6, 7] rfl
  have hD := hD.sub (ws' := [(m0, .inr (12, fs)), (q7, .inl (a7, 66000, .inl (fun _ => 0))), (q15, .inl (a15, 66000, .inl (fun _ => 0))), (q24, .inl (a24, 24000, .inl (fun _ => 0))), (q33, .inl (a33, 24000, .inl (fun _ => 0))), (q42, .inl (a42, 24000, .inl (fun _ => 0))), (q51, .inl (a51, 4096, .inl (fun _ => 0))), (q83, .inl (a83, 65560, .inl (fun _ => 0)))]) [0, 1, 2, 3, 4, 5, 6, 7] rfl rfl
  have hK := hK.sub (tys' := [(a7, .char), (a15, .char), (a24, .int), (a33, .int), (a42, .int), (a51, .int), (a83, .byte)]) [0, 1, 2, 3, 4, 5, 6] rfl
  refine lv_aload_n hx hb dX12_init_418 rfl (lv_at hl 0 rfl) ?_
  refine lv_bipush (v := 10) hx hb dX12_init_419 (by decide) ?_
  refine va_newa (atype := .int) (ty := .int) (a0 := (10, .inl (fun _ => 0))) (N' := 10) hx hb (htb _ bg_95) rfl hK hP hD hS hA (fun _ => rfl) (by decide) (by decide) (by decide) (Nat.le_of_ble_eq_true rfl) (Nat.le_of_ble_eq_true rfl) dX12_init_421 (fun q421 a421 H hK hP hD hS => ?_)
  have hP : va_P D vwCl [(m0, .inr (12, fs)), (q7, .inl (a7, 66000, .inl (fun _ => 0))), (q15, .inl (a15, 66000, .inl (fun _ => 0))), (q24, .inl (a24, 24000, .inl (fun _ => 0))), (q33, .inl (a33, 24000, .inl (fun _ => 0))), (q42, .inl (a42, 24000, .inl (fun _ => 0))), (q51, .inl (a51, 4096, .inl (fun _ => 0))), (q83, .inl (a83, 65560, .inl (fun _ => 0))), (q421, .inl (a421, 10, .inl (fun _ => 0)))] H := hP
  have hD : va_D A [(m0, .inr (12, fs)), (q7, .inl (a7, 66000, .inl (fun _ => 0))), (q15, .inl (a15, 66000, .inl (fun _ => 0))), (q24, .inl (a24, 24000, .inl (fun _ => 0))), (q33, .inl (a33, 24000, .inl (fun _ => 0))), (q42, .inl (a42, 24000, .inl (fun _ => 0))), (q51, .inl (a51, 4096, .inl (fun _ => 0))), (q83, .inl (a83, 65560, .inl (fun _ => 0))), (q421, .inl (a421, 10, .inl (fun _ => 0)))] := hD
  have hK : va_K D vwCl [(a7, .char), (a15, .char), (a24, .int), (a33, .int), (a42, .int), (a51, .int), (a83, .byte), (a421, .int)] s := hK
  refine W.widen (k := 37) (n := 767488) (by decide) (by decide) ?_
  refine lv_dup hx hb dX12_init_423 rfl ?_
  refine lv_iconst (v := 0) hx hb dX12_init_424 (by decide) ?_
  refine lv_iconst (v := 0) hx hb dX12_init_425 (by decide) ?_
  refine va_iast hx hb hK hP hD hS 8 7 rfl rfl (by unfold vp_in; decide) dX12_init_426 (fun H locs hP hD hS => ?_)
  have hP : va_P D vwCl [(m0, .inr (12, fs)), (q7, .inl (a7, 66000, .inl (fun _ => 0))), (q15, .inl (a15, 66000, .inl (fun _ => 0))), (q24, .inl (a24, 24000, .inl (fun _ => 0))), (q33, .inl (a33, 24000, .inl (fun _ => 0))), (q42, .inl (a42, 24000, .inl (fun _ => 0))), (q51, .inl (a51, 4096, .inl (fun _ => 0))), (q83, .inl (a83, 65560, .inl (fun _ => 0))), (q421, .inl (a421, 10, .inl (upd (fun _ => 0) (Int32.toNatClampNeg 0) 0)))] H := hP
  have hD : va_D A [(m0, .inr (12, fs)), (q7, .inl (a7, 66000, .inl (fun _ => 0))), (q15, .inl (a15, 66000, .inl (fun _ => 0))), (q24, .inl (a24, 24000, .inl (fun _ => 0))), (q33, .inl (a33, 24000, .inl (fun _ => 0))), (q42, .inl (a42, 24000, .inl (fun _ => 0))), (q51, .inl (a51, 4096, .inl (fun _ => 0))), (q83, .inl (a83, 65560, .inl (fun _ => 0))), (q421, .inl (a421, 10, .inl (upd (fun _ => 0) (Int32.toNatClampNeg 0) 0)))] := hD
  generalize (upd (fun _ => 0) (Int32.toNatClampNeg 0) 0) = kf at hP hD
  refine lv_dup hx hb dX12_init_427 rfl ?_
  refine lv_iconst (v := 1) hx hb dX12_init_428 (by decide) ?_
  refine lv_iconst (v := 0) hx hb dX12_init_429 (by decide) ?_
  refine va_iast hx hb hK hP hD hS 8 7 rfl rfl (by unfold vp_in; decide) dX12_init_430 (fun H locs hP hD hS => ?_)
  have hP : va_P D vwCl [(m0, .inr (12, fs)), (q7, .inl (a7, 66000, .inl (fun _ => 0))), (q15, .inl (a15, 66000, .inl (fun _ => 0))), (q24, .inl (a24, 24000, .inl (fun _ => 0))), (q33, .inl (a33, 24000, .inl (fun _ => 0))), (q42, .inl (a42, 24000, .inl (fun _ => 0))), (q51, .inl (a51, 4096, .inl (fun _ => 0))), (q83, .inl (a83, 65560, .inl (fun _ => 0))), (q421, .inl (a421, 10, .inl (upd kf (Int32.toNatClampNeg 1) 0)))] H := hP
  have hD : va_D A [(m0, .inr (12, fs)), (q7, .inl (a7, 66000, .inl (fun _ => 0))), (q15, .inl (a15, 66000, .inl (fun _ => 0))), (q24, .inl (a24, 24000, .inl (fun _ => 0))), (q33, .inl (a33, 24000, .inl (fun _ => 0))), (q42, .inl (a42, 24000, .inl (fun _ => 0))), (q51, .inl (a51, 4096, .inl (fun _ => 0))), (q83, .inl (a83, 65560, .inl (fun _ => 0))), (q421, .inl (a421, 10, .inl (upd kf (Int32.toNatClampNeg 1) 0)))] := hD
  generalize (upd kf (Int32.toNatClampNeg 1) 0) = kf at hP hD
  refine lv_dup hx hb dX12_init_431 rfl ?_
  refine lv_iconst (v := 2) hx hb dX12_init_432 (by decide) ?_
  refine lv_iconst (v := 0) hx hb dX12_init_433 (by decide) ?_
  refine va_iast hx hb hK hP hD hS 8 7 rfl rfl (by unfold vp_in; decide) dX12_init_434 (fun H locs hP hD hS => ?_)
  have hP : va_P D vwCl [(m0, .inr (12, fs)), (q7, .inl (a7, 66000, .inl (fun _ => 0))), (q15, .inl (a15, 66000, .inl (fun _ => 0))), (q24, .inl (a24, 24000, .inl (fun _ => 0))), (q33, .inl (a33, 24000, .inl (fun _ => 0))), (q42, .inl (a42, 24000, .inl (fun _ => 0))), (q51, .inl (a51, 4096, .inl (fun _ => 0))), (q83, .inl (a83, 65560, .inl (fun _ => 0))), (q421, .inl (a421, 10, .inl (upd kf (Int32.toNatClampNeg 2) 0)))] H := hP
  have hD : va_D A [(m0, .inr (12, fs)), (q7, .inl (a7, 66000, .inl (fun _ => 0))), (q15, .inl (a15, 66000, .inl (fun _ => 0))), (q24, .inl (a24, 24000, .inl (fun _ => 0))), (q33, .inl (a33, 24000, .inl (fun _ => 0))), (q42, .inl (a42, 24000, .inl (fun _ => 0))), (q51, .inl (a51, 4096, .inl (fun _ => 0))), (q83, .inl (a83, 65560, .inl (fun _ => 0))), (q421, .inl (a421, 10, .inl (upd kf (Int32.toNatClampNeg 2) 0)))] := hD
  generalize (upd kf (Int32.toNatClampNeg 2) 0) = kf at hP hD
  refine lv_dup hx hb dX12_init_435 rfl ?_
  refine lv_iconst (v := 3) hx hb dX12_init_436 (by decide) ?_
  refine lv_bipush (v := 50) hx hb dX12_init_437 (by decide) ?_
  refine va_iast hx hb hK hP hD hS 8 7 rfl rfl (by unfold vp_in; decide) dX12_init_439 (fun H locs hP hD hS => ?_)
  have hP : va_P D vwCl [(m0, .inr (12, fs)), (q7, .inl (a7, 66000, .inl (fun _ => 0))), (q15, .inl (a15, 66000, .inl (fun _ => 0))), (q24, .inl (a24, 24000, .inl (fun _ => 0))), (q33, .inl (a33, 24000, .inl (fun _ => 0))), (q42, .inl (a42, 24000, .inl (fun _ => 0))), (q51, .inl (a51, 4096, .inl (fun _ => 0))), (q83, .inl (a83, 65560, .inl (fun _ => 0))), (q421, .inl (a421, 10, .inl (upd kf (Int32.toNatClampNeg 3) 50)))] H := hP
  have hD : va_D A [(m0, .inr (12, fs)), (q7, .inl (a7, 66000, .inl (fun _ => 0))), (q15, .inl (a15, 66000, .inl (fun _ => 0))), (q24, .inl (a24, 24000, .inl (fun _ => 0))), (q33, .inl (a33, 24000, .inl (fun _ => 0))), (q42, .inl (a42, 24000, .inl (fun _ => 0))), (q51, .inl (a51, 4096, .inl (fun _ => 0))), (q83, .inl (a83, 65560, .inl (fun _ => 0))), (q421, .inl (a421, 10, .inl (upd kf (Int32.toNatClampNeg 3) 50)))] := hD
  generalize (upd kf (Int32.toNatClampNeg 3) 50) = kf at hP hD
  refine lv_dup hx hb dX12_init_440 rfl ?_
  refine lv_iconst (v := 4) hx hb dX12_init_441 (by decide) ?_
  refine lv_iconst (v := 0) hx hb dX12_init_442 (by decide) ?_
  refine va_iast hx hb hK hP hD hS 8 7 rfl rfl (by unfold vp_in; decide) dX12_init_443 (fun H locs hP hD hS => ?_)
  have hP : va_P D vwCl [(m0, .inr (12, fs)), (q7, .inl (a7, 66000, .inl (fun _ => 0))), (q15, .inl (a15, 66000, .inl (fun _ => 0))), (q24, .inl (a24, 24000, .inl (fun _ => 0))), (q33, .inl (a33, 24000, .inl (fun _ => 0))), (q42, .inl (a42, 24000, .inl (fun _ => 0))), (q51, .inl (a51, 4096, .inl (fun _ => 0))), (q83, .inl (a83, 65560, .inl (fun _ => 0))), (q421, .inl (a421, 10, .inl (upd kf (Int32.toNatClampNeg 4) 0)))] H := hP
  have hD : va_D A [(m0, .inr (12, fs)), (q7, .inl (a7, 66000, .inl (fun _ => 0))), (q15, .inl (a15, 66000, .inl (fun _ => 0))), (q24, .inl (a24, 24000, .inl (fun _ => 0))), (q33, .inl (a33, 24000, .inl (fun _ => 0))), (q42, .inl (a42, 24000, .inl (fun _ => 0))), (q51, .inl (a51, 4096, .inl (fun _ => 0))), (q83, .inl (a83, 65560, .inl (fun _ => 0))), (q421, .inl (a421, 10, .inl (upd kf (Int32.toNatClampNeg 4) 0)))] := hD
  generalize (upd kf (Int32.toNatClampNeg 4) 0) = kf at hP hD
  refine lv_dup hx hb dX12_init_444 rfl ?_
  refine lv_iconst (v := 5) hx hb dX12_init_445 (by decide) ?_
  refine lv_bipush (v := 51) hx hb dX12_init_446 (by decide) ?_
  refine va_iast hx hb hK hP hD hS 8 7 rfl rfl (by unfold vp_in; decide) dX12_init_448 (fun H locs hP hD hS => ?_)
  have hP : va_P D vwCl [(m0, .inr (12, fs)), (q7, .inl (a7, 66000, .inl (fun _ => 0))), (q15, .inl (a15, 66000, .inl (fun _ => 0))), (q24, .inl (a24, 24000, .inl (fun _ => 0))), (q33, .inl (a33, 24000, .inl (fun _ => 0))), (q42, .inl (a42, 24000, .inl (fun _ => 0))), (q51, .inl (a51, 4096, .inl (fun _ => 0))), (q83, .inl (a83, 65560, .inl (fun _ => 0))), (q421, .inl (a421, 10, .inl (upd kf (Int32.toNatClampNeg 5) 51)))] H := hP
  have hD : va_D A [(m0, .inr (12, fs)), (q7, .inl (a7, 66000, .inl (fun _ => 0))), (q15, .inl (a15, 66000, .inl (fun _ => 0))), (q24, .inl (a24, 24000, .inl (fun _ => 0))), (q33, .inl (a33, 24000, .inl (fun _ => 0))), (q42, .inl (a42, 24000, .inl (fun _ => 0))), (q51, .inl (a51, 4096, .inl (fun _ => 0))), (q83, .inl (a83, 65560, .inl (fun _ => 0))), (q421, .inl (a421, 10, .inl (upd kf (Int32.toNatClampNeg 5) 51)))] := hD
  generalize (upd kf (Int32.toNatClampNeg 5) 51) = kf at hP hD
  refine lv_dup hx hb dX12_init_449 rfl ?_
  refine lv_bipush (v := 6) hx hb dX12_init_450 (by decide) ?_
  refine lv_bipush (v := 55) hx hb dX12_init_452 (by decide) ?_
  refine va_iast hx hb hK hP hD hS 8 7 rfl rfl (by unfold vp_in; decide) dX12_init_454 (fun H locs hP hD hS => ?_)
  have hP : va_P D vwCl [(m0, .inr (12, fs)), (q7, .inl (a7, 66000, .inl (fun _ => 0))), (q15, .inl (a15, 66000, .inl (fun _ => 0))), (q24, .inl (a24, 24000, .inl (fun _ => 0))), (q33, .inl (a33, 24000, .inl (fun _ => 0))), (q42, .inl (a42, 24000, .inl (fun _ => 0))), (q51, .inl (a51, 4096, .inl (fun _ => 0))), (q83, .inl (a83, 65560, .inl (fun _ => 0))), (q421, .inl (a421, 10, .inl (upd kf (Int32.toNatClampNeg 6) 55)))] H := hP
  have hD : va_D A [(m0, .inr (12, fs)), (q7, .inl (a7, 66000, .inl (fun _ => 0))), (q15, .inl (a15, 66000, .inl (fun _ => 0))), (q24, .inl (a24, 24000, .inl (fun _ => 0))), (q33, .inl (a33, 24000, .inl (fun _ => 0))), (q42, .inl (a42, 24000, .inl (fun _ => 0))), (q51, .inl (a51, 4096, .inl (fun _ => 0))), (q83, .inl (a83, 65560, .inl (fun _ => 0))), (q421, .inl (a421, 10, .inl (upd kf (Int32.toNatClampNeg 6) 55)))] := hD
  generalize (upd kf (Int32.toNatClampNeg 6) 55) = kf at hP hD
  refine lv_dup hx hb dX12_init_455 rfl ?_
  refine lv_bipush (v := 7) hx hb dX12_init_456 (by decide) ?_
  refine lv_bipush (v := 55) hx hb dX12_init_458 (by decide) ?_
  refine va_iast hx hb hK hP hD hS 8 7 rfl rfl (by unfold vp_in; decide) dX12_init_460 (fun H locs hP hD hS => ?_)
  have hP : va_P D vwCl [(m0, .inr (12, fs)), (q7, .inl (a7, 66000, .inl (fun _ => 0))), (q15, .inl (a15, 66000, .inl (fun _ => 0))), (q24, .inl (a24, 24000, .inl (fun _ => 0))), (q33, .inl (a33, 24000, .inl (fun _ => 0))), (q42, .inl (a42, 24000, .inl (fun _ => 0))), (q51, .inl (a51, 4096, .inl (fun _ => 0))), (q83, .inl (a83, 65560, .inl (fun _ => 0))), (q421, .inl (a421, 10, .inl (upd kf (Int32.toNatClampNeg 7) 55)))] H := hP
  have hD : va_D A [(m0, .inr (12, fs)), (q7, .inl (a7, 66000, .inl (fun _ => 0))), (q15, .inl (a15, 66000, .inl (fun _ => 0))), (q24, .inl (a24, 24000, .inl (fun _ => 0))), (q33, .inl (a33, 24000, .inl (fun _ => 0))), (q42, .inl (a42, 24000, .inl (fun _ => 0))), (q51, .inl (a51, 4096, .inl (fun _ => 0))), (q83, .inl (a83, 65560, .inl (fun _ => 0))), (q421, .inl (a421, 10, .inl (upd kf (Int32.toNatClampNeg 7) 55)))] := hD
  generalize (upd kf (Int32.toNatClampNeg 7) 55) = kf at hP hD
  refine lv_dup hx hb dX12_init_461 rfl ?_
  refine lv_bipush (v := 8) hx hb dX12_init_462 (by decide) ?_
  refine lv_bipush (v := 60) hx hb dX12_init_464 (by decide) ?_
  refine va_iast hx hb hK hP hD hS 8 7 rfl rfl (by unfold vp_in; decide) dX12_init_466 (fun H locs hP hD hS => ?_)
  have hP : va_P D vwCl [(m0, .inr (12, fs)), (q7, .inl (a7, 66000, .inl (fun _ => 0))), (q15, .inl (a15, 66000, .inl (fun _ => 0))), (q24, .inl (a24, 24000, .inl (fun _ => 0))), (q33, .inl (a33, 24000, .inl (fun _ => 0))), (q42, .inl (a42, 24000, .inl (fun _ => 0))), (q51, .inl (a51, 4096, .inl (fun _ => 0))), (q83, .inl (a83, 65560, .inl (fun _ => 0))), (q421, .inl (a421, 10, .inl (upd kf (Int32.toNatClampNeg 8) 60)))] H := hP
  have hD : va_D A [(m0, .inr (12, fs)), (q7, .inl (a7, 66000, .inl (fun _ => 0))), (q15, .inl (a15, 66000, .inl (fun _ => 0))), (q24, .inl (a24, 24000, .inl (fun _ => 0))), (q33, .inl (a33, 24000, .inl (fun _ => 0))), (q42, .inl (a42, 24000, .inl (fun _ => 0))), (q51, .inl (a51, 4096, .inl (fun _ => 0))), (q83, .inl (a83, 65560, .inl (fun _ => 0))), (q421, .inl (a421, 10, .inl (upd kf (Int32.toNatClampNeg 8) 60)))] := hD
  generalize (upd kf (Int32.toNatClampNeg 8) 60) = kf at hP hD
  refine lv_dup hx hb dX12_init_467 rfl ?_
  refine lv_bipush (v := 9) hx hb dX12_init_468 (by decide) ?_
  refine lv_bipush (v := 61) hx hb dX12_init_470 (by decide) ?_
  refine va_iast hx hb hK hP hD hS 8 7 rfl rfl (by unfold vp_in; decide) dX12_init_472 (fun H locs hP hD hS => ?_)
  have hP : va_P D vwCl [(m0, .inr (12, fs)), (q7, .inl (a7, 66000, .inl (fun _ => 0))), (q15, .inl (a15, 66000, .inl (fun _ => 0))), (q24, .inl (a24, 24000, .inl (fun _ => 0))), (q33, .inl (a33, 24000, .inl (fun _ => 0))), (q42, .inl (a42, 24000, .inl (fun _ => 0))), (q51, .inl (a51, 4096, .inl (fun _ => 0))), (q83, .inl (a83, 65560, .inl (fun _ => 0))), (q421, .inl (a421, 10, .inl (upd kf (Int32.toNatClampNeg 9) 61)))] H := hP
  have hD : va_D A [(m0, .inr (12, fs)), (q7, .inl (a7, 66000, .inl (fun _ => 0))), (q15, .inl (a15, 66000, .inl (fun _ => 0))), (q24, .inl (a24, 24000, .inl (fun _ => 0))), (q33, .inl (a33, 24000, .inl (fun _ => 0))), (q42, .inl (a42, 24000, .inl (fun _ => 0))), (q51, .inl (a51, 4096, .inl (fun _ => 0))), (q83, .inl (a83, 65560, .inl (fun _ => 0))), (q421, .inl (a421, 10, .inl (upd kf (Int32.toNatClampNeg 9) 61)))] := hD
  generalize (upd kf (Int32.toNatClampNeg 9) 61) = kf at hP hD
  refine va_putF (D := D) (ci := 12) (v := .ref q421) (ty := tyX12 64) (C := RX12) (T := TX12) (N := 82) hx hb htb bi_X12 tyX12 tyX12_ok nmX12 hown hK hP hD hS 0 rfl rfl 64 (by decide) (htb _ bg_135) (fun _ h9 => h9) rfl hin rfl (tyX12_ok 64 (by decide)) rfl rfl (by rw [hm.1]; decide) dX12_init_473 (fun H locs hP hD hS => ?_)
  have hP : va_P D vwCl [(m0, .inr (12, (fs.set 64 (.ref q421)))), (q7, .inl (a7, 66000, .inl (fun _ => 0))), (q15, .inl (a15, 66000, .inl (fun _ => 0))), (q24, .inl (a24, 24000, .inl (fun _ => 0))), (q33, .inl (a33, 24000, .inl (fun _ => 0))), (q42, .inl (a42, 24000, .inl (fun _ => 0))), (q51, .inl (a51, 4096, .inl (fun _ => 0))), (q83, .inl (a83, 65560, .inl (fun _ => 0))), (q421, .inl (a421, 10, .inl kf))] H := hP
  have hD : va_D A [(m0, .inr (12, (fs.set 64 (.ref q421)))), (q7, .inl (a7, 66000, .inl (fun _ => 0))), (q15, .inl (a15, 66000, .inl (fun _ => 0))), (q24, .inl (a24, 24000, .inl (fun _ => 0))), (q33, .inl (a33, 24000, .inl (fun _ => 0))), (q42, .inl (a42, 24000, .inl (fun _ => 0))), (q51, .inl (a51, 4096, .inl (fun _ => 0))), (q83, .inl (a83, 65560, .inl (fun _ => 0))), (q421, .inl (a421, 10, .inl kf))] := hD
  have hm : md_has (fs.set 64 (.ref q421)) [(18, .int (-1)), (15, .ref q83), (13, .ref q67), (7, .ref q51), (6, .ref q42), (5, .ref q33), (4, .ref q24), (2, .ref q15), (1, .ref q7), (17, .int 0), (19, .int 0)] := md_putD hm 64 (.ref q421) (by decide) rfl
  generalize (fs.set 64 (.ref q421)) = fs at hP hD hm
  have hP := hP.sub (ws' := [(m0, .inr (12, fs)), (q7, .inl (a7, 66000, .inl (fun _ => 0))), (q15, .inl (a15, 66000, .inl (fun _ => 0))), (q24, .inl (a24, 24000, .inl (fun _ => 0))), (q33, .inl (a33, 24000, .inl (fun _ => 0))), (q42, .inl (a42, 24000, .inl (fun _ => 0))), (q51, .inl (a51, 4096, .inl (fun _ => 0))), (q83, .inl (a83, 65560, .inl (fun _ => 0)))]) [0, 1, 2, 3, 4, 5, 6, 7] rfl
  have hD := hD.sub (ws' := [(m0, .inr (12, fs)), (q7, .inl (a7, 66000, .inl (fun _ => 0))), (q15, .inl (a15, 66000, .inl (fun _ => 0))), (q24, .inl (a24, 24000, .inl (fun _ => 0))), (q33, .inl (a33, 24000, .inl (fun _ => 0))), (q42, .inl (a42, 24000, .inl (fun _ => 0))), (q51, .inl (a51, 4096, .inl (fun _ => 0))), (q83, .inl (a83, 65560, .inl (fun _ => 0)))]) [0, 1, 2, 3, 4, 5, 6, 7] rfl rfl
  have hK := hK.sub (tys' := [(a7, .char), (a15, .char), (a24, .int), (a33, .int), (a42, .int), (a51, .int), (a83, .byte)]) [0, 1, 2, 3, 4, 5, 6] rfl
  refine lv_aload_n hx hb dX12_init_476 rfl (lv_at hl 0 rfl) ?_
  refine lv_iconst (v := (-1)) hx hb dX12_init_477 (by decide) ?_
  refine va_put (D := D) (ci := 12) (v := .int (-1)) (ty := tyX12 73) (C := RX12) (T := TX12) (N := 82) hx hb htb bi_X12 tyX12 tyX12_ok nmX12 hown hK hP hD hS 0 rfl rfl 73 (by decide) (htb _ bg_136) (fun _ h9 => h9) rfl (tyX12_ok 73 (by decide)) rfl rfl (by rw [hm.1]; decide) dX12_init_478 (fun H locs hP hD hS => ?_)
  have hP : va_P D vwCl [(m0, .inr (12, (fs.set 73 (.int (-1))))), (q7, .inl (a7, 66000, .inl (fun _ => 0))), (q15, .inl (a15, 66000, .inl (fun _ => 0))), (q24, .inl (a24, 24000, .inl (fun _ => 0))), (q33, .inl (a33, 24000, .inl (fun _ => 0))), (q42, .inl (a42, 24000, .inl (fun _ => 0))), (q51, .inl (a51, 4096, .inl (fun _ => 0))), (q83, .inl (a83, 65560, .inl (fun _ => 0)))] H := hP
  have hD : va_D A [(m0, .inr (12, (fs.set 73 (.int (-1))))), (q7, .inl (a7, 66000, .inl (fun _ => 0))), (q15, .inl (a15, 66000, .inl (fun _ => 0))), (q24, .inl (a24, 24000, .inl (fun _ => 0))), (q33, .inl (a33, 24000, .inl (fun _ => 0))), (q42, .inl (a42, 24000, .inl (fun _ => 0))), (q51, .inl (a51, 4096, .inl (fun _ => 0))), (q83, .inl (a83, 65560, .inl (fun _ => 0)))] := hD
  have hm : md_has (fs.set 73 (.int (-1))) [(73, .int (-1)), (18, .int (-1)), (15, .ref q83), (13, .ref q67), (7, .ref q51), (6, .ref q42), (5, .ref q33), (4, .ref q24), (2, .ref q15), (1, .ref q7), (17, .int 0), (19, .int 0)] := md_put hm 73 (.int (-1)) (by decide) rfl
  generalize (fs.set 73 (.int (-1))) = fs at hP hD hm
  refine lv_aload_n hx hb dX12_init_481 rfl (lv_at hl 0 rfl) ?_
  refine lv_iconst (v := (-1)) hx hb dX12_init_482 (by decide) ?_
  refine va_put (D := D) (ci := 12) (v := .int (-1)) (ty := tyX12 74) (C := RX12) (T := TX12) (N := 82) hx hb htb bi_X12 tyX12 tyX12_ok nmX12 hown hK hP hD hS 0 rfl rfl 74 (by decide) (htb _ bg_137) (fun _ h9 => h9) rfl (tyX12_ok 74 (by decide)) rfl rfl (by rw [hm.1]; decide) dX12_init_483 (fun H locs hP hD hS => ?_)
  have hP : va_P D vwCl [(m0, .inr (12, (fs.set 74 (.int (-1))))), (q7, .inl (a7, 66000, .inl (fun _ => 0))), (q15, .inl (a15, 66000, .inl (fun _ => 0))), (q24, .inl (a24, 24000, .inl (fun _ => 0))), (q33, .inl (a33, 24000, .inl (fun _ => 0))), (q42, .inl (a42, 24000, .inl (fun _ => 0))), (q51, .inl (a51, 4096, .inl (fun _ => 0))), (q83, .inl (a83, 65560, .inl (fun _ => 0)))] H := hP
  have hD : va_D A [(m0, .inr (12, (fs.set 74 (.int (-1))))), (q7, .inl (a7, 66000, .inl (fun _ => 0))), (q15, .inl (a15, 66000, .inl (fun _ => 0))), (q24, .inl (a24, 24000, .inl (fun _ => 0))), (q33, .inl (a33, 24000, .inl (fun _ => 0))), (q42, .inl (a42, 24000, .inl (fun _ => 0))), (q51, .inl (a51, 4096, .inl (fun _ => 0))), (q83, .inl (a83, 65560, .inl (fun _ => 0)))] := hD
  have hm : md_has (fs.set 74 (.int (-1))) [(73, .int (-1)), (18, .int (-1)), (15, .ref q83), (13, .ref q67), (7, .ref q51), (6, .ref q42), (5, .ref q33), (4, .ref q24), (2, .ref q15), (1, .ref q7), (17, .int 0), (19, .int 0)] := md_putD hm 74 (.int (-1)) (by decide) rfl
  generalize (fs.set 74 (.int (-1))) = fs at hP hD hm
  refine lv_aload_n hx hb dX12_init_486 rfl (lv_at hl 0 rfl) ?_
  refine lv_ldc (own := RX12) (v := 65540) hx hb hown (htb _ bg_107) dX12_init_487 ?_
  refine va_newa (atype := .int) (ty := .int) (a0 := (65540, .inl (fun _ => 0))) (N' := 65540) hx hb (htb _ bg_95) rfl hK hP hD hS hA (fun _ => rfl) (by decide) (by decide) (by decide) (Nat.le_of_ble_eq_true rfl) (Nat.le_of_ble_eq_true rfl) dX12_init_489 (fun q489 a489 H hK hP hD hS => ?_)
  have hP : va_P D vwCl [(m0, .inr (12, fs)), (q7, .inl (a7, 66000, .inl (fun _ => 0))), (q15, .inl (a15, 66000, .inl (fun _ => 0))), (q24, .inl (a24, 24000, .inl (fun _ => 0))), (q33, .inl (a33, 24000, .inl (fun _ => 0))), (q42, .inl (a42, 24000, .inl (fun _ => 0))), (q51, .inl (a51, 4096, .inl (fun _ => 0))), (q83, .inl (a83, 65560, .inl (fun _ => 0))), (q489, .inl (a489, 65540, .inl (fun _ => 0)))] H := hP
  have hD : va_D A [(m0, .inr (12, fs)), (q7, .inl (a7, 66000, .inl (fun _ => 0))), (q15, .inl (a15, 66000, .inl (fun _ => 0))), (q24, .inl (a24, 24000, .inl (fun _ => 0))), (q33, .inl (a33, 24000, .inl (fun _ => 0))), (q42, .inl (a42, 24000, .inl (fun _ => 0))), (q51, .inl (a51, 4096, .inl (fun _ => 0))), (q83, .inl (a83, 65560, .inl (fun _ => 0))), (q489, .inl (a489, 65540, .inl (fun _ => 0)))] := hD
  have hK : va_K D vwCl [(a7, .char), (a15, .char), (a24, .int), (a33, .int), (a42, .int), (a51, .int), (a83, .byte), (a489, .int)] s := hK
  refine W.widen (k := 38) (n := 833028) (by decide) (by decide) ?_
  refine va_putF (D := D) (ci := 12) (v := .ref q489) (ty := tyX12 80) (C := RX12) (T := TX12) (N := 82) hx hb htb bi_X12 tyX12 tyX12_ok nmX12 hown hK hP hD hS 0 rfl rfl 80 (by decide) (htb _ bg_138) (fun _ h9 => h9) rfl hin rfl (tyX12_ok 80 (by decide)) rfl rfl (by rw [hm.1]; decide) dX12_init_491 (fun H locs hP hD hS => ?_)
  have hP : va_P D vwCl [(m0, .inr (12, (fs.set 80 (.ref q489)))), (q7, .inl (a7, 66000, .inl (fun _ => 0))), (q15, .inl (a15, 66000, .inl (fun _ => 0))), (q24, .inl (a24, 24000, .inl (fun _ => 0))), (q33, .inl (a33, 24000, .inl (fun _ => 0))), (q42, .inl (a42, 24000, .inl (fun _ => 0))), (q51, .inl (a51, 4096, .inl (fun _ => 0))), (q83, .inl (a83, 65560, .inl (fun _ => 0))), (q489, .inl (a489, 65540, .inl (fun _ => 0)))] H := hP
  have hD : va_D A [(m0, .inr (12, (fs.set 80 (.ref q489)))), (q7, .inl (a7, 66000, .inl (fun _ => 0))), (q15, .inl (a15, 66000, .inl (fun _ => 0))), (q24, .inl (a24, 24000, .inl (fun _ => 0))), (q33, .inl (a33, 24000, .inl (fun _ => 0))), (q42, .inl (a42, 24000, .inl (fun _ => 0))), (q51, .inl (a51, 4096, .inl (fun _ => 0))), (q83, .inl (a83, 65560, .inl (fun _ => 0))), (q489, .inl (a489, 65540, .inl (fun _ => 0)))] := hD
  have hm : md_has (fs.set 80 (.ref q489)) [(73, .int (-1)), (18, .int (-1)), (15, .ref q83), (13, .ref q67), (7, .ref q51), (6, .ref q42), (5, .ref q33), (4, .ref q24), (2, .ref q15), (1, .ref q7), (17, .int 0), (19, .int 0)] := md_putD hm 80 (.ref q489) (by decide) rfl
  generalize (fs.set 80 (.ref q489)) = fs at hP hD hm
  have hP := hP.sub (ws' := [(m0, .inr (12, fs)), (q7, .inl (a7, 66000, .inl (fun _ => 0))), (q15, .inl (a15, 66000, .inl (fun _ => 0))), (q24, .inl (a24, 24000, .inl (fun _ => 0))), (q33, .inl (a33, 24000, .inl (fun _ => 0))), (q42, .inl (a42, 24000, .inl (fun _ => 0))), (q51, .inl (a51, 4096, .inl (fun _ => 0))), (q83, .inl (a83, 65560, .inl (fun _ => 0)))]) [0, 1, 2, 3, 4, 5, 6, 7] rfl
  have hD := hD.sub (ws' := [(m0, .inr (12, fs)), (q7, .inl (a7, 66000, .inl (fun _ => 0))), (q15, .inl (a15, 66000, .inl (fun _ => 0))), (q24, .inl (a24, 24000, .inl (fun _ => 0))), (q33, .inl (a33, 24000, .inl (fun _ => 0))), (q42, .inl (a42, 24000, .inl (fun _ => 0))), (q51, .inl (a51, 4096, .inl (fun _ => 0))), (q83, .inl (a83, 65560, .inl (fun _ => 0)))]) [0, 1, 2, 3, 4, 5, 6, 7] rfl rfl
  have hK := hK.sub (tys' := [(a7, .char), (a15, .char), (a24, .int), (a33, .int), (a42, .int), (a51, .int), (a83, .byte)]) [0, 1, 2, 3, 4, 5, 6] rfl
  refine lv_aload_n hx hb dX12_init_494 rfl (lv_at hl 0 rfl) ?_
  refine lv_ldc (own := RX12) (v := 65540) hx hb hown (htb _ bg_107) dX12_init_495 ?_
  refine va_newa (atype := .int) (ty := .int) (a0 := (65540, .inl (fun _ => 0))) (N' := 65540) hx hb (htb _ bg_95) rfl hK hP hD hS hA (fun _ => rfl) (by decide) (by decide) (by decide) (Nat.le_of_ble_eq_true rfl) (Nat.le_of_ble_eq_true rfl) dX12_init_497 (fun q497 a497 H hK hP hD hS => ?_)
  have hP : va_P D vwCl [(m0, .inr (12, fs)), (q7, .inl (a7, 66000, .inl (fun _ => 0))), (q15, .inl (a15, 66000, .inl (fun _ => 0))), (q24, .inl (a24, 24000, .inl (fun _ => 0))), (q33, .inl (a33, 24000, .inl (fun _ => 0))), (q42, .inl (a42, 24000, .inl (fun _ => 0))), (q51, .inl (a51, 4096, .inl (fun _ => 0))), (q83, .inl (a83, 65560, .inl (fun _ => 0))), (q497, .inl (a497, 65540, .inl (fun _ => 0)))] H := hP
  have hD : va_D A [(m0, .inr (12, fs)), (q7, .inl (a7, 66000, .inl (fun _ => 0))), (q15, .inl (a15, 66000, .inl (fun _ => 0))), (q24, .inl (a24, 24000, .inl (fun _ => 0))), (q33, .inl (a33, 24000, .inl (fun _ => 0))), (q42, .inl (a42, 24000, .inl (fun _ => 0))), (q51, .inl (a51, 4096, .inl (fun _ => 0))), (q83, .inl (a83, 65560, .inl (fun _ => 0))), (q497, .inl (a497, 65540, .inl (fun _ => 0)))] := hD
  have hK : va_K D vwCl [(a7, .char), (a15, .char), (a24, .int), (a33, .int), (a42, .int), (a51, .int), (a83, .byte), (a497, .int)] s := hK
  refine W.widen (k := 39) (n := 898568) (by decide) (by decide) ?_
  refine va_putF (D := D) (ci := 12) (v := .ref q497) (ty := tyX12 81) (C := RX12) (T := TX12) (N := 82) hx hb htb bi_X12 tyX12 tyX12_ok nmX12 hown hK hP hD hS 0 rfl rfl 81 (by decide) (htb _ bg_139) (fun _ h9 => h9) rfl hin rfl (tyX12_ok 81 (by decide)) rfl rfl (by rw [hm.1]; decide) dX12_init_499 (fun H locs hP hD hS => ?_)
  have hP : va_P D vwCl [(m0, .inr (12, (fs.set 81 (.ref q497)))), (q7, .inl (a7, 66000, .inl (fun _ => 0))), (q15, .inl (a15, 66000, .inl (fun _ => 0))), (q24, .inl (a24, 24000, .inl (fun _ => 0))), (q33, .inl (a33, 24000, .inl (fun _ => 0))), (q42, .inl (a42, 24000, .inl (fun _ => 0))), (q51, .inl (a51, 4096, .inl (fun _ => 0))), (q83, .inl (a83, 65560, .inl (fun _ => 0))), (q497, .inl (a497, 65540, .inl (fun _ => 0)))] H := hP
  have hD : va_D A [(m0, .inr (12, (fs.set 81 (.ref q497)))), (q7, .inl (a7, 66000, .inl (fun _ => 0))), (q15, .inl (a15, 66000, .inl (fun _ => 0))), (q24, .inl (a24, 24000, .inl (fun _ => 0))), (q33, .inl (a33, 24000, .inl (fun _ => 0))), (q42, .inl (a42, 24000, .inl (fun _ => 0))), (q51, .inl (a51, 4096, .inl (fun _ => 0))), (q83, .inl (a83, 65560, .inl (fun _ => 0))), (q497, .inl (a497, 65540, .inl (fun _ => 0)))] := hD
  have hm : md_has (fs.set 81 (.ref q497)) [(73, .int (-1)), (18, .int (-1)), (15, .ref q83), (13, .ref q67), (7, .ref q51), (6, .ref q42), (5, .ref q33), (4, .ref q24), (2, .ref q15), (1, .ref q7), (17, .int 0), (19, .int 0)] := md_putD hm 81 (.ref q497) (by decide) rfl
  generalize (fs.set 81 (.ref q497)) = fs at hP hD hm
  have hP := hP.sub (ws' := [(m0, .inr (12, fs)), (q7, .inl (a7, 66000, .inl (fun _ => 0))), (q15, .inl (a15, 66000, .inl (fun _ => 0))), (q24, .inl (a24, 24000, .inl (fun _ => 0))), (q33, .inl (a33, 24000, .inl (fun _ => 0))), (q42, .inl (a42, 24000, .inl (fun _ => 0))), (q51, .inl (a51, 4096, .inl (fun _ => 0))), (q83, .inl (a83, 65560, .inl (fun _ => 0)))]) [0, 1, 2, 3, 4, 5, 6, 7] rfl
  have hD := hD.sub (ws' := [(m0, .inr (12, fs)), (q7, .inl (a7, 66000, .inl (fun _ => 0))), (q15, .inl (a15, 66000, .inl (fun _ => 0))), (q24, .inl (a24, 24000, .inl (fun _ => 0))), (q33, .inl (a33, 24000, .inl (fun _ => 0))), (q42, .inl (a42, 24000, .inl (fun _ => 0))), (q51, .inl (a51, 4096, .inl (fun _ => 0))), (q83, .inl (a83, 65560, .inl (fun _ => 0)))]) [0, 1, 2, 3, 4, 5, 6, 7] rfl rfl
  have hK := hK.sub (tys' := [(a7, .char), (a15, .char), (a24, .int), (a33, .int), (a42, .int), (a51, .int), (a83, .byte)]) [0, 1, 2, 3, 4, 5, 6] rfl
  refine lv_aload_n hx hb dX12_init_502 rfl (lv_at hl 0 rfl) ?_
  refine xb_gov (wr := [(q83, .inl (a83, 65560, .inl (fun _ => 0)))]) (va_runV (As := []) (rest := []) ⟨hx, hb, hml, hown, htb⟩ (mm_clear l D g m0 fs q7 q15 q24 q33 q42 q51 a7 a15 a24 a33 a42 a51 (fun _ => 0) (fun _ => 0) (fun _ => 0) (fun _ => 0) (fun _ => 0) (fun _ => 0) q67 q83 0 (-1) 0 (-1) (Array.size H) (md_sub hm [9, 8, 7, 6, 5, 4, 3, 2, 10, 1, 11, 0] rfl)) (bg_V 0 htb bg_140 bg_142 bg_143 bg_144 bg_141 rfl rfl (by decide +kernel) ⟨Nat.le_of_ble_eq_true rfl, Nat.le_of_ble_eq_true rfl⟩) ⟨xb_blind xe_ok, va_recv hK hP (ci := 12) (q0 := 0) rfl rfl, xb_enter xe_ok hK hP hD hS hA hE [0, 1, 2, 3, 4, 5, 6] rfl rfl rfl [0, 1, 2, 3, 4, 5] rfl⟩ rfl rfl hl.1 rfl (lv_room (Nat.le_of_ble_eq_true rfl)) dX12_init_503 ⟨Nat.le_of_ble_eq_true rfl, Nat.le_of_ble_eq_true rfl⟩) hK hP hD hS hA [0, 1, 2, 3, 4, 5, 6] [7] rfl rfl rfl (by decide) (fun u_503 H locs hw_503 hP hD hK hS => ?_)
  obtain ⟨fs, f1, f2, f4, f5, f6, f7⟩ := u_503
  have hP : va_P D vwCl [(q83, .inl (a83, 65560, .inl (fun _ => 0))), (m0, .inr (12, fs)), (q7, .inl (a7, 66000, .inl f1)), (q15, .inl (a15, 66000, .inl f2)), (q24, .inl (a24, 24000, .inl f4)), (q33, .inl (a33, 24000, .inl f5)), (q42, .inl (a42, 24000, .inl f6)), (q51, .inl (a51, 4096, .inl f7))] H := hP
  have hD : va_D A [(q83, .inl (a83, 65560, .inl (fun _ => 0))), (m0, .inr (12, fs)), (q7, .inl (a7, 66000, .inl f1)), (q15, .inl (a15, 66000, .inl f2)), (q24, .inl (a24, 24000, .inl f4)), (q33, .inl (a33, 24000, .inl f5)), (q42, .inl (a42, 24000, .inl f6)), (q51, .inl (a51, 4096, .inl f7))] := hD
  have hK : va_K D vwCl [(a7, .char), (a15, .char), (a24, .int), (a33, .int), (a42, .int), (a51, .int), (a83, .byte), (a7, .char), (a15, .char), (a24, .int), (a33, .int), (a42, .int), (a51, .int)] s := hK
  refine W.widen (k := 39) (n := 898568) (by decide) (by decide) ?_
  have hm : md_has fs _ := hw_503
  have hK := hK.sub (tys' := [(a7, .char), (a15, .char), (a24, .int), (a33, .int), (a42, .int), (a51, .int), (a83, .byte)]) [0, 1, 2, 3, 4, 5, 6] rfl
  have hP9 := hP.sub (ws' := [(m0, .inr (12, fs)), (q7, .inl (a7, 66000, .inl f1)), (q15, .inl (a15, 66000, .inl f2)), (q24, .inl (a24, 24000, .inl f4)), (q33, .inl (a33, 24000, .inl f5)), (q42, .inl (a42, 24000, .inl f6)), (q51, .inl (a51, 4096, .inl f7)), (q83, .inl (a83, 65560, .inl (fun _ => 0)))]) [1, 2, 3, 4, 5, 6, 7, 0] rfl
  have hD9 := hD.sub (ws' := [(m0, .inr (12, fs)), (q7, .inl (a7, 66000, .inl f1)), (q15, .inl (a15, 66000, .inl f2)), (q24, .inl (a24, 24000, .inl f4)), (q33, .inl (a33, 24000, .inl f5)), (q42, .inl (a42, 24000, .inl f6)), (q51, .inl (a51, 4096, .inl f7)), (q83, .inl (a83, 65560, .inl (fun _ => 0)))]) [1, 2, 3, 4, 5, 6, 7, 0] rfl rfl
  have hK9 := hK.sub (tys' := [(a7, .char), (a15, .char), (a24, .int), (a33, .int), (a42, .int), (a51, .int), (a83, .byte)]) [0, 1, 2, 3, 4, 5, 6] rfl
  exact W.vret hx hb hr (fun t ht hW => ⟨⟨(fs, q7, q15, q24, q33, q42, q51, q67, q83, a7, a15, a24, a33, a42, a51, a83, f1, f2, f4, f5, f6, f7, (fun _ => 0)), rfl, md_sub hm [0, 1, 2, 3, 4, 5, 6, 7, 8, 9, 10, 11] rfl, by rw [ht]; exact hP9, va_K.moved hW.alike hK9, hD9⟩, hS.F ht⟩) hS.2.2 dX12_init_506
