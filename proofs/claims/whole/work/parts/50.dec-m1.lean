theorem dX9_init_0 : decode cX9_init 0 = .ok (.aload_n 0, 1) := by decide +kernel
theorem dX9_init_1 : decode cX9_init 1 = .ok (.invokespecial 1, 3) := by decide +kernel
theorem dX9_init_4 : decode cX9_init 4 = .ok (.aload_n 0, 1) := by decide +kernel
theorem dX9_init_5 : decode cX9_init 5 = .ok (.sipush 32000, 3) := by decide +kernel
theorem dX9_init_8 : decode cX9_init 8 = .ok (.newarray .byte, 2) := by decide +kernel
theorem dX9_init_10 : decode cX9_init 10 = .ok (.putfield 7, 3) := by decide +kernel
theorem dX9_init_13 : decode cX9_init 13 = .ok (.aload_n 0, 1) := by decide +kernel
theorem dX9_init_14 : decode cX9_init 14 = .ok (.iconst 4, 1) := by decide +kernel
theorem dX9_init_15 : decode cX9_init 15 = .ok (.newarray .int, 2) := by decide +kernel
theorem dX9_init_17 : decode cX9_init 17 = .ok (.putfield 13, 3) := by decide +kernel
theorem dX9_init_20 : decode cX9_init 20 = .ok (.aload_n 0, 1) := by decide +kernel
theorem dX9_init_21 : decode cX9_init 21 = .ok (.sipush 1536, 3) := by decide +kernel
theorem dX9_init_24 : decode cX9_init 24 = .ok (.newarray .byte, 2) := by decide +kernel
theorem dX9_init_26 : decode cX9_init 26 = .ok (.putfield 17, 3) := by decide +kernel
theorem dX9_init_29 : decode cX9_init 29 = .ok (.aload_n 0, 1) := by decide +kernel
theorem dX9_init_30 : decode cX9_init 30 = .ok (.sipush 1536, 3) := by decide +kernel
theorem dX9_init_33 : decode cX9_init 33 = .ok (.newarray .byte, 2) := by decide +kernel
theorem dX9_init_35 : decode cX9_init 35 = .ok (.putfield 20, 3) := by decide +kernel
theorem dX9_init_38 : decode cX9_init 38 = .ok (.aload_n 0, 1) := by decide +kernel
theorem dX9_init_39 : decode cX9_init 39 = .ok (.iconst 4, 1) := by decide +kernel
theorem dX9_init_40 : decode cX9_init 40 = .ok (.putfield 23, 3) := by decide +kernel
theorem dX9_init_43 : decode cX9_init 43 = .ok (.aload_n 0, 1) := by decide +kernel
theorem dX9_init_44 : decode cX9_init 44 = .ok (.iconst 3, 1) := by decide +kernel
theorem dX9_init_45 : decode cX9_init 45 = .ok (.putfield 27, 3) := by decide +kernel
theorem dX9_init_48 : decode cX9_init 48 = .ok (.aload_n 0, 1) := by decide +kernel
theorem dX9_init_49 : decode cX9_init 49 = .ok (.sipush 1536, 3) := by decide +kernel
theorem dX9_init_52 : decode cX9_init 52 = .ok (.newarray .byte, 2) := by decide +kernel
theorem dX9_init_54 : decode cX9_init 54 = .ok (.putfield 30, 3) := by decide +kernel
theorem dX9_init_57 : decode cX9_init 57 = .ok (.aload_n 0, 1) := by decide +kernel
theorem dX9_init_58 : decode cX9_init 58 = .ok (.bipush 8, 2) := by decide +kernel
theorem dX9_init_60 : decode cX9_init 60 = .ok (.newarray .long, 2) := by decide +kernel
theorem dX9_init_62 : decode cX9_init 62 = .ok (.putfield 33, 3) := by decide +kernel
theorem dX9_init_65 : decode cX9_init 65 = .ok (.aload_n 0, 1) := by decide +kernel
theorem dX9_init_66 : decode cX9_init 66 = .ok (.sipush 1024, 3) := by decide +kernel
theorem dX9_init_69 : decode cX9_init 69 = .ok (.newarray .long, 2) := by decide +kernel
theorem dX9_init_71 : decode cX9_init 71 = .ok (.putfield 37, 3) := by decide +kernel
theorem dX9_init_74 : decode cX9_init 74 = .ok (.aload_n 0, 1) := by decide +kernel
theorem dX9_init_75 : decode cX9_init 75 = .ok (.sipush 4000, 3) := by decide +kernel
theorem dX9_init_78 : decode cX9_init 78 = .ok (.newarray .int, 2) := by decide +kernel
theorem dX9_init_80 : decode cX9_init 80 = .ok (.putfield 40, 3) := by decide +kernel
theorem dX9_init_83 : decode cX9_init 83 = .ok (.aload_n 0, 1) := by decide +kernel
theorem dX9_init_84 : decode cX9_init 84 = .ok (.sipush 4000, 3) := by decide +kernel
theorem dX9_init_87 : decode cX9_init 87 = .ok (.newarray .int, 2) := by decide +kernel
theorem dX9_init_89 : decode cX9_init 89 = .ok (.putfield 43, 3) := by decide +kernel
theorem dX9_init_92 : decode cX9_init 92 = .ok (.aload_n 0, 1) := by decide +kernel
theorem dX9_init_93 : decode cX9_init 93 = .ok (.sipush 4000, 3) := by decide +kernel
theorem dX9_init_96 : decode cX9_init 96 = .ok (.newarray .int, 2) := by decide +kernel
theorem dX9_init_98 : decode cX9_init 98 = .ok (.putfield 46, 3) := by decide +kernel
theorem dX9_init_101 : decode cX9_init 101 = .ok (.aload_n 0, 1) := by decide +kernel
theorem dX9_init_102 : decode cX9_init 102 = .ok (.sipush 4000, 3) := by decide +kernel
theorem dX9_init_105 : decode cX9_init 105 = .ok (.newarray .int, 2) := by decide +kernel
theorem dX9_init_107 : decode cX9_init 107 = .ok (.putfield 49, 3) := by decide +kernel
theorem dX9_init_110 : decode cX9_init 110 = .ok (.aload_n 0, 1) := by decide +kernel
theorem dX9_init_111 : decode cX9_init 111 = .ok (.sipush 4000, 3) := by decide +kernel
theorem dX9_init_114 : decode cX9_init 114 = .ok (.newarray .int, 2) := by decide +kernel
theorem dX9_init_116 : decode cX9_init 116 = .ok (.putfield 52, 3) := by decide +kernel
theorem dX9_init_119 : decode cX9_init 119 = .ok (.aload_n 0, 1) := by decide +kernel
theorem dX9_init_120 : decode cX9_init 120 = .ok (.sipush 4000, 3) := by decide +kernel
theorem dX9_init_123 : decode cX9_init 123 = .ok (.newarray .int, 2) := by decide +kernel
theorem dX9_init_125 : decode cX9_init 125 = .ok (.putfield 55, 3) := by decide +kernel
theorem dX9_init_128 : decode cX9_init 128 = .ok (.aload_n 0, 1) := by decide +kernel
theorem dX9_init_129 : decode cX9_init 129 = .ok (.sipush 4000, 3) := by decide +kernel
theorem dX9_init_132 : decode cX9_init 132 = .ok (.newarray .int, 2) := by decide +kernel
theorem dX9_init_134 : decode cX9_init 134 = .ok (.putfield 58, 3) := by decide +kernel
theorem dX9_init_137 : decode cX9_init 137 = .ok (.aload_n 0, 1) := by decide +kernel
theorem dX9_init_138 : decode cX9_init 138 = .ok (.sipush 4000, 3) := by decide +kernel
theorem dX9_init_141 : decode cX9_init 141 = .ok (.newarray .int, 2) := by decide +kernel
theorem dX9_init_143 : decode cX9_init 143 = .ok (.putfield 61, 3) := by decide +kernel
theorem dX9_init_146 : decode cX9_init 146 = .ok (.aload_n 0, 1) := by decide +kernel
theorem dX9_init_147 : decode cX9_init 147 = .ok (.sipush 4000, 3) := by decide +kernel
theorem dX9_init_150 : decode cX9_init 150 = .ok (.newarray .int, 2) := by decide +kernel
theorem dX9_init_152 : decode cX9_init 152 = .ok (.putfield 64, 3) := by decide +kernel
theorem dX9_init_155 : decode cX9_init 155 = .ok (.aload_n 0, 1) := by decide +kernel
theorem dX9_init_156 : decode cX9_init 156 = .ok (.sipush 4000, 3) := by decide +kernel
theorem dX9_init_159 : decode cX9_init 159 = .ok (.newarray .int, 2) := by decide +kernel
theorem dX9_init_161 : decode cX9_init 161 = .ok (.putfield 67, 3) := by decide +kernel
theorem dX9_init_164 : decode cX9_init 164 = .ok (.aload_n 0, 1) := by decide +kernel
theorem dX9_init_165 : decode cX9_init 165 = .ok (.sipush 4000, 3) := by decide +kernel
theorem dX9_init_168 : decode cX9_init 168 = .ok (.newarray .int, 2) := by decide +kernel
theorem dX9_init_170 : decode cX9_init 170 = .ok (.putfield 70, 3) := by decide +kernel
theorem dX9_init_173 : decode cX9_init 173 = .ok (.aload_n 0, 1) := by decide +kernel
theorem dX9_init_174 : decode cX9_init 174 = .ok (.sipush 4000, 3) := by decide +kernel
theorem dX9_init_177 : decode cX9_init 177 = .ok (.newarray .int, 2) := by decide +kernel
theorem dX9_init_179 : decode cX9_init 179 = .ok (.putfield 73, 3) := by decide +kernel
theorem dX9_init_182 : decode cX9_init 182 = .ok (.aload_n 0, 1) := by decide +kernel
theorem dX9_init_183 : decode cX9_init 183 = .ok (.sipush 4000, 3) := by decide +kernel
theorem dX9_init_186 : decode cX9_init 186 = .ok (.newarray .byte, 2) := by decide +kernel
theorem dX9_init_188 : decode cX9_init 188 = .ok (.putfield 76, 3) := by decide +kernel
theorem dX9_init_191 : decode cX9_init 191 = .ok (.aload_n 0, 1) := by decide +kernel
theorem dX9_init_192 : decode cX9_init 192 = .ok (.sipush 4000, 3) := by decide +kernel
theorem dX9_init_195 : decode cX9_init 195 = .ok (.newarray .int, 2) := by decide +kernel
theorem dX9_init_197 : decode cX9_init 197 = .ok (.putfield 79, 3) := by decide +kernel
theorem dX9_init_200 : decode cX9_init 200 = .ok (.aload_n 0, 1) := by decide +kernel
theorem dX9_init_201 : decode cX9_init 201 = .ok (.sipush 4000, 3) := by decide +kernel
theorem dX9_init_204 : decode cX9_init 204 = .ok (.newarray .byte, 2) := by decide +kernel
theorem dX9_init_206 : decode cX9_init 206 = .ok (.putfield 82, 3) := by decide +kernel
theorem dX9_init_209 : decode cX9_init 209 = .ok (.aload_n 0, 1) := by decide +kernel
theorem dX9_init_210 : decode cX9_init 210 = .ok (.sipush 4000, 3) := by decide +kernel
theorem dX9_init_213 : decode cX9_init 213 = .ok (.newarray .int, 2) := by decide +kernel
theorem dX9_init_215 : decode cX9_init 215 = .ok (.putfield 85, 3) := by decide +kernel
theorem dX9_init_218 : decode cX9_init 218 = .ok (.aload_n 0, 1) := by decide +kernel
theorem dX9_init_219 : decode cX9_init 219 = .ok (.sipush 30000, 3) := by decide +kernel
theorem dX9_init_222 : decode cX9_init 222 = .ok (.newarray .byte, 2) := by decide +kernel
theorem dX9_init_224 : decode cX9_init 224 = .ok (.putfield 88, 3) := by decide +kernel
theorem dX9_init_227 : decode cX9_init 227 = .ok (.aload_n 0, 1) := by decide +kernel
theorem dX9_init_228 : decode cX9_init 228 = .ok (.sipush 8000, 3) := by decide +kernel
theorem dX9_init_231 : decode cX9_init 231 = .ok (.newarray .byte, 2) := by decide +kernel
theorem dX9_init_233 : decode cX9_init 233 = .ok (.putfield 91, 3) := by decide +kernel
theorem dX9_init_236 : decode cX9_init 236 = .ok (.aload_n 0, 1) := by decide +kernel
theorem dX9_init_237 : decode cX9_init 237 = .ok (.sipush 30000, 3) := by decide +kernel
theorem dX9_init_240 : decode cX9_init 240 = .ok (.newarray .byte, 2) := by decide +kernel
theorem dX9_init_242 : decode cX9_init 242 = .ok (.putfield 94, 3) := by decide +kernel
theorem dX9_init_245 : decode cX9_init 245 = .ok (.aload_n 0, 1) := by decide +kernel
theorem dX9_init_246 : decode cX9_init 246 = .ok (.sipush 30000, 3) := by decide +kernel
theorem dX9_init_249 : decode cX9_init 249 = .ok (.newarray .byte, 2) := by decide +kernel
theorem dX9_init_251 : decode cX9_init 251 = .ok (.putfield 97, 3) := by decide +kernel
theorem dX9_init_254 : decode cX9_init 254 = .ok (.aload_n 0, 1) := by decide +kernel
theorem dX9_init_255 : decode cX9_init 255 = .ok (.sipush 8000, 3) := by decide +kernel
theorem dX9_init_258 : decode cX9_init 258 = .ok (.newarray .byte, 2) := by decide +kernel
theorem dX9_init_260 : decode cX9_init 260 = .ok (.putfield 100, 3) := by decide +kernel
theorem dX9_init_263 : decode cX9_init 263 = .ok (.aload_n 0, 1) := by decide +kernel
theorem dX9_init_264 : decode cX9_init 264 = .ok (.sipush 4100, 3) := by decide +kernel
theorem dX9_init_267 : decode cX9_init 267 = .ok (.newarray .int, 2) := by decide +kernel
theorem dX9_init_269 : decode cX9_init 269 = .ok (.putfield 103, 3) := by decide +kernel
theorem dX9_init_272 : decode cX9_init 272 = .ok (.aload_n 0, 1) := by decide +kernel
theorem dX9_init_273 : decode cX9_init 273 = .ok (.sipush 4100, 3) := by decide +kernel
theorem dX9_init_276 : decode cX9_init 276 = .ok (.newarray .int, 2) := by decide +kernel
theorem dX9_init_278 : decode cX9_init 278 = .ok (.putfield 106, 3) := by decide +kernel
theorem dX9_init_281 : decode cX9_init 281 = .ok (.aload_n 0, 1) := by decide +kernel
theorem dX9_init_282 : decode cX9_init 282 = .ok (.sipush 4100, 3) := by decide +kernel
theorem dX9_init_285 : decode cX9_init 285 = .ok (.newarray .int, 2) := by decide +kernel
theorem dX9_init_287 : decode cX9_init 287 = .ok (.putfield 109, 3) := by decide +kernel
theorem dX9_init_290 : decode cX9_init 290 = .ok (.aload_n 0, 1) := by decide +kernel
theorem dX9_init_291 : decode cX9_init 291 = .ok (.sipush 4100, 3) := by decide +kernel
theorem dX9_init_294 : decode cX9_init 294 = .ok (.newarray .int, 2) := by decide +kernel
theorem dX9_init_296 : decode cX9_init 296 = .ok (.putfield 112, 3) := by decide +kernel
theorem dX9_init_299 : decode cX9_init 299 = .ok (.aload_n 0, 1) := by decide +kernel
theorem dX9_init_300 : decode cX9_init 300 = .ok (.sipush 4100, 3) := by decide +kernel
theorem dX9_init_303 : decode cX9_init 303 = .ok (.newarray .int, 2) := by decide +kernel
theorem dX9_init_305 : decode cX9_init 305 = .ok (.putfield 115, 3) := by decide +kernel
theorem dX9_init_308 : decode cX9_init 308 = .ok (.aload_n 0, 1) := by decide +kernel
theorem dX9_init_309 : decode cX9_init 309 = .ok (.sipush 8000, 3) := by decide +kernel
theorem dX9_init_312 : decode cX9_init 312 = .ok (.newarray .byte, 2) := by decide +kernel
theorem dX9_init_314 : decode cX9_init 314 = .ok (.putfield 118, 3) := by decide +kernel
theorem dX9_init_317 : decode cX9_init 317 = .ok (.aload_n 0, 1) := by decide +kernel
theorem dX9_init_318 : decode cX9_init 318 = .ok (.sipush 4000, 3) := by decide +kernel
theorem dX9_init_321 : decode cX9_init 321 = .ok (.newarray .byte, 2) := by decide +kernel
theorem dX9_init_323 : decode cX9_init 323 = .ok (.putfield 121, 3) := by decide +kernel
theorem dX9_init_326 : decode cX9_init 326 = .ok (.aload_n 0, 1) := by decide +kernel
theorem dX9_init_327 : decode cX9_init 327 = .ok (.sipush 4000, 3) := by decide +kernel
theorem dX9_init_330 : decode cX9_init 330 = .ok (.newarray .int, 2) := by decide +kernel
theorem dX9_init_332 : decode cX9_init 332 = .ok (.putfield 124, 3) := by decide +kernel
theorem dX9_init_335 : decode cX9_init 335 = .ok (.iconst 1, 1) := by decide +kernel
theorem dX9_init_336 : decode cX9_init 336 = .ok (.istore_n 1, 1) := by decide +kernel
theorem dX9_init_337 : decode cX9_init 337 = .ok (.aload_n 0, 1) := by decide +kernel
theorem dX9_init_338 : decode cX9_init 338 = .ok (.getfield 17, 3) := by decide +kernel
theorem dX9_init_341 : decode cX9_init 341 = .ok (.iconst 0, 1) := by decide +kernel
theorem dX9_init_342 : decode cX9_init 342 = .ok (.iconst 2, 1) := by decide +kernel
theorem dX9_init_343 : decode cX9_init 343 = .ok (.bastore, 1) := by decide +kernel
theorem dX9_init_344 : decode cX9_init 344 = .ok (.iconst 0, 1) := by decide +kernel
theorem dX9_init_345 : decode cX9_init 345 = .ok (.istore_n 2, 1) := by decide +kernel
theorem dX9_init_346 : decode cX9_init 346 = .ok (.iload_n 2, 1) := by decide +kernel
theorem dX9_init_347 : decode cX9_init 347 = .ok (.bipush 18, 2) := by decide +kernel
theorem dX9_init_349 : decode cX9_init 349 = .ok (.if_icmp .ge 23, 3) := by decide +kernel
theorem dX9_init_352 : decode cX9_init 352 = .ok (.aload_n 0, 1) := by decide +kernel
theorem dX9_init_353 : decode cX9_init 353 = .ok (.iload_n 1, 1) := by decide +kernel
theorem dX9_init_354 : decode cX9_init 354 = .ok (.iconst 1, 1) := by decide +kernel
theorem dX9_init_355 : decode cX9_init 355 = .ok (.iload_n 2, 1) := by decide +kernel
theorem dX9_init_356 : decode cX9_init 356 = .ok (.iconst 0, 1) := by decide +kernel
theorem dX9_init_357 : decode cX9_init 357 = .ok (.iconst 0, 1) := by decide +kernel
theorem dX9_init_358 : decode cX9_init 358 = .ok (.iconst 0, 1) := by decide +kernel
theorem dX9_init_359 : decode cX9_init 359 = .ok (.iconst 0, 1) := by decide +kernel
theorem dX9_init_360 : decode cX9_init 360 = .ok (.invokevirtual 127, 3) := by decide +kernel
theorem dX9_init_363 : decode cX9_init 363 = .ok (.iinc 1 1, 3) := by decide +kernel
theorem dX9_init_366 : decode cX9_init 366 = .ok (.iinc 2 1, 3) := by decide +kernel
theorem dX9_init_369 : decode cX9_init 369 = .ok (.goto (-23), 3) := by decide +kernel
theorem dX9_init_372 : decode cX9_init 372 = .ok (.iconst 0, 1) := by decide +kernel
theorem dX9_init_373 : decode cX9_init 373 = .ok (.istore_n 2, 1) := by decide +kernel
theorem dX9_init_374 : decode cX9_init 374 = .ok (.iload_n 2, 1) := by decide +kernel
theorem dX9_init_375 : decode cX9_init 375 = .ok (.bipush 9, 2) := by decide +kernel
theorem dX9_init_377 : decode cX9_init 377 = .ok (.if_icmp .ge 51, 3) := by decide +kernel
theorem dX9_init_380 : decode cX9_init 380 = .ok (.aload_n 0, 1) := by decide +kernel
theorem dX9_init_381 : decode cX9_init 381 = .ok (.iload_n 1, 1) := by decide +kernel
theorem dX9_init_382 : decode cX9_init 382 = .ok (.iconst 3, 1) := by decide +kernel
theorem dX9_init_383 : decode cX9_init 383 = .ok (.iconst 0, 1) := by decide +kernel
theorem dX9_init_384 : decode cX9_init 384 = .ok (.iload_n 2, 1) := by decide +kernel
theorem dX9_init_385 : decode cX9_init 385 = .ok (.iconst 0, 1) := by decide +kernel
theorem dX9_init_386 : decode cX9_init 386 = .ok (.iconst 0, 1) := by decide +kernel
theorem dX9_init_387 : decode cX9_init 387 = .ok (.iconst 0, 1) := by decide +kernel
theorem dX9_init_388 : decode cX9_init 388 = .ok (.invokevirtual 127, 3) := by decide +kernel
theorem dX9_init_391 : decode cX9_init 391 = .ok (.iinc 1 1, 3) := by decide +kernel
theorem dX9_init_394 : decode cX9_init 394 = .ok (.iconst 4, 1) := by decide +kernel
theorem dX9_init_395 : decode cX9_init 395 = .ok (.istore_n 3, 1) := by decide +kernel
theorem dX9_init_396 : decode cX9_init 396 = .ok (.iload_n 3, 1) := by decide +kernel
theorem dX9_init_397 : decode cX9_init 397 = .ok (.bipush 19, 2) := by decide +kernel
theorem dX9_init_399 : decode cX9_init 399 = .ok (.if_icmp .ge 23, 3) := by decide +kernel
theorem dX9_init_402 : decode cX9_init 402 = .ok (.aload_n 0, 1) := by decide +kernel
theorem dX9_init_403 : decode cX9_init 403 = .ok (.iload_n 1, 1) := by decide +kernel
theorem dX9_init_404 : decode cX9_init 404 = .ok (.iconst 3, 1) := by decide +kernel
theorem dX9_init_405 : decode cX9_init 405 = .ok (.iload_n 3, 1) := by decide +kernel
theorem dX9_init_406 : decode cX9_init 406 = .ok (.iload_n 2, 1) := by decide +kernel
theorem dX9_init_407 : decode cX9_init 407 = .ok (.iconst 0, 1) := by decide +kernel
theorem dX9_init_408 : decode cX9_init 408 = .ok (.iconst 0, 1) := by decide +kernel
theorem dX9_init_409 : decode cX9_init 409 = .ok (.iconst 0, 1) := by decide +kernel
theorem dX9_init_410 : decode cX9_init 410 = .ok (.invokevirtual 127, 3) := by decide +kernel
theorem dX9_init_413 : decode cX9_init 413 = .ok (.iinc 1 1, 3) := by decide +kernel
theorem dX9_init_416 : decode cX9_init 416 = .ok (.iinc 3 1, 3) := by decide +kernel
theorem dX9_init_419 : decode cX9_init 419 = .ok (.goto (-23), 3) := by decide +kernel
theorem dX9_init_422 : decode cX9_init 422 = .ok (.iinc 2 1, 3) := by decide +kernel
theorem dX9_init_425 : decode cX9_init 425 = .ok (.goto (-51), 3) := by decide +kernel
theorem dX9_init_428 : decode cX9_init 428 = .ok (.iconst 0, 1) := by decide +kernel
theorem dX9_init_429 : decode cX9_init 429 = .ok (.istore_n 2, 1) := by decide +kernel
theorem dX9_init_430 : decode cX9_init 430 = .ok (.iload_n 2, 1) := by decide +kernel
theorem dX9_init_431 : decode cX9_init 431 = .ok (.bipush 9, 2) := by decide +kernel
theorem dX9_init_433 : decode cX9_init 433 = .ok (.if_icmp .ge 63, 3) := by decide +kernel
theorem dX9_init_436 : decode cX9_init 436 = .ok (.iconst 1, 1) := by decide +kernel
theorem dX9_init_437 : decode cX9_init 437 = .ok (.istore_n 3, 1) := by decide +kernel
theorem dX9_init_438 : decode cX9_init 438 = .ok (.iload_n 3, 1) := by decide +kernel
theorem dX9_init_439 : decode cX9_init 439 = .ok (.iconst 5, 1) := by decide +kernel
theorem dX9_init_440 : decode cX9_init 440 = .ok (.if_icmp .ge 50, 3) := by decide +kernel
theorem dX9_init_443 : decode cX9_init 443 = .ok (.iconst 4, 1) := by decide +kernel
theorem dX9_init_444 : decode cX9_init 444 = .ok (.istore 4, 2) := by decide +kernel
theorem dX9_init_446 : decode cX9_init 446 = .ok (.iload 4, 2) := by decide +kernel
theorem dX9_init_448 : decode cX9_init 448 = .ok (.iload_n 2, 1) := by decide +kernel
theorem dX9_init_449 : decode cX9_init 449 = .ok (.bipush 6, 2) := by decide +kernel
theorem dX9_init_451 : decode cX9_init 451 = .ok (.if_icmp .ge 8, 3) := by decide +kernel
theorem dX9_init_454 : decode cX9_init 454 = .ok (.bipush 7, 2) := by decide +kernel
theorem dX9_init_456 : decode cX9_init 456 = .ok (.goto 4, 3) := by decide +kernel
theorem dX9_init_459 : decode cX9_init 459 = .ok (.iconst 5, 1) := by decide +kernel
theorem dX9_init_460 : decode cX9_init 460 = .ok (.if_icmp .ge 24, 3) := by decide +kernel
theorem dX9_init_463 : decode cX9_init 463 = .ok (.aload_n 0, 1) := by decide +kernel
theorem dX9_init_464 : decode cX9_init 464 = .ok (.iload_n 1, 1) := by decide +kernel
theorem dX9_init_465 : decode cX9_init 465 = .ok (.iconst 1, 1) := by decide +kernel
theorem dX9_init_466 : decode cX9_init 466 = .ok (.iload_n 3, 1) := by decide +kernel
theorem dX9_init_467 : decode cX9_init 467 = .ok (.iconst 0, 1) := by decide +kernel
theorem dX9_init_468 : decode cX9_init 468 = .ok (.iconst 3, 1) := by decide +kernel
theorem dX9_init_469 : decode cX9_init 469 = .ok (.iload 4, 2) := by decide +kernel
theorem dX9_init_471 : decode cX9_init 471 = .ok (.iload_n 2, 1) := by decide +kernel
theorem dX9_init_472 : decode cX9_init 472 = .ok (.invokevirtual 127, 3) := by decide +kernel
theorem dX9_init_475 : decode cX9_init 475 = .ok (.iinc 1 1, 3) := by decide +kernel
theorem dX9_init_478 : decode cX9_init 478 = .ok (.iinc 4 1, 3) := by decide +kernel
theorem dX9_init_481 : decode cX9_init 481 = .ok (.goto (-35), 3) := by decide +kernel
theorem dX9_init_484 : decode cX9_init 484 = .ok (.iinc 3 1, 3) := by decide +kernel
theorem dX9_init_487 : decode cX9_init 487 = .ok (.goto (-49), 3) := by decide +kernel
theorem dX9_init_490 : decode cX9_init 490 = .ok (.iinc 2 1, 3) := by decide +kernel
theorem dX9_init_493 : decode cX9_init 493 = .ok (.goto (-63), 3) := by decide +kernel
theorem dX9_init_496 : decode cX9_init 496 = .ok (.iconst 0, 1) := by decide +kernel
theorem dX9_init_497 : decode cX9_init 497 = .ok (.istore_n 2, 1) := by decide +kernel
theorem dX9_init_498 : decode cX9_init 498 = .ok (.iload_n 2, 1) := by decide +kernel
theorem dX9_init_499 : decode cX9_init 499 = .ok (.bipush 9, 2) := by decide +kernel
theorem dX9_init_501 : decode cX9_init 501 = .ok (.if_icmp .ge 23, 3) := by decide +kernel
theorem dX9_init_504 : decode cX9_init 504 = .ok (.aload_n 0, 1) := by decide +kernel
theorem dX9_init_505 : decode cX9_init 505 = .ok (.iload_n 1, 1) := by decide +kernel
theorem dX9_init_506 : decode cX9_init 506 = .ok (.iconst 3, 1) := by decide +kernel
theorem dX9_init_507 : decode cX9_init 507 = .ok (.iconst 4, 1) := by decide +kernel
theorem dX9_init_508 : decode cX9_init 508 = .ok (.iload_n 2, 1) := by decide +kernel
theorem dX9_init_509 : decode cX9_init 509 = .ok (.iconst 1, 1) := by decide +kernel
theorem dX9_init_510 : decode cX9_init 510 = .ok (.iconst 1, 1) := by decide +kernel
theorem dX9_init_511 : decode cX9_init 511 = .ok (.iconst 0, 1) := by decide +kernel
theorem dX9_init_512 : decode cX9_init 512 = .ok (.invokevirtual 127, 3) := by decide +kernel
theorem dX9_init_515 : decode cX9_init 515 = .ok (.iinc 1 1, 3) := by decide +kernel
theorem dX9_init_518 : decode cX9_init 518 = .ok (.iinc 2 1, 3) := by decide +kernel
theorem dX9_init_521 : decode cX9_init 521 = .ok (.goto (-23), 3) := by decide +kernel
theorem dX9_init_524 : decode cX9_init 524 = .ok (.iconst 0, 1) := by decide +kernel
theorem dX9_init_525 : decode cX9_init 525 = .ok (.istore_n 2, 1) := by decide +kernel
theorem dX9_init_526 : decode cX9_init 526 = .ok (.iload_n 2, 1) := by decide +kernel
theorem dX9_init_527 : decode cX9_init 527 = .ok (.sipush 1536, 3) := by decide +kernel
theorem dX9_init_530 : decode cX9_init 530 = .ok (.if_icmp .ge 21, 3) := by decide +kernel
theorem dX9_init_533 : decode cX9_init 533 = .ok (.aload_n 0, 1) := by decide +kernel
theorem dX9_init_534 : decode cX9_init 534 = .ok (.getfield 20, 3) := by decide +kernel
theorem dX9_init_537 : decode cX9_init 537 = .ok (.iload_n 2, 1) := by decide +kernel
theorem dX9_init_538 : decode cX9_init 538 = .ok (.aload_n 0, 1) := by decide +kernel
theorem dX9_init_539 : decode cX9_init 539 = .ok (.getfield 17, 3) := by decide +kernel
theorem dX9_init_542 : decode cX9_init 542 = .ok (.iload_n 2, 1) := by decide +kernel
theorem dX9_init_543 : decode cX9_init 543 = .ok (.baload, 1) := by decide +kernel
theorem dX9_init_544 : decode cX9_init 544 = .ok (.bastore, 1) := by decide +kernel
theorem dX9_init_545 : decode cX9_init 545 = .ok (.iinc 2 1, 3) := by decide +kernel
theorem dX9_init_548 : decode cX9_init 548 = .ok (.goto (-22), 3) := by decide +kernel
theorem dX9_init_551 : decode cX9_init 551 = .ok (.return_, 1) := by decide +kernel
theorem dX9_set_0 : decode cX9_set 0 = .ok (.aload_n 0, 1) := by decide +kernel
theorem dX9_set_1 : decode cX9_set 1 = .ok (.getfield 17, 3) := by decide +kernel
theorem dX9_set_4 : decode cX9_set 4 = .ok (.iload_n 1, 1) := by decide +kernel
theorem dX9_set_5 : decode cX9_set 5 = .ok (.iload_n 2, 1) := by decide +kernel
theorem dX9_set_6 : decode cX9_set 6 = .ok (.i2b, 1) := by decide +kernel
theorem dX9_set_7 : decode cX9_set 7 = .ok (.bastore, 1) := by decide +kernel
theorem dX9_set_8 : decode cX9_set 8 = .ok (.aload_n 0, 1) := by decide +kernel
theorem dX9_set_9 : decode cX9_set 9 = .ok (.getfield 17, 3) := by decide +kernel
theorem dX9_set_12 : decode cX9_set 12 = .ok (.sipush 256, 3) := by decide +kernel
theorem dX9_set_15 : decode cX9_set 15 = .ok (.iload_n 1, 1) := by decide +kernel
theorem dX9_set_16 : decode cX9_set 16 = .ok (.iadd, 1) := by decide +kernel
theorem dX9_set_17 : decode cX9_set 17 = .ok (.iload 5, 2) := by decide +kernel
theorem dX9_set_19 : decode cX9_set 19 = .ok (.i2b, 1) := by decide +kernel
theorem dX9_set_20 : decode cX9_set 20 = .ok (.bastore, 1) := by decide +kernel
theorem dX9_set_21 : decode cX9_set 21 = .ok (.aload_n 0, 1) := by decide +kernel
theorem dX9_set_22 : decode cX9_set 22 = .ok (.getfield 17, 3) := by decide +kernel
theorem dX9_set_25 : decode cX9_set 25 = .ok (.sipush 512, 3) := by decide +kernel
theorem dX9_set_28 : decode cX9_set 28 = .ok (.iload_n 1, 1) := by decide +kernel
theorem dX9_set_29 : decode cX9_set 29 = .ok (.iadd, 1) := by decide +kernel
theorem dX9_set_30 : decode cX9_set 30 = .ok (.iload_n 3, 1) := by decide +kernel
theorem dX9_set_31 : decode cX9_set 31 = .ok (.i2b, 1) := by decide +kernel
theorem dX9_set_32 : decode cX9_set 32 = .ok (.bastore, 1) := by decide +kernel
theorem dX9_set_33 : decode cX9_set 33 = .ok (.aload_n 0, 1) := by decide +kernel
theorem dX9_set_34 : decode cX9_set 34 = .ok (.getfield 17, 3) := by decide +kernel
theorem dX9_set_37 : decode cX9_set 37 = .ok (.sipush 768, 3) := by decide +kernel
theorem dX9_set_40 : decode cX9_set 40 = .ok (.iload_n 1, 1) := by decide +kernel
theorem dX9_set_41 : decode cX9_set 41 = .ok (.iadd, 1) := by decide +kernel
theorem dX9_set_42 : decode cX9_set 42 = .ok (.iload 6, 2) := by decide +kernel
theorem dX9_set_44 : decode cX9_set 44 = .ok (.i2b, 1) := by decide +kernel
theorem dX9_set_45 : decode cX9_set 45 = .ok (.bastore, 1) := by decide +kernel
theorem dX9_set_46 : decode cX9_set 46 = .ok (.aload_n 0, 1) := by decide +kernel
theorem dX9_set_47 : decode cX9_set 47 = .ok (.getfield 17, 3) := by decide +kernel
theorem dX9_set_50 : decode cX9_set 50 = .ok (.sipush 1024, 3) := by decide +kernel
theorem dX9_set_53 : decode cX9_set 53 = .ok (.iload_n 1, 1) := by decide +kernel
theorem dX9_set_54 : decode cX9_set 54 = .ok (.iadd, 1) := by decide +kernel
theorem dX9_set_55 : decode cX9_set 55 = .ok (.iload 4, 2) := by decide +kernel
theorem dX9_set_57 : decode cX9_set 57 = .ok (.i2b, 1) := by decide +kernel
theorem dX9_set_58 : decode cX9_set 58 = .ok (.bastore, 1) := by decide +kernel
theorem dX9_set_59 : decode cX9_set 59 = .ok (.aload_n 0, 1) := by decide +kernel
theorem dX9_set_60 : decode cX9_set 60 = .ok (.getfield 17, 3) := by decide +kernel
theorem dX9_set_63 : decode cX9_set 63 = .ok (.sipush 1280, 3) := by decide +kernel
theorem dX9_set_66 : decode cX9_set 66 = .ok (.iload_n 1, 1) := by decide +kernel
theorem dX9_set_67 : decode cX9_set 67 = .ok (.iadd, 1) := by decide +kernel
theorem dX9_set_68 : decode cX9_set 68 = .ok (.iload 7, 2) := by decide +kernel
theorem dX9_set_70 : decode cX9_set 70 = .ok (.i2b, 1) := by decide +kernel
theorem dX9_set_71 : decode cX9_set 71 = .ok (.bastore, 1) := by decide +kernel
theorem dX9_set_72 : decode cX9_set 72 = .ok (.return_, 1) := by decide +kernel
theorem dX9_in_0 : decode cX9_in 0 = .ok (.lload_n 0, 1) := by decide +kernel
theorem dX9_in_1 : decode cX9_in 1 = .ok (.lload_n 2, 1) := by decide +kernel
theorem dX9_in_2 : decode cX9_in 2 = .ok (.lcmp, 1) := by decide +kernel
theorem dX9_in_3 : decode cX9_in 3 = .ok (.ifCond .lt 14, 3) := by decide +kernel
theorem dX9_in_6 : decode cX9_in 6 = .ok (.lload_n 0, 1) := by decide +kernel
theorem dX9_in_7 : decode cX9_in 7 = .ok (.lload 4, 2) := by decide +kernel
theorem dX9_in_9 : decode cX9_in 9 = .ok (.lcmp, 1) := by decide +kernel
theorem dX9_in_10 : decode cX9_in 10 = .ok (.ifCond .gt 7, 3) := by decide +kernel
theorem dX9_in_13 : decode cX9_in 13 = .ok (.iconst 1, 1) := by decide +kernel
theorem dX9_in_14 : decode cX9_in 14 = .ok (.goto 4, 3) := by decide +kernel
theorem dX9_in_17 : decode cX9_in 17 = .ok (.iconst 0, 1) := by decide +kernel
theorem dX9_in_18 : decode cX9_in 18 = .ok (.ireturn, 1) := by decide +kernel
theorem dX9_room_0 : decode cX9_room 0 = .ok (.iload_n 0, 1) := by decide +kernel
theorem dX9_room_1 : decode cX9_room 1 = .ok (.iconst 2, 1) := by decide +kernel
theorem dX9_room_2 : decode cX9_room 2 = .ok (.if_icmp .ge 9, 3) := by decide +kernel
theorem dX9_room_5 : decode cX9_room 5 = .ok (.sipush 4000, 3) := by decide +kernel
theorem dX9_room_8 : decode cX9_room 8 = .ok (.goto 6, 3) := by decide +kernel
theorem dX9_room_11 : decode cX9_room 11 = .ok (.sipush 8000, 3) := by decide +kernel
theorem dX9_room_14 : decode cX9_room 14 = .ok (.ireturn, 1) := by decide +kernel
theorem dX9_feed_0 : decode cX9_feed 0 = .ok (.aload_n 0, 1) := by decide +kernel
theorem dX9_feed_1 : decode cX9_feed 1 = .ok (.iconst 0, 1) := by decide +kernel
theorem dX9_feed_2 : decode cX9_feed 2 = .ok (.putfield 131, 3) := by decide +kernel
theorem dX9_feed_5 : decode cX9_feed 5 = .ok (.iload_n 1, 1) := by decide +kernel
theorem dX9_feed_6 : decode cX9_feed 6 = .ok (.i2l, 1) := by decide +kernel
theorem dX9_feed_7 : decode cX9_feed 7 = .ok (.lconst 0, 1) := by decide +kernel
theorem dX9_feed_8 : decode cX9_feed 8 = .ok (.ldc2_w 134, 3) := by decide +kernel
theorem dX9_feed_11 : decode cX9_feed 11 = .ok (.invokestatic 136, 3) := by decide +kernel
theorem dX9_feed_14 : decode cX9_feed 14 = .ok (.ifCond .eq 16, 3) := by decide +kernel
theorem dX9_feed_17 : decode cX9_feed 17 = .ok (.iload 4, 2) := by decide +kernel
theorem dX9_feed_19 : decode cX9_feed 19 = .ok (.i2l, 1) := by decide +kernel
theorem dX9_feed_20 : decode cX9_feed 20 = .ok (.lconst 0, 1) := by decide +kernel
theorem dX9_feed_21 : decode cX9_feed 21 = .ok (.ldc2_w 140, 3) := by decide +kernel
theorem dX9_feed_24 : decode cX9_feed 24 = .ok (.invokestatic 136, 3) := by decide +kernel
theorem dX9_feed_27 : decode cX9_feed 27 = .ok (.ifCond .ne 6, 3) := by decide +kernel
theorem dX9_feed_30 : decode cX9_feed 30 = .ok (.bipush (-2), 2) := by decide +kernel
theorem dX9_feed_32 : decode cX9_feed 32 = .ok (.ireturn, 1) := by decide +kernel
theorem dX9_feed_33 : decode cX9_feed 33 = .ok (.iload 4, 2) := by decide +kernel
theorem dX9_feed_35 : decode cX9_feed 35 = .ok (.ifCond .ne 12, 3) := by decide +kernel
theorem dX9_feed_38 : decode cX9_feed 38 = .ok (.aload_n 0, 1) := by decide +kernel
theorem dX9_feed_39 : decode cX9_feed 39 = .ok (.getfield 13, 3) := by decide +kernel
theorem dX9_feed_42 : decode cX9_feed 42 = .ok (.iload_n 1, 1) := by decide +kernel
theorem dX9_feed_43 : decode cX9_feed 43 = .ok (.iconst 0, 1) := by decide +kernel
theorem dX9_feed_44 : decode cX9_feed 44 = .ok (.iastore, 1) := by decide +kernel
theorem dX9_feed_45 : decode cX9_feed 45 = .ok (.iconst 0, 1) := by decide +kernel
theorem dX9_feed_46 : decode cX9_feed 46 = .ok (.ireturn, 1) := by decide +kernel
theorem dX9_feed_47 : decode cX9_feed 47 = .ok (.aload_n 0, 1) := by decide +kernel
theorem dX9_feed_48 : decode cX9_feed 48 = .ok (.getfield 13, 3) := by decide +kernel
theorem dX9_feed_51 : decode cX9_feed 51 = .ok (.iload_n 1, 1) := by decide +kernel
theorem dX9_feed_52 : decode cX9_feed 52 = .ok (.iaload, 1) := by decide +kernel
theorem dX9_feed_53 : decode cX9_feed 53 = .ok (.iload 4, 2) := by decide +kernel
theorem dX9_feed_55 : decode cX9_feed 55 = .ok (.iadd, 1) := by decide +kernel
theorem dX9_feed_56 : decode cX9_feed 56 = .ok (.iload_n 1, 1) := by decide +kernel
theorem dX9_feed_57 : decode cX9_feed 57 = .ok (.invokestatic 142, 3) := by decide +kernel
theorem dX9_feed_60 : decode cX9_feed 60 = .ok (.if_icmp .le 6, 3) := by decide +kernel
theorem dX9_feed_63 : decode cX9_feed 63 = .ok (.bipush (-4), 2) := by decide +kernel
theorem dX9_feed_65 : decode cX9_feed 65 = .ok (.ireturn, 1) := by decide +kernel
theorem dX9_feed_66 : decode cX9_feed 66 = .ok (.iload 4, 2) := by decide +kernel
theorem dX9_feed_68 : decode cX9_feed 68 = .ok (.iconst 1, 1) := by decide +kernel
theorem dX9_feed_69 : decode cX9_feed 69 = .ok (.isub, 1) := by decide +kernel
theorem dX9_feed_70 : decode cX9_feed 70 = .ok (.istore 5, 2) := by decide +kernel
theorem dX9_feed_72 : decode cX9_feed 72 = .ok (.iload 5, 2) := by decide +kernel
theorem dX9_feed_74 : decode cX9_feed 74 = .ok (.ifCond .lt 45, 3) := by decide +kernel
theorem dX9_feed_77 : decode cX9_feed 77 = .ok (.aload_n 0, 1) := by decide +kernel
theorem dX9_feed_78 : decode cX9_feed 78 = .ok (.getfield 7, 3) := by decide +kernel
theorem dX9_feed_81 : decode cX9_feed 81 = .ok (.sipush 8000, 3) := by decide +kernel
theorem dX9_feed_84 : decode cX9_feed 84 = .ok (.iload_n 1, 1) := by decide +kernel
theorem dX9_feed_85 : decode cX9_feed 85 = .ok (.imul, 1) := by decide +kernel
theorem dX9_feed_86 : decode cX9_feed 86 = .ok (.aload_n 0, 1) := by decide +kernel
theorem dX9_feed_87 : decode cX9_feed 87 = .ok (.getfield 13, 3) := by decide +kernel
theorem dX9_feed_90 : decode cX9_feed 90 = .ok (.iload_n 1, 1) := by decide +kernel
theorem dX9_feed_91 : decode cX9_feed 91 = .ok (.iaload, 1) := by decide +kernel
theorem dX9_feed_92 : decode cX9_feed 92 = .ok (.iadd, 1) := by decide +kernel
theorem dX9_feed_93 : decode cX9_feed 93 = .ok (.lload_n 2, 1) := by decide +kernel
theorem dX9_feed_94 : decode cX9_feed 94 = .ok (.bipush 8, 2) := by decide +kernel
theorem dX9_feed_96 : decode cX9_feed 96 = .ok (.iload 5, 2) := by decide +kernel
theorem dX9_feed_98 : decode cX9_feed 98 = .ok (.imul, 1) := by decide +kernel
theorem dX9_feed_99 : decode cX9_feed 99 = .ok (.lshr, 1) := by decide +kernel
theorem dX9_feed_100 : decode cX9_feed 100 = .ok (.l2i, 1) := by decide +kernel
theorem dX9_feed_101 : decode cX9_feed 101 = .ok (.i2b, 1) := by decide +kernel
theorem dX9_feed_102 : decode cX9_feed 102 = .ok (.bastore, 1) := by decide +kernel
theorem dX9_feed_103 : decode cX9_feed 103 = .ok (.aload_n 0, 1) := by decide +kernel
theorem dX9_feed_104 : decode cX9_feed 104 = .ok (.getfield 13, 3) := by decide +kernel
theorem dX9_feed_107 : decode cX9_feed 107 = .ok (.iload_n 1, 1) := by decide +kernel
theorem dX9_feed_108 : decode cX9_feed 108 = .ok (.dup2, 1) := by decide +kernel
theorem dX9_feed_109 : decode cX9_feed 109 = .ok (.iaload, 1) := by decide +kernel
theorem dX9_feed_110 : decode cX9_feed 110 = .ok (.iconst 1, 1) := by decide +kernel
theorem dX9_feed_111 : decode cX9_feed 111 = .ok (.iadd, 1) := by decide +kernel
theorem dX9_feed_112 : decode cX9_feed 112 = .ok (.iastore, 1) := by decide +kernel
theorem dX9_feed_113 : decode cX9_feed 113 = .ok (.iinc 5 (-1), 3) := by decide +kernel
theorem dX9_feed_116 : decode cX9_feed 116 = .ok (.goto (-44), 3) := by decide +kernel
theorem dX9_feed_119 : decode cX9_feed 119 = .ok (.aload_n 0, 1) := by decide +kernel
theorem dX9_feed_120 : decode cX9_feed 120 = .ok (.getfield 13, 3) := by decide +kernel
theorem dX9_feed_123 : decode cX9_feed 123 = .ok (.iload_n 1, 1) := by decide +kernel
theorem dX9_feed_124 : decode cX9_feed 124 = .ok (.iaload, 1) := by decide +kernel
theorem dX9_feed_125 : decode cX9_feed 125 = .ok (.ireturn, 1) := by decide +kernel
theorem dX9_fill_0 : decode cX9_fill 0 = .ok (.aload_n 0, 1) := by decide +kernel
theorem dX9_fill_1 : decode cX9_fill 1 = .ok (.iconst 0, 1) := by decide +kernel
theorem dX9_fill_2 : decode cX9_fill 2 = .ok (.putfield 131, 3) := by decide +kernel
theorem dX9_fill_5 : decode cX9_fill 5 = .ok (.iload_n 1, 1) := by decide +kernel
theorem dX9_fill_6 : decode cX9_fill 6 = .ok (.i2l, 1) := by decide +kernel
theorem dX9_fill_7 : decode cX9_fill 7 = .ok (.lconst 0, 1) := by decide +kernel
theorem dX9_fill_8 : decode cX9_fill 8 = .ok (.ldc2_w 134, 3) := by decide +kernel
theorem dX9_fill_11 : decode cX9_fill 11 = .ok (.invokestatic 136, 3) := by decide +kernel
theorem dX9_fill_14 : decode cX9_fill 14 = .ok (.ifCond .eq 19, 3) := by decide +kernel
theorem dX9_fill_17 : decode cX9_fill 17 = .ok (.iload_n 2, 1) := by decide +kernel
theorem dX9_fill_18 : decode cX9_fill 18 = .ok (.i2l, 1) := by decide +kernel
theorem dX9_fill_19 : decode cX9_fill 19 = .ok (.lconst 0, 1) := by decide +kernel
theorem dX9_fill_20 : decode cX9_fill 20 = .ok (.ldc2_w 134, 3) := by decide +kernel
theorem dX9_fill_23 : decode cX9_fill 23 = .ok (.invokestatic 136, 3) := by decide +kernel
theorem dX9_fill_26 : decode cX9_fill 26 = .ok (.ifCond .eq 7, 3) := by decide +kernel
theorem dX9_fill_29 : decode cX9_fill 29 = .ok (.iload_n 3, 1) := by decide +kernel
theorem dX9_fill_30 : decode cX9_fill 30 = .ok (.ifCond .ge 6, 3) := by decide +kernel
theorem dX9_fill_33 : decode cX9_fill 33 = .ok (.bipush (-2), 2) := by decide +kernel
theorem dX9_fill_35 : decode cX9_fill 35 = .ok (.ireturn, 1) := by decide +kernel
theorem dX9_fill_36 : decode cX9_fill 36 = .ok (.iload_n 3, 1) := by decide +kernel
theorem dX9_fill_37 : decode cX9_fill 37 = .ok (.iload_n 1, 1) := by decide +kernel
theorem dX9_fill_38 : decode cX9_fill 38 = .ok (.invokestatic 142, 3) := by decide +kernel
theorem dX9_fill_41 : decode cX9_fill 41 = .ok (.aload_n 0, 1) := by decide +kernel
theorem dX9_fill_42 : decode cX9_fill 42 = .ok (.getfield 13, 3) := by decide +kernel
theorem dX9_fill_45 : decode cX9_fill 45 = .ok (.iload_n 1, 1) := by decide +kernel
theorem dX9_fill_46 : decode cX9_fill 46 = .ok (.iaload, 1) := by decide +kernel
theorem dX9_fill_47 : decode cX9_fill 47 = .ok (.isub, 1) := by decide +kernel
theorem dX9_fill_48 : decode cX9_fill 48 = .ok (.if_icmp .le 6, 3) := by decide +kernel
theorem dX9_fill_51 : decode cX9_fill 51 = .ok (.bipush (-4), 2) := by decide +kernel
theorem dX9_fill_53 : decode cX9_fill 53 = .ok (.ireturn, 1) := by decide +kernel
theorem dX9_fill_54 : decode cX9_fill 54 = .ok (.iload 4, 2) := by decide +kernel
theorem dX9_fill_56 : decode cX9_fill 56 = .ok (.istore 5, 2) := by decide +kernel
theorem dX9_fill_58 : decode cX9_fill 58 = .ok (.iconst 0, 1) := by decide +kernel
theorem dX9_fill_59 : decode cX9_fill 59 = .ok (.istore 6, 2) := by decide +kernel
theorem dX9_fill_61 : decode cX9_fill 61 = .ok (.iload 6, 2) := by decide +kernel
theorem dX9_fill_63 : decode cX9_fill 63 = .ok (.iload_n 3, 1) := by decide +kernel
theorem dX9_fill_64 : decode cX9_fill 64 = .ok (.if_icmp .ge 149, 3) := by decide +kernel
theorem dX9_fill_67 : decode cX9_fill 67 = .ok (.iload 5, 2) := by decide +kernel
theorem dX9_fill_69 : decode cX9_fill 69 = .ok (.ldc 146, 2) := by decide +kernel
theorem dX9_fill_71 : decode cX9_fill 71 = .ok (.imul, 1) := by decide +kernel
theorem dX9_fill_72 : decode cX9_fill 72 = .ok (.ldc 147, 2) := by decide +kernel
theorem dX9_fill_74 : decode cX9_fill 74 = .ok (.iadd, 1) := by decide +kernel
theorem dX9_fill_75 : decode cX9_fill 75 = .ok (.istore 5, 2) := by decide +kernel
theorem dX9_fill_77 : decode cX9_fill 77 = .ok (.iload 5, 2) := by decide +kernel
theorem dX9_fill_79 : decode cX9_fill 79 = .ok (.bipush 24, 2) := by decide +kernel
theorem dX9_fill_81 : decode cX9_fill 81 = .ok (.iushr, 1) := by decide +kernel
theorem dX9_fill_82 : decode cX9_fill 82 = .ok (.istore 7, 2) := by decide +kernel
theorem dX9_fill_84 : decode cX9_fill 84 = .ok (.sipush 8000, 3) := by decide +kernel
theorem dX9_fill_87 : decode cX9_fill 87 = .ok (.iload_n 1, 1) := by decide +kernel
theorem dX9_fill_88 : decode cX9_fill 88 = .ok (.imul, 1) := by decide +kernel
theorem dX9_fill_89 : decode cX9_fill 89 = .ok (.aload_n 0, 1) := by decide +kernel
theorem dX9_fill_90 : decode cX9_fill 90 = .ok (.getfield 13, 3) := by decide +kernel
theorem dX9_fill_93 : decode cX9_fill 93 = .ok (.iload_n 1, 1) := by decide +kernel
theorem dX9_fill_94 : decode cX9_fill 94 = .ok (.iaload, 1) := by decide +kernel
theorem dX9_fill_95 : decode cX9_fill 95 = .ok (.iadd, 1) := by decide +kernel
theorem dX9_fill_96 : decode cX9_fill 96 = .ok (.istore 8, 2) := by decide +kernel
theorem dX9_fill_98 : decode cX9_fill 98 = .ok (.iload_n 2, 1) := by decide +kernel
theorem dX9_fill_99 : decode cX9_fill 99 = .ok (.iconst 1, 1) := by decide +kernel
theorem dX9_fill_100 : decode cX9_fill 100 = .ok (.if_icmp .ne 13, 3) := by decide +kernel
theorem dX9_fill_103 : decode cX9_fill 103 = .ok (.bipush 97, 2) := by decide +kernel
theorem dX9_fill_105 : decode cX9_fill 105 = .ok (.iload 7, 2) := by decide +kernel
theorem dX9_fill_107 : decode cX9_fill 107 = .ok (.iconst 4, 1) := by decide +kernel
theorem dX9_fill_108 : decode cX9_fill 108 = .ok (.irem, 1) := by decide +kernel
theorem dX9_fill_109 : decode cX9_fill 109 = .ok (.iadd, 1) := by decide +kernel
theorem dX9_fill_110 : decode cX9_fill 110 = .ok (.goto 5, 3) := by decide +kernel
theorem dX9_fill_113 : decode cX9_fill 113 = .ok (.iload 7, 2) := by decide +kernel
theorem dX9_fill_115 : decode cX9_fill 115 = .ok (.istore 9, 2) := by decide +kernel
theorem dX9_fill_117 : decode cX9_fill 117 = .ok (.iload_n 2, 1) := by decide +kernel
theorem dX9_fill_118 : decode cX9_fill 118 = .ok (.iconst 2, 1) := by decide +kernel
theorem dX9_fill_119 : decode cX9_fill 119 = .ok (.if_icmp .ne 34, 3) := by decide +kernel
theorem dX9_fill_122 : decode cX9_fill 122 = .ok (.aload_n 0, 1) := by decide +kernel
theorem dX9_fill_123 : decode cX9_fill 123 = .ok (.getfield 13, 3) := by decide +kernel
theorem dX9_fill_126 : decode cX9_fill 126 = .ok (.iload_n 1, 1) := by decide +kernel
theorem dX9_fill_127 : decode cX9_fill 127 = .ok (.iaload, 1) := by decide +kernel
theorem dX9_fill_128 : decode cX9_fill 128 = .ok (.bipush 17, 2) := by decide +kernel
theorem dX9_fill_130 : decode cX9_fill 130 = .ok (.if_icmp .lt 23, 3) := by decide +kernel
theorem dX9_fill_133 : decode cX9_fill 133 = .ok (.iload 7, 2) := by decide +kernel
theorem dX9_fill_135 : decode cX9_fill 135 = .ok (.sipush 240, 3) := by decide +kernel
theorem dX9_fill_138 : decode cX9_fill 138 = .ok (.if_icmp .ge 15, 3) := by decide +kernel
theorem dX9_fill_141 : decode cX9_fill 141 = .ok (.aload_n 0, 1) := by decide +kernel
theorem dX9_fill_142 : decode cX9_fill 142 = .ok (.getfield 7, 3) := by decide +kernel
theorem dX9_fill_145 : decode cX9_fill 145 = .ok (.iload 8, 2) := by decide +kernel
theorem dX9_fill_147 : decode cX9_fill 147 = .ok (.bipush 17, 2) := by decide +kernel
theorem dX9_fill_149 : decode cX9_fill 149 = .ok (.isub, 1) := by decide +kernel
theorem dX9_fill_150 : decode cX9_fill 150 = .ok (.baload, 1) := by decide +kernel
theorem dX9_fill_151 : decode cX9_fill 151 = .ok (.istore 9, 2) := by decide +kernel
theorem dX9_fill_153 : decode cX9_fill 153 = .ok (.iload_n 2, 1) := by decide +kernel
theorem dX9_fill_154 : decode cX9_fill 154 = .ok (.iconst 3, 1) := by decide +kernel
theorem dX9_fill_155 : decode cX9_fill 155 = .ok (.if_icmp .ne 32, 3) := by decide +kernel
theorem dX9_fill_158 : decode cX9_fill 158 = .ok (.aload_n 0, 1) := by decide +kernel
theorem dX9_fill_159 : decode cX9_fill 159 = .ok (.getfield 13, 3) := by decide +kernel
theorem dX9_fill_162 : decode cX9_fill 162 = .ok (.iload_n 1, 1) := by decide +kernel
theorem dX9_fill_163 : decode cX9_fill 163 = .ok (.iaload, 1) := by decide +kernel
theorem dX9_fill_164 : decode cX9_fill 164 = .ok (.iconst 1, 1) := by decide +kernel
theorem dX9_fill_165 : decode cX9_fill 165 = .ok (.if_icmp .lt 22, 3) := by decide +kernel
theorem dX9_fill_168 : decode cX9_fill 168 = .ok (.iload 7, 2) := by decide +kernel
theorem dX9_fill_170 : decode cX9_fill 170 = .ok (.sipush 230, 3) := by decide +kernel
theorem dX9_fill_173 : decode cX9_fill 173 = .ok (.if_icmp .ge 14, 3) := by decide +kernel
theorem dX9_fill_176 : decode cX9_fill 176 = .ok (.aload_n 0, 1) := by decide +kernel
theorem dX9_fill_177 : decode cX9_fill 177 = .ok (.getfield 7, 3) := by decide +kernel
theorem dX9_fill_180 : decode cX9_fill 180 = .ok (.iload 8, 2) := by decide +kernel
theorem dX9_fill_182 : decode cX9_fill 182 = .ok (.iconst 1, 1) := by decide +kernel
theorem dX9_fill_183 : decode cX9_fill 183 = .ok (.isub, 1) := by decide +kernel
theorem dX9_fill_184 : decode cX9_fill 184 = .ok (.baload, 1) := by decide +kernel
theorem dX9_fill_185 : decode cX9_fill 185 = .ok (.istore 9, 2) := by decide +kernel
theorem dX9_fill_187 : decode cX9_fill 187 = .ok (.aload_n 0, 1) := by decide +kernel
theorem dX9_fill_188 : decode cX9_fill 188 = .ok (.getfield 7, 3) := by decide +kernel
theorem dX9_fill_191 : decode cX9_fill 191 = .ok (.iload 8, 2) := by decide +kernel
theorem dX9_fill_193 : decode cX9_fill 193 = .ok (.iload 9, 2) := by decide +kernel
theorem dX9_fill_195 : decode cX9_fill 195 = .ok (.i2b, 1) := by decide +kernel
theorem dX9_fill_196 : decode cX9_fill 196 = .ok (.bastore, 1) := by decide +kernel
theorem dX9_fill_197 : decode cX9_fill 197 = .ok (.aload_n 0, 1) := by decide +kernel
theorem dX9_fill_198 : decode cX9_fill 198 = .ok (.getfield 13, 3) := by decide +kernel
theorem dX9_fill_201 : decode cX9_fill 201 = .ok (.iload_n 1, 1) := by decide +kernel
theorem dX9_fill_202 : decode cX9_fill 202 = .ok (.dup2, 1) := by decide +kernel
theorem dX9_fill_203 : decode cX9_fill 203 = .ok (.iaload, 1) := by decide +kernel
theorem dX9_fill_204 : decode cX9_fill 204 = .ok (.iconst 1, 1) := by decide +kernel
theorem dX9_fill_205 : decode cX9_fill 205 = .ok (.iadd, 1) := by decide +kernel
theorem dX9_fill_206 : decode cX9_fill 206 = .ok (.iastore, 1) := by decide +kernel
theorem dX9_fill_207 : decode cX9_fill 207 = .ok (.iinc 6 1, 3) := by decide +kernel
theorem dX9_fill_210 : decode cX9_fill 210 = .ok (.goto (-149), 3) := by decide +kernel
theorem dX9_fill_213 : decode cX9_fill 213 = .ok (.aload_n 0, 1) := by decide +kernel
theorem dX9_fill_214 : decode cX9_fill 214 = .ok (.getfield 13, 3) := by decide +kernel
theorem dX9_fill_217 : decode cX9_fill 217 = .ok (.iload_n 1, 1) := by decide +kernel
theorem dX9_fill_218 : decode cX9_fill 218 = .ok (.iaload, 1) := by decide +kernel
theorem dX9_fill_219 : decode cX9_fill 219 = .ok (.ireturn, 1) := by decide +kernel
theorem dX9_copy_0 : decode cX9_copy 0 = .ok (.aload_n 0, 1) := by decide +kernel
theorem dX9_copy_1 : decode cX9_copy 1 = .ok (.iconst 0, 1) := by decide +kernel
theorem dX9_copy_2 : decode cX9_copy 2 = .ok (.putfield 131, 3) := by decide +kernel
theorem dX9_copy_5 : decode cX9_copy 5 = .ok (.iload_n 1, 1) := by decide +kernel
theorem dX9_copy_6 : decode cX9_copy 6 = .ok (.i2l, 1) := by decide +kernel
theorem dX9_copy_7 : decode cX9_copy 7 = .ok (.lconst 0, 1) := by decide +kernel
theorem dX9_copy_8 : decode cX9_copy 8 = .ok (.ldc2_w 134, 3) := by decide +kernel
theorem dX9_copy_11 : decode cX9_copy 11 = .ok (.invokestatic 136, 3) := by decide +kernel
theorem dX9_copy_14 : decode cX9_copy 14 = .ok (.ifCond .eq 40, 3) := by decide +kernel
theorem dX9_copy_17 : decode cX9_copy 17 = .ok (.iload 4, 2) := by decide +kernel
theorem dX9_copy_19 : decode cX9_copy 19 = .ok (.i2l, 1) := by decide +kernel
theorem dX9_copy_20 : decode cX9_copy 20 = .ok (.lconst 0, 1) := by decide +kernel
theorem dX9_copy_21 : decode cX9_copy 21 = .ok (.ldc2_w 134, 3) := by decide +kernel
theorem dX9_copy_24 : decode cX9_copy 24 = .ok (.invokestatic 136, 3) := by decide +kernel
theorem dX9_copy_27 : decode cX9_copy 27 = .ok (.ifCond .eq 27, 3) := by decide +kernel
theorem dX9_copy_30 : decode cX9_copy 30 = .ok (.iload_n 2, 1) := by decide +kernel
theorem dX9_copy_31 : decode cX9_copy 31 = .ok (.ifCond .lt 23, 3) := by decide +kernel
theorem dX9_copy_34 : decode cX9_copy 34 = .ok (.iload_n 3, 1) := by decide +kernel
theorem dX9_copy_35 : decode cX9_copy 35 = .ok (.ifCond .lt 19, 3) := by decide +kernel
theorem dX9_copy_38 : decode cX9_copy 38 = .ok (.iload_n 2, 1) := by decide +kernel
theorem dX9_copy_39 : decode cX9_copy 39 = .ok (.i2l, 1) := by decide +kernel
theorem dX9_copy_40 : decode cX9_copy 40 = .ok (.iload_n 3, 1) := by decide +kernel
theorem dX9_copy_41 : decode cX9_copy 41 = .ok (.i2l, 1) := by decide +kernel
theorem dX9_copy_42 : decode cX9_copy 42 = .ok (.ladd, 1) := by decide +kernel
theorem dX9_copy_43 : decode cX9_copy 43 = .ok (.aload_n 0, 1) := by decide +kernel
theorem dX9_copy_44 : decode cX9_copy 44 = .ok (.getfield 13, 3) := by decide +kernel
theorem dX9_copy_47 : decode cX9_copy 47 = .ok (.iload_n 1, 1) := by decide +kernel
theorem dX9_copy_48 : decode cX9_copy 48 = .ok (.iaload, 1) := by decide +kernel
theorem dX9_copy_49 : decode cX9_copy 49 = .ok (.i2l, 1) := by decide +kernel
theorem dX9_copy_50 : decode cX9_copy 50 = .ok (.lcmp, 1) := by decide +kernel
theorem dX9_copy_51 : decode cX9_copy 51 = .ok (.ifCond .le 6, 3) := by decide +kernel
theorem dX9_copy_54 : decode cX9_copy 54 = .ok (.bipush (-2), 2) := by decide +kernel
theorem dX9_copy_56 : decode cX9_copy 56 = .ok (.ireturn, 1) := by decide +kernel
theorem dX9_copy_57 : decode cX9_copy 57 = .ok (.iload_n 3, 1) := by decide +kernel
theorem dX9_copy_58 : decode cX9_copy 58 = .ok (.iload 4, 2) := by decide +kernel
theorem dX9_copy_60 : decode cX9_copy 60 = .ok (.invokestatic 142, 3) := by decide +kernel
theorem dX9_copy_63 : decode cX9_copy 63 = .ok (.aload_n 0, 1) := by decide +kernel
theorem dX9_copy_64 : decode cX9_copy 64 = .ok (.getfield 13, 3) := by decide +kernel
theorem dX9_copy_67 : decode cX9_copy 67 = .ok (.iload 4, 2) := by decide +kernel
theorem dX9_copy_69 : decode cX9_copy 69 = .ok (.iaload, 1) := by decide +kernel
theorem dX9_copy_70 : decode cX9_copy 70 = .ok (.isub, 1) := by decide +kernel
theorem dX9_copy_71 : decode cX9_copy 71 = .ok (.if_icmp .le 6, 3) := by decide +kernel
theorem dX9_copy_74 : decode cX9_copy 74 = .ok (.bipush (-4), 2) := by decide +kernel
theorem dX9_copy_76 : decode cX9_copy 76 = .ok (.ireturn, 1) := by decide +kernel
theorem dX9_copy_77 : decode cX9_copy 77 = .ok (.iconst 0, 1) := by decide +kernel
theorem dX9_copy_78 : decode cX9_copy 78 = .ok (.istore 5, 2) := by decide +kernel
theorem dX9_copy_80 : decode cX9_copy 80 = .ok (.iload 5, 2) := by decide +kernel
theorem dX9_copy_82 : decode cX9_copy 82 = .ok (.iload_n 3, 1) := by decide +kernel
theorem dX9_copy_83 : decode cX9_copy 83 = .ok (.if_icmp .ge 54, 3) := by decide +kernel
theorem dX9_copy_86 : decode cX9_copy 86 = .ok (.aload_n 0, 1) := by decide +kernel
theorem dX9_copy_87 : decode cX9_copy 87 = .ok (.getfield 7, 3) := by decide +kernel
theorem dX9_copy_90 : decode cX9_copy 90 = .ok (.sipush 8000, 3) := by decide +kernel
theorem dX9_copy_93 : decode cX9_copy 93 = .ok (.iload 4, 2) := by decide +kernel
theorem dX9_copy_95 : decode cX9_copy 95 = .ok (.imul, 1) := by decide +kernel
theorem dX9_copy_96 : decode cX9_copy 96 = .ok (.aload_n 0, 1) := by decide +kernel
theorem dX9_copy_97 : decode cX9_copy 97 = .ok (.getfield 13, 3) := by decide +kernel
theorem dX9_copy_100 : decode cX9_copy 100 = .ok (.iload 4, 2) := by decide +kernel
theorem dX9_copy_102 : decode cX9_copy 102 = .ok (.iaload, 1) := by decide +kernel
theorem dX9_copy_103 : decode cX9_copy 103 = .ok (.iadd, 1) := by decide +kernel
theorem dX9_copy_104 : decode cX9_copy 104 = .ok (.aload_n 0, 1) := by decide +kernel
theorem dX9_copy_105 : decode cX9_copy 105 = .ok (.getfield 7, 3) := by decide +kernel
theorem dX9_copy_108 : decode cX9_copy 108 = .ok (.sipush 8000, 3) := by decide +kernel
theorem dX9_copy_111 : decode cX9_copy 111 = .ok (.iload_n 1, 1) := by decide +kernel
theorem dX9_copy_112 : decode cX9_copy 112 = .ok (.imul, 1) := by decide +kernel
theorem dX9_copy_113 : decode cX9_copy 113 = .ok (.iload_n 2, 1) := by decide +kernel
theorem dX9_copy_114 : decode cX9_copy 114 = .ok (.iadd, 1) := by decide +kernel
theorem dX9_copy_115 : decode cX9_copy 115 = .ok (.iload 5, 2) := by decide +kernel
theorem dX9_copy_117 : decode cX9_copy 117 = .ok (.iadd, 1) := by decide +kernel
theorem dX9_copy_118 : decode cX9_copy 118 = .ok (.baload, 1) := by decide +kernel
theorem dX9_copy_119 : decode cX9_copy 119 = .ok (.bastore, 1) := by decide +kernel
theorem dX9_copy_120 : decode cX9_copy 120 = .ok (.aload_n 0, 1) := by decide +kernel
theorem dX9_copy_121 : decode cX9_copy 121 = .ok (.getfield 13, 3) := by decide +kernel
theorem dX9_copy_124 : decode cX9_copy 124 = .ok (.iload 4, 2) := by decide +kernel
theorem dX9_copy_126 : decode cX9_copy 126 = .ok (.dup2, 1) := by decide +kernel
theorem dX9_copy_127 : decode cX9_copy 127 = .ok (.iaload, 1) := by decide +kernel
theorem dX9_copy_128 : decode cX9_copy 128 = .ok (.iconst 1, 1) := by decide +kernel
theorem dX9_copy_129 : decode cX9_copy 129 = .ok (.iadd, 1) := by decide +kernel
theorem dX9_copy_130 : decode cX9_copy 130 = .ok (.iastore, 1) := by decide +kernel
theorem dX9_copy_131 : decode cX9_copy 131 = .ok (.iinc 5 1, 3) := by decide +kernel
theorem dX9_copy_134 : decode cX9_copy 134 = .ok (.goto (-54), 3) := by decide +kernel
theorem dX9_copy_137 : decode cX9_copy 137 = .ok (.aload_n 0, 1) := by decide +kernel
theorem dX9_copy_138 : decode cX9_copy 138 = .ok (.getfield 13, 3) := by decide +kernel
theorem dX9_copy_141 : decode cX9_copy 141 = .ok (.iload 4, 2) := by decide +kernel
theorem dX9_copy_143 : decode cX9_copy 143 = .ok (.iaload, 1) := by decide +kernel
theorem dX9_copy_144 : decode cX9_copy 144 = .ok (.ireturn, 1) := by decide +kernel
theorem dX9_none_0 : decode cX9_none 0 = .ok (.iload_n 1, 1) := by decide +kernel
theorem dX9_none_1 : decode cX9_none 1 = .ok (.i2l, 1) := by decide +kernel
theorem dX9_none_2 : decode cX9_none 2 = .ok (.lconst 0, 1) := by decide +kernel
theorem dX9_none_3 : decode cX9_none 3 = .ok (.ldc2_w 134, 3) := by decide +kernel
theorem dX9_none_6 : decode cX9_none 6 = .ok (.invokestatic 136, 3) := by decide +kernel
theorem dX9_none_9 : decode cX9_none 9 = .ok (.ifCond .eq 21, 3) := by decide +kernel
theorem dX9_none_12 : decode cX9_none 12 = .ok (.iload_n 2, 1) := by decide +kernel
theorem dX9_none_13 : decode cX9_none 13 = .ok (.i2l, 1) := by decide +kernel
theorem dX9_none_14 : decode cX9_none 14 = .ok (.lconst 0, 1) := by decide +kernel
theorem dX9_none_15 : decode cX9_none 15 = .ok (.aload_n 0, 1) := by decide +kernel
theorem dX9_none_16 : decode cX9_none 16 = .ok (.getfield 13, 3) := by decide +kernel
theorem dX9_none_19 : decode cX9_none 19 = .ok (.iload_n 1, 1) := by decide +kernel
theorem dX9_none_20 : decode cX9_none 20 = .ok (.iaload, 1) := by decide +kernel
theorem dX9_none_21 : decode cX9_none 21 = .ok (.iconst 1, 1) := by decide +kernel
theorem dX9_none_22 : decode cX9_none 22 = .ok (.isub, 1) := by decide +kernel
theorem dX9_none_23 : decode cX9_none 23 = .ok (.i2l, 1) := by decide +kernel
theorem dX9_none_24 : decode cX9_none 24 = .ok (.invokestatic 136, 3) := by decide +kernel
theorem dX9_none_27 : decode cX9_none 27 = .ok (.ifCond .ne 7, 3) := by decide +kernel
theorem dX9_none_30 : decode cX9_none 30 = .ok (.iconst 1, 1) := by decide +kernel
theorem dX9_none_31 : decode cX9_none 31 = .ok (.goto 4, 3) := by decide +kernel
theorem dX9_none_34 : decode cX9_none 34 = .ok (.iconst 0, 1) := by decide +kernel
theorem dX9_none_35 : decode cX9_none 35 = .ok (.ireturn, 1) := by decide +kernel
theorem dX9_alter_0 : decode cX9_alter 0 = .ok (.aload_n 0, 1) := by decide +kernel
theorem dX9_alter_1 : decode cX9_alter 1 = .ok (.iconst 0, 1) := by decide +kernel
theorem dX9_alter_2 : decode cX9_alter 2 = .ok (.putfield 131, 3) := by decide +kernel
theorem dX9_alter_5 : decode cX9_alter 5 = .ok (.aload_n 0, 1) := by decide +kernel
theorem dX9_alter_6 : decode cX9_alter 6 = .ok (.iload_n 1, 1) := by decide +kernel
theorem dX9_alter_7 : decode cX9_alter 7 = .ok (.iload_n 2, 1) := by decide +kernel
theorem dX9_alter_8 : decode cX9_alter 8 = .ok (.invokevirtual 148, 3) := by decide +kernel
theorem dX9_alter_11 : decode cX9_alter 11 = .ok (.ifCond .eq 5, 3) := by decide +kernel
theorem dX9_alter_14 : decode cX9_alter 14 = .ok (.iconst (-1), 1) := by decide +kernel
theorem dX9_alter_15 : decode cX9_alter 15 = .ok (.ireturn, 1) := by decide +kernel
theorem dX9_alter_16 : decode cX9_alter 16 = .ok (.iload_n 3, 1) := by decide +kernel
theorem dX9_alter_17 : decode cX9_alter 17 = .ok (.i2l, 1) := by decide +kernel
theorem dX9_alter_18 : decode cX9_alter 18 = .ok (.lconst 0, 1) := by decide +kernel
theorem dX9_alter_19 : decode cX9_alter 19 = .ok (.ldc2_w 152, 3) := by decide +kernel
theorem dX9_alter_22 : decode cX9_alter 22 = .ok (.invokestatic 136, 3) := by decide +kernel
theorem dX9_alter_25 : decode cX9_alter 25 = .ok (.ifCond .ne 6, 3) := by decide +kernel
theorem dX9_alter_28 : decode cX9_alter 28 = .ok (.bipush (-2), 2) := by decide +kernel
theorem dX9_alter_30 : decode cX9_alter 30 = .ok (.ireturn, 1) := by decide +kernel
theorem dX9_alter_31 : decode cX9_alter 31 = .ok (.aload_n 0, 1) := by decide +kernel
theorem dX9_alter_32 : decode cX9_alter 32 = .ok (.getfield 7, 3) := by decide +kernel
theorem dX9_alter_35 : decode cX9_alter 35 = .ok (.sipush 8000, 3) := by decide +kernel
theorem dX9_alter_38 : decode cX9_alter 38 = .ok (.iload_n 1, 1) := by decide +kernel
theorem dX9_alter_39 : decode cX9_alter 39 = .ok (.imul, 1) := by decide +kernel
theorem dX9_alter_40 : decode cX9_alter 40 = .ok (.iload_n 2, 1) := by decide +kernel
theorem dX9_alter_41 : decode cX9_alter 41 = .ok (.iadd, 1) := by decide +kernel
theorem dX9_alter_42 : decode cX9_alter 42 = .ok (.baload, 1) := by decide +kernel
theorem dX9_alter_43 : decode cX9_alter 43 = .ok (.sipush 255, 3) := by decide +kernel
theorem dX9_alter_46 : decode cX9_alter 46 = .ok (.iand, 1) := by decide +kernel
theorem dX9_alter_47 : decode cX9_alter 47 = .ok (.istore 4, 2) := by decide +kernel
theorem dX9_alter_49 : decode cX9_alter 49 = .ok (.aload_n 0, 1) := by decide +kernel
theorem dX9_alter_50 : decode cX9_alter 50 = .ok (.getfield 7, 3) := by decide +kernel
theorem dX9_alter_53 : decode cX9_alter 53 = .ok (.sipush 8000, 3) := by decide +kernel
theorem dX9_alter_56 : decode cX9_alter 56 = .ok (.iload_n 1, 1) := by decide +kernel
theorem dX9_alter_57 : decode cX9_alter 57 = .ok (.imul, 1) := by decide +kernel
theorem dX9_alter_58 : decode cX9_alter 58 = .ok (.iload_n 2, 1) := by decide +kernel
theorem dX9_alter_59 : decode cX9_alter 59 = .ok (.iadd, 1) := by decide +kernel
theorem dX9_alter_60 : decode cX9_alter 60 = .ok (.iload_n 3, 1) := by decide +kernel
theorem dX9_alter_61 : decode cX9_alter 61 = .ok (.i2b, 1) := by decide +kernel
theorem dX9_alter_62 : decode cX9_alter 62 = .ok (.bastore, 1) := by decide +kernel
theorem dX9_alter_63 : decode cX9_alter 63 = .ok (.iload 4, 2) := by decide +kernel
theorem dX9_alter_65 : decode cX9_alter 65 = .ok (.ireturn, 1) := by decide +kernel
theorem dX9_cut_0 : decode cX9_cut 0 = .ok (.aload_n 0, 1) := by decide +kernel
theorem dX9_cut_1 : decode cX9_cut 1 = .ok (.iconst 0, 1) := by decide +kernel
theorem dX9_cut_2 : decode cX9_cut 2 = .ok (.putfield 131, 3) := by decide +kernel
theorem dX9_cut_5 : decode cX9_cut 5 = .ok (.iload_n 1, 1) := by decide +kernel
theorem dX9_cut_6 : decode cX9_cut 6 = .ok (.i2l, 1) := by decide +kernel
theorem dX9_cut_7 : decode cX9_cut 7 = .ok (.lconst 0, 1) := by decide +kernel
theorem dX9_cut_8 : decode cX9_cut 8 = .ok (.ldc2_w 134, 3) := by decide +kernel
theorem dX9_cut_11 : decode cX9_cut 11 = .ok (.invokestatic 136, 3) := by decide +kernel
theorem dX9_cut_14 : decode cX9_cut 14 = .ok (.ifCond .eq 19, 3) := by decide +kernel
theorem dX9_cut_17 : decode cX9_cut 17 = .ok (.iload_n 2, 1) := by decide +kernel
theorem dX9_cut_18 : decode cX9_cut 18 = .ok (.i2l, 1) := by decide +kernel
theorem dX9_cut_19 : decode cX9_cut 19 = .ok (.lconst 0, 1) := by decide +kernel
theorem dX9_cut_20 : decode cX9_cut 20 = .ok (.aload_n 0, 1) := by decide +kernel
theorem dX9_cut_21 : decode cX9_cut 21 = .ok (.getfield 13, 3) := by decide +kernel
theorem dX9_cut_24 : decode cX9_cut 24 = .ok (.iload_n 1, 1) := by decide +kernel
theorem dX9_cut_25 : decode cX9_cut 25 = .ok (.iaload, 1) := by decide +kernel
theorem dX9_cut_26 : decode cX9_cut 26 = .ok (.i2l, 1) := by decide +kernel
theorem dX9_cut_27 : decode cX9_cut 27 = .ok (.invokestatic 136, 3) := by decide +kernel
theorem dX9_cut_30 : decode cX9_cut 30 = .ok (.ifCond .ne 6, 3) := by decide +kernel
theorem dX9_cut_33 : decode cX9_cut 33 = .ok (.bipush (-2), 2) := by decide +kernel
theorem dX9_cut_35 : decode cX9_cut 35 = .ok (.ireturn, 1) := by decide +kernel
theorem dX9_cut_36 : decode cX9_cut 36 = .ok (.aload_n 0, 1) := by decide +kernel
theorem dX9_cut_37 : decode cX9_cut 37 = .ok (.getfield 13, 3) := by decide +kernel
theorem dX9_cut_40 : decode cX9_cut 40 = .ok (.iload_n 1, 1) := by decide +kernel
theorem dX9_cut_41 : decode cX9_cut 41 = .ok (.iaload, 1) := by decide +kernel
theorem dX9_cut_42 : decode cX9_cut 42 = .ok (.istore_n 3, 1) := by decide +kernel
theorem dX9_cut_43 : decode cX9_cut 43 = .ok (.aload_n 0, 1) := by decide +kernel
theorem dX9_cut_44 : decode cX9_cut 44 = .ok (.getfield 13, 3) := by decide +kernel
theorem dX9_cut_47 : decode cX9_cut 47 = .ok (.iload_n 1, 1) := by decide +kernel
theorem dX9_cut_48 : decode cX9_cut 48 = .ok (.iload_n 2, 1) := by decide +kernel
theorem dX9_cut_49 : decode cX9_cut 49 = .ok (.iastore, 1) := by decide +kernel
theorem dX9_cut_50 : decode cX9_cut 50 = .ok (.iload_n 3, 1) := by decide +kernel
theorem dX9_cut_51 : decode cX9_cut 51 = .ok (.ireturn, 1) := by decide +kernel
theorem dX9_length_0 : decode cX9_length 0 = .ok (.aload_n 0, 1) := by decide +kernel
theorem dX9_length_1 : decode cX9_length 1 = .ok (.iconst 0, 1) := by decide +kernel
theorem dX9_length_2 : decode cX9_length 2 = .ok (.putfield 131, 3) := by decide +kernel
theorem dX9_length_5 : decode cX9_length 5 = .ok (.iload_n 1, 1) := by decide +kernel
theorem dX9_length_6 : decode cX9_length 6 = .ok (.i2l, 1) := by decide +kernel
theorem dX9_length_7 : decode cX9_length 7 = .ok (.lconst 0, 1) := by decide +kernel
theorem dX9_length_8 : decode cX9_length 8 = .ok (.ldc2_w 134, 3) := by decide +kernel
theorem dX9_length_11 : decode cX9_length 11 = .ok (.invokestatic 136, 3) := by decide +kernel
theorem dX9_length_14 : decode cX9_length 14 = .ok (.ifCond .eq 12, 3) := by decide +kernel
theorem dX9_length_17 : decode cX9_length 17 = .ok (.aload_n 0, 1) := by decide +kernel
theorem dX9_length_18 : decode cX9_length 18 = .ok (.getfield 13, 3) := by decide +kernel
theorem dX9_length_21 : decode cX9_length 21 = .ok (.iload_n 1, 1) := by decide +kernel
theorem dX9_length_22 : decode cX9_length 22 = .ok (.iaload, 1) := by decide +kernel
theorem dX9_length_23 : decode cX9_length 23 = .ok (.goto 4, 3) := by decide +kernel
theorem dX9_length_26 : decode cX9_length 26 = .ok (.iconst (-1), 1) := by decide +kernel
theorem dX9_length_27 : decode cX9_length 27 = .ok (.ireturn, 1) := by decide +kernel
theorem dX9_octet_0 : decode cX9_octet 0 = .ok (.aload_n 0, 1) := by decide +kernel
theorem dX9_octet_1 : decode cX9_octet 1 = .ok (.iconst 0, 1) := by decide +kernel
theorem dX9_octet_2 : decode cX9_octet 2 = .ok (.putfield 131, 3) := by decide +kernel
theorem dX9_octet_5 : decode cX9_octet 5 = .ok (.aload_n 0, 1) := by decide +kernel
theorem dX9_octet_6 : decode cX9_octet 6 = .ok (.iload_n 1, 1) := by decide +kernel
theorem dX9_octet_7 : decode cX9_octet 7 = .ok (.iload_n 2, 1) := by decide +kernel
theorem dX9_octet_8 : decode cX9_octet 8 = .ok (.invokevirtual 148, 3) := by decide +kernel
theorem dX9_octet_11 : decode cX9_octet 11 = .ok (.ifCond .eq 7, 3) := by decide +kernel
theorem dX9_octet_14 : decode cX9_octet 14 = .ok (.iconst (-1), 1) := by decide +kernel
theorem dX9_octet_15 : decode cX9_octet 15 = .ok (.goto 19, 3) := by decide +kernel
theorem dX9_octet_18 : decode cX9_octet 18 = .ok (.aload_n 0, 1) := by decide +kernel
theorem dX9_octet_19 : decode cX9_octet 19 = .ok (.getfield 7, 3) := by decide +kernel
theorem dX9_octet_22 : decode cX9_octet 22 = .ok (.sipush 8000, 3) := by decide +kernel
theorem dX9_octet_25 : decode cX9_octet 25 = .ok (.iload_n 1, 1) := by decide +kernel
theorem dX9_octet_26 : decode cX9_octet 26 = .ok (.imul, 1) := by decide +kernel
theorem dX9_octet_27 : decode cX9_octet 27 = .ok (.iload_n 2, 1) := by decide +kernel
theorem dX9_octet_28 : decode cX9_octet 28 = .ok (.iadd, 1) := by decide +kernel
theorem dX9_octet_29 : decode cX9_octet 29 = .ok (.baload, 1) := by decide +kernel
theorem dX9_octet_30 : decode cX9_octet 30 = .ok (.sipush 255, 3) := by decide +kernel
theorem dX9_octet_33 : decode cX9_octet 33 = .ok (.iand, 1) := by decide +kernel
theorem dX9_octet_34 : decode cX9_octet 34 = .ok (.ireturn, 1) := by decide +kernel
theorem dX9_tableOctet_0 : decode cX9_tableOctet 0 = .ok (.aload_n 0, 1) := by decide +kernel
theorem dX9_tableOctet_1 : decode cX9_tableOctet 1 = .ok (.iconst 0, 1) := by decide +kernel
theorem dX9_tableOctet_2 : decode cX9_tableOctet 2 = .ok (.putfield 131, 3) := by decide +kernel
theorem dX9_tableOctet_5 : decode cX9_tableOctet 5 = .ok (.iload_n 1, 1) := by decide +kernel
theorem dX9_tableOctet_6 : decode cX9_tableOctet 6 = .ok (.i2l, 1) := by decide +kernel
theorem dX9_tableOctet_7 : decode cX9_tableOctet 7 = .ok (.lconst 0, 1) := by decide +kernel
theorem dX9_tableOctet_8 : decode cX9_tableOctet 8 = .ok (.ldc2_w 154, 3) := by decide +kernel
theorem dX9_tableOctet_11 : decode cX9_tableOctet 11 = .ok (.invokestatic 136, 3) := by decide +kernel
theorem dX9_tableOctet_14 : decode cX9_tableOctet 14 = .ok (.ifCond .ne 5, 3) := by decide +kernel
theorem dX9_tableOctet_17 : decode cX9_tableOctet 17 = .ok (.iconst (-1), 1) := by decide +kernel
theorem dX9_tableOctet_18 : decode cX9_tableOctet 18 = .ok (.ireturn, 1) := by decide +kernel
theorem dX9_tableOctet_19 : decode cX9_tableOctet 19 = .ok (.iload_n 2, 1) := by decide +kernel
theorem dX9_tableOctet_20 : decode cX9_tableOctet 20 = .ok (.i2l, 1) := by decide +kernel
theorem dX9_tableOctet_21 : decode cX9_tableOctet 21 = .ok (.lconst 0, 1) := by decide +kernel
theorem dX9_tableOctet_22 : decode cX9_tableOctet 22 = .ok (.ldc2_w 152, 3) := by decide +kernel
theorem dX9_tableOctet_25 : decode cX9_tableOctet 25 = .ok (.invokestatic 136, 3) := by decide +kernel
theorem dX9_tableOctet_28 : decode cX9_tableOctet 28 = .ok (.ifCond .ne 6, 3) := by decide +kernel
theorem dX9_tableOctet_31 : decode cX9_tableOctet 31 = .ok (.bipush (-2), 2) := by decide +kernel
theorem dX9_tableOctet_33 : decode cX9_tableOctet 33 = .ok (.ireturn, 1) := by decide +kernel
theorem dX9_tableOctet_34 : decode cX9_tableOctet 34 = .ok (.aload_n 0, 1) := by decide +kernel
theorem dX9_tableOctet_35 : decode cX9_tableOctet 35 = .ok (.getfield 20, 3) := by decide +kernel
theorem dX9_tableOctet_38 : decode cX9_tableOctet 38 = .ok (.iload_n 1, 1) := by decide +kernel
theorem dX9_tableOctet_39 : decode cX9_tableOctet 39 = .ok (.baload, 1) := by decide +kernel
theorem dX9_tableOctet_40 : decode cX9_tableOctet 40 = .ok (.sipush 255, 3) := by decide +kernel
theorem dX9_tableOctet_43 : decode cX9_tableOctet 43 = .ok (.iand, 1) := by decide +kernel
theorem dX9_tableOctet_44 : decode cX9_tableOctet 44 = .ok (.istore_n 3, 1) := by decide +kernel
theorem dX9_tableOctet_45 : decode cX9_tableOctet 45 = .ok (.aload_n 0, 1) := by decide +kernel
theorem dX9_tableOctet_46 : decode cX9_tableOctet 46 = .ok (.getfield 20, 3) := by decide +kernel
theorem dX9_tableOctet_49 : decode cX9_tableOctet 49 = .ok (.iload_n 1, 1) := by decide +kernel
theorem dX9_tableOctet_50 : decode cX9_tableOctet 50 = .ok (.iload_n 2, 1) := by decide +kernel
theorem dX9_tableOctet_51 : decode cX9_tableOctet 51 = .ok (.i2b, 1) := by decide +kernel
theorem dX9_tableOctet_52 : decode cX9_tableOctet 52 = .ok (.bastore, 1) := by decide +kernel
theorem dX9_tableOctet_53 : decode cX9_tableOctet 53 = .ok (.iload_n 3, 1) := by decide +kernel
theorem dX9_tableOctet_54 : decode cX9_tableOctet 54 = .ok (.ireturn, 1) := by decide +kernel
theorem dX9_caches_0 : decode cX9_caches 0 = .ok (.aload_n 0, 1) := by decide +kernel
theorem dX9_caches_1 : decode cX9_caches 1 = .ok (.iconst 0, 1) := by decide +kernel
theorem dX9_caches_2 : decode cX9_caches 2 = .ok (.putfield 131, 3) := by decide +kernel
theorem dX9_caches_5 : decode cX9_caches 5 = .ok (.iload_n 1, 1) := by decide +kernel
theorem dX9_caches_6 : decode cX9_caches 6 = .ok (.i2l, 1) := by decide +kernel
theorem dX9_caches_7 : decode cX9_caches 7 = .ok (.lconst 0, 1) := by decide +kernel
theorem dX9_caches_8 : decode cX9_caches 8 = .ok (.ldc2_w 140, 3) := by decide +kernel
theorem dX9_caches_11 : decode cX9_caches 11 = .ok (.invokestatic 136, 3) := by decide +kernel
theorem dX9_caches_14 : decode cX9_caches 14 = .ok (.ifCond .eq 15, 3) := by decide +kernel
theorem dX9_caches_17 : decode cX9_caches 17 = .ok (.iload_n 2, 1) := by decide +kernel
theorem dX9_caches_18 : decode cX9_caches 18 = .ok (.i2l, 1) := by decide +kernel
theorem dX9_caches_19 : decode cX9_caches 19 = .ok (.lconst 0, 1) := by decide +kernel
theorem dX9_caches_20 : decode cX9_caches 20 = .ok (.ldc2_w 156, 3) := by decide +kernel
theorem dX9_caches_23 : decode cX9_caches 23 = .ok (.invokestatic 136, 3) := by decide +kernel
theorem dX9_caches_26 : decode cX9_caches 26 = .ok (.ifCond .ne 6, 3) := by decide +kernel
theorem dX9_caches_29 : decode cX9_caches 29 = .ok (.bipush (-2), 2) := by decide +kernel
theorem dX9_caches_31 : decode cX9_caches 31 = .ok (.ireturn, 1) := by decide +kernel
theorem dX9_caches_32 : decode cX9_caches 32 = .ok (.aload_n 0, 1) := by decide +kernel
theorem dX9_caches_33 : decode cX9_caches 33 = .ok (.iload_n 1, 1) := by decide +kernel
theorem dX9_caches_34 : decode cX9_caches 34 = .ok (.putfield 23, 3) := by decide +kernel
theorem dX9_caches_37 : decode cX9_caches 37 = .ok (.aload_n 0, 1) := by decide +kernel
theorem dX9_caches_38 : decode cX9_caches 38 = .ok (.iload_n 2, 1) := by decide +kernel
theorem dX9_caches_39 : decode cX9_caches 39 = .ok (.putfield 27, 3) := by decide +kernel
theorem dX9_caches_42 : decode cX9_caches 42 = .ok (.iconst 1, 1) := by decide +kernel
theorem dX9_caches_43 : decode cX9_caches 43 = .ok (.ireturn, 1) := by decide +kernel
theorem dX9_isRight_0 : decode cX9_isRight 0 = .ok (.iconst 1, 1) := by decide +kernel
theorem dX9_isRight_1 : decode cX9_isRight 1 = .ok (.istore_n 2, 1) := by decide +kernel
theorem dX9_isRight_2 : decode cX9_isRight 2 = .ok (.iconst 0, 1) := by decide +kernel
theorem dX9_isRight_3 : decode cX9_isRight 3 = .ok (.istore_n 3, 1) := by decide +kernel
theorem dX9_isRight_4 : decode cX9_isRight 4 = .ok (.iload_n 3, 1) := by decide +kernel
theorem dX9_isRight_5 : decode cX9_isRight 5 = .ok (.sipush 512, 3) := by decide +kernel
theorem dX9_isRight_8 : decode cX9_isRight 8 = .ok (.if_icmp .ge 55, 3) := by decide +kernel
theorem dX9_isRight_11 : decode cX9_isRight 11 = .ok (.iload_n 2, 1) := by decide +kernel
theorem dX9_isRight_12 : decode cX9_isRight 12 = .ok (.ifCond .eq 43, 3) := by decide +kernel
theorem dX9_isRight_15 : decode cX9_isRight 15 = .ok (.aload_n 0, 1) := by decide +kernel
theorem dX9_isRight_16 : decode cX9_isRight 16 = .ok (.iload_n 3, 1) := by decide +kernel
theorem dX9_isRight_17 : decode cX9_isRight 17 = .ok (.baload, 1) := by decide +kernel
theorem dX9_isRight_18 : decode cX9_isRight 18 = .ok (.i2l, 1) := by decide +kernel
theorem dX9_isRight_19 : decode cX9_isRight 19 = .ok (.lconst 0, 1) := by decide +kernel
theorem dX9_isRight_20 : decode cX9_isRight 20 = .ok (.ldc2_w 134, 3) := by decide +kernel
theorem dX9_isRight_23 : decode cX9_isRight 23 = .ok (.invokestatic 136, 3) := by decide +kernel
theorem dX9_isRight_26 : decode cX9_isRight 26 = .ok (.ifCond .eq 29, 3) := by decide +kernel
theorem dX9_isRight_29 : decode cX9_isRight 29 = .ok (.aload_n 0, 1) := by decide +kernel
theorem dX9_isRight_30 : decode cX9_isRight 30 = .ok (.iload_n 3, 1) := by decide +kernel
theorem dX9_isRight_31 : decode cX9_isRight 31 = .ok (.baload, 1) := by decide +kernel
theorem dX9_isRight_32 : decode cX9_isRight 32 = .ok (.iconst 3, 1) := by decide +kernel
theorem dX9_isRight_33 : decode cX9_isRight 33 = .ok (.if_icmp .ne 18, 3) := by decide +kernel
theorem dX9_isRight_36 : decode cX9_isRight 36 = .ok (.aload_n 0, 1) := by decide +kernel
theorem dX9_isRight_37 : decode cX9_isRight 37 = .ok (.sipush 1024, 3) := by decide +kernel
theorem dX9_isRight_40 : decode cX9_isRight 40 = .ok (.iload_n 3, 1) := by decide +kernel
theorem dX9_isRight_41 : decode cX9_isRight 41 = .ok (.iadd, 1) := by decide +kernel
theorem dX9_isRight_42 : decode cX9_isRight 42 = .ok (.baload, 1) := by decide +kernel
theorem dX9_isRight_43 : decode cX9_isRight 43 = .ok (.sipush 255, 3) := by decide +kernel
theorem dX9_isRight_46 : decode cX9_isRight 46 = .ok (.iand, 1) := by decide +kernel
theorem dX9_isRight_47 : decode cX9_isRight 47 = .ok (.iload_n 1, 1) := by decide +kernel
theorem dX9_isRight_48 : decode cX9_isRight 48 = .ok (.if_icmp .ge 7, 3) := by decide +kernel
theorem dX9_isRight_51 : decode cX9_isRight 51 = .ok (.iconst 1, 1) := by decide +kernel
theorem dX9_isRight_52 : decode cX9_isRight 52 = .ok (.goto 4, 3) := by decide +kernel
theorem dX9_isRight_55 : decode cX9_isRight 55 = .ok (.iconst 0, 1) := by decide +kernel
theorem dX9_isRight_56 : decode cX9_isRight 56 = .ok (.istore_n 2, 1) := by decide +kernel
theorem dX9_isRight_57 : decode cX9_isRight 57 = .ok (.iinc 3 1, 3) := by decide +kernel
theorem dX9_isRight_60 : decode cX9_isRight 60 = .ok (.goto (-56), 3) := by decide +kernel
theorem dX9_isRight_63 : decode cX9_isRight 63 = .ok (.iload_n 2, 1) := by decide +kernel
theorem dX9_isRight_64 : decode cX9_isRight 64 = .ok (.ireturn, 1) := by decide +kernel
theorem dX9_code_0 : decode cX9_code 0 = .ok (.aload_n 0, 1) := by decide +kernel
theorem dX9_code_1 : decode cX9_code 1 = .ok (.iconst 0, 1) := by decide +kernel
theorem dX9_code_2 : decode cX9_code 2 = .ok (.putfield 131, 3) := by decide +kernel
theorem dX9_code_5 : decode cX9_code 5 = .ok (.iload_n 1, 1) := by decide +kernel
theorem dX9_code_6 : decode cX9_code 6 = .ok (.i2l, 1) := by decide +kernel
theorem dX9_code_7 : decode cX9_code 7 = .ok (.lconst 0, 1) := by decide +kernel
theorem dX9_code_8 : decode cX9_code 8 = .ok (.lconst 1, 1) := by decide +kernel
theorem dX9_code_9 : decode cX9_code 9 = .ok (.invokestatic 136, 3) := by decide +kernel
theorem dX9_code_12 : decode cX9_code 12 = .ok (.ifCond .eq 17, 3) := by decide +kernel
theorem dX9_code_15 : decode cX9_code 15 = .ok (.iload_n 2, 1) := by decide +kernel
theorem dX9_code_16 : decode cX9_code 16 = .ok (.i2l, 1) := by decide +kernel
theorem dX9_code_17 : decode cX9_code 17 = .ok (.ldc2_w 158, 3) := by decide +kernel
theorem dX9_code_20 : decode cX9_code 20 = .ok (.ldc2_w 154, 3) := by decide +kernel
theorem dX9_code_23 : decode cX9_code 23 = .ok (.invokestatic 136, 3) := by decide +kernel
theorem dX9_code_26 : decode cX9_code 26 = .ok (.ifCond .ne 5, 3) := by decide +kernel
theorem dX9_code_29 : decode cX9_code 29 = .ok (.iconst (-1), 1) := by decide +kernel
theorem dX9_code_30 : decode cX9_code 30 = .ok (.ireturn, 1) := by decide +kernel
theorem dX9_code_31 : decode cX9_code 31 = .ok (.iload_n 2, 1) := by decide +kernel
theorem dX9_code_32 : decode cX9_code 32 = .ok (.ifCond .lt 27, 3) := by decide +kernel
theorem dX9_code_35 : decode cX9_code 35 = .ok (.iload_n 1, 1) := by decide +kernel
theorem dX9_code_36 : decode cX9_code 36 = .ok (.ifCond .ne 12, 3) := by decide +kernel
theorem dX9_code_39 : decode cX9_code 39 = .ok (.aload_n 0, 1) := by decide +kernel
theorem dX9_code_40 : decode cX9_code 40 = .ok (.getfield 17, 3) := by decide +kernel
theorem dX9_code_43 : decode cX9_code 43 = .ok (.iload_n 2, 1) := by decide +kernel
theorem dX9_code_44 : decode cX9_code 44 = .ok (.baload, 1) := by decide +kernel
theorem dX9_code_45 : decode cX9_code 45 = .ok (.goto 9, 3) := by decide +kernel
theorem dX9_code_48 : decode cX9_code 48 = .ok (.aload_n 0, 1) := by decide +kernel
theorem dX9_code_49 : decode cX9_code 49 = .ok (.getfield 20, 3) := by decide +kernel
theorem dX9_code_52 : decode cX9_code 52 = .ok (.iload_n 2, 1) := by decide +kernel
theorem dX9_code_53 : decode cX9_code 53 = .ok (.baload, 1) := by decide +kernel
theorem dX9_code_54 : decode cX9_code 54 = .ok (.sipush 255, 3) := by decide +kernel
theorem dX9_code_57 : decode cX9_code 57 = .ok (.iand, 1) := by decide +kernel
theorem dX9_code_58 : decode cX9_code 58 = .ok (.ireturn, 1) := by decide +kernel
theorem dX9_code_59 : decode cX9_code 59 = .ok (.iload_n 1, 1) := by decide +kernel
theorem dX9_code_60 : decode cX9_code 60 = .ok (.ifCond .eq 24, 3) := by decide +kernel
theorem dX9_code_63 : decode cX9_code 63 = .ok (.aload_n 0, 1) := by decide +kernel
theorem dX9_code_64 : decode cX9_code 64 = .ok (.getfield 20, 3) := by decide +kernel
theorem dX9_code_67 : decode cX9_code 67 = .ok (.aload_n 0, 1) := by decide +kernel
theorem dX9_code_68 : decode cX9_code 68 = .ok (.getfield 23, 3) := by decide +kernel
theorem dX9_code_71 : decode cX9_code 71 = .ok (.aload_n 0, 1) := by decide +kernel
theorem dX9_code_72 : decode cX9_code 72 = .ok (.getfield 27, 3) := by decide +kernel
theorem dX9_code_75 : decode cX9_code 75 = .ok (.iadd, 1) := by decide +kernel
theorem dX9_code_76 : decode cX9_code 76 = .ok (.iconst 2, 1) := by decide +kernel
theorem dX9_code_77 : decode cX9_code 77 = .ok (.iadd, 1) := by decide +kernel
theorem dX9_code_78 : decode cX9_code 78 = .ok (.invokestatic 160, 3) := by decide +kernel
theorem dX9_code_81 : decode cX9_code 81 = .ok (.ifCond .eq 7, 3) := by decide +kernel
theorem dX9_code_84 : decode cX9_code 84 = .ok (.iconst 1, 1) := by decide +kernel
theorem dX9_code_85 : decode cX9_code 85 = .ok (.goto 4, 3) := by decide +kernel
theorem dX9_code_88 : decode cX9_code 88 = .ok (.iconst 0, 1) := by decide +kernel
theorem dX9_code_89 : decode cX9_code 89 = .ok (.ireturn, 1) := by decide +kernel
theorem dX9_use_0 : decode cX9_use 0 = .ok (.iconst 0, 1) := by decide +kernel
theorem dX9_use_1 : decode cX9_use 1 = .ok (.istore 4, 2) := by decide +kernel
theorem dX9_use_3 : decode cX9_use 3 = .ok (.iload 4, 2) := by decide +kernel
theorem dX9_use_5 : decode cX9_use 5 = .ok (.sipush 1536, 3) := by decide +kernel
theorem dX9_use_8 : decode cX9_use 8 = .ok (.if_icmp .ge 20, 3) := by decide +kernel
theorem dX9_use_11 : decode cX9_use 11 = .ok (.aload_n 0, 1) := by decide +kernel
theorem dX9_use_12 : decode cX9_use 12 = .ok (.getfield 30, 3) := by decide +kernel
theorem dX9_use_15 : decode cX9_use 15 = .ok (.iload 4, 2) := by decide +kernel
theorem dX9_use_17 : decode cX9_use 17 = .ok (.aload_n 1, 1) := by decide +kernel
theorem dX9_use_18 : decode cX9_use 18 = .ok (.iload 4, 2) := by decide +kernel
theorem dX9_use_20 : decode cX9_use 20 = .ok (.baload, 1) := by decide +kernel
theorem dX9_use_21 : decode cX9_use 21 = .ok (.bastore, 1) := by decide +kernel
theorem dX9_use_22 : decode cX9_use 22 = .ok (.iinc 4 1, 3) := by decide +kernel
theorem dX9_use_25 : decode cX9_use 25 = .ok (.goto (-22), 3) := by decide +kernel
theorem dX9_use_28 : decode cX9_use 28 = .ok (.aload_n 0, 1) := by decide +kernel
theorem dX9_use_29 : decode cX9_use 29 = .ok (.iload_n 2, 1) := by decide +kernel
theorem dX9_use_30 : decode cX9_use 30 = .ok (.putfield 164, 3) := by decide +kernel
theorem dX9_use_33 : decode cX9_use 33 = .ok (.aload_n 0, 1) := by decide +kernel
theorem dX9_use_34 : decode cX9_use 34 = .ok (.iload_n 3, 1) := by decide +kernel
theorem dX9_use_35 : decode cX9_use 35 = .ok (.putfield 167, 3) := by decide +kernel
theorem dX9_use_38 : decode cX9_use 38 = .ok (.return_, 1) := by decide +kernel
theorem dX9_kindOf_0 : decode cX9_kindOf 0 = .ok (.aload_n 0, 1) := by decide +kernel
theorem dX9_kindOf_1 : decode cX9_kindOf 1 = .ok (.getfield 30, 3) := by decide +kernel
theorem dX9_kindOf_4 : decode cX9_kindOf 4 = .ok (.sipush 256, 3) := by decide +kernel
theorem dX9_kindOf_7 : decode cX9_kindOf 7 = .ok (.iload_n 2, 1) := by decide +kernel
theorem dX9_kindOf_8 : decode cX9_kindOf 8 = .ok (.imul, 1) := by decide +kernel
theorem dX9_kindOf_9 : decode cX9_kindOf 9 = .ok (.iload_n 1, 1) := by decide +kernel
theorem dX9_kindOf_10 : decode cX9_kindOf 10 = .ok (.iadd, 1) := by decide +kernel
theorem dX9_kindOf_11 : decode cX9_kindOf 11 = .ok (.baload, 1) := by decide +kernel
theorem dX9_kindOf_12 : decode cX9_kindOf 12 = .ok (.ireturn, 1) := by decide +kernel
theorem dX9_sizeOf_0 : decode cX9_sizeOf 0 = .ok (.aload_n 0, 1) := by decide +kernel
theorem dX9_sizeOf_1 : decode cX9_sizeOf 1 = .ok (.getfield 30, 3) := by decide +kernel
theorem dX9_sizeOf_4 : decode cX9_sizeOf 4 = .ok (.sipush 512, 3) := by decide +kernel
theorem dX9_sizeOf_7 : decode cX9_sizeOf 7 = .ok (.sipush 256, 3) := by decide +kernel
theorem dX9_sizeOf_10 : decode cX9_sizeOf 10 = .ok (.iload_n 2, 1) := by decide +kernel
theorem dX9_sizeOf_11 : decode cX9_sizeOf 11 = .ok (.imul, 1) := by decide +kernel
theorem dX9_sizeOf_12 : decode cX9_sizeOf 12 = .ok (.iadd, 1) := by decide +kernel
theorem dX9_sizeOf_13 : decode cX9_sizeOf 13 = .ok (.iload_n 1, 1) := by decide +kernel
theorem dX9_sizeOf_14 : decode cX9_sizeOf 14 = .ok (.iadd, 1) := by decide +kernel
theorem dX9_sizeOf_15 : decode cX9_sizeOf 15 = .ok (.baload, 1) := by decide +kernel
theorem dX9_sizeOf_16 : decode cX9_sizeOf 16 = .ok (.sipush 255, 3) := by decide +kernel
theorem dX9_sizeOf_19 : decode cX9_sizeOf 19 = .ok (.iand, 1) := by decide +kernel
theorem dX9_sizeOf_20 : decode cX9_sizeOf 20 = .ok (.ireturn, 1) := by decide +kernel
theorem dX9_modeOf_0 : decode cX9_modeOf 0 = .ok (.aload_n 0, 1) := by decide +kernel
theorem dX9_modeOf_1 : decode cX9_modeOf 1 = .ok (.getfield 30, 3) := by decide +kernel
theorem dX9_modeOf_4 : decode cX9_modeOf 4 = .ok (.sipush 1024, 3) := by decide +kernel
theorem dX9_modeOf_7 : decode cX9_modeOf 7 = .ok (.sipush 256, 3) := by decide +kernel
theorem dX9_modeOf_10 : decode cX9_modeOf 10 = .ok (.iload_n 2, 1) := by decide +kernel
theorem dX9_modeOf_11 : decode cX9_modeOf 11 = .ok (.imul, 1) := by decide +kernel
theorem dX9_modeOf_12 : decode cX9_modeOf 12 = .ok (.iadd, 1) := by decide +kernel
theorem dX9_modeOf_13 : decode cX9_modeOf 13 = .ok (.iload_n 1, 1) := by decide +kernel
theorem dX9_modeOf_14 : decode cX9_modeOf 14 = .ok (.iadd, 1) := by decide +kernel
theorem dX9_modeOf_15 : decode cX9_modeOf 15 = .ok (.baload, 1) := by decide +kernel
theorem dX9_modeOf_16 : decode cX9_modeOf 16 = .ok (.sipush 255, 3) := by decide +kernel
theorem dX9_modeOf_19 : decode cX9_modeOf 19 = .ok (.iand, 1) := by decide +kernel
theorem dX9_modeOf_20 : decode cX9_modeOf 20 = .ok (.ireturn, 1) := by decide +kernel
theorem dX9_clearCaches_0 : decode cX9_clearCaches 0 = .ok (.aload_n 0, 1) := by decide +kernel
theorem dX9_clearCaches_1 : decode cX9_clearCaches 1 = .ok (.iconst 0, 1) := by decide +kernel
theorem dX9_clearCaches_2 : decode cX9_clearCaches 2 = .ok (.putfield 170, 3) := by decide +kernel
theorem dX9_clearCaches_5 : decode cX9_clearCaches 5 = .ok (.iconst 0, 1) := by decide +kernel
theorem dX9_clearCaches_6 : decode cX9_clearCaches 6 = .ok (.istore_n 1, 1) := by decide +kernel
theorem dX9_clearCaches_7 : decode cX9_clearCaches 7 = .ok (.iload_n 1, 1) := by decide +kernel
theorem dX9_clearCaches_8 : decode cX9_clearCaches 8 = .ok (.bipush 8, 2) := by decide +kernel
theorem dX9_clearCaches_10 : decode cX9_clearCaches 10 = .ok (.if_icmp .ge 16, 3) := by decide +kernel
theorem dX9_clearCaches_13 : decode cX9_clearCaches 13 = .ok (.aload_n 0, 1) := by decide +kernel
theorem dX9_clearCaches_14 : decode cX9_clearCaches 14 = .ok (.getfield 33, 3) := by decide +kernel
theorem dX9_clearCaches_17 : decode cX9_clearCaches 17 = .ok (.iload_n 1, 1) := by decide +kernel
theorem dX9_clearCaches_18 : decode cX9_clearCaches 18 = .ok (.lconst 0, 1) := by decide +kernel
theorem dX9_clearCaches_19 : decode cX9_clearCaches 19 = .ok (.lastore, 1) := by decide +kernel
theorem dX9_clearCaches_20 : decode cX9_clearCaches 20 = .ok (.iinc 1 1, 3) := by decide +kernel
theorem dX9_clearCaches_23 : decode cX9_clearCaches 23 = .ok (.goto (-16), 3) := by decide +kernel
theorem dX9_clearCaches_26 : decode cX9_clearCaches 26 = .ok (.iconst 0, 1) := by decide +kernel
theorem dX9_clearCaches_27 : decode cX9_clearCaches 27 = .ok (.istore_n 1, 1) := by decide +kernel
theorem dX9_clearCaches_28 : decode cX9_clearCaches 28 = .ok (.iload_n 1, 1) := by decide +kernel
theorem dX9_clearCaches_29 : decode cX9_clearCaches 29 = .ok (.sipush 1024, 3) := by decide +kernel
theorem dX9_clearCaches_32 : decode cX9_clearCaches 32 = .ok (.if_icmp .ge 16, 3) := by decide +kernel
theorem dX9_clearCaches_35 : decode cX9_clearCaches 35 = .ok (.aload_n 0, 1) := by decide +kernel
theorem dX9_clearCaches_36 : decode cX9_clearCaches 36 = .ok (.getfield 37, 3) := by decide +kernel
theorem dX9_clearCaches_39 : decode cX9_clearCaches 39 = .ok (.iload_n 1, 1) := by decide +kernel
theorem dX9_clearCaches_40 : decode cX9_clearCaches 40 = .ok (.lconst 0, 1) := by decide +kernel
theorem dX9_clearCaches_41 : decode cX9_clearCaches 41 = .ok (.lastore, 1) := by decide +kernel
theorem dX9_clearCaches_42 : decode cX9_clearCaches 42 = .ok (.iinc 1 1, 3) := by decide +kernel
theorem dX9_clearCaches_45 : decode cX9_clearCaches 45 = .ok (.goto (-17), 3) := by decide +kernel
theorem dX9_clearCaches_48 : decode cX9_clearCaches 48 = .ok (.return_, 1) := by decide +kernel
theorem dX9_remember_0 : decode cX9_remember 0 = .ok (.aload_n 0, 1) := by decide +kernel
theorem dX9_remember_1 : decode cX9_remember 1 = .ok (.getfield 164, 3) := by decide +kernel
theorem dX9_remember_4 : decode cX9_remember 4 = .ok (.ifCond .le 28, 3) := by decide +kernel
theorem dX9_remember_7 : decode cX9_remember 7 = .ok (.aload_n 0, 1) := by decide +kernel
theorem dX9_remember_8 : decode cX9_remember 8 = .ok (.getfield 33, 3) := by decide +kernel
theorem dX9_remember_11 : decode cX9_remember 11 = .ok (.aload_n 0, 1) := by decide +kernel
theorem dX9_remember_12 : decode cX9_remember 12 = .ok (.getfield 170, 3) := by decide +kernel
theorem dX9_remember_15 : decode cX9_remember 15 = .ok (.lload_n 1, 1) := by decide +kernel
theorem dX9_remember_16 : decode cX9_remember 16 = .ok (.lastore, 1) := by decide +kernel
theorem dX9_remember_17 : decode cX9_remember 17 = .ok (.aload_n 0, 1) := by decide +kernel
theorem dX9_remember_18 : decode cX9_remember 18 = .ok (.aload_n 0, 1) := by decide +kernel
theorem dX9_remember_19 : decode cX9_remember 19 = .ok (.getfield 170, 3) := by decide +kernel
theorem dX9_remember_22 : decode cX9_remember 22 = .ok (.iconst 1, 1) := by decide +kernel
theorem dX9_remember_23 : decode cX9_remember 23 = .ok (.iadd, 1) := by decide +kernel
theorem dX9_remember_24 : decode cX9_remember 24 = .ok (.aload_n 0, 1) := by decide +kernel
theorem dX9_remember_25 : decode cX9_remember 25 = .ok (.getfield 164, 3) := by decide +kernel
theorem dX9_remember_28 : decode cX9_remember 28 = .ok (.irem, 1) := by decide +kernel
theorem dX9_remember_29 : decode cX9_remember 29 = .ok (.putfield 170, 3) := by decide +kernel
theorem dX9_remember_32 : decode cX9_remember 32 = .ok (.aload_n 0, 1) := by decide +kernel
theorem dX9_remember_33 : decode cX9_remember 33 = .ok (.getfield 167, 3) := by decide +kernel
theorem dX9_remember_36 : decode cX9_remember 36 = .ok (.ifCond .le 21, 3) := by decide +kernel
theorem dX9_remember_39 : decode cX9_remember 39 = .ok (.aload_n 0, 1) := by decide +kernel
theorem dX9_remember_40 : decode cX9_remember 40 = .ok (.getfield 37, 3) := by decide +kernel
theorem dX9_remember_43 : decode cX9_remember 43 = .ok (.lload_n 1, 1) := by decide +kernel
theorem dX9_remember_44 : decode cX9_remember 44 = .ok (.sipush 256, 3) := by decide +kernel
theorem dX9_remember_47 : decode cX9_remember 47 = .ok (.aload_n 0, 1) := by decide +kernel
theorem dX9_remember_48 : decode cX9_remember 48 = .ok (.getfield 167, 3) := by decide +kernel
theorem dX9_remember_51 : decode cX9_remember 51 = .ok (.imul, 1) := by decide +kernel
theorem dX9_remember_52 : decode cX9_remember 52 = .ok (.i2l, 1) := by decide +kernel
theorem dX9_remember_53 : decode cX9_remember 53 = .ok (.lrem, 1) := by decide +kernel
theorem dX9_remember_54 : decode cX9_remember 54 = .ok (.l2i, 1) := by decide +kernel
theorem dX9_remember_55 : decode cX9_remember 55 = .ok (.lload_n 1, 1) := by decide +kernel
theorem dX9_remember_56 : decode cX9_remember 56 = .ok (.lastore, 1) := by decide +kernel
theorem dX9_remember_57 : decode cX9_remember 57 = .ok (.return_, 1) := by decide +kernel
theorem dX9_list_0 : decode cX9_list 0 = .ok (.aload_n 0, 1) := by decide +kernel
theorem dX9_list_1 : decode cX9_list 1 = .ok (.getfield 173, 3) := by decide +kernel
theorem dX9_list_4 : decode cX9_list 4 = .ok (.sipush 4000, 3) := by decide +kernel
theorem dX9_list_7 : decode cX9_list 7 = .ok (.if_icmp .ge 66, 3) := by decide +kernel
theorem dX9_list_10 : decode cX9_list 10 = .ok (.aload_n 0, 1) := by decide +kernel
theorem dX9_list_11 : decode cX9_list 11 = .ok (.getfield 58, 3) := by decide +kernel
theorem dX9_list_14 : decode cX9_list 14 = .ok (.aload_n 0, 1) := by decide +kernel
theorem dX9_list_15 : decode cX9_list 15 = .ok (.getfield 173, 3) := by decide +kernel
theorem dX9_list_18 : decode cX9_list 18 = .ok (.iload_n 1, 1) := by decide +kernel
theorem dX9_list_19 : decode cX9_list 19 = .ok (.iastore, 1) := by decide +kernel
theorem dX9_list_20 : decode cX9_list 20 = .ok (.aload_n 0, 1) := by decide +kernel
theorem dX9_list_21 : decode cX9_list 21 = .ok (.getfield 61, 3) := by decide +kernel
theorem dX9_list_24 : decode cX9_list 24 = .ok (.aload_n 0, 1) := by decide +kernel
theorem dX9_list_25 : decode cX9_list 25 = .ok (.getfield 173, 3) := by decide +kernel
theorem dX9_list_28 : decode cX9_list 28 = .ok (.iload_n 2, 1) := by decide +kernel
theorem dX9_list_29 : decode cX9_list 29 = .ok (.iastore, 1) := by decide +kernel
theorem dX9_list_30 : decode cX9_list 30 = .ok (.aload_n 0, 1) := by decide +kernel
theorem dX9_list_31 : decode cX9_list 31 = .ok (.getfield 64, 3) := by decide +kernel
theorem dX9_list_34 : decode cX9_list 34 = .ok (.aload_n 0, 1) := by decide +kernel
theorem dX9_list_35 : decode cX9_list 35 = .ok (.getfield 173, 3) := by decide +kernel
theorem dX9_list_38 : decode cX9_list 38 = .ok (.iload_n 3, 1) := by decide +kernel
theorem dX9_list_39 : decode cX9_list 39 = .ok (.iastore, 1) := by decide +kernel
theorem dX9_list_40 : decode cX9_list 40 = .ok (.aload_n 0, 1) := by decide +kernel
theorem dX9_list_41 : decode cX9_list 41 = .ok (.getfield 67, 3) := by decide +kernel
theorem dX9_list_44 : decode cX9_list 44 = .ok (.aload_n 0, 1) := by decide +kernel
theorem dX9_list_45 : decode cX9_list 45 = .ok (.getfield 173, 3) := by decide +kernel
theorem dX9_list_48 : decode cX9_list 48 = .ok (.iload 4, 2) := by decide +kernel
theorem dX9_list_50 : decode cX9_list 50 = .ok (.iastore, 1) := by decide +kernel
theorem dX9_list_51 : decode cX9_list 51 = .ok (.aload_n 0, 1) := by decide +kernel
theorem dX9_list_52 : decode cX9_list 52 = .ok (.getfield 70, 3) := by decide +kernel
theorem dX9_list_55 : decode cX9_list 55 = .ok (.aload_n 0, 1) := by decide +kernel
theorem dX9_list_56 : decode cX9_list 56 = .ok (.getfield 173, 3) := by decide +kernel
theorem dX9_list_59 : decode cX9_list 59 = .ok (.iload 5, 2) := by decide +kernel
theorem dX9_list_61 : decode cX9_list 61 = .ok (.iastore, 1) := by decide +kernel
theorem dX9_list_62 : decode cX9_list 62 = .ok (.aload_n 0, 1) := by decide +kernel
theorem dX9_list_63 : decode cX9_list 63 = .ok (.getfield 73, 3) := by decide +kernel
theorem dX9_list_66 : decode cX9_list 66 = .ok (.aload_n 0, 1) := by decide +kernel
theorem dX9_list_67 : decode cX9_list 67 = .ok (.getfield 173, 3) := by decide +kernel
theorem dX9_list_70 : decode cX9_list 70 = .ok (.iload 6, 2) := by decide +kernel
theorem dX9_list_72 : decode cX9_list 72 = .ok (.iastore, 1) := by decide +kernel
theorem dX9_list_73 : decode cX9_list 73 = .ok (.aload_n 0, 1) := by decide +kernel
theorem dX9_list_74 : decode cX9_list 74 = .ok (.dup, 1) := by decide +kernel
theorem dX9_list_75 : decode cX9_list 75 = .ok (.getfield 173, 3) := by decide +kernel
theorem dX9_list_78 : decode cX9_list 78 = .ok (.iconst 1, 1) := by decide +kernel
theorem dX9_list_79 : decode cX9_list 79 = .ok (.iadd, 1) := by decide +kernel
theorem dX9_list_80 : decode cX9_list 80 = .ok (.putfield 173, 3) := by decide +kernel
theorem dX9_list_83 : decode cX9_list 83 = .ok (.return_, 1) := by decide +kernel
theorem dX9_publish_0 : decode cX9_publish 0 = .ok (.aload_n 0, 1) := by decide +kernel
theorem dX9_publish_1 : decode cX9_publish 1 = .ok (.aload_n 0, 1) := by decide +kernel
theorem dX9_publish_2 : decode cX9_publish 2 = .ok (.getfield 173, 3) := by decide +kernel
theorem dX9_publish_5 : decode cX9_publish 5 = .ok (.sipush 4000, 3) := by decide +kernel
theorem dX9_publish_8 : decode cX9_publish 8 = .ok (.if_icmp .ge 10, 3) := by decide +kernel
theorem dX9_publish_11 : decode cX9_publish 11 = .ok (.aload_n 0, 1) := by decide +kernel
theorem dX9_publish_12 : decode cX9_publish 12 = .ok (.getfield 173, 3) := by decide +kernel
theorem dX9_publish_15 : decode cX9_publish 15 = .ok (.goto 6, 3) := by decide +kernel
theorem dX9_publish_18 : decode cX9_publish 18 = .ok (.sipush 4000, 3) := by decide +kernel
theorem dX9_publish_21 : decode cX9_publish 21 = .ok (.putfield 176, 3) := by decide +kernel
theorem dX9_publish_24 : decode cX9_publish 24 = .ok (.iconst 0, 1) := by decide +kernel
theorem dX9_publish_25 : decode cX9_publish 25 = .ok (.istore_n 1, 1) := by decide +kernel
theorem dX9_publish_26 : decode cX9_publish 26 = .ok (.iload_n 1, 1) := by decide +kernel
theorem dX9_publish_27 : decode cX9_publish 27 = .ok (.aload_n 0, 1) := by decide +kernel
theorem dX9_publish_28 : decode cX9_publish 28 = .ok (.getfield 176, 3) := by decide +kernel
theorem dX9_publish_31 : decode cX9_publish 31 = .ok (.if_icmp .ge 81, 3) := by decide +kernel
theorem dX9_publish_34 : decode cX9_publish 34 = .ok (.aload_n 0, 1) := by decide +kernel
theorem dX9_publish_35 : decode cX9_publish 35 = .ok (.getfield 40, 3) := by decide +kernel
theorem dX9_publish_38 : decode cX9_publish 38 = .ok (.iload_n 1, 1) := by decide +kernel
theorem dX9_publish_39 : decode cX9_publish 39 = .ok (.aload_n 0, 1) := by decide +kernel
theorem dX9_publish_40 : decode cX9_publish 40 = .ok (.getfield 58, 3) := by decide +kernel
theorem dX9_publish_43 : decode cX9_publish 43 = .ok (.iload_n 1, 1) := by decide +kernel
theorem dX9_publish_44 : decode cX9_publish 44 = .ok (.iaload, 1) := by decide +kernel
theorem dX9_publish_45 : decode cX9_publish 45 = .ok (.iastore, 1) := by decide +kernel
theorem dX9_publish_46 : decode cX9_publish 46 = .ok (.aload_n 0, 1) := by decide +kernel
theorem dX9_publish_47 : decode cX9_publish 47 = .ok (.getfield 43, 3) := by decide +kernel
theorem dX9_publish_50 : decode cX9_publish 50 = .ok (.iload_n 1, 1) := by decide +kernel
theorem dX9_publish_51 : decode cX9_publish 51 = .ok (.aload_n 0, 1) := by decide +kernel
theorem dX9_publish_52 : decode cX9_publish 52 = .ok (.getfield 61, 3) := by decide +kernel
theorem dX9_publish_55 : decode cX9_publish 55 = .ok (.iload_n 1, 1) := by decide +kernel
theorem dX9_publish_56 : decode cX9_publish 56 = .ok (.iaload, 1) := by decide +kernel
theorem dX9_publish_57 : decode cX9_publish 57 = .ok (.iastore, 1) := by decide +kernel
theorem dX9_publish_58 : decode cX9_publish 58 = .ok (.aload_n 0, 1) := by decide +kernel
theorem dX9_publish_59 : decode cX9_publish 59 = .ok (.getfield 46, 3) := by decide +kernel
theorem dX9_publish_62 : decode cX9_publish 62 = .ok (.iload_n 1, 1) := by decide +kernel
theorem dX9_publish_63 : decode cX9_publish 63 = .ok (.aload_n 0, 1) := by decide +kernel
theorem dX9_publish_64 : decode cX9_publish 64 = .ok (.getfield 64, 3) := by decide +kernel
theorem dX9_publish_67 : decode cX9_publish 67 = .ok (.iload_n 1, 1) := by decide +kernel
theorem dX9_publish_68 : decode cX9_publish 68 = .ok (.iaload, 1) := by decide +kernel
theorem dX9_publish_69 : decode cX9_publish 69 = .ok (.iastore, 1) := by decide +kernel
theorem dX9_publish_70 : decode cX9_publish 70 = .ok (.aload_n 0, 1) := by decide +kernel
theorem dX9_publish_71 : decode cX9_publish 71 = .ok (.getfield 49, 3) := by decide +kernel
theorem dX9_publish_74 : decode cX9_publish 74 = .ok (.iload_n 1, 1) := by decide +kernel
theorem dX9_publish_75 : decode cX9_publish 75 = .ok (.aload_n 0, 1) := by decide +kernel
theorem dX9_publish_76 : decode cX9_publish 76 = .ok (.getfield 67, 3) := by decide +kernel
theorem dX9_publish_79 : decode cX9_publish 79 = .ok (.iload_n 1, 1) := by decide +kernel
theorem dX9_publish_80 : decode cX9_publish 80 = .ok (.iaload, 1) := by decide +kernel
theorem dX9_publish_81 : decode cX9_publish 81 = .ok (.iastore, 1) := by decide +kernel
theorem dX9_publish_82 : decode cX9_publish 82 = .ok (.aload_n 0, 1) := by decide +kernel
theorem dX9_publish_83 : decode cX9_publish 83 = .ok (.getfield 52, 3) := by decide +kernel
theorem dX9_publish_86 : decode cX9_publish 86 = .ok (.iload_n 1, 1) := by decide +kernel
theorem dX9_publish_87 : decode cX9_publish 87 = .ok (.aload_n 0, 1) := by decide +kernel
theorem dX9_publish_88 : decode cX9_publish 88 = .ok (.getfield 70, 3) := by decide +kernel
theorem dX9_publish_91 : decode cX9_publish 91 = .ok (.iload_n 1, 1) := by decide +kernel
theorem dX9_publish_92 : decode cX9_publish 92 = .ok (.iaload, 1) := by decide +kernel
theorem dX9_publish_93 : decode cX9_publish 93 = .ok (.iastore, 1) := by decide +kernel
theorem dX9_publish_94 : decode cX9_publish 94 = .ok (.aload_n 0, 1) := by decide +kernel
theorem dX9_publish_95 : decode cX9_publish 95 = .ok (.getfield 55, 3) := by decide +kernel
theorem dX9_publish_98 : decode cX9_publish 98 = .ok (.iload_n 1, 1) := by decide +kernel
theorem dX9_publish_99 : decode cX9_publish 99 = .ok (.aload_n 0, 1) := by decide +kernel
theorem dX9_publish_100 : decode cX9_publish 100 = .ok (.getfield 73, 3) := by decide +kernel
theorem dX9_publish_103 : decode cX9_publish 103 = .ok (.iload_n 1, 1) := by decide +kernel
theorem dX9_publish_104 : decode cX9_publish 104 = .ok (.iaload, 1) := by decide +kernel
theorem dX9_publish_105 : decode cX9_publish 105 = .ok (.iastore, 1) := by decide +kernel
theorem dX9_publish_106 : decode cX9_publish 106 = .ok (.iinc 1 1, 3) := by decide +kernel
theorem dX9_publish_109 : decode cX9_publish 109 = .ok (.goto (-83), 3) := by decide +kernel
theorem dX9_publish_112 : decode cX9_publish 112 = .ok (.return_, 1) := by decide +kernel
theorem dX9_fail_0 : decode cX9_fail 0 = .ok (.aload_n 0, 1) := by decide +kernel
theorem dX9_fail_1 : decode cX9_fail 1 = .ok (.getfield 179, 3) := by decide +kernel
theorem dX9_fail_4 : decode cX9_fail 4 = .ok (.ifCond .ne 13, 3) := by decide +kernel
theorem dX9_fail_7 : decode cX9_fail 7 = .ok (.aload_n 0, 1) := by decide +kernel
theorem dX9_fail_8 : decode cX9_fail 8 = .ok (.iload_n 1, 1) := by decide +kernel
theorem dX9_fail_9 : decode cX9_fail 9 = .ok (.putfield 179, 3) := by decide +kernel
theorem dX9_fail_12 : decode cX9_fail 12 = .ok (.aload_n 0, 1) := by decide +kernel
theorem dX9_fail_13 : decode cX9_fail 13 = .ok (.iload_n 2, 1) := by decide +kernel
theorem dX9_fail_14 : decode cX9_fail 14 = .ok (.putfield 182, 3) := by decide +kernel
theorem dX9_fail_17 : decode cX9_fail 17 = .ok (.return_, 1) := by decide +kernel
theorem dX9_take_0 : decode cX9_take 0 = .ok (.aload_n 0, 1) := by decide +kernel
theorem dX9_take_1 : decode cX9_take 1 = .ok (.getfield 179, 3) := by decide +kernel
theorem dX9_take_4 : decode cX9_take 4 = .ok (.ifCond .le 5, 3) := by decide +kernel
theorem dX9_take_7 : decode cX9_take 7 = .ok (.iconst 0, 1) := by decide +kernel
theorem dX9_take_8 : decode cX9_take 8 = .ok (.ireturn, 1) := by decide +kernel
theorem dX9_take_9 : decode cX9_take 9 = .ok (.aload_n 0, 1) := by decide +kernel
theorem dX9_take_10 : decode cX9_take 10 = .ok (.getfield 185, 3) := by decide +kernel
theorem dX9_take_13 : decode cX9_take 13 = .ok (.aload_n 0, 1) := by decide +kernel
theorem dX9_take_14 : decode cX9_take 14 = .ok (.getfield 188, 3) := by decide +kernel
theorem dX9_take_17 : decode cX9_take 17 = .ok (.if_icmp .lt 14, 3) := by decide +kernel
theorem dX9_take_20 : decode cX9_take 20 = .ok (.aload_n 0, 1) := by decide +kernel
theorem dX9_take_21 : decode cX9_take 21 = .ok (.iconst 1, 1) := by decide +kernel
theorem dX9_take_22 : decode cX9_take 22 = .ok (.aload_n 0, 1) := by decide +kernel
theorem dX9_take_23 : decode cX9_take 23 = .ok (.getfield 188, 3) := by decide +kernel
theorem dX9_take_26 : decode cX9_take 26 = .ok (.invokevirtual 191, 3) := by decide +kernel
theorem dX9_take_29 : decode cX9_take 29 = .ok (.iconst 0, 1) := by decide +kernel
theorem dX9_take_30 : decode cX9_take 30 = .ok (.ireturn, 1) := by decide +kernel
theorem dX9_take_31 : decode cX9_take 31 = .ok (.aload_n 0, 1) := by decide +kernel
theorem dX9_take_32 : decode cX9_take 32 = .ok (.dup, 1) := by decide +kernel
theorem dX9_take_33 : decode cX9_take 33 = .ok (.getfield 185, 3) := by decide +kernel
theorem dX9_take_36 : decode cX9_take 36 = .ok (.iconst 1, 1) := by decide +kernel
theorem dX9_take_37 : decode cX9_take 37 = .ok (.iadd, 1) := by decide +kernel
theorem dX9_take_38 : decode cX9_take 38 = .ok (.putfield 185, 3) := by decide +kernel
theorem dX9_take_41 : decode cX9_take 41 = .ok (.aload_n 0, 1) := by decide +kernel
theorem dX9_take_42 : decode cX9_take 42 = .ok (.getfield 7, 3) := by decide +kernel
theorem dX9_take_45 : decode cX9_take 45 = .ok (.aload_n 0, 1) := by decide +kernel
theorem dX9_take_46 : decode cX9_take 46 = .ok (.getfield 195, 3) := by decide +kernel
theorem dX9_take_49 : decode cX9_take 49 = .ok (.aload_n 0, 1) := by decide +kernel
theorem dX9_take_50 : decode cX9_take 50 = .ok (.getfield 185, 3) := by decide +kernel
theorem dX9_take_53 : decode cX9_take 53 = .ok (.iadd, 1) := by decide +kernel
theorem dX9_take_54 : decode cX9_take 54 = .ok (.iconst 1, 1) := by decide +kernel
theorem dX9_take_55 : decode cX9_take 55 = .ok (.isub, 1) := by decide +kernel
theorem dX9_take_56 : decode cX9_take 56 = .ok (.baload, 1) := by decide +kernel
theorem dX9_take_57 : decode cX9_take 57 = .ok (.sipush 255, 3) := by decide +kernel
theorem dX9_take_60 : decode cX9_take 60 = .ok (.iand, 1) := by decide +kernel
theorem dX9_take_61 : decode cX9_take 61 = .ok (.ireturn, 1) := by decide +kernel
theorem dX9_number_0 : decode cX9_number 0 = .ok (.aload_n 0, 1) := by decide +kernel
theorem dX9_number_1 : decode cX9_number 1 = .ok (.getfield 185, 3) := by decide +kernel
theorem dX9_number_4 : decode cX9_number 4 = .ok (.istore_n 1, 1) := by decide +kernel
theorem dX9_number_5 : decode cX9_number 5 = .ok (.lconst 0, 1) := by decide +kernel
theorem dX9_number_6 : decode cX9_number 6 = .ok (.lstore_n 2, 1) := by decide +kernel
theorem dX9_number_7 : decode cX9_number 7 = .ok (.sipush 128, 3) := by decide +kernel
theorem dX9_number_10 : decode cX9_number 10 = .ok (.istore 4, 2) := by decide +kernel
theorem dX9_number_12 : decode cX9_number 12 = .ok (.iconst 0, 1) := by decide +kernel
theorem dX9_number_13 : decode cX9_number 13 = .ok (.istore 5, 2) := by decide +kernel
theorem dX9_number_15 : decode cX9_number 15 = .ok (.iload 5, 2) := by decide +kernel
theorem dX9_number_17 : decode cX9_number 17 = .ok (.iconst 5, 1) := by decide +kernel
theorem dX9_number_18 : decode cX9_number 18 = .ok (.if_icmp .ge 35, 3) := by decide +kernel
theorem dX9_number_21 : decode cX9_number 21 = .ok (.iload 4, 2) := by decide +kernel
theorem dX9_number_23 : decode cX9_number 23 = .ok (.sipush 128, 3) := by decide +kernel
theorem dX9_number_26 : decode cX9_number 26 = .ok (.if_icmp .lt 27, 3) := by decide +kernel
theorem dX9_number_29 : decode cX9_number 29 = .ok (.aload_n 0, 1) := by decide +kernel
theorem dX9_number_30 : decode cX9_number 30 = .ok (.invokevirtual 198, 3) := by decide +kernel
theorem dX9_number_33 : decode cX9_number 33 = .ok (.istore 4, 2) := by decide +kernel
theorem dX9_number_35 : decode cX9_number 35 = .ok (.lload_n 2, 1) := by decide +kernel
theorem dX9_number_36 : decode cX9_number 36 = .ok (.bipush 7, 2) := by decide +kernel
theorem dX9_number_38 : decode cX9_number 38 = .ok (.lshl, 1) := by decide +kernel
theorem dX9_number_39 : decode cX9_number 39 = .ok (.iload 4, 2) := by decide +kernel
theorem dX9_number_41 : decode cX9_number 41 = .ok (.bipush 127, 2) := by decide +kernel
theorem dX9_number_43 : decode cX9_number 43 = .ok (.iand, 1) := by decide +kernel
theorem dX9_number_44 : decode cX9_number 44 = .ok (.i2l, 1) := by decide +kernel
theorem dX9_number_45 : decode cX9_number 45 = .ok (.lor, 1) := by decide +kernel
theorem dX9_number_46 : decode cX9_number 46 = .ok (.lstore_n 2, 1) := by decide +kernel
theorem dX9_number_47 : decode cX9_number 47 = .ok (.iinc 5 1, 3) := by decide +kernel
theorem dX9_number_50 : decode cX9_number 50 = .ok (.goto (-35), 3) := by decide +kernel
theorem dX9_number_53 : decode cX9_number 53 = .ok (.aload_n 0, 1) := by decide +kernel
theorem dX9_number_54 : decode cX9_number 54 = .ok (.getfield 179, 3) := by decide +kernel
theorem dX9_number_57 : decode cX9_number 57 = .ok (.ifCond .ne 25, 3) := by decide +kernel
theorem dX9_number_60 : decode cX9_number 60 = .ok (.iload 4, 2) := by decide +kernel
theorem dX9_number_62 : decode cX9_number 62 = .ok (.sipush 128, 3) := by decide +kernel
theorem dX9_number_65 : decode cX9_number 65 = .ok (.if_icmp .ge 11, 3) := by decide +kernel
theorem dX9_number_68 : decode cX9_number 68 = .ok (.lload_n 2, 1) := by decide +kernel
theorem dX9_number_69 : decode cX9_number 69 = .ok (.ldc2_w 202, 3) := by decide +kernel
theorem dX9_number_72 : decode cX9_number 72 = .ok (.lcmp, 1) := by decide +kernel
theorem dX9_number_73 : decode cX9_number 73 = .ok (.ifCond .le 9, 3) := by decide +kernel
theorem dX9_number_76 : decode cX9_number 76 = .ok (.aload_n 0, 1) := by decide +kernel
theorem dX9_number_77 : decode cX9_number 77 = .ok (.iconst 4, 1) := by decide +kernel
theorem dX9_number_78 : decode cX9_number 78 = .ok (.iload_n 1, 1) := by decide +kernel
theorem dX9_number_79 : decode cX9_number 79 = .ok (.invokevirtual 191, 3) := by decide +kernel
theorem dX9_number_82 : decode cX9_number 82 = .ok (.lload_n 2, 1) := by decide +kernel
theorem dX9_number_83 : decode cX9_number 83 = .ok (.lreturn, 1) := by decide +kernel
theorem dX9_fourOctets_0 : decode cX9_fourOctets 0 = .ok (.iconst 0, 1) := by decide +kernel
theorem dX9_fourOctets_1 : decode cX9_fourOctets 1 = .ok (.istore_n 1, 1) := by decide +kernel
theorem dX9_fourOctets_2 : decode cX9_fourOctets 2 = .ok (.iload_n 1, 1) := by decide +kernel
theorem dX9_fourOctets_3 : decode cX9_fourOctets 3 = .ok (.iconst 4, 1) := by decide +kernel
theorem dX9_fourOctets_4 : decode cX9_fourOctets 4 = .ok (.if_icmp .ge 69, 3) := by decide +kernel
theorem dX9_fourOctets_7 : decode cX9_fourOctets 7 = .ok (.aload_n 0, 1) := by decide +kernel
theorem dX9_fourOctets_8 : decode cX9_fourOctets 8 = .ok (.getfield 185, 3) := by decide +kernel
theorem dX9_fourOctets_11 : decode cX9_fourOctets 11 = .ok (.istore_n 2, 1) := by decide +kernel
theorem dX9_fourOctets_12 : decode cX9_fourOctets 12 = .ok (.aload_n 0, 1) := by decide +kernel
theorem dX9_fourOctets_13 : decode cX9_fourOctets 13 = .ok (.invokevirtual 198, 3) := by decide +kernel
theorem dX9_fourOctets_16 : decode cX9_fourOctets 16 = .ok (.istore_n 3, 1) := by decide +kernel
theorem dX9_fourOctets_17 : decode cX9_fourOctets 17 = .ok (.aload_n 0, 1) := by decide +kernel
theorem dX9_fourOctets_18 : decode cX9_fourOctets 18 = .ok (.getfield 179, 3) := by decide +kernel
theorem dX9_fourOctets_21 : decode cX9_fourOctets 21 = .ok (.ifCond .ne 46, 3) := by decide +kernel
theorem dX9_fourOctets_24 : decode cX9_fourOctets 24 = .ok (.iload_n 3, 1) := by decide +kernel
theorem dX9_fourOctets_25 : decode cX9_fourOctets 25 = .ok (.iload_n 1, 1) := by decide +kernel
theorem dX9_fourOctets_26 : decode cX9_fourOctets 26 = .ok (.ifCond .ne 9, 3) := by decide +kernel
theorem dX9_fourOctets_29 : decode cX9_fourOctets 29 = .ok (.sipush 214, 3) := by decide +kernel
theorem dX9_fourOctets_32 : decode cX9_fourOctets 32 = .ok (.goto 26, 3) := by decide +kernel
theorem dX9_fourOctets_35 : decode cX9_fourOctets 35 = .ok (.iload_n 1, 1) := by decide +kernel
theorem dX9_fourOctets_36 : decode cX9_fourOctets 36 = .ok (.iconst 1, 1) := by decide +kernel
theorem dX9_fourOctets_37 : decode cX9_fourOctets 37 = .ok (.if_icmp .ne 9, 3) := by decide +kernel
theorem dX9_fourOctets_40 : decode cX9_fourOctets 40 = .ok (.sipush 195, 3) := by decide +kernel
theorem dX9_fourOctets_43 : decode cX9_fourOctets 43 = .ok (.goto 15, 3) := by decide +kernel
theorem dX9_fourOctets_46 : decode cX9_fourOctets 46 = .ok (.iload_n 1, 1) := by decide +kernel
theorem dX9_fourOctets_47 : decode cX9_fourOctets 47 = .ok (.iconst 2, 1) := by decide +kernel
theorem dX9_fourOctets_48 : decode cX9_fourOctets 48 = .ok (.if_icmp .ne 9, 3) := by decide +kernel
theorem dX9_fourOctets_51 : decode cX9_fourOctets 51 = .ok (.sipush 196, 3) := by decide +kernel
theorem dX9_fourOctets_54 : decode cX9_fourOctets 54 = .ok (.goto 4, 3) := by decide +kernel
theorem dX9_fourOctets_57 : decode cX9_fourOctets 57 = .ok (.iconst 0, 1) := by decide +kernel
theorem dX9_fourOctets_58 : decode cX9_fourOctets 58 = .ok (.if_icmp .eq 9, 3) := by decide +kernel
theorem dX9_fourOctets_61 : decode cX9_fourOctets 61 = .ok (.aload_n 0, 1) := by decide +kernel
theorem dX9_fourOctets_62 : decode cX9_fourOctets 62 = .ok (.iconst 2, 1) := by decide +kernel
theorem dX9_fourOctets_63 : decode cX9_fourOctets 63 = .ok (.iload_n 2, 1) := by decide +kernel
theorem dX9_fourOctets_64 : decode cX9_fourOctets 64 = .ok (.invokevirtual 191, 3) := by decide +kernel
theorem dX9_fourOctets_67 : decode cX9_fourOctets 67 = .ok (.iinc 1 1, 3) := by decide +kernel
theorem dX9_fourOctets_70 : decode cX9_fourOctets 70 = .ok (.goto (-68), 3) := by decide +kernel
theorem dX9_fourOctets_73 : decode cX9_fourOctets 73 = .ok (.return_, 1) := by decide +kernel
theorem dX9_sourceIs_0 : decode cX9_sourceIs 0 = .ok (.aload_n 0, 1) := by decide +kernel
theorem dX9_sourceIs_1 : decode cX9_sourceIs 1 = .ok (.iload_n 3, 1) := by decide +kernel
theorem dX9_sourceIs_2 : decode cX9_sourceIs 2 = .ok (.putfield 204, 3) := by decide +kernel
theorem dX9_sourceIs_5 : decode cX9_sourceIs 5 = .ok (.iconst 0, 1) := by decide +kernel
theorem dX9_sourceIs_6 : decode cX9_sourceIs 6 = .ok (.istore 5, 2) := by decide +kernel
theorem dX9_sourceIs_8 : decode cX9_sourceIs 8 = .ok (.iload 5, 2) := by decide +kernel
theorem dX9_sourceIs_10 : decode cX9_sourceIs 10 = .ok (.iload_n 3, 1) := by decide +kernel
theorem dX9_sourceIs_11 : decode cX9_sourceIs 11 = .ok (.if_icmp .ge 40, 3) := by decide +kernel
theorem dX9_sourceIs_14 : decode cX9_sourceIs 14 = .ok (.aload_n 0, 1) := by decide +kernel
theorem dX9_sourceIs_15 : decode cX9_sourceIs 15 = .ok (.getfield 76, 3) := by decide +kernel
theorem dX9_sourceIs_18 : decode cX9_sourceIs 18 = .ok (.iload 5, 2) := by decide +kernel
theorem dX9_sourceIs_20 : decode cX9_sourceIs 20 = .ok (.aload_n 1, 1) := by decide +kernel
theorem dX9_sourceIs_21 : decode cX9_sourceIs 21 = .ok (.iload_n 2, 1) := by decide +kernel
theorem dX9_sourceIs_22 : decode cX9_sourceIs 22 = .ok (.iload 5, 2) := by decide +kernel
theorem dX9_sourceIs_24 : decode cX9_sourceIs 24 = .ok (.iadd, 1) := by decide +kernel
theorem dX9_sourceIs_25 : decode cX9_sourceIs 25 = .ok (.baload, 1) := by decide +kernel
theorem dX9_sourceIs_26 : decode cX9_sourceIs 26 = .ok (.bastore, 1) := by decide +kernel
theorem dX9_sourceIs_27 : decode cX9_sourceIs 27 = .ok (.aload_n 0, 1) := by decide +kernel
theorem dX9_sourceIs_28 : decode cX9_sourceIs 28 = .ok (.getfield 79, 3) := by decide +kernel
theorem dX9_sourceIs_31 : decode cX9_sourceIs 31 = .ok (.iload 5, 2) := by decide +kernel
theorem dX9_sourceIs_33 : decode cX9_sourceIs 33 = .ok (.iload 4, 2) := by decide +kernel
theorem dX9_sourceIs_35 : decode cX9_sourceIs 35 = .ok (.ifCond .eq 8, 3) := by decide +kernel
theorem dX9_sourceIs_38 : decode cX9_sourceIs 38 = .ok (.iload 5, 2) := by decide +kernel
theorem dX9_sourceIs_40 : decode cX9_sourceIs 40 = .ok (.goto 4, 3) := by decide +kernel
theorem dX9_sourceIs_43 : decode cX9_sourceIs 43 = .ok (.iconst (-1), 1) := by decide +kernel
theorem dX9_sourceIs_44 : decode cX9_sourceIs 44 = .ok (.iastore, 1) := by decide +kernel
theorem dX9_sourceIs_45 : decode cX9_sourceIs 45 = .ok (.iinc 5 1, 3) := by decide +kernel
theorem dX9_sourceIs_48 : decode cX9_sourceIs 48 = .ok (.goto (-40), 3) := by decide +kernel
theorem dX9_sourceIs_51 : decode cX9_sourceIs 51 = .ok (.return_, 1) := by decide +kernel
theorem dX9_readTable_0 : decode cX9_readTable 0 = .ok (.aload_n 0, 1) := by decide +kernel
theorem dX9_readTable_1 : decode cX9_readTable 1 = .ok (.getfield 185, 3) := by decide +kernel
theorem dX9_readTable_4 : decode cX9_readTable 4 = .ok (.istore_n 1, 1) := by decide +kernel
theorem dX9_readTable_5 : decode cX9_readTable 5 = .ok (.aload_n 0, 1) := by decide +kernel
theorem dX9_readTable_6 : decode cX9_readTable 6 = .ok (.invokevirtual 207, 3) := by decide +kernel
theorem dX9_readTable_9 : decode cX9_readTable 9 = .ok (.lstore_n 2, 1) := by decide +kernel
theorem dX9_readTable_10 : decode cX9_readTable 10 = .ok (.aload_n 0, 1) := by decide +kernel
theorem dX9_readTable_11 : decode cX9_readTable 11 = .ok (.getfield 179, 3) := by decide +kernel
theorem dX9_readTable_14 : decode cX9_readTable 14 = .ok (.ifCond .ne 18, 3) := by decide +kernel
theorem dX9_readTable_17 : decode cX9_readTable 17 = .ok (.lload_n 2, 1) := by decide +kernel
theorem dX9_readTable_18 : decode cX9_readTable 18 = .ok (.ldc2_w 211, 3) := by decide +kernel
theorem dX9_readTable_21 : decode cX9_readTable 21 = .ok (.lcmp, 1) := by decide +kernel
theorem dX9_readTable_22 : decode cX9_readTable 22 = .ok (.ifCond .ge 10, 3) := by decide +kernel
theorem dX9_readTable_25 : decode cX9_readTable 25 = .ok (.aload_n 0, 1) := by decide +kernel
theorem dX9_readTable_26 : decode cX9_readTable 26 = .ok (.bipush 18, 2) := by decide +kernel
theorem dX9_readTable_28 : decode cX9_readTable 28 = .ok (.iload_n 1, 1) := by decide +kernel
theorem dX9_readTable_29 : decode cX9_readTable 29 = .ok (.invokevirtual 191, 3) := by decide +kernel
theorem dX9_readTable_32 : decode cX9_readTable 32 = .ok (.aload_n 0, 1) := by decide +kernel
theorem dX9_readTable_33 : decode cX9_readTable 33 = .ok (.getfield 185, 3) := by decide +kernel
theorem dX9_readTable_36 : decode cX9_readTable 36 = .ok (.istore_n 1, 1) := by decide +kernel
theorem dX9_readTable_37 : decode cX9_readTable 37 = .ok (.aload_n 0, 1) := by decide +kernel
theorem dX9_readTable_38 : decode cX9_readTable 38 = .ok (.invokevirtual 198, 3) := by decide +kernel
theorem dX9_readTable_41 : decode cX9_readTable 41 = .ok (.istore 4, 2) := by decide +kernel
theorem dX9_readTable_43 : decode cX9_readTable 43 = .ok (.aload_n 0, 1) := by decide +kernel
theorem dX9_readTable_44 : decode cX9_readTable 44 = .ok (.getfield 179, 3) := by decide +kernel
theorem dX9_readTable_47 : decode cX9_readTable 47 = .ok (.ifCond .ne 17, 3) := by decide +kernel
theorem dX9_readTable_50 : decode cX9_readTable 50 = .ok (.iload 4, 2) := by decide +kernel
theorem dX9_readTable_52 : decode cX9_readTable 52 = .ok (.bipush 8, 2) := by decide +kernel
theorem dX9_readTable_54 : decode cX9_readTable 54 = .ok (.if_icmp .le 10, 3) := by decide +kernel
theorem dX9_readTable_57 : decode cX9_readTable 57 = .ok (.aload_n 0, 1) := by decide +kernel
theorem dX9_readTable_58 : decode cX9_readTable 58 = .ok (.bipush 18, 2) := by decide +kernel
theorem dX9_readTable_60 : decode cX9_readTable 60 = .ok (.iload_n 1, 1) := by decide +kernel
theorem dX9_readTable_61 : decode cX9_readTable 61 = .ok (.invokevirtual 191, 3) := by decide +kernel
theorem dX9_readTable_64 : decode cX9_readTable 64 = .ok (.aload_n 0, 1) := by decide +kernel
theorem dX9_readTable_65 : decode cX9_readTable 65 = .ok (.getfield 185, 3) := by decide +kernel
theorem dX9_readTable_68 : decode cX9_readTable 68 = .ok (.istore_n 1, 1) := by decide +kernel
theorem dX9_readTable_69 : decode cX9_readTable 69 = .ok (.aload_n 0, 1) := by decide +kernel
theorem dX9_readTable_70 : decode cX9_readTable 70 = .ok (.invokevirtual 198, 3) := by decide +kernel
theorem dX9_readTable_73 : decode cX9_readTable 73 = .ok (.istore 5, 2) := by decide +kernel
theorem dX9_readTable_75 : decode cX9_readTable 75 = .ok (.aload_n 0, 1) := by decide +kernel
theorem dX9_readTable_76 : decode cX9_readTable 76 = .ok (.getfield 179, 3) := by decide +kernel
theorem dX9_readTable_79 : decode cX9_readTable 79 = .ok (.ifCond .ne 16, 3) := by decide +kernel
theorem dX9_readTable_82 : decode cX9_readTable 82 = .ok (.iload 5, 2) := by decide +kernel
theorem dX9_readTable_84 : decode cX9_readTable 84 = .ok (.iconst 4, 1) := by decide +kernel
theorem dX9_readTable_85 : decode cX9_readTable 85 = .ok (.if_icmp .le 10, 3) := by decide +kernel
theorem dX9_readTable_88 : decode cX9_readTable 88 = .ok (.aload_n 0, 1) := by decide +kernel
theorem dX9_readTable_89 : decode cX9_readTable 89 = .ok (.bipush 18, 2) := by decide +kernel
theorem dX9_readTable_91 : decode cX9_readTable 91 = .ok (.iload_n 1, 1) := by decide +kernel
theorem dX9_readTable_92 : decode cX9_readTable 92 = .ok (.invokevirtual 191, 3) := by decide +kernel
theorem dX9_readTable_95 : decode cX9_readTable 95 = .ok (.aload_n 0, 1) := by decide +kernel
theorem dX9_readTable_96 : decode cX9_readTable 96 = .ok (.getfield 179, 3) := by decide +kernel
theorem dX9_readTable_99 : decode cX9_readTable 99 = .ok (.ifCond .ne 31, 3) := by decide +kernel
theorem dX9_readTable_102 : decode cX9_readTable 102 = .ok (.lload_n 2, 1) := by decide +kernel
theorem dX9_readTable_103 : decode cX9_readTable 103 = .ok (.ldc2_w 211, 3) := by decide +kernel
theorem dX9_readTable_106 : decode cX9_readTable 106 = .ok (.lsub, 1) := by decide +kernel
theorem dX9_readTable_107 : decode cX9_readTable 107 = .ok (.aload_n 0, 1) := by decide +kernel
theorem dX9_readTable_108 : decode cX9_readTable 108 = .ok (.getfield 188, 3) := by decide +kernel
theorem dX9_readTable_111 : decode cX9_readTable 111 = .ok (.aload_n 0, 1) := by decide +kernel
theorem dX9_readTable_112 : decode cX9_readTable 112 = .ok (.getfield 185, 3) := by decide +kernel
theorem dX9_readTable_115 : decode cX9_readTable 115 = .ok (.isub, 1) := by decide +kernel
theorem dX9_readTable_116 : decode cX9_readTable 116 = .ok (.i2l, 1) := by decide +kernel
theorem dX9_readTable_117 : decode cX9_readTable 117 = .ok (.lcmp, 1) := by decide +kernel
theorem dX9_readTable_118 : decode cX9_readTable 118 = .ok (.ifCond .le 12, 3) := by decide +kernel
theorem dX9_readTable_121 : decode cX9_readTable 121 = .ok (.aload_n 0, 1) := by decide +kernel
theorem dX9_readTable_122 : decode cX9_readTable 122 = .ok (.iconst 1, 1) := by decide +kernel
theorem dX9_readTable_123 : decode cX9_readTable 123 = .ok (.aload_n 0, 1) := by decide +kernel
theorem dX9_readTable_124 : decode cX9_readTable 124 = .ok (.getfield 188, 3) := by decide +kernel
theorem dX9_readTable_127 : decode cX9_readTable 127 = .ok (.invokevirtual 191, 3) := by decide +kernel
theorem dX9_readTable_130 : decode cX9_readTable 130 = .ok (.aload_n 0, 1) := by decide +kernel
theorem dX9_readTable_131 : decode cX9_readTable 131 = .ok (.getfield 179, 3) := by decide +kernel
theorem dX9_readTable_134 : decode cX9_readTable 134 = .ok (.ifCond .le 4, 3) := by decide +kernel
theorem dX9_readTable_137 : decode cX9_readTable 137 = .ok (.return_, 1) := by decide +kernel
theorem dX9_readTable_138 : decode cX9_readTable 138 = .ok (.aload_n 0, 1) := by decide +kernel
theorem dX9_readTable_139 : decode cX9_readTable 139 = .ok (.getfield 185, 3) := by decide +kernel
theorem dX9_readTable_142 : decode cX9_readTable 142 = .ok (.istore 6, 2) := by decide +kernel
theorem dX9_readTable_144 : decode cX9_readTable 144 = .ok (.aload_n 0, 1) := by decide +kernel
theorem dX9_readTable_145 : decode cX9_readTable 145 = .ok (.getfield 188, 3) := by decide +kernel
theorem dX9_readTable_148 : decode cX9_readTable 148 = .ok (.istore 7, 2) := by decide +kernel
theorem dX9_readTable_150 : decode cX9_readTable 150 = .ok (.aload_n 0, 1) := by decide +kernel
theorem dX9_readTable_151 : decode cX9_readTable 151 = .ok (.aload_n 0, 1) := by decide +kernel
theorem dX9_readTable_152 : decode cX9_readTable 152 = .ok (.getfield 185, 3) := by decide +kernel
theorem dX9_readTable_155 : decode cX9_readTable 155 = .ok (.lload_n 2, 1) := by decide +kernel
theorem dX9_readTable_156 : decode cX9_readTable 156 = .ok (.l2i, 1) := by decide +kernel
theorem dX9_readTable_157 : decode cX9_readTable 157 = .ok (.iadd, 1) := by decide +kernel
theorem dX9_readTable_158 : decode cX9_readTable 158 = .ok (.iconst 2, 1) := by decide +kernel
theorem dX9_readTable_159 : decode cX9_readTable 159 = .ok (.isub, 1) := by decide +kernel
theorem dX9_readTable_160 : decode cX9_readTable 160 = .ok (.putfield 188, 3) := by decide +kernel
theorem dX9_readTable_163 : decode cX9_readTable 163 = .ok (.aload_n 0, 1) := by decide +kernel
theorem dX9_readTable_164 : decode cX9_readTable 164 = .ok (.aload_n 0, 1) := by decide +kernel
theorem dX9_readTable_165 : decode cX9_readTable 165 = .ok (.getfield 17, 3) := by decide +kernel
theorem dX9_readTable_168 : decode cX9_readTable 168 = .ok (.iconst 4, 1) := by decide +kernel
theorem dX9_readTable_169 : decode cX9_readTable 169 = .ok (.iconst 3, 1) := by decide +kernel
theorem dX9_readTable_170 : decode cX9_readTable 170 = .ok (.invokevirtual 213, 3) := by decide +kernel
theorem dX9_readTable_173 : decode cX9_readTable 173 = .ok (.aload_n 0, 1) := by decide +kernel
theorem dX9_readTable_174 : decode cX9_readTable 174 = .ok (.aload_n 0, 1) := by decide +kernel
theorem dX9_readTable_175 : decode cX9_readTable 175 = .ok (.getfield 17, 3) := by decide +kernel
theorem dX9_readTable_178 : decode cX9_readTable 178 = .ok (.iconst 0, 1) := by decide +kernel
theorem dX9_readTable_179 : decode cX9_readTable 179 = .ok (.sipush 1536, 3) := by decide +kernel
theorem dX9_readTable_182 : decode cX9_readTable 182 = .ok (.iconst 0, 1) := by decide +kernel
theorem dX9_readTable_183 : decode cX9_readTable 183 = .ok (.invokevirtual 217, 3) := by decide +kernel
theorem dX9_readTable_186 : decode cX9_readTable 186 = .ok (.aload_n 0, 1) := by decide +kernel
theorem dX9_readTable_187 : decode cX9_readTable 187 = .ok (.iconst 0, 1) := by decide +kernel
theorem dX9_readTable_188 : decode cX9_readTable 188 = .ok (.putfield 221, 3) := by decide +kernel
theorem dX9_readTable_191 : decode cX9_readTable 191 = .ok (.aload_n 0, 1) := by decide +kernel
theorem dX9_readTable_192 : decode cX9_readTable 192 = .ok (.iconst 0, 1) := by decide +kernel
theorem dX9_readTable_193 : decode cX9_readTable 193 = .ok (.putfield 224, 3) := by decide +kernel
theorem dX9_readTable_196 : decode cX9_readTable 196 = .ok (.aload_n 0, 1) := by decide +kernel
theorem dX9_readTable_197 : decode cX9_readTable 197 = .ok (.invokevirtual 228, 3) := by decide +kernel
theorem dX9_readTable_200 : decode cX9_readTable 200 = .ok (.aload_n 0, 1) := by decide +kernel
theorem dX9_readTable_201 : decode cX9_readTable 201 = .ok (.invokevirtual 198, 3) := by decide +kernel
theorem dX9_readTable_204 : decode cX9_readTable 204 = .ok (.istore 8, 2) := by decide +kernel
theorem dX9_readTable_206 : decode cX9_readTable 206 = .ok (.aload_n 0, 1) := by decide +kernel
theorem dX9_readTable_207 : decode cX9_readTable 207 = .ok (.getfield 179, 3) := by decide +kernel
theorem dX9_readTable_210 : decode cX9_readTable 210 = .ok (.ifCond .ne 15, 3) := by decide +kernel
theorem dX9_readTable_213 : decode cX9_readTable 213 = .ok (.iload 8, 2) := by decide +kernel
theorem dX9_readTable_215 : decode cX9_readTable 215 = .ok (.ifCond .eq 10, 3) := by decide +kernel
theorem dX9_readTable_218 : decode cX9_readTable 218 = .ok (.aload_n 0, 1) := by decide +kernel
theorem dX9_readTable_219 : decode cX9_readTable 219 = .ok (.iconst 3, 1) := by decide +kernel
theorem dX9_readTable_220 : decode cX9_readTable 220 = .ok (.iload 6, 2) := by decide +kernel
theorem dX9_readTable_222 : decode cX9_readTable 222 = .ok (.invokevirtual 191, 3) := by decide +kernel
theorem dX9_readTable_225 : decode cX9_readTable 225 = .ok (.aload_n 0, 1) := by decide +kernel
theorem dX9_readTable_226 : decode cX9_readTable 226 = .ok (.invokevirtual 231, 3) := by decide +kernel
theorem dX9_readTable_229 : decode cX9_readTable 229 = .ok (.aload_n 0, 1) := by decide +kernel
theorem dX9_readTable_230 : decode cX9_readTable 230 = .ok (.iconst 1, 1) := by decide +kernel
theorem dX9_readTable_231 : decode cX9_readTable 231 = .ok (.putfield 224, 3) := by decide +kernel
theorem dX9_readTable_234 : decode cX9_readTable 234 = .ok (.aload_n 0, 1) := by decide +kernel
theorem dX9_readTable_235 : decode cX9_readTable 235 = .ok (.getfield 179, 3) := by decide +kernel
theorem dX9_readTable_238 : decode cX9_readTable 238 = .ok (.ifCond .ne 34, 3) := by decide +kernel
theorem dX9_readTable_241 : decode cX9_readTable 241 = .ok (.aload_n 0, 1) := by decide +kernel
theorem dX9_readTable_242 : decode cX9_readTable 242 = .ok (.getfield 221, 3) := by decide +kernel
theorem dX9_readTable_245 : decode cX9_readTable 245 = .ok (.sipush 1536, 3) := by decide +kernel
theorem dX9_readTable_248 : decode cX9_readTable 248 = .ok (.if_icmp .ne 24, 3) := by decide +kernel
theorem dX9_readTable_251 : decode cX9_readTable 251 = .ok (.aload_n 0, 1) := by decide +kernel
theorem dX9_readTable_252 : decode cX9_readTable 252 = .ok (.getfield 82, 3) := by decide +kernel
theorem dX9_readTable_255 : decode cX9_readTable 255 = .ok (.iload 4, 2) := by decide +kernel
theorem dX9_readTable_257 : decode cX9_readTable 257 = .ok (.iload 5, 2) := by decide +kernel
theorem dX9_readTable_259 : decode cX9_readTable 259 = .ok (.iadd, 1) := by decide +kernel
theorem dX9_readTable_260 : decode cX9_readTable 260 = .ok (.iconst 2, 1) := by decide +kernel
theorem dX9_readTable_261 : decode cX9_readTable 261 = .ok (.iadd, 1) := by decide +kernel
theorem dX9_readTable_262 : decode cX9_readTable 262 = .ok (.invokestatic 160, 3) := by decide +kernel
theorem dX9_readTable_265 : decode cX9_readTable 265 = .ok (.ifCond .eq 7, 3) := by decide +kernel
theorem dX9_readTable_268 : decode cX9_readTable 268 = .ok (.iconst 1, 1) := by decide +kernel
theorem dX9_readTable_269 : decode cX9_readTable 269 = .ok (.goto 4, 3) := by decide +kernel
theorem dX9_readTable_272 : decode cX9_readTable 272 = .ok (.iconst 0, 1) := by decide +kernel
theorem dX9_readTable_273 : decode cX9_readTable 273 = .ok (.istore 9, 2) := by decide +kernel
theorem dX9_readTable_275 : decode cX9_readTable 275 = .ok (.iload 9, 2) := by decide +kernel
theorem dX9_readTable_277 : decode cX9_readTable 277 = .ok (.ifCond .ne 16, 3) := by decide +kernel
theorem dX9_readTable_280 : decode cX9_readTable 280 = .ok (.aload_n 0, 1) := by decide +kernel
theorem dX9_readTable_281 : decode cX9_readTable 281 = .ok (.bipush 18, 2) := by decide +kernel
theorem dX9_readTable_283 : decode cX9_readTable 283 = .ok (.putfield 179, 3) := by decide +kernel
theorem dX9_readTable_286 : decode cX9_readTable 286 = .ok (.aload_n 0, 1) := by decide +kernel
theorem dX9_readTable_287 : decode cX9_readTable 287 = .ok (.iload 6, 2) := by decide +kernel
theorem dX9_readTable_289 : decode cX9_readTable 289 = .ok (.putfield 182, 3) := by decide +kernel
theorem dX9_readTable_292 : decode cX9_readTable 292 = .ok (.return_, 1) := by decide +kernel
theorem dX9_readTable_293 : decode cX9_readTable 293 = .ok (.aload_n 0, 1) := by decide +kernel
theorem dX9_readTable_294 : decode cX9_readTable 294 = .ok (.aload_n 0, 1) := by decide +kernel
theorem dX9_readTable_295 : decode cX9_readTable 295 = .ok (.getfield 188, 3) := by decide +kernel
theorem dX9_readTable_298 : decode cX9_readTable 298 = .ok (.putfield 185, 3) := by decide +kernel
theorem dX9_readTable_301 : decode cX9_readTable 301 = .ok (.aload_n 0, 1) := by decide +kernel
theorem dX9_readTable_302 : decode cX9_readTable 302 = .ok (.iload 7, 2) := by decide +kernel
theorem dX9_readTable_304 : decode cX9_readTable 304 = .ok (.putfield 188, 3) := by decide +kernel
theorem dX9_readTable_307 : decode cX9_readTable 307 = .ok (.aload_n 0, 1) := by decide +kernel
theorem dX9_readTable_308 : decode cX9_readTable 308 = .ok (.aload_n 0, 1) := by decide +kernel
theorem dX9_readTable_309 : decode cX9_readTable 309 = .ok (.getfield 82, 3) := by decide +kernel
theorem dX9_readTable_312 : decode cX9_readTable 312 = .ok (.iload 4, 2) := by decide +kernel
theorem dX9_readTable_314 : decode cX9_readTable 314 = .ok (.iload 5, 2) := by decide +kernel
theorem dX9_readTable_316 : decode cX9_readTable 316 = .ok (.invokevirtual 213, 3) := by decide +kernel
theorem dX9_readTable_319 : decode cX9_readTable 319 = .ok (.return_, 1) := by decide +kernel
theorem dX9_readRow_0 : decode cX9_readRow 0 = .ok (.aload_n 0, 1) := by decide +kernel
theorem dX9_readRow_1 : decode cX9_readRow 1 = .ok (.sipush 8000, 3) := by decide +kernel
theorem dX9_readRow_4 : decode cX9_readRow 4 = .ok (.iload_n 1, 1) := by decide +kernel
theorem dX9_readRow_5 : decode cX9_readRow 5 = .ok (.imul, 1) := by decide +kernel
theorem dX9_readRow_6 : decode cX9_readRow 6 = .ok (.putfield 195, 3) := by decide +kernel
theorem dX9_readRow_9 : decode cX9_readRow 9 = .ok (.aload_n 0, 1) := by decide +kernel
theorem dX9_readRow_10 : decode cX9_readRow 10 = .ok (.iconst 0, 1) := by decide +kernel
theorem dX9_readRow_11 : decode cX9_readRow 11 = .ok (.putfield 185, 3) := by decide +kernel
theorem dX9_readRow_14 : decode cX9_readRow 14 = .ok (.aload_n 0, 1) := by decide +kernel
theorem dX9_readRow_15 : decode cX9_readRow 15 = .ok (.aload_n 0, 1) := by decide +kernel
theorem dX9_readRow_16 : decode cX9_readRow 16 = .ok (.getfield 13, 3) := by decide +kernel
theorem dX9_readRow_19 : decode cX9_readRow 19 = .ok (.iload_n 1, 1) := by decide +kernel
theorem dX9_readRow_20 : decode cX9_readRow 20 = .ok (.iaload, 1) := by decide +kernel
theorem dX9_readRow_21 : decode cX9_readRow 21 = .ok (.putfield 188, 3) := by decide +kernel
theorem dX9_readRow_24 : decode cX9_readRow 24 = .ok (.aload_n 0, 1) := by decide +kernel
theorem dX9_readRow_25 : decode cX9_readRow 25 = .ok (.iconst 0, 1) := by decide +kernel
theorem dX9_readRow_26 : decode cX9_readRow 26 = .ok (.putfield 179, 3) := by decide +kernel
theorem dX9_readRow_29 : decode cX9_readRow 29 = .ok (.aload_n 0, 1) := by decide +kernel
theorem dX9_readRow_30 : decode cX9_readRow 30 = .ok (.iconst 0, 1) := by decide +kernel
theorem dX9_readRow_31 : decode cX9_readRow 31 = .ok (.putfield 182, 3) := by decide +kernel
theorem dX9_readRow_34 : decode cX9_readRow 34 = .ok (.aload_n 0, 1) := by decide +kernel
theorem dX9_readRow_35 : decode cX9_readRow 35 = .ok (.iconst 0, 1) := by decide +kernel
theorem dX9_readRow_36 : decode cX9_readRow 36 = .ok (.putfield 234, 3) := by decide +kernel
theorem dX9_readRow_39 : decode cX9_readRow 39 = .ok (.aload_n 0, 1) := by decide +kernel
theorem dX9_readRow_40 : decode cX9_readRow 40 = .ok (.iconst 0, 1) := by decide +kernel
theorem dX9_readRow_41 : decode cX9_readRow 41 = .ok (.putfield 173, 3) := by decide +kernel
theorem dX9_readRow_44 : decode cX9_readRow 44 = .ok (.aload_n 0, 1) := by decide +kernel
theorem dX9_readRow_45 : decode cX9_readRow 45 = .ok (.iconst 1, 1) := by decide +kernel
theorem dX9_readRow_46 : decode cX9_readRow 46 = .ok (.putfield 224, 3) := by decide +kernel
theorem dX9_readRow_49 : decode cX9_readRow 49 = .ok (.aload_n 0, 1) := by decide +kernel
theorem dX9_readRow_50 : decode cX9_readRow 50 = .ok (.iconst 0, 1) := by decide +kernel
theorem dX9_readRow_51 : decode cX9_readRow 51 = .ok (.putfield 221, 3) := by decide +kernel
theorem dX9_readRow_54 : decode cX9_readRow 54 = .ok (.aload_n 0, 1) := by decide +kernel
theorem dX9_readRow_55 : decode cX9_readRow 55 = .ok (.invokevirtual 228, 3) := by decide +kernel
theorem dX9_readRow_58 : decode cX9_readRow 58 = .ok (.aload_n 0, 1) := by decide +kernel
theorem dX9_readRow_59 : decode cX9_readRow 59 = .ok (.getfield 185, 3) := by decide +kernel
theorem dX9_readRow_62 : decode cX9_readRow 62 = .ok (.istore_n 3, 1) := by decide +kernel
theorem dX9_readRow_63 : decode cX9_readRow 63 = .ok (.aload_n 0, 1) := by decide +kernel
theorem dX9_readRow_64 : decode cX9_readRow 64 = .ok (.invokevirtual 198, 3) := by decide +kernel
theorem dX9_readRow_67 : decode cX9_readRow 67 = .ok (.istore 4, 2) := by decide +kernel
theorem dX9_readRow_69 : decode cX9_readRow 69 = .ok (.aload_n 0, 1) := by decide +kernel
theorem dX9_readRow_70 : decode cX9_readRow 70 = .ok (.getfield 179, 3) := by decide +kernel
theorem dX9_readRow_73 : decode cX9_readRow 73 = .ok (.ifCond .ne 20, 3) := by decide +kernel
theorem dX9_readRow_76 : decode cX9_readRow 76 = .ok (.iload 4, 2) := by decide +kernel
theorem dX9_readRow_78 : decode cX9_readRow 78 = .ok (.ifCond .eq 15, 3) := by decide +kernel
theorem dX9_readRow_81 : decode cX9_readRow 81 = .ok (.iload 4, 2) := by decide +kernel
theorem dX9_readRow_83 : decode cX9_readRow 83 = .ok (.iconst 2, 1) := by decide +kernel
theorem dX9_readRow_84 : decode cX9_readRow 84 = .ok (.if_icmp .eq 9, 3) := by decide +kernel
theorem dX9_readRow_87 : decode cX9_readRow 87 = .ok (.aload_n 0, 1) := by decide +kernel
theorem dX9_readRow_88 : decode cX9_readRow 88 = .ok (.iconst 3, 1) := by decide +kernel
theorem dX9_readRow_89 : decode cX9_readRow 89 = .ok (.iload_n 3, 1) := by decide +kernel
theorem dX9_readRow_90 : decode cX9_readRow 90 = .ok (.invokevirtual 191, 3) := by decide +kernel
theorem dX9_readRow_93 : decode cX9_readRow 93 = .ok (.aload_n 0, 1) := by decide +kernel
theorem dX9_readRow_94 : decode cX9_readRow 94 = .ok (.aload_n 0, 1) := by decide +kernel
theorem dX9_readRow_95 : decode cX9_readRow 95 = .ok (.getfield 17, 3) := by decide +kernel
theorem dX9_readRow_98 : decode cX9_readRow 98 = .ok (.iconst 4, 1) := by decide +kernel
theorem dX9_readRow_99 : decode cX9_readRow 99 = .ok (.iconst 3, 1) := by decide +kernel
theorem dX9_readRow_100 : decode cX9_readRow 100 = .ok (.invokevirtual 213, 3) := by decide +kernel
theorem dX9_readRow_103 : decode cX9_readRow 103 = .ok (.aload_n 0, 1) := by decide +kernel
theorem dX9_readRow_104 : decode cX9_readRow 104 = .ok (.getfield 179, 3) := by decide +kernel
theorem dX9_readRow_107 : decode cX9_readRow 107 = .ok (.ifCond .ne 13, 3) := by decide +kernel
theorem dX9_readRow_110 : decode cX9_readRow 110 = .ok (.iload 4, 2) := by decide +kernel
theorem dX9_readRow_112 : decode cX9_readRow 112 = .ok (.iconst 2, 1) := by decide +kernel
theorem dX9_readRow_113 : decode cX9_readRow 113 = .ok (.if_icmp .ne 7, 3) := by decide +kernel
theorem dX9_readRow_116 : decode cX9_readRow 116 = .ok (.aload_n 0, 1) := by decide +kernel
theorem dX9_readRow_117 : decode cX9_readRow 117 = .ok (.invokevirtual 237, 3) := by decide +kernel
theorem dX9_readRow_120 : decode cX9_readRow 120 = .ok (.aload_n 0, 1) := by decide +kernel
theorem dX9_readRow_121 : decode cX9_readRow 121 = .ok (.iconst 0, 1) := by decide +kernel
theorem dX9_readRow_122 : decode cX9_readRow 122 = .ok (.putfield 221, 3) := by decide +kernel
theorem dX9_readRow_125 : decode cX9_readRow 125 = .ok (.iload_n 2, 1) := by decide +kernel
theorem dX9_readRow_126 : decode cX9_readRow 126 = .ok (.ifCond .eq 22, 3) := by decide +kernel
theorem dX9_readRow_129 : decode cX9_readRow 129 = .ok (.aload_n 0, 1) := by decide +kernel
theorem dX9_readRow_130 : decode cX9_readRow 130 = .ok (.aload_n 0, 1) := by decide +kernel
theorem dX9_readRow_131 : decode cX9_readRow 131 = .ok (.getfield 7, 3) := by decide +kernel
theorem dX9_readRow_134 : decode cX9_readRow 134 = .ok (.iconst 0, 1) := by decide +kernel
theorem dX9_readRow_135 : decode cX9_readRow 135 = .ok (.aload_n 0, 1) := by decide +kernel
theorem dX9_readRow_136 : decode cX9_readRow 136 = .ok (.getfield 13, 3) := by decide +kernel
theorem dX9_readRow_139 : decode cX9_readRow 139 = .ok (.iconst 0, 1) := by decide +kernel
theorem dX9_readRow_140 : decode cX9_readRow 140 = .ok (.iaload, 1) := by decide +kernel
theorem dX9_readRow_141 : decode cX9_readRow 141 = .ok (.iconst 1, 1) := by decide +kernel
theorem dX9_readRow_142 : decode cX9_readRow 142 = .ok (.invokevirtual 217, 3) := by decide +kernel
theorem dX9_readRow_145 : decode cX9_readRow 145 = .ok (.goto 57, 3) := by decide +kernel
theorem dX9_readRow_148 : decode cX9_readRow 148 = .ok (.aload_n 0, 1) := by decide +kernel
theorem dX9_readRow_149 : decode cX9_readRow 149 = .ok (.aload_n 0, 1) := by decide +kernel
theorem dX9_readRow_150 : decode cX9_readRow 150 = .ok (.getfield 240, 3) := by decide +kernel
theorem dX9_readRow_153 : decode cX9_readRow 153 = .ok (.putfield 204, 3) := by decide +kernel
theorem dX9_readRow_156 : decode cX9_readRow 156 = .ok (.iconst 0, 1) := by decide +kernel
theorem dX9_readRow_157 : decode cX9_readRow 157 = .ok (.istore 5, 2) := by decide +kernel
theorem dX9_readRow_159 : decode cX9_readRow 159 = .ok (.iload 5, 2) := by decide +kernel
theorem dX9_readRow_161 : decode cX9_readRow 161 = .ok (.aload_n 0, 1) := by decide +kernel
theorem dX9_readRow_162 : decode cX9_readRow 162 = .ok (.getfield 240, 3) := by decide +kernel
theorem dX9_readRow_165 : decode cX9_readRow 165 = .ok (.if_icmp .ge 37, 3) := by decide +kernel
theorem dX9_readRow_168 : decode cX9_readRow 168 = .ok (.aload_n 0, 1) := by decide +kernel
theorem dX9_readRow_169 : decode cX9_readRow 169 = .ok (.getfield 76, 3) := by decide +kernel
theorem dX9_readRow_172 : decode cX9_readRow 172 = .ok (.iload 5, 2) := by decide +kernel
theorem dX9_readRow_174 : decode cX9_readRow 174 = .ok (.aload_n 0, 1) := by decide +kernel
theorem dX9_readRow_175 : decode cX9_readRow 175 = .ok (.getfield 121, 3) := by decide +kernel
theorem dX9_readRow_178 : decode cX9_readRow 178 = .ok (.iload 5, 2) := by decide +kernel
theorem dX9_readRow_180 : decode cX9_readRow 180 = .ok (.baload, 1) := by decide +kernel
theorem dX9_readRow_181 : decode cX9_readRow 181 = .ok (.bastore, 1) := by decide +kernel
theorem dX9_readRow_182 : decode cX9_readRow 182 = .ok (.aload_n 0, 1) := by decide +kernel
theorem dX9_readRow_183 : decode cX9_readRow 183 = .ok (.getfield 79, 3) := by decide +kernel
theorem dX9_readRow_186 : decode cX9_readRow 186 = .ok (.iload 5, 2) := by decide +kernel
theorem dX9_readRow_188 : decode cX9_readRow 188 = .ok (.aload_n 0, 1) := by decide +kernel
theorem dX9_readRow_189 : decode cX9_readRow 189 = .ok (.getfield 124, 3) := by decide +kernel
theorem dX9_readRow_192 : decode cX9_readRow 192 = .ok (.iload 5, 2) := by decide +kernel
theorem dX9_readRow_194 : decode cX9_readRow 194 = .ok (.iaload, 1) := by decide +kernel
theorem dX9_readRow_195 : decode cX9_readRow 195 = .ok (.iastore, 1) := by decide +kernel
theorem dX9_readRow_196 : decode cX9_readRow 196 = .ok (.iinc 5 1, 3) := by decide +kernel
theorem dX9_readRow_199 : decode cX9_readRow 199 = .ok (.goto (-40), 3) := by decide +kernel
theorem dX9_readRow_202 : decode cX9_readRow 202 = .ok (.aload_n 0, 1) := by decide +kernel
theorem dX9_readRow_203 : decode cX9_readRow 203 = .ok (.invokevirtual 231, 3) := by decide +kernel
theorem dX9_readRow_206 : decode cX9_readRow 206 = .ok (.return_, 1) := by decide +kernel
theorem dX9_readWindows_0 : decode cX9_readWindows 0 = .ok (.aload_n 0, 1) := by decide +kernel
theorem dX9_readWindows_1 : decode cX9_readWindows 1 = .ok (.getfield 179, 3) := by decide +kernel
theorem dX9_readWindows_4 : decode cX9_readWindows 4 = .ok (.ifCond .ne 45, 3) := by decide +kernel
theorem dX9_readWindows_7 : decode cX9_readWindows 7 = .ok (.aload_n 0, 1) := by decide +kernel
theorem dX9_readWindows_8 : decode cX9_readWindows 8 = .ok (.getfield 185, 3) := by decide +kernel
theorem dX9_readWindows_11 : decode cX9_readWindows 11 = .ok (.aload_n 0, 1) := by decide +kernel
theorem dX9_readWindows_12 : decode cX9_readWindows 12 = .ok (.getfield 188, 3) := by decide +kernel
theorem dX9_readWindows_15 : decode cX9_readWindows 15 = .ok (.if_icmp .ge 34, 3) := by decide +kernel
theorem dX9_readWindows_18 : decode cX9_readWindows 18 = .ok (.aload_n 0, 1) := by decide +kernel
theorem dX9_readWindows_19 : decode cX9_readWindows 19 = .ok (.invokevirtual 243, 3) := by decide +kernel
theorem dX9_readWindows_22 : decode cX9_readWindows 22 = .ok (.aload_n 0, 1) := by decide +kernel
theorem dX9_readWindows_23 : decode cX9_readWindows 23 = .ok (.getfield 179, 3) := by decide +kernel
theorem dX9_readWindows_26 : decode cX9_readWindows 26 = .ok (.ifCond .ne (-26), 3) := by decide +kernel
theorem dX9_readWindows_29 : decode cX9_readWindows 29 = .ok (.aload_n 0, 1) := by decide +kernel
theorem dX9_readWindows_30 : decode cX9_readWindows 30 = .ok (.getfield 224, 3) := by decide +kernel
theorem dX9_readWindows_33 : decode cX9_readWindows 33 = .ok (.ifCond .eq (-33), 3) := by decide +kernel
theorem dX9_readWindows_36 : decode cX9_readWindows 36 = .ok (.aload_n 0, 1) := by decide +kernel
theorem dX9_readWindows_37 : decode cX9_readWindows 37 = .ok (.dup, 1) := by decide +kernel
theorem dX9_readWindows_38 : decode cX9_readWindows 38 = .ok (.getfield 234, 3) := by decide +kernel
theorem dX9_readWindows_41 : decode cX9_readWindows 41 = .ok (.iconst 1, 1) := by decide +kernel
theorem dX9_readWindows_42 : decode cX9_readWindows 42 = .ok (.iadd, 1) := by decide +kernel
theorem dX9_readWindows_43 : decode cX9_readWindows 43 = .ok (.putfield 234, 3) := by decide +kernel
theorem dX9_readWindows_46 : decode cX9_readWindows 46 = .ok (.goto (-46), 3) := by decide +kernel
theorem dX9_readWindows_49 : decode cX9_readWindows 49 = .ok (.return_, 1) := by decide +kernel
theorem dX9_readWindow_0 : decode cX9_readWindow 0 = .ok (.aload_n 0, 1) := by decide +kernel
theorem dX9_readWindow_1 : decode cX9_readWindow 1 = .ok (.getfield 185, 3) := by decide +kernel
theorem dX9_readWindow_4 : decode cX9_readWindow 4 = .ok (.istore_n 1, 1) := by decide +kernel
theorem dX9_readWindow_5 : decode cX9_readWindow 5 = .ok (.aload_n 0, 1) := by decide +kernel
theorem dX9_readWindow_6 : decode cX9_readWindow 6 = .ok (.aload_n 0, 1) := by decide +kernel
theorem dX9_readWindow_7 : decode cX9_readWindow 7 = .ok (.invokevirtual 198, 3) := by decide +kernel
theorem dX9_readWindow_10 : decode cX9_readWindow 10 = .ok (.putfield 246, 3) := by decide +kernel
theorem dX9_readWindow_13 : decode cX9_readWindow 13 = .ok (.aload_n 0, 1) := by decide +kernel
theorem dX9_readWindow_14 : decode cX9_readWindow 14 = .ok (.iconst 0, 1) := by decide +kernel
theorem dX9_readWindow_15 : decode cX9_readWindow 15 = .ok (.putfield 249, 3) := by decide +kernel
theorem dX9_readWindow_18 : decode cX9_readWindow 18 = .ok (.aload_n 0, 1) := by decide +kernel
theorem dX9_readWindow_19 : decode cX9_readWindow 19 = .ok (.iconst 0, 1) := by decide +kernel
theorem dX9_readWindow_20 : decode cX9_readWindow 20 = .ok (.putfield 252, 3) := by decide +kernel
theorem dX9_readWindow_23 : decode cX9_readWindow 23 = .ok (.aload_n 0, 1) := by decide +kernel
theorem dX9_readWindow_24 : decode cX9_readWindow 24 = .ok (.getfield 179, 3) := by decide +kernel
theorem dX9_readWindow_27 : decode cX9_readWindow 27 = .ok (.ifCond .ne 17, 3) := by decide +kernel
theorem dX9_readWindow_30 : decode cX9_readWindow 30 = .ok (.aload_n 0, 1) := by decide +kernel
theorem dX9_readWindow_31 : decode cX9_readWindow 31 = .ok (.getfield 246, 3) := by decide +kernel
theorem dX9_readWindow_34 : decode cX9_readWindow 34 = .ok (.iconst 2, 1) := by decide +kernel
theorem dX9_readWindow_35 : decode cX9_readWindow 35 = .ok (.if_icmp .le 9, 3) := by decide +kernel
theorem dX9_readWindow_38 : decode cX9_readWindow 38 = .ok (.aload_n 0, 1) := by decide +kernel
theorem dX9_readWindow_39 : decode cX9_readWindow 39 = .ok (.iconst 5, 1) := by decide +kernel
theorem dX9_readWindow_40 : decode cX9_readWindow 40 = .ok (.iload_n 1, 1) := by decide +kernel
theorem dX9_readWindow_41 : decode cX9_readWindow 41 = .ok (.invokevirtual 191, 3) := by decide +kernel
theorem dX9_readWindow_44 : decode cX9_readWindow 44 = .ok (.aload_n 0, 1) := by decide +kernel
theorem dX9_readWindow_45 : decode cX9_readWindow 45 = .ok (.getfield 179, 3) := by decide +kernel
theorem dX9_readWindow_48 : decode cX9_readWindow 48 = .ok (.ifCond .ne 81, 3) := by decide +kernel
theorem dX9_readWindow_51 : decode cX9_readWindow 51 = .ok (.aload_n 0, 1) := by decide +kernel
theorem dX9_readWindow_52 : decode cX9_readWindow 52 = .ok (.getfield 246, 3) := by decide +kernel
theorem dX9_readWindow_55 : decode cX9_readWindow 55 = .ok (.ifCond .le 74, 3) := by decide +kernel
theorem dX9_readWindow_58 : decode cX9_readWindow 58 = .ok (.aload_n 0, 1) := by decide +kernel
theorem dX9_readWindow_59 : decode cX9_readWindow 59 = .ok (.invokevirtual 207, 3) := by decide +kernel
theorem dX9_readWindow_62 : decode cX9_readWindow 62 = .ok (.lstore_n 2, 1) := by decide +kernel
theorem dX9_readWindow_63 : decode cX9_readWindow 63 = .ok (.aload_n 0, 1) := by decide +kernel
theorem dX9_readWindow_64 : decode cX9_readWindow 64 = .ok (.getfield 185, 3) := by decide +kernel
theorem dX9_readWindow_67 : decode cX9_readWindow 67 = .ok (.istore_n 1, 1) := by decide +kernel
theorem dX9_readWindow_68 : decode cX9_readWindow 68 = .ok (.aload_n 0, 1) := by decide +kernel
theorem dX9_readWindow_69 : decode cX9_readWindow 69 = .ok (.invokevirtual 207, 3) := by decide +kernel
theorem dX9_readWindow_72 : decode cX9_readWindow 72 = .ok (.lstore 4, 2) := by decide +kernel
theorem dX9_readWindow_74 : decode cX9_readWindow 74 = .ok (.aload_n 0, 1) := by decide +kernel
theorem dX9_readWindow_75 : decode cX9_readWindow 75 = .ok (.getfield 179, 3) := by decide +kernel
theorem dX9_readWindow_78 : decode cX9_readWindow 78 = .ok (.ifCond .ne 38, 3) := by decide +kernel
theorem dX9_readWindow_81 : decode cX9_readWindow 81 = .ok (.lload_n 2, 1) := by decide +kernel
theorem dX9_readWindow_82 : decode cX9_readWindow 82 = .ok (.lload 4, 2) := by decide +kernel
theorem dX9_readWindow_84 : decode cX9_readWindow 84 = .ok (.ladd, 1) := by decide +kernel
theorem dX9_readWindow_85 : decode cX9_readWindow 85 = .ok (.aload_n 0, 1) := by decide +kernel
theorem dX9_readWindow_86 : decode cX9_readWindow 86 = .ok (.getfield 246, 3) := by decide +kernel
theorem dX9_readWindow_89 : decode cX9_readWindow 89 = .ok (.iconst 1, 1) := by decide +kernel
theorem dX9_readWindow_90 : decode cX9_readWindow 90 = .ok (.if_icmp .ne 10, 3) := by decide +kernel
theorem dX9_readWindow_93 : decode cX9_readWindow 93 = .ok (.aload_n 0, 1) := by decide +kernel
theorem dX9_readWindow_94 : decode cX9_readWindow 94 = .ok (.getfield 204, 3) := by decide +kernel
theorem dX9_readWindow_97 : decode cX9_readWindow 97 = .ok (.goto 7, 3) := by decide +kernel
theorem dX9_readWindow_100 : decode cX9_readWindow 100 = .ok (.aload_n 0, 1) := by decide +kernel
theorem dX9_readWindow_101 : decode cX9_readWindow 101 = .ok (.getfield 221, 3) := by decide +kernel
theorem dX9_readWindow_104 : decode cX9_readWindow 104 = .ok (.i2l, 1) := by decide +kernel
theorem dX9_readWindow_105 : decode cX9_readWindow 105 = .ok (.lcmp, 1) := by decide +kernel
theorem dX9_readWindow_106 : decode cX9_readWindow 106 = .ok (.ifCond .le 10, 3) := by decide +kernel
theorem dX9_readWindow_109 : decode cX9_readWindow 109 = .ok (.aload_n 0, 1) := by decide +kernel
theorem dX9_readWindow_110 : decode cX9_readWindow 110 = .ok (.bipush 6, 2) := by decide +kernel
theorem dX9_readWindow_112 : decode cX9_readWindow 112 = .ok (.iload_n 1, 1) := by decide +kernel
theorem dX9_readWindow_113 : decode cX9_readWindow 113 = .ok (.invokevirtual 191, 3) := by decide +kernel
theorem dX9_readWindow_116 : decode cX9_readWindow 116 = .ok (.aload_n 0, 1) := by decide +kernel
theorem dX9_readWindow_117 : decode cX9_readWindow 117 = .ok (.lload_n 2, 1) := by decide +kernel
theorem dX9_readWindow_118 : decode cX9_readWindow 118 = .ok (.l2i, 1) := by decide +kernel
theorem dX9_readWindow_119 : decode cX9_readWindow 119 = .ok (.putfield 249, 3) := by decide +kernel
theorem dX9_readWindow_122 : decode cX9_readWindow 122 = .ok (.aload_n 0, 1) := by decide +kernel
theorem dX9_readWindow_123 : decode cX9_readWindow 123 = .ok (.lload 4, 2) := by decide +kernel
theorem dX9_readWindow_125 : decode cX9_readWindow 125 = .ok (.l2i, 1) := by decide +kernel
theorem dX9_readWindow_126 : decode cX9_readWindow 126 = .ok (.putfield 252, 3) := by decide +kernel
theorem dX9_readWindow_129 : decode cX9_readWindow 129 = .ok (.aload_n 0, 1) := by decide +kernel
theorem dX9_readWindow_130 : decode cX9_readWindow 130 = .ok (.getfield 185, 3) := by decide +kernel
theorem dX9_readWindow_133 : decode cX9_readWindow 133 = .ok (.istore_n 2, 1) := by decide +kernel
theorem dX9_readWindow_134 : decode cX9_readWindow 134 = .ok (.aload_n 0, 1) := by decide +kernel
theorem dX9_readWindow_135 : decode cX9_readWindow 135 = .ok (.invokevirtual 207, 3) := by decide +kernel
theorem dX9_readWindow_138 : decode cX9_readWindow 138 = .ok (.lstore_n 3, 1) := by decide +kernel
theorem dX9_readWindow_139 : decode cX9_readWindow 139 = .ok (.aload_n 0, 1) := by decide +kernel
theorem dX9_readWindow_140 : decode cX9_readWindow 140 = .ok (.getfield 185, 3) := by decide +kernel
theorem dX9_readWindow_143 : decode cX9_readWindow 143 = .ok (.istore 5, 2) := by decide +kernel
theorem dX9_readWindow_145 : decode cX9_readWindow 145 = .ok (.aload_n 0, 1) := by decide +kernel
theorem dX9_readWindow_146 : decode cX9_readWindow 146 = .ok (.invokevirtual 207, 3) := by decide +kernel
theorem dX9_readWindow_149 : decode cX9_readWindow 149 = .ok (.lstore 6, 2) := by decide +kernel
theorem dX9_readWindow_151 : decode cX9_readWindow 151 = .ok (.aload_n 0, 1) := by decide +kernel
theorem dX9_readWindow_152 : decode cX9_readWindow 152 = .ok (.getfield 179, 3) := by decide +kernel
theorem dX9_readWindow_155 : decode cX9_readWindow 155 = .ok (.ifCond .ne 26, 3) := by decide +kernel
theorem dX9_readWindow_158 : decode cX9_readWindow 158 = .ok (.aload_n 0, 1) := by decide +kernel
theorem dX9_readWindow_159 : decode cX9_readWindow 159 = .ok (.getfield 221, 3) := by decide +kernel
theorem dX9_readWindow_162 : decode cX9_readWindow 162 = .ok (.i2l, 1) := by decide +kernel
theorem dX9_readWindow_163 : decode cX9_readWindow 163 = .ok (.lload 6, 2) := by decide +kernel
theorem dX9_readWindow_165 : decode cX9_readWindow 165 = .ok (.ladd, 1) := by decide +kernel
theorem dX9_readWindow_166 : decode cX9_readWindow 166 = .ok (.ldc2_w 255, 3) := by decide +kernel
theorem dX9_readWindow_169 : decode cX9_readWindow 169 = .ok (.lcmp, 1) := by decide +kernel
theorem dX9_readWindow_170 : decode cX9_readWindow 170 = .ok (.ifCond .le 11, 3) := by decide +kernel
theorem dX9_readWindow_173 : decode cX9_readWindow 173 = .ok (.aload_n 0, 1) := by decide +kernel
theorem dX9_readWindow_174 : decode cX9_readWindow 174 = .ok (.bipush 7, 2) := by decide +kernel
theorem dX9_readWindow_176 : decode cX9_readWindow 176 = .ok (.iload 5, 2) := by decide +kernel
theorem dX9_readWindow_178 : decode cX9_readWindow 178 = .ok (.invokevirtual 191, 3) := by decide +kernel
theorem dX9_readWindow_181 : decode cX9_readWindow 181 = .ok (.aload_n 0, 1) := by decide +kernel
theorem dX9_readWindow_182 : decode cX9_readWindow 182 = .ok (.getfield 185, 3) := by decide +kernel
theorem dX9_readWindow_185 : decode cX9_readWindow 185 = .ok (.istore_n 1, 1) := by decide +kernel
theorem dX9_readWindow_186 : decode cX9_readWindow 186 = .ok (.aload_n 0, 1) := by decide +kernel
theorem dX9_readWindow_187 : decode cX9_readWindow 187 = .ok (.invokevirtual 198, 3) := by decide +kernel
theorem dX9_readWindow_190 : decode cX9_readWindow 190 = .ok (.istore 8, 2) := by decide +kernel
theorem dX9_readWindow_192 : decode cX9_readWindow 192 = .ok (.aload_n 0, 1) := by decide +kernel
theorem dX9_readWindow_193 : decode cX9_readWindow 193 = .ok (.getfield 179, 3) := by decide +kernel
theorem dX9_readWindow_196 : decode cX9_readWindow 196 = .ok (.ifCond .ne 15, 3) := by decide +kernel
theorem dX9_readWindow_199 : decode cX9_readWindow 199 = .ok (.iload 8, 2) := by decide +kernel
theorem dX9_readWindow_201 : decode cX9_readWindow 201 = .ok (.ifCond .eq 10, 3) := by decide +kernel
theorem dX9_readWindow_204 : decode cX9_readWindow 204 = .ok (.aload_n 0, 1) := by decide +kernel
theorem dX9_readWindow_205 : decode cX9_readWindow 205 = .ok (.bipush 9, 2) := by decide +kernel
theorem dX9_readWindow_207 : decode cX9_readWindow 207 = .ok (.iload_n 1, 1) := by decide +kernel
theorem dX9_readWindow_208 : decode cX9_readWindow 208 = .ok (.invokevirtual 191, 3) := by decide +kernel
theorem dX9_readWindow_211 : decode cX9_readWindow 211 = .ok (.aload_n 0, 1) := by decide +kernel
theorem dX9_readWindow_212 : decode cX9_readWindow 212 = .ok (.invokevirtual 207, 3) := by decide +kernel
theorem dX9_readWindow_215 : decode cX9_readWindow 215 = .ok (.lstore 9, 2) := by decide +kernel
theorem dX9_readWindow_217 : decode cX9_readWindow 217 = .ok (.aload_n 0, 1) := by decide +kernel
theorem dX9_readWindow_218 : decode cX9_readWindow 218 = .ok (.invokevirtual 207, 3) := by decide +kernel
theorem dX9_readWindow_221 : decode cX9_readWindow 221 = .ok (.lstore 11, 2) := by decide +kernel
theorem dX9_readWindow_223 : decode cX9_readWindow 223 = .ok (.aload_n 0, 1) := by decide +kernel
theorem dX9_readWindow_224 : decode cX9_readWindow 224 = .ok (.invokevirtual 207, 3) := by decide +kernel
theorem dX9_readWindow_227 : decode cX9_readWindow 227 = .ok (.lstore 13, 2) := by decide +kernel
theorem dX9_readWindow_229 : decode cX9_readWindow 229 = .ok (.aload_n 0, 1) := by decide +kernel
theorem dX9_readWindow_230 : decode cX9_readWindow 230 = .ok (.getfield 179, 3) := by decide +kernel
theorem dX9_readWindow_233 : decode cX9_readWindow 233 = .ok (.ifCond .ne 32, 3) := by decide +kernel
theorem dX9_readWindow_236 : decode cX9_readWindow 236 = .ok (.lload_n 3, 1) := by decide +kernel
theorem dX9_readWindow_237 : decode cX9_readWindow 237 = .ok (.aload_n 0, 1) := by decide +kernel
theorem dX9_readWindow_238 : decode cX9_readWindow 238 = .ok (.getfield 185, 3) := by decide +kernel
theorem dX9_readWindow_241 : decode cX9_readWindow 241 = .ok (.iload 5, 2) := by decide +kernel
theorem dX9_readWindow_243 : decode cX9_readWindow 243 = .ok (.isub, 1) := by decide +kernel
theorem dX9_readWindow_244 : decode cX9_readWindow 244 = .ok (.i2l, 1) := by decide +kernel
theorem dX9_readWindow_245 : decode cX9_readWindow 245 = .ok (.lload 9, 2) := by decide +kernel
theorem dX9_readWindow_247 : decode cX9_readWindow 247 = .ok (.ladd, 1) := by decide +kernel
theorem dX9_readWindow_248 : decode cX9_readWindow 248 = .ok (.lload 11, 2) := by decide +kernel
theorem dX9_readWindow_250 : decode cX9_readWindow 250 = .ok (.ladd, 1) := by decide +kernel
theorem dX9_readWindow_251 : decode cX9_readWindow 251 = .ok (.lload 13, 2) := by decide +kernel
theorem dX9_readWindow_253 : decode cX9_readWindow 253 = .ok (.ladd, 1) := by decide +kernel
theorem dX9_readWindow_254 : decode cX9_readWindow 254 = .ok (.lcmp, 1) := by decide +kernel
theorem dX9_readWindow_255 : decode cX9_readWindow 255 = .ok (.ifCond .eq 10, 3) := by decide +kernel
theorem dX9_readWindow_258 : decode cX9_readWindow 258 = .ok (.aload_n 0, 1) := by decide +kernel
theorem dX9_readWindow_259 : decode cX9_readWindow 259 = .ok (.bipush 8, 2) := by decide +kernel
theorem dX9_readWindow_261 : decode cX9_readWindow 261 = .ok (.iload_n 2, 1) := by decide +kernel
theorem dX9_readWindow_262 : decode cX9_readWindow 262 = .ok (.invokevirtual 191, 3) := by decide +kernel
theorem dX9_readWindow_265 : decode cX9_readWindow 265 = .ok (.aload_n 0, 1) := by decide +kernel
theorem dX9_readWindow_266 : decode cX9_readWindow 266 = .ok (.getfield 179, 3) := by decide +kernel
theorem dX9_readWindow_269 : decode cX9_readWindow 269 = .ok (.ifCond .ne 34, 3) := by decide +kernel
theorem dX9_readWindow_272 : decode cX9_readWindow 272 = .ok (.lload 9, 2) := by decide +kernel
theorem dX9_readWindow_274 : decode cX9_readWindow 274 = .ok (.lload 11, 2) := by decide +kernel
theorem dX9_readWindow_276 : decode cX9_readWindow 276 = .ok (.ladd, 1) := by decide +kernel
theorem dX9_readWindow_277 : decode cX9_readWindow 277 = .ok (.lload 13, 2) := by decide +kernel
theorem dX9_readWindow_279 : decode cX9_readWindow 279 = .ok (.ladd, 1) := by decide +kernel
theorem dX9_readWindow_280 : decode cX9_readWindow 280 = .ok (.aload_n 0, 1) := by decide +kernel
theorem dX9_readWindow_281 : decode cX9_readWindow 281 = .ok (.getfield 188, 3) := by decide +kernel
theorem dX9_readWindow_284 : decode cX9_readWindow 284 = .ok (.aload_n 0, 1) := by decide +kernel
theorem dX9_readWindow_285 : decode cX9_readWindow 285 = .ok (.getfield 185, 3) := by decide +kernel
theorem dX9_readWindow_288 : decode cX9_readWindow 288 = .ok (.isub, 1) := by decide +kernel
theorem dX9_readWindow_289 : decode cX9_readWindow 289 = .ok (.i2l, 1) := by decide +kernel
theorem dX9_readWindow_290 : decode cX9_readWindow 290 = .ok (.lcmp, 1) := by decide +kernel
theorem dX9_readWindow_291 : decode cX9_readWindow 291 = .ok (.ifCond .le 12, 3) := by decide +kernel
theorem dX9_readWindow_294 : decode cX9_readWindow 294 = .ok (.aload_n 0, 1) := by decide +kernel
theorem dX9_readWindow_295 : decode cX9_readWindow 295 = .ok (.iconst 1, 1) := by decide +kernel
theorem dX9_readWindow_296 : decode cX9_readWindow 296 = .ok (.aload_n 0, 1) := by decide +kernel
theorem dX9_readWindow_297 : decode cX9_readWindow 297 = .ok (.getfield 188, 3) := by decide +kernel
theorem dX9_readWindow_300 : decode cX9_readWindow 300 = .ok (.invokevirtual 191, 3) := by decide +kernel
theorem dX9_readWindow_303 : decode cX9_readWindow 303 = .ok (.aload_n 0, 1) := by decide +kernel
theorem dX9_readWindow_304 : decode cX9_readWindow 304 = .ok (.getfield 179, 3) := by decide +kernel
theorem dX9_readWindow_307 : decode cX9_readWindow 307 = .ok (.ifCond .le 4, 3) := by decide +kernel
theorem dX9_readWindow_310 : decode cX9_readWindow 310 = .ok (.return_, 1) := by decide +kernel
theorem dX9_readWindow_311 : decode cX9_readWindow 311 = .ok (.aload_n 0, 1) := by decide +kernel
theorem dX9_readWindow_312 : decode cX9_readWindow 312 = .ok (.aload_n 0, 1) := by decide +kernel
theorem dX9_readWindow_313 : decode cX9_readWindow 313 = .ok (.getfield 221, 3) := by decide +kernel
theorem dX9_readWindow_316 : decode cX9_readWindow 316 = .ok (.putfield 257, 3) := by decide +kernel
theorem dX9_readWindow_319 : decode cX9_readWindow 319 = .ok (.aload_n 0, 1) := by decide +kernel
theorem dX9_readWindow_320 : decode cX9_readWindow 320 = .ok (.lload 6, 2) := by decide +kernel
theorem dX9_readWindow_322 : decode cX9_readWindow 322 = .ok (.l2i, 1) := by decide +kernel
theorem dX9_readWindow_323 : decode cX9_readWindow 323 = .ok (.putfield 260, 3) := by decide +kernel
theorem dX9_readWindow_326 : decode cX9_readWindow 326 = .ok (.aload_n 0, 1) := by decide +kernel
theorem dX9_readWindow_327 : decode cX9_readWindow 327 = .ok (.aload_n 0, 1) := by decide +kernel
theorem dX9_readWindow_328 : decode cX9_readWindow 328 = .ok (.getfield 185, 3) := by decide +kernel
theorem dX9_readWindow_331 : decode cX9_readWindow 331 = .ok (.putfield 263, 3) := by decide +kernel
theorem dX9_readWindow_334 : decode cX9_readWindow 334 = .ok (.aload_n 0, 1) := by decide +kernel
theorem dX9_readWindow_335 : decode cX9_readWindow 335 = .ok (.aload_n 0, 1) := by decide +kernel
theorem dX9_readWindow_336 : decode cX9_readWindow 336 = .ok (.getfield 185, 3) := by decide +kernel
theorem dX9_readWindow_339 : decode cX9_readWindow 339 = .ok (.lload 9, 2) := by decide +kernel
theorem dX9_readWindow_341 : decode cX9_readWindow 341 = .ok (.l2i, 1) := by decide +kernel
theorem dX9_readWindow_342 : decode cX9_readWindow 342 = .ok (.iadd, 1) := by decide +kernel
theorem dX9_readWindow_343 : decode cX9_readWindow 343 = .ok (.putfield 266, 3) := by decide +kernel
theorem dX9_readWindow_346 : decode cX9_readWindow 346 = .ok (.aload_n 0, 1) := by decide +kernel
theorem dX9_readWindow_347 : decode cX9_readWindow 347 = .ok (.aload_n 0, 1) := by decide +kernel
theorem dX9_readWindow_348 : decode cX9_readWindow 348 = .ok (.getfield 266, 3) := by decide +kernel
theorem dX9_readWindow_351 : decode cX9_readWindow 351 = .ok (.putfield 269, 3) := by decide +kernel
theorem dX9_readWindow_354 : decode cX9_readWindow 354 = .ok (.aload_n 0, 1) := by decide +kernel
theorem dX9_readWindow_355 : decode cX9_readWindow 355 = .ok (.aload_n 0, 1) := by decide +kernel
theorem dX9_readWindow_356 : decode cX9_readWindow 356 = .ok (.getfield 269, 3) := by decide +kernel
theorem dX9_readWindow_359 : decode cX9_readWindow 359 = .ok (.lload 11, 2) := by decide +kernel
theorem dX9_readWindow_361 : decode cX9_readWindow 361 = .ok (.l2i, 1) := by decide +kernel
theorem dX9_readWindow_362 : decode cX9_readWindow 362 = .ok (.iadd, 1) := by decide +kernel
theorem dX9_readWindow_363 : decode cX9_readWindow 363 = .ok (.putfield 272, 3) := by decide +kernel
theorem dX9_readWindow_366 : decode cX9_readWindow 366 = .ok (.aload_n 0, 1) := by decide +kernel
theorem dX9_readWindow_367 : decode cX9_readWindow 367 = .ok (.aload_n 0, 1) := by decide +kernel
theorem dX9_readWindow_368 : decode cX9_readWindow 368 = .ok (.getfield 272, 3) := by decide +kernel
theorem dX9_readWindow_371 : decode cX9_readWindow 371 = .ok (.putfield 275, 3) := by decide +kernel
theorem dX9_readWindow_374 : decode cX9_readWindow 374 = .ok (.aload_n 0, 1) := by decide +kernel
theorem dX9_readWindow_375 : decode cX9_readWindow 375 = .ok (.aload_n 0, 1) := by decide +kernel
theorem dX9_readWindow_376 : decode cX9_readWindow 376 = .ok (.getfield 275, 3) := by decide +kernel
theorem dX9_readWindow_379 : decode cX9_readWindow 379 = .ok (.lload 13, 2) := by decide +kernel
theorem dX9_readWindow_381 : decode cX9_readWindow 381 = .ok (.l2i, 1) := by decide +kernel
theorem dX9_readWindow_382 : decode cX9_readWindow 382 = .ok (.iadd, 1) := by decide +kernel
theorem dX9_readWindow_383 : decode cX9_readWindow 383 = .ok (.putfield 278, 3) := by decide +kernel
theorem dX9_readWindow_386 : decode cX9_readWindow 386 = .ok (.aload_n 0, 1) := by decide +kernel
theorem dX9_readWindow_387 : decode cX9_readWindow 387 = .ok (.aload_n 0, 1) := by decide +kernel
theorem dX9_readWindow_388 : decode cX9_readWindow 388 = .ok (.getfield 278, 3) := by decide +kernel
theorem dX9_readWindow_391 : decode cX9_readWindow 391 = .ok (.putfield 185, 3) := by decide +kernel
theorem dX9_readWindow_394 : decode cX9_readWindow 394 = .ok (.aload_n 0, 1) := by decide +kernel
theorem dX9_readWindow_395 : decode cX9_readWindow 395 = .ok (.invokevirtual 281, 3) := by decide +kernel
theorem dX9_readWindow_398 : decode cX9_readWindow 398 = .ok (.return_, 1) := by decide +kernel
theorem dX9_numberIn_0 : decode cX9_numberIn 0 = .ok (.lconst 0, 1) := by decide +kernel
theorem dX9_numberIn_1 : decode cX9_numberIn 1 = .ok (.lstore_n 3, 1) := by decide +kernel
theorem dX9_numberIn_2 : decode cX9_numberIn 2 = .ok (.iload_n 1, 1) := by decide +kernel
theorem dX9_numberIn_3 : decode cX9_numberIn 3 = .ok (.istore 5, 2) := by decide +kernel
theorem dX9_numberIn_5 : decode cX9_numberIn 5 = .ok (.sipush 128, 3) := by decide +kernel
theorem dX9_numberIn_8 : decode cX9_numberIn 8 = .ok (.istore 6, 2) := by decide +kernel
theorem dX9_numberIn_10 : decode cX9_numberIn 10 = .ok (.iconst 0, 1) := by decide +kernel
theorem dX9_numberIn_11 : decode cX9_numberIn 11 = .ok (.istore 7, 2) := by decide +kernel
theorem dX9_numberIn_13 : decode cX9_numberIn 13 = .ok (.iload 7, 2) := by decide +kernel
theorem dX9_numberIn_15 : decode cX9_numberIn 15 = .ok (.iconst 5, 1) := by decide +kernel
theorem dX9_numberIn_16 : decode cX9_numberIn 16 = .ok (.if_icmp .ge 60, 3) := by decide +kernel
theorem dX9_numberIn_19 : decode cX9_numberIn 19 = .ok (.iload 6, 2) := by decide +kernel
theorem dX9_numberIn_21 : decode cX9_numberIn 21 = .ok (.sipush 128, 3) := by decide +kernel
theorem dX9_numberIn_24 : decode cX9_numberIn 24 = .ok (.if_icmp .lt 52, 3) := by decide +kernel
theorem dX9_numberIn_27 : decode cX9_numberIn 27 = .ok (.iload 5, 2) := by decide +kernel
theorem dX9_numberIn_29 : decode cX9_numberIn 29 = .ok (.iload_n 2, 1) := by decide +kernel
theorem dX9_numberIn_30 : decode cX9_numberIn 30 = .ok (.if_icmp .lt 7, 3) := by decide +kernel
theorem dX9_numberIn_33 : decode cX9_numberIn 33 = .ok (.ldc2_w 158, 3) := by decide +kernel
theorem dX9_numberIn_36 : decode cX9_numberIn 36 = .ok (.lreturn, 1) := by decide +kernel
theorem dX9_numberIn_37 : decode cX9_numberIn 37 = .ok (.aload_n 0, 1) := by decide +kernel
theorem dX9_numberIn_38 : decode cX9_numberIn 38 = .ok (.getfield 7, 3) := by decide +kernel
theorem dX9_numberIn_41 : decode cX9_numberIn 41 = .ok (.aload_n 0, 1) := by decide +kernel
theorem dX9_numberIn_42 : decode cX9_numberIn 42 = .ok (.getfield 195, 3) := by decide +kernel
theorem dX9_numberIn_45 : decode cX9_numberIn 45 = .ok (.iload 5, 2) := by decide +kernel
theorem dX9_numberIn_47 : decode cX9_numberIn 47 = .ok (.iadd, 1) := by decide +kernel
theorem dX9_numberIn_48 : decode cX9_numberIn 48 = .ok (.baload, 1) := by decide +kernel
theorem dX9_numberIn_49 : decode cX9_numberIn 49 = .ok (.sipush 255, 3) := by decide +kernel
theorem dX9_numberIn_52 : decode cX9_numberIn 52 = .ok (.iand, 1) := by decide +kernel
theorem dX9_numberIn_53 : decode cX9_numberIn 53 = .ok (.istore 6, 2) := by decide +kernel
theorem dX9_numberIn_55 : decode cX9_numberIn 55 = .ok (.iinc 5 1, 3) := by decide +kernel
theorem dX9_numberIn_58 : decode cX9_numberIn 58 = .ok (.lload_n 3, 1) := by decide +kernel
theorem dX9_numberIn_59 : decode cX9_numberIn 59 = .ok (.bipush 7, 2) := by decide +kernel
theorem dX9_numberIn_61 : decode cX9_numberIn 61 = .ok (.lshl, 1) := by decide +kernel
theorem dX9_numberIn_62 : decode cX9_numberIn 62 = .ok (.iload 6, 2) := by decide +kernel
theorem dX9_numberIn_64 : decode cX9_numberIn 64 = .ok (.bipush 127, 2) := by decide +kernel
theorem dX9_numberIn_66 : decode cX9_numberIn 66 = .ok (.iand, 1) := by decide +kernel
theorem dX9_numberIn_67 : decode cX9_numberIn 67 = .ok (.i2l, 1) := by decide +kernel
theorem dX9_numberIn_68 : decode cX9_numberIn 68 = .ok (.lor, 1) := by decide +kernel
theorem dX9_numberIn_69 : decode cX9_numberIn 69 = .ok (.lstore_n 3, 1) := by decide +kernel
theorem dX9_numberIn_70 : decode cX9_numberIn 70 = .ok (.iinc 7 1, 3) := by decide +kernel
theorem dX9_numberIn_73 : decode cX9_numberIn 73 = .ok (.goto (-60), 3) := by decide +kernel
theorem dX9_numberIn_76 : decode cX9_numberIn 76 = .ok (.aload_n 0, 1) := by decide +kernel
theorem dX9_numberIn_77 : decode cX9_numberIn 77 = .ok (.iload 5, 2) := by decide +kernel
theorem dX9_numberIn_79 : decode cX9_numberIn 79 = .ok (.putfield 284, 3) := by decide +kernel
theorem dX9_numberIn_82 : decode cX9_numberIn 82 = .ok (.iload 6, 2) := by decide +kernel
theorem dX9_numberIn_84 : decode cX9_numberIn 84 = .ok (.sipush 128, 3) := by decide +kernel
theorem dX9_numberIn_87 : decode cX9_numberIn 87 = .ok (.if_icmp .ge 11, 3) := by decide +kernel
theorem dX9_numberIn_90 : decode cX9_numberIn 90 = .ok (.lload_n 3, 1) := by decide +kernel
theorem dX9_numberIn_91 : decode cX9_numberIn 91 = .ok (.ldc2_w 202, 3) := by decide +kernel
theorem dX9_numberIn_94 : decode cX9_numberIn 94 = .ok (.lcmp, 1) := by decide +kernel
theorem dX9_numberIn_95 : decode cX9_numberIn 95 = .ok (.ifCond .le 9, 3) := by decide +kernel
theorem dX9_numberIn_98 : decode cX9_numberIn 98 = .ok (.ldc2_w 158, 3) := by decide +kernel
theorem dX9_numberIn_101 : decode cX9_numberIn 101 = .ok (.goto 4, 3) := by decide +kernel
theorem dX9_numberIn_104 : decode cX9_numberIn 104 = .ok (.lload_n 3, 1) := by decide +kernel
theorem dX9_numberIn_105 : decode cX9_numberIn 105 = .ok (.lreturn, 1) := by decide +kernel
theorem dX9_sections_0 : decode cX9_sections 0 = .ok (.aload_n 0, 1) := by decide +kernel
theorem dX9_sections_1 : decode cX9_sections 1 = .ok (.invokevirtual 287, 3) := by decide +kernel
theorem dX9_sections_4 : decode cX9_sections 4 = .ok (.aload_n 0, 1) := by decide +kernel
theorem dX9_sections_5 : decode cX9_sections 5 = .ok (.getfield 179, 3) := by decide +kernel
theorem dX9_sections_8 : decode cX9_sections 8 = .ok (.ifCond .ne 87, 3) := by decide +kernel
theorem dX9_sections_11 : decode cX9_sections 11 = .ok (.aload_n 0, 1) := by decide +kernel
theorem dX9_sections_12 : decode cX9_sections 12 = .ok (.getfield 269, 3) := by decide +kernel
theorem dX9_sections_15 : decode cX9_sections 15 = .ok (.aload_n 0, 1) := by decide +kernel
theorem dX9_sections_16 : decode cX9_sections 16 = .ok (.getfield 272, 3) := by decide +kernel
theorem dX9_sections_19 : decode cX9_sections 19 = .ok (.if_icmp .ge 76, 3) := by decide +kernel
theorem dX9_sections_22 : decode cX9_sections 22 = .ok (.aload_n 0, 1) := by decide +kernel
theorem dX9_sections_23 : decode cX9_sections 23 = .ok (.getfield 269, 3) := by decide +kernel
theorem dX9_sections_26 : decode cX9_sections 26 = .ok (.istore_n 1, 1) := by decide +kernel
theorem dX9_sections_27 : decode cX9_sections 27 = .ok (.aload_n 0, 1) := by decide +kernel
theorem dX9_sections_28 : decode cX9_sections 28 = .ok (.getfield 7, 3) := by decide +kernel
theorem dX9_sections_31 : decode cX9_sections 31 = .ok (.aload_n 0, 1) := by decide +kernel
theorem dX9_sections_32 : decode cX9_sections 32 = .ok (.getfield 195, 3) := by decide +kernel
theorem dX9_sections_35 : decode cX9_sections 35 = .ok (.aload_n 0, 1) := by decide +kernel
theorem dX9_sections_36 : decode cX9_sections 36 = .ok (.getfield 269, 3) := by decide +kernel
theorem dX9_sections_39 : decode cX9_sections 39 = .ok (.iadd, 1) := by decide +kernel
theorem dX9_sections_40 : decode cX9_sections 40 = .ok (.baload, 1) := by decide +kernel
theorem dX9_sections_41 : decode cX9_sections 41 = .ok (.sipush 255, 3) := by decide +kernel
theorem dX9_sections_44 : decode cX9_sections 44 = .ok (.iand, 1) := by decide +kernel
theorem dX9_sections_45 : decode cX9_sections 45 = .ok (.istore_n 2, 1) := by decide +kernel
theorem dX9_sections_46 : decode cX9_sections 46 = .ok (.aload_n 0, 1) := by decide +kernel
theorem dX9_sections_47 : decode cX9_sections 47 = .ok (.dup, 1) := by decide +kernel
theorem dX9_sections_48 : decode cX9_sections 48 = .ok (.getfield 269, 3) := by decide +kernel
theorem dX9_sections_51 : decode cX9_sections 51 = .ok (.iconst 1, 1) := by decide +kernel
theorem dX9_sections_52 : decode cX9_sections 52 = .ok (.iadd, 1) := by decide +kernel
theorem dX9_sections_53 : decode cX9_sections 53 = .ok (.putfield 269, 3) := by decide +kernel
theorem dX9_sections_56 : decode cX9_sections 56 = .ok (.iconst 0, 1) := by decide +kernel
theorem dX9_sections_57 : decode cX9_sections 57 = .ok (.istore_n 3, 1) := by decide +kernel
theorem dX9_sections_58 : decode cX9_sections 58 = .ok (.iload_n 3, 1) := by decide +kernel
theorem dX9_sections_59 : decode cX9_sections 59 = .ok (.iconst 2, 1) := by decide +kernel
theorem dX9_sections_60 : decode cX9_sections 60 = .ok (.if_icmp .ge 32, 3) := by decide +kernel
theorem dX9_sections_63 : decode cX9_sections 63 = .ok (.aload_n 0, 1) := by decide +kernel
theorem dX9_sections_64 : decode cX9_sections 64 = .ok (.getfield 179, 3) := by decide +kernel
theorem dX9_sections_67 : decode cX9_sections 67 = .ok (.ifCond .ne 25, 3) := by decide +kernel
theorem dX9_sections_70 : decode cX9_sections 70 = .ok (.aload_n 0, 1) := by decide +kernel
theorem dX9_sections_71 : decode cX9_sections 71 = .ok (.iload_n 2, 1) := by decide +kernel
theorem dX9_sections_72 : decode cX9_sections 72 = .ok (.iload_n 3, 1) := by decide +kernel
theorem dX9_sections_73 : decode cX9_sections 73 = .ok (.invokevirtual 290, 3) := by decide +kernel
theorem dX9_sections_76 : decode cX9_sections 76 = .ok (.ifCond .le 10, 3) := by decide +kernel
theorem dX9_sections_79 : decode cX9_sections 79 = .ok (.aload_n 0, 1) := by decide +kernel
theorem dX9_sections_80 : decode cX9_sections 80 = .ok (.iload_n 2, 1) := by decide +kernel
theorem dX9_sections_81 : decode cX9_sections 81 = .ok (.iload_n 3, 1) := by decide +kernel
theorem dX9_sections_82 : decode cX9_sections 82 = .ok (.iload_n 1, 1) := by decide +kernel
theorem dX9_sections_83 : decode cX9_sections 83 = .ok (.invokevirtual 294, 3) := by decide +kernel
theorem dX9_sections_86 : decode cX9_sections 86 = .ok (.iinc 3 1, 3) := by decide +kernel
theorem dX9_sections_89 : decode cX9_sections 89 = .ok (.goto (-31), 3) := by decide +kernel
theorem dX9_sections_92 : decode cX9_sections 92 = .ok (.goto (-88), 3) := by decide +kernel
theorem dX9_sections_95 : decode cX9_sections 95 = .ok (.aload_n 0, 1) := by decide +kernel
theorem dX9_sections_96 : decode cX9_sections 96 = .ok (.getfield 179, 3) := by decide +kernel
theorem dX9_sections_99 : decode cX9_sections 99 = .ok (.ifCond .ne 29, 3) := by decide +kernel
theorem dX9_sections_102 : decode cX9_sections 102 = .ok (.aload_n 0, 1) := by decide +kernel
theorem dX9_sections_103 : decode cX9_sections 103 = .ok (.getfield 221, 3) := by decide +kernel
theorem dX9_sections_106 : decode cX9_sections 106 = .ok (.aload_n 0, 1) := by decide +kernel
theorem dX9_sections_107 : decode cX9_sections 107 = .ok (.getfield 257, 3) := by decide +kernel
theorem dX9_sections_110 : decode cX9_sections 110 = .ok (.isub, 1) := by decide +kernel
theorem dX9_sections_111 : decode cX9_sections 111 = .ok (.aload_n 0, 1) := by decide +kernel
theorem dX9_sections_112 : decode cX9_sections 112 = .ok (.getfield 260, 3) := by decide +kernel
theorem dX9_sections_115 : decode cX9_sections 115 = .ok (.if_icmp .ge 13, 3) := by decide +kernel
theorem dX9_sections_118 : decode cX9_sections 118 = .ok (.aload_n 0, 1) := by decide +kernel
theorem dX9_sections_119 : decode cX9_sections 119 = .ok (.bipush 16, 2) := by decide +kernel
theorem dX9_sections_121 : decode cX9_sections 121 = .ok (.aload_n 0, 1) := by decide +kernel
theorem dX9_sections_122 : decode cX9_sections 122 = .ok (.getfield 185, 3) := by decide +kernel
theorem dX9_sections_125 : decode cX9_sections 125 = .ok (.invokevirtual 191, 3) := by decide +kernel
theorem dX9_sections_128 : decode cX9_sections 128 = .ok (.aload_n 0, 1) := by decide +kernel
theorem dX9_sections_129 : decode cX9_sections 129 = .ok (.getfield 179, 3) := by decide +kernel
theorem dX9_sections_132 : decode cX9_sections 132 = .ok (.ifCond .ne 35, 3) := by decide +kernel
theorem dX9_sections_135 : decode cX9_sections 135 = .ok (.aload_n 0, 1) := by decide +kernel
theorem dX9_sections_136 : decode cX9_sections 136 = .ok (.getfield 263, 3) := by decide +kernel
theorem dX9_sections_139 : decode cX9_sections 139 = .ok (.aload_n 0, 1) := by decide +kernel
theorem dX9_sections_140 : decode cX9_sections 140 = .ok (.getfield 266, 3) := by decide +kernel
theorem dX9_sections_143 : decode cX9_sections 143 = .ok (.if_icmp .lt 14, 3) := by decide +kernel
theorem dX9_sections_146 : decode cX9_sections 146 = .ok (.aload_n 0, 1) := by decide +kernel
theorem dX9_sections_147 : decode cX9_sections 147 = .ok (.getfield 275, 3) := by decide +kernel
theorem dX9_sections_150 : decode cX9_sections 150 = .ok (.aload_n 0, 1) := by decide +kernel
theorem dX9_sections_151 : decode cX9_sections 151 = .ok (.getfield 278, 3) := by decide +kernel
theorem dX9_sections_154 : decode cX9_sections 154 = .ok (.if_icmp .ge 13, 3) := by decide +kernel
theorem dX9_sections_157 : decode cX9_sections 157 = .ok (.aload_n 0, 1) := by decide +kernel
theorem dX9_sections_158 : decode cX9_sections 158 = .ok (.bipush 17, 2) := by decide +kernel
theorem dX9_sections_160 : decode cX9_sections 160 = .ok (.aload_n 0, 1) := by decide +kernel
theorem dX9_sections_161 : decode cX9_sections 161 = .ok (.getfield 185, 3) := by decide +kernel
theorem dX9_sections_164 : decode cX9_sections 164 = .ok (.invokevirtual 191, 3) := by decide +kernel
theorem dX9_sections_167 : decode cX9_sections 167 = .ok (.return_, 1) := by decide +kernel
theorem dX9_part_0 : decode cX9_part 0 = .ok (.aload_n 0, 1) := by decide +kernel
theorem dX9_part_1 : decode cX9_part 1 = .ok (.iload_n 1, 1) := by decide +kernel
theorem dX9_part_2 : decode cX9_part 2 = .ok (.iload_n 2, 1) := by decide +kernel
theorem dX9_part_3 : decode cX9_part 3 = .ok (.invokevirtual 298, 3) := by decide +kernel
theorem dX9_part_6 : decode cX9_part 6 = .ok (.i2l, 1) := by decide +kernel
theorem dX9_part_7 : decode cX9_part 7 = .ok (.lstore 4, 2) := by decide +kernel
theorem dX9_part_9 : decode cX9_part 9 = .ok (.lload 4, 2) := by decide +kernel
theorem dX9_part_11 : decode cX9_part 11 = .ok (.lconst 0, 1) := by decide +kernel
theorem dX9_part_12 : decode cX9_part 12 = .ok (.lcmp, 1) := by decide +kernel
