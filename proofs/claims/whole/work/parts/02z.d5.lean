theorem dX12_init_0 : decode cX12_init 0 = .ok (.aload_n 0, 1) := by decide +kernel
theorem dX12_init_1 : decode cX12_init 1 = .ok (.invokespecial 1, 3) := by decide +kernel
theorem dX12_init_4 : decode cX12_init 4 = .ok (.aload_n 0, 1) := by decide +kernel
theorem dX12_init_5 : decode cX12_init 5 = .ok (.iconst 1, 1) := by decide +kernel
theorem dX12_init_6 : decode cX12_init 6 = .ok (.putfield 7, 3) := by decide +kernel
theorem dX12_init_9 : decode cX12_init 9 = .ok (.aload_n 0, 1) := by decide +kernel
theorem dX12_init_10 : decode cX12_init 10 = .ok (.sipush 9999, 3) := by decide +kernel
theorem dX12_init_13 : decode cX12_init 13 = .ok (.putfield 13, 3) := by decide +kernel
theorem dX12_init_16 : decode cX12_init 16 = .ok (.aload_n 0, 1) := by decide +kernel
theorem dX12_init_17 : decode cX12_init 17 = .ok (.bipush 10, 2) := by decide +kernel
theorem dX12_init_19 : decode cX12_init 19 = .ok (.putfield 16, 3) := by decide +kernel
theorem dX12_init_22 : decode cX12_init 22 = .ok (.aload_n 0, 1) := by decide +kernel
theorem dX12_init_23 : decode cX12_init 23 = .ok (.bipush 10, 2) := by decide +kernel
theorem dX12_init_25 : decode cX12_init 25 = .ok (.putfield 19, 3) := by decide +kernel
theorem dX12_init_28 : decode cX12_init 28 = .ok (.aload_n 0, 1) := by decide +kernel
theorem dX12_init_29 : decode cX12_init 29 = .ok (.bipush 12, 2) := by decide +kernel
theorem dX12_init_31 : decode cX12_init 31 = .ok (.newarray .long, 2) := by decide +kernel
theorem dX12_init_33 : decode cX12_init 33 = .ok (.putfield 22, 3) := by decide +kernel
theorem dX12_init_36 : decode cX12_init 36 = .ok (.aload_n 0, 1) := by decide +kernel
theorem dX12_init_37 : decode cX12_init 37 = .ok (.bipush 12, 2) := by decide +kernel
theorem dX12_init_39 : decode cX12_init 39 = .ok (.newarray .long, 2) := by decide +kernel
theorem dX12_init_41 : decode cX12_init 41 = .ok (.putfield 26, 3) := by decide +kernel
theorem dX12_init_44 : decode cX12_init 44 = .ok (.aload_n 0, 1) := by decide +kernel
theorem dX12_init_45 : decode cX12_init 45 = .ok (.bipush 12, 2) := by decide +kernel
theorem dX12_init_47 : decode cX12_init 47 = .ok (.newarray .int, 2) := by decide +kernel
theorem dX12_init_49 : decode cX12_init 49 = .ok (.putfield 29, 3) := by decide +kernel
theorem dX12_init_52 : decode cX12_init 52 = .ok (.aload_n 0, 1) := by decide +kernel
theorem dX12_init_53 : decode cX12_init 53 = .ok (.bipush 12, 2) := by decide +kernel
theorem dX12_init_55 : decode cX12_init 55 = .ok (.newarray .int, 2) := by decide +kernel
theorem dX12_init_57 : decode cX12_init 57 = .ok (.putfield 33, 3) := by decide +kernel
theorem dX12_init_60 : decode cX12_init 60 = .ok (.aload_n 0, 1) := by decide +kernel
theorem dX12_init_61 : decode cX12_init 61 = .ok (.bipush 36, 2) := by decide +kernel
theorem dX12_init_63 : decode cX12_init 63 = .ok (.newarray .int, 2) := by decide +kernel
theorem dX12_init_65 : decode cX12_init 65 = .ok (.putfield 36, 3) := by decide +kernel
theorem dX12_init_68 : decode cX12_init 68 = .ok (.aload_n 0, 1) := by decide +kernel
theorem dX12_init_69 : decode cX12_init 69 = .ok (.bipush 36, 2) := by decide +kernel
theorem dX12_init_71 : decode cX12_init 71 = .ok (.newarray .int, 2) := by decide +kernel
theorem dX12_init_73 : decode cX12_init 73 = .ok (.putfield 39, 3) := by decide +kernel
theorem dX12_init_76 : decode cX12_init 76 = .ok (.aload_n 0, 1) := by decide +kernel
theorem dX12_init_77 : decode cX12_init 77 = .ok (.bipush 16, 2) := by decide +kernel
theorem dX12_init_79 : decode cX12_init 79 = .ok (.newarray .int, 2) := by decide +kernel
theorem dX12_init_81 : decode cX12_init 81 = .ok (.putfield 42, 3) := by decide +kernel
theorem dX12_init_84 : decode cX12_init 84 = .ok (.aload_n 0, 1) := by decide +kernel
theorem dX12_init_85 : decode cX12_init 85 = .ok (.bipush 16, 2) := by decide +kernel
theorem dX12_init_87 : decode cX12_init 87 = .ok (.newarray .int, 2) := by decide +kernel
theorem dX12_init_89 : decode cX12_init 89 = .ok (.putfield 45, 3) := by decide +kernel
theorem dX12_init_92 : decode cX12_init 92 = .ok (.aload_n 0, 1) := by decide +kernel
theorem dX12_init_93 : decode cX12_init 93 = .ok (.bipush 16, 2) := by decide +kernel
theorem dX12_init_95 : decode cX12_init 95 = .ok (.newarray .int, 2) := by decide +kernel
theorem dX12_init_97 : decode cX12_init 97 = .ok (.putfield 48, 3) := by decide +kernel
theorem dX12_init_100 : decode cX12_init 100 = .ok (.aload_n 0, 1) := by decide +kernel
theorem dX12_init_101 : decode cX12_init 101 = .ok (.bipush 16, 2) := by decide +kernel
theorem dX12_init_103 : decode cX12_init 103 = .ok (.newarray .int, 2) := by decide +kernel
theorem dX12_init_105 : decode cX12_init 105 = .ok (.putfield 51, 3) := by decide +kernel
theorem dX12_init_108 : decode cX12_init 108 = .ok (.aload_n 0, 1) := by decide +kernel
theorem dX12_init_109 : decode cX12_init 109 = .ok (.bipush 16, 2) := by decide +kernel
theorem dX12_init_111 : decode cX12_init 111 = .ok (.newarray .int, 2) := by decide +kernel
theorem dX12_init_113 : decode cX12_init 113 = .ok (.putfield 54, 3) := by decide +kernel
theorem dX12_init_116 : decode cX12_init 116 = .ok (.aload_n 0, 1) := by decide +kernel
theorem dX12_init_117 : decode cX12_init 117 = .ok (.bipush 16, 2) := by decide +kernel
theorem dX12_init_119 : decode cX12_init 119 = .ok (.newarray .int, 2) := by decide +kernel
theorem dX12_init_121 : decode cX12_init 121 = .ok (.putfield 57, 3) := by decide +kernel
theorem dX12_init_124 : decode cX12_init 124 = .ok (.aload_n 0, 1) := by decide +kernel
theorem dX12_init_125 : decode cX12_init 125 = .ok (.bipush 16, 2) := by decide +kernel
theorem dX12_init_127 : decode cX12_init 127 = .ok (.newarray .int, 2) := by decide +kernel
theorem dX12_init_129 : decode cX12_init 129 = .ok (.putfield 60, 3) := by decide +kernel
theorem dX12_init_132 : decode cX12_init 132 = .ok (.aload_n 0, 1) := by decide +kernel
theorem dX12_init_133 : decode cX12_init 133 = .ok (.bipush 16, 2) := by decide +kernel
theorem dX12_init_135 : decode cX12_init 135 = .ok (.newarray .int, 2) := by decide +kernel
theorem dX12_init_137 : decode cX12_init 137 = .ok (.putfield 63, 3) := by decide +kernel
theorem dX12_init_140 : decode cX12_init 140 = .ok (.aload_n 0, 1) := by decide +kernel
theorem dX12_init_141 : decode cX12_init 141 = .ok (.sipush 900, 3) := by decide +kernel
theorem dX12_init_144 : decode cX12_init 144 = .ok (.newarray .byte, 2) := by decide +kernel
theorem dX12_init_146 : decode cX12_init 146 = .ok (.putfield 66, 3) := by decide +kernel
theorem dX12_init_149 : decode cX12_init 149 = .ok (.aload_n 0, 1) := by decide +kernel
theorem dX12_init_150 : decode cX12_init 150 = .ok (.iconst (-1), 1) := by decide +kernel
theorem dX12_init_151 : decode cX12_init 151 = .ok (.putfield 70, 3) := by decide +kernel
theorem dX12_init_154 : decode cX12_init 154 = .ok (.aload_n 0, 1) := by decide +kernel
theorem dX12_init_155 : decode cX12_init 155 = .ok (.iconst (-1), 1) := by decide +kernel
theorem dX12_init_156 : decode cX12_init 156 = .ok (.putfield 73, 3) := by decide +kernel
theorem dX12_init_159 : decode cX12_init 159 = .ok (.aload_n 0, 1) := by decide +kernel
theorem dX12_init_160 : decode cX12_init 160 = .ok (.bipush 9, 2) := by decide +kernel
theorem dX12_init_162 : decode cX12_init 162 = .ok (.newarray .int, 2) := by decide +kernel
theorem dX12_init_164 : decode cX12_init 164 = .ok (.putfield 76, 3) := by decide +kernel
theorem dX12_init_167 : decode cX12_init 167 = .ok (.aload_n 0, 1) := by decide +kernel
theorem dX12_init_168 : decode cX12_init 168 = .ok (.bipush 120, 2) := by decide +kernel
theorem dX12_init_170 : decode cX12_init 170 = .ok (.newarray .int, 2) := by decide +kernel
theorem dX12_init_172 : decode cX12_init 172 = .ok (.putfield 79, 3) := by decide +kernel
theorem dX12_init_175 : decode cX12_init 175 = .ok (.aload_n 0, 1) := by decide +kernel
theorem dX12_init_176 : decode cX12_init 176 = .ok (.bipush 120, 2) := by decide +kernel
theorem dX12_init_178 : decode cX12_init 178 = .ok (.newarray .int, 2) := by decide +kernel
theorem dX12_init_180 : decode cX12_init 180 = .ok (.putfield 82, 3) := by decide +kernel
theorem dX12_init_183 : decode cX12_init 183 = .ok (.aload_n 0, 1) := by decide +kernel
theorem dX12_init_184 : decode cX12_init 184 = .ok (.bipush 120, 2) := by decide +kernel
theorem dX12_init_186 : decode cX12_init 186 = .ok (.newarray .int, 2) := by decide +kernel
theorem dX12_init_188 : decode cX12_init 188 = .ok (.putfield 85, 3) := by decide +kernel
theorem dX12_init_191 : decode cX12_init 191 = .ok (.aload_n 0, 1) := by decide +kernel
theorem dX12_init_192 : decode cX12_init 192 = .ok (.bipush 120, 2) := by decide +kernel
theorem dX12_init_194 : decode cX12_init 194 = .ok (.newarray .int, 2) := by decide +kernel
theorem dX12_init_196 : decode cX12_init 196 = .ok (.putfield 88, 3) := by decide +kernel
theorem dX12_init_199 : decode cX12_init 199 = .ok (.aload_n 0, 1) := by decide +kernel
theorem dX12_init_200 : decode cX12_init 200 = .ok (.bipush 24, 2) := by decide +kernel
theorem dX12_init_202 : decode cX12_init 202 = .ok (.newarray .int, 2) := by decide +kernel
theorem dX12_init_204 : decode cX12_init 204 = .ok (.putfield 91, 3) := by decide +kernel
theorem dX12_init_207 : decode cX12_init 207 = .ok (.aload_n 0, 1) := by decide +kernel
theorem dX12_init_208 : decode cX12_init 208 = .ok (.bipush 24, 2) := by decide +kernel
theorem dX12_init_210 : decode cX12_init 210 = .ok (.newarray .int, 2) := by decide +kernel
theorem dX12_init_212 : decode cX12_init 212 = .ok (.putfield 94, 3) := by decide +kernel
theorem dX12_init_215 : decode cX12_init 215 = .ok (.aload_n 0, 1) := by decide +kernel
theorem dX12_init_216 : decode cX12_init 216 = .ok (.bipush 24, 2) := by decide +kernel
theorem dX12_init_218 : decode cX12_init 218 = .ok (.newarray .int, 2) := by decide +kernel
theorem dX12_init_220 : decode cX12_init 220 = .ok (.putfield 97, 3) := by decide +kernel
theorem dX12_init_223 : decode cX12_init 223 = .ok (.aload_n 0, 1) := by decide +kernel
theorem dX12_init_224 : decode cX12_init 224 = .ok (.sipush 144, 3) := by decide +kernel
theorem dX12_init_227 : decode cX12_init 227 = .ok (.newarray .int, 2) := by decide +kernel
theorem dX12_init_229 : decode cX12_init 229 = .ok (.putfield 100, 3) := by decide +kernel
theorem dX12_init_232 : decode cX12_init 232 = .ok (.aload_n 0, 1) := by decide +kernel
theorem dX12_init_233 : decode cX12_init 233 = .ok (.bipush 24, 2) := by decide +kernel
theorem dX12_init_235 : decode cX12_init 235 = .ok (.newarray .boolean, 2) := by decide +kernel
theorem dX12_init_237 : decode cX12_init 237 = .ok (.putfield 103, 3) := by decide +kernel
theorem dX12_init_240 : decode cX12_init 240 = .ok (.aload_n 0, 1) := by decide +kernel
theorem dX12_init_241 : decode cX12_init 241 = .ok (.iconst 4, 1) := by decide +kernel
theorem dX12_init_242 : decode cX12_init 242 = .ok (.newarray .int, 2) := by decide +kernel
theorem dX12_init_244 : decode cX12_init 244 = .ok (.putfield 107, 3) := by decide +kernel
theorem dX12_init_247 : decode cX12_init 247 = .ok (.aload_n 0, 1) := by decide +kernel
theorem dX12_init_248 : decode cX12_init 248 = .ok (.iconst 4, 1) := by decide +kernel
theorem dX12_init_249 : decode cX12_init 249 = .ok (.newarray .int, 2) := by decide +kernel
theorem dX12_init_251 : decode cX12_init 251 = .ok (.putfield 110, 3) := by decide +kernel
theorem dX12_init_254 : decode cX12_init 254 = .ok (.aload_n 0, 1) := by decide +kernel
theorem dX12_init_255 : decode cX12_init 255 = .ok (.iconst 4, 1) := by decide +kernel
theorem dX12_init_256 : decode cX12_init 256 = .ok (.newarray .int, 2) := by decide +kernel
theorem dX12_init_258 : decode cX12_init 258 = .ok (.putfield 113, 3) := by decide +kernel
theorem dX12_init_261 : decode cX12_init 261 = .ok (.aload_n 0, 1) := by decide +kernel
theorem dX12_init_262 : decode cX12_init 262 = .ok (.iconst 4, 1) := by decide +kernel
theorem dX12_init_263 : decode cX12_init 263 = .ok (.newarray .int, 2) := by decide +kernel
theorem dX12_init_265 : decode cX12_init 265 = .ok (.putfield 116, 3) := by decide +kernel
theorem dX12_init_268 : decode cX12_init 268 = .ok (.aload_n 0, 1) := by decide +kernel
theorem dX12_init_269 : decode cX12_init 269 = .ok (.iconst 4, 1) := by decide +kernel
theorem dX12_init_270 : decode cX12_init 270 = .ok (.newarray .int, 2) := by decide +kernel
theorem dX12_init_272 : decode cX12_init 272 = .ok (.putfield 119, 3) := by decide +kernel
theorem dX12_init_275 : decode cX12_init 275 = .ok (.aload_n 0, 1) := by decide +kernel
theorem dX12_init_276 : decode cX12_init 276 = .ok (.iconst 4, 1) := by decide +kernel
theorem dX12_init_277 : decode cX12_init 277 = .ok (.newarray .long, 2) := by decide +kernel
theorem dX12_init_279 : decode cX12_init 279 = .ok (.putfield 122, 3) := by decide +kernel
theorem dX12_init_282 : decode cX12_init 282 = .ok (.aload_n 0, 1) := by decide +kernel
theorem dX12_init_283 : decode cX12_init 283 = .ok (.bipush 48, 2) := by decide +kernel
theorem dX12_init_285 : decode cX12_init 285 = .ok (.newarray .int, 2) := by decide +kernel
theorem dX12_init_287 : decode cX12_init 287 = .ok (.putfield 125, 3) := by decide +kernel
theorem dX12_init_290 : decode cX12_init 290 = .ok (.aload_n 0, 1) := by decide +kernel
theorem dX12_init_291 : decode cX12_init 291 = .ok (.sipush 256, 3) := by decide +kernel
theorem dX12_init_294 : decode cX12_init 294 = .ok (.newarray .int, 2) := by decide +kernel
theorem dX12_init_296 : decode cX12_init 296 = .ok (.putfield 128, 3) := by decide +kernel
theorem dX12_init_299 : decode cX12_init 299 = .ok (.aload_n 0, 1) := by decide +kernel
theorem dX12_init_300 : decode cX12_init 300 = .ok (.sipush 256, 3) := by decide +kernel
theorem dX12_init_303 : decode cX12_init 303 = .ok (.newarray .int, 2) := by decide +kernel
theorem dX12_init_305 : decode cX12_init 305 = .ok (.putfield 131, 3) := by decide +kernel
theorem dX12_init_308 : decode cX12_init 308 = .ok (.aload_n 0, 1) := by decide +kernel
theorem dX12_init_309 : decode cX12_init 309 = .ok (.sipush 1728, 3) := by decide +kernel
theorem dX12_init_312 : decode cX12_init 312 = .ok (.newarray .boolean, 2) := by decide +kernel
theorem dX12_init_314 : decode cX12_init 314 = .ok (.putfield 134, 3) := by decide +kernel
theorem dX12_init_317 : decode cX12_init 317 = .ok (.aload_n 0, 1) := by decide +kernel
theorem dX12_init_318 : decode cX12_init 318 = .ok (.sipush 1728, 3) := by decide +kernel
theorem dX12_init_321 : decode cX12_init 321 = .ok (.newarray .long, 2) := by decide +kernel
theorem dX12_init_323 : decode cX12_init 323 = .ok (.putfield 137, 3) := by decide +kernel
theorem dX12_init_326 : decode cX12_init 326 = .ok (.aload_n 0, 1) := by decide +kernel
theorem dX12_init_327 : decode cX12_init 327 = .ok (.sipush 1728, 3) := by decide +kernel
theorem dX12_init_330 : decode cX12_init 330 = .ok (.newarray .long, 2) := by decide +kernel
theorem dX12_init_332 : decode cX12_init 332 = .ok (.putfield 140, 3) := by decide +kernel
theorem dX12_init_335 : decode cX12_init 335 = .ok (.aload_n 0, 1) := by decide +kernel
theorem dX12_init_336 : decode cX12_init 336 = .ok (.sipush 1728, 3) := by decide +kernel
theorem dX12_init_339 : decode cX12_init 339 = .ok (.newarray .long, 2) := by decide +kernel
theorem dX12_init_341 : decode cX12_init 341 = .ok (.putfield 143, 3) := by decide +kernel
theorem dX12_init_344 : decode cX12_init 344 = .ok (.aload_n 0, 1) := by decide +kernel
theorem dX12_init_345 : decode cX12_init 345 = .ok (.sipush 441, 3) := by decide +kernel
theorem dX12_init_348 : decode cX12_init 348 = .ok (.newarray .long, 2) := by decide +kernel
theorem dX12_init_350 : decode cX12_init 350 = .ok (.putfield 146, 3) := by decide +kernel
theorem dX12_init_353 : decode cX12_init 353 = .ok (.aload_n 0, 1) := by decide +kernel
theorem dX12_init_354 : decode cX12_init 354 = .ok (.sipush 441, 3) := by decide +kernel
theorem dX12_init_357 : decode cX12_init 357 = .ok (.newarray .long, 2) := by decide +kernel
theorem dX12_init_359 : decode cX12_init 359 = .ok (.putfield 149, 3) := by decide +kernel
theorem dX12_init_362 : decode cX12_init 362 = .ok (.aload_n 0, 1) := by decide +kernel
theorem dX12_init_363 : decode cX12_init 363 = .ok (.iconst 4, 1) := by decide +kernel
theorem dX12_init_364 : decode cX12_init 364 = .ok (.newarray .long, 2) := by decide +kernel
theorem dX12_init_366 : decode cX12_init 366 = .ok (.putfield 152, 3) := by decide +kernel
theorem dX12_init_369 : decode cX12_init 369 = .ok (.aload_n 0, 1) := by decide +kernel
theorem dX12_init_370 : decode cX12_init 370 = .ok (.iconst 4, 1) := by decide +kernel
theorem dX12_init_371 : decode cX12_init 371 = .ok (.newarray .long, 2) := by decide +kernel
theorem dX12_init_373 : decode cX12_init 373 = .ok (.putfield 155, 3) := by decide +kernel
theorem dX12_init_376 : decode cX12_init 376 = .ok (.aload_n 0, 1) := by decide +kernel
theorem dX12_init_377 : decode cX12_init 377 = .ok (.iconst 4, 1) := by decide +kernel
theorem dX12_init_378 : decode cX12_init 378 = .ok (.newarray .int, 2) := by decide +kernel
theorem dX12_init_380 : decode cX12_init 380 = .ok (.putfield 158, 3) := by decide +kernel
theorem dX12_init_383 : decode cX12_init 383 = .ok (.aload_n 0, 1) := by decide +kernel
theorem dX12_init_384 : decode cX12_init 384 = .ok (.bipush 12, 2) := by decide +kernel
theorem dX12_init_386 : decode cX12_init 386 = .ok (.newarray .int, 2) := by decide +kernel
theorem dX12_init_388 : decode cX12_init 388 = .ok (.putfield 161, 3) := by decide +kernel
theorem dX12_init_391 : decode cX12_init 391 = .ok (.aload_n 0, 1) := by decide +kernel
theorem dX12_init_392 : decode cX12_init 392 = .ok (.iconst 4, 1) := by decide +kernel
theorem dX12_init_393 : decode cX12_init 393 = .ok (.newarray .int, 2) := by decide +kernel
theorem dX12_init_395 : decode cX12_init 395 = .ok (.putfield 164, 3) := by decide +kernel
theorem dX12_init_398 : decode cX12_init 398 = .ok (.aload_n 0, 1) := by decide +kernel
theorem dX12_init_399 : decode cX12_init 399 = .ok (.iconst 4, 1) := by decide +kernel
theorem dX12_init_400 : decode cX12_init 400 = .ok (.newarray .int, 2) := by decide +kernel
theorem dX12_init_402 : decode cX12_init 402 = .ok (.putfield 167, 3) := by decide +kernel
theorem dX12_init_405 : decode cX12_init 405 = .ok (.aload_n 0, 1) := by decide +kernel
theorem dX12_init_406 : decode cX12_init 406 = .ok (.iconst 4, 1) := by decide +kernel
theorem dX12_init_407 : decode cX12_init 407 = .ok (.newarray .int, 2) := by decide +kernel
theorem dX12_init_409 : decode cX12_init 409 = .ok (.putfield 170, 3) := by decide +kernel
theorem dX12_init_412 : decode cX12_init 412 = .ok (.aload_n 0, 1) := by decide +kernel
theorem dX12_init_413 : decode cX12_init 413 = .ok (.bipush 16, 2) := by decide +kernel
theorem dX12_init_415 : decode cX12_init 415 = .ok (.newarray .int, 2) := by decide +kernel
theorem dX12_init_417 : decode cX12_init 417 = .ok (.putfield 173, 3) := by decide +kernel
theorem dX12_init_420 : decode cX12_init 420 = .ok (.aload_n 0, 1) := by decide +kernel
theorem dX12_init_421 : decode cX12_init 421 = .ok (.bipush 16, 2) := by decide +kernel
theorem dX12_init_423 : decode cX12_init 423 = .ok (.newarray .int, 2) := by decide +kernel
theorem dX12_init_425 : decode cX12_init 425 = .ok (.putfield 176, 3) := by decide +kernel
theorem dX12_init_428 : decode cX12_init 428 = .ok (.aload_n 0, 1) := by decide +kernel
theorem dX12_init_429 : decode cX12_init 429 = .ok (.bipush 16, 2) := by decide +kernel
theorem dX12_init_431 : decode cX12_init 431 = .ok (.newarray .int, 2) := by decide +kernel
theorem dX12_init_433 : decode cX12_init 433 = .ok (.putfield 179, 3) := by decide +kernel
theorem dX12_init_436 : decode cX12_init 436 = .ok (.aload_n 0, 1) := by decide +kernel
theorem dX12_init_437 : decode cX12_init 437 = .ok (.bipush 16, 2) := by decide +kernel
theorem dX12_init_439 : decode cX12_init 439 = .ok (.newarray .int, 2) := by decide +kernel
theorem dX12_init_441 : decode cX12_init 441 = .ok (.putfield 182, 3) := by decide +kernel
theorem dX12_init_444 : decode cX12_init 444 = .ok (.aload_n 0, 1) := by decide +kernel
theorem dX12_init_445 : decode cX12_init 445 = .ok (.bipush 16, 2) := by decide +kernel
theorem dX12_init_447 : decode cX12_init 447 = .ok (.newarray .int, 2) := by decide +kernel
theorem dX12_init_449 : decode cX12_init 449 = .ok (.putfield 185, 3) := by decide +kernel
theorem dX12_init_452 : decode cX12_init 452 = .ok (.return_, 1) := by decide +kernel
theorem dX12_within_0 : decode cX12_within 0 = .ok (.iload_n 0, 1) := by decide +kernel
theorem dX12_within_1 : decode cX12_within 1 = .ok (.iload_n 1, 1) := by decide +kernel
theorem dX12_within_2 : decode cX12_within 2 = .ok (.if_icmp .lt 12, 3) := by decide +kernel
theorem dX12_within_5 : decode cX12_within 5 = .ok (.iload_n 0, 1) := by decide +kernel
theorem dX12_within_6 : decode cX12_within 6 = .ok (.iload_n 2, 1) := by decide +kernel
theorem dX12_within_7 : decode cX12_within 7 = .ok (.if_icmp .gt 7, 3) := by decide +kernel
theorem dX12_within_10 : decode cX12_within 10 = .ok (.iconst 1, 1) := by decide +kernel
theorem dX12_within_11 : decode cX12_within 11 = .ok (.goto 4, 3) := by decide +kernel
theorem dX12_within_14 : decode cX12_within 14 = .ok (.iconst 0, 1) := by decide +kernel
theorem dX12_within_15 : decode cX12_within 15 = .ok (.ireturn, 1) := by decide +kernel
theorem dX12_min_0 : decode cX12_min 0 = .ok (.iload_n 0, 1) := by decide +kernel
theorem dX12_min_1 : decode cX12_min 1 = .ok (.iload_n 1, 1) := by decide +kernel
theorem dX12_min_2 : decode cX12_min 2 = .ok (.if_icmp .ge 7, 3) := by decide +kernel
theorem dX12_min_5 : decode cX12_min 5 = .ok (.iload_n 0, 1) := by decide +kernel
theorem dX12_min_6 : decode cX12_min 6 = .ok (.goto 4, 3) := by decide +kernel
theorem dX12_min_9 : decode cX12_min 9 = .ok (.iload_n 1, 1) := by decide +kernel
theorem dX12_min_10 : decode cX12_min 10 = .ok (.ireturn, 1) := by decide +kernel
theorem dX12_abs_0 : decode cX12_abs 0 = .ok (.iload_n 0, 1) := by decide +kernel
theorem dX12_abs_1 : decode cX12_abs 1 = .ok (.ifCond .ge 8, 3) := by decide +kernel
theorem dX12_abs_4 : decode cX12_abs 4 = .ok (.iload_n 0, 1) := by decide +kernel
theorem dX12_abs_5 : decode cX12_abs 5 = .ok (.ineg, 1) := by decide +kernel
theorem dX12_abs_6 : decode cX12_abs 6 = .ok (.goto 4, 3) := by decide +kernel
theorem dX12_abs_9 : decode cX12_abs 9 = .ok (.iload_n 0, 1) := by decide +kernel
theorem dX12_abs_10 : decode cX12_abs 10 = .ok (.ireturn, 1) := by decide +kernel
theorem dX12_feed_0 : decode cX12_feed 0 = .ok (.aload_n 0, 1) := by decide +kernel
theorem dX12_feed_1 : decode cX12_feed 1 = .ok (.getfield 188, 3) := by decide +kernel
theorem dX12_feed_4 : decode cX12_feed 4 = .ok (.bipush 20, 2) := by decide +kernel
theorem dX12_feed_6 : decode cX12_feed 6 = .ok (.iadd, 1) := by decide +kernel
theorem dX12_feed_7 : decode cX12_feed 7 = .ok (.sipush 900, 3) := by decide +kernel
theorem dX12_feed_10 : decode cX12_feed 10 = .ok (.if_icmp .le 5, 3) := by decide +kernel
theorem dX12_feed_13 : decode cX12_feed 13 = .ok (.iconst (-1), 1) := by decide +kernel
theorem dX12_feed_14 : decode cX12_feed 14 = .ok (.ireturn, 1) := by decide +kernel
theorem dX12_feed_15 : decode cX12_feed 15 = .ok (.iconst 0, 1) := by decide +kernel
theorem dX12_feed_16 : decode cX12_feed 16 = .ok (.istore 6, 2) := by decide +kernel
theorem dX12_feed_18 : decode cX12_feed 18 = .ok (.iload 6, 2) := by decide +kernel
theorem dX12_feed_20 : decode cX12_feed 20 = .ok (.bipush 20, 2) := by decide +kernel
theorem dX12_feed_22 : decode cX12_feed 22 = .ok (.if_icmp .ge 90, 3) := by decide +kernel
theorem dX12_feed_25 : decode cX12_feed 25 = .ok (.iload 6, 2) := by decide +kernel
theorem dX12_feed_27 : decode cX12_feed 27 = .ok (.iconst 4, 1) := by decide +kernel
theorem dX12_feed_28 : decode cX12_feed 28 = .ok (.if_icmp .ge 7, 3) := by decide +kernel
theorem dX12_feed_31 : decode cX12_feed 31 = .ok (.iload_n 1, 1) := by decide +kernel
theorem dX12_feed_32 : decode cX12_feed 32 = .ok (.goto 39, 3) := by decide +kernel
theorem dX12_feed_35 : decode cX12_feed 35 = .ok (.iload 6, 2) := by decide +kernel
theorem dX12_feed_37 : decode cX12_feed 37 = .ok (.bipush 8, 2) := by decide +kernel
theorem dX12_feed_39 : decode cX12_feed 39 = .ok (.if_icmp .ge 7, 3) := by decide +kernel
theorem dX12_feed_42 : decode cX12_feed 42 = .ok (.iload_n 2, 1) := by decide +kernel
theorem dX12_feed_43 : decode cX12_feed 43 = .ok (.goto 28, 3) := by decide +kernel
theorem dX12_feed_46 : decode cX12_feed 46 = .ok (.iload 6, 2) := by decide +kernel
theorem dX12_feed_48 : decode cX12_feed 48 = .ok (.bipush 12, 2) := by decide +kernel
theorem dX12_feed_50 : decode cX12_feed 50 = .ok (.if_icmp .ge 7, 3) := by decide +kernel
theorem dX12_feed_53 : decode cX12_feed 53 = .ok (.iload_n 3, 1) := by decide +kernel
theorem dX12_feed_54 : decode cX12_feed 54 = .ok (.goto 17, 3) := by decide +kernel
theorem dX12_feed_57 : decode cX12_feed 57 = .ok (.iload 6, 2) := by decide +kernel
theorem dX12_feed_59 : decode cX12_feed 59 = .ok (.bipush 16, 2) := by decide +kernel
theorem dX12_feed_61 : decode cX12_feed 61 = .ok (.if_icmp .ge 8, 3) := by decide +kernel
theorem dX12_feed_64 : decode cX12_feed 64 = .ok (.iload 4, 2) := by decide +kernel
theorem dX12_feed_66 : decode cX12_feed 66 = .ok (.goto 5, 3) := by decide +kernel
theorem dX12_feed_69 : decode cX12_feed 69 = .ok (.iload 5, 2) := by decide +kernel
theorem dX12_feed_71 : decode cX12_feed 71 = .ok (.istore 7, 2) := by decide +kernel
theorem dX12_feed_73 : decode cX12_feed 73 = .ok (.aload_n 0, 1) := by decide +kernel
theorem dX12_feed_74 : decode cX12_feed 74 = .ok (.getfield 66, 3) := by decide +kernel
theorem dX12_feed_77 : decode cX12_feed 77 = .ok (.aload_n 0, 1) := by decide +kernel
theorem dX12_feed_78 : decode cX12_feed 78 = .ok (.getfield 188, 3) := by decide +kernel
theorem dX12_feed_81 : decode cX12_feed 81 = .ok (.iload 7, 2) := by decide +kernel
theorem dX12_feed_83 : decode cX12_feed 83 = .ok (.bipush 24, 2) := by decide +kernel
theorem dX12_feed_85 : decode cX12_feed 85 = .ok (.bipush 8, 2) := by decide +kernel
theorem dX12_feed_87 : decode cX12_feed 87 = .ok (.iload 6, 2) := by decide +kernel
theorem dX12_feed_89 : decode cX12_feed 89 = .ok (.iconst 4, 1) := by decide +kernel
theorem dX12_feed_90 : decode cX12_feed 90 = .ok (.irem, 1) := by decide +kernel
theorem dX12_feed_91 : decode cX12_feed 91 = .ok (.imul, 1) := by decide +kernel
theorem dX12_feed_92 : decode cX12_feed 92 = .ok (.isub, 1) := by decide +kernel
theorem dX12_feed_93 : decode cX12_feed 93 = .ok (.ishr, 1) := by decide +kernel
theorem dX12_feed_94 : decode cX12_feed 94 = .ok (.i2b, 1) := by decide +kernel
theorem dX12_feed_95 : decode cX12_feed 95 = .ok (.bastore, 1) := by decide +kernel
theorem dX12_feed_96 : decode cX12_feed 96 = .ok (.aload_n 0, 1) := by decide +kernel
theorem dX12_feed_97 : decode cX12_feed 97 = .ok (.dup, 1) := by decide +kernel
theorem dX12_feed_98 : decode cX12_feed 98 = .ok (.getfield 188, 3) := by decide +kernel
theorem dX12_feed_101 : decode cX12_feed 101 = .ok (.iconst 1, 1) := by decide +kernel
theorem dX12_feed_102 : decode cX12_feed 102 = .ok (.iadd, 1) := by decide +kernel
theorem dX12_feed_103 : decode cX12_feed 103 = .ok (.putfield 188, 3) := by decide +kernel
theorem dX12_feed_106 : decode cX12_feed 106 = .ok (.iinc 6 1, 3) := by decide +kernel
theorem dX12_feed_109 : decode cX12_feed 109 = .ok (.goto (-91), 3) := by decide +kernel
theorem dX12_feed_112 : decode cX12_feed 112 = .ok (.aload_n 0, 1) := by decide +kernel
theorem dX12_feed_113 : decode cX12_feed 113 = .ok (.getfield 188, 3) := by decide +kernel
theorem dX12_feed_116 : decode cX12_feed 116 = .ok (.ireturn, 1) := by decide +kernel
theorem dX12_here_0 : decode cX12_here 0 = .ok (.aload_n 0, 1) := by decide +kernel
theorem dX12_here_1 : decode cX12_here 1 = .ok (.getfield 191, 3) := by decide +kernel
theorem dX12_here_4 : decode cX12_here 4 = .ok (.aload_n 0, 1) := by decide +kernel
theorem dX12_here_5 : decode cX12_here 5 = .ok (.getfield 194, 3) := by decide +kernel
theorem dX12_here_8 : decode cX12_here 8 = .ok (.if_icmp .ge 19, 3) := by decide +kernel
theorem dX12_here_11 : decode cX12_here 11 = .ok (.aload_n 0, 1) := by decide +kernel
theorem dX12_here_12 : decode cX12_here 12 = .ok (.getfield 66, 3) := by decide +kernel
theorem dX12_here_15 : decode cX12_here 15 = .ok (.aload_n 0, 1) := by decide +kernel
theorem dX12_here_16 : decode cX12_here 16 = .ok (.getfield 191, 3) := by decide +kernel
theorem dX12_here_19 : decode cX12_here 19 = .ok (.baload, 1) := by decide +kernel
theorem dX12_here_20 : decode cX12_here 20 = .ok (.sipush 255, 3) := by decide +kernel
theorem dX12_here_23 : decode cX12_here 23 = .ok (.iand, 1) := by decide +kernel
theorem dX12_here_24 : decode cX12_here 24 = .ok (.goto 4, 3) := by decide +kernel
theorem dX12_here_27 : decode cX12_here 27 = .ok (.iconst (-1), 1) := by decide +kernel
theorem dX12_here_28 : decode cX12_here 28 = .ok (.ireturn, 1) := by decide +kernel
theorem dX12_next_0 : decode cX12_next 0 = .ok (.aload_n 0, 1) := by decide +kernel
theorem dX12_next_1 : decode cX12_next 1 = .ok (.invokevirtual 197, 3) := by decide +kernel
theorem dX12_next_4 : decode cX12_next 4 = .ok (.bipush 32, 2) := by decide +kernel
theorem dX12_next_6 : decode cX12_next 6 = .ok (.if_icmp .eq 12, 3) := by decide +kernel
theorem dX12_next_9 : decode cX12_next 9 = .ok (.aload_n 0, 1) := by decide +kernel
theorem dX12_next_10 : decode cX12_next 10 = .ok (.invokevirtual 197, 3) := by decide +kernel
theorem dX12_next_13 : decode cX12_next 13 = .ok (.bipush 10, 2) := by decide +kernel
theorem dX12_next_15 : decode cX12_next 15 = .ok (.if_icmp .ne 16, 3) := by decide +kernel
theorem dX12_next_18 : decode cX12_next 18 = .ok (.aload_n 0, 1) := by decide +kernel
theorem dX12_next_19 : decode cX12_next 19 = .ok (.dup, 1) := by decide +kernel
theorem dX12_next_20 : decode cX12_next 20 = .ok (.getfield 191, 3) := by decide +kernel
theorem dX12_next_23 : decode cX12_next 23 = .ok (.iconst 1, 1) := by decide +kernel
theorem dX12_next_24 : decode cX12_next 24 = .ok (.iadd, 1) := by decide +kernel
theorem dX12_next_25 : decode cX12_next 25 = .ok (.putfield 191, 3) := by decide +kernel
theorem dX12_next_28 : decode cX12_next 28 = .ok (.goto (-28), 3) := by decide +kernel
theorem dX12_next_31 : decode cX12_next 31 = .ok (.aload_n 0, 1) := by decide +kernel
theorem dX12_next_32 : decode cX12_next 32 = .ok (.aload_n 0, 1) := by decide +kernel
theorem dX12_next_33 : decode cX12_next 33 = .ok (.getfield 191, 3) := by decide +kernel
theorem dX12_next_36 : decode cX12_next 36 = .ok (.putfield 201, 3) := by decide +kernel
theorem dX12_next_39 : decode cX12_next 39 = .ok (.aload_n 0, 1) := by decide +kernel
theorem dX12_next_40 : decode cX12_next 40 = .ok (.invokevirtual 197, 3) := by decide +kernel
theorem dX12_next_43 : decode cX12_next 43 = .ok (.istore_n 1, 1) := by decide +kernel
theorem dX12_next_44 : decode cX12_next 44 = .ok (.aload_n 0, 1) := by decide +kernel
theorem dX12_next_45 : decode cX12_next 45 = .ok (.ldc2_w 204, 3) := by decide +kernel
theorem dX12_next_48 : decode cX12_next 48 = .ok (.putfield 206, 3) := by decide +kernel
theorem dX12_next_51 : decode cX12_next 51 = .ok (.aload_n 0, 1) := by decide +kernel
theorem dX12_next_52 : decode cX12_next 52 = .ok (.iconst 0, 1) := by decide +kernel
theorem dX12_next_53 : decode cX12_next 53 = .ok (.putfield 210, 3) := by decide +kernel
theorem dX12_next_56 : decode cX12_next 56 = .ok (.iload_n 1, 1) := by decide +kernel
theorem dX12_next_57 : decode cX12_next 57 = .ok (.ifCond .ge 11, 3) := by decide +kernel
theorem dX12_next_60 : decode cX12_next 60 = .ok (.aload_n 0, 1) := by decide +kernel
theorem dX12_next_61 : decode cX12_next 61 = .ok (.iconst 0, 1) := by decide +kernel
theorem dX12_next_62 : decode cX12_next 62 = .ok (.putfield 213, 3) := by decide +kernel
theorem dX12_next_65 : decode cX12_next 65 = .ok (.goto 204, 3) := by decide +kernel
theorem dX12_next_68 : decode cX12_next 68 = .ok (.iload_n 1, 1) := by decide +kernel
theorem dX12_next_69 : decode cX12_next 69 = .ok (.bipush 97, 2) := by decide +kernel
theorem dX12_next_71 : decode cX12_next 71 = .ok (.bipush 122, 2) := by decide +kernel
theorem dX12_next_73 : decode cX12_next 73 = .ok (.invokestatic 216, 3) := by decide +kernel
theorem dX12_next_76 : decode cX12_next 76 = .ok (.ifCond .eq 81, 3) := by decide +kernel
theorem dX12_next_79 : decode cX12_next 79 = .ok (.aload_n 0, 1) := by decide +kernel
theorem dX12_next_80 : decode cX12_next 80 = .ok (.iconst 1, 1) := by decide +kernel
theorem dX12_next_81 : decode cX12_next 81 = .ok (.putfield 213, 3) := by decide +kernel
theorem dX12_next_84 : decode cX12_next 84 = .ok (.aload_n 0, 1) := by decide +kernel
theorem dX12_next_85 : decode cX12_next 85 = .ok (.lconst 0, 1) := by decide +kernel
theorem dX12_next_86 : decode cX12_next 86 = .ok (.putfield 206, 3) := by decide +kernel
theorem dX12_next_89 : decode cX12_next 89 = .ok (.aload_n 0, 1) := by decide +kernel
theorem dX12_next_90 : decode cX12_next 90 = .ok (.invokevirtual 197, 3) := by decide +kernel
theorem dX12_next_93 : decode cX12_next 93 = .ok (.bipush 97, 2) := by decide +kernel
theorem dX12_next_95 : decode cX12_next 95 = .ok (.bipush 122, 2) := by decide +kernel
theorem dX12_next_97 : decode cX12_next 97 = .ok (.invokestatic 216, 3) := by decide +kernel
theorem dX12_next_100 : decode cX12_next 100 = .ok (.ifCond .eq 169, 3) := by decide +kernel
theorem dX12_next_103 : decode cX12_next 103 = .ok (.aload_n 0, 1) := by decide +kernel
theorem dX12_next_104 : decode cX12_next 104 = .ok (.aload_n 0, 1) := by decide +kernel
theorem dX12_next_105 : decode cX12_next 105 = .ok (.getfield 191, 3) := by decide +kernel
theorem dX12_next_108 : decode cX12_next 108 = .ok (.aload_n 0, 1) := by decide +kernel
theorem dX12_next_109 : decode cX12_next 109 = .ok (.getfield 201, 3) := by decide +kernel
theorem dX12_next_112 : decode cX12_next 112 = .ok (.isub, 1) := by decide +kernel
theorem dX12_next_113 : decode cX12_next 113 = .ok (.bipush 6, 2) := by decide +kernel
theorem dX12_next_115 : decode cX12_next 115 = .ok (.if_icmp .ge 23, 3) := by decide +kernel
theorem dX12_next_118 : decode cX12_next 118 = .ok (.aload_n 0, 1) := by decide +kernel
theorem dX12_next_119 : decode cX12_next 119 = .ok (.getfield 206, 3) := by decide +kernel
theorem dX12_next_122 : decode cX12_next 122 = .ok (.ldc2_w 220, 3) := by decide +kernel
theorem dX12_next_125 : decode cX12_next 125 = .ok (.lmul, 1) := by decide +kernel
theorem dX12_next_126 : decode cX12_next 126 = .ok (.aload_n 0, 1) := by decide +kernel
theorem dX12_next_127 : decode cX12_next 127 = .ok (.invokevirtual 197, 3) := by decide +kernel
theorem dX12_next_130 : decode cX12_next 130 = .ok (.bipush 96, 2) := by decide +kernel
theorem dX12_next_132 : decode cX12_next 132 = .ok (.isub, 1) := by decide +kernel
theorem dX12_next_133 : decode cX12_next 133 = .ok (.i2l, 1) := by decide +kernel
theorem dX12_next_134 : decode cX12_next 134 = .ok (.ladd, 1) := by decide +kernel
theorem dX12_next_135 : decode cX12_next 135 = .ok (.goto 6, 3) := by decide +kernel
theorem dX12_next_138 : decode cX12_next 138 = .ok (.ldc2_w 204, 3) := by decide +kernel
theorem dX12_next_141 : decode cX12_next 141 = .ok (.putfield 206, 3) := by decide +kernel
theorem dX12_next_144 : decode cX12_next 144 = .ok (.aload_n 0, 1) := by decide +kernel
theorem dX12_next_145 : decode cX12_next 145 = .ok (.dup, 1) := by decide +kernel
theorem dX12_next_146 : decode cX12_next 146 = .ok (.getfield 191, 3) := by decide +kernel
theorem dX12_next_149 : decode cX12_next 149 = .ok (.iconst 1, 1) := by decide +kernel
theorem dX12_next_150 : decode cX12_next 150 = .ok (.iadd, 1) := by decide +kernel
theorem dX12_next_151 : decode cX12_next 151 = .ok (.putfield 191, 3) := by decide +kernel
theorem dX12_next_154 : decode cX12_next 154 = .ok (.goto (-65), 3) := by decide +kernel
theorem dX12_next_157 : decode cX12_next 157 = .ok (.iload_n 1, 1) := by decide +kernel
theorem dX12_next_158 : decode cX12_next 158 = .ok (.bipush 48, 2) := by decide +kernel
theorem dX12_next_160 : decode cX12_next 160 = .ok (.bipush 57, 2) := by decide +kernel
theorem dX12_next_162 : decode cX12_next 162 = .ok (.invokestatic 216, 3) := by decide +kernel
theorem dX12_next_165 : decode cX12_next 165 = .ok (.ifCond .eq 79, 3) := by decide +kernel
theorem dX12_next_168 : decode cX12_next 168 = .ok (.aload_n 0, 1) := by decide +kernel
theorem dX12_next_169 : decode cX12_next 169 = .ok (.invokevirtual 197, 3) := by decide +kernel
theorem dX12_next_172 : decode cX12_next 172 = .ok (.bipush 48, 2) := by decide +kernel
theorem dX12_next_174 : decode cX12_next 174 = .ok (.bipush 57, 2) := by decide +kernel
theorem dX12_next_176 : decode cX12_next 176 = .ok (.invokestatic 216, 3) := by decide +kernel
theorem dX12_next_179 : decode cX12_next 179 = .ok (.ifCond .eq 40, 3) := by decide +kernel
theorem dX12_next_182 : decode cX12_next 182 = .ok (.aload_n 0, 1) := by decide +kernel
theorem dX12_next_183 : decode cX12_next 183 = .ok (.aload_n 0, 1) := by decide +kernel
theorem dX12_next_184 : decode cX12_next 184 = .ok (.getfield 210, 3) := by decide +kernel
theorem dX12_next_187 : decode cX12_next 187 = .ok (.ldc 222, 2) := by decide +kernel
theorem dX12_next_189 : decode cX12_next 189 = .ok (.invokestatic 223, 3) := by decide +kernel
theorem dX12_next_192 : decode cX12_next 192 = .ok (.bipush 10, 2) := by decide +kernel
theorem dX12_next_194 : decode cX12_next 194 = .ok (.imul, 1) := by decide +kernel
theorem dX12_next_195 : decode cX12_next 195 = .ok (.aload_n 0, 1) := by decide +kernel
theorem dX12_next_196 : decode cX12_next 196 = .ok (.invokevirtual 197, 3) := by decide +kernel
theorem dX12_next_199 : decode cX12_next 199 = .ok (.iadd, 1) := by decide +kernel
theorem dX12_next_200 : decode cX12_next 200 = .ok (.bipush 48, 2) := by decide +kernel
theorem dX12_next_202 : decode cX12_next 202 = .ok (.isub, 1) := by decide +kernel
theorem dX12_next_203 : decode cX12_next 203 = .ok (.putfield 210, 3) := by decide +kernel
theorem dX12_next_206 : decode cX12_next 206 = .ok (.aload_n 0, 1) := by decide +kernel
theorem dX12_next_207 : decode cX12_next 207 = .ok (.dup, 1) := by decide +kernel
theorem dX12_next_208 : decode cX12_next 208 = .ok (.getfield 191, 3) := by decide +kernel
theorem dX12_next_211 : decode cX12_next 211 = .ok (.iconst 1, 1) := by decide +kernel
theorem dX12_next_212 : decode cX12_next 212 = .ok (.iadd, 1) := by decide +kernel
theorem dX12_next_213 : decode cX12_next 213 = .ok (.putfield 191, 3) := by decide +kernel
theorem dX12_next_216 : decode cX12_next 216 = .ok (.goto (-48), 3) := by decide +kernel
theorem dX12_next_219 : decode cX12_next 219 = .ok (.aload_n 0, 1) := by decide +kernel
theorem dX12_next_220 : decode cX12_next 220 = .ok (.aload_n 0, 1) := by decide +kernel
theorem dX12_next_221 : decode cX12_next 221 = .ok (.getfield 191, 3) := by decide +kernel
theorem dX12_next_224 : decode cX12_next 224 = .ok (.aload_n 0, 1) := by decide +kernel
theorem dX12_next_225 : decode cX12_next 225 = .ok (.getfield 201, 3) := by decide +kernel
theorem dX12_next_228 : decode cX12_next 228 = .ok (.isub, 1) := by decide +kernel
theorem dX12_next_229 : decode cX12_next 229 = .ok (.iconst 4, 1) := by decide +kernel
theorem dX12_next_230 : decode cX12_next 230 = .ok (.if_icmp .gt 7, 3) := by decide +kernel
theorem dX12_next_233 : decode cX12_next 233 = .ok (.iconst 2, 1) := by decide +kernel
theorem dX12_next_234 : decode cX12_next 234 = .ok (.goto 4, 3) := by decide +kernel
theorem dX12_next_237 : decode cX12_next 237 = .ok (.iconst 4, 1) := by decide +kernel
theorem dX12_next_238 : decode cX12_next 238 = .ok (.putfield 213, 3) := by decide +kernel
theorem dX12_next_241 : decode cX12_next 241 = .ok (.goto 28, 3) := by decide +kernel
theorem dX12_next_244 : decode cX12_next 244 = .ok (.aload_n 0, 1) := by decide +kernel
theorem dX12_next_245 : decode cX12_next 245 = .ok (.iload_n 1, 1) := by decide +kernel
theorem dX12_next_246 : decode cX12_next 246 = .ok (.bipush 59, 2) := by decide +kernel
theorem dX12_next_248 : decode cX12_next 248 = .ok (.if_icmp .ne 7, 3) := by decide +kernel
theorem dX12_next_251 : decode cX12_next 251 = .ok (.iconst 3, 1) := by decide +kernel
theorem dX12_next_252 : decode cX12_next 252 = .ok (.goto 4, 3) := by decide +kernel
theorem dX12_next_255 : decode cX12_next 255 = .ok (.iconst 4, 1) := by decide +kernel
theorem dX12_next_256 : decode cX12_next 256 = .ok (.putfield 213, 3) := by decide +kernel
theorem dX12_next_259 : decode cX12_next 259 = .ok (.aload_n 0, 1) := by decide +kernel
theorem dX12_next_260 : decode cX12_next 260 = .ok (.dup, 1) := by decide +kernel
theorem dX12_next_261 : decode cX12_next 261 = .ok (.getfield 191, 3) := by decide +kernel
theorem dX12_next_264 : decode cX12_next 264 = .ok (.iconst 1, 1) := by decide +kernel
theorem dX12_next_265 : decode cX12_next 265 = .ok (.iadd, 1) := by decide +kernel
theorem dX12_next_266 : decode cX12_next 266 = .ok (.putfield 191, 3) := by decide +kernel
theorem dX12_next_269 : decode cX12_next 269 = .ok (.return_, 1) := by decide +kernel
theorem dX12_errs_0 : decode cX12_errs 0 = .ok (.aload_n 0, 1) := by decide +kernel
theorem dX12_errs_1 : decode cX12_errs 1 = .ok (.getfield 227, 3) := by decide +kernel
theorem dX12_errs_4 : decode cX12_errs 4 = .ok (.ifCond .eq 4, 3) := by decide +kernel
theorem dX12_errs_7 : decode cX12_errs 7 = .ok (.return_, 1) := by decide +kernel
theorem dX12_errs_8 : decode cX12_errs 8 = .ok (.aload_n 0, 1) := by decide +kernel
theorem dX12_errs_9 : decode cX12_errs 9 = .ok (.iconst 1, 1) := by decide +kernel
theorem dX12_errs_10 : decode cX12_errs 10 = .ok (.putfield 227, 3) := by decide +kernel
theorem dX12_errs_13 : decode cX12_errs 13 = .ok (.aload_n 0, 1) := by decide +kernel
theorem dX12_errs_14 : decode cX12_errs 14 = .ok (.aload_n 0, 1) := by decide +kernel
theorem dX12_errs_15 : decode cX12_errs 15 = .ok (.getfield 201, 3) := by decide +kernel
theorem dX12_errs_18 : decode cX12_errs 18 = .ok (.putfield 70, 3) := by decide +kernel
theorem dX12_errs_21 : decode cX12_errs 21 = .ok (.return_, 1) := by decide +kernel
theorem dX12_wordOf_0 : decode cX12_wordOf 0 = .ok (.lload_n 1, 1) := by decide +kernel
theorem dX12_wordOf_1 : decode cX12_wordOf 1 = .ok (.ldc2_w 231, 3) := by decide +kernel
theorem dX12_wordOf_4 : decode cX12_wordOf 4 = .ok (.lcmp, 1) := by decide +kernel
theorem dX12_wordOf_5 : decode cX12_wordOf 5 = .ok (.ifCond .ne 5, 3) := by decide +kernel
theorem dX12_wordOf_8 : decode cX12_wordOf 8 = .ok (.iconst 0, 1) := by decide +kernel
theorem dX12_wordOf_9 : decode cX12_wordOf 9 = .ok (.ireturn, 1) := by decide +kernel
theorem dX12_wordOf_10 : decode cX12_wordOf 10 = .ok (.lload_n 1, 1) := by decide +kernel
theorem dX12_wordOf_11 : decode cX12_wordOf 11 = .ok (.ldc2_w 233, 3) := by decide +kernel
theorem dX12_wordOf_14 : decode cX12_wordOf 14 = .ok (.lcmp, 1) := by decide +kernel
theorem dX12_wordOf_15 : decode cX12_wordOf 15 = .ok (.ifCond .ne 5, 3) := by decide +kernel
theorem dX12_wordOf_18 : decode cX12_wordOf 18 = .ok (.iconst 1, 1) := by decide +kernel
theorem dX12_wordOf_19 : decode cX12_wordOf 19 = .ok (.ireturn, 1) := by decide +kernel
theorem dX12_wordOf_20 : decode cX12_wordOf 20 = .ok (.lload_n 1, 1) := by decide +kernel
theorem dX12_wordOf_21 : decode cX12_wordOf 21 = .ok (.ldc2_w 235, 3) := by decide +kernel
theorem dX12_wordOf_24 : decode cX12_wordOf 24 = .ok (.lcmp, 1) := by decide +kernel
theorem dX12_wordOf_25 : decode cX12_wordOf 25 = .ok (.ifCond .ne 5, 3) := by decide +kernel
theorem dX12_wordOf_28 : decode cX12_wordOf 28 = .ok (.iconst 2, 1) := by decide +kernel
theorem dX12_wordOf_29 : decode cX12_wordOf 29 = .ok (.ireturn, 1) := by decide +kernel
theorem dX12_wordOf_30 : decode cX12_wordOf 30 = .ok (.lload_n 1, 1) := by decide +kernel
theorem dX12_wordOf_31 : decode cX12_wordOf 31 = .ok (.ldc2_w 237, 3) := by decide +kernel
theorem dX12_wordOf_34 : decode cX12_wordOf 34 = .ok (.lcmp, 1) := by decide +kernel
theorem dX12_wordOf_35 : decode cX12_wordOf 35 = .ok (.ifCond .ne 5, 3) := by decide +kernel
theorem dX12_wordOf_38 : decode cX12_wordOf 38 = .ok (.iconst 3, 1) := by decide +kernel
theorem dX12_wordOf_39 : decode cX12_wordOf 39 = .ok (.ireturn, 1) := by decide +kernel
theorem dX12_wordOf_40 : decode cX12_wordOf 40 = .ok (.lload_n 1, 1) := by decide +kernel
theorem dX12_wordOf_41 : decode cX12_wordOf 41 = .ok (.ldc2_w 239, 3) := by decide +kernel
theorem dX12_wordOf_44 : decode cX12_wordOf 44 = .ok (.lcmp, 1) := by decide +kernel
theorem dX12_wordOf_45 : decode cX12_wordOf 45 = .ok (.ifCond .ne 5, 3) := by decide +kernel
theorem dX12_wordOf_48 : decode cX12_wordOf 48 = .ok (.iconst 4, 1) := by decide +kernel
theorem dX12_wordOf_49 : decode cX12_wordOf 49 = .ok (.ireturn, 1) := by decide +kernel
theorem dX12_wordOf_50 : decode cX12_wordOf 50 = .ok (.lload_n 1, 1) := by decide +kernel
theorem dX12_wordOf_51 : decode cX12_wordOf 51 = .ok (.ldc2_w 241, 3) := by decide +kernel
theorem dX12_wordOf_54 : decode cX12_wordOf 54 = .ok (.lcmp, 1) := by decide +kernel
theorem dX12_wordOf_55 : decode cX12_wordOf 55 = .ok (.ifCond .ne 5, 3) := by decide +kernel
theorem dX12_wordOf_58 : decode cX12_wordOf 58 = .ok (.iconst 5, 1) := by decide +kernel
theorem dX12_wordOf_59 : decode cX12_wordOf 59 = .ok (.ireturn, 1) := by decide +kernel
theorem dX12_wordOf_60 : decode cX12_wordOf 60 = .ok (.lload_n 1, 1) := by decide +kernel
theorem dX12_wordOf_61 : decode cX12_wordOf 61 = .ok (.ldc2_w 243, 3) := by decide +kernel
theorem dX12_wordOf_64 : decode cX12_wordOf 64 = .ok (.lcmp, 1) := by decide +kernel
theorem dX12_wordOf_65 : decode cX12_wordOf 65 = .ok (.ifCond .ne 6, 3) := by decide +kernel
theorem dX12_wordOf_68 : decode cX12_wordOf 68 = .ok (.bipush 6, 2) := by decide +kernel
theorem dX12_wordOf_70 : decode cX12_wordOf 70 = .ok (.ireturn, 1) := by decide +kernel
theorem dX12_wordOf_71 : decode cX12_wordOf 71 = .ok (.lload_n 1, 1) := by decide +kernel
theorem dX12_wordOf_72 : decode cX12_wordOf 72 = .ok (.ldc2_w 245, 3) := by decide +kernel
theorem dX12_wordOf_75 : decode cX12_wordOf 75 = .ok (.lcmp, 1) := by decide +kernel
theorem dX12_wordOf_76 : decode cX12_wordOf 76 = .ok (.ifCond .ne 6, 3) := by decide +kernel
theorem dX12_wordOf_79 : decode cX12_wordOf 79 = .ok (.bipush 7, 2) := by decide +kernel
theorem dX12_wordOf_81 : decode cX12_wordOf 81 = .ok (.ireturn, 1) := by decide +kernel
theorem dX12_wordOf_82 : decode cX12_wordOf 82 = .ok (.lload_n 1, 1) := by decide +kernel
theorem dX12_wordOf_83 : decode cX12_wordOf 83 = .ok (.ldc2_w 247, 3) := by decide +kernel
theorem dX12_wordOf_86 : decode cX12_wordOf 86 = .ok (.lcmp, 1) := by decide +kernel
theorem dX12_wordOf_87 : decode cX12_wordOf 87 = .ok (.ifCond .ne 6, 3) := by decide +kernel
theorem dX12_wordOf_90 : decode cX12_wordOf 90 = .ok (.bipush 8, 2) := by decide +kernel
theorem dX12_wordOf_92 : decode cX12_wordOf 92 = .ok (.ireturn, 1) := by decide +kernel
theorem dX12_wordOf_93 : decode cX12_wordOf 93 = .ok (.lload_n 1, 1) := by decide +kernel
theorem dX12_wordOf_94 : decode cX12_wordOf 94 = .ok (.ldc2_w 249, 3) := by decide +kernel
theorem dX12_wordOf_97 : decode cX12_wordOf 97 = .ok (.lcmp, 1) := by decide +kernel
theorem dX12_wordOf_98 : decode cX12_wordOf 98 = .ok (.ifCond .ne 6, 3) := by decide +kernel
theorem dX12_wordOf_101 : decode cX12_wordOf 101 = .ok (.bipush 9, 2) := by decide +kernel
theorem dX12_wordOf_103 : decode cX12_wordOf 103 = .ok (.ireturn, 1) := by decide +kernel
theorem dX12_wordOf_104 : decode cX12_wordOf 104 = .ok (.lload_n 1, 1) := by decide +kernel
theorem dX12_wordOf_105 : decode cX12_wordOf 105 = .ok (.ldc2_w 251, 3) := by decide +kernel
theorem dX12_wordOf_108 : decode cX12_wordOf 108 = .ok (.lcmp, 1) := by decide +kernel
theorem dX12_wordOf_109 : decode cX12_wordOf 109 = .ok (.ifCond .ne 6, 3) := by decide +kernel
theorem dX12_wordOf_112 : decode cX12_wordOf 112 = .ok (.bipush 10, 2) := by decide +kernel
theorem dX12_wordOf_114 : decode cX12_wordOf 114 = .ok (.ireturn, 1) := by decide +kernel
theorem dX12_wordOf_115 : decode cX12_wordOf 115 = .ok (.lload_n 1, 1) := by decide +kernel
theorem dX12_wordOf_116 : decode cX12_wordOf 116 = .ok (.ldc2_w 253, 3) := by decide +kernel
theorem dX12_wordOf_119 : decode cX12_wordOf 119 = .ok (.lcmp, 1) := by decide +kernel
theorem dX12_wordOf_120 : decode cX12_wordOf 120 = .ok (.ifCond .ne 6, 3) := by decide +kernel
theorem dX12_wordOf_123 : decode cX12_wordOf 123 = .ok (.bipush 11, 2) := by decide +kernel
theorem dX12_wordOf_125 : decode cX12_wordOf 125 = .ok (.ireturn, 1) := by decide +kernel
theorem dX12_wordOf_126 : decode cX12_wordOf 126 = .ok (.lload_n 1, 1) := by decide +kernel
theorem dX12_wordOf_127 : decode cX12_wordOf 127 = .ok (.ldc2_w 255, 3) := by decide +kernel
theorem dX12_wordOf_130 : decode cX12_wordOf 130 = .ok (.lcmp, 1) := by decide +kernel
theorem dX12_wordOf_131 : decode cX12_wordOf 131 = .ok (.ifCond .ne 6, 3) := by decide +kernel
theorem dX12_wordOf_134 : decode cX12_wordOf 134 = .ok (.bipush 12, 2) := by decide +kernel
theorem dX12_wordOf_136 : decode cX12_wordOf 136 = .ok (.ireturn, 1) := by decide +kernel
theorem dX12_wordOf_137 : decode cX12_wordOf 137 = .ok (.lload_n 1, 1) := by decide +kernel
theorem dX12_wordOf_138 : decode cX12_wordOf 138 = .ok (.ldc2_w 257, 3) := by decide +kernel
theorem dX12_wordOf_141 : decode cX12_wordOf 141 = .ok (.lcmp, 1) := by decide +kernel
theorem dX12_wordOf_142 : decode cX12_wordOf 142 = .ok (.ifCond .ne 6, 3) := by decide +kernel
theorem dX12_wordOf_145 : decode cX12_wordOf 145 = .ok (.bipush 13, 2) := by decide +kernel
theorem dX12_wordOf_147 : decode cX12_wordOf 147 = .ok (.ireturn, 1) := by decide +kernel
theorem dX12_wordOf_148 : decode cX12_wordOf 148 = .ok (.iconst (-1), 1) := by decide +kernel
theorem dX12_wordOf_149 : decode cX12_wordOf 149 = .ok (.ireturn, 1) := by decide +kernel
theorem dX12_wordHere_0 : decode cX12_wordHere 0 = .ok (.aload_n 0, 1) := by decide +kernel
theorem dX12_wordHere_1 : decode cX12_wordHere 1 = .ok (.getfield 213, 3) := by decide +kernel
theorem dX12_wordHere_4 : decode cX12_wordHere 4 = .ok (.iconst 1, 1) := by decide +kernel
theorem dX12_wordHere_5 : decode cX12_wordHere 5 = .ok (.if_icmp .ne 14, 3) := by decide +kernel
theorem dX12_wordHere_8 : decode cX12_wordHere 8 = .ok (.aload_n 0, 1) := by decide +kernel
theorem dX12_wordHere_9 : decode cX12_wordHere 9 = .ok (.aload_n 0, 1) := by decide +kernel
theorem dX12_wordHere_10 : decode cX12_wordHere 10 = .ok (.getfield 206, 3) := by decide +kernel
theorem dX12_wordHere_13 : decode cX12_wordHere 13 = .ok (.invokevirtual 259, 3) := by decide +kernel
theorem dX12_wordHere_16 : decode cX12_wordHere 16 = .ok (.goto 4, 3) := by decide +kernel
theorem dX12_wordHere_19 : decode cX12_wordHere 19 = .ok (.iconst (-1), 1) := by decide +kernel
theorem dX12_wordHere_20 : decode cX12_wordHere 20 = .ok (.ireturn, 1) := by decide +kernel
theorem dX12_isName_0 : decode cX12_isName 0 = .ok (.aload_n 0, 1) := by decide +kernel
theorem dX12_isName_1 : decode cX12_isName 1 = .ok (.getfield 213, 3) := by decide +kernel
theorem dX12_isName_4 : decode cX12_isName 4 = .ok (.iconst 1, 1) := by decide +kernel
theorem dX12_isName_5 : decode cX12_isName 5 = .ok (.if_icmp .ne 27, 3) := by decide +kernel
theorem dX12_isName_8 : decode cX12_isName 8 = .ok (.aload_n 0, 1) := by decide +kernel
theorem dX12_isName_9 : decode cX12_isName 9 = .ok (.getfield 206, 3) := by decide +kernel
theorem dX12_isName_12 : decode cX12_isName 12 = .ok (.lconst 0, 1) := by decide +kernel
theorem dX12_isName_13 : decode cX12_isName 13 = .ok (.lcmp, 1) := by decide +kernel
theorem dX12_isName_14 : decode cX12_isName 14 = .ok (.ifCond .le 18, 3) := by decide +kernel
theorem dX12_isName_17 : decode cX12_isName 17 = .ok (.aload_n 0, 1) := by decide +kernel
theorem dX12_isName_18 : decode cX12_isName 18 = .ok (.aload_n 0, 1) := by decide +kernel
theorem dX12_isName_19 : decode cX12_isName 19 = .ok (.getfield 206, 3) := by decide +kernel
theorem dX12_isName_22 : decode cX12_isName 22 = .ok (.invokevirtual 259, 3) := by decide +kernel
theorem dX12_isName_25 : decode cX12_isName 25 = .ok (.ifCond .ge 7, 3) := by decide +kernel
theorem dX12_isName_28 : decode cX12_isName 28 = .ok (.iconst 1, 1) := by decide +kernel
theorem dX12_isName_29 : decode cX12_isName 29 = .ok (.goto 4, 3) := by decide +kernel
theorem dX12_isName_32 : decode cX12_isName 32 = .ok (.iconst 0, 1) := by decide +kernel
theorem dX12_isName_33 : decode cX12_isName 33 = .ok (.ireturn, 1) := by decide +kernel
theorem dX12_number_0 : decode cX12_number 0 = .ok (.aload_n 0, 1) := by decide +kernel
theorem dX12_number_1 : decode cX12_number 1 = .ok (.getfield 210, 3) := by decide +kernel
theorem dX12_number_4 : decode cX12_number 4 = .ok (.istore_n 3, 1) := by decide +kernel
theorem dX12_number_5 : decode cX12_number 5 = .ok (.aload_n 0, 1) := by decide +kernel
theorem dX12_number_6 : decode cX12_number 6 = .ok (.getfield 227, 3) := by decide +kernel
theorem dX12_number_9 : decode cX12_number 9 = .ok (.ifCond .eq 5, 3) := by decide +kernel
theorem dX12_number_12 : decode cX12_number 12 = .ok (.iconst 0, 1) := by decide +kernel
theorem dX12_number_13 : decode cX12_number 13 = .ok (.ireturn, 1) := by decide +kernel
theorem dX12_number_14 : decode cX12_number 14 = .ok (.aload_n 0, 1) := by decide +kernel
theorem dX12_number_15 : decode cX12_number 15 = .ok (.getfield 213, 3) := by decide +kernel
theorem dX12_number_18 : decode cX12_number 18 = .ok (.iconst 2, 1) := by decide +kernel
theorem dX12_number_19 : decode cX12_number 19 = .ok (.if_icmp .ne 13, 3) := by decide +kernel
theorem dX12_number_22 : decode cX12_number 22 = .ok (.iload_n 3, 1) := by decide +kernel
theorem dX12_number_23 : decode cX12_number 23 = .ok (.iload_n 1, 1) := by decide +kernel
theorem dX12_number_24 : decode cX12_number 24 = .ok (.if_icmp .lt 8, 3) := by decide +kernel
theorem dX12_number_27 : decode cX12_number 27 = .ok (.iload_n 3, 1) := by decide +kernel
theorem dX12_number_28 : decode cX12_number 28 = .ok (.iload_n 2, 1) := by decide +kernel
theorem dX12_number_29 : decode cX12_number 29 = .ok (.if_icmp .le 10, 3) := by decide +kernel
theorem dX12_number_32 : decode cX12_number 32 = .ok (.aload_n 0, 1) := by decide +kernel
theorem dX12_number_33 : decode cX12_number 33 = .ok (.invokevirtual 263, 3) := by decide +kernel
theorem dX12_number_36 : decode cX12_number 36 = .ok (.goto 7, 3) := by decide +kernel
theorem dX12_number_39 : decode cX12_number 39 = .ok (.aload_n 0, 1) := by decide +kernel
theorem dX12_number_40 : decode cX12_number 40 = .ok (.invokevirtual 266, 3) := by decide +kernel
theorem dX12_number_43 : decode cX12_number 43 = .ok (.iload_n 3, 1) := by decide +kernel
theorem dX12_number_44 : decode cX12_number 44 = .ok (.ireturn, 1) := by decide +kernel
theorem dX12_ends_0 : decode cX12_ends 0 = .ok (.aload_n 0, 1) := by decide +kernel
theorem dX12_ends_1 : decode cX12_ends 1 = .ok (.getfield 227, 3) := by decide +kernel
theorem dX12_ends_4 : decode cX12_ends 4 = .ok (.ifCond .eq 4, 3) := by decide +kernel
theorem dX12_ends_7 : decode cX12_ends 7 = .ok (.return_, 1) := by decide +kernel
theorem dX12_ends_8 : decode cX12_ends 8 = .ok (.aload_n 0, 1) := by decide +kernel
theorem dX12_ends_9 : decode cX12_ends 9 = .ok (.getfield 213, 3) := by decide +kernel
theorem dX12_ends_12 : decode cX12_ends 12 = .ok (.iconst 3, 1) := by decide +kernel
theorem dX12_ends_13 : decode cX12_ends 13 = .ok (.if_icmp .ne 10, 3) := by decide +kernel
theorem dX12_ends_16 : decode cX12_ends 16 = .ok (.aload_n 0, 1) := by decide +kernel
theorem dX12_ends_17 : decode cX12_ends 17 = .ok (.invokevirtual 266, 3) := by decide +kernel
theorem dX12_ends_20 : decode cX12_ends 20 = .ok (.goto 7, 3) := by decide +kernel
theorem dX12_ends_23 : decode cX12_ends 23 = .ok (.aload_n 0, 1) := by decide +kernel
theorem dX12_ends_24 : decode cX12_ends 24 = .ok (.invokevirtual 263, 3) := by decide +kernel
theorem dX12_ends_27 : decode cX12_ends 27 = .ok (.return_, 1) := by decide +kernel
theorem dX12_cornerHere_0 : decode cX12_cornerHere 0 = .ok (.aload_n 0, 1) := by decide +kernel
theorem dX12_cornerHere_1 : decode cX12_cornerHere 1 = .ok (.getfield 227, 3) := by decide +kernel
theorem dX12_cornerHere_4 : decode cX12_cornerHere 4 = .ok (.ifCond .eq 5, 3) := by decide +kernel
theorem dX12_cornerHere_7 : decode cX12_cornerHere 7 = .ok (.iconst 0, 1) := by decide +kernel
theorem dX12_cornerHere_8 : decode cX12_cornerHere 8 = .ok (.ireturn, 1) := by decide +kernel
theorem dX12_cornerHere_9 : decode cX12_cornerHere 9 = .ok (.iload_n 1, 1) := by decide +kernel
theorem dX12_cornerHere_10 : decode cX12_cornerHere 10 = .ok (.ifCond .eq 10, 3) := by decide +kernel
theorem dX12_cornerHere_13 : decode cX12_cornerHere 13 = .ok (.aload_n 0, 1) := by decide +kernel
theorem dX12_cornerHere_14 : decode cX12_cornerHere 14 = .ok (.getfield 269, 3) := by decide +kernel
theorem dX12_cornerHere_17 : decode cX12_cornerHere 17 = .ok (.goto 7, 3) := by decide +kernel
theorem dX12_cornerHere_20 : decode cX12_cornerHere 20 = .ok (.aload_n 0, 1) := by decide +kernel
theorem dX12_cornerHere_21 : decode cX12_cornerHere 21 = .ok (.getfield 272, 3) := by decide +kernel
theorem dX12_cornerHere_24 : decode cX12_cornerHere 24 = .ok (.istore_n 3, 1) := by decide +kernel
theorem dX12_cornerHere_25 : decode cX12_cornerHere 25 = .ok (.iconst 0, 1) := by decide +kernel
theorem dX12_cornerHere_26 : decode cX12_cornerHere 26 = .ok (.istore 4, 2) := by decide +kernel
theorem dX12_cornerHere_28 : decode cX12_cornerHere 28 = .ok (.iload 4, 2) := by decide +kernel
theorem dX12_cornerHere_30 : decode cX12_cornerHere 30 = .ok (.iload_n 3, 1) := by decide +kernel
theorem dX12_cornerHere_31 : decode cX12_cornerHere 31 = .ok (.if_icmp .ge 38, 3) := by decide +kernel
theorem dX12_cornerHere_34 : decode cX12_cornerHere 34 = .ok (.iload_n 1, 1) := by decide +kernel
theorem dX12_cornerHere_35 : decode cX12_cornerHere 35 = .ok (.ifCond .eq 13, 3) := by decide +kernel
theorem dX12_cornerHere_38 : decode cX12_cornerHere 38 = .ok (.aload_n 0, 1) := by decide +kernel
theorem dX12_cornerHere_39 : decode cX12_cornerHere 39 = .ok (.getfield 26, 3) := by decide +kernel
theorem dX12_cornerHere_42 : decode cX12_cornerHere 42 = .ok (.iload 4, 2) := by decide +kernel
theorem dX12_cornerHere_44 : decode cX12_cornerHere 44 = .ok (.laload, 1) := by decide +kernel
theorem dX12_cornerHere_45 : decode cX12_cornerHere 45 = .ok (.goto 10, 3) := by decide +kernel
theorem dX12_cornerHere_48 : decode cX12_cornerHere 48 = .ok (.aload_n 0, 1) := by decide +kernel
theorem dX12_cornerHere_49 : decode cX12_cornerHere 49 = .ok (.getfield 22, 3) := by decide +kernel
theorem dX12_cornerHere_52 : decode cX12_cornerHere 52 = .ok (.iload 4, 2) := by decide +kernel
theorem dX12_cornerHere_54 : decode cX12_cornerHere 54 = .ok (.laload, 1) := by decide +kernel
theorem dX12_cornerHere_55 : decode cX12_cornerHere 55 = .ok (.aload_n 0, 1) := by decide +kernel
theorem dX12_cornerHere_56 : decode cX12_cornerHere 56 = .ok (.getfield 206, 3) := by decide +kernel
theorem dX12_cornerHere_59 : decode cX12_cornerHere 59 = .ok (.lcmp, 1) := by decide +kernel
theorem dX12_cornerHere_60 : decode cX12_cornerHere 60 = .ok (.ifCond .eq 9, 3) := by decide +kernel
theorem dX12_cornerHere_63 : decode cX12_cornerHere 63 = .ok (.iinc 4 1, 3) := by decide +kernel
theorem dX12_cornerHere_66 : decode cX12_cornerHere 66 = .ok (.goto (-38), 3) := by decide +kernel
theorem dX12_cornerHere_69 : decode cX12_cornerHere 69 = .ok (.aload_n 0, 1) := by decide +kernel
theorem dX12_cornerHere_70 : decode cX12_cornerHere 70 = .ok (.invokevirtual 275, 3) := by decide +kernel
theorem dX12_cornerHere_73 : decode cX12_cornerHere 73 = .ok (.ifCond .eq 15, 3) := by decide +kernel
theorem dX12_cornerHere_76 : decode cX12_cornerHere 76 = .ok (.iload 4, 2) := by decide +kernel
theorem dX12_cornerHere_78 : decode cX12_cornerHere 78 = .ok (.iload_n 3, 1) := by decide +kernel
theorem dX12_cornerHere_79 : decode cX12_cornerHere 79 = .ok (.if_icmp .eq 9, 3) := by decide +kernel
theorem dX12_cornerHere_82 : decode cX12_cornerHere 82 = .ok (.iload 4, 2) := by decide +kernel
theorem dX12_cornerHere_84 : decode cX12_cornerHere 84 = .ok (.iload_n 2, 1) := by decide +kernel
theorem dX12_cornerHere_85 : decode cX12_cornerHere 85 = .ok (.if_icmp .ne 9, 3) := by decide +kernel
theorem dX12_cornerHere_88 : decode cX12_cornerHere 88 = .ok (.aload_n 0, 1) := by decide +kernel
theorem dX12_cornerHere_89 : decode cX12_cornerHere 89 = .ok (.invokevirtual 263, 3) := by decide +kernel
theorem dX12_cornerHere_92 : decode cX12_cornerHere 92 = .ok (.iconst 0, 1) := by decide +kernel
theorem dX12_cornerHere_93 : decode cX12_cornerHere 93 = .ok (.ireturn, 1) := by decide +kernel
theorem dX12_cornerHere_94 : decode cX12_cornerHere 94 = .ok (.iload 4, 2) := by decide +kernel
theorem dX12_cornerHere_96 : decode cX12_cornerHere 96 = .ok (.ireturn, 1) := by decide +kernel
theorem dX12_readCorner_0 : decode cX12_readCorner 0 = .ok (.aload_n 0, 1) := by decide +kernel
theorem dX12_readCorner_1 : decode cX12_readCorner 1 = .ok (.invokevirtual 266, 3) := by decide +kernel
theorem dX12_readCorner_4 : decode cX12_readCorner 4 = .ok (.iconst 0, 1) := by decide +kernel
theorem dX12_readCorner_5 : decode cX12_readCorner 5 = .ok (.istore_n 1, 1) := by decide +kernel
theorem dX12_readCorner_6 : decode cX12_readCorner 6 = .ok (.iload_n 1, 1) := by decide +kernel
theorem dX12_readCorner_7 : decode cX12_readCorner 7 = .ok (.aload_n 0, 1) := by decide +kernel
theorem dX12_readCorner_8 : decode cX12_readCorner 8 = .ok (.getfield 269, 3) := by decide +kernel
theorem dX12_readCorner_11 : decode cX12_readCorner 11 = .ok (.if_icmp .ge 23, 3) := by decide +kernel
theorem dX12_readCorner_14 : decode cX12_readCorner 14 = .ok (.aload_n 0, 1) := by decide +kernel
theorem dX12_readCorner_15 : decode cX12_readCorner 15 = .ok (.getfield 26, 3) := by decide +kernel
theorem dX12_readCorner_18 : decode cX12_readCorner 18 = .ok (.iload_n 1, 1) := by decide +kernel
theorem dX12_readCorner_19 : decode cX12_readCorner 19 = .ok (.laload, 1) := by decide +kernel
theorem dX12_readCorner_20 : decode cX12_readCorner 20 = .ok (.aload_n 0, 1) := by decide +kernel
theorem dX12_readCorner_21 : decode cX12_readCorner 21 = .ok (.getfield 206, 3) := by decide +kernel
theorem dX12_readCorner_24 : decode cX12_readCorner 24 = .ok (.lcmp, 1) := by decide +kernel
theorem dX12_readCorner_25 : decode cX12_readCorner 25 = .ok (.ifCond .eq 9, 3) := by decide +kernel
theorem dX12_readCorner_28 : decode cX12_readCorner 28 = .ok (.iinc 1 1, 3) := by decide +kernel
theorem dX12_readCorner_31 : decode cX12_readCorner 31 = .ok (.goto (-25), 3) := by decide +kernel
theorem dX12_readCorner_34 : decode cX12_readCorner 34 = .ok (.aload_n 0, 1) := by decide +kernel
theorem dX12_readCorner_35 : decode cX12_readCorner 35 = .ok (.invokevirtual 275, 3) := by decide +kernel
theorem dX12_readCorner_38 : decode cX12_readCorner 38 = .ok (.ifCond .eq 20, 3) := by decide +kernel
theorem dX12_readCorner_41 : decode cX12_readCorner 41 = .ok (.iload_n 1, 1) := by decide +kernel
theorem dX12_readCorner_42 : decode cX12_readCorner 42 = .ok (.aload_n 0, 1) := by decide +kernel
theorem dX12_readCorner_43 : decode cX12_readCorner 43 = .ok (.getfield 269, 3) := by decide +kernel
theorem dX12_readCorner_46 : decode cX12_readCorner 46 = .ok (.if_icmp .lt 12, 3) := by decide +kernel
theorem dX12_readCorner_49 : decode cX12_readCorner 49 = .ok (.aload_n 0, 1) := by decide +kernel
theorem dX12_readCorner_50 : decode cX12_readCorner 50 = .ok (.getfield 269, 3) := by decide +kernel
theorem dX12_readCorner_53 : decode cX12_readCorner 53 = .ok (.bipush 12, 2) := by decide +kernel
theorem dX12_readCorner_55 : decode cX12_readCorner 55 = .ok (.if_icmp .ne 8, 3) := by decide +kernel
theorem dX12_readCorner_58 : decode cX12_readCorner 58 = .ok (.aload_n 0, 1) := by decide +kernel
theorem dX12_readCorner_59 : decode cX12_readCorner 59 = .ok (.invokevirtual 263, 3) := by decide +kernel
theorem dX12_readCorner_62 : decode cX12_readCorner 62 = .ok (.return_, 1) := by decide +kernel
theorem dX12_readCorner_63 : decode cX12_readCorner 63 = .ok (.aload_n 0, 1) := by decide +kernel
theorem dX12_readCorner_64 : decode cX12_readCorner 64 = .ok (.getfield 26, 3) := by decide +kernel
theorem dX12_readCorner_67 : decode cX12_readCorner 67 = .ok (.iload_n 1, 1) := by decide +kernel
theorem dX12_readCorner_68 : decode cX12_readCorner 68 = .ok (.aload_n 0, 1) := by decide +kernel
theorem dX12_readCorner_69 : decode cX12_readCorner 69 = .ok (.getfield 206, 3) := by decide +kernel
theorem dX12_readCorner_72 : decode cX12_readCorner 72 = .ok (.lastore, 1) := by decide +kernel
theorem dX12_readCorner_73 : decode cX12_readCorner 73 = .ok (.aload_n 0, 1) := by decide +kernel
theorem dX12_readCorner_74 : decode cX12_readCorner 74 = .ok (.getfield 33, 3) := by decide +kernel
theorem dX12_readCorner_77 : decode cX12_readCorner 77 = .ok (.iload_n 1, 1) := by decide +kernel
theorem dX12_readCorner_78 : decode cX12_readCorner 78 = .ok (.iconst 0, 1) := by decide +kernel
theorem dX12_readCorner_79 : decode cX12_readCorner 79 = .ok (.iastore, 1) := by decide +kernel
theorem dX12_readCorner_80 : decode cX12_readCorner 80 = .ok (.iconst 0, 1) := by decide +kernel
theorem dX12_readCorner_81 : decode cX12_readCorner 81 = .ok (.istore_n 2, 1) := by decide +kernel
theorem dX12_readCorner_82 : decode cX12_readCorner 82 = .ok (.iload_n 2, 1) := by decide +kernel
theorem dX12_readCorner_83 : decode cX12_readCorner 83 = .ok (.iconst 3, 1) := by decide +kernel
theorem dX12_readCorner_84 : decode cX12_readCorner 84 = .ok (.if_icmp .ge 20, 3) := by decide +kernel
theorem dX12_readCorner_87 : decode cX12_readCorner 87 = .ok (.aload_n 0, 1) := by decide +kernel
theorem dX12_readCorner_88 : decode cX12_readCorner 88 = .ok (.getfield 39, 3) := by decide +kernel
theorem dX12_readCorner_91 : decode cX12_readCorner 91 = .ok (.iconst 3, 1) := by decide +kernel
theorem dX12_readCorner_92 : decode cX12_readCorner 92 = .ok (.iload_n 1, 1) := by decide +kernel
theorem dX12_readCorner_93 : decode cX12_readCorner 93 = .ok (.imul, 1) := by decide +kernel
theorem dX12_readCorner_94 : decode cX12_readCorner 94 = .ok (.iload_n 2, 1) := by decide +kernel
theorem dX12_readCorner_95 : decode cX12_readCorner 95 = .ok (.iadd, 1) := by decide +kernel
theorem dX12_readCorner_96 : decode cX12_readCorner 96 = .ok (.iconst 0, 1) := by decide +kernel
theorem dX12_readCorner_97 : decode cX12_readCorner 97 = .ok (.iastore, 1) := by decide +kernel
theorem dX12_readCorner_98 : decode cX12_readCorner 98 = .ok (.iinc 2 1, 3) := by decide +kernel
theorem dX12_readCorner_101 : decode cX12_readCorner 101 = .ok (.goto (-19), 3) := by decide +kernel
theorem dX12_readCorner_104 : decode cX12_readCorner 104 = .ok (.aload_n 0, 1) := by decide +kernel
theorem dX12_readCorner_105 : decode cX12_readCorner 105 = .ok (.dup, 1) := by decide +kernel
theorem dX12_readCorner_106 : decode cX12_readCorner 106 = .ok (.getfield 269, 3) := by decide +kernel
theorem dX12_readCorner_109 : decode cX12_readCorner 109 = .ok (.iconst 1, 1) := by decide +kernel
theorem dX12_readCorner_110 : decode cX12_readCorner 110 = .ok (.iadd, 1) := by decide +kernel
theorem dX12_readCorner_111 : decode cX12_readCorner 111 = .ok (.putfield 269, 3) := by decide +kernel
theorem dX12_readCorner_114 : decode cX12_readCorner 114 = .ok (.aload_n 0, 1) := by decide +kernel
theorem dX12_readCorner_115 : decode cX12_readCorner 115 = .ok (.invokevirtual 266, 3) := by decide +kernel
theorem dX12_readCorner_118 : decode cX12_readCorner 118 = .ok (.aload_n 0, 1) := by decide +kernel
theorem dX12_readCorner_119 : decode cX12_readCorner 119 = .ok (.invokevirtual 279, 3) := by decide +kernel
theorem dX12_readCorner_122 : decode cX12_readCorner 122 = .ok (.iconst 5, 1) := by decide +kernel
theorem dX12_readCorner_123 : decode cX12_readCorner 123 = .ok (.if_icmp .ne 20, 3) := by decide +kernel
theorem dX12_readCorner_126 : decode cX12_readCorner 126 = .ok (.aload_n 0, 1) := by decide +kernel
theorem dX12_readCorner_127 : decode cX12_readCorner 127 = .ok (.invokevirtual 266, 3) := by decide +kernel
theorem dX12_readCorner_130 : decode cX12_readCorner 130 = .ok (.aload_n 0, 1) := by decide +kernel
theorem dX12_readCorner_131 : decode cX12_readCorner 131 = .ok (.getfield 33, 3) := by decide +kernel
theorem dX12_readCorner_134 : decode cX12_readCorner 134 = .ok (.iload_n 1, 1) := by decide +kernel
theorem dX12_readCorner_135 : decode cX12_readCorner 135 = .ok (.aload_n 0, 1) := by decide +kernel
theorem dX12_readCorner_136 : decode cX12_readCorner 136 = .ok (.iconst 0, 1) := by decide +kernel
theorem dX12_readCorner_137 : decode cX12_readCorner 137 = .ok (.bipush 99, 2) := by decide +kernel
theorem dX12_readCorner_139 : decode cX12_readCorner 139 = .ok (.invokevirtual 282, 3) := by decide +kernel
theorem dX12_readCorner_142 : decode cX12_readCorner 142 = .ok (.iastore, 1) := by decide +kernel
theorem dX12_readCorner_143 : decode cX12_readCorner 143 = .ok (.aload_n 0, 1) := by decide +kernel
theorem dX12_readCorner_144 : decode cX12_readCorner 144 = .ok (.getfield 227, 3) := by decide +kernel
theorem dX12_readCorner_147 : decode cX12_readCorner 147 = .ok (.ifCond .ne 62, 3) := by decide +kernel
theorem dX12_readCorner_150 : decode cX12_readCorner 150 = .ok (.aload_n 0, 1) := by decide +kernel
theorem dX12_readCorner_151 : decode cX12_readCorner 151 = .ok (.invokevirtual 279, 3) := by decide +kernel
theorem dX12_readCorner_154 : decode cX12_readCorner 154 = .ok (.bipush 6, 2) := by decide +kernel
theorem dX12_readCorner_156 : decode cX12_readCorner 156 = .ok (.if_icmp .ne 53, 3) := by decide +kernel
theorem dX12_readCorner_159 : decode cX12_readCorner 159 = .ok (.aload_n 0, 1) := by decide +kernel
theorem dX12_readCorner_160 : decode cX12_readCorner 160 = .ok (.invokevirtual 266, 3) := by decide +kernel
theorem dX12_readCorner_163 : decode cX12_readCorner 163 = .ok (.aload_n 0, 1) := by decide +kernel
theorem dX12_readCorner_164 : decode cX12_readCorner 164 = .ok (.invokevirtual 279, 3) := by decide +kernel
theorem dX12_readCorner_167 : decode cX12_readCorner 167 = .ok (.bipush 7, 2) := by decide +kernel
theorem dX12_readCorner_169 : decode cX12_readCorner 169 = .ok (.isub, 1) := by decide +kernel
theorem dX12_readCorner_170 : decode cX12_readCorner 170 = .ok (.istore_n 2, 1) := by decide +kernel
theorem dX12_readCorner_171 : decode cX12_readCorner 171 = .ok (.iload_n 2, 1) := by decide +kernel
theorem dX12_readCorner_172 : decode cX12_readCorner 172 = .ok (.iconst 0, 1) := by decide +kernel
theorem dX12_readCorner_173 : decode cX12_readCorner 173 = .ok (.iconst 2, 1) := by decide +kernel
theorem dX12_readCorner_174 : decode cX12_readCorner 174 = .ok (.invokestatic 216, 3) := by decide +kernel
theorem dX12_readCorner_177 : decode cX12_readCorner 177 = .ok (.ifCond .ne 8, 3) := by decide +kernel
theorem dX12_readCorner_180 : decode cX12_readCorner 180 = .ok (.aload_n 0, 1) := by decide +kernel
theorem dX12_readCorner_181 : decode cX12_readCorner 181 = .ok (.invokevirtual 263, 3) := by decide +kernel
theorem dX12_readCorner_184 : decode cX12_readCorner 184 = .ok (.return_, 1) := by decide +kernel
theorem dX12_readCorner_185 : decode cX12_readCorner 185 = .ok (.aload_n 0, 1) := by decide +kernel
theorem dX12_readCorner_186 : decode cX12_readCorner 186 = .ok (.invokevirtual 266, 3) := by decide +kernel
theorem dX12_readCorner_189 : decode cX12_readCorner 189 = .ok (.aload_n 0, 1) := by decide +kernel
theorem dX12_readCorner_190 : decode cX12_readCorner 190 = .ok (.getfield 39, 3) := by decide +kernel
theorem dX12_readCorner_193 : decode cX12_readCorner 193 = .ok (.iconst 3, 1) := by decide +kernel
theorem dX12_readCorner_194 : decode cX12_readCorner 194 = .ok (.iload_n 1, 1) := by decide +kernel
theorem dX12_readCorner_195 : decode cX12_readCorner 195 = .ok (.imul, 1) := by decide +kernel
theorem dX12_readCorner_196 : decode cX12_readCorner 196 = .ok (.iload_n 2, 1) := by decide +kernel
theorem dX12_readCorner_197 : decode cX12_readCorner 197 = .ok (.iadd, 1) := by decide +kernel
theorem dX12_readCorner_198 : decode cX12_readCorner 198 = .ok (.aload_n 0, 1) := by decide +kernel
theorem dX12_readCorner_199 : decode cX12_readCorner 199 = .ok (.iconst 0, 1) := by decide +kernel
theorem dX12_readCorner_200 : decode cX12_readCorner 200 = .ok (.bipush 20, 2) := by decide +kernel
theorem dX12_readCorner_202 : decode cX12_readCorner 202 = .ok (.invokevirtual 282, 3) := by decide +kernel
theorem dX12_readCorner_205 : decode cX12_readCorner 205 = .ok (.iastore, 1) := by decide +kernel
theorem dX12_readCorner_206 : decode cX12_readCorner 206 = .ok (.goto (-63), 3) := by decide +kernel
theorem dX12_readCorner_209 : decode cX12_readCorner 209 = .ok (.return_, 1) := by decide +kernel
theorem dX12_readStreet_0 : decode cX12_readStreet 0 = .ok (.aload_n 0, 1) := by decide +kernel
theorem dX12_readStreet_1 : decode cX12_readStreet 1 = .ok (.invokevirtual 266, 3) := by decide +kernel
theorem dX12_readStreet_4 : decode cX12_readStreet 4 = .ok (.aload_n 0, 1) := by decide +kernel
theorem dX12_readStreet_5 : decode cX12_readStreet 5 = .ok (.getfield 285, 3) := by decide +kernel
theorem dX12_readStreet_8 : decode cX12_readStreet 8 = .ok (.bipush 16, 2) := by decide +kernel
theorem dX12_readStreet_10 : decode cX12_readStreet 10 = .ok (.if_icmp .ne 8, 3) := by decide +kernel
theorem dX12_readStreet_13 : decode cX12_readStreet 13 = .ok (.aload_n 0, 1) := by decide +kernel
theorem dX12_readStreet_14 : decode cX12_readStreet 14 = .ok (.invokevirtual 263, 3) := by decide +kernel
theorem dX12_readStreet_17 : decode cX12_readStreet 17 = .ok (.return_, 1) := by decide +kernel
theorem dX12_readStreet_18 : decode cX12_readStreet 18 = .ok (.aload_n 0, 1) := by decide +kernel
theorem dX12_readStreet_19 : decode cX12_readStreet 19 = .ok (.iconst 1, 1) := by decide +kernel
theorem dX12_readStreet_20 : decode cX12_readStreet 20 = .ok (.iconst (-1), 1) := by decide +kernel
theorem dX12_readStreet_21 : decode cX12_readStreet 21 = .ok (.invokevirtual 288, 3) := by decide +kernel
theorem dX12_readStreet_24 : decode cX12_readStreet 24 = .ok (.istore_n 1, 1) := by decide +kernel
theorem dX12_readStreet_25 : decode cX12_readStreet 25 = .ok (.aload_n 0, 1) := by decide +kernel
theorem dX12_readStreet_26 : decode cX12_readStreet 26 = .ok (.getfield 227, 3) := by decide +kernel
theorem dX12_readStreet_29 : decode cX12_readStreet 29 = .ok (.ifCond .ne 7, 3) := by decide +kernel
theorem dX12_readStreet_32 : decode cX12_readStreet 32 = .ok (.aload_n 0, 1) := by decide +kernel
theorem dX12_readStreet_33 : decode cX12_readStreet 33 = .ok (.invokevirtual 266, 3) := by decide +kernel
theorem dX12_readStreet_36 : decode cX12_readStreet 36 = .ok (.aload_n 0, 1) := by decide +kernel
theorem dX12_readStreet_37 : decode cX12_readStreet 37 = .ok (.iconst 1, 1) := by decide +kernel
theorem dX12_readStreet_38 : decode cX12_readStreet 38 = .ok (.iload_n 1, 1) := by decide +kernel
theorem dX12_readStreet_39 : decode cX12_readStreet 39 = .ok (.invokevirtual 288, 3) := by decide +kernel
theorem dX12_readStreet_42 : decode cX12_readStreet 42 = .ok (.istore_n 2, 1) := by decide +kernel
theorem dX12_readStreet_43 : decode cX12_readStreet 43 = .ok (.iconst 0, 1) := by decide +kernel
theorem dX12_readStreet_44 : decode cX12_readStreet 44 = .ok (.istore_n 3, 1) := by decide +kernel
theorem dX12_readStreet_45 : decode cX12_readStreet 45 = .ok (.iload_n 3, 1) := by decide +kernel
theorem dX12_readStreet_46 : decode cX12_readStreet 46 = .ok (.aload_n 0, 1) := by decide +kernel
theorem dX12_readStreet_47 : decode cX12_readStreet 47 = .ok (.getfield 285, 3) := by decide +kernel
theorem dX12_readStreet_50 : decode cX12_readStreet 50 = .ok (.if_icmp .ge 60, 3) := by decide +kernel
theorem dX12_readStreet_53 : decode cX12_readStreet 53 = .ok (.aload_n 0, 1) := by decide +kernel
theorem dX12_readStreet_54 : decode cX12_readStreet 54 = .ok (.getfield 227, 3) := by decide +kernel
theorem dX12_readStreet_57 : decode cX12_readStreet 57 = .ok (.ifCond .ne 53, 3) := by decide +kernel
theorem dX12_readStreet_60 : decode cX12_readStreet 60 = .ok (.aload_n 0, 1) := by decide +kernel
theorem dX12_readStreet_61 : decode cX12_readStreet 61 = .ok (.getfield 54, 3) := by decide +kernel
theorem dX12_readStreet_64 : decode cX12_readStreet 64 = .ok (.iload_n 3, 1) := by decide +kernel
theorem dX12_readStreet_65 : decode cX12_readStreet 65 = .ok (.iaload, 1) := by decide +kernel
theorem dX12_readStreet_66 : decode cX12_readStreet 66 = .ok (.iload_n 1, 1) := by decide +kernel
theorem dX12_readStreet_67 : decode cX12_readStreet 67 = .ok (.if_icmp .ne 13, 3) := by decide +kernel
theorem dX12_readStreet_70 : decode cX12_readStreet 70 = .ok (.aload_n 0, 1) := by decide +kernel
theorem dX12_readStreet_71 : decode cX12_readStreet 71 = .ok (.getfield 57, 3) := by decide +kernel
theorem dX12_readStreet_74 : decode cX12_readStreet 74 = .ok (.iload_n 3, 1) := by decide +kernel
theorem dX12_readStreet_75 : decode cX12_readStreet 75 = .ok (.iaload, 1) := by decide +kernel
theorem dX12_readStreet_76 : decode cX12_readStreet 76 = .ok (.iload_n 2, 1) := by decide +kernel
theorem dX12_readStreet_77 : decode cX12_readStreet 77 = .ok (.if_icmp .eq 23, 3) := by decide +kernel
theorem dX12_readStreet_80 : decode cX12_readStreet 80 = .ok (.aload_n 0, 1) := by decide +kernel
theorem dX12_readStreet_81 : decode cX12_readStreet 81 = .ok (.getfield 54, 3) := by decide +kernel
theorem dX12_readStreet_84 : decode cX12_readStreet 84 = .ok (.iload_n 3, 1) := by decide +kernel
theorem dX12_readStreet_85 : decode cX12_readStreet 85 = .ok (.iaload, 1) := by decide +kernel
theorem dX12_readStreet_86 : decode cX12_readStreet 86 = .ok (.iload_n 2, 1) := by decide +kernel
theorem dX12_readStreet_87 : decode cX12_readStreet 87 = .ok (.if_icmp .ne 17, 3) := by decide +kernel
theorem dX12_readStreet_90 : decode cX12_readStreet 90 = .ok (.aload_n 0, 1) := by decide +kernel
theorem dX12_readStreet_91 : decode cX12_readStreet 91 = .ok (.getfield 57, 3) := by decide +kernel
theorem dX12_readStreet_94 : decode cX12_readStreet 94 = .ok (.iload_n 3, 1) := by decide +kernel
theorem dX12_readStreet_95 : decode cX12_readStreet 95 = .ok (.iaload, 1) := by decide +kernel
theorem dX12_readStreet_96 : decode cX12_readStreet 96 = .ok (.iload_n 1, 1) := by decide +kernel
theorem dX12_readStreet_97 : decode cX12_readStreet 97 = .ok (.if_icmp .ne 7, 3) := by decide +kernel
theorem dX12_readStreet_100 : decode cX12_readStreet 100 = .ok (.aload_n 0, 1) := by decide +kernel
theorem dX12_readStreet_101 : decode cX12_readStreet 101 = .ok (.invokevirtual 263, 3) := by decide +kernel
theorem dX12_readStreet_104 : decode cX12_readStreet 104 = .ok (.iinc 3 1, 3) := by decide +kernel
theorem dX12_readStreet_107 : decode cX12_readStreet 107 = .ok (.goto (-62), 3) := by decide +kernel
theorem dX12_readStreet_110 : decode cX12_readStreet 110 = .ok (.aload_n 0, 1) := by decide +kernel
theorem dX12_readStreet_111 : decode cX12_readStreet 111 = .ok (.getfield 227, 3) := by decide +kernel
theorem dX12_readStreet_114 : decode cX12_readStreet 114 = .ok (.ifCond .eq 4, 3) := by decide +kernel
theorem dX12_readStreet_117 : decode cX12_readStreet 117 = .ok (.return_, 1) := by decide +kernel
theorem dX12_readStreet_118 : decode cX12_readStreet 118 = .ok (.aload_n 0, 1) := by decide +kernel
theorem dX12_readStreet_119 : decode cX12_readStreet 119 = .ok (.invokevirtual 266, 3) := by decide +kernel
theorem dX12_readStreet_122 : decode cX12_readStreet 122 = .ok (.aload_n 0, 1) := by decide +kernel
theorem dX12_readStreet_123 : decode cX12_readStreet 123 = .ok (.getfield 285, 3) := by decide +kernel
theorem dX12_readStreet_126 : decode cX12_readStreet 126 = .ok (.istore_n 3, 1) := by decide +kernel
theorem dX12_readStreet_127 : decode cX12_readStreet 127 = .ok (.aload_n 0, 1) := by decide +kernel
theorem dX12_readStreet_128 : decode cX12_readStreet 128 = .ok (.getfield 54, 3) := by decide +kernel
theorem dX12_readStreet_131 : decode cX12_readStreet 131 = .ok (.iload_n 3, 1) := by decide +kernel
theorem dX12_readStreet_132 : decode cX12_readStreet 132 = .ok (.iload_n 1, 1) := by decide +kernel
theorem dX12_readStreet_133 : decode cX12_readStreet 133 = .ok (.iastore, 1) := by decide +kernel
theorem dX12_readStreet_134 : decode cX12_readStreet 134 = .ok (.aload_n 0, 1) := by decide +kernel
theorem dX12_readStreet_135 : decode cX12_readStreet 135 = .ok (.getfield 57, 3) := by decide +kernel
theorem dX12_readStreet_138 : decode cX12_readStreet 138 = .ok (.iload_n 3, 1) := by decide +kernel
theorem dX12_readStreet_139 : decode cX12_readStreet 139 = .ok (.iload_n 2, 1) := by decide +kernel
theorem dX12_readStreet_140 : decode cX12_readStreet 140 = .ok (.iastore, 1) := by decide +kernel
theorem dX12_readStreet_141 : decode cX12_readStreet 141 = .ok (.aload_n 0, 1) := by decide +kernel
theorem dX12_readStreet_142 : decode cX12_readStreet 142 = .ok (.getfield 60, 3) := by decide +kernel
theorem dX12_readStreet_145 : decode cX12_readStreet 145 = .ok (.iload_n 3, 1) := by decide +kernel
theorem dX12_readStreet_146 : decode cX12_readStreet 146 = .ok (.aload_n 0, 1) := by decide +kernel
theorem dX12_readStreet_147 : decode cX12_readStreet 147 = .ok (.iconst 1, 1) := by decide +kernel
theorem dX12_readStreet_148 : decode cX12_readStreet 148 = .ok (.bipush 12, 2) := by decide +kernel
theorem dX12_readStreet_150 : decode cX12_readStreet 150 = .ok (.invokevirtual 282, 3) := by decide +kernel
theorem dX12_readStreet_153 : decode cX12_readStreet 153 = .ok (.iastore, 1) := by decide +kernel
theorem dX12_readStreet_154 : decode cX12_readStreet 154 = .ok (.aload_n 0, 1) := by decide +kernel
theorem dX12_readStreet_155 : decode cX12_readStreet 155 = .ok (.getfield 63, 3) := by decide +kernel
theorem dX12_readStreet_158 : decode cX12_readStreet 158 = .ok (.iload_n 3, 1) := by decide +kernel
theorem dX12_readStreet_159 : decode cX12_readStreet 159 = .ok (.iconst 0, 1) := by decide +kernel
theorem dX12_readStreet_160 : decode cX12_readStreet 160 = .ok (.iastore, 1) := by decide +kernel
theorem dX12_readStreet_161 : decode cX12_readStreet 161 = .ok (.aload_n 0, 1) := by decide +kernel
theorem dX12_readStreet_162 : decode cX12_readStreet 162 = .ok (.getfield 227, 3) := by decide +kernel
theorem dX12_readStreet_165 : decode cX12_readStreet 165 = .ok (.ifCond .ne 28, 3) := by decide +kernel
theorem dX12_readStreet_168 : decode cX12_readStreet 168 = .ok (.aload_n 0, 1) := by decide +kernel
theorem dX12_readStreet_169 : decode cX12_readStreet 169 = .ok (.invokevirtual 279, 3) := by decide +kernel
theorem dX12_readStreet_172 : decode cX12_readStreet 172 = .ok (.iconst 5, 1) := by decide +kernel
theorem dX12_readStreet_173 : decode cX12_readStreet 173 = .ok (.if_icmp .ne 20, 3) := by decide +kernel
theorem dX12_readStreet_176 : decode cX12_readStreet 176 = .ok (.aload_n 0, 1) := by decide +kernel
theorem dX12_readStreet_177 : decode cX12_readStreet 177 = .ok (.invokevirtual 266, 3) := by decide +kernel
theorem dX12_readStreet_180 : decode cX12_readStreet 180 = .ok (.aload_n 0, 1) := by decide +kernel
theorem dX12_readStreet_181 : decode cX12_readStreet 181 = .ok (.getfield 63, 3) := by decide +kernel
theorem dX12_readStreet_184 : decode cX12_readStreet 184 = .ok (.iload_n 3, 1) := by decide +kernel
theorem dX12_readStreet_185 : decode cX12_readStreet 185 = .ok (.aload_n 0, 1) := by decide +kernel
theorem dX12_readStreet_186 : decode cX12_readStreet 186 = .ok (.iconst 0, 1) := by decide +kernel
theorem dX12_readStreet_187 : decode cX12_readStreet 187 = .ok (.bipush 20, 2) := by decide +kernel
theorem dX12_readStreet_189 : decode cX12_readStreet 189 = .ok (.invokevirtual 282, 3) := by decide +kernel
theorem dX12_readStreet_192 : decode cX12_readStreet 192 = .ok (.iastore, 1) := by decide +kernel
theorem dX12_readStreet_193 : decode cX12_readStreet 193 = .ok (.aload_n 0, 1) := by decide +kernel
theorem dX12_readStreet_194 : decode cX12_readStreet 194 = .ok (.dup, 1) := by decide +kernel
theorem dX12_readStreet_195 : decode cX12_readStreet 195 = .ok (.getfield 285, 3) := by decide +kernel
theorem dX12_readStreet_198 : decode cX12_readStreet 198 = .ok (.iconst 1, 1) := by decide +kernel
theorem dX12_readStreet_199 : decode cX12_readStreet 199 = .ok (.iadd, 1) := by decide +kernel
theorem dX12_readStreet_200 : decode cX12_readStreet 200 = .ok (.putfield 285, 3) := by decide +kernel
theorem dX12_readStreet_203 : decode cX12_readStreet 203 = .ok (.return_, 1) := by decide +kernel
theorem dX12_readStatement_0 : decode cX12_readStatement 0 = .ok (.aload_n 0, 1) := by decide +kernel
theorem dX12_readStatement_1 : decode cX12_readStatement 1 = .ok (.invokevirtual 279, 3) := by decide +kernel
theorem dX12_readStatement_4 : decode cX12_readStatement 4 = .ok (.istore_n 1, 1) := by decide +kernel
theorem dX12_readStatement_5 : decode cX12_readStatement 5 = .ok (.iload_n 1, 1) := by decide +kernel
theorem dX12_readStatement_6 : decode cX12_readStatement 6 = .ok (.ifCond .ne 10, 3) := by decide +kernel
theorem dX12_readStatement_9 : decode cX12_readStatement 9 = .ok (.aload_n 0, 1) := by decide +kernel
theorem dX12_readStatement_10 : decode cX12_readStatement 10 = .ok (.invokevirtual 292, 3) := by decide +kernel
theorem dX12_readStatement_13 : decode cX12_readStatement 13 = .ok (.goto 112, 3) := by decide +kernel
theorem dX12_readStatement_16 : decode cX12_readStatement 16 = .ok (.iload_n 1, 1) := by decide +kernel
theorem dX12_readStatement_17 : decode cX12_readStatement 17 = .ok (.iconst 1, 1) := by decide +kernel
theorem dX12_readStatement_18 : decode cX12_readStatement 18 = .ok (.if_icmp .ne 10, 3) := by decide +kernel
theorem dX12_readStatement_21 : decode cX12_readStatement 21 = .ok (.aload_n 0, 1) := by decide +kernel
theorem dX12_readStatement_22 : decode cX12_readStatement 22 = .ok (.invokevirtual 295, 3) := by decide +kernel
theorem dX12_readStatement_25 : decode cX12_readStatement 25 = .ok (.goto 100, 3) := by decide +kernel
theorem dX12_readStatement_28 : decode cX12_readStatement 28 = .ok (.iload_n 1, 1) := by decide +kernel
theorem dX12_readStatement_29 : decode cX12_readStatement 29 = .ok (.iconst 2, 1) := by decide +kernel
theorem dX12_readStatement_30 : decode cX12_readStatement 30 = .ok (.if_icmp .ne 20, 3) := by decide +kernel
theorem dX12_readStatement_33 : decode cX12_readStatement 33 = .ok (.aload_n 0, 1) := by decide +kernel
theorem dX12_readStatement_34 : decode cX12_readStatement 34 = .ok (.invokevirtual 266, 3) := by decide +kernel
theorem dX12_readStatement_37 : decode cX12_readStatement 37 = .ok (.aload_n 0, 1) := by decide +kernel
theorem dX12_readStatement_38 : decode cX12_readStatement 38 = .ok (.aload_n 0, 1) := by decide +kernel
theorem dX12_readStatement_39 : decode cX12_readStatement 39 = .ok (.iconst 1, 1) := by decide +kernel
theorem dX12_readStatement_40 : decode cX12_readStatement 40 = .ok (.iconst 5, 1) := by decide +kernel
theorem dX12_readStatement_41 : decode cX12_readStatement 41 = .ok (.invokevirtual 282, 3) := by decide +kernel
theorem dX12_readStatement_44 : decode cX12_readStatement 44 = .ok (.putfield 298, 3) := by decide +kernel
theorem dX12_readStatement_47 : decode cX12_readStatement 47 = .ok (.goto 78, 3) := by decide +kernel
theorem dX12_readStatement_50 : decode cX12_readStatement 50 = .ok (.iload_n 1, 1) := by decide +kernel
theorem dX12_readStatement_51 : decode cX12_readStatement 51 = .ok (.iconst 3, 1) := by decide +kernel
theorem dX12_readStatement_52 : decode cX12_readStatement 52 = .ok (.if_icmp .ne 22, 3) := by decide +kernel
theorem dX12_readStatement_55 : decode cX12_readStatement 55 = .ok (.aload_n 0, 1) := by decide +kernel
theorem dX12_readStatement_56 : decode cX12_readStatement 56 = .ok (.invokevirtual 266, 3) := by decide +kernel
theorem dX12_readStatement_59 : decode cX12_readStatement 59 = .ok (.aload_n 0, 1) := by decide +kernel
theorem dX12_readStatement_60 : decode cX12_readStatement 60 = .ok (.aload_n 0, 1) := by decide +kernel
theorem dX12_readStatement_61 : decode cX12_readStatement 61 = .ok (.iconst 0, 1) := by decide +kernel
theorem dX12_readStatement_62 : decode cX12_readStatement 62 = .ok (.sipush 9999, 3) := by decide +kernel
theorem dX12_readStatement_65 : decode cX12_readStatement 65 = .ok (.invokevirtual 282, 3) := by decide +kernel
theorem dX12_readStatement_68 : decode cX12_readStatement 68 = .ok (.putfield 301, 3) := by decide +kernel
theorem dX12_readStatement_71 : decode cX12_readStatement 71 = .ok (.goto 54, 3) := by decide +kernel
theorem dX12_readStatement_74 : decode cX12_readStatement 74 = .ok (.iload_n 1, 1) := by decide +kernel
theorem dX12_readStatement_75 : decode cX12_readStatement 75 = .ok (.iconst 4, 1) := by decide +kernel
theorem dX12_readStatement_76 : decode cX12_readStatement 76 = .ok (.if_icmp .ne 45, 3) := by decide +kernel
theorem dX12_readStatement_79 : decode cX12_readStatement 79 = .ok (.aload_n 0, 1) := by decide +kernel
theorem dX12_readStatement_80 : decode cX12_readStatement 80 = .ok (.invokevirtual 266, 3) := by decide +kernel
theorem dX12_readStatement_83 : decode cX12_readStatement 83 = .ok (.aload_n 0, 1) := by decide +kernel
theorem dX12_readStatement_84 : decode cX12_readStatement 84 = .ok (.aload_n 0, 1) := by decide +kernel
theorem dX12_readStatement_85 : decode cX12_readStatement 85 = .ok (.iconst 0, 1) := by decide +kernel
theorem dX12_readStatement_86 : decode cX12_readStatement 86 = .ok (.bipush 60, 2) := by decide +kernel
theorem dX12_readStatement_88 : decode cX12_readStatement 88 = .ok (.invokevirtual 282, 3) := by decide +kernel
theorem dX12_readStatement_91 : decode cX12_readStatement 91 = .ok (.putfield 304, 3) := by decide +kernel
theorem dX12_readStatement_94 : decode cX12_readStatement 94 = .ok (.aload_n 0, 1) := by decide +kernel
theorem dX12_readStatement_95 : decode cX12_readStatement 95 = .ok (.aload_n 0, 1) := by decide +kernel
theorem dX12_readStatement_96 : decode cX12_readStatement 96 = .ok (.aload_n 0, 1) := by decide +kernel
theorem dX12_readStatement_97 : decode cX12_readStatement 97 = .ok (.getfield 304, 3) := by decide +kernel
theorem dX12_readStatement_100 : decode cX12_readStatement 100 = .ok (.bipush 60, 2) := by decide +kernel
theorem dX12_readStatement_102 : decode cX12_readStatement 102 = .ok (.aload_n 0, 1) := by decide +kernel
theorem dX12_readStatement_103 : decode cX12_readStatement 103 = .ok (.getfield 304, 3) := by decide +kernel
theorem dX12_readStatement_106 : decode cX12_readStatement 106 = .ok (.bipush 20, 2) := by decide +kernel
theorem dX12_readStatement_108 : decode cX12_readStatement 108 = .ok (.iadd, 1) := by decide +kernel
theorem dX12_readStatement_109 : decode cX12_readStatement 109 = .ok (.invokestatic 223, 3) := by decide +kernel
theorem dX12_readStatement_112 : decode cX12_readStatement 112 = .ok (.invokevirtual 282, 3) := by decide +kernel
theorem dX12_readStatement_115 : decode cX12_readStatement 115 = .ok (.putfield 307, 3) := by decide +kernel
theorem dX12_readStatement_118 : decode cX12_readStatement 118 = .ok (.goto 7, 3) := by decide +kernel
theorem dX12_readStatement_121 : decode cX12_readStatement 121 = .ok (.aload_n 0, 1) := by decide +kernel
theorem dX12_readStatement_122 : decode cX12_readStatement 122 = .ok (.invokevirtual 263, 3) := by decide +kernel
theorem dX12_readStatement_125 : decode cX12_readStatement 125 = .ok (.aload_n 0, 1) := by decide +kernel
theorem dX12_readStatement_126 : decode cX12_readStatement 126 = .ok (.invokevirtual 310, 3) := by decide +kernel
theorem dX12_readStatement_129 : decode cX12_readStatement 129 = .ok (.return_, 1) := by decide +kernel
theorem dX12_beginsText_0 : decode cX12_beginsText 0 = .ok (.aload_n 0, 1) := by decide +kernel
theorem dX12_beginsText_1 : decode cX12_beginsText 1 = .ok (.iload_n 1, 1) := by decide +kernel
theorem dX12_beginsText_2 : decode cX12_beginsText 2 = .ok (.putfield 194, 3) := by decide +kernel
theorem dX12_beginsText_5 : decode cX12_beginsText 5 = .ok (.aload_n 0, 1) := by decide +kernel
theorem dX12_beginsText_6 : decode cX12_beginsText 6 = .ok (.iconst 0, 1) := by decide +kernel
theorem dX12_beginsText_7 : decode cX12_beginsText 7 = .ok (.putfield 188, 3) := by decide +kernel
theorem dX12_beginsText_10 : decode cX12_beginsText 10 = .ok (.aload_n 0, 1) := by decide +kernel
theorem dX12_beginsText_11 : decode cX12_beginsText 11 = .ok (.iconst 0, 1) := by decide +kernel
theorem dX12_beginsText_12 : decode cX12_beginsText 12 = .ok (.putfield 191, 3) := by decide +kernel
theorem dX12_beginsText_15 : decode cX12_beginsText 15 = .ok (.aload_n 0, 1) := by decide +kernel
theorem dX12_beginsText_16 : decode cX12_beginsText 16 = .ok (.iconst (-1), 1) := by decide +kernel
theorem dX12_beginsText_17 : decode cX12_beginsText 17 = .ok (.putfield 70, 3) := by decide +kernel
theorem dX12_beginsText_20 : decode cX12_beginsText 20 = .ok (.aload_n 0, 1) := by decide +kernel
theorem dX12_beginsText_21 : decode cX12_beginsText 21 = .ok (.iconst 0, 1) := by decide +kernel
theorem dX12_beginsText_22 : decode cX12_beginsText 22 = .ok (.putfield 227, 3) := by decide +kernel
theorem dX12_beginsText_25 : decode cX12_beginsText 25 = .ok (.aload_n 0, 1) := by decide +kernel
theorem dX12_beginsText_26 : decode cX12_beginsText 26 = .ok (.invokevirtual 266, 3) := by decide +kernel
theorem dX12_beginsText_29 : decode cX12_beginsText 29 = .ok (.return_, 1) := by decide +kernel
theorem dX12_town_0 : decode cX12_town 0 = .ok (.iload_n 1, 1) := by decide +kernel
theorem dX12_town_1 : decode cX12_town 1 = .ok (.ifCond .lt 11, 3) := by decide +kernel
theorem dX12_town_4 : decode cX12_town 4 = .ok (.iload_n 1, 1) := by decide +kernel
theorem dX12_town_5 : decode cX12_town 5 = .ok (.aload_n 0, 1) := by decide +kernel
theorem dX12_town_6 : decode cX12_town 6 = .ok (.getfield 188, 3) := by decide +kernel
theorem dX12_town_9 : decode cX12_town 9 = .ok (.if_icmp .le 6, 3) := by decide +kernel
theorem dX12_town_12 : decode cX12_town 12 = .ok (.bipush (-2), 2) := by decide +kernel
theorem dX12_town_14 : decode cX12_town 14 = .ok (.ireturn, 1) := by decide +kernel
theorem dX12_town_15 : decode cX12_town 15 = .ok (.aload_n 0, 1) := by decide +kernel
theorem dX12_town_16 : decode cX12_town 16 = .ok (.iload_n 1, 1) := by decide +kernel
theorem dX12_town_17 : decode cX12_town 17 = .ok (.invokevirtual 313, 3) := by decide +kernel
theorem dX12_town_20 : decode cX12_town 20 = .ok (.aload_n 0, 1) := by decide +kernel
theorem dX12_town_21 : decode cX12_town 21 = .ok (.iconst 0, 1) := by decide +kernel
theorem dX12_town_22 : decode cX12_town 22 = .ok (.putfield 269, 3) := by decide +kernel
theorem dX12_town_25 : decode cX12_town 25 = .ok (.aload_n 0, 1) := by decide +kernel
theorem dX12_town_26 : decode cX12_town 26 = .ok (.iconst 0, 1) := by decide +kernel
theorem dX12_town_27 : decode cX12_town 27 = .ok (.putfield 285, 3) := by decide +kernel
theorem dX12_town_30 : decode cX12_town 30 = .ok (.aload_n 0, 1) := by decide +kernel
theorem dX12_town_31 : decode cX12_town 31 = .ok (.iconst 1, 1) := by decide +kernel
theorem dX12_town_32 : decode cX12_town 32 = .ok (.putfield 298, 3) := by decide +kernel
theorem dX12_town_35 : decode cX12_town 35 = .ok (.aload_n 0, 1) := by decide +kernel
theorem dX12_town_36 : decode cX12_town 36 = .ok (.sipush 9999, 3) := by decide +kernel
theorem dX12_town_39 : decode cX12_town 39 = .ok (.putfield 301, 3) := by decide +kernel
theorem dX12_town_42 : decode cX12_town 42 = .ok (.aload_n 0, 1) := by decide +kernel
theorem dX12_town_43 : decode cX12_town 43 = .ok (.bipush 10, 2) := by decide +kernel
theorem dX12_town_45 : decode cX12_town 45 = .ok (.putfield 304, 3) := by decide +kernel
theorem dX12_town_48 : decode cX12_town 48 = .ok (.aload_n 0, 1) := by decide +kernel
theorem dX12_town_49 : decode cX12_town 49 = .ok (.bipush 10, 2) := by decide +kernel
theorem dX12_town_51 : decode cX12_town 51 = .ok (.putfield 307, 3) := by decide +kernel
theorem dX12_town_54 : decode cX12_town 54 = .ok (.iconst 0, 1) := by decide +kernel
theorem dX12_town_55 : decode cX12_town 55 = .ok (.istore_n 2, 1) := by decide +kernel
theorem dX12_town_56 : decode cX12_town 56 = .ok (.aload_n 0, 1) := by decide +kernel
theorem dX12_town_57 : decode cX12_town 57 = .ok (.getfield 213, 3) := by decide +kernel
theorem dX12_town_60 : decode cX12_town 60 = .ok (.ifCond .eq 33, 3) := by decide +kernel
theorem dX12_town_63 : decode cX12_town 63 = .ok (.aload_n 0, 1) := by decide +kernel
theorem dX12_town_64 : decode cX12_town 64 = .ok (.getfield 227, 3) := by decide +kernel
theorem dX12_town_67 : decode cX12_town 67 = .ok (.ifCond .ne 26, 3) := by decide +kernel
theorem dX12_town_70 : decode cX12_town 70 = .ok (.iload_n 2, 1) := by decide +kernel
theorem dX12_town_71 : decode cX12_town 71 = .ok (.bipush 40, 2) := by decide +kernel
theorem dX12_town_73 : decode cX12_town 73 = .ok (.if_icmp .ne 10, 3) := by decide +kernel
theorem dX12_town_76 : decode cX12_town 76 = .ok (.aload_n 0, 1) := by decide +kernel
theorem dX12_town_77 : decode cX12_town 77 = .ok (.invokevirtual 263, 3) := by decide +kernel
theorem dX12_town_80 : decode cX12_town 80 = .ok (.goto 7, 3) := by decide +kernel
theorem dX12_town_83 : decode cX12_town 83 = .ok (.aload_n 0, 1) := by decide +kernel
theorem dX12_town_84 : decode cX12_town 84 = .ok (.invokevirtual 317, 3) := by decide +kernel
theorem dX12_town_87 : decode cX12_town 87 = .ok (.iinc 2 1, 3) := by decide +kernel
theorem dX12_town_90 : decode cX12_town 90 = .ok (.goto (-34), 3) := by decide +kernel
theorem dX12_town_93 : decode cX12_town 93 = .ok (.aload_n 0, 1) := by decide +kernel
theorem dX12_town_94 : decode cX12_town 94 = .ok (.getfield 227, 3) := by decide +kernel
theorem dX12_town_97 : decode cX12_town 97 = .ok (.ifCond .ne 14, 3) := by decide +kernel
theorem dX12_town_100 : decode cX12_town 100 = .ok (.aload_n 0, 1) := by decide +kernel
theorem dX12_town_101 : decode cX12_town 101 = .ok (.getfield 269, 3) := by decide +kernel
theorem dX12_town_104 : decode cX12_town 104 = .ok (.ifCond .ne 7, 3) := by decide +kernel
theorem dX12_town_107 : decode cX12_town 107 = .ok (.aload_n 0, 1) := by decide +kernel
theorem dX12_town_108 : decode cX12_town 108 = .ok (.invokevirtual 263, 3) := by decide +kernel
theorem dX12_town_111 : decode cX12_town 111 = .ok (.aload_n 0, 1) := by decide +kernel
theorem dX12_town_112 : decode cX12_town 112 = .ok (.getfield 227, 3) := by decide +kernel
theorem dX12_town_115 : decode cX12_town 115 = .ok (.ifCond .eq 5, 3) := by decide +kernel
theorem dX12_town_118 : decode cX12_town 118 = .ok (.iconst (-1), 1) := by decide +kernel
theorem dX12_town_119 : decode cX12_town 119 = .ok (.ireturn, 1) := by decide +kernel
theorem dX12_town_120 : decode cX12_town 120 = .ok (.aload_n 0, 1) := by decide +kernel
theorem dX12_town_121 : decode cX12_town 121 = .ok (.aload_n 0, 1) := by decide +kernel
theorem dX12_town_122 : decode cX12_town 122 = .ok (.getfield 269, 3) := by decide +kernel
theorem dX12_town_125 : decode cX12_town 125 = .ok (.putfield 272, 3) := by decide +kernel
theorem dX12_town_128 : decode cX12_town 128 = .ok (.aload_n 0, 1) := by decide +kernel
theorem dX12_town_129 : decode cX12_town 129 = .ok (.aload_n 0, 1) := by decide +kernel
theorem dX12_town_130 : decode cX12_town 130 = .ok (.getfield 285, 3) := by decide +kernel
theorem dX12_town_133 : decode cX12_town 133 = .ok (.putfield 320, 3) := by decide +kernel
theorem dX12_town_136 : decode cX12_town 136 = .ok (.aload_n 0, 1) := by decide +kernel
theorem dX12_town_137 : decode cX12_town 137 = .ok (.aload_n 0, 1) := by decide +kernel
theorem dX12_town_138 : decode cX12_town 138 = .ok (.getfield 298, 3) := by decide +kernel
theorem dX12_town_141 : decode cX12_town 141 = .ok (.putfield 7, 3) := by decide +kernel
theorem dX12_town_144 : decode cX12_town 144 = .ok (.aload_n 0, 1) := by decide +kernel
theorem dX12_town_145 : decode cX12_town 145 = .ok (.aload_n 0, 1) := by decide +kernel
theorem dX12_town_146 : decode cX12_town 146 = .ok (.getfield 301, 3) := by decide +kernel
theorem dX12_town_149 : decode cX12_town 149 = .ok (.putfield 13, 3) := by decide +kernel
theorem dX12_town_152 : decode cX12_town 152 = .ok (.aload_n 0, 1) := by decide +kernel
theorem dX12_town_153 : decode cX12_town 153 = .ok (.aload_n 0, 1) := by decide +kernel
theorem dX12_town_154 : decode cX12_town 154 = .ok (.getfield 304, 3) := by decide +kernel
theorem dX12_town_157 : decode cX12_town 157 = .ok (.putfield 16, 3) := by decide +kernel
theorem dX12_town_160 : decode cX12_town 160 = .ok (.aload_n 0, 1) := by decide +kernel
theorem dX12_town_161 : decode cX12_town 161 = .ok (.aload_n 0, 1) := by decide +kernel
theorem dX12_town_162 : decode cX12_town 162 = .ok (.getfield 307, 3) := by decide +kernel
theorem dX12_town_165 : decode cX12_town 165 = .ok (.putfield 19, 3) := by decide +kernel
theorem dX12_town_168 : decode cX12_town 168 = .ok (.aload_n 0, 1) := by decide +kernel
theorem dX12_town_169 : decode cX12_town 169 = .ok (.iload_n 2, 1) := by decide +kernel
theorem dX12_town_170 : decode cX12_town 170 = .ok (.putfield 323, 3) := by decide +kernel
theorem dX12_town_173 : decode cX12_town 173 = .ok (.iconst 0, 1) := by decide +kernel
theorem dX12_town_174 : decode cX12_town 174 = .ok (.istore_n 3, 1) := by decide +kernel
theorem dX12_town_175 : decode cX12_town 175 = .ok (.iload_n 3, 1) := by decide +kernel
theorem dX12_town_176 : decode cX12_town 176 = .ok (.aload_n 0, 1) := by decide +kernel
theorem dX12_town_177 : decode cX12_town 177 = .ok (.getfield 272, 3) := by decide +kernel
theorem dX12_town_180 : decode cX12_town 180 = .ok (.if_icmp .ge 70, 3) := by decide +kernel
theorem dX12_town_183 : decode cX12_town 183 = .ok (.aload_n 0, 1) := by decide +kernel
theorem dX12_town_184 : decode cX12_town 184 = .ok (.getfield 22, 3) := by decide +kernel
theorem dX12_town_187 : decode cX12_town 187 = .ok (.iload_n 3, 1) := by decide +kernel
theorem dX12_town_188 : decode cX12_town 188 = .ok (.aload_n 0, 1) := by decide +kernel
theorem dX12_town_189 : decode cX12_town 189 = .ok (.getfield 26, 3) := by decide +kernel
theorem dX12_town_192 : decode cX12_town 192 = .ok (.iload_n 3, 1) := by decide +kernel
theorem dX12_town_193 : decode cX12_town 193 = .ok (.laload, 1) := by decide +kernel
theorem dX12_town_194 : decode cX12_town 194 = .ok (.lastore, 1) := by decide +kernel
theorem dX12_town_195 : decode cX12_town 195 = .ok (.aload_n 0, 1) := by decide +kernel
theorem dX12_town_196 : decode cX12_town 196 = .ok (.getfield 29, 3) := by decide +kernel
theorem dX12_town_199 : decode cX12_town 199 = .ok (.iload_n 3, 1) := by decide +kernel
theorem dX12_town_200 : decode cX12_town 200 = .ok (.aload_n 0, 1) := by decide +kernel
theorem dX12_town_201 : decode cX12_town 201 = .ok (.getfield 33, 3) := by decide +kernel
theorem dX12_town_204 : decode cX12_town 204 = .ok (.iload_n 3, 1) := by decide +kernel
theorem dX12_town_205 : decode cX12_town 205 = .ok (.iaload, 1) := by decide +kernel
theorem dX12_town_206 : decode cX12_town 206 = .ok (.iastore, 1) := by decide +kernel
theorem dX12_town_207 : decode cX12_town 207 = .ok (.iconst 0, 1) := by decide +kernel
theorem dX12_town_208 : decode cX12_town 208 = .ok (.istore 4, 2) := by decide +kernel
theorem dX12_town_210 : decode cX12_town 210 = .ok (.iload 4, 2) := by decide +kernel
theorem dX12_town_212 : decode cX12_town 212 = .ok (.iconst 3, 1) := by decide +kernel
theorem dX12_town_213 : decode cX12_town 213 = .ok (.if_icmp .ge 31, 3) := by decide +kernel
theorem dX12_town_216 : decode cX12_town 216 = .ok (.aload_n 0, 1) := by decide +kernel
theorem dX12_town_217 : decode cX12_town 217 = .ok (.getfield 36, 3) := by decide +kernel
theorem dX12_town_220 : decode cX12_town 220 = .ok (.iconst 3, 1) := by decide +kernel
theorem dX12_town_221 : decode cX12_town 221 = .ok (.iload_n 3, 1) := by decide +kernel
theorem dX12_town_222 : decode cX12_town 222 = .ok (.imul, 1) := by decide +kernel
theorem dX12_town_223 : decode cX12_town 223 = .ok (.iload 4, 2) := by decide +kernel
theorem dX12_town_225 : decode cX12_town 225 = .ok (.iadd, 1) := by decide +kernel
theorem dX12_town_226 : decode cX12_town 226 = .ok (.aload_n 0, 1) := by decide +kernel
theorem dX12_town_227 : decode cX12_town 227 = .ok (.getfield 39, 3) := by decide +kernel
theorem dX12_town_230 : decode cX12_town 230 = .ok (.iconst 3, 1) := by decide +kernel
theorem dX12_town_231 : decode cX12_town 231 = .ok (.iload_n 3, 1) := by decide +kernel
theorem dX12_town_232 : decode cX12_town 232 = .ok (.imul, 1) := by decide +kernel
theorem dX12_town_233 : decode cX12_town 233 = .ok (.iload 4, 2) := by decide +kernel
theorem dX12_town_235 : decode cX12_town 235 = .ok (.iadd, 1) := by decide +kernel
theorem dX12_town_236 : decode cX12_town 236 = .ok (.iaload, 1) := by decide +kernel
theorem dX12_town_237 : decode cX12_town 237 = .ok (.iastore, 1) := by decide +kernel
theorem dX12_town_238 : decode cX12_town 238 = .ok (.iinc 4 1, 3) := by decide +kernel
theorem dX12_town_241 : decode cX12_town 241 = .ok (.goto (-31), 3) := by decide +kernel
theorem dX12_town_244 : decode cX12_town 244 = .ok (.iinc 3 1, 3) := by decide +kernel
theorem dX12_town_247 : decode cX12_town 247 = .ok (.goto (-72), 3) := by decide +kernel
theorem dX12_town_250 : decode cX12_town 250 = .ok (.iconst 0, 1) := by decide +kernel
theorem dX12_town_251 : decode cX12_town 251 = .ok (.istore_n 3, 1) := by decide +kernel
theorem dX12_town_252 : decode cX12_town 252 = .ok (.iload_n 3, 1) := by decide +kernel
theorem dX12_town_253 : decode cX12_town 253 = .ok (.aload_n 0, 1) := by decide +kernel
theorem dX12_town_254 : decode cX12_town 254 = .ok (.getfield 320, 3) := by decide +kernel
theorem dX12_town_257 : decode cX12_town 257 = .ok (.if_icmp .ge 57, 3) := by decide +kernel
theorem dX12_town_260 : decode cX12_town 260 = .ok (.aload_n 0, 1) := by decide +kernel
theorem dX12_town_261 : decode cX12_town 261 = .ok (.getfield 42, 3) := by decide +kernel
theorem dX12_town_264 : decode cX12_town 264 = .ok (.iload_n 3, 1) := by decide +kernel
theorem dX12_town_265 : decode cX12_town 265 = .ok (.aload_n 0, 1) := by decide +kernel
theorem dX12_town_266 : decode cX12_town 266 = .ok (.getfield 54, 3) := by decide +kernel
theorem dX12_town_269 : decode cX12_town 269 = .ok (.iload_n 3, 1) := by decide +kernel
theorem dX12_town_270 : decode cX12_town 270 = .ok (.iaload, 1) := by decide +kernel
theorem dX12_town_271 : decode cX12_town 271 = .ok (.iastore, 1) := by decide +kernel
theorem dX12_town_272 : decode cX12_town 272 = .ok (.aload_n 0, 1) := by decide +kernel
theorem dX12_town_273 : decode cX12_town 273 = .ok (.getfield 45, 3) := by decide +kernel
theorem dX12_town_276 : decode cX12_town 276 = .ok (.iload_n 3, 1) := by decide +kernel
theorem dX12_town_277 : decode cX12_town 277 = .ok (.aload_n 0, 1) := by decide +kernel
theorem dX12_town_278 : decode cX12_town 278 = .ok (.getfield 57, 3) := by decide +kernel
theorem dX12_town_281 : decode cX12_town 281 = .ok (.iload_n 3, 1) := by decide +kernel
theorem dX12_town_282 : decode cX12_town 282 = .ok (.iaload, 1) := by decide +kernel
theorem dX12_town_283 : decode cX12_town 283 = .ok (.iastore, 1) := by decide +kernel
theorem dX12_town_284 : decode cX12_town 284 = .ok (.aload_n 0, 1) := by decide +kernel
theorem dX12_town_285 : decode cX12_town 285 = .ok (.getfield 48, 3) := by decide +kernel
theorem dX12_town_288 : decode cX12_town 288 = .ok (.iload_n 3, 1) := by decide +kernel
theorem dX12_town_289 : decode cX12_town 289 = .ok (.aload_n 0, 1) := by decide +kernel
theorem dX12_town_290 : decode cX12_town 290 = .ok (.getfield 60, 3) := by decide +kernel
theorem dX12_town_293 : decode cX12_town 293 = .ok (.iload_n 3, 1) := by decide +kernel
theorem dX12_town_294 : decode cX12_town 294 = .ok (.iaload, 1) := by decide +kernel
theorem dX12_town_295 : decode cX12_town 295 = .ok (.iastore, 1) := by decide +kernel
theorem dX12_town_296 : decode cX12_town 296 = .ok (.aload_n 0, 1) := by decide +kernel
theorem dX12_town_297 : decode cX12_town 297 = .ok (.getfield 51, 3) := by decide +kernel
theorem dX12_town_300 : decode cX12_town 300 = .ok (.iload_n 3, 1) := by decide +kernel
theorem dX12_town_301 : decode cX12_town 301 = .ok (.aload_n 0, 1) := by decide +kernel
theorem dX12_town_302 : decode cX12_town 302 = .ok (.getfield 63, 3) := by decide +kernel
theorem dX12_town_305 : decode cX12_town 305 = .ok (.iload_n 3, 1) := by decide +kernel
theorem dX12_town_306 : decode cX12_town 306 = .ok (.iaload, 1) := by decide +kernel
theorem dX12_town_307 : decode cX12_town 307 = .ok (.iastore, 1) := by decide +kernel
theorem dX12_town_308 : decode cX12_town 308 = .ok (.iinc 3 1, 3) := by decide +kernel
theorem dX12_town_311 : decode cX12_town 311 = .ok (.goto (-59), 3) := by decide +kernel
theorem dX12_town_314 : decode cX12_town 314 = .ok (.aload_n 0, 1) := by decide +kernel
theorem dX12_town_315 : decode cX12_town 315 = .ok (.dup, 1) := by decide +kernel
theorem dX12_town_316 : decode cX12_town 316 = .ok (.getfield 326, 3) := by decide +kernel
theorem dX12_town_319 : decode cX12_town 319 = .ok (.iconst 1, 1) := by decide +kernel
theorem dX12_town_320 : decode cX12_town 320 = .ok (.iadd, 1) := by decide +kernel
theorem dX12_town_321 : decode cX12_town 321 = .ok (.putfield 326, 3) := by decide +kernel
theorem dX12_town_324 : decode cX12_town 324 = .ok (.aload_n 0, 1) := by decide +kernel
theorem dX12_town_325 : decode cX12_town 325 = .ok (.iconst 0, 1) := by decide +kernel
theorem dX12_town_326 : decode cX12_town 326 = .ok (.putfield 329, 3) := by decide +kernel
theorem dX12_town_329 : decode cX12_town 329 = .ok (.aload_n 0, 1) := by decide +kernel
theorem dX12_town_330 : decode cX12_town 330 = .ok (.iconst 0, 1) := by decide +kernel
theorem dX12_town_331 : decode cX12_town 331 = .ok (.putfield 332, 3) := by decide +kernel
theorem dX12_town_334 : decode cX12_town 334 = .ok (.aload_n 0, 1) := by decide +kernel
theorem dX12_town_335 : decode cX12_town 335 = .ok (.iconst 0, 1) := by decide +kernel
theorem dX12_town_336 : decode cX12_town 336 = .ok (.putfield 335, 3) := by decide +kernel
theorem dX12_town_339 : decode cX12_town 339 = .ok (.aload_n 0, 1) := by decide +kernel
theorem dX12_town_340 : decode cX12_town 340 = .ok (.iconst (-1), 1) := by decide +kernel
theorem dX12_town_341 : decode cX12_town 341 = .ok (.putfield 73, 3) := by decide +kernel
theorem dX12_town_344 : decode cX12_town 344 = .ok (.aload_n 0, 1) := by decide +kernel
theorem dX12_town_345 : decode cX12_town 345 = .ok (.invokevirtual 338, 3) := by decide +kernel
theorem dX12_town_348 : decode cX12_town 348 = .ok (.aload_n 0, 1) := by decide +kernel
theorem dX12_town_349 : decode cX12_town 349 = .ok (.getfield 272, 3) := by decide +kernel
theorem dX12_town_352 : decode cX12_town 352 = .ok (.ireturn, 1) := by decide +kernel
theorem dX12_fault_0 : decode cX12_fault 0 = .ok (.aload_n 0, 1) := by decide +kernel
theorem dX12_fault_1 : decode cX12_fault 1 = .ok (.getfield 70, 3) := by decide +kernel
theorem dX12_fault_4 : decode cX12_fault 4 = .ok (.ireturn, 1) := by decide +kernel
theorem dX12_told_0 : decode cX12_told 0 = .ok (.iload_n 1, 1) := by decide +kernel
theorem dX12_told_1 : decode cX12_told 1 = .ok (.bipush 100, 2) := by decide +kernel
theorem dX12_told_3 : decode cX12_told 3 = .ok (.bipush 99, 2) := by decide +kernel
theorem dX12_told_5 : decode cX12_told 5 = .ok (.aload_n 0, 1) := by decide +kernel
theorem dX12_told_6 : decode cX12_told 6 = .ok (.getfield 272, 3) := by decide +kernel
theorem dX12_told_9 : decode cX12_told 9 = .ok (.iadd, 1) := by decide +kernel
theorem dX12_told_10 : decode cX12_told 10 = .ok (.invokestatic 216, 3) := by decide +kernel
theorem dX12_told_13 : decode cX12_told 13 = .ok (.ifCond .eq 13, 3) := by decide +kernel
theorem dX12_told_16 : decode cX12_told 16 = .ok (.aload_n 0, 1) := by decide +kernel
theorem dX12_told_17 : decode cX12_told 17 = .ok (.getfield 29, 3) := by decide +kernel
theorem dX12_told_20 : decode cX12_told 20 = .ok (.iload_n 1, 1) := by decide +kernel
theorem dX12_told_21 : decode cX12_told 21 = .ok (.bipush 100, 2) := by decide +kernel
theorem dX12_told_23 : decode cX12_told 23 = .ok (.isub, 1) := by decide +kernel
theorem dX12_told_24 : decode cX12_told 24 = .ok (.iaload, 1) := by decide +kernel
theorem dX12_told_25 : decode cX12_told 25 = .ok (.ireturn, 1) := by decide +kernel
theorem dX12_told_26 : decode cX12_told 26 = .ok (.iload_n 1, 1) := by decide +kernel
theorem dX12_told_27 : decode cX12_told 27 = .ok (.sipush 200, 3) := by decide +kernel
theorem dX12_told_30 : decode cX12_told 30 = .ok (.sipush 199, 3) := by decide +kernel
theorem dX12_told_33 : decode cX12_told 33 = .ok (.iconst 3, 1) := by decide +kernel
theorem dX12_told_34 : decode cX12_told 34 = .ok (.aload_n 0, 1) := by decide +kernel
theorem dX12_told_35 : decode cX12_told 35 = .ok (.getfield 272, 3) := by decide +kernel
theorem dX12_told_38 : decode cX12_told 38 = .ok (.imul, 1) := by decide +kernel
theorem dX12_told_39 : decode cX12_told 39 = .ok (.iadd, 1) := by decide +kernel
theorem dX12_told_40 : decode cX12_told 40 = .ok (.invokestatic 216, 3) := by decide +kernel
theorem dX12_told_43 : decode cX12_told 43 = .ok (.ifCond .eq 14, 3) := by decide +kernel
theorem dX12_told_46 : decode cX12_told 46 = .ok (.aload_n 0, 1) := by decide +kernel
theorem dX12_told_47 : decode cX12_told 47 = .ok (.getfield 36, 3) := by decide +kernel
theorem dX12_told_50 : decode cX12_told 50 = .ok (.iload_n 1, 1) := by decide +kernel
theorem dX12_told_51 : decode cX12_told 51 = .ok (.sipush 200, 3) := by decide +kernel
theorem dX12_told_54 : decode cX12_told 54 = .ok (.isub, 1) := by decide +kernel
theorem dX12_told_55 : decode cX12_told 55 = .ok (.iaload, 1) := by decide +kernel
theorem dX12_told_56 : decode cX12_told 56 = .ok (.ireturn, 1) := by decide +kernel
theorem dX12_told_57 : decode cX12_told 57 = .ok (.iload_n 1, 1) := by decide +kernel
theorem dX12_told_58 : decode cX12_told 58 = .ok (.sipush 300, 3) := by decide +kernel
theorem dX12_told_61 : decode cX12_told 61 = .ok (.sipush 299, 3) := by decide +kernel
theorem dX12_told_64 : decode cX12_told 64 = .ok (.iconst 4, 1) := by decide +kernel
theorem dX12_told_65 : decode cX12_told 65 = .ok (.aload_n 0, 1) := by decide +kernel
theorem dX12_told_66 : decode cX12_told 66 = .ok (.getfield 320, 3) := by decide +kernel
theorem dX12_told_69 : decode cX12_told 69 = .ok (.imul, 1) := by decide +kernel
theorem dX12_told_70 : decode cX12_told 70 = .ok (.iadd, 1) := by decide +kernel
theorem dX12_told_71 : decode cX12_told 71 = .ok (.invokestatic 216, 3) := by decide +kernel
theorem dX12_told_74 : decode cX12_told 74 = .ok (.ifCond .eq 67, 3) := by decide +kernel
theorem dX12_told_77 : decode cX12_told 77 = .ok (.iload_n 1, 1) := by decide +kernel
theorem dX12_told_78 : decode cX12_told 78 = .ok (.sipush 300, 3) := by decide +kernel
theorem dX12_told_81 : decode cX12_told 81 = .ok (.isub, 1) := by decide +kernel
theorem dX12_told_82 : decode cX12_told 82 = .ok (.iconst 4, 1) := by decide +kernel
theorem dX12_told_83 : decode cX12_told 83 = .ok (.idiv, 1) := by decide +kernel
theorem dX12_told_84 : decode cX12_told 84 = .ok (.istore_n 2, 1) := by decide +kernel
theorem dX12_told_85 : decode cX12_told 85 = .ok (.iload_n 1, 1) := by decide +kernel
theorem dX12_told_86 : decode cX12_told 86 = .ok (.sipush 300, 3) := by decide +kernel
theorem dX12_told_89 : decode cX12_told 89 = .ok (.isub, 1) := by decide +kernel
theorem dX12_told_90 : decode cX12_told 90 = .ok (.iconst 4, 1) := by decide +kernel
theorem dX12_told_91 : decode cX12_told 91 = .ok (.irem, 1) := by decide +kernel
theorem dX12_told_92 : decode cX12_told 92 = .ok (.istore_n 3, 1) := by decide +kernel
theorem dX12_told_93 : decode cX12_told 93 = .ok (.iload_n 3, 1) := by decide +kernel
theorem dX12_told_94 : decode cX12_told 94 = .ok (.ifCond .ne 12, 3) := by decide +kernel
theorem dX12_told_97 : decode cX12_told 97 = .ok (.aload_n 0, 1) := by decide +kernel
theorem dX12_told_98 : decode cX12_told 98 = .ok (.getfield 42, 3) := by decide +kernel
theorem dX12_told_101 : decode cX12_told 101 = .ok (.iload_n 2, 1) := by decide +kernel
theorem dX12_told_102 : decode cX12_told 102 = .ok (.iaload, 1) := by decide +kernel
theorem dX12_told_103 : decode cX12_told 103 = .ok (.goto 37, 3) := by decide +kernel
theorem dX12_told_106 : decode cX12_told 106 = .ok (.iload_n 3, 1) := by decide +kernel
theorem dX12_told_107 : decode cX12_told 107 = .ok (.iconst 1, 1) := by decide +kernel
theorem dX12_told_108 : decode cX12_told 108 = .ok (.if_icmp .ne 12, 3) := by decide +kernel
theorem dX12_told_111 : decode cX12_told 111 = .ok (.aload_n 0, 1) := by decide +kernel
theorem dX12_told_112 : decode cX12_told 112 = .ok (.getfield 45, 3) := by decide +kernel
theorem dX12_told_115 : decode cX12_told 115 = .ok (.iload_n 2, 1) := by decide +kernel
theorem dX12_told_116 : decode cX12_told 116 = .ok (.iaload, 1) := by decide +kernel
theorem dX12_told_117 : decode cX12_told 117 = .ok (.goto 23, 3) := by decide +kernel
theorem dX12_told_120 : decode cX12_told 120 = .ok (.iload_n 3, 1) := by decide +kernel
theorem dX12_told_121 : decode cX12_told 121 = .ok (.iconst 2, 1) := by decide +kernel
theorem dX12_told_122 : decode cX12_told 122 = .ok (.if_icmp .ne 12, 3) := by decide +kernel
theorem dX12_told_125 : decode cX12_told 125 = .ok (.aload_n 0, 1) := by decide +kernel
theorem dX12_told_126 : decode cX12_told 126 = .ok (.getfield 48, 3) := by decide +kernel
theorem dX12_told_129 : decode cX12_told 129 = .ok (.iload_n 2, 1) := by decide +kernel
theorem dX12_told_130 : decode cX12_told 130 = .ok (.iaload, 1) := by decide +kernel
theorem dX12_told_131 : decode cX12_told 131 = .ok (.goto 9, 3) := by decide +kernel
theorem dX12_told_134 : decode cX12_told 134 = .ok (.aload_n 0, 1) := by decide +kernel
theorem dX12_told_135 : decode cX12_told 135 = .ok (.getfield 51, 3) := by decide +kernel
theorem dX12_told_138 : decode cX12_told 138 = .ok (.iload_n 2, 1) := by decide +kernel
theorem dX12_told_139 : decode cX12_told 139 = .ok (.iaload, 1) := by decide +kernel
theorem dX12_told_140 : decode cX12_told 140 = .ok (.ireturn, 1) := by decide +kernel
theorem dX12_told_141 : decode cX12_told 141 = .ok (.iload_n 1, 1) := by decide +kernel
theorem dX12_told_142 : decode cX12_told 142 = .ok (.tableswitch 77 0 6 #[42, 47, 52, 57, 62, 67, 72], 42) := by decide +kernel
theorem dX12_told_184 : decode cX12_told 184 = .ok (.aload_n 0, 1) := by decide +kernel
theorem dX12_told_185 : decode cX12_told 185 = .ok (.getfield 272, 3) := by decide +kernel
theorem dX12_told_188 : decode cX12_told 188 = .ok (.ireturn, 1) := by decide +kernel
theorem dX12_told_189 : decode cX12_told 189 = .ok (.aload_n 0, 1) := by decide +kernel
theorem dX12_told_190 : decode cX12_told 190 = .ok (.getfield 320, 3) := by decide +kernel
theorem dX12_told_193 : decode cX12_told 193 = .ok (.ireturn, 1) := by decide +kernel
theorem dX12_told_194 : decode cX12_told 194 = .ok (.aload_n 0, 1) := by decide +kernel
theorem dX12_told_195 : decode cX12_told 195 = .ok (.getfield 7, 3) := by decide +kernel
theorem dX12_told_198 : decode cX12_told 198 = .ok (.ireturn, 1) := by decide +kernel
theorem dX12_told_199 : decode cX12_told 199 = .ok (.aload_n 0, 1) := by decide +kernel
theorem dX12_told_200 : decode cX12_told 200 = .ok (.getfield 13, 3) := by decide +kernel
theorem dX12_told_203 : decode cX12_told 203 = .ok (.ireturn, 1) := by decide +kernel
theorem dX12_told_204 : decode cX12_told 204 = .ok (.aload_n 0, 1) := by decide +kernel
theorem dX12_told_205 : decode cX12_told 205 = .ok (.getfield 16, 3) := by decide +kernel
theorem dX12_told_208 : decode cX12_told 208 = .ok (.ireturn, 1) := by decide +kernel
theorem dX12_told_209 : decode cX12_told 209 = .ok (.aload_n 0, 1) := by decide +kernel
theorem dX12_told_210 : decode cX12_told 210 = .ok (.getfield 19, 3) := by decide +kernel
theorem dX12_told_213 : decode cX12_told 213 = .ok (.ireturn, 1) := by decide +kernel
theorem dX12_told_214 : decode cX12_told 214 = .ok (.aload_n 0, 1) := by decide +kernel
theorem dX12_told_215 : decode cX12_told 215 = .ok (.getfield 323, 3) := by decide +kernel
theorem dX12_told_218 : decode cX12_told 218 = .ok (.ireturn, 1) := by decide +kernel
theorem dX12_told_219 : decode cX12_told 219 = .ok (.iconst (-1), 1) := by decide +kernel
theorem dX12_told_220 : decode cX12_told 220 = .ok (.ireturn, 1) := by decide +kernel
theorem dX12_name_0 : decode cX12_name 0 = .ok (.iload_n 1, 1) := by decide +kernel
theorem dX12_name_1 : decode cX12_name 1 = .ok (.iconst 0, 1) := by decide +kernel
theorem dX12_name_2 : decode cX12_name 2 = .ok (.aload_n 0, 1) := by decide +kernel
theorem dX12_name_3 : decode cX12_name 3 = .ok (.getfield 272, 3) := by decide +kernel
theorem dX12_name_6 : decode cX12_name 6 = .ok (.iconst 1, 1) := by decide +kernel
theorem dX12_name_7 : decode cX12_name 7 = .ok (.isub, 1) := by decide +kernel
theorem dX12_name_8 : decode cX12_name 8 = .ok (.invokestatic 216, 3) := by decide +kernel
theorem dX12_name_11 : decode cX12_name 11 = .ok (.ifCond .ne 5, 3) := by decide +kernel
theorem dX12_name_14 : decode cX12_name 14 = .ok (.iconst (-1), 1) := by decide +kernel
theorem dX12_name_15 : decode cX12_name 15 = .ok (.ireturn, 1) := by decide +kernel
theorem dX12_name_16 : decode cX12_name 16 = .ok (.aload_n 0, 1) := by decide +kernel
theorem dX12_name_17 : decode cX12_name 17 = .ok (.getfield 22, 3) := by decide +kernel
theorem dX12_name_20 : decode cX12_name 20 = .ok (.iload_n 1, 1) := by decide +kernel
theorem dX12_name_21 : decode cX12_name 21 = .ok (.laload, 1) := by decide +kernel
theorem dX12_name_22 : decode cX12_name 22 = .ok (.lstore_n 3, 1) := by decide +kernel
theorem dX12_name_23 : decode cX12_name 23 = .ok (.iconst 0, 1) := by decide +kernel
theorem dX12_name_24 : decode cX12_name 24 = .ok (.istore 5, 2) := by decide +kernel
theorem dX12_name_26 : decode cX12_name 26 = .ok (.lload_n 3, 1) := by decide +kernel
theorem dX12_name_27 : decode cX12_name 27 = .ok (.lstore 6, 2) := by decide +kernel
theorem dX12_name_29 : decode cX12_name 29 = .ok (.lload 6, 2) := by decide +kernel
theorem dX12_name_31 : decode cX12_name 31 = .ok (.lconst 0, 1) := by decide +kernel
theorem dX12_name_32 : decode cX12_name 32 = .ok (.lcmp, 1) := by decide +kernel
theorem dX12_name_33 : decode cX12_name 33 = .ok (.ifCond .le 17, 3) := by decide +kernel
theorem dX12_name_36 : decode cX12_name 36 = .ok (.iinc 5 1, 3) := by decide +kernel
theorem dX12_name_39 : decode cX12_name 39 = .ok (.lload 6, 2) := by decide +kernel
theorem dX12_name_41 : decode cX12_name 41 = .ok (.ldc2_w 220, 3) := by decide +kernel
theorem dX12_name_44 : decode cX12_name 44 = .ok (.ldiv, 1) := by decide +kernel
theorem dX12_name_45 : decode cX12_name 45 = .ok (.lstore 6, 2) := by decide +kernel
theorem dX12_name_47 : decode cX12_name 47 = .ok (.goto (-18), 3) := by decide +kernel
theorem dX12_name_50 : decode cX12_name 50 = .ok (.iload_n 2, 1) := by decide +kernel
theorem dX12_name_51 : decode cX12_name 51 = .ok (.iconst (-1), 1) := by decide +kernel
theorem dX12_name_52 : decode cX12_name 52 = .ok (.if_icmp .ne 6, 3) := by decide +kernel
theorem dX12_name_55 : decode cX12_name 55 = .ok (.iload 5, 2) := by decide +kernel
theorem dX12_name_57 : decode cX12_name 57 = .ok (.ireturn, 1) := by decide +kernel
theorem dX12_name_58 : decode cX12_name 58 = .ok (.iload_n 2, 1) := by decide +kernel
theorem dX12_name_59 : decode cX12_name 59 = .ok (.ifCond .lt 9, 3) := by decide +kernel
theorem dX12_name_62 : decode cX12_name 62 = .ok (.iload_n 2, 1) := by decide +kernel
theorem dX12_name_63 : decode cX12_name 63 = .ok (.iload 5, 2) := by decide +kernel
theorem dX12_name_65 : decode cX12_name 65 = .ok (.if_icmp .lt 5, 3) := by decide +kernel
theorem dX12_name_68 : decode cX12_name 68 = .ok (.iconst (-1), 1) := by decide +kernel
theorem dX12_name_69 : decode cX12_name 69 = .ok (.ireturn, 1) := by decide +kernel
theorem dX12_name_70 : decode cX12_name 70 = .ok (.iload 5, 2) := by decide +kernel
theorem dX12_name_72 : decode cX12_name 72 = .ok (.iconst 1, 1) := by decide +kernel
theorem dX12_name_73 : decode cX12_name 73 = .ok (.isub, 1) := by decide +kernel
theorem dX12_name_74 : decode cX12_name 74 = .ok (.istore 6, 2) := by decide +kernel
theorem dX12_name_76 : decode cX12_name 76 = .ok (.iload 6, 2) := by decide +kernel
theorem dX12_name_78 : decode cX12_name 78 = .ok (.iload_n 2, 1) := by decide +kernel
theorem dX12_name_79 : decode cX12_name 79 = .ok (.if_icmp .le 15, 3) := by decide +kernel
theorem dX12_name_82 : decode cX12_name 82 = .ok (.lload_n 3, 1) := by decide +kernel
theorem dX12_name_83 : decode cX12_name 83 = .ok (.ldc2_w 220, 3) := by decide +kernel
theorem dX12_name_86 : decode cX12_name 86 = .ok (.ldiv, 1) := by decide +kernel
theorem dX12_name_87 : decode cX12_name 87 = .ok (.lstore_n 3, 1) := by decide +kernel
theorem dX12_name_88 : decode cX12_name 88 = .ok (.iinc 6 (-1), 3) := by decide +kernel
theorem dX12_name_91 : decode cX12_name 91 = .ok (.goto (-15), 3) := by decide +kernel
theorem dX12_name_94 : decode cX12_name 94 = .ok (.bipush 96, 2) := by decide +kernel
theorem dX12_name_96 : decode cX12_name 96 = .ok (.lload_n 3, 1) := by decide +kernel
theorem dX12_name_97 : decode cX12_name 97 = .ok (.ldc2_w 220, 3) := by decide +kernel
theorem dX12_name_100 : decode cX12_name 100 = .ok (.lrem, 1) := by decide +kernel
theorem dX12_name_101 : decode cX12_name 101 = .ok (.l2i, 1) := by decide +kernel
theorem dX12_name_102 : decode cX12_name 102 = .ok (.iadd, 1) := by decide +kernel
theorem dX12_name_103 : decode cX12_name 103 = .ok (.ireturn, 1) := by decide +kernel
theorem dX12_readLaw_0 : decode cX12_readLaw 0 = .ok (.aload_n 0, 1) := by decide +kernel
theorem dX12_readLaw_1 : decode cX12_readLaw 1 = .ok (.invokevirtual 279, 3) := by decide +kernel
theorem dX12_readLaw_4 : decode cX12_readLaw 4 = .ok (.istore_n 3, 1) := by decide +kernel
theorem dX12_readLaw_5 : decode cX12_readLaw 5 = .ok (.aload_n 0, 1) := by decide +kernel
theorem dX12_readLaw_6 : decode cX12_readLaw 6 = .ok (.getfield 79, 3) := by decide +kernel
theorem dX12_readLaw_9 : decode cX12_readLaw 9 = .ok (.iload_n 1, 1) := by decide +kernel
theorem dX12_readLaw_10 : decode cX12_readLaw 10 = .ok (.iload_n 3, 1) := by decide +kernel
theorem dX12_readLaw_11 : decode cX12_readLaw 11 = .ok (.bipush 10, 2) := by decide +kernel
theorem dX12_readLaw_13 : decode cX12_readLaw 13 = .ok (.isub, 1) := by decide +kernel
theorem dX12_readLaw_14 : decode cX12_readLaw 14 = .ok (.iastore, 1) := by decide +kernel
theorem dX12_readLaw_15 : decode cX12_readLaw 15 = .ok (.iload_n 3, 1) := by decide +kernel
theorem dX12_readLaw_16 : decode cX12_readLaw 16 = .ok (.bipush 10, 2) := by decide +kernel
theorem dX12_readLaw_18 : decode cX12_readLaw 18 = .ok (.bipush 13, 2) := by decide +kernel
theorem dX12_readLaw_20 : decode cX12_readLaw 20 = .ok (.invokestatic 216, 3) := by decide +kernel
theorem dX12_readLaw_23 : decode cX12_readLaw 23 = .ok (.ifCond .ne 8, 3) := by decide +kernel
theorem dX12_readLaw_26 : decode cX12_readLaw 26 = .ok (.aload_n 0, 1) := by decide +kernel
theorem dX12_readLaw_27 : decode cX12_readLaw 27 = .ok (.invokevirtual 263, 3) := by decide +kernel
theorem dX12_readLaw_30 : decode cX12_readLaw 30 = .ok (.return_, 1) := by decide +kernel
theorem dX12_readLaw_31 : decode cX12_readLaw 31 = .ok (.aload_n 0, 1) := by decide +kernel
theorem dX12_readLaw_32 : decode cX12_readLaw 32 = .ok (.invokevirtual 266, 3) := by decide +kernel
theorem dX12_readLaw_35 : decode cX12_readLaw 35 = .ok (.aload_n 0, 1) := by decide +kernel
theorem dX12_readLaw_36 : decode cX12_readLaw 36 = .ok (.getfield 82, 3) := by decide +kernel
theorem dX12_readLaw_39 : decode cX12_readLaw 39 = .ok (.iload_n 1, 1) := by decide +kernel
theorem dX12_readLaw_40 : decode cX12_readLaw 40 = .ok (.iconst 0, 1) := by decide +kernel
theorem dX12_readLaw_41 : decode cX12_readLaw 41 = .ok (.iastore, 1) := by decide +kernel
theorem dX12_readLaw_42 : decode cX12_readLaw 42 = .ok (.aload_n 0, 1) := by decide +kernel
theorem dX12_readLaw_43 : decode cX12_readLaw 43 = .ok (.getfield 85, 3) := by decide +kernel
theorem dX12_readLaw_46 : decode cX12_readLaw 46 = .ok (.iload_n 1, 1) := by decide +kernel
theorem dX12_readLaw_47 : decode cX12_readLaw 47 = .ok (.iconst 0, 1) := by decide +kernel
theorem dX12_readLaw_48 : decode cX12_readLaw 48 = .ok (.iastore, 1) := by decide +kernel
theorem dX12_readLaw_49 : decode cX12_readLaw 49 = .ok (.aload_n 0, 1) := by decide +kernel
theorem dX12_readLaw_50 : decode cX12_readLaw 50 = .ok (.getfield 88, 3) := by decide +kernel
theorem dX12_readLaw_53 : decode cX12_readLaw 53 = .ok (.iload_n 1, 1) := by decide +kernel
theorem dX12_readLaw_54 : decode cX12_readLaw 54 = .ok (.iconst 0, 1) := by decide +kernel
theorem dX12_readLaw_55 : decode cX12_readLaw 55 = .ok (.iastore, 1) := by decide +kernel
theorem dX12_readLaw_56 : decode cX12_readLaw 56 = .ok (.iload_n 3, 1) := by decide +kernel
theorem dX12_readLaw_57 : decode cX12_readLaw 57 = .ok (.bipush 11, 2) := by decide +kernel
theorem dX12_readLaw_59 : decode cX12_readLaw 59 = .ok (.if_icmp .eq 9, 3) := by decide +kernel
theorem dX12_readLaw_62 : decode cX12_readLaw 62 = .ok (.iload_n 3, 1) := by decide +kernel
theorem dX12_readLaw_63 : decode cX12_readLaw 63 = .ok (.bipush 12, 2) := by decide +kernel
theorem dX12_readLaw_65 : decode cX12_readLaw 65 = .ok (.if_icmp .ne 54, 3) := by decide +kernel
theorem dX12_readLaw_68 : decode cX12_readLaw 68 = .ok (.aload_n 0, 1) := by decide +kernel
theorem dX12_readLaw_69 : decode cX12_readLaw 69 = .ok (.getfield 82, 3) := by decide +kernel
theorem dX12_readLaw_72 : decode cX12_readLaw 72 = .ok (.iload_n 1, 1) := by decide +kernel
theorem dX12_readLaw_73 : decode cX12_readLaw 73 = .ok (.aload_n 0, 1) := by decide +kernel
theorem dX12_readLaw_74 : decode cX12_readLaw 74 = .ok (.iconst 0, 1) := by decide +kernel
theorem dX12_readLaw_75 : decode cX12_readLaw 75 = .ok (.iconst (-1), 1) := by decide +kernel
theorem dX12_readLaw_76 : decode cX12_readLaw 76 = .ok (.invokevirtual 288, 3) := by decide +kernel
theorem dX12_readLaw_79 : decode cX12_readLaw 79 = .ok (.iastore, 1) := by decide +kernel
theorem dX12_readLaw_80 : decode cX12_readLaw 80 = .ok (.aload_n 0, 1) := by decide +kernel
theorem dX12_readLaw_81 : decode cX12_readLaw 81 = .ok (.getfield 227, 3) := by decide +kernel
theorem dX12_readLaw_84 : decode cX12_readLaw 84 = .ok (.ifCond .ne 7, 3) := by decide +kernel
theorem dX12_readLaw_87 : decode cX12_readLaw 87 = .ok (.aload_n 0, 1) := by decide +kernel
theorem dX12_readLaw_88 : decode cX12_readLaw 88 = .ok (.invokevirtual 266, 3) := by decide +kernel
theorem dX12_readLaw_91 : decode cX12_readLaw 91 = .ok (.aload_n 0, 1) := by decide +kernel
theorem dX12_readLaw_92 : decode cX12_readLaw 92 = .ok (.getfield 85, 3) := by decide +kernel
theorem dX12_readLaw_95 : decode cX12_readLaw 95 = .ok (.iload_n 1, 1) := by decide +kernel
theorem dX12_readLaw_96 : decode cX12_readLaw 96 = .ok (.aload_n 0, 1) := by decide +kernel
theorem dX12_readLaw_97 : decode cX12_readLaw 97 = .ok (.iconst 0, 1) := by decide +kernel
theorem dX12_readLaw_98 : decode cX12_readLaw 98 = .ok (.aload_n 0, 1) := by decide +kernel
theorem dX12_readLaw_99 : decode cX12_readLaw 99 = .ok (.getfield 82, 3) := by decide +kernel
theorem dX12_readLaw_102 : decode cX12_readLaw 102 = .ok (.iload_n 1, 1) := by decide +kernel
theorem dX12_readLaw_103 : decode cX12_readLaw 103 = .ok (.iaload, 1) := by decide +kernel
theorem dX12_readLaw_104 : decode cX12_readLaw 104 = .ok (.invokevirtual 288, 3) := by decide +kernel
theorem dX12_readLaw_107 : decode cX12_readLaw 107 = .ok (.iastore, 1) := by decide +kernel
theorem dX12_readLaw_108 : decode cX12_readLaw 108 = .ok (.aload_n 0, 1) := by decide +kernel
theorem dX12_readLaw_109 : decode cX12_readLaw 109 = .ok (.getfield 227, 3) := by decide +kernel
theorem dX12_readLaw_112 : decode cX12_readLaw 112 = .ok (.ifCond .ne 7, 3) := by decide +kernel
theorem dX12_readLaw_115 : decode cX12_readLaw 115 = .ok (.aload_n 0, 1) := by decide +kernel
theorem dX12_readLaw_116 : decode cX12_readLaw 116 = .ok (.invokevirtual 266, 3) := by decide +kernel
theorem dX12_readLaw_119 : decode cX12_readLaw 119 = .ok (.iload_n 3, 1) := by decide +kernel
theorem dX12_readLaw_120 : decode cX12_readLaw 120 = .ok (.bipush 10, 2) := by decide +kernel
theorem dX12_readLaw_122 : decode cX12_readLaw 122 = .ok (.if_icmp .ne 16, 3) := by decide +kernel
theorem dX12_readLaw_125 : decode cX12_readLaw 125 = .ok (.aload_n 0, 1) := by decide +kernel
theorem dX12_readLaw_126 : decode cX12_readLaw 126 = .ok (.getfield 88, 3) := by decide +kernel
theorem dX12_readLaw_129 : decode cX12_readLaw 129 = .ok (.iload_n 1, 1) := by decide +kernel
theorem dX12_readLaw_130 : decode cX12_readLaw 130 = .ok (.aload_n 0, 1) := by decide +kernel
theorem dX12_readLaw_131 : decode cX12_readLaw 131 = .ok (.iconst 0, 1) := by decide +kernel
theorem dX12_readLaw_132 : decode cX12_readLaw 132 = .ok (.bipush 99, 2) := by decide +kernel
theorem dX12_readLaw_134 : decode cX12_readLaw 134 = .ok (.invokevirtual 282, 3) := by decide +kernel
theorem dX12_readLaw_137 : decode cX12_readLaw 137 = .ok (.iastore, 1) := by decide +kernel
theorem dX12_readLaw_138 : decode cX12_readLaw 138 = .ok (.iload_n 3, 1) := by decide +kernel
theorem dX12_readLaw_139 : decode cX12_readLaw 139 = .ok (.bipush 12, 2) := by decide +kernel
theorem dX12_readLaw_141 : decode cX12_readLaw 141 = .ok (.if_icmp .ne 13, 3) := by decide +kernel
theorem dX12_readLaw_144 : decode cX12_readLaw 144 = .ok (.iload_n 2, 1) := by decide +kernel
theorem dX12_readLaw_145 : decode cX12_readLaw 145 = .ok (.bipush 8, 2) := by decide +kernel
theorem dX12_readLaw_147 : decode cX12_readLaw 147 = .ok (.if_icmp .ne 7, 3) := by decide +kernel
theorem dX12_readLaw_150 : decode cX12_readLaw 150 = .ok (.aload_n 0, 1) := by decide +kernel
theorem dX12_readLaw_151 : decode cX12_readLaw 151 = .ok (.invokevirtual 263, 3) := by decide +kernel
theorem dX12_readLaw_154 : decode cX12_readLaw 154 = .ok (.iload_n 3, 1) := by decide +kernel
theorem dX12_readLaw_155 : decode cX12_readLaw 155 = .ok (.bipush 12, 2) := by decide +kernel
theorem dX12_readLaw_157 : decode cX12_readLaw 157 = .ok (.if_icmp .ne 16, 3) := by decide +kernel
theorem dX12_readLaw_160 : decode cX12_readLaw 160 = .ok (.aload_n 0, 1) := by decide +kernel
theorem dX12_readLaw_161 : decode cX12_readLaw 161 = .ok (.getfield 88, 3) := by decide +kernel
theorem dX12_readLaw_164 : decode cX12_readLaw 164 = .ok (.iload_n 1, 1) := by decide +kernel
theorem dX12_readLaw_165 : decode cX12_readLaw 165 = .ok (.aload_n 0, 1) := by decide +kernel
theorem dX12_readLaw_166 : decode cX12_readLaw 166 = .ok (.iconst 1, 1) := by decide +kernel
theorem dX12_readLaw_167 : decode cX12_readLaw 167 = .ok (.bipush 12, 2) := by decide +kernel
theorem dX12_readLaw_169 : decode cX12_readLaw 169 = .ok (.invokevirtual 282, 3) := by decide +kernel
theorem dX12_readLaw_172 : decode cX12_readLaw 172 = .ok (.iastore, 1) := by decide +kernel
theorem dX12_readLaw_173 : decode cX12_readLaw 173 = .ok (.iload_n 3, 1) := by decide +kernel
theorem dX12_readLaw_174 : decode cX12_readLaw 174 = .ok (.bipush 13, 2) := by decide +kernel
theorem dX12_readLaw_176 : decode cX12_readLaw 176 = .ok (.if_icmp .ne 21, 3) := by decide +kernel
theorem dX12_readLaw_179 : decode cX12_readLaw 179 = .ok (.aload_n 0, 1) := by decide +kernel
theorem dX12_readLaw_180 : decode cX12_readLaw 180 = .ok (.getfield 88, 3) := by decide +kernel
theorem dX12_readLaw_183 : decode cX12_readLaw 183 = .ok (.iload_n 1, 1) := by decide +kernel
theorem dX12_readLaw_184 : decode cX12_readLaw 184 = .ok (.aload_n 0, 1) := by decide +kernel
theorem dX12_readLaw_185 : decode cX12_readLaw 185 = .ok (.aload_n 0, 1) := by decide +kernel
theorem dX12_readLaw_186 : decode cX12_readLaw 186 = .ok (.getfield 16, 3) := by decide +kernel
theorem dX12_readLaw_189 : decode cX12_readLaw 189 = .ok (.aload_n 0, 1) := by decide +kernel
theorem dX12_readLaw_190 : decode cX12_readLaw 190 = .ok (.getfield 19, 3) := by decide +kernel
theorem dX12_readLaw_193 : decode cX12_readLaw 193 = .ok (.invokevirtual 282, 3) := by decide +kernel
theorem dX12_readLaw_196 : decode cX12_readLaw 196 = .ok (.iastore, 1) := by decide +kernel
theorem dX12_readLaw_197 : decode cX12_readLaw 197 = .ok (.aload_n 0, 1) := by decide +kernel
theorem dX12_readLaw_198 : decode cX12_readLaw 198 = .ok (.invokevirtual 310, 3) := by decide +kernel
theorem dX12_readLaw_201 : decode cX12_readLaw 201 = .ok (.return_, 1) := by decide +kernel
theorem dX12_law_0 : decode cX12_law 0 = .ok (.iload_n 1, 1) := by decide +kernel
theorem dX12_law_1 : decode cX12_law 1 = .ok (.ifCond .lt 11, 3) := by decide +kernel
theorem dX12_law_4 : decode cX12_law 4 = .ok (.iload_n 1, 1) := by decide +kernel
theorem dX12_law_5 : decode cX12_law 5 = .ok (.aload_n 0, 1) := by decide +kernel
theorem dX12_law_6 : decode cX12_law 6 = .ok (.getfield 188, 3) := by decide +kernel
theorem dX12_law_9 : decode cX12_law 9 = .ok (.if_icmp .le 6, 3) := by decide +kernel
theorem dX12_law_12 : decode cX12_law 12 = .ok (.bipush (-2), 2) := by decide +kernel
theorem dX12_law_14 : decode cX12_law 14 = .ok (.ireturn, 1) := by decide +kernel
theorem dX12_law_15 : decode cX12_law 15 = .ok (.aload_n 0, 1) := by decide +kernel
theorem dX12_law_16 : decode cX12_law 16 = .ok (.getfield 332, 3) := by decide +kernel
theorem dX12_law_19 : decode cX12_law 19 = .ok (.bipush 9, 2) := by decide +kernel
theorem dX12_law_21 : decode cX12_law 21 = .ok (.if_icmp .ne 6, 3) := by decide +kernel
theorem dX12_law_24 : decode cX12_law 24 = .ok (.bipush (-3), 2) := by decide +kernel
theorem dX12_law_26 : decode cX12_law 26 = .ok (.ireturn, 1) := by decide +kernel
theorem dX12_law_27 : decode cX12_law 27 = .ok (.aload_n 0, 1) := by decide +kernel
theorem dX12_law_28 : decode cX12_law 28 = .ok (.iload_n 1, 1) := by decide +kernel
theorem dX12_law_29 : decode cX12_law 29 = .ok (.invokevirtual 313, 3) := by decide +kernel
theorem dX12_law_32 : decode cX12_law 32 = .ok (.iconst 0, 1) := by decide +kernel
theorem dX12_law_33 : decode cX12_law 33 = .ok (.istore_n 2, 1) := by decide +kernel
theorem dX12_law_34 : decode cX12_law 34 = .ok (.iconst 0, 1) := by decide +kernel
theorem dX12_law_35 : decode cX12_law 35 = .ok (.istore_n 3, 1) := by decide +kernel
theorem dX12_law_36 : decode cX12_law 36 = .ok (.aload_n 0, 1) := by decide +kernel
theorem dX12_law_37 : decode cX12_law 37 = .ok (.getfield 213, 3) := by decide +kernel
theorem dX12_law_40 : decode cX12_law 40 = .ok (.ifCond .eq 69, 3) := by decide +kernel
theorem dX12_law_43 : decode cX12_law 43 = .ok (.aload_n 0, 1) := by decide +kernel
theorem dX12_law_44 : decode cX12_law 44 = .ok (.getfield 227, 3) := by decide +kernel
theorem dX12_law_47 : decode cX12_law 47 = .ok (.ifCond .ne 62, 3) := by decide +kernel
theorem dX12_law_50 : decode cX12_law 50 = .ok (.iload_n 2, 1) := by decide +kernel
theorem dX12_law_51 : decode cX12_law 51 = .ok (.bipush 12, 2) := by decide +kernel
theorem dX12_law_53 : decode cX12_law 53 = .ok (.if_icmp .ne 10, 3) := by decide +kernel
theorem dX12_law_56 : decode cX12_law 56 = .ok (.aload_n 0, 1) := by decide +kernel
theorem dX12_law_57 : decode cX12_law 57 = .ok (.invokevirtual 263, 3) := by decide +kernel
theorem dX12_law_60 : decode cX12_law 60 = .ok (.goto (-24), 3) := by decide +kernel
theorem dX12_law_63 : decode cX12_law 63 = .ok (.aload_n 0, 1) := by decide +kernel
theorem dX12_law_64 : decode cX12_law 64 = .ok (.bipush 12, 2) := by decide +kernel
theorem dX12_law_66 : decode cX12_law 66 = .ok (.aload_n 0, 1) := by decide +kernel
theorem dX12_law_67 : decode cX12_law 67 = .ok (.getfield 332, 3) := by decide +kernel
theorem dX12_law_70 : decode cX12_law 70 = .ok (.imul, 1) := by decide +kernel
theorem dX12_law_71 : decode cX12_law 71 = .ok (.iload_n 2, 1) := by decide +kernel
theorem dX12_law_72 : decode cX12_law 72 = .ok (.iadd, 1) := by decide +kernel
theorem dX12_law_73 : decode cX12_law 73 = .ok (.iload_n 3, 1) := by decide +kernel
theorem dX12_law_74 : decode cX12_law 74 = .ok (.invokevirtual 341, 3) := by decide +kernel
theorem dX12_law_77 : decode cX12_law 77 = .ok (.iload_n 3, 1) := by decide +kernel
theorem dX12_law_78 : decode cX12_law 78 = .ok (.aload_n 0, 1) := by decide +kernel
theorem dX12_law_79 : decode cX12_law 79 = .ok (.getfield 79, 3) := by decide +kernel
theorem dX12_law_82 : decode cX12_law 82 = .ok (.bipush 12, 2) := by decide +kernel
theorem dX12_law_84 : decode cX12_law 84 = .ok (.aload_n 0, 1) := by decide +kernel
theorem dX12_law_85 : decode cX12_law 85 = .ok (.getfield 332, 3) := by decide +kernel
theorem dX12_law_88 : decode cX12_law 88 = .ok (.imul, 1) := by decide +kernel
theorem dX12_law_89 : decode cX12_law 89 = .ok (.iload_n 2, 1) := by decide +kernel
theorem dX12_law_90 : decode cX12_law 90 = .ok (.iadd, 1) := by decide +kernel
theorem dX12_law_91 : decode cX12_law 91 = .ok (.iaload, 1) := by decide +kernel
theorem dX12_law_92 : decode cX12_law 92 = .ok (.iconst 2, 1) := by decide +kernel
theorem dX12_law_93 : decode cX12_law 93 = .ok (.if_icmp .ne 7, 3) := by decide +kernel
theorem dX12_law_96 : decode cX12_law 96 = .ok (.iconst 1, 1) := by decide +kernel
theorem dX12_law_97 : decode cX12_law 97 = .ok (.goto 4, 3) := by decide +kernel
theorem dX12_law_100 : decode cX12_law 100 = .ok (.iconst 0, 1) := by decide +kernel
theorem dX12_law_101 : decode cX12_law 101 = .ok (.iadd, 1) := by decide +kernel
theorem dX12_law_102 : decode cX12_law 102 = .ok (.istore_n 3, 1) := by decide +kernel
theorem dX12_law_103 : decode cX12_law 103 = .ok (.iinc 2 1, 3) := by decide +kernel
theorem dX12_law_106 : decode cX12_law 106 = .ok (.goto (-70), 3) := by decide +kernel
theorem dX12_law_109 : decode cX12_law 109 = .ok (.aload_n 0, 1) := by decide +kernel
theorem dX12_law_110 : decode cX12_law 110 = .ok (.getfield 227, 3) := by decide +kernel
theorem dX12_law_113 : decode cX12_law 113 = .ok (.ifCond .eq 5, 3) := by decide +kernel
theorem dX12_law_116 : decode cX12_law 116 = .ok (.iconst (-1), 1) := by decide +kernel
theorem dX12_law_117 : decode cX12_law 117 = .ok (.ireturn, 1) := by decide +kernel
theorem dX12_law_118 : decode cX12_law 118 = .ok (.aload_n 0, 1) := by decide +kernel
theorem dX12_law_119 : decode cX12_law 119 = .ok (.getfield 76, 3) := by decide +kernel
theorem dX12_law_122 : decode cX12_law 122 = .ok (.aload_n 0, 1) := by decide +kernel
theorem dX12_law_123 : decode cX12_law 123 = .ok (.getfield 332, 3) := by decide +kernel
theorem dX12_law_126 : decode cX12_law 126 = .ok (.iload_n 2, 1) := by decide +kernel
theorem dX12_law_127 : decode cX12_law 127 = .ok (.iastore, 1) := by decide +kernel
theorem dX12_law_128 : decode cX12_law 128 = .ok (.aload_n 0, 1) := by decide +kernel
theorem dX12_law_129 : decode cX12_law 129 = .ok (.dup, 1) := by decide +kernel
theorem dX12_law_130 : decode cX12_law 130 = .ok (.getfield 332, 3) := by decide +kernel
theorem dX12_law_133 : decode cX12_law 133 = .ok (.iconst 1, 1) := by decide +kernel
theorem dX12_law_134 : decode cX12_law 134 = .ok (.iadd, 1) := by decide +kernel
theorem dX12_law_135 : decode cX12_law 135 = .ok (.putfield 332, 3) := by decide +kernel
theorem dX12_law_138 : decode cX12_law 138 = .ok (.aload_n 0, 1) := by decide +kernel
theorem dX12_law_139 : decode cX12_law 139 = .ok (.getfield 332, 3) := by decide +kernel
theorem dX12_law_142 : decode cX12_law 142 = .ok (.iconst 1, 1) := by decide +kernel
theorem dX12_law_143 : decode cX12_law 143 = .ok (.isub, 1) := by decide +kernel
theorem dX12_law_144 : decode cX12_law 144 = .ok (.ireturn, 1) := by decide +kernel
theorem dX12_laysTown_0 : decode cX12_laysTown 0 = .ok (.aload_n 0, 1) := by decide +kernel
theorem dX12_laysTown_1 : decode cX12_laysTown 1 = .ok (.aload_n 0, 1) := by decide +kernel
theorem dX12_laysTown_2 : decode cX12_laysTown 2 = .ok (.getfield 320, 3) := by decide +kernel
theorem dX12_laysTown_5 : decode cX12_laysTown 5 = .ok (.putfield 345, 3) := by decide +kernel
theorem dX12_laysTown_8 : decode cX12_laysTown 8 = .ok (.aload_n 0, 1) := by decide +kernel
theorem dX12_laysTown_9 : decode cX12_laysTown 9 = .ok (.iconst 0, 1) := by decide +kernel
theorem dX12_laysTown_10 : decode cX12_laysTown 10 = .ok (.putfield 348, 3) := by decide +kernel
theorem dX12_laysTown_13 : decode cX12_laysTown 13 = .ok (.aload_n 0, 1) := by decide +kernel
theorem dX12_laysTown_14 : decode cX12_laysTown 14 = .ok (.iconst (-1), 1) := by decide +kernel
theorem dX12_laysTown_15 : decode cX12_laysTown 15 = .ok (.putfield 351, 3) := by decide +kernel
theorem dX12_laysTown_18 : decode cX12_laysTown 18 = .ok (.iconst 0, 1) := by decide +kernel
theorem dX12_laysTown_19 : decode cX12_laysTown 19 = .ok (.istore_n 1, 1) := by decide +kernel
theorem dX12_laysTown_20 : decode cX12_laysTown 20 = .ok (.iload_n 1, 1) := by decide +kernel
theorem dX12_laysTown_21 : decode cX12_laysTown 21 = .ok (.aload_n 0, 1) := by decide +kernel
theorem dX12_laysTown_22 : decode cX12_laysTown 22 = .ok (.getfield 320, 3) := by decide +kernel
theorem dX12_laysTown_25 : decode cX12_laysTown 25 = .ok (.if_icmp .ge 52, 3) := by decide +kernel
theorem dX12_laysTown_28 : decode cX12_laysTown 28 = .ok (.aload_n 0, 1) := by decide +kernel
theorem dX12_laysTown_29 : decode cX12_laysTown 29 = .ok (.getfield 91, 3) := by decide +kernel
theorem dX12_laysTown_32 : decode cX12_laysTown 32 = .ok (.iload_n 1, 1) := by decide +kernel
theorem dX12_laysTown_33 : decode cX12_laysTown 33 = .ok (.aload_n 0, 1) := by decide +kernel
theorem dX12_laysTown_34 : decode cX12_laysTown 34 = .ok (.getfield 42, 3) := by decide +kernel
theorem dX12_laysTown_37 : decode cX12_laysTown 37 = .ok (.iload_n 1, 1) := by decide +kernel
theorem dX12_laysTown_38 : decode cX12_laysTown 38 = .ok (.iaload, 1) := by decide +kernel
theorem dX12_laysTown_39 : decode cX12_laysTown 39 = .ok (.iastore, 1) := by decide +kernel
theorem dX12_laysTown_40 : decode cX12_laysTown 40 = .ok (.aload_n 0, 1) := by decide +kernel
theorem dX12_laysTown_41 : decode cX12_laysTown 41 = .ok (.getfield 94, 3) := by decide +kernel
theorem dX12_laysTown_44 : decode cX12_laysTown 44 = .ok (.iload_n 1, 1) := by decide +kernel
theorem dX12_laysTown_45 : decode cX12_laysTown 45 = .ok (.aload_n 0, 1) := by decide +kernel
theorem dX12_laysTown_46 : decode cX12_laysTown 46 = .ok (.getfield 45, 3) := by decide +kernel
theorem dX12_laysTown_49 : decode cX12_laysTown 49 = .ok (.iload_n 1, 1) := by decide +kernel
theorem dX12_laysTown_50 : decode cX12_laysTown 50 = .ok (.iaload, 1) := by decide +kernel
theorem dX12_laysTown_51 : decode cX12_laysTown 51 = .ok (.iastore, 1) := by decide +kernel
theorem dX12_laysTown_52 : decode cX12_laysTown 52 = .ok (.aload_n 0, 1) := by decide +kernel
theorem dX12_laysTown_53 : decode cX12_laysTown 53 = .ok (.getfield 97, 3) := by decide +kernel
theorem dX12_laysTown_56 : decode cX12_laysTown 56 = .ok (.iload_n 1, 1) := by decide +kernel
theorem dX12_laysTown_57 : decode cX12_laysTown 57 = .ok (.aload_n 0, 1) := by decide +kernel
theorem dX12_laysTown_58 : decode cX12_laysTown 58 = .ok (.getfield 48, 3) := by decide +kernel
theorem dX12_laysTown_61 : decode cX12_laysTown 61 = .ok (.iload_n 1, 1) := by decide +kernel
theorem dX12_laysTown_62 : decode cX12_laysTown 62 = .ok (.iaload, 1) := by decide +kernel
theorem dX12_laysTown_63 : decode cX12_laysTown 63 = .ok (.iastore, 1) := by decide +kernel
theorem dX12_laysTown_64 : decode cX12_laysTown 64 = .ok (.aload_n 0, 1) := by decide +kernel
theorem dX12_laysTown_65 : decode cX12_laysTown 65 = .ok (.getfield 103, 3) := by decide +kernel
theorem dX12_laysTown_68 : decode cX12_laysTown 68 = .ok (.iload_n 1, 1) := by decide +kernel
theorem dX12_laysTown_69 : decode cX12_laysTown 69 = .ok (.iconst 0, 1) := by decide +kernel
theorem dX12_laysTown_70 : decode cX12_laysTown 70 = .ok (.bastore, 1) := by decide +kernel
theorem dX12_laysTown_71 : decode cX12_laysTown 71 = .ok (.iinc 1 1, 3) := by decide +kernel
theorem dX12_laysTown_74 : decode cX12_laysTown 74 = .ok (.goto (-54), 3) := by decide +kernel
theorem dX12_laysTown_77 : decode cX12_laysTown 77 = .ok (.iconst 0, 1) := by decide +kernel
theorem dX12_laysTown_78 : decode cX12_laysTown 78 = .ok (.istore_n 1, 1) := by decide +kernel
theorem dX12_laysTown_79 : decode cX12_laysTown 79 = .ok (.aload_n 0, 1) := by decide +kernel
theorem dX12_laysTown_80 : decode cX12_laysTown 80 = .ok (.getfield 73, 3) := by decide +kernel
theorem dX12_laysTown_83 : decode cX12_laysTown 83 = .ok (.ifCond .lt 35, 3) := by decide +kernel
theorem dX12_laysTown_86 : decode cX12_laysTown 86 = .ok (.iload_n 1, 1) := by decide +kernel
theorem dX12_laysTown_87 : decode cX12_laysTown 87 = .ok (.aload_n 0, 1) := by decide +kernel
theorem dX12_laysTown_88 : decode cX12_laysTown 88 = .ok (.getfield 76, 3) := by decide +kernel
theorem dX12_laysTown_91 : decode cX12_laysTown 91 = .ok (.aload_n 0, 1) := by decide +kernel
theorem dX12_laysTown_92 : decode cX12_laysTown 92 = .ok (.getfield 73, 3) := by decide +kernel
theorem dX12_laysTown_95 : decode cX12_laysTown 95 = .ok (.iaload, 1) := by decide +kernel
theorem dX12_laysTown_96 : decode cX12_laysTown 96 = .ok (.if_icmp .ge 22, 3) := by decide +kernel
theorem dX12_laysTown_99 : decode cX12_laysTown 99 = .ok (.aload_n 0, 1) := by decide +kernel
theorem dX12_laysTown_100 : decode cX12_laysTown 100 = .ok (.bipush 12, 2) := by decide +kernel
theorem dX12_laysTown_102 : decode cX12_laysTown 102 = .ok (.aload_n 0, 1) := by decide +kernel
theorem dX12_laysTown_103 : decode cX12_laysTown 103 = .ok (.getfield 73, 3) := by decide +kernel
theorem dX12_laysTown_106 : decode cX12_laysTown 106 = .ok (.imul, 1) := by decide +kernel
theorem dX12_laysTown_107 : decode cX12_laysTown 107 = .ok (.iload_n 1, 1) := by decide +kernel
theorem dX12_laysTown_108 : decode cX12_laysTown 108 = .ok (.iadd, 1) := by decide +kernel
theorem dX12_laysTown_109 : decode cX12_laysTown 109 = .ok (.invokevirtual 354, 3) := by decide +kernel
theorem dX12_laysTown_112 : decode cX12_laysTown 112 = .ok (.iinc 1 1, 3) := by decide +kernel
theorem dX12_laysTown_115 : decode cX12_laysTown 115 = .ok (.goto (-36), 3) := by decide +kernel
theorem dX12_laysTown_118 : decode cX12_laysTown 118 = .ok (.iconst 0, 1) := by decide +kernel
theorem dX12_laysTown_119 : decode cX12_laysTown 119 = .ok (.istore_n 1, 1) := by decide +kernel
theorem dX12_laysTown_120 : decode cX12_laysTown 120 = .ok (.iload_n 1, 1) := by decide +kernel
theorem dX12_laysTown_121 : decode cX12_laysTown 121 = .ok (.bipush 12, 2) := by decide +kernel
theorem dX12_laysTown_123 : decode cX12_laysTown 123 = .ok (.if_icmp .ge 45, 3) := by decide +kernel
theorem dX12_laysTown_126 : decode cX12_laysTown 126 = .ok (.iconst 0, 1) := by decide +kernel
theorem dX12_laysTown_127 : decode cX12_laysTown 127 = .ok (.istore_n 2, 1) := by decide +kernel
theorem dX12_laysTown_128 : decode cX12_laysTown 128 = .ok (.iload_n 2, 1) := by decide +kernel
theorem dX12_laysTown_129 : decode cX12_laysTown 129 = .ok (.bipush 12, 2) := by decide +kernel
theorem dX12_laysTown_131 : decode cX12_laysTown 131 = .ok (.if_icmp .ge 31, 3) := by decide +kernel
theorem dX12_laysTown_134 : decode cX12_laysTown 134 = .ok (.aload_n 0, 1) := by decide +kernel
theorem dX12_laysTown_135 : decode cX12_laysTown 135 = .ok (.getfield 100, 3) := by decide +kernel
theorem dX12_laysTown_138 : decode cX12_laysTown 138 = .ok (.bipush 12, 2) := by decide +kernel
theorem dX12_laysTown_140 : decode cX12_laysTown 140 = .ok (.iload_n 1, 1) := by decide +kernel
theorem dX12_laysTown_141 : decode cX12_laysTown 141 = .ok (.imul, 1) := by decide +kernel
theorem dX12_laysTown_142 : decode cX12_laysTown 142 = .ok (.iload_n 2, 1) := by decide +kernel
theorem dX12_laysTown_143 : decode cX12_laysTown 143 = .ok (.iadd, 1) := by decide +kernel
theorem dX12_laysTown_144 : decode cX12_laysTown 144 = .ok (.iload_n 1, 1) := by decide +kernel
theorem dX12_laysTown_145 : decode cX12_laysTown 145 = .ok (.iload_n 2, 1) := by decide +kernel
theorem dX12_laysTown_146 : decode cX12_laysTown 146 = .ok (.if_icmp .ne 7, 3) := by decide +kernel
theorem dX12_laysTown_149 : decode cX12_laysTown 149 = .ok (.iconst 0, 1) := by decide +kernel
theorem dX12_laysTown_150 : decode cX12_laysTown 150 = .ok (.goto 5, 3) := by decide +kernel
theorem dX12_laysTown_153 : decode cX12_laysTown 153 = .ok (.ldc 222, 2) := by decide +kernel
theorem dX12_laysTown_155 : decode cX12_laysTown 155 = .ok (.iastore, 1) := by decide +kernel
theorem dX12_laysTown_156 : decode cX12_laysTown 156 = .ok (.iinc 2 1, 3) := by decide +kernel
theorem dX12_laysTown_159 : decode cX12_laysTown 159 = .ok (.goto (-31), 3) := by decide +kernel
theorem dX12_laysTown_162 : decode cX12_laysTown 162 = .ok (.iinc 1 1, 3) := by decide +kernel
theorem dX12_laysTown_165 : decode cX12_laysTown 165 = .ok (.goto (-45), 3) := by decide +kernel
theorem dX12_laysTown_168 : decode cX12_laysTown 168 = .ok (.iconst 0, 1) := by decide +kernel
theorem dX12_laysTown_169 : decode cX12_laysTown 169 = .ok (.istore_n 1, 1) := by decide +kernel
theorem dX12_laysTown_170 : decode cX12_laysTown 170 = .ok (.iload_n 1, 1) := by decide +kernel
theorem dX12_laysTown_171 : decode cX12_laysTown 171 = .ok (.aload_n 0, 1) := by decide +kernel
theorem dX12_laysTown_172 : decode cX12_laysTown 172 = .ok (.getfield 345, 3) := by decide +kernel
theorem dX12_laysTown_175 : decode cX12_laysTown 175 = .ok (.if_icmp .ge 88, 3) := by decide +kernel
theorem dX12_laysTown_178 : decode cX12_laysTown 178 = .ok (.aload_n 0, 1) := by decide +kernel
theorem dX12_laysTown_179 : decode cX12_laysTown 179 = .ok (.getfield 103, 3) := by decide +kernel
theorem dX12_laysTown_182 : decode cX12_laysTown 182 = .ok (.iload_n 1, 1) := by decide +kernel
theorem dX12_laysTown_183 : decode cX12_laysTown 183 = .ok (.baload, 1) := by decide +kernel
theorem dX12_laysTown_184 : decode cX12_laysTown 184 = .ok (.ifCond .eq 6, 3) := by decide +kernel
theorem dX12_laysTown_187 : decode cX12_laysTown 187 = .ok (.goto 70, 3) := by decide +kernel
theorem dX12_laysTown_190 : decode cX12_laysTown 190 = .ok (.bipush 12, 2) := by decide +kernel
theorem dX12_laysTown_192 : decode cX12_laysTown 192 = .ok (.aload_n 0, 1) := by decide +kernel
theorem dX12_laysTown_193 : decode cX12_laysTown 193 = .ok (.getfield 91, 3) := by decide +kernel
theorem dX12_laysTown_196 : decode cX12_laysTown 196 = .ok (.iload_n 1, 1) := by decide +kernel
theorem dX12_laysTown_197 : decode cX12_laysTown 197 = .ok (.iaload, 1) := by decide +kernel
theorem dX12_laysTown_198 : decode cX12_laysTown 198 = .ok (.imul, 1) := by decide +kernel
theorem dX12_laysTown_199 : decode cX12_laysTown 199 = .ok (.aload_n 0, 1) := by decide +kernel
theorem dX12_laysTown_200 : decode cX12_laysTown 200 = .ok (.getfield 94, 3) := by decide +kernel
theorem dX12_laysTown_203 : decode cX12_laysTown 203 = .ok (.iload_n 1, 1) := by decide +kernel
theorem dX12_laysTown_204 : decode cX12_laysTown 204 = .ok (.iaload, 1) := by decide +kernel
theorem dX12_laysTown_205 : decode cX12_laysTown 205 = .ok (.iadd, 1) := by decide +kernel
theorem dX12_laysTown_206 : decode cX12_laysTown 206 = .ok (.istore_n 2, 1) := by decide +kernel
theorem dX12_laysTown_207 : decode cX12_laysTown 207 = .ok (.bipush 12, 2) := by decide +kernel
theorem dX12_laysTown_209 : decode cX12_laysTown 209 = .ok (.aload_n 0, 1) := by decide +kernel
theorem dX12_laysTown_210 : decode cX12_laysTown 210 = .ok (.getfield 94, 3) := by decide +kernel
theorem dX12_laysTown_213 : decode cX12_laysTown 213 = .ok (.iload_n 1, 1) := by decide +kernel
theorem dX12_laysTown_214 : decode cX12_laysTown 214 = .ok (.iaload, 1) := by decide +kernel
theorem dX12_laysTown_215 : decode cX12_laysTown 215 = .ok (.imul, 1) := by decide +kernel
theorem dX12_laysTown_216 : decode cX12_laysTown 216 = .ok (.aload_n 0, 1) := by decide +kernel
theorem dX12_laysTown_217 : decode cX12_laysTown 217 = .ok (.getfield 91, 3) := by decide +kernel
theorem dX12_laysTown_220 : decode cX12_laysTown 220 = .ok (.iload_n 1, 1) := by decide +kernel
theorem dX12_laysTown_221 : decode cX12_laysTown 221 = .ok (.iaload, 1) := by decide +kernel
theorem dX12_laysTown_222 : decode cX12_laysTown 222 = .ok (.iadd, 1) := by decide +kernel
theorem dX12_laysTown_223 : decode cX12_laysTown 223 = .ok (.istore_n 3, 1) := by decide +kernel
theorem dX12_laysTown_224 : decode cX12_laysTown 224 = .ok (.aload_n 0, 1) := by decide +kernel
theorem dX12_laysTown_225 : decode cX12_laysTown 225 = .ok (.getfield 100, 3) := by decide +kernel
theorem dX12_laysTown_228 : decode cX12_laysTown 228 = .ok (.iload_n 2, 1) := by decide +kernel
theorem dX12_laysTown_229 : decode cX12_laysTown 229 = .ok (.aload_n 0, 1) := by decide +kernel
theorem dX12_laysTown_230 : decode cX12_laysTown 230 = .ok (.getfield 100, 3) := by decide +kernel
theorem dX12_laysTown_233 : decode cX12_laysTown 233 = .ok (.iload_n 2, 1) := by decide +kernel
theorem dX12_laysTown_234 : decode cX12_laysTown 234 = .ok (.iaload, 1) := by decide +kernel
theorem dX12_laysTown_235 : decode cX12_laysTown 235 = .ok (.aload_n 0, 1) := by decide +kernel
theorem dX12_laysTown_236 : decode cX12_laysTown 236 = .ok (.getfield 97, 3) := by decide +kernel
theorem dX12_laysTown_239 : decode cX12_laysTown 239 = .ok (.iload_n 1, 1) := by decide +kernel
theorem dX12_laysTown_240 : decode cX12_laysTown 240 = .ok (.iaload, 1) := by decide +kernel
theorem dX12_laysTown_241 : decode cX12_laysTown 241 = .ok (.invokestatic 223, 3) := by decide +kernel
theorem dX12_laysTown_244 : decode cX12_laysTown 244 = .ok (.iastore, 1) := by decide +kernel
theorem dX12_laysTown_245 : decode cX12_laysTown 245 = .ok (.aload_n 0, 1) := by decide +kernel
theorem dX12_laysTown_246 : decode cX12_laysTown 246 = .ok (.getfield 100, 3) := by decide +kernel
theorem dX12_laysTown_249 : decode cX12_laysTown 249 = .ok (.iload_n 3, 1) := by decide +kernel
theorem dX12_laysTown_250 : decode cX12_laysTown 250 = .ok (.aload_n 0, 1) := by decide +kernel
theorem dX12_laysTown_251 : decode cX12_laysTown 251 = .ok (.getfield 100, 3) := by decide +kernel
theorem dX12_laysTown_254 : decode cX12_laysTown 254 = .ok (.iload_n 2, 1) := by decide +kernel
theorem dX12_laysTown_255 : decode cX12_laysTown 255 = .ok (.iaload, 1) := by decide +kernel
theorem dX12_laysTown_256 : decode cX12_laysTown 256 = .ok (.iastore, 1) := by decide +kernel
theorem dX12_laysTown_257 : decode cX12_laysTown 257 = .ok (.iinc 1 1, 3) := by decide +kernel
theorem dX12_laysTown_260 : decode cX12_laysTown 260 = .ok (.goto (-90), 3) := by decide +kernel
theorem dX12_laysTown_263 : decode cX12_laysTown 263 = .ok (.iconst 0, 1) := by decide +kernel
theorem dX12_laysTown_264 : decode cX12_laysTown 264 = .ok (.istore_n 1, 1) := by decide +kernel
theorem dX12_laysTown_265 : decode cX12_laysTown 265 = .ok (.iload_n 1, 1) := by decide +kernel
theorem dX12_laysTown_266 : decode cX12_laysTown 266 = .ok (.aload_n 0, 1) := by decide +kernel
theorem dX12_laysTown_267 : decode cX12_laysTown 267 = .ok (.getfield 272, 3) := by decide +kernel
theorem dX12_laysTown_270 : decode cX12_laysTown 270 = .ok (.if_icmp .ge 89, 3) := by decide +kernel
theorem dX12_laysTown_273 : decode cX12_laysTown 273 = .ok (.iconst 0, 1) := by decide +kernel
theorem dX12_laysTown_274 : decode cX12_laysTown 274 = .ok (.istore_n 2, 1) := by decide +kernel
theorem dX12_laysTown_275 : decode cX12_laysTown 275 = .ok (.iload_n 2, 1) := by decide +kernel
theorem dX12_laysTown_276 : decode cX12_laysTown 276 = .ok (.aload_n 0, 1) := by decide +kernel
theorem dX12_laysTown_277 : decode cX12_laysTown 277 = .ok (.getfield 272, 3) := by decide +kernel
theorem dX12_laysTown_280 : decode cX12_laysTown 280 = .ok (.if_icmp .ge 73, 3) := by decide +kernel
theorem dX12_laysTown_283 : decode cX12_laysTown 283 = .ok (.iconst 0, 1) := by decide +kernel
theorem dX12_laysTown_284 : decode cX12_laysTown 284 = .ok (.istore_n 3, 1) := by decide +kernel
theorem dX12_laysTown_285 : decode cX12_laysTown 285 = .ok (.iload_n 3, 1) := by decide +kernel
theorem dX12_laysTown_286 : decode cX12_laysTown 286 = .ok (.aload_n 0, 1) := by decide +kernel
theorem dX12_laysTown_287 : decode cX12_laysTown 287 = .ok (.getfield 272, 3) := by decide +kernel
theorem dX12_laysTown_290 : decode cX12_laysTown 290 = .ok (.if_icmp .ge 57, 3) := by decide +kernel
theorem dX12_laysTown_293 : decode cX12_laysTown 293 = .ok (.aload_n 0, 1) := by decide +kernel
theorem dX12_laysTown_294 : decode cX12_laysTown 294 = .ok (.getfield 100, 3) := by decide +kernel
theorem dX12_laysTown_297 : decode cX12_laysTown 297 = .ok (.bipush 12, 2) := by decide +kernel
theorem dX12_laysTown_299 : decode cX12_laysTown 299 = .ok (.iload_n 2, 1) := by decide +kernel
theorem dX12_laysTown_300 : decode cX12_laysTown 300 = .ok (.imul, 1) := by decide +kernel
theorem dX12_laysTown_301 : decode cX12_laysTown 301 = .ok (.iload_n 3, 1) := by decide +kernel
theorem dX12_laysTown_302 : decode cX12_laysTown 302 = .ok (.iadd, 1) := by decide +kernel
theorem dX12_laysTown_303 : decode cX12_laysTown 303 = .ok (.aload_n 0, 1) := by decide +kernel
theorem dX12_laysTown_304 : decode cX12_laysTown 304 = .ok (.getfield 100, 3) := by decide +kernel
theorem dX12_laysTown_307 : decode cX12_laysTown 307 = .ok (.bipush 12, 2) := by decide +kernel
theorem dX12_laysTown_309 : decode cX12_laysTown 309 = .ok (.iload_n 2, 1) := by decide +kernel
theorem dX12_laysTown_310 : decode cX12_laysTown 310 = .ok (.imul, 1) := by decide +kernel
theorem dX12_laysTown_311 : decode cX12_laysTown 311 = .ok (.iload_n 3, 1) := by decide +kernel
theorem dX12_laysTown_312 : decode cX12_laysTown 312 = .ok (.iadd, 1) := by decide +kernel
theorem dX12_laysTown_313 : decode cX12_laysTown 313 = .ok (.iaload, 1) := by decide +kernel
theorem dX12_laysTown_314 : decode cX12_laysTown 314 = .ok (.aload_n 0, 1) := by decide +kernel
theorem dX12_laysTown_315 : decode cX12_laysTown 315 = .ok (.getfield 100, 3) := by decide +kernel
theorem dX12_laysTown_318 : decode cX12_laysTown 318 = .ok (.bipush 12, 2) := by decide +kernel
theorem dX12_laysTown_320 : decode cX12_laysTown 320 = .ok (.iload_n 2, 1) := by decide +kernel
theorem dX12_laysTown_321 : decode cX12_laysTown 321 = .ok (.imul, 1) := by decide +kernel
theorem dX12_laysTown_322 : decode cX12_laysTown 322 = .ok (.iload_n 1, 1) := by decide +kernel
theorem dX12_laysTown_323 : decode cX12_laysTown 323 = .ok (.iadd, 1) := by decide +kernel
theorem dX12_laysTown_324 : decode cX12_laysTown 324 = .ok (.iaload, 1) := by decide +kernel
theorem dX12_laysTown_325 : decode cX12_laysTown 325 = .ok (.aload_n 0, 1) := by decide +kernel
theorem dX12_laysTown_326 : decode cX12_laysTown 326 = .ok (.getfield 100, 3) := by decide +kernel
theorem dX12_laysTown_329 : decode cX12_laysTown 329 = .ok (.bipush 12, 2) := by decide +kernel
theorem dX12_laysTown_331 : decode cX12_laysTown 331 = .ok (.iload_n 1, 1) := by decide +kernel
theorem dX12_laysTown_332 : decode cX12_laysTown 332 = .ok (.imul, 1) := by decide +kernel
theorem dX12_laysTown_333 : decode cX12_laysTown 333 = .ok (.iload_n 3, 1) := by decide +kernel
theorem dX12_laysTown_334 : decode cX12_laysTown 334 = .ok (.iadd, 1) := by decide +kernel
theorem dX12_laysTown_335 : decode cX12_laysTown 335 = .ok (.iaload, 1) := by decide +kernel
theorem dX12_laysTown_336 : decode cX12_laysTown 336 = .ok (.iadd, 1) := by decide +kernel
theorem dX12_laysTown_337 : decode cX12_laysTown 337 = .ok (.invokestatic 223, 3) := by decide +kernel
theorem dX12_laysTown_340 : decode cX12_laysTown 340 = .ok (.iastore, 1) := by decide +kernel
theorem dX12_laysTown_341 : decode cX12_laysTown 341 = .ok (.iinc 3 1, 3) := by decide +kernel
theorem dX12_laysTown_344 : decode cX12_laysTown 344 = .ok (.goto (-59), 3) := by decide +kernel
theorem dX12_laysTown_347 : decode cX12_laysTown 347 = .ok (.iinc 2 1, 3) := by decide +kernel
theorem dX12_laysTown_350 : decode cX12_laysTown 350 = .ok (.goto (-75), 3) := by decide +kernel
theorem dX12_laysTown_353 : decode cX12_laysTown 353 = .ok (.iinc 1 1, 3) := by decide +kernel
theorem dX12_laysTown_356 : decode cX12_laysTown 356 = .ok (.goto (-91), 3) := by decide +kernel
theorem dX12_laysTown_359 : decode cX12_laysTown 359 = .ok (.return_, 1) := by decide +kernel
theorem dX12_lays_0 : decode cX12_lays 0 = .ok (.aload_n 0, 1) := by decide +kernel
theorem dX12_lays_1 : decode cX12_lays 1 = .ok (.getfield 79, 3) := by decide +kernel
theorem dX12_lays_4 : decode cX12_lays 4 = .ok (.iload_n 1, 1) := by decide +kernel
theorem dX12_lays_5 : decode cX12_lays 5 = .ok (.iaload, 1) := by decide +kernel
theorem dX12_lays_6 : decode cX12_lays 6 = .ok (.ifCond .ne 13, 3) := by decide +kernel
theorem dX12_lays_9 : decode cX12_lays 9 = .ok (.aload_n 0, 1) := by decide +kernel
theorem dX12_lays_10 : decode cX12_lays 10 = .ok (.aload_n 0, 1) := by decide +kernel
theorem dX12_lays_11 : decode cX12_lays 11 = .ok (.getfield 88, 3) := by decide +kernel
theorem dX12_lays_14 : decode cX12_lays 14 = .ok (.iload_n 1, 1) := by decide +kernel
theorem dX12_lays_15 : decode cX12_lays 15 = .ok (.iaload, 1) := by decide +kernel
theorem dX12_lays_16 : decode cX12_lays 16 = .ok (.putfield 348, 3) := by decide +kernel
theorem dX12_lays_19 : decode cX12_lays 19 = .ok (.aload_n 0, 1) := by decide +kernel
theorem dX12_lays_20 : decode cX12_lays 20 = .ok (.getfield 79, 3) := by decide +kernel
theorem dX12_lays_23 : decode cX12_lays 23 = .ok (.iload_n 1, 1) := by decide +kernel
theorem dX12_lays_24 : decode cX12_lays 24 = .ok (.iaload, 1) := by decide +kernel
theorem dX12_lays_25 : decode cX12_lays 25 = .ok (.iconst 3, 1) := by decide +kernel
theorem dX12_lays_26 : decode cX12_lays 26 = .ok (.if_icmp .ne 13, 3) := by decide +kernel
theorem dX12_lays_29 : decode cX12_lays 29 = .ok (.aload_n 0, 1) := by decide +kernel
theorem dX12_lays_30 : decode cX12_lays 30 = .ok (.aload_n 0, 1) := by decide +kernel
theorem dX12_lays_31 : decode cX12_lays 31 = .ok (.getfield 88, 3) := by decide +kernel
theorem dX12_lays_34 : decode cX12_lays 34 = .ok (.iload_n 1, 1) := by decide +kernel
theorem dX12_lays_35 : decode cX12_lays 35 = .ok (.iaload, 1) := by decide +kernel
theorem dX12_lays_36 : decode cX12_lays 36 = .ok (.putfield 351, 3) := by decide +kernel
theorem dX12_lays_39 : decode cX12_lays 39 = .ok (.aload_n 0, 1) := by decide +kernel
theorem dX12_lays_40 : decode cX12_lays 40 = .ok (.getfield 79, 3) := by decide +kernel
theorem dX12_lays_43 : decode cX12_lays 43 = .ok (.iload_n 1, 1) := by decide +kernel
theorem dX12_lays_44 : decode cX12_lays 44 = .ok (.iaload, 1) := by decide +kernel
theorem dX12_lays_45 : decode cX12_lays 45 = .ok (.iconst 1, 1) := by decide +kernel
theorem dX12_lays_46 : decode cX12_lays 46 = .ok (.if_icmp .ne 86, 3) := by decide +kernel
theorem dX12_lays_49 : decode cX12_lays 49 = .ok (.iconst 0, 1) := by decide +kernel
theorem dX12_lays_50 : decode cX12_lays 50 = .ok (.istore_n 2, 1) := by decide +kernel
theorem dX12_lays_51 : decode cX12_lays 51 = .ok (.iload_n 2, 1) := by decide +kernel
theorem dX12_lays_52 : decode cX12_lays 52 = .ok (.aload_n 0, 1) := by decide +kernel
theorem dX12_lays_53 : decode cX12_lays 53 = .ok (.getfield 345, 3) := by decide +kernel
theorem dX12_lays_56 : decode cX12_lays 56 = .ok (.if_icmp .ge 76, 3) := by decide +kernel
theorem dX12_lays_59 : decode cX12_lays 59 = .ok (.aload_n 0, 1) := by decide +kernel
theorem dX12_lays_60 : decode cX12_lays 60 = .ok (.getfield 91, 3) := by decide +kernel
theorem dX12_lays_63 : decode cX12_lays 63 = .ok (.iload_n 2, 1) := by decide +kernel
theorem dX12_lays_64 : decode cX12_lays 64 = .ok (.iaload, 1) := by decide +kernel
theorem dX12_lays_65 : decode cX12_lays 65 = .ok (.aload_n 0, 1) := by decide +kernel
theorem dX12_lays_66 : decode cX12_lays 66 = .ok (.getfield 82, 3) := by decide +kernel
theorem dX12_lays_69 : decode cX12_lays 69 = .ok (.iload_n 1, 1) := by decide +kernel
theorem dX12_lays_70 : decode cX12_lays 70 = .ok (.iaload, 1) := by decide +kernel
theorem dX12_lays_71 : decode cX12_lays 71 = .ok (.if_icmp .ne 18, 3) := by decide +kernel
theorem dX12_lays_74 : decode cX12_lays 74 = .ok (.aload_n 0, 1) := by decide +kernel
theorem dX12_lays_75 : decode cX12_lays 75 = .ok (.getfield 94, 3) := by decide +kernel
theorem dX12_lays_78 : decode cX12_lays 78 = .ok (.iload_n 2, 1) := by decide +kernel
theorem dX12_lays_79 : decode cX12_lays 79 = .ok (.iaload, 1) := by decide +kernel
theorem dX12_lays_80 : decode cX12_lays 80 = .ok (.aload_n 0, 1) := by decide +kernel
theorem dX12_lays_81 : decode cX12_lays 81 = .ok (.getfield 85, 3) := by decide +kernel
theorem dX12_lays_84 : decode cX12_lays 84 = .ok (.iload_n 1, 1) := by decide +kernel
theorem dX12_lays_85 : decode cX12_lays 85 = .ok (.iaload, 1) := by decide +kernel
theorem dX12_lays_86 : decode cX12_lays 86 = .ok (.if_icmp .eq 33, 3) := by decide +kernel
theorem dX12_lays_89 : decode cX12_lays 89 = .ok (.aload_n 0, 1) := by decide +kernel
theorem dX12_lays_90 : decode cX12_lays 90 = .ok (.getfield 91, 3) := by decide +kernel
theorem dX12_lays_93 : decode cX12_lays 93 = .ok (.iload_n 2, 1) := by decide +kernel
theorem dX12_lays_94 : decode cX12_lays 94 = .ok (.iaload, 1) := by decide +kernel
theorem dX12_lays_95 : decode cX12_lays 95 = .ok (.aload_n 0, 1) := by decide +kernel
theorem dX12_lays_96 : decode cX12_lays 96 = .ok (.getfield 85, 3) := by decide +kernel
theorem dX12_lays_99 : decode cX12_lays 99 = .ok (.iload_n 1, 1) := by decide +kernel
theorem dX12_lays_100 : decode cX12_lays 100 = .ok (.iaload, 1) := by decide +kernel
theorem dX12_lays_101 : decode cX12_lays 101 = .ok (.if_icmp .ne 25, 3) := by decide +kernel
theorem dX12_lays_104 : decode cX12_lays 104 = .ok (.aload_n 0, 1) := by decide +kernel
theorem dX12_lays_105 : decode cX12_lays 105 = .ok (.getfield 94, 3) := by decide +kernel
theorem dX12_lays_108 : decode cX12_lays 108 = .ok (.iload_n 2, 1) := by decide +kernel
theorem dX12_lays_109 : decode cX12_lays 109 = .ok (.iaload, 1) := by decide +kernel
theorem dX12_lays_110 : decode cX12_lays 110 = .ok (.aload_n 0, 1) := by decide +kernel
theorem dX12_lays_111 : decode cX12_lays 111 = .ok (.getfield 82, 3) := by decide +kernel
theorem dX12_lays_114 : decode cX12_lays 114 = .ok (.iload_n 1, 1) := by decide +kernel
theorem dX12_lays_115 : decode cX12_lays 115 = .ok (.iaload, 1) := by decide +kernel
theorem dX12_lays_116 : decode cX12_lays 116 = .ok (.if_icmp .ne 10, 3) := by decide +kernel
theorem dX12_lays_119 : decode cX12_lays 119 = .ok (.aload_n 0, 1) := by decide +kernel
theorem dX12_lays_120 : decode cX12_lays 120 = .ok (.getfield 103, 3) := by decide +kernel
theorem dX12_lays_123 : decode cX12_lays 123 = .ok (.iload_n 2, 1) := by decide +kernel
theorem dX12_lays_124 : decode cX12_lays 124 = .ok (.iconst 1, 1) := by decide +kernel
theorem dX12_lays_125 : decode cX12_lays 125 = .ok (.bastore, 1) := by decide +kernel
theorem dX12_lays_126 : decode cX12_lays 126 = .ok (.iinc 2 1, 3) := by decide +kernel
theorem dX12_lays_129 : decode cX12_lays 129 = .ok (.goto (-78), 3) := by decide +kernel
theorem dX12_lays_132 : decode cX12_lays 132 = .ok (.aload_n 0, 1) := by decide +kernel
theorem dX12_lays_133 : decode cX12_lays 133 = .ok (.getfield 79, 3) := by decide +kernel
theorem dX12_lays_136 : decode cX12_lays 136 = .ok (.iload_n 1, 1) := by decide +kernel
theorem dX12_lays_137 : decode cX12_lays 137 = .ok (.iaload, 1) := by decide +kernel
theorem dX12_lays_138 : decode cX12_lays 138 = .ok (.iconst 2, 1) := by decide +kernel
theorem dX12_lays_139 : decode cX12_lays 139 = .ok (.if_icmp .eq 4, 3) := by decide +kernel
theorem dX12_lays_142 : decode cX12_lays 142 = .ok (.return_, 1) := by decide +kernel
theorem dX12_lays_143 : decode cX12_lays 143 = .ok (.aload_n 0, 1) := by decide +kernel
theorem dX12_lays_144 : decode cX12_lays 144 = .ok (.getfield 91, 3) := by decide +kernel
theorem dX12_lays_147 : decode cX12_lays 147 = .ok (.aload_n 0, 1) := by decide +kernel
theorem dX12_lays_148 : decode cX12_lays 148 = .ok (.getfield 345, 3) := by decide +kernel
theorem dX12_lays_151 : decode cX12_lays 151 = .ok (.aload_n 0, 1) := by decide +kernel
theorem dX12_lays_152 : decode cX12_lays 152 = .ok (.getfield 82, 3) := by decide +kernel
theorem dX12_lays_155 : decode cX12_lays 155 = .ok (.iload_n 1, 1) := by decide +kernel
theorem dX12_lays_156 : decode cX12_lays 156 = .ok (.iaload, 1) := by decide +kernel
theorem dX12_lays_157 : decode cX12_lays 157 = .ok (.iastore, 1) := by decide +kernel
theorem dX12_lays_158 : decode cX12_lays 158 = .ok (.aload_n 0, 1) := by decide +kernel
theorem dX12_lays_159 : decode cX12_lays 159 = .ok (.getfield 94, 3) := by decide +kernel
theorem dX12_lays_162 : decode cX12_lays 162 = .ok (.aload_n 0, 1) := by decide +kernel
theorem dX12_lays_163 : decode cX12_lays 163 = .ok (.getfield 345, 3) := by decide +kernel
theorem dX12_lays_166 : decode cX12_lays 166 = .ok (.aload_n 0, 1) := by decide +kernel
theorem dX12_lays_167 : decode cX12_lays 167 = .ok (.getfield 85, 3) := by decide +kernel
theorem dX12_lays_170 : decode cX12_lays 170 = .ok (.iload_n 1, 1) := by decide +kernel
theorem dX12_lays_171 : decode cX12_lays 171 = .ok (.iaload, 1) := by decide +kernel
theorem dX12_lays_172 : decode cX12_lays 172 = .ok (.iastore, 1) := by decide +kernel
theorem dX12_lays_173 : decode cX12_lays 173 = .ok (.aload_n 0, 1) := by decide +kernel
theorem dX12_lays_174 : decode cX12_lays 174 = .ok (.getfield 97, 3) := by decide +kernel
theorem dX12_lays_177 : decode cX12_lays 177 = .ok (.aload_n 0, 1) := by decide +kernel
theorem dX12_lays_178 : decode cX12_lays 178 = .ok (.getfield 345, 3) := by decide +kernel
theorem dX12_lays_181 : decode cX12_lays 181 = .ok (.aload_n 0, 1) := by decide +kernel
theorem dX12_lays_182 : decode cX12_lays 182 = .ok (.getfield 88, 3) := by decide +kernel
theorem dX12_lays_185 : decode cX12_lays 185 = .ok (.iload_n 1, 1) := by decide +kernel
theorem dX12_lays_186 : decode cX12_lays 186 = .ok (.iaload, 1) := by decide +kernel
theorem dX12_lays_187 : decode cX12_lays 187 = .ok (.iastore, 1) := by decide +kernel
theorem dX12_lays_188 : decode cX12_lays 188 = .ok (.aload_n 0, 1) := by decide +kernel
theorem dX12_lays_189 : decode cX12_lays 189 = .ok (.getfield 103, 3) := by decide +kernel
