/-! decode rows -/
theorem dX12_init_0 : decode cX12_init 0 = .ok (.aload_n 0, 1) := by decide +kernel
theorem dX12_init_1 : decode cX12_init 1 = .ok (.invokespecial 1, 3) := by decide +kernel
theorem dX12_init_4 : decode cX12_init 4 = .ok (.aload_n 0, 1) := by decide +kernel
theorem dX12_init_5 : decode cX12_init 5 = .ok (.sipush 2000, 3) := by decide +kernel
theorem dX12_init_8 : decode cX12_init 8 = .ok (.newarray .byte, 2) := by decide +kernel
theorem dX12_init_10 : decode cX12_init 10 = .ok (.putfield 9, 3) := by decide +kernel
theorem dX12_init_13 : decode cX12_init 13 = .ok (.aload_n 0, 1) := by decide +kernel
theorem dX12_init_14 : decode cX12_init 14 = .ok (.sipush 8000, 3) := by decide +kernel
theorem dX12_init_17 : decode cX12_init 17 = .ok (.newarray .byte, 2) := by decide +kernel
theorem dX12_init_19 : decode cX12_init 19 = .ok (.putfield 13, 3) := by decide +kernel
theorem dX12_init_22 : decode cX12_init 22 = .ok (.aload_n 0, 1) := by decide +kernel
theorem dX12_init_23 : decode cX12_init 23 = .ok (.bipush 96, 2) := by decide +kernel
theorem dX12_init_25 : decode cX12_init 25 = .ok (.newarray .byte, 2) := by decide +kernel
theorem dX12_init_27 : decode cX12_init 27 = .ok (.putfield 16, 3) := by decide +kernel
theorem dX12_init_30 : decode cX12_init 30 = .ok (.aload_n 0, 1) := by decide +kernel
theorem dX12_init_31 : decode cX12_init 31 = .ok (.bipush 8, 2) := by decide +kernel
theorem dX12_init_33 : decode cX12_init 33 = .ok (.newarray .int, 2) := by decide +kernel
theorem dX12_init_35 : decode cX12_init 35 = .ok (.putfield 19, 3) := by decide +kernel
theorem dX12_init_38 : decode cX12_init 38 = .ok (.aload_n 0, 1) := by decide +kernel
theorem dX12_init_39 : decode cX12_init 39 = .ok (.sipush 160, 3) := by decide +kernel
theorem dX12_init_42 : decode cX12_init 42 = .ok (.newarray .byte, 2) := by decide +kernel
theorem dX12_init_44 : decode cX12_init 44 = .ok (.putfield 23, 3) := by decide +kernel
theorem dX12_init_47 : decode cX12_init 47 = .ok (.aload_n 0, 1) := by decide +kernel
theorem dX12_init_48 : decode cX12_init 48 = .ok (.bipush 8, 2) := by decide +kernel
theorem dX12_init_50 : decode cX12_init 50 = .ok (.newarray .int, 2) := by decide +kernel
theorem dX12_init_52 : decode cX12_init 52 = .ok (.putfield 26, 3) := by decide +kernel
theorem dX12_init_55 : decode cX12_init 55 = .ok (.aload_n 0, 1) := by decide +kernel
theorem dX12_init_56 : decode cX12_init 56 = .ok (.sipush 160, 3) := by decide +kernel
theorem dX12_init_59 : decode cX12_init 59 = .ok (.newarray .byte, 2) := by decide +kernel
theorem dX12_init_61 : decode cX12_init 61 = .ok (.putfield 29, 3) := by decide +kernel
theorem dX12_init_64 : decode cX12_init 64 = .ok (.aload_n 0, 1) := by decide +kernel
theorem dX12_init_65 : decode cX12_init 65 = .ok (.bipush 8, 2) := by decide +kernel
theorem dX12_init_67 : decode cX12_init 67 = .ok (.newarray .int, 2) := by decide +kernel
theorem dX12_init_69 : decode cX12_init 69 = .ok (.putfield 32, 3) := by decide +kernel
theorem dX12_init_72 : decode cX12_init 72 = .ok (.aload_n 0, 1) := by decide +kernel
theorem dX12_init_73 : decode cX12_init 73 = .ok (.bipush 8, 2) := by decide +kernel
theorem dX12_init_75 : decode cX12_init 75 = .ok (.newarray .boolean, 2) := by decide +kernel
theorem dX12_init_77 : decode cX12_init 77 = .ok (.putfield 35, 3) := by decide +kernel
theorem dX12_init_80 : decode cX12_init 80 = .ok (.aload_n 0, 1) := by decide +kernel
theorem dX12_init_81 : decode cX12_init 81 = .ok (.bipush 8, 2) := by decide +kernel
theorem dX12_init_83 : decode cX12_init 83 = .ok (.newarray .int, 2) := by decide +kernel
theorem dX12_init_85 : decode cX12_init 85 = .ok (.putfield 39, 3) := by decide +kernel
theorem dX12_init_88 : decode cX12_init 88 = .ok (.aload_n 0, 1) := by decide +kernel
theorem dX12_init_89 : decode cX12_init 89 = .ok (.bipush 8, 2) := by decide +kernel
theorem dX12_init_91 : decode cX12_init 91 = .ok (.newarray .boolean, 2) := by decide +kernel
theorem dX12_init_93 : decode cX12_init 93 = .ok (.putfield 42, 3) := by decide +kernel
theorem dX12_init_96 : decode cX12_init 96 = .ok (.aload_n 0, 1) := by decide +kernel
theorem dX12_init_97 : decode cX12_init 97 = .ok (.sipush 1920, 3) := by decide +kernel
theorem dX12_init_100 : decode cX12_init 100 = .ok (.newarray .byte, 2) := by decide +kernel
theorem dX12_init_102 : decode cX12_init 102 = .ok (.putfield 45, 3) := by decide +kernel
theorem dX12_init_105 : decode cX12_init 105 = .ok (.aload_n 0, 1) := by decide +kernel
theorem dX12_init_106 : decode cX12_init 106 = .ok (.bipush 24, 2) := by decide +kernel
theorem dX12_init_108 : decode cX12_init 108 = .ok (.newarray .int, 2) := by decide +kernel
theorem dX12_init_110 : decode cX12_init 110 = .ok (.putfield 48, 3) := by decide +kernel
theorem dX12_init_113 : decode cX12_init 113 = .ok (.aload_n 0, 1) := by decide +kernel
theorem dX12_init_114 : decode cX12_init 114 = .ok (.bipush 8, 2) := by decide +kernel
theorem dX12_init_116 : decode cX12_init 116 = .ok (.newarray .int, 2) := by decide +kernel
theorem dX12_init_118 : decode cX12_init 118 = .ok (.putfield 51, 3) := by decide +kernel
theorem dX12_init_121 : decode cX12_init 121 = .ok (.aload_n 0, 1) := by decide +kernel
theorem dX12_init_122 : decode cX12_init 122 = .ok (.sipush 240, 3) := by decide +kernel
theorem dX12_init_125 : decode cX12_init 125 = .ok (.newarray .int, 2) := by decide +kernel
theorem dX12_init_127 : decode cX12_init 127 = .ok (.putfield 54, 3) := by decide +kernel
theorem dX12_init_130 : decode cX12_init 130 = .ok (.aload_n 0, 1) := by decide +kernel
theorem dX12_init_131 : decode cX12_init 131 = .ok (.sipush 3200, 3) := by decide +kernel
theorem dX12_init_134 : decode cX12_init 134 = .ok (.newarray .int, 2) := by decide +kernel
theorem dX12_init_136 : decode cX12_init 136 = .ok (.putfield 57, 3) := by decide +kernel
theorem dX12_init_139 : decode cX12_init 139 = .ok (.aload_n 0, 1) := by decide +kernel
theorem dX12_init_140 : decode cX12_init 140 = .ok (.bipush 60, 2) := by decide +kernel
theorem dX12_init_142 : decode cX12_init 142 = .ok (.putfield 60, 3) := by decide +kernel
theorem dX12_init_145 : decode cX12_init 145 = .ok (.aload_n 0, 1) := by decide +kernel
theorem dX12_init_146 : decode cX12_init 146 = .ok (.sipush 600, 3) := by decide +kernel
theorem dX12_init_149 : decode cX12_init 149 = .ok (.putfield 64, 3) := by decide +kernel
theorem dX12_init_152 : decode cX12_init 152 = .ok (.aload_n 0, 1) := by decide +kernel
theorem dX12_init_153 : decode cX12_init 153 = .ok (.sipush 10000, 3) := by decide +kernel
theorem dX12_init_156 : decode cX12_init 156 = .ok (.putfield 67, 3) := by decide +kernel
theorem dX12_init_159 : decode cX12_init 159 = .ok (.aload_n 0, 1) := by decide +kernel
theorem dX12_init_160 : decode cX12_init 160 = .ok (.sipush 200, 3) := by decide +kernel
theorem dX12_init_163 : decode cX12_init 163 = .ok (.newarray .int, 2) := by decide +kernel
theorem dX12_init_165 : decode cX12_init 165 = .ok (.putfield 70, 3) := by decide +kernel
theorem dX12_init_168 : decode cX12_init 168 = .ok (.aload_n 0, 1) := by decide +kernel
theorem dX12_init_169 : decode cX12_init 169 = .ok (.sipush 200, 3) := by decide +kernel
theorem dX12_init_172 : decode cX12_init 172 = .ok (.newarray .int, 2) := by decide +kernel
theorem dX12_init_174 : decode cX12_init 174 = .ok (.putfield 73, 3) := by decide +kernel
theorem dX12_init_177 : decode cX12_init 177 = .ok (.aload_n 0, 1) := by decide +kernel
theorem dX12_init_178 : decode cX12_init 178 = .ok (.sipush 200, 3) := by decide +kernel
theorem dX12_init_181 : decode cX12_init 181 = .ok (.newarray .int, 2) := by decide +kernel
theorem dX12_init_183 : decode cX12_init 183 = .ok (.putfield 76, 3) := by decide +kernel
theorem dX12_init_186 : decode cX12_init 186 = .ok (.aload_n 0, 1) := by decide +kernel
theorem dX12_init_187 : decode cX12_init 187 = .ok (.sipush 200, 3) := by decide +kernel
theorem dX12_init_190 : decode cX12_init 190 = .ok (.newarray .boolean, 2) := by decide +kernel
theorem dX12_init_192 : decode cX12_init 192 = .ok (.putfield 79, 3) := by decide +kernel
theorem dX12_init_195 : decode cX12_init 195 = .ok (.aload_n 0, 1) := by decide +kernel
theorem dX12_init_196 : decode cX12_init 196 = .ok (.sipush 8600, 3) := by decide +kernel
theorem dX12_init_199 : decode cX12_init 199 = .ok (.newarray .byte, 2) := by decide +kernel
theorem dX12_init_201 : decode cX12_init 201 = .ok (.putfield 82, 3) := by decide +kernel
theorem dX12_init_204 : decode cX12_init 204 = .ok (.aload_n 0, 1) := by decide +kernel
theorem dX12_init_205 : decode cX12_init 205 = .ok (.ldc 85, 2) := by decide +kernel
theorem dX12_init_207 : decode cX12_init 207 = .ok (.newarray .byte, 2) := by decide +kernel
theorem dX12_init_209 : decode cX12_init 209 = .ok (.putfield 86, 3) := by decide +kernel
theorem dX12_init_212 : decode cX12_init 212 = .ok (.aload_n 0, 1) := by decide +kernel
theorem dX12_init_213 : decode cX12_init 213 = .ok (.sipush 200, 3) := by decide +kernel
theorem dX12_init_216 : decode cX12_init 216 = .ok (.newarray .int, 2) := by decide +kernel
theorem dX12_init_218 : decode cX12_init 218 = .ok (.putfield 89, 3) := by decide +kernel
theorem dX12_init_221 : decode cX12_init 221 = .ok (.aload_n 0, 1) := by decide +kernel
theorem dX12_init_222 : decode cX12_init 222 = .ok (.sipush 200, 3) := by decide +kernel
theorem dX12_init_225 : decode cX12_init 225 = .ok (.newarray .int, 2) := by decide +kernel
theorem dX12_init_227 : decode cX12_init 227 = .ok (.putfield 92, 3) := by decide +kernel
theorem dX12_init_230 : decode cX12_init 230 = .ok (.aload_n 0, 1) := by decide +kernel
theorem dX12_init_231 : decode cX12_init 231 = .ok (.sipush 200, 3) := by decide +kernel
theorem dX12_init_234 : decode cX12_init 234 = .ok (.newarray .int, 2) := by decide +kernel
theorem dX12_init_236 : decode cX12_init 236 = .ok (.putfield 95, 3) := by decide +kernel
theorem dX12_init_239 : decode cX12_init 239 = .ok (.aload_n 0, 1) := by decide +kernel
theorem dX12_init_240 : decode cX12_init 240 = .ok (.sipush 200, 3) := by decide +kernel
theorem dX12_init_243 : decode cX12_init 243 = .ok (.newarray .int, 2) := by decide +kernel
theorem dX12_init_245 : decode cX12_init 245 = .ok (.putfield 98, 3) := by decide +kernel
theorem dX12_init_248 : decode cX12_init 248 = .ok (.aload_n 0, 1) := by decide +kernel
theorem dX12_init_249 : decode cX12_init 249 = .ok (.sipush 200, 3) := by decide +kernel
theorem dX12_init_252 : decode cX12_init 252 = .ok (.newarray .int, 2) := by decide +kernel
theorem dX12_init_254 : decode cX12_init 254 = .ok (.putfield 101, 3) := by decide +kernel
theorem dX12_init_257 : decode cX12_init 257 = .ok (.aload_n 0, 1) := by decide +kernel
theorem dX12_init_258 : decode cX12_init 258 = .ok (.sipush 200, 3) := by decide +kernel
theorem dX12_init_261 : decode cX12_init 261 = .ok (.newarray .int, 2) := by decide +kernel
theorem dX12_init_263 : decode cX12_init 263 = .ok (.putfield 104, 3) := by decide +kernel
theorem dX12_init_266 : decode cX12_init 266 = .ok (.aload_n 0, 1) := by decide +kernel
theorem dX12_init_267 : decode cX12_init 267 = .ok (.sipush 200, 3) := by decide +kernel
theorem dX12_init_270 : decode cX12_init 270 = .ok (.newarray .int, 2) := by decide +kernel
theorem dX12_init_272 : decode cX12_init 272 = .ok (.putfield 107, 3) := by decide +kernel
theorem dX12_init_275 : decode cX12_init 275 = .ok (.aload_n 0, 1) := by decide +kernel
theorem dX12_init_276 : decode cX12_init 276 = .ok (.sipush 200, 3) := by decide +kernel
theorem dX12_init_279 : decode cX12_init 279 = .ok (.newarray .int, 2) := by decide +kernel
theorem dX12_init_281 : decode cX12_init 281 = .ok (.putfield 110, 3) := by decide +kernel
theorem dX12_init_284 : decode cX12_init 284 = .ok (.aload_n 0, 1) := by decide +kernel
theorem dX12_init_285 : decode cX12_init 285 = .ok (.sipush 200, 3) := by decide +kernel
theorem dX12_init_288 : decode cX12_init 288 = .ok (.newarray .int, 2) := by decide +kernel
theorem dX12_init_290 : decode cX12_init 290 = .ok (.putfield 113, 3) := by decide +kernel
theorem dX12_init_293 : decode cX12_init 293 = .ok (.aload_n 0, 1) := by decide +kernel
theorem dX12_init_294 : decode cX12_init 294 = .ok (.sipush 200, 3) := by decide +kernel
theorem dX12_init_297 : decode cX12_init 297 = .ok (.newarray .int, 2) := by decide +kernel
theorem dX12_init_299 : decode cX12_init 299 = .ok (.putfield 116, 3) := by decide +kernel
theorem dX12_init_302 : decode cX12_init 302 = .ok (.aload_n 0, 1) := by decide +kernel
theorem dX12_init_303 : decode cX12_init 303 = .ok (.sipush 200, 3) := by decide +kernel
theorem dX12_init_306 : decode cX12_init 306 = .ok (.newarray .int, 2) := by decide +kernel
theorem dX12_init_308 : decode cX12_init 308 = .ok (.putfield 119, 3) := by decide +kernel
theorem dX12_init_311 : decode cX12_init 311 = .ok (.aload_n 0, 1) := by decide +kernel
theorem dX12_init_312 : decode cX12_init 312 = .ok (.sipush 200, 3) := by decide +kernel
theorem dX12_init_315 : decode cX12_init 315 = .ok (.newarray .int, 2) := by decide +kernel
theorem dX12_init_317 : decode cX12_init 317 = .ok (.putfield 122, 3) := by decide +kernel
theorem dX12_init_320 : decode cX12_init 320 = .ok (.aload_n 0, 1) := by decide +kernel
theorem dX12_init_321 : decode cX12_init 321 = .ok (.sipush 200, 3) := by decide +kernel
theorem dX12_init_324 : decode cX12_init 324 = .ok (.newarray .boolean, 2) := by decide +kernel
theorem dX12_init_326 : decode cX12_init 326 = .ok (.putfield 125, 3) := by decide +kernel
theorem dX12_init_329 : decode cX12_init 329 = .ok (.aload_n 0, 1) := by decide +kernel
theorem dX12_init_330 : decode cX12_init 330 = .ok (.sipush 300, 3) := by decide +kernel
theorem dX12_init_333 : decode cX12_init 333 = .ok (.newarray .int, 2) := by decide +kernel
theorem dX12_init_335 : decode cX12_init 335 = .ok (.putfield 128, 3) := by decide +kernel
theorem dX12_init_338 : decode cX12_init 338 = .ok (.aload_n 0, 1) := by decide +kernel
theorem dX12_init_339 : decode cX12_init 339 = .ok (.sipush 300, 3) := by decide +kernel
theorem dX12_init_342 : decode cX12_init 342 = .ok (.newarray .int, 2) := by decide +kernel
theorem dX12_init_344 : decode cX12_init 344 = .ok (.putfield 131, 3) := by decide +kernel
theorem dX12_init_347 : decode cX12_init 347 = .ok (.aload_n 0, 1) := by decide +kernel
theorem dX12_init_348 : decode cX12_init 348 = .ok (.sipush 300, 3) := by decide +kernel
theorem dX12_init_351 : decode cX12_init 351 = .ok (.newarray .int, 2) := by decide +kernel
theorem dX12_init_353 : decode cX12_init 353 = .ok (.putfield 134, 3) := by decide +kernel
theorem dX12_init_356 : decode cX12_init 356 = .ok (.aload_n 0, 1) := by decide +kernel
theorem dX12_init_357 : decode cX12_init 357 = .ok (.sipush 300, 3) := by decide +kernel
theorem dX12_init_360 : decode cX12_init 360 = .ok (.newarray .int, 2) := by decide +kernel
theorem dX12_init_362 : decode cX12_init 362 = .ok (.putfield 137, 3) := by decide +kernel
theorem dX12_init_365 : decode cX12_init 365 = .ok (.aload_n 0, 1) := by decide +kernel
theorem dX12_init_366 : decode cX12_init 366 = .ok (.sipush 300, 3) := by decide +kernel
theorem dX12_init_369 : decode cX12_init 369 = .ok (.newarray .boolean, 2) := by decide +kernel
theorem dX12_init_371 : decode cX12_init 371 = .ok (.putfield 140, 3) := by decide +kernel
theorem dX12_init_374 : decode cX12_init 374 = .ok (.aload_n 0, 1) := by decide +kernel
theorem dX12_init_375 : decode cX12_init 375 = .ok (.sipush 300, 3) := by decide +kernel
theorem dX12_init_378 : decode cX12_init 378 = .ok (.newarray .int, 2) := by decide +kernel
theorem dX12_init_380 : decode cX12_init 380 = .ok (.putfield 143, 3) := by decide +kernel
theorem dX12_init_383 : decode cX12_init 383 = .ok (.aload_n 0, 1) := by decide +kernel
theorem dX12_init_384 : decode cX12_init 384 = .ok (.sipush 300, 3) := by decide +kernel
theorem dX12_init_387 : decode cX12_init 387 = .ok (.newarray .int, 2) := by decide +kernel
theorem dX12_init_389 : decode cX12_init 389 = .ok (.putfield 146, 3) := by decide +kernel
theorem dX12_init_392 : decode cX12_init 392 = .ok (.aload_n 0, 1) := by decide +kernel
theorem dX12_init_393 : decode cX12_init 393 = .ok (.sipush 300, 3) := by decide +kernel
theorem dX12_init_396 : decode cX12_init 396 = .ok (.newarray .int, 2) := by decide +kernel
theorem dX12_init_398 : decode cX12_init 398 = .ok (.putfield 149, 3) := by decide +kernel
theorem dX12_init_401 : decode cX12_init 401 = .ok (.aload_n 0, 1) := by decide +kernel
theorem dX12_init_402 : decode cX12_init 402 = .ok (.sipush 300, 3) := by decide +kernel
theorem dX12_init_405 : decode cX12_init 405 = .ok (.newarray .boolean, 2) := by decide +kernel
theorem dX12_init_407 : decode cX12_init 407 = .ok (.putfield 152, 3) := by decide +kernel
theorem dX12_init_410 : decode cX12_init 410 = .ok (.aload_n 0, 1) := by decide +kernel
theorem dX12_init_411 : decode cX12_init 411 = .ok (.sipush 2000, 3) := by decide +kernel
theorem dX12_init_414 : decode cX12_init 414 = .ok (.newarray .byte, 2) := by decide +kernel
theorem dX12_init_416 : decode cX12_init 416 = .ok (.putfield 155, 3) := by decide +kernel
theorem dX12_init_419 : decode cX12_init 419 = .ok (.aload_n 0, 1) := by decide +kernel
theorem dX12_init_420 : decode cX12_init 420 = .ok (.bipush 13, 2) := by decide +kernel
theorem dX12_init_422 : decode cX12_init 422 = .ok (.newarray .int, 2) := by decide +kernel
theorem dX12_init_424 : decode cX12_init 424 = .ok (.putfield 158, 3) := by decide +kernel
theorem dX12_init_427 : decode cX12_init 427 = .ok (.aload_n 0, 1) := by decide +kernel
theorem dX12_init_428 : decode cX12_init 428 = .ok (.bipush 13, 2) := by decide +kernel
theorem dX12_init_430 : decode cX12_init 430 = .ok (.newarray .int, 2) := by decide +kernel
theorem dX12_init_432 : decode cX12_init 432 = .ok (.putfield 161, 3) := by decide +kernel
theorem dX12_init_435 : decode cX12_init 435 = .ok (.aload_n 0, 1) := by decide +kernel
theorem dX12_init_436 : decode cX12_init 436 = .ok (.sipush 2000, 3) := by decide +kernel
theorem dX12_init_439 : decode cX12_init 439 = .ok (.newarray .byte, 2) := by decide +kernel
theorem dX12_init_441 : decode cX12_init 441 = .ok (.putfield 164, 3) := by decide +kernel
theorem dX12_init_444 : decode cX12_init 444 = .ok (.aload_n 0, 1) := by decide +kernel
theorem dX12_init_445 : decode cX12_init 445 = .ok (.bipush 16, 2) := by decide +kernel
theorem dX12_init_447 : decode cX12_init 447 = .ok (.newarray .byte, 2) := by decide +kernel
theorem dX12_init_449 : decode cX12_init 449 = .ok (.putfield 167, 3) := by decide +kernel
theorem dX12_init_452 : decode cX12_init 452 = .ok (.aload_n 0, 1) := by decide +kernel
theorem dX12_init_453 : decode cX12_init 453 = .ok (.bipush 44, 2) := by decide +kernel
theorem dX12_init_455 : decode cX12_init 455 = .ok (.newarray .byte, 2) := by decide +kernel
theorem dX12_init_457 : decode cX12_init 457 = .ok (.putfield 170, 3) := by decide +kernel
theorem dX12_init_460 : decode cX12_init 460 = .ok (.aload_n 0, 1) := by decide +kernel
theorem dX12_init_461 : decode cX12_init 461 = .ok (.iconst 5, 1) := by decide +kernel
theorem dX12_init_462 : decode cX12_init 462 = .ok (.newarray .int, 2) := by decide +kernel
theorem dX12_init_464 : decode cX12_init 464 = .ok (.putfield 173, 3) := by decide +kernel
theorem dX12_init_467 : decode cX12_init 467 = .ok (.aload_n 0, 1) := by decide +kernel
theorem dX12_init_468 : decode cX12_init 468 = .ok (.bipush 32, 2) := by decide +kernel
theorem dX12_init_470 : decode cX12_init 470 = .ok (.newarray .byte, 2) := by decide +kernel
theorem dX12_init_472 : decode cX12_init 472 = .ok (.putfield 176, 3) := by decide +kernel
theorem dX12_init_475 : decode cX12_init 475 = .ok (.aload_n 0, 1) := by decide +kernel
theorem dX12_init_476 : decode cX12_init 476 = .ok (.bipush 64, 2) := by decide +kernel
theorem dX12_init_478 : decode cX12_init 478 = .ok (.newarray .int, 2) := by decide +kernel
theorem dX12_init_480 : decode cX12_init 480 = .ok (.putfield 179, 3) := by decide +kernel
theorem dX12_init_483 : decode cX12_init 483 = .ok (.aload_n 0, 1) := by decide +kernel
theorem dX12_init_484 : decode cX12_init 484 = .ok (.sipush 192, 3) := by decide +kernel
theorem dX12_init_487 : decode cX12_init 487 = .ok (.newarray .byte, 2) := by decide +kernel
theorem dX12_init_489 : decode cX12_init 489 = .ok (.putfield 182, 3) := by decide +kernel
theorem dX12_init_492 : decode cX12_init 492 = .ok (.aload_n 0, 1) := by decide +kernel
theorem dX12_init_493 : decode cX12_init 493 = .ok (.bipush 8, 2) := by decide +kernel
theorem dX12_init_495 : decode cX12_init 495 = .ok (.newarray .int, 2) := by decide +kernel
theorem dX12_init_497 : decode cX12_init 497 = .ok (.putfield 185, 3) := by decide +kernel
theorem dX12_init_500 : decode cX12_init 500 = .ok (.return_, 1) := by decide +kernel
theorem dX12_thrown_0 : decode cX12_thrown 0 = .ok (.aload_n 0, 1) := by decide +kernel
theorem dX12_thrown_1 : decode cX12_thrown 1 = .ok (.getfield 188, 3) := by decide +kernel
theorem dX12_thrown_4 : decode cX12_thrown 4 = .ok (.ireturn, 1) := by decide +kernel
theorem dX12_throwsIf_0 : decode cX12_throwsIf 0 = .ok (.iload_n 1, 1) := by decide +kernel
theorem dX12_throwsIf_1 : decode cX12_throwsIf 1 = .ok (.ifCond .eq 8, 3) := by decide +kernel
theorem dX12_throwsIf_4 : decode cX12_throwsIf 4 = .ok (.aload_n 0, 1) := by decide +kernel
theorem dX12_throwsIf_5 : decode cX12_throwsIf 5 = .ok (.iload_n 2, 1) := by decide +kernel
theorem dX12_throwsIf_6 : decode cX12_throwsIf 6 = .ok (.putfield 188, 3) := by decide +kernel
theorem dX12_throwsIf_9 : decode cX12_throwsIf 9 = .ok (.iload_n 1, 1) := by decide +kernel
theorem dX12_throwsIf_10 : decode cX12_throwsIf 10 = .ok (.ireturn, 1) := by decide +kernel
theorem dX12_isLike_0 : decode cX12_isLike 0 = .ok (.iload_n 2, 1) := by decide +kernel
theorem dX12_isLike_1 : decode cX12_isLike 1 = .ok (.iload 5, 2) := by decide +kernel
theorem dX12_isLike_3 : decode cX12_isLike 3 = .ok (.if_icmp .ne 7, 3) := by decide +kernel
theorem dX12_isLike_6 : decode cX12_isLike 6 = .ok (.iconst 1, 1) := by decide +kernel
theorem dX12_isLike_7 : decode cX12_isLike 7 = .ok (.goto 4, 3) := by decide +kernel
theorem dX12_isLike_10 : decode cX12_isLike 10 = .ok (.iconst 0, 1) := by decide +kernel
theorem dX12_isLike_11 : decode cX12_isLike 11 = .ok (.istore 6, 2) := by decide +kernel
theorem dX12_isLike_13 : decode cX12_isLike 13 = .ok (.iconst 0, 1) := by decide +kernel
theorem dX12_isLike_14 : decode cX12_isLike 14 = .ok (.istore 7, 2) := by decide +kernel
theorem dX12_isLike_16 : decode cX12_isLike 16 = .ok (.iload 6, 2) := by decide +kernel
theorem dX12_isLike_18 : decode cX12_isLike 18 = .ok (.ifCond .eq 38, 3) := by decide +kernel
theorem dX12_isLike_21 : decode cX12_isLike 21 = .ok (.iload 7, 2) := by decide +kernel
theorem dX12_isLike_23 : decode cX12_isLike 23 = .ok (.iload_n 2, 1) := by decide +kernel
theorem dX12_isLike_24 : decode cX12_isLike 24 = .ok (.if_icmp .ge 32, 3) := by decide +kernel
theorem dX12_isLike_27 : decode cX12_isLike 27 = .ok (.aload_n 0, 1) := by decide +kernel
theorem dX12_isLike_28 : decode cX12_isLike 28 = .ok (.iload_n 1, 1) := by decide +kernel
theorem dX12_isLike_29 : decode cX12_isLike 29 = .ok (.iload 7, 2) := by decide +kernel
theorem dX12_isLike_31 : decode cX12_isLike 31 = .ok (.iadd, 1) := by decide +kernel
theorem dX12_isLike_32 : decode cX12_isLike 32 = .ok (.baload, 1) := by decide +kernel
theorem dX12_isLike_33 : decode cX12_isLike 33 = .ok (.aload_n 3, 1) := by decide +kernel
theorem dX12_isLike_34 : decode cX12_isLike 34 = .ok (.iload 4, 2) := by decide +kernel
theorem dX12_isLike_36 : decode cX12_isLike 36 = .ok (.iload 7, 2) := by decide +kernel
theorem dX12_isLike_38 : decode cX12_isLike 38 = .ok (.iadd, 1) := by decide +kernel
theorem dX12_isLike_39 : decode cX12_isLike 39 = .ok (.baload, 1) := by decide +kernel
theorem dX12_isLike_40 : decode cX12_isLike 40 = .ok (.if_icmp .ne 7, 3) := by decide +kernel
theorem dX12_isLike_43 : decode cX12_isLike 43 = .ok (.iconst 1, 1) := by decide +kernel
theorem dX12_isLike_44 : decode cX12_isLike 44 = .ok (.goto 4, 3) := by decide +kernel
theorem dX12_isLike_47 : decode cX12_isLike 47 = .ok (.iconst 0, 1) := by decide +kernel
theorem dX12_isLike_48 : decode cX12_isLike 48 = .ok (.istore 6, 2) := by decide +kernel
theorem dX12_isLike_50 : decode cX12_isLike 50 = .ok (.iinc 7 1, 3) := by decide +kernel
theorem dX12_isLike_53 : decode cX12_isLike 53 = .ok (.goto (-37), 3) := by decide +kernel
theorem dX12_isLike_56 : decode cX12_isLike 56 = .ok (.iload 6, 2) := by decide +kernel
theorem dX12_isLike_58 : decode cX12_isLike 58 = .ok (.ireturn, 1) := by decide +kernel
theorem dX12_isText_0 : decode cX12_isText 0 = .ok (.iload_n 2, 1) := by decide +kernel
theorem dX12_isText_1 : decode cX12_isText 1 = .ok (.aload_n 3, 1) := by decide +kernel
theorem dX12_isText_2 : decode cX12_isText 2 = .ok (.invokevirtual 191, 3) := by decide +kernel
theorem dX12_isText_5 : decode cX12_isText 5 = .ok (.if_icmp .ne 7, 3) := by decide +kernel
theorem dX12_isText_8 : decode cX12_isText 8 = .ok (.iconst 1, 1) := by decide +kernel
theorem dX12_isText_9 : decode cX12_isText 9 = .ok (.goto 4, 3) := by decide +kernel
theorem dX12_isText_12 : decode cX12_isText 12 = .ok (.iconst 0, 1) := by decide +kernel
theorem dX12_isText_13 : decode cX12_isText 13 = .ok (.istore 4, 2) := by decide +kernel
theorem dX12_isText_15 : decode cX12_isText 15 = .ok (.iconst 0, 1) := by decide +kernel
theorem dX12_isText_16 : decode cX12_isText 16 = .ok (.istore 5, 2) := by decide +kernel
theorem dX12_isText_18 : decode cX12_isText 18 = .ok (.iload 4, 2) := by decide +kernel
theorem dX12_isText_20 : decode cX12_isText 20 = .ok (.ifCond .eq 41, 3) := by decide +kernel
theorem dX12_isText_23 : decode cX12_isText 23 = .ok (.iload 5, 2) := by decide +kernel
theorem dX12_isText_25 : decode cX12_isText 25 = .ok (.iload_n 2, 1) := by decide +kernel
theorem dX12_isText_26 : decode cX12_isText 26 = .ok (.if_icmp .ge 35, 3) := by decide +kernel
theorem dX12_isText_29 : decode cX12_isText 29 = .ok (.aload_n 0, 1) := by decide +kernel
theorem dX12_isText_30 : decode cX12_isText 30 = .ok (.iload_n 1, 1) := by decide +kernel
theorem dX12_isText_31 : decode cX12_isText 31 = .ok (.iload 5, 2) := by decide +kernel
theorem dX12_isText_33 : decode cX12_isText 33 = .ok (.iadd, 1) := by decide +kernel
theorem dX12_isText_34 : decode cX12_isText 34 = .ok (.baload, 1) := by decide +kernel
theorem dX12_isText_35 : decode cX12_isText 35 = .ok (.sipush 255, 3) := by decide +kernel
theorem dX12_isText_38 : decode cX12_isText 38 = .ok (.iand, 1) := by decide +kernel
theorem dX12_isText_39 : decode cX12_isText 39 = .ok (.aload_n 3, 1) := by decide +kernel
theorem dX12_isText_40 : decode cX12_isText 40 = .ok (.iload 5, 2) := by decide +kernel
theorem dX12_isText_42 : decode cX12_isText 42 = .ok (.invokevirtual 197, 3) := by decide +kernel
theorem dX12_isText_45 : decode cX12_isText 45 = .ok (.if_icmp .ne 7, 3) := by decide +kernel
theorem dX12_isText_48 : decode cX12_isText 48 = .ok (.iconst 1, 1) := by decide +kernel
theorem dX12_isText_49 : decode cX12_isText 49 = .ok (.goto 4, 3) := by decide +kernel
theorem dX12_isText_52 : decode cX12_isText 52 = .ok (.iconst 0, 1) := by decide +kernel
theorem dX12_isText_53 : decode cX12_isText 53 = .ok (.istore 4, 2) := by decide +kernel
theorem dX12_isText_55 : decode cX12_isText 55 = .ok (.iinc 5 1, 3) := by decide +kernel
theorem dX12_isText_58 : decode cX12_isText 58 = .ok (.goto (-40), 3) := by decide +kernel
theorem dX12_isText_61 : decode cX12_isText 61 = .ok (.iload 4, 2) := by decide +kernel
theorem dX12_isText_63 : decode cX12_isText 63 = .ok (.ireturn, 1) := by decide +kernel
theorem dX12_isVisible_0 : decode cX12_isVisible 0 = .ok (.iconst 1, 1) := by decide +kernel
theorem dX12_isVisible_1 : decode cX12_isVisible 1 = .ok (.istore_n 3, 1) := by decide +kernel
theorem dX12_isVisible_2 : decode cX12_isVisible 2 = .ok (.iconst 0, 1) := by decide +kernel
theorem dX12_isVisible_3 : decode cX12_isVisible 3 = .ok (.istore 4, 2) := by decide +kernel
theorem dX12_isVisible_5 : decode cX12_isVisible 5 = .ok (.iload 4, 2) := by decide +kernel
theorem dX12_isVisible_7 : decode cX12_isVisible 7 = .ok (.iload_n 2, 1) := by decide +kernel
theorem dX12_isVisible_8 : decode cX12_isVisible 8 = .ok (.if_icmp .ge 41, 3) := by decide +kernel
theorem dX12_isVisible_11 : decode cX12_isVisible 11 = .ok (.iload_n 3, 1) := by decide +kernel
theorem dX12_isVisible_12 : decode cX12_isVisible 12 = .ok (.ifCond .eq 29, 3) := by decide +kernel
theorem dX12_isVisible_15 : decode cX12_isVisible 15 = .ok (.aload_n 0, 1) := by decide +kernel
theorem dX12_isVisible_16 : decode cX12_isVisible 16 = .ok (.iload_n 1, 1) := by decide +kernel
theorem dX12_isVisible_17 : decode cX12_isVisible 17 = .ok (.iload 4, 2) := by decide +kernel
theorem dX12_isVisible_19 : decode cX12_isVisible 19 = .ok (.iadd, 1) := by decide +kernel
theorem dX12_isVisible_20 : decode cX12_isVisible 20 = .ok (.baload, 1) := by decide +kernel
theorem dX12_isVisible_21 : decode cX12_isVisible 21 = .ok (.bipush 32, 2) := by decide +kernel
theorem dX12_isVisible_23 : decode cX12_isVisible 23 = .ok (.if_icmp .le 18, 3) := by decide +kernel
theorem dX12_isVisible_26 : decode cX12_isVisible 26 = .ok (.aload_n 0, 1) := by decide +kernel
theorem dX12_isVisible_27 : decode cX12_isVisible 27 = .ok (.iload_n 1, 1) := by decide +kernel
theorem dX12_isVisible_28 : decode cX12_isVisible 28 = .ok (.iload 4, 2) := by decide +kernel
theorem dX12_isVisible_30 : decode cX12_isVisible 30 = .ok (.iadd, 1) := by decide +kernel
theorem dX12_isVisible_31 : decode cX12_isVisible 31 = .ok (.baload, 1) := by decide +kernel
theorem dX12_isVisible_32 : decode cX12_isVisible 32 = .ok (.bipush 127, 2) := by decide +kernel
theorem dX12_isVisible_34 : decode cX12_isVisible 34 = .ok (.if_icmp .ge 7, 3) := by decide +kernel
theorem dX12_isVisible_37 : decode cX12_isVisible 37 = .ok (.iconst 1, 1) := by decide +kernel
theorem dX12_isVisible_38 : decode cX12_isVisible 38 = .ok (.goto 4, 3) := by decide +kernel
theorem dX12_isVisible_41 : decode cX12_isVisible 41 = .ok (.iconst 0, 1) := by decide +kernel
theorem dX12_isVisible_42 : decode cX12_isVisible 42 = .ok (.istore_n 3, 1) := by decide +kernel
theorem dX12_isVisible_43 : decode cX12_isVisible 43 = .ok (.iinc 4 1, 3) := by decide +kernel
theorem dX12_isVisible_46 : decode cX12_isVisible 46 = .ok (.goto (-41), 3) := by decide +kernel
theorem dX12_isVisible_49 : decode cX12_isVisible 49 = .ok (.iload_n 3, 1) := by decide +kernel
theorem dX12_isVisible_50 : decode cX12_isVisible 50 = .ok (.ireturn, 1) := by decide +kernel
theorem dX12_isLetterOrDigit_0 : decode cX12_isLetterOrDigit 0 = .ok (.iload_n 0, 1) := by decide +kernel
theorem dX12_isLetterOrDigit_1 : decode cX12_isLetterOrDigit 1 = .ok (.bipush 48, 2) := by decide +kernel
theorem dX12_isLetterOrDigit_3 : decode cX12_isLetterOrDigit 3 = .ok (.if_icmp .lt 9, 3) := by decide +kernel
theorem dX12_isLetterOrDigit_6 : decode cX12_isLetterOrDigit 6 = .ok (.iload_n 0, 1) := by decide +kernel
theorem dX12_isLetterOrDigit_7 : decode cX12_isLetterOrDigit 7 = .ok (.bipush 57, 2) := by decide +kernel
theorem dX12_isLetterOrDigit_9 : decode cX12_isLetterOrDigit 9 = .ok (.if_icmp .le 27, 3) := by decide +kernel
theorem dX12_isLetterOrDigit_12 : decode cX12_isLetterOrDigit 12 = .ok (.iload_n 0, 1) := by decide +kernel
theorem dX12_isLetterOrDigit_13 : decode cX12_isLetterOrDigit 13 = .ok (.bipush 65, 2) := by decide +kernel
theorem dX12_isLetterOrDigit_15 : decode cX12_isLetterOrDigit 15 = .ok (.if_icmp .lt 9, 3) := by decide +kernel
theorem dX12_isLetterOrDigit_18 : decode cX12_isLetterOrDigit 18 = .ok (.iload_n 0, 1) := by decide +kernel
theorem dX12_isLetterOrDigit_19 : decode cX12_isLetterOrDigit 19 = .ok (.bipush 90, 2) := by decide +kernel
theorem dX12_isLetterOrDigit_21 : decode cX12_isLetterOrDigit 21 = .ok (.if_icmp .le 15, 3) := by decide +kernel
theorem dX12_isLetterOrDigit_24 : decode cX12_isLetterOrDigit 24 = .ok (.iload_n 0, 1) := by decide +kernel
theorem dX12_isLetterOrDigit_25 : decode cX12_isLetterOrDigit 25 = .ok (.bipush 97, 2) := by decide +kernel
theorem dX12_isLetterOrDigit_27 : decode cX12_isLetterOrDigit 27 = .ok (.if_icmp .lt 13, 3) := by decide +kernel
theorem dX12_isLetterOrDigit_30 : decode cX12_isLetterOrDigit 30 = .ok (.iload_n 0, 1) := by decide +kernel
theorem dX12_isLetterOrDigit_31 : decode cX12_isLetterOrDigit 31 = .ok (.bipush 122, 2) := by decide +kernel
theorem dX12_isLetterOrDigit_33 : decode cX12_isLetterOrDigit 33 = .ok (.if_icmp .gt 7, 3) := by decide +kernel
theorem dX12_isLetterOrDigit_36 : decode cX12_isLetterOrDigit 36 = .ok (.iconst 1, 1) := by decide +kernel
theorem dX12_isLetterOrDigit_37 : decode cX12_isLetterOrDigit 37 = .ok (.goto 4, 3) := by decide +kernel
theorem dX12_isLetterOrDigit_40 : decode cX12_isLetterOrDigit 40 = .ok (.iconst 0, 1) := by decide +kernel
theorem dX12_isLetterOrDigit_41 : decode cX12_isLetterOrDigit 41 = .ok (.ireturn, 1) := by decide +kernel
theorem dX12_hex_0 : decode cX12_hex 0 = .ok (.iload_n 0, 1) := by decide +kernel
theorem dX12_hex_1 : decode cX12_hex 1 = .ok (.bipush 48, 2) := by decide +kernel
theorem dX12_hex_3 : decode cX12_hex 3 = .ok (.if_icmp .lt 16, 3) := by decide +kernel
theorem dX12_hex_6 : decode cX12_hex 6 = .ok (.iload_n 0, 1) := by decide +kernel
theorem dX12_hex_7 : decode cX12_hex 7 = .ok (.bipush 57, 2) := by decide +kernel
theorem dX12_hex_9 : decode cX12_hex 9 = .ok (.if_icmp .gt 10, 3) := by decide +kernel
theorem dX12_hex_12 : decode cX12_hex 12 = .ok (.iload_n 0, 1) := by decide +kernel
theorem dX12_hex_13 : decode cX12_hex 13 = .ok (.bipush 48, 2) := by decide +kernel
theorem dX12_hex_15 : decode cX12_hex 15 = .ok (.isub, 1) := by decide +kernel
theorem dX12_hex_16 : decode cX12_hex 16 = .ok (.goto 48, 3) := by decide +kernel
theorem dX12_hex_19 : decode cX12_hex 19 = .ok (.iload_n 0, 1) := by decide +kernel
theorem dX12_hex_20 : decode cX12_hex 20 = .ok (.bipush 65, 2) := by decide +kernel
theorem dX12_hex_22 : decode cX12_hex 22 = .ok (.if_icmp .lt 19, 3) := by decide +kernel
theorem dX12_hex_25 : decode cX12_hex 25 = .ok (.iload_n 0, 1) := by decide +kernel
theorem dX12_hex_26 : decode cX12_hex 26 = .ok (.bipush 70, 2) := by decide +kernel
theorem dX12_hex_28 : decode cX12_hex 28 = .ok (.if_icmp .gt 13, 3) := by decide +kernel
theorem dX12_hex_31 : decode cX12_hex 31 = .ok (.iload_n 0, 1) := by decide +kernel
theorem dX12_hex_32 : decode cX12_hex 32 = .ok (.bipush 65, 2) := by decide +kernel
theorem dX12_hex_34 : decode cX12_hex 34 = .ok (.isub, 1) := by decide +kernel
theorem dX12_hex_35 : decode cX12_hex 35 = .ok (.bipush 10, 2) := by decide +kernel
theorem dX12_hex_37 : decode cX12_hex 37 = .ok (.iadd, 1) := by decide +kernel
theorem dX12_hex_38 : decode cX12_hex 38 = .ok (.goto 26, 3) := by decide +kernel
theorem dX12_hex_41 : decode cX12_hex 41 = .ok (.iload_n 0, 1) := by decide +kernel
theorem dX12_hex_42 : decode cX12_hex 42 = .ok (.bipush 97, 2) := by decide +kernel
theorem dX12_hex_44 : decode cX12_hex 44 = .ok (.if_icmp .lt 19, 3) := by decide +kernel
theorem dX12_hex_47 : decode cX12_hex 47 = .ok (.iload_n 0, 1) := by decide +kernel
theorem dX12_hex_48 : decode cX12_hex 48 = .ok (.bipush 102, 2) := by decide +kernel
theorem dX12_hex_50 : decode cX12_hex 50 = .ok (.if_icmp .gt 13, 3) := by decide +kernel
theorem dX12_hex_53 : decode cX12_hex 53 = .ok (.iload_n 0, 1) := by decide +kernel
theorem dX12_hex_54 : decode cX12_hex 54 = .ok (.bipush 97, 2) := by decide +kernel
theorem dX12_hex_56 : decode cX12_hex 56 = .ok (.isub, 1) := by decide +kernel
theorem dX12_hex_57 : decode cX12_hex 57 = .ok (.bipush 10, 2) := by decide +kernel
theorem dX12_hex_59 : decode cX12_hex 59 = .ok (.iadd, 1) := by decide +kernel
theorem dX12_hex_60 : decode cX12_hex 60 = .ok (.goto 4, 3) := by decide +kernel
theorem dX12_hex_63 : decode cX12_hex 63 = .ok (.iconst (-1), 1) := by decide +kernel
theorem dX12_hex_64 : decode cX12_hex 64 = .ok (.ireturn, 1) := by decide +kernel
theorem dX12_sign_0 : decode cX12_sign 0 = .ok (.iload_n 0, 1) := by decide +kernel
theorem dX12_sign_1 : decode cX12_sign 1 = .ok (.bipush 26, 2) := by decide +kernel
theorem dX12_sign_3 : decode cX12_sign 3 = .ok (.if_icmp .ge 10, 3) := by decide +kernel
theorem dX12_sign_6 : decode cX12_sign 6 = .ok (.bipush 65, 2) := by decide +kernel
theorem dX12_sign_8 : decode cX12_sign 8 = .ok (.iload_n 0, 1) := by decide +kernel
theorem dX12_sign_9 : decode cX12_sign 9 = .ok (.iadd, 1) := by decide +kernel
theorem dX12_sign_10 : decode cX12_sign 10 = .ok (.goto 48, 3) := by decide +kernel
theorem dX12_sign_13 : decode cX12_sign 13 = .ok (.iload_n 0, 1) := by decide +kernel
theorem dX12_sign_14 : decode cX12_sign 14 = .ok (.bipush 52, 2) := by decide +kernel
theorem dX12_sign_16 : decode cX12_sign 16 = .ok (.if_icmp .ge 13, 3) := by decide +kernel
theorem dX12_sign_19 : decode cX12_sign 19 = .ok (.bipush 97, 2) := by decide +kernel
theorem dX12_sign_21 : decode cX12_sign 21 = .ok (.iload_n 0, 1) := by decide +kernel
theorem dX12_sign_22 : decode cX12_sign 22 = .ok (.iadd, 1) := by decide +kernel
theorem dX12_sign_23 : decode cX12_sign 23 = .ok (.bipush 26, 2) := by decide +kernel
theorem dX12_sign_25 : decode cX12_sign 25 = .ok (.isub, 1) := by decide +kernel
theorem dX12_sign_26 : decode cX12_sign 26 = .ok (.goto 32, 3) := by decide +kernel
theorem dX12_sign_29 : decode cX12_sign 29 = .ok (.iload_n 0, 1) := by decide +kernel
theorem dX12_sign_30 : decode cX12_sign 30 = .ok (.bipush 62, 2) := by decide +kernel
theorem dX12_sign_32 : decode cX12_sign 32 = .ok (.if_icmp .ge 13, 3) := by decide +kernel
theorem dX12_sign_35 : decode cX12_sign 35 = .ok (.bipush 48, 2) := by decide +kernel
theorem dX12_sign_37 : decode cX12_sign 37 = .ok (.iload_n 0, 1) := by decide +kernel
theorem dX12_sign_38 : decode cX12_sign 38 = .ok (.iadd, 1) := by decide +kernel
theorem dX12_sign_39 : decode cX12_sign 39 = .ok (.bipush 52, 2) := by decide +kernel
theorem dX12_sign_41 : decode cX12_sign 41 = .ok (.isub, 1) := by decide +kernel
theorem dX12_sign_42 : decode cX12_sign 42 = .ok (.goto 16, 3) := by decide +kernel
theorem dX12_sign_45 : decode cX12_sign 45 = .ok (.iload_n 0, 1) := by decide +kernel
theorem dX12_sign_46 : decode cX12_sign 46 = .ok (.bipush 62, 2) := by decide +kernel
theorem dX12_sign_48 : decode cX12_sign 48 = .ok (.if_icmp .ne 8, 3) := by decide +kernel
theorem dX12_sign_51 : decode cX12_sign 51 = .ok (.bipush 45, 2) := by decide +kernel
theorem dX12_sign_53 : decode cX12_sign 53 = .ok (.goto 5, 3) := by decide +kernel
theorem dX12_sign_56 : decode cX12_sign 56 = .ok (.bipush 95, 2) := by decide +kernel
theorem dX12_sign_58 : decode cX12_sign 58 = .ok (.ireturn, 1) := by decide +kernel
theorem dX12_coded_0 : decode cX12_coded 0 = .ok (.bipush 8, 2) := by decide +kernel
theorem dX12_coded_2 : decode cX12_coded 2 = .ok (.iload_n 1, 1) := by decide +kernel
theorem dX12_coded_3 : decode cX12_coded 3 = .ok (.imul, 1) := by decide +kernel
theorem dX12_coded_4 : decode cX12_coded 4 = .ok (.iconst 5, 1) := by decide +kernel
theorem dX12_coded_5 : decode cX12_coded 5 = .ok (.iadd, 1) := by decide +kernel
theorem dX12_coded_6 : decode cX12_coded 6 = .ok (.bipush 6, 2) := by decide +kernel
theorem dX12_coded_8 : decode cX12_coded 8 = .ok (.idiv, 1) := by decide +kernel
theorem dX12_coded_9 : decode cX12_coded 9 = .ok (.istore_n 3, 1) := by decide +kernel
theorem dX12_coded_10 : decode cX12_coded 10 = .ok (.iconst 0, 1) := by decide +kernel
theorem dX12_coded_11 : decode cX12_coded 11 = .ok (.istore 4, 2) := by decide +kernel
theorem dX12_coded_13 : decode cX12_coded 13 = .ok (.iload 4, 2) := by decide +kernel
theorem dX12_coded_15 : decode cX12_coded 15 = .ok (.iload_n 3, 1) := by decide +kernel
theorem dX12_coded_16 : decode cX12_coded 16 = .ok (.if_icmp .ge 86, 3) := by decide +kernel
theorem dX12_coded_19 : decode cX12_coded 19 = .ok (.iconst 0, 1) := by decide +kernel
theorem dX12_coded_20 : decode cX12_coded 20 = .ok (.istore 5, 2) := by decide +kernel
theorem dX12_coded_22 : decode cX12_coded 22 = .ok (.bipush 6, 2) := by decide +kernel
theorem dX12_coded_24 : decode cX12_coded 24 = .ok (.iload 4, 2) := by decide +kernel
theorem dX12_coded_26 : decode cX12_coded 26 = .ok (.imul, 1) := by decide +kernel
theorem dX12_coded_27 : decode cX12_coded 27 = .ok (.istore 6, 2) := by decide +kernel
theorem dX12_coded_29 : decode cX12_coded 29 = .ok (.iload 6, 2) := by decide +kernel
theorem dX12_coded_31 : decode cX12_coded 31 = .ok (.bipush 6, 2) := by decide +kernel
theorem dX12_coded_33 : decode cX12_coded 33 = .ok (.iload 4, 2) := by decide +kernel
theorem dX12_coded_35 : decode cX12_coded 35 = .ok (.imul, 1) := by decide +kernel
theorem dX12_coded_36 : decode cX12_coded 36 = .ok (.bipush 6, 2) := by decide +kernel
theorem dX12_coded_38 : decode cX12_coded 38 = .ok (.iadd, 1) := by decide +kernel
theorem dX12_coded_39 : decode cX12_coded 39 = .ok (.if_icmp .ge 47, 3) := by decide +kernel
theorem dX12_coded_42 : decode cX12_coded 42 = .ok (.iconst 2, 1) := by decide +kernel
theorem dX12_coded_43 : decode cX12_coded 43 = .ok (.iload 5, 2) := by decide +kernel
theorem dX12_coded_45 : decode cX12_coded 45 = .ok (.imul, 1) := by decide +kernel
theorem dX12_coded_46 : decode cX12_coded 46 = .ok (.iload 6, 2) := by decide +kernel
theorem dX12_coded_48 : decode cX12_coded 48 = .ok (.bipush 8, 2) := by decide +kernel
theorem dX12_coded_50 : decode cX12_coded 50 = .ok (.iload_n 1, 1) := by decide +kernel
theorem dX12_coded_51 : decode cX12_coded 51 = .ok (.imul, 1) := by decide +kernel
theorem dX12_coded_52 : decode cX12_coded 52 = .ok (.if_icmp .ge 24, 3) := by decide +kernel
theorem dX12_coded_55 : decode cX12_coded 55 = .ok (.aload_n 0, 1) := by decide +kernel
theorem dX12_coded_56 : decode cX12_coded 56 = .ok (.iload 6, 2) := by decide +kernel
theorem dX12_coded_58 : decode cX12_coded 58 = .ok (.bipush 8, 2) := by decide +kernel
theorem dX12_coded_60 : decode cX12_coded 60 = .ok (.idiv, 1) := by decide +kernel
theorem dX12_coded_61 : decode cX12_coded 61 = .ok (.baload, 1) := by decide +kernel
theorem dX12_coded_62 : decode cX12_coded 62 = .ok (.bipush 7, 2) := by decide +kernel
theorem dX12_coded_64 : decode cX12_coded 64 = .ok (.iload 6, 2) := by decide +kernel
theorem dX12_coded_66 : decode cX12_coded 66 = .ok (.bipush 8, 2) := by decide +kernel
theorem dX12_coded_68 : decode cX12_coded 68 = .ok (.irem, 1) := by decide +kernel
theorem dX12_coded_69 : decode cX12_coded 69 = .ok (.isub, 1) := by decide +kernel
theorem dX12_coded_70 : decode cX12_coded 70 = .ok (.ishr, 1) := by decide +kernel
theorem dX12_coded_71 : decode cX12_coded 71 = .ok (.iconst 1, 1) := by decide +kernel
theorem dX12_coded_72 : decode cX12_coded 72 = .ok (.iand, 1) := by decide +kernel
theorem dX12_coded_73 : decode cX12_coded 73 = .ok (.goto 4, 3) := by decide +kernel
theorem dX12_coded_76 : decode cX12_coded 76 = .ok (.iconst 0, 1) := by decide +kernel
theorem dX12_coded_77 : decode cX12_coded 77 = .ok (.iadd, 1) := by decide +kernel
theorem dX12_coded_78 : decode cX12_coded 78 = .ok (.istore 5, 2) := by decide +kernel
theorem dX12_coded_80 : decode cX12_coded 80 = .ok (.iinc 6 1, 3) := by decide +kernel
theorem dX12_coded_83 : decode cX12_coded 83 = .ok (.goto (-54), 3) := by decide +kernel
theorem dX12_coded_86 : decode cX12_coded 86 = .ok (.aload_n 2, 1) := by decide +kernel
theorem dX12_coded_87 : decode cX12_coded 87 = .ok (.iload 4, 2) := by decide +kernel
theorem dX12_coded_89 : decode cX12_coded 89 = .ok (.iload 5, 2) := by decide +kernel
theorem dX12_coded_91 : decode cX12_coded 91 = .ok (.invokestatic 201, 3) := by decide +kernel
theorem dX12_coded_94 : decode cX12_coded 94 = .ok (.i2b, 1) := by decide +kernel
theorem dX12_coded_95 : decode cX12_coded 95 = .ok (.bastore, 1) := by decide +kernel
theorem dX12_coded_96 : decode cX12_coded 96 = .ok (.iinc 4 1, 3) := by decide +kernel
theorem dX12_coded_99 : decode cX12_coded 99 = .ok (.goto (-86), 3) := by decide +kernel
theorem dX12_coded_102 : decode cX12_coded 102 = .ok (.iload_n 3, 1) := by decide +kernel
theorem dX12_coded_103 : decode cX12_coded 103 = .ok (.ireturn, 1) := by decide +kernel
theorem dX12_known_0 : decode cX12_known 0 = .ok (.iconst 0, 1) := by decide +kernel
theorem dX12_known_1 : decode cX12_known 1 = .ok (.istore_n 2, 1) := by decide +kernel
theorem dX12_known_2 : decode cX12_known 2 = .ok (.iload_n 2, 1) := by decide +kernel
theorem dX12_known_3 : decode cX12_known 3 = .ok (.bipush 13, 2) := by decide +kernel
theorem dX12_known_5 : decode cX12_known 5 = .ok (.if_icmp .ge 24, 3) := by decide +kernel
theorem dX12_known_8 : decode cX12_known 8 = .ok (.aload_n 0, 1) := by decide +kernel
theorem dX12_known_9 : decode cX12_known 9 = .ok (.iconst 0, 1) := by decide +kernel
theorem dX12_known_10 : decode cX12_known 10 = .ok (.iload_n 1, 1) := by decide +kernel
theorem dX12_known_11 : decode cX12_known 11 = .ok (.iload_n 2, 1) := by decide +kernel
theorem dX12_known_12 : decode cX12_known 12 = .ok (.invokestatic 205, 3) := by decide +kernel
theorem dX12_known_15 : decode cX12_known 15 = .ok (.invokestatic 209, 3) := by decide +kernel
theorem dX12_known_18 : decode cX12_known 18 = .ok (.ifCond .eq 5, 3) := by decide +kernel
theorem dX12_known_21 : decode cX12_known 21 = .ok (.iload_n 2, 1) := by decide +kernel
theorem dX12_known_22 : decode cX12_known 22 = .ok (.ireturn, 1) := by decide +kernel
theorem dX12_known_23 : decode cX12_known 23 = .ok (.iinc 2 1, 3) := by decide +kernel
theorem dX12_known_26 : decode cX12_known 26 = .ok (.goto (-24), 3) := by decide +kernel
theorem dX12_known_29 : decode cX12_known 29 = .ok (.iconst (-1), 1) := by decide +kernel
theorem dX12_known_30 : decode cX12_known 30 = .ok (.ireturn, 1) := by decide +kernel
theorem dX12_word_0 : decode cX12_word 0 = .ok (.iload_n 0, 1) := by decide +kernel
theorem dX12_word_1 : decode cX12_word 1 = .ok (.tableswitch 99 0 11 #[63, 66, 69, 72, 75, 78, 81, 84, 87, 90, 93, 96], 63) := by decide +kernel
theorem dX12_word_64 : decode cX12_word 64 = .ok (.ldc 213, 2) := by decide +kernel
theorem dX12_word_66 : decode cX12_word 66 = .ok (.areturn, 1) := by decide +kernel
theorem dX12_word_67 : decode cX12_word 67 = .ok (.ldc 215, 2) := by decide +kernel
theorem dX12_word_69 : decode cX12_word 69 = .ok (.areturn, 1) := by decide +kernel
theorem dX12_word_70 : decode cX12_word 70 = .ok (.ldc 217, 2) := by decide +kernel
theorem dX12_word_72 : decode cX12_word 72 = .ok (.areturn, 1) := by decide +kernel
theorem dX12_word_73 : decode cX12_word 73 = .ok (.ldc 219, 2) := by decide +kernel
theorem dX12_word_75 : decode cX12_word 75 = .ok (.areturn, 1) := by decide +kernel
theorem dX12_word_76 : decode cX12_word 76 = .ok (.ldc 221, 2) := by decide +kernel
theorem dX12_word_78 : decode cX12_word 78 = .ok (.areturn, 1) := by decide +kernel
theorem dX12_word_79 : decode cX12_word 79 = .ok (.ldc 223, 2) := by decide +kernel
theorem dX12_word_81 : decode cX12_word 81 = .ok (.areturn, 1) := by decide +kernel
theorem dX12_word_82 : decode cX12_word 82 = .ok (.ldc 225, 2) := by decide +kernel
theorem dX12_word_84 : decode cX12_word 84 = .ok (.areturn, 1) := by decide +kernel
theorem dX12_word_85 : decode cX12_word 85 = .ok (.ldc 227, 2) := by decide +kernel
theorem dX12_word_87 : decode cX12_word 87 = .ok (.areturn, 1) := by decide +kernel
theorem dX12_word_88 : decode cX12_word 88 = .ok (.ldc 229, 2) := by decide +kernel
theorem dX12_word_90 : decode cX12_word 90 = .ok (.areturn, 1) := by decide +kernel
theorem dX12_word_91 : decode cX12_word 91 = .ok (.ldc 231, 2) := by decide +kernel
theorem dX12_word_93 : decode cX12_word 93 = .ok (.areturn, 1) := by decide +kernel
theorem dX12_word_94 : decode cX12_word 94 = .ok (.ldc 233, 2) := by decide +kernel
theorem dX12_word_96 : decode cX12_word 96 = .ok (.areturn, 1) := by decide +kernel
theorem dX12_word_97 : decode cX12_word 97 = .ok (.ldc 235, 2) := by decide +kernel
theorem dX12_word_99 : decode cX12_word 99 = .ok (.areturn, 1) := by decide +kernel
theorem dX12_word_100 : decode cX12_word 100 = .ok (.ldc 237, 2) := by decide +kernel
theorem dX12_word_102 : decode cX12_word 102 = .ok (.areturn, 1) := by decide +kernel
theorem dX12_decode_0 : decode cX12_decode 0 = .ok (.aload_n 0, 1) := by decide +kernel
theorem dX12_decode_1 : decode cX12_decode 1 = .ok (.getfield 9, 3) := by decide +kernel
theorem dX12_decode_4 : decode cX12_decode 4 = .ok (.iload_n 1, 1) := by decide +kernel
theorem dX12_decode_5 : decode cX12_decode 5 = .ok (.baload, 1) := by decide +kernel
theorem dX12_decode_6 : decode cX12_decode 6 = .ok (.istore_n 3, 1) := by decide +kernel
theorem dX12_decode_7 : decode cX12_decode 7 = .ok (.aload_n 0, 1) := by decide +kernel
theorem dX12_decode_8 : decode cX12_decode 8 = .ok (.iconst 1, 1) := by decide +kernel
theorem dX12_decode_9 : decode cX12_decode 9 = .ok (.putfield 239, 3) := by decide +kernel
theorem dX12_decode_12 : decode cX12_decode 12 = .ok (.iload_n 3, 1) := by decide +kernel
theorem dX12_decode_13 : decode cX12_decode 13 = .ok (.bipush 43, 2) := by decide +kernel
theorem dX12_decode_15 : decode cX12_decode 15 = .ok (.if_icmp .ne 6, 3) := by decide +kernel
theorem dX12_decode_18 : decode cX12_decode 18 = .ok (.bipush 32, 2) := by decide +kernel
theorem dX12_decode_20 : decode cX12_decode 20 = .ok (.ireturn, 1) := by decide +kernel
theorem dX12_decode_21 : decode cX12_decode 21 = .ok (.iload_n 3, 1) := by decide +kernel
theorem dX12_decode_22 : decode cX12_decode 22 = .ok (.bipush 37, 2) := by decide +kernel
theorem dX12_decode_24 : decode cX12_decode 24 = .ok (.if_icmp .eq 21, 3) := by decide +kernel
theorem dX12_decode_27 : decode cX12_decode 27 = .ok (.iload_n 3, 1) := by decide +kernel
theorem dX12_decode_28 : decode cX12_decode 28 = .ok (.bipush 32, 2) := by decide +kernel
theorem dX12_decode_30 : decode cX12_decode 30 = .ok (.if_icmp .le 13, 3) := by decide +kernel
theorem dX12_decode_33 : decode cX12_decode 33 = .ok (.iload_n 3, 1) := by decide +kernel
theorem dX12_decode_34 : decode cX12_decode 34 = .ok (.bipush 127, 2) := by decide +kernel
theorem dX12_decode_36 : decode cX12_decode 36 = .ok (.if_icmp .ge 7, 3) := by decide +kernel
theorem dX12_decode_39 : decode cX12_decode 39 = .ok (.iload_n 3, 1) := by decide +kernel
theorem dX12_decode_40 : decode cX12_decode 40 = .ok (.goto 4, 3) := by decide +kernel
theorem dX12_decode_43 : decode cX12_decode 43 = .ok (.iconst (-1), 1) := by decide +kernel
theorem dX12_decode_44 : decode cX12_decode 44 = .ok (.ireturn, 1) := by decide +kernel
theorem dX12_decode_45 : decode cX12_decode 45 = .ok (.aload_n 0, 1) := by decide +kernel
theorem dX12_decode_46 : decode cX12_decode 46 = .ok (.iconst 3, 1) := by decide +kernel
theorem dX12_decode_47 : decode cX12_decode 47 = .ok (.putfield 239, 3) := by decide +kernel
theorem dX12_decode_50 : decode cX12_decode 50 = .ok (.iload_n 1, 1) := by decide +kernel
theorem dX12_decode_51 : decode cX12_decode 51 = .ok (.iconst 1, 1) := by decide +kernel
theorem dX12_decode_52 : decode cX12_decode 52 = .ok (.iadd, 1) := by decide +kernel
theorem dX12_decode_53 : decode cX12_decode 53 = .ok (.iload_n 2, 1) := by decide +kernel
theorem dX12_decode_54 : decode cX12_decode 54 = .ok (.if_icmp .ge 17, 3) := by decide +kernel
theorem dX12_decode_57 : decode cX12_decode 57 = .ok (.aload_n 0, 1) := by decide +kernel
theorem dX12_decode_58 : decode cX12_decode 58 = .ok (.getfield 9, 3) := by decide +kernel
theorem dX12_decode_61 : decode cX12_decode 61 = .ok (.iload_n 1, 1) := by decide +kernel
theorem dX12_decode_62 : decode cX12_decode 62 = .ok (.iconst 1, 1) := by decide +kernel
theorem dX12_decode_63 : decode cX12_decode 63 = .ok (.iadd, 1) := by decide +kernel
theorem dX12_decode_64 : decode cX12_decode 64 = .ok (.baload, 1) := by decide +kernel
theorem dX12_decode_65 : decode cX12_decode 65 = .ok (.invokestatic 242, 3) := by decide +kernel
theorem dX12_decode_68 : decode cX12_decode 68 = .ok (.goto 4, 3) := by decide +kernel
theorem dX12_decode_71 : decode cX12_decode 71 = .ok (.iconst (-1), 1) := by decide +kernel
theorem dX12_decode_72 : decode cX12_decode 72 = .ok (.istore 4, 2) := by decide +kernel
theorem dX12_decode_74 : decode cX12_decode 74 = .ok (.iload_n 1, 1) := by decide +kernel
theorem dX12_decode_75 : decode cX12_decode 75 = .ok (.iconst 2, 1) := by decide +kernel
theorem dX12_decode_76 : decode cX12_decode 76 = .ok (.iadd, 1) := by decide +kernel
theorem dX12_decode_77 : decode cX12_decode 77 = .ok (.iload_n 2, 1) := by decide +kernel
theorem dX12_decode_78 : decode cX12_decode 78 = .ok (.if_icmp .ge 17, 3) := by decide +kernel
theorem dX12_decode_81 : decode cX12_decode 81 = .ok (.aload_n 0, 1) := by decide +kernel
theorem dX12_decode_82 : decode cX12_decode 82 = .ok (.getfield 9, 3) := by decide +kernel
theorem dX12_decode_85 : decode cX12_decode 85 = .ok (.iload_n 1, 1) := by decide +kernel
theorem dX12_decode_86 : decode cX12_decode 86 = .ok (.iconst 2, 1) := by decide +kernel
theorem dX12_decode_87 : decode cX12_decode 87 = .ok (.iadd, 1) := by decide +kernel
theorem dX12_decode_88 : decode cX12_decode 88 = .ok (.baload, 1) := by decide +kernel
theorem dX12_decode_89 : decode cX12_decode 89 = .ok (.invokestatic 242, 3) := by decide +kernel
theorem dX12_decode_92 : decode cX12_decode 92 = .ok (.goto 4, 3) := by decide +kernel
theorem dX12_decode_95 : decode cX12_decode 95 = .ok (.iconst (-1), 1) := by decide +kernel
theorem dX12_decode_96 : decode cX12_decode 96 = .ok (.istore 5, 2) := by decide +kernel
theorem dX12_decode_98 : decode cX12_decode 98 = .ok (.iload 4, 2) := by decide +kernel
theorem dX12_decode_100 : decode cX12_decode 100 = .ok (.ifCond .lt 8, 3) := by decide +kernel
theorem dX12_decode_103 : decode cX12_decode 103 = .ok (.iload 5, 2) := by decide +kernel
theorem dX12_decode_105 : decode cX12_decode 105 = .ok (.ifCond .ge 7, 3) := by decide +kernel
theorem dX12_decode_108 : decode cX12_decode 108 = .ok (.iconst (-1), 1) := by decide +kernel
theorem dX12_decode_109 : decode cX12_decode 109 = .ok (.goto 11, 3) := by decide +kernel
theorem dX12_decode_112 : decode cX12_decode 112 = .ok (.bipush 16, 2) := by decide +kernel
theorem dX12_decode_114 : decode cX12_decode 114 = .ok (.iload 4, 2) := by decide +kernel
theorem dX12_decode_116 : decode cX12_decode 116 = .ok (.imul, 1) := by decide +kernel
theorem dX12_decode_117 : decode cX12_decode 117 = .ok (.iload 5, 2) := by decide +kernel
theorem dX12_decode_119 : decode cX12_decode 119 = .ok (.iadd, 1) := by decide +kernel
theorem dX12_decode_120 : decode cX12_decode 120 = .ok (.ireturn, 1) := by decide +kernel
theorem dX12_isForm_0 : decode cX12_isForm 0 = .ok (.iconst 0, 1) := by decide +kernel
theorem dX12_isForm_1 : decode cX12_isForm 1 = .ok (.istore_n 2, 1) := by decide +kernel
theorem dX12_isForm_2 : decode cX12_isForm 2 = .ok (.iload_n 2, 1) := by decide +kernel
theorem dX12_isForm_3 : decode cX12_isForm 3 = .ok (.bipush 13, 2) := by decide +kernel
theorem dX12_isForm_5 : decode cX12_isForm 5 = .ok (.if_icmp .ge 16, 3) := by decide +kernel
theorem dX12_isForm_8 : decode cX12_isForm 8 = .ok (.aload_n 0, 1) := by decide +kernel
theorem dX12_isForm_9 : decode cX12_isForm 9 = .ok (.getfield 161, 3) := by decide +kernel
theorem dX12_isForm_12 : decode cX12_isForm 12 = .ok (.iload_n 2, 1) := by decide +kernel
theorem dX12_isForm_13 : decode cX12_isForm 13 = .ok (.iconst (-1), 1) := by decide +kernel
theorem dX12_isForm_14 : decode cX12_isForm 14 = .ok (.iastore, 1) := by decide +kernel
theorem dX12_isForm_15 : decode cX12_isForm 15 = .ok (.iinc 2 1, 3) := by decide +kernel
theorem dX12_isForm_18 : decode cX12_isForm 18 = .ok (.goto (-16), 3) := by decide +kernel
theorem dX12_isForm_21 : decode cX12_isForm 21 = .ok (.iconst 0, 1) := by decide +kernel
theorem dX12_isForm_22 : decode cX12_isForm 22 = .ok (.istore_n 2, 1) := by decide +kernel
theorem dX12_isForm_23 : decode cX12_isForm 23 = .ok (.iconst 0, 1) := by decide +kernel
theorem dX12_isForm_24 : decode cX12_isForm 24 = .ok (.istore_n 3, 1) := by decide +kernel
theorem dX12_isForm_25 : decode cX12_isForm 25 = .ok (.iconst 0, 1) := by decide +kernel
theorem dX12_isForm_26 : decode cX12_isForm 26 = .ok (.istore 4, 2) := by decide +kernel
theorem dX12_isForm_28 : decode cX12_isForm 28 = .ok (.iload 4, 2) := by decide +kernel
theorem dX12_isForm_30 : decode cX12_isForm 30 = .ok (.iload_n 1, 1) := by decide +kernel
theorem dX12_isForm_31 : decode cX12_isForm 31 = .ok (.if_icmp .ge 74, 3) := by decide +kernel
theorem dX12_isForm_34 : decode cX12_isForm 34 = .ok (.iload 4, 2) := by decide +kernel
theorem dX12_isForm_36 : decode cX12_isForm 36 = .ok (.istore 5, 2) := by decide +kernel
theorem dX12_isForm_38 : decode cX12_isForm 38 = .ok (.iload 5, 2) := by decide +kernel
theorem dX12_isForm_40 : decode cX12_isForm 40 = .ok (.iload_n 1, 1) := by decide +kernel
theorem dX12_isForm_41 : decode cX12_isForm 41 = .ok (.if_icmp .ge 21, 3) := by decide +kernel
theorem dX12_isForm_44 : decode cX12_isForm 44 = .ok (.aload_n 0, 1) := by decide +kernel
theorem dX12_isForm_45 : decode cX12_isForm 45 = .ok (.getfield 9, 3) := by decide +kernel
theorem dX12_isForm_48 : decode cX12_isForm 48 = .ok (.iload 5, 2) := by decide +kernel
theorem dX12_isForm_50 : decode cX12_isForm 50 = .ok (.baload, 1) := by decide +kernel
theorem dX12_isForm_51 : decode cX12_isForm 51 = .ok (.bipush 38, 2) := by decide +kernel
theorem dX12_isForm_53 : decode cX12_isForm 53 = .ok (.if_icmp .eq 9, 3) := by decide +kernel
theorem dX12_isForm_56 : decode cX12_isForm 56 = .ok (.iinc 5 1, 3) := by decide +kernel
theorem dX12_isForm_59 : decode cX12_isForm 59 = .ok (.goto (-21), 3) := by decide +kernel
theorem dX12_isForm_62 : decode cX12_isForm 62 = .ok (.iload 5, 2) := by decide +kernel
theorem dX12_isForm_64 : decode cX12_isForm 64 = .ok (.iload 4, 2) := by decide +kernel
theorem dX12_isForm_66 : decode cX12_isForm 66 = .ok (.if_icmp .le 30, 3) := by decide +kernel
theorem dX12_isForm_69 : decode cX12_isForm 69 = .ok (.iinc 3 1, 3) := by decide +kernel
theorem dX12_isForm_72 : decode cX12_isForm 72 = .ok (.iload_n 3, 1) := by decide +kernel
theorem dX12_isForm_73 : decode cX12_isForm 73 = .ok (.bipush 20, 2) := by decide +kernel
theorem dX12_isForm_75 : decode cX12_isForm 75 = .ok (.if_icmp .le 5, 3) := by decide +kernel
theorem dX12_isForm_78 : decode cX12_isForm 78 = .ok (.iconst 0, 1) := by decide +kernel
theorem dX12_isForm_79 : decode cX12_isForm 79 = .ok (.ireturn, 1) := by decide +kernel
theorem dX12_isForm_80 : decode cX12_isForm 80 = .ok (.aload_n 0, 1) := by decide +kernel
theorem dX12_isForm_81 : decode cX12_isForm 81 = .ok (.iload 4, 2) := by decide +kernel
theorem dX12_isForm_83 : decode cX12_isForm 83 = .ok (.iload 5, 2) := by decide +kernel
theorem dX12_isForm_85 : decode cX12_isForm 85 = .ok (.iload_n 2, 1) := by decide +kernel
theorem dX12_isForm_86 : decode cX12_isForm 86 = .ok (.invokevirtual 245, 3) := by decide +kernel
theorem dX12_isForm_89 : decode cX12_isForm 89 = .ok (.istore_n 2, 1) := by decide +kernel
theorem dX12_isForm_90 : decode cX12_isForm 90 = .ok (.iload_n 2, 1) := by decide +kernel
theorem dX12_isForm_91 : decode cX12_isForm 91 = .ok (.ifCond .ge 5, 3) := by decide +kernel
theorem dX12_isForm_94 : decode cX12_isForm 94 = .ok (.iconst 0, 1) := by decide +kernel
theorem dX12_isForm_95 : decode cX12_isForm 95 = .ok (.ireturn, 1) := by decide +kernel
theorem dX12_isForm_96 : decode cX12_isForm 96 = .ok (.iload 5, 2) := by decide +kernel
theorem dX12_isForm_98 : decode cX12_isForm 98 = .ok (.iconst 1, 1) := by decide +kernel
theorem dX12_isForm_99 : decode cX12_isForm 99 = .ok (.iadd, 1) := by decide +kernel
theorem dX12_isForm_100 : decode cX12_isForm 100 = .ok (.istore 4, 2) := by decide +kernel
theorem dX12_isForm_102 : decode cX12_isForm 102 = .ok (.goto (-74), 3) := by decide +kernel
theorem dX12_isForm_105 : decode cX12_isForm 105 = .ok (.iconst 1, 1) := by decide +kernel
theorem dX12_isForm_106 : decode cX12_isForm 106 = .ok (.ireturn, 1) := by decide +kernel
theorem dX12_piece_0 : decode cX12_piece 0 = .ok (.iload_n 1, 1) := by decide +kernel
theorem dX12_piece_1 : decode cX12_piece 1 = .ok (.istore 4, 2) := by decide +kernel
theorem dX12_piece_3 : decode cX12_piece 3 = .ok (.iconst 0, 1) := by decide +kernel
theorem dX12_piece_4 : decode cX12_piece 4 = .ok (.istore 5, 2) := by decide +kernel
theorem dX12_piece_6 : decode cX12_piece 6 = .ok (.iload 4, 2) := by decide +kernel
theorem dX12_piece_8 : decode cX12_piece 8 = .ok (.iload_n 2, 1) := by decide +kernel
theorem dX12_piece_9 : decode cX12_piece 9 = .ok (.if_icmp .ge 56, 3) := by decide +kernel
theorem dX12_piece_12 : decode cX12_piece 12 = .ok (.aload_n 0, 1) := by decide +kernel
theorem dX12_piece_13 : decode cX12_piece 13 = .ok (.getfield 9, 3) := by decide +kernel
theorem dX12_piece_16 : decode cX12_piece 16 = .ok (.iload 4, 2) := by decide +kernel
theorem dX12_piece_18 : decode cX12_piece 18 = .ok (.baload, 1) := by decide +kernel
theorem dX12_piece_19 : decode cX12_piece 19 = .ok (.bipush 61, 2) := by decide +kernel
theorem dX12_piece_21 : decode cX12_piece 21 = .ok (.if_icmp .eq 44, 3) := by decide +kernel
theorem dX12_piece_24 : decode cX12_piece 24 = .ok (.aload_n 0, 1) := by decide +kernel
theorem dX12_piece_25 : decode cX12_piece 25 = .ok (.iload 4, 2) := by decide +kernel
theorem dX12_piece_27 : decode cX12_piece 27 = .ok (.iload_n 2, 1) := by decide +kernel
theorem dX12_piece_28 : decode cX12_piece 28 = .ok (.invokevirtual 249, 3) := by decide +kernel
theorem dX12_piece_31 : decode cX12_piece 31 = .ok (.istore 6, 2) := by decide +kernel
theorem dX12_piece_33 : decode cX12_piece 33 = .ok (.iload 6, 2) := by decide +kernel
theorem dX12_piece_35 : decode cX12_piece 35 = .ok (.ifCond .ge 5, 3) := by decide +kernel
theorem dX12_piece_38 : decode cX12_piece 38 = .ok (.iconst (-1), 1) := by decide +kernel
theorem dX12_piece_39 : decode cX12_piece 39 = .ok (.ireturn, 1) := by decide +kernel
theorem dX12_piece_40 : decode cX12_piece 40 = .ok (.aload_n 0, 1) := by decide +kernel
theorem dX12_piece_41 : decode cX12_piece 41 = .ok (.getfield 164, 3) := by decide +kernel
theorem dX12_piece_44 : decode cX12_piece 44 = .ok (.iload 5, 2) := by decide +kernel
theorem dX12_piece_46 : decode cX12_piece 46 = .ok (.iload 6, 2) := by decide +kernel
theorem dX12_piece_48 : decode cX12_piece 48 = .ok (.i2b, 1) := by decide +kernel
theorem dX12_piece_49 : decode cX12_piece 49 = .ok (.bastore, 1) := by decide +kernel
theorem dX12_piece_50 : decode cX12_piece 50 = .ok (.iinc 5 1, 3) := by decide +kernel
theorem dX12_piece_53 : decode cX12_piece 53 = .ok (.iload 4, 2) := by decide +kernel
theorem dX12_piece_55 : decode cX12_piece 55 = .ok (.aload_n 0, 1) := by decide +kernel
theorem dX12_piece_56 : decode cX12_piece 56 = .ok (.getfield 239, 3) := by decide +kernel
theorem dX12_piece_59 : decode cX12_piece 59 = .ok (.iadd, 1) := by decide +kernel
theorem dX12_piece_60 : decode cX12_piece 60 = .ok (.istore 4, 2) := by decide +kernel
theorem dX12_piece_62 : decode cX12_piece 62 = .ok (.goto (-56), 3) := by decide +kernel
theorem dX12_piece_65 : decode cX12_piece 65 = .ok (.iload_n 3, 1) := by decide +kernel
theorem dX12_piece_66 : decode cX12_piece 66 = .ok (.istore 6, 2) := by decide +kernel
theorem dX12_piece_68 : decode cX12_piece 68 = .ok (.iinc 4 1, 3) := by decide +kernel
theorem dX12_piece_71 : decode cX12_piece 71 = .ok (.iload 4, 2) := by decide +kernel
theorem dX12_piece_73 : decode cX12_piece 73 = .ok (.iload_n 2, 1) := by decide +kernel
theorem dX12_piece_74 : decode cX12_piece 74 = .ok (.if_icmp .ge 44, 3) := by decide +kernel
theorem dX12_piece_77 : decode cX12_piece 77 = .ok (.aload_n 0, 1) := by decide +kernel
theorem dX12_piece_78 : decode cX12_piece 78 = .ok (.iload 4, 2) := by decide +kernel
theorem dX12_piece_80 : decode cX12_piece 80 = .ok (.iload_n 2, 1) := by decide +kernel
theorem dX12_piece_81 : decode cX12_piece 81 = .ok (.invokevirtual 249, 3) := by decide +kernel
theorem dX12_piece_84 : decode cX12_piece 84 = .ok (.istore 7, 2) := by decide +kernel
theorem dX12_piece_86 : decode cX12_piece 86 = .ok (.iload 7, 2) := by decide +kernel
theorem dX12_piece_88 : decode cX12_piece 88 = .ok (.ifCond .ge 5, 3) := by decide +kernel
theorem dX12_piece_91 : decode cX12_piece 91 = .ok (.iconst (-1), 1) := by decide +kernel
theorem dX12_piece_92 : decode cX12_piece 92 = .ok (.ireturn, 1) := by decide +kernel
theorem dX12_piece_93 : decode cX12_piece 93 = .ok (.aload_n 0, 1) := by decide +kernel
theorem dX12_piece_94 : decode cX12_piece 94 = .ok (.getfield 155, 3) := by decide +kernel
theorem dX12_piece_97 : decode cX12_piece 97 = .ok (.iload 6, 2) := by decide +kernel
theorem dX12_piece_99 : decode cX12_piece 99 = .ok (.iload 7, 2) := by decide +kernel
theorem dX12_piece_101 : decode cX12_piece 101 = .ok (.i2b, 1) := by decide +kernel
theorem dX12_piece_102 : decode cX12_piece 102 = .ok (.bastore, 1) := by decide +kernel
theorem dX12_piece_103 : decode cX12_piece 103 = .ok (.iinc 6 1, 3) := by decide +kernel
theorem dX12_piece_106 : decode cX12_piece 106 = .ok (.iload 4, 2) := by decide +kernel
theorem dX12_piece_108 : decode cX12_piece 108 = .ok (.aload_n 0, 1) := by decide +kernel
theorem dX12_piece_109 : decode cX12_piece 109 = .ok (.getfield 239, 3) := by decide +kernel
theorem dX12_piece_112 : decode cX12_piece 112 = .ok (.iadd, 1) := by decide +kernel
theorem dX12_piece_113 : decode cX12_piece 113 = .ok (.istore 4, 2) := by decide +kernel
theorem dX12_piece_115 : decode cX12_piece 115 = .ok (.goto (-44), 3) := by decide +kernel
theorem dX12_piece_118 : decode cX12_piece 118 = .ok (.aload_n 0, 1) := by decide +kernel
theorem dX12_piece_119 : decode cX12_piece 119 = .ok (.getfield 164, 3) := by decide +kernel
theorem dX12_piece_122 : decode cX12_piece 122 = .ok (.iload 5, 2) := by decide +kernel
theorem dX12_piece_124 : decode cX12_piece 124 = .ok (.invokestatic 253, 3) := by decide +kernel
theorem dX12_piece_127 : decode cX12_piece 127 = .ok (.istore 7, 2) := by decide +kernel
theorem dX12_piece_129 : decode cX12_piece 129 = .ok (.iload 7, 2) := by decide +kernel
theorem dX12_piece_131 : decode cX12_piece 131 = .ok (.ifCond .ge 5, 3) := by decide +kernel
theorem dX12_piece_134 : decode cX12_piece 134 = .ok (.iload_n 3, 1) := by decide +kernel
theorem dX12_piece_135 : decode cX12_piece 135 = .ok (.ireturn, 1) := by decide +kernel
theorem dX12_piece_136 : decode cX12_piece 136 = .ok (.aload_n 0, 1) := by decide +kernel
theorem dX12_piece_137 : decode cX12_piece 137 = .ok (.getfield 161, 3) := by decide +kernel
theorem dX12_piece_140 : decode cX12_piece 140 = .ok (.iload 7, 2) := by decide +kernel
theorem dX12_piece_142 : decode cX12_piece 142 = .ok (.iaload, 1) := by decide +kernel
theorem dX12_piece_143 : decode cX12_piece 143 = .ok (.ifCond .lt 5, 3) := by decide +kernel
theorem dX12_piece_146 : decode cX12_piece 146 = .ok (.iconst (-1), 1) := by decide +kernel
theorem dX12_piece_147 : decode cX12_piece 147 = .ok (.ireturn, 1) := by decide +kernel
theorem dX12_piece_148 : decode cX12_piece 148 = .ok (.aload_n 0, 1) := by decide +kernel
theorem dX12_piece_149 : decode cX12_piece 149 = .ok (.getfield 158, 3) := by decide +kernel
theorem dX12_piece_152 : decode cX12_piece 152 = .ok (.iload 7, 2) := by decide +kernel
theorem dX12_piece_154 : decode cX12_piece 154 = .ok (.iload_n 3, 1) := by decide +kernel
theorem dX12_piece_155 : decode cX12_piece 155 = .ok (.iastore, 1) := by decide +kernel
theorem dX12_piece_156 : decode cX12_piece 156 = .ok (.aload_n 0, 1) := by decide +kernel
theorem dX12_piece_157 : decode cX12_piece 157 = .ok (.getfield 161, 3) := by decide +kernel
theorem dX12_piece_160 : decode cX12_piece 160 = .ok (.iload 7, 2) := by decide +kernel
theorem dX12_piece_162 : decode cX12_piece 162 = .ok (.iload 6, 2) := by decide +kernel
theorem dX12_piece_164 : decode cX12_piece 164 = .ok (.iload_n 3, 1) := by decide +kernel
theorem dX12_piece_165 : decode cX12_piece 165 = .ok (.isub, 1) := by decide +kernel
theorem dX12_piece_166 : decode cX12_piece 166 = .ok (.iastore, 1) := by decide +kernel
theorem dX12_piece_167 : decode cX12_piece 167 = .ok (.iload 6, 2) := by decide +kernel
theorem dX12_piece_169 : decode cX12_piece 169 = .ok (.ireturn, 1) := by decide +kernel
theorem dX12_has_0 : decode cX12_has 0 = .ok (.aload_n 0, 1) := by decide +kernel
theorem dX12_has_1 : decode cX12_has 1 = .ok (.getfield 161, 3) := by decide +kernel
theorem dX12_has_4 : decode cX12_has 4 = .ok (.iload_n 1, 1) := by decide +kernel
theorem dX12_has_5 : decode cX12_has 5 = .ok (.iaload, 1) := by decide +kernel
theorem dX12_has_6 : decode cX12_has 6 = .ok (.ifCond .le 7, 3) := by decide +kernel
theorem dX12_has_9 : decode cX12_has 9 = .ok (.iconst 1, 1) := by decide +kernel
theorem dX12_has_10 : decode cX12_has 10 = .ok (.goto 4, 3) := by decide +kernel
theorem dX12_has_13 : decode cX12_has 13 = .ok (.iconst 0, 1) := by decide +kernel
theorem dX12_has_14 : decode cX12_has 14 = .ok (.ireturn, 1) := by decide +kernel
theorem dX12_isValue_0 : decode cX12_isValue 0 = .ok (.aload_n 0, 1) := by decide +kernel
theorem dX12_isValue_1 : decode cX12_isValue 1 = .ok (.getfield 155, 3) := by decide +kernel
theorem dX12_isValue_4 : decode cX12_isValue 4 = .ok (.aload_n 0, 1) := by decide +kernel
theorem dX12_isValue_5 : decode cX12_isValue 5 = .ok (.getfield 158, 3) := by decide +kernel
theorem dX12_isValue_8 : decode cX12_isValue 8 = .ok (.iload_n 1, 1) := by decide +kernel
theorem dX12_isValue_9 : decode cX12_isValue 9 = .ok (.iaload, 1) := by decide +kernel
theorem dX12_isValue_10 : decode cX12_isValue 10 = .ok (.aload_n 0, 1) := by decide +kernel
theorem dX12_isValue_11 : decode cX12_isValue 11 = .ok (.getfield 161, 3) := by decide +kernel
theorem dX12_isValue_14 : decode cX12_isValue 14 = .ok (.iload_n 1, 1) := by decide +kernel
theorem dX12_isValue_15 : decode cX12_isValue 15 = .ok (.iaload, 1) := by decide +kernel
theorem dX12_isValue_16 : decode cX12_isValue 16 = .ok (.aload_n 2, 1) := by decide +kernel
theorem dX12_isValue_17 : decode cX12_isValue 17 = .ok (.invokestatic 209, 3) := by decide +kernel
theorem dX12_isValue_20 : decode cX12_isValue 20 = .ok (.ireturn, 1) := by decide +kernel
theorem dX12_clientOf_0 : decode cX12_clientOf 0 = .ok (.iconst (-1), 1) := by decide +kernel
theorem dX12_clientOf_1 : decode cX12_clientOf 1 = .ok (.istore_n 1, 1) := by decide +kernel
theorem dX12_clientOf_2 : decode cX12_clientOf 2 = .ok (.iconst 0, 1) := by decide +kernel
theorem dX12_clientOf_3 : decode cX12_clientOf 3 = .ok (.istore_n 2, 1) := by decide +kernel
theorem dX12_clientOf_4 : decode cX12_clientOf 4 = .ok (.iload_n 2, 1) := by decide +kernel
theorem dX12_clientOf_5 : decode cX12_clientOf 5 = .ok (.aload_n 0, 1) := by decide +kernel
theorem dX12_clientOf_6 : decode cX12_clientOf 6 = .ok (.getfield 257, 3) := by decide +kernel
theorem dX12_clientOf_9 : decode cX12_clientOf 9 = .ok (.if_icmp .ge 55, 3) := by decide +kernel
theorem dX12_clientOf_12 : decode cX12_clientOf 12 = .ok (.aload_n 0, 1) := by decide +kernel
theorem dX12_clientOf_13 : decode cX12_clientOf 13 = .ok (.iconst 1, 1) := by decide +kernel
theorem dX12_clientOf_14 : decode cX12_clientOf 14 = .ok (.invokevirtual 260, 3) := by decide +kernel
theorem dX12_clientOf_17 : decode cX12_clientOf 17 = .ok (.ifCond .eq 47, 3) := by decide +kernel
theorem dX12_clientOf_20 : decode cX12_clientOf 20 = .ok (.aload_n 0, 1) := by decide +kernel
theorem dX12_clientOf_21 : decode cX12_clientOf 21 = .ok (.getfield 155, 3) := by decide +kernel
theorem dX12_clientOf_24 : decode cX12_clientOf 24 = .ok (.aload_n 0, 1) := by decide +kernel
theorem dX12_clientOf_25 : decode cX12_clientOf 25 = .ok (.getfield 158, 3) := by decide +kernel
theorem dX12_clientOf_28 : decode cX12_clientOf 28 = .ok (.iconst 1, 1) := by decide +kernel
theorem dX12_clientOf_29 : decode cX12_clientOf 29 = .ok (.iaload, 1) := by decide +kernel
theorem dX12_clientOf_30 : decode cX12_clientOf 30 = .ok (.aload_n 0, 1) := by decide +kernel
theorem dX12_clientOf_31 : decode cX12_clientOf 31 = .ok (.getfield 161, 3) := by decide +kernel
theorem dX12_clientOf_34 : decode cX12_clientOf 34 = .ok (.iconst 1, 1) := by decide +kernel
theorem dX12_clientOf_35 : decode cX12_clientOf 35 = .ok (.iaload, 1) := by decide +kernel
theorem dX12_clientOf_36 : decode cX12_clientOf 36 = .ok (.aload_n 0, 1) := by decide +kernel
theorem dX12_clientOf_37 : decode cX12_clientOf 37 = .ok (.getfield 23, 3) := by decide +kernel
theorem dX12_clientOf_40 : decode cX12_clientOf 40 = .ok (.bipush 20, 2) := by decide +kernel
theorem dX12_clientOf_42 : decode cX12_clientOf 42 = .ok (.iload_n 2, 1) := by decide +kernel
theorem dX12_clientOf_43 : decode cX12_clientOf 43 = .ok (.imul, 1) := by decide +kernel
theorem dX12_clientOf_44 : decode cX12_clientOf 44 = .ok (.aload_n 0, 1) := by decide +kernel
theorem dX12_clientOf_45 : decode cX12_clientOf 45 = .ok (.getfield 26, 3) := by decide +kernel
theorem dX12_clientOf_48 : decode cX12_clientOf 48 = .ok (.iload_n 2, 1) := by decide +kernel
theorem dX12_clientOf_49 : decode cX12_clientOf 49 = .ok (.iaload, 1) := by decide +kernel
theorem dX12_clientOf_50 : decode cX12_clientOf 50 = .ok (.invokestatic 264, 3) := by decide +kernel
theorem dX12_clientOf_53 : decode cX12_clientOf 53 = .ok (.ifCond .eq 5, 3) := by decide +kernel
theorem dX12_clientOf_56 : decode cX12_clientOf 56 = .ok (.iload_n 2, 1) := by decide +kernel
theorem dX12_clientOf_57 : decode cX12_clientOf 57 = .ok (.istore_n 1, 1) := by decide +kernel
theorem dX12_clientOf_58 : decode cX12_clientOf 58 = .ok (.iinc 2 1, 3) := by decide +kernel
theorem dX12_clientOf_61 : decode cX12_clientOf 61 = .ok (.goto (-57), 3) := by decide +kernel
theorem dX12_clientOf_64 : decode cX12_clientOf 64 = .ok (.iload_n 1, 1) := by decide +kernel
theorem dX12_clientOf_65 : decode cX12_clientOf 65 = .ok (.ireturn, 1) := by decide +kernel
theorem dX12_scopesOf_0 : decode cX12_scopesOf 0 = .ok (.iconst 0, 1) := by decide +kernel
theorem dX12_scopesOf_1 : decode cX12_scopesOf 1 = .ok (.istore_n 1, 1) := by decide +kernel
theorem dX12_scopesOf_2 : decode cX12_scopesOf 2 = .ok (.aload_n 0, 1) := by decide +kernel
theorem dX12_scopesOf_3 : decode cX12_scopesOf 3 = .ok (.getfield 158, 3) := by decide +kernel
theorem dX12_scopesOf_6 : decode cX12_scopesOf 6 = .ok (.iconst 3, 1) := by decide +kernel
theorem dX12_scopesOf_7 : decode cX12_scopesOf 7 = .ok (.iaload, 1) := by decide +kernel
theorem dX12_scopesOf_8 : decode cX12_scopesOf 8 = .ok (.istore_n 2, 1) := by decide +kernel
theorem dX12_scopesOf_9 : decode cX12_scopesOf 9 = .ok (.iload_n 2, 1) := by decide +kernel
theorem dX12_scopesOf_10 : decode cX12_scopesOf 10 = .ok (.aload_n 0, 1) := by decide +kernel
theorem dX12_scopesOf_11 : decode cX12_scopesOf 11 = .ok (.getfield 161, 3) := by decide +kernel
theorem dX12_scopesOf_14 : decode cX12_scopesOf 14 = .ok (.iconst 3, 1) := by decide +kernel
theorem dX12_scopesOf_15 : decode cX12_scopesOf 15 = .ok (.iaload, 1) := by decide +kernel
theorem dX12_scopesOf_16 : decode cX12_scopesOf 16 = .ok (.iadd, 1) := by decide +kernel
theorem dX12_scopesOf_17 : decode cX12_scopesOf 17 = .ok (.istore_n 3, 1) := by decide +kernel
theorem dX12_scopesOf_18 : decode cX12_scopesOf 18 = .ok (.iload_n 2, 1) := by decide +kernel
theorem dX12_scopesOf_19 : decode cX12_scopesOf 19 = .ok (.iload_n 3, 1) := by decide +kernel
theorem dX12_scopesOf_20 : decode cX12_scopesOf 20 = .ok (.if_icmp .ge 111, 3) := by decide +kernel
theorem dX12_scopesOf_23 : decode cX12_scopesOf 23 = .ok (.iload_n 2, 1) := by decide +kernel
theorem dX12_scopesOf_24 : decode cX12_scopesOf 24 = .ok (.istore 4, 2) := by decide +kernel
theorem dX12_scopesOf_26 : decode cX12_scopesOf 26 = .ok (.iload_n 2, 1) := by decide +kernel
theorem dX12_scopesOf_27 : decode cX12_scopesOf 27 = .ok (.iload_n 3, 1) := by decide +kernel
theorem dX12_scopesOf_28 : decode cX12_scopesOf 28 = .ok (.if_icmp .ge 20, 3) := by decide +kernel
theorem dX12_scopesOf_31 : decode cX12_scopesOf 31 = .ok (.aload_n 0, 1) := by decide +kernel
theorem dX12_scopesOf_32 : decode cX12_scopesOf 32 = .ok (.getfield 155, 3) := by decide +kernel
theorem dX12_scopesOf_35 : decode cX12_scopesOf 35 = .ok (.iload_n 2, 1) := by decide +kernel
theorem dX12_scopesOf_36 : decode cX12_scopesOf 36 = .ok (.baload, 1) := by decide +kernel
theorem dX12_scopesOf_37 : decode cX12_scopesOf 37 = .ok (.bipush 32, 2) := by decide +kernel
theorem dX12_scopesOf_39 : decode cX12_scopesOf 39 = .ok (.if_icmp .eq 9, 3) := by decide +kernel
theorem dX12_scopesOf_42 : decode cX12_scopesOf 42 = .ok (.iinc 2 1, 3) := by decide +kernel
theorem dX12_scopesOf_45 : decode cX12_scopesOf 45 = .ok (.goto (-19), 3) := by decide +kernel
theorem dX12_scopesOf_48 : decode cX12_scopesOf 48 = .ok (.iload_n 2, 1) := by decide +kernel
theorem dX12_scopesOf_49 : decode cX12_scopesOf 49 = .ok (.iload 4, 2) := by decide +kernel
theorem dX12_scopesOf_51 : decode cX12_scopesOf 51 = .ok (.if_icmp .le 74, 3) := by decide +kernel
theorem dX12_scopesOf_54 : decode cX12_scopesOf 54 = .ok (.iconst (-1), 1) := by decide +kernel
theorem dX12_scopesOf_55 : decode cX12_scopesOf 55 = .ok (.istore 5, 2) := by decide +kernel
theorem dX12_scopesOf_57 : decode cX12_scopesOf 57 = .ok (.iconst 0, 1) := by decide +kernel
theorem dX12_scopesOf_58 : decode cX12_scopesOf 58 = .ok (.istore 6, 2) := by decide +kernel
theorem dX12_scopesOf_60 : decode cX12_scopesOf 60 = .ok (.iload 6, 2) := by decide +kernel
theorem dX12_scopesOf_62 : decode cX12_scopesOf 62 = .ok (.aload_n 0, 1) := by decide +kernel
theorem dX12_scopesOf_63 : decode cX12_scopesOf 63 = .ok (.getfield 268, 3) := by decide +kernel
theorem dX12_scopesOf_66 : decode cX12_scopesOf 66 = .ok (.if_icmp .ge 45, 3) := by decide +kernel
theorem dX12_scopesOf_69 : decode cX12_scopesOf 69 = .ok (.aload_n 0, 1) := by decide +kernel
theorem dX12_scopesOf_70 : decode cX12_scopesOf 70 = .ok (.getfield 155, 3) := by decide +kernel
theorem dX12_scopesOf_73 : decode cX12_scopesOf 73 = .ok (.iload 4, 2) := by decide +kernel
theorem dX12_scopesOf_75 : decode cX12_scopesOf 75 = .ok (.iload_n 2, 1) := by decide +kernel
theorem dX12_scopesOf_76 : decode cX12_scopesOf 76 = .ok (.iload 4, 2) := by decide +kernel
theorem dX12_scopesOf_78 : decode cX12_scopesOf 78 = .ok (.isub, 1) := by decide +kernel
theorem dX12_scopesOf_79 : decode cX12_scopesOf 79 = .ok (.aload_n 0, 1) := by decide +kernel
theorem dX12_scopesOf_80 : decode cX12_scopesOf 80 = .ok (.getfield 16, 3) := by decide +kernel
theorem dX12_scopesOf_83 : decode cX12_scopesOf 83 = .ok (.bipush 12, 2) := by decide +kernel
theorem dX12_scopesOf_85 : decode cX12_scopesOf 85 = .ok (.iload 6, 2) := by decide +kernel
theorem dX12_scopesOf_87 : decode cX12_scopesOf 87 = .ok (.imul, 1) := by decide +kernel
theorem dX12_scopesOf_88 : decode cX12_scopesOf 88 = .ok (.aload_n 0, 1) := by decide +kernel
theorem dX12_scopesOf_89 : decode cX12_scopesOf 89 = .ok (.getfield 19, 3) := by decide +kernel
theorem dX12_scopesOf_92 : decode cX12_scopesOf 92 = .ok (.iload 6, 2) := by decide +kernel
theorem dX12_scopesOf_94 : decode cX12_scopesOf 94 = .ok (.iaload, 1) := by decide +kernel
theorem dX12_scopesOf_95 : decode cX12_scopesOf 95 = .ok (.invokestatic 264, 3) := by decide +kernel
theorem dX12_scopesOf_98 : decode cX12_scopesOf 98 = .ok (.ifCond .eq 7, 3) := by decide +kernel
theorem dX12_scopesOf_101 : decode cX12_scopesOf 101 = .ok (.iload 6, 2) := by decide +kernel
theorem dX12_scopesOf_103 : decode cX12_scopesOf 103 = .ok (.istore 5, 2) := by decide +kernel
theorem dX12_scopesOf_105 : decode cX12_scopesOf 105 = .ok (.iinc 6 1, 3) := by decide +kernel
theorem dX12_scopesOf_108 : decode cX12_scopesOf 108 = .ok (.goto (-48), 3) := by decide +kernel
theorem dX12_scopesOf_111 : decode cX12_scopesOf 111 = .ok (.iload 5, 2) := by decide +kernel
theorem dX12_scopesOf_113 : decode cX12_scopesOf 113 = .ok (.ifCond .ge 5, 3) := by decide +kernel
theorem dX12_scopesOf_116 : decode cX12_scopesOf 116 = .ok (.iconst (-1), 1) := by decide +kernel
theorem dX12_scopesOf_117 : decode cX12_scopesOf 117 = .ok (.ireturn, 1) := by decide +kernel
theorem dX12_scopesOf_118 : decode cX12_scopesOf 118 = .ok (.iload_n 1, 1) := by decide +kernel
theorem dX12_scopesOf_119 : decode cX12_scopesOf 119 = .ok (.iconst 1, 1) := by decide +kernel
theorem dX12_scopesOf_120 : decode cX12_scopesOf 120 = .ok (.iload 5, 2) := by decide +kernel
theorem dX12_scopesOf_122 : decode cX12_scopesOf 122 = .ok (.ishl, 1) := by decide +kernel
theorem dX12_scopesOf_123 : decode cX12_scopesOf 123 = .ok (.ior, 1) := by decide +kernel
theorem dX12_scopesOf_124 : decode cX12_scopesOf 124 = .ok (.istore_n 1, 1) := by decide +kernel
theorem dX12_scopesOf_125 : decode cX12_scopesOf 125 = .ok (.iinc 2 1, 3) := by decide +kernel
theorem dX12_scopesOf_128 : decode cX12_scopesOf 128 = .ok (.goto (-110), 3) := by decide +kernel
theorem dX12_scopesOf_131 : decode cX12_scopesOf 131 = .ok (.iload_n 1, 1) := by decide +kernel
theorem dX12_scopesOf_132 : decode cX12_scopesOf 132 = .ok (.ireturn, 1) := by decide +kernel
theorem dX12_isUsed_0 : decode cX12_isUsed 0 = .ok (.iconst 0, 1) := by decide +kernel
theorem dX12_isUsed_1 : decode cX12_isUsed 1 = .ok (.istore_n 3, 1) := by decide +kernel
theorem dX12_isUsed_2 : decode cX12_isUsed 2 = .ok (.iconst 0, 1) := by decide +kernel
theorem dX12_isUsed_3 : decode cX12_isUsed 3 = .ok (.istore 4, 2) := by decide +kernel
theorem dX12_isUsed_5 : decode cX12_isUsed 5 = .ok (.iload 4, 2) := by decide +kernel
theorem dX12_isUsed_7 : decode cX12_isUsed 7 = .ok (.aload_n 0, 1) := by decide +kernel
theorem dX12_isUsed_8 : decode cX12_isUsed 8 = .ok (.getfield 271, 3) := by decide +kernel
theorem dX12_isUsed_11 : decode cX12_isUsed 11 = .ok (.if_icmp .ge 28, 3) := by decide +kernel
theorem dX12_isUsed_14 : decode cX12_isUsed 14 = .ok (.iload_n 3, 1) := by decide +kernel
theorem dX12_isUsed_15 : decode cX12_isUsed 15 = .ok (.ifCond .ne 24, 3) := by decide +kernel
theorem dX12_isUsed_18 : decode cX12_isUsed 18 = .ok (.aload_n 0, 1) := by decide +kernel
theorem dX12_isUsed_19 : decode cX12_isUsed 19 = .ok (.getfield 54, 3) := by decide +kernel
theorem dX12_isUsed_22 : decode cX12_isUsed 22 = .ok (.iload_n 1, 1) := by decide +kernel
theorem dX12_isUsed_23 : decode cX12_isUsed 23 = .ok (.aload_n 0, 1) := by decide +kernel
theorem dX12_isUsed_24 : decode cX12_isUsed 24 = .ok (.getfield 57, 3) := by decide +kernel
theorem dX12_isUsed_27 : decode cX12_isUsed 27 = .ok (.iload 4, 2) := by decide +kernel
theorem dX12_isUsed_29 : decode cX12_isUsed 29 = .ok (.invokestatic 274, 3) := by decide +kernel
theorem dX12_isUsed_32 : decode cX12_isUsed 32 = .ok (.istore_n 3, 1) := by decide +kernel
theorem dX12_isUsed_33 : decode cX12_isUsed 33 = .ok (.iinc 4 1, 3) := by decide +kernel
theorem dX12_isUsed_36 : decode cX12_isUsed 36 = .ok (.goto (-31), 3) := by decide +kernel
theorem dX12_isUsed_39 : decode cX12_isUsed 39 = .ok (.iload_n 3, 1) := by decide +kernel
theorem dX12_isUsed_40 : decode cX12_isUsed 40 = .ok (.ifCond .ne 23, 3) := by decide +kernel
theorem dX12_isUsed_43 : decode cX12_isUsed 43 = .ok (.iload_n 2, 1) := by decide +kernel
theorem dX12_isUsed_44 : decode cX12_isUsed 44 = .ok (.ifCond .lt 23, 3) := by decide +kernel
theorem dX12_isUsed_47 : decode cX12_isUsed 47 = .ok (.aload_n 0, 1) := by decide +kernel
theorem dX12_isUsed_48 : decode cX12_isUsed 48 = .ok (.getfield 54, 3) := by decide +kernel
theorem dX12_isUsed_51 : decode cX12_isUsed 51 = .ok (.iload_n 1, 1) := by decide +kernel
theorem dX12_isUsed_52 : decode cX12_isUsed 52 = .ok (.aload_n 0, 1) := by decide +kernel
theorem dX12_isUsed_53 : decode cX12_isUsed 53 = .ok (.getfield 54, 3) := by decide +kernel
theorem dX12_isUsed_56 : decode cX12_isUsed 56 = .ok (.iload_n 2, 1) := by decide +kernel
theorem dX12_isUsed_57 : decode cX12_isUsed 57 = .ok (.invokestatic 274, 3) := by decide +kernel
theorem dX12_isUsed_60 : decode cX12_isUsed 60 = .ok (.ifCond .eq 7, 3) := by decide +kernel
theorem dX12_isUsed_63 : decode cX12_isUsed 63 = .ok (.iconst 1, 1) := by decide +kernel
theorem dX12_isUsed_64 : decode cX12_isUsed 64 = .ok (.goto 4, 3) := by decide +kernel
theorem dX12_isUsed_67 : decode cX12_isUsed 67 = .ok (.iconst 0, 1) := by decide +kernel
theorem dX12_isUsed_68 : decode cX12_isUsed 68 = .ok (.ireturn, 1) := by decide +kernel
theorem dX12_areSame_0 : decode cX12_areSame 0 = .ok (.iconst 1, 1) := by decide +kernel
theorem dX12_areSame_1 : decode cX12_areSame 1 = .ok (.istore 4, 2) := by decide +kernel
theorem dX12_areSame_3 : decode cX12_areSame 3 = .ok (.iconst 0, 1) := by decide +kernel
theorem dX12_areSame_4 : decode cX12_areSame 4 = .ok (.istore 5, 2) := by decide +kernel
theorem dX12_areSame_6 : decode cX12_areSame 6 = .ok (.iload 5, 2) := by decide +kernel
theorem dX12_areSame_8 : decode cX12_areSame 8 = .ok (.iconst 4, 1) := by decide +kernel
theorem dX12_areSame_9 : decode cX12_areSame 9 = .ok (.if_icmp .ge 40, 3) := by decide +kernel
theorem dX12_areSame_12 : decode cX12_areSame 12 = .ok (.iload 4, 2) := by decide +kernel
theorem dX12_areSame_14 : decode cX12_areSame 14 = .ok (.ifCond .eq 26, 3) := by decide +kernel
theorem dX12_areSame_17 : decode cX12_areSame 17 = .ok (.aload_n 0, 1) := by decide +kernel
theorem dX12_areSame_18 : decode cX12_areSame 18 = .ok (.iconst 4, 1) := by decide +kernel
theorem dX12_areSame_19 : decode cX12_areSame 19 = .ok (.iload_n 1, 1) := by decide +kernel
theorem dX12_areSame_20 : decode cX12_areSame 20 = .ok (.imul, 1) := by decide +kernel
theorem dX12_areSame_21 : decode cX12_areSame 21 = .ok (.iload 5, 2) := by decide +kernel
theorem dX12_areSame_23 : decode cX12_areSame 23 = .ok (.iadd, 1) := by decide +kernel
theorem dX12_areSame_24 : decode cX12_areSame 24 = .ok (.iaload, 1) := by decide +kernel
theorem dX12_areSame_25 : decode cX12_areSame 25 = .ok (.aload_n 2, 1) := by decide +kernel
theorem dX12_areSame_26 : decode cX12_areSame 26 = .ok (.iconst 4, 1) := by decide +kernel
theorem dX12_areSame_27 : decode cX12_areSame 27 = .ok (.iload_n 3, 1) := by decide +kernel
theorem dX12_areSame_28 : decode cX12_areSame 28 = .ok (.imul, 1) := by decide +kernel
theorem dX12_areSame_29 : decode cX12_areSame 29 = .ok (.iload 5, 2) := by decide +kernel
theorem dX12_areSame_31 : decode cX12_areSame 31 = .ok (.iadd, 1) := by decide +kernel
theorem dX12_areSame_32 : decode cX12_areSame 32 = .ok (.iaload, 1) := by decide +kernel
theorem dX12_areSame_33 : decode cX12_areSame 33 = .ok (.if_icmp .ne 7, 3) := by decide +kernel
theorem dX12_areSame_36 : decode cX12_areSame 36 = .ok (.iconst 1, 1) := by decide +kernel
theorem dX12_areSame_37 : decode cX12_areSame 37 = .ok (.goto 4, 3) := by decide +kernel
theorem dX12_areSame_40 : decode cX12_areSame 40 = .ok (.iconst 0, 1) := by decide +kernel
theorem dX12_areSame_41 : decode cX12_areSame 41 = .ok (.istore 4, 2) := by decide +kernel
theorem dX12_areSame_43 : decode cX12_areSame 43 = .ok (.iinc 5 1, 3) := by decide +kernel
theorem dX12_areSame_46 : decode cX12_areSame 46 = .ok (.goto (-40), 3) := by decide +kernel
theorem dX12_areSame_49 : decode cX12_areSame 49 = .ok (.iload 4, 2) := by decide +kernel
theorem dX12_areSame_51 : decode cX12_areSame 51 = .ok (.ireturn, 1) := by decide +kernel
theorem dX12_takes_0 : decode cX12_takes 0 = .ok (.iconst (-1), 1) := by decide +kernel
theorem dX12_takes_1 : decode cX12_takes 1 = .ok (.istore_n 2, 1) := by decide +kernel
theorem dX12_takes_2 : decode cX12_takes 2 = .ok (.iconst 0, 1) := by decide +kernel
theorem dX12_takes_3 : decode cX12_takes 3 = .ok (.istore_n 3, 1) := by decide +kernel
theorem dX12_takes_4 : decode cX12_takes 4 = .ok (.iconst 0, 1) := by decide +kernel
theorem dX12_takes_5 : decode cX12_takes 5 = .ok (.istore 4, 2) := by decide +kernel
theorem dX12_takes_7 : decode cX12_takes 7 = .ok (.iconst (-1), 1) := by decide +kernel
theorem dX12_takes_8 : decode cX12_takes 8 = .ok (.istore 5, 2) := by decide +kernel
theorem dX12_takes_10 : decode cX12_takes 10 = .ok (.iload 4, 2) := by decide +kernel
theorem dX12_takes_12 : decode cX12_takes 12 = .ok (.aload_n 0, 1) := by decide +kernel
theorem dX12_takes_13 : decode cX12_takes 13 = .ok (.getfield 278, 3) := by decide +kernel
theorem dX12_takes_16 : decode cX12_takes 16 = .ok (.if_icmp .ge 45, 3) := by decide +kernel
theorem dX12_takes_19 : decode cX12_takes 19 = .ok (.iload_n 3, 1) := by decide +kernel
theorem dX12_takes_20 : decode cX12_takes 20 = .ok (.iload_n 1, 1) := by decide +kernel
theorem dX12_takes_21 : decode cX12_takes 21 = .ok (.if_icmp .ge 40, 3) := by decide +kernel
theorem dX12_takes_24 : decode cX12_takes 24 = .ok (.aload_n 0, 1) := by decide +kernel
theorem dX12_takes_25 : decode cX12_takes 25 = .ok (.iload 4, 2) := by decide +kernel
theorem dX12_takes_27 : decode cX12_takes 27 = .ok (.iload_n 2, 1) := by decide +kernel
theorem dX12_takes_28 : decode cX12_takes 28 = .ok (.invokevirtual 281, 3) := by decide +kernel
theorem dX12_takes_31 : decode cX12_takes 31 = .ok (.ifCond .eq 6, 3) := by decide +kernel
theorem dX12_takes_34 : decode cX12_takes 34 = .ok (.goto 21, 3) := by decide +kernel
theorem dX12_takes_37 : decode cX12_takes 37 = .ok (.iload 4, 2) := by decide +kernel
theorem dX12_takes_39 : decode cX12_takes 39 = .ok (.istore 5, 2) := by decide +kernel
theorem dX12_takes_41 : decode cX12_takes 41 = .ok (.iload_n 3, 1) := by decide +kernel
theorem dX12_takes_42 : decode cX12_takes 42 = .ok (.ifCond .ne 8, 3) := by decide +kernel
theorem dX12_takes_45 : decode cX12_takes 45 = .ok (.iload 4, 2) := by decide +kernel
theorem dX12_takes_47 : decode cX12_takes 47 = .ok (.goto 4, 3) := by decide +kernel
theorem dX12_takes_50 : decode cX12_takes 50 = .ok (.iload_n 2, 1) := by decide +kernel
theorem dX12_takes_51 : decode cX12_takes 51 = .ok (.istore_n 2, 1) := by decide +kernel
theorem dX12_takes_52 : decode cX12_takes 52 = .ok (.iinc 3 1, 3) := by decide +kernel
theorem dX12_takes_55 : decode cX12_takes 55 = .ok (.iinc 4 1, 3) := by decide +kernel
theorem dX12_takes_58 : decode cX12_takes 58 = .ok (.goto (-48), 3) := by decide +kernel
theorem dX12_takes_61 : decode cX12_takes 61 = .ok (.iload_n 3, 1) := by decide +kernel
theorem dX12_takes_62 : decode cX12_takes 62 = .ok (.iload_n 1, 1) := by decide +kernel
theorem dX12_takes_63 : decode cX12_takes 63 = .ok (.if_icmp .ge 5, 3) := by decide +kernel
theorem dX12_takes_66 : decode cX12_takes 66 = .ok (.iconst (-1), 1) := by decide +kernel
theorem dX12_takes_67 : decode cX12_takes 67 = .ok (.ireturn, 1) := by decide +kernel
theorem dX12_takes_68 : decode cX12_takes 68 = .ok (.aload_n 0, 1) := by decide +kernel
theorem dX12_takes_69 : decode cX12_takes 69 = .ok (.getfield 271, 3) := by decide +kernel
theorem dX12_takes_72 : decode cX12_takes 72 = .ok (.istore 6, 2) := by decide +kernel
theorem dX12_takes_74 : decode cX12_takes 74 = .ok (.aload_n 0, 1) := by decide +kernel
theorem dX12_takes_75 : decode cX12_takes 75 = .ok (.iload_n 2, 1) := by decide +kernel
theorem dX12_takes_76 : decode cX12_takes 76 = .ok (.invokevirtual 285, 3) := by decide +kernel
theorem dX12_takes_79 : decode cX12_takes 79 = .ok (.iload_n 1, 1) := by decide +kernel
theorem dX12_takes_80 : decode cX12_takes 80 = .ok (.iconst 2, 1) := by decide +kernel
theorem dX12_takes_81 : decode cX12_takes 81 = .ok (.if_icmp .ne 9, 3) := by decide +kernel
theorem dX12_takes_84 : decode cX12_takes 84 = .ok (.aload_n 0, 1) := by decide +kernel
theorem dX12_takes_85 : decode cX12_takes 85 = .ok (.iload 5, 2) := by decide +kernel
theorem dX12_takes_87 : decode cX12_takes 87 = .ok (.invokevirtual 285, 3) := by decide +kernel
theorem dX12_takes_90 : decode cX12_takes 90 = .ok (.aload_n 0, 1) := by decide +kernel
theorem dX12_takes_91 : decode cX12_takes 91 = .ok (.dup, 1) := by decide +kernel
theorem dX12_takes_92 : decode cX12_takes 92 = .ok (.getfield 278, 3) := by decide +kernel
theorem dX12_takes_95 : decode cX12_takes 95 = .ok (.iload 4, 2) := by decide +kernel
theorem dX12_takes_97 : decode cX12_takes 97 = .ok (.isub, 1) := by decide +kernel
theorem dX12_takes_98 : decode cX12_takes 98 = .ok (.putfield 278, 3) := by decide +kernel
theorem dX12_takes_101 : decode cX12_takes 101 = .ok (.iconst 0, 1) := by decide +kernel
theorem dX12_takes_102 : decode cX12_takes 102 = .ok (.istore 7, 2) := by decide +kernel
theorem dX12_takes_104 : decode cX12_takes 104 = .ok (.iload 7, 2) := by decide +kernel
theorem dX12_takes_106 : decode cX12_takes 106 = .ok (.iconst 4, 1) := by decide +kernel
theorem dX12_takes_107 : decode cX12_takes 107 = .ok (.aload_n 0, 1) := by decide +kernel
theorem dX12_takes_108 : decode cX12_takes 108 = .ok (.getfield 278, 3) := by decide +kernel
theorem dX12_takes_111 : decode cX12_takes 111 = .ok (.imul, 1) := by decide +kernel
theorem dX12_takes_112 : decode cX12_takes 112 = .ok (.if_icmp .ge 28, 3) := by decide +kernel
theorem dX12_takes_115 : decode cX12_takes 115 = .ok (.aload_n 0, 1) := by decide +kernel
theorem dX12_takes_116 : decode cX12_takes 116 = .ok (.getfield 54, 3) := by decide +kernel
theorem dX12_takes_119 : decode cX12_takes 119 = .ok (.iload 7, 2) := by decide +kernel
theorem dX12_takes_121 : decode cX12_takes 121 = .ok (.aload_n 0, 1) := by decide +kernel
theorem dX12_takes_122 : decode cX12_takes 122 = .ok (.getfield 54, 3) := by decide +kernel
theorem dX12_takes_125 : decode cX12_takes 125 = .ok (.iconst 4, 1) := by decide +kernel
theorem dX12_takes_126 : decode cX12_takes 126 = .ok (.iload 4, 2) := by decide +kernel
theorem dX12_takes_128 : decode cX12_takes 128 = .ok (.imul, 1) := by decide +kernel
theorem dX12_takes_129 : decode cX12_takes 129 = .ok (.iload 7, 2) := by decide +kernel
theorem dX12_takes_131 : decode cX12_takes 131 = .ok (.iadd, 1) := by decide +kernel
theorem dX12_takes_132 : decode cX12_takes 132 = .ok (.iaload, 1) := by decide +kernel
theorem dX12_takes_133 : decode cX12_takes 133 = .ok (.iastore, 1) := by decide +kernel
theorem dX12_takes_134 : decode cX12_takes 134 = .ok (.iinc 7 1, 3) := by decide +kernel
theorem dX12_takes_137 : decode cX12_takes 137 = .ok (.goto (-33), 3) := by decide +kernel
theorem dX12_takes_140 : decode cX12_takes 140 = .ok (.iload 6, 2) := by decide +kernel
theorem dX12_takes_142 : decode cX12_takes 142 = .ok (.ireturn, 1) := by decide +kernel
theorem dX12_uses_0 : decode cX12_uses 0 = .ok (.iconst 0, 1) := by decide +kernel
theorem dX12_uses_1 : decode cX12_uses 1 = .ok (.istore_n 2, 1) := by decide +kernel
theorem dX12_uses_2 : decode cX12_uses 2 = .ok (.iload_n 2, 1) := by decide +kernel
theorem dX12_uses_3 : decode cX12_uses 3 = .ok (.iconst 4, 1) := by decide +kernel
theorem dX12_uses_4 : decode cX12_uses 4 = .ok (.if_icmp .ge 32, 3) := by decide +kernel
theorem dX12_uses_7 : decode cX12_uses 7 = .ok (.aload_n 0, 1) := by decide +kernel
theorem dX12_uses_8 : decode cX12_uses 8 = .ok (.getfield 57, 3) := by decide +kernel
theorem dX12_uses_11 : decode cX12_uses 11 = .ok (.iconst 4, 1) := by decide +kernel
theorem dX12_uses_12 : decode cX12_uses 12 = .ok (.aload_n 0, 1) := by decide +kernel
theorem dX12_uses_13 : decode cX12_uses 13 = .ok (.getfield 271, 3) := by decide +kernel
theorem dX12_uses_16 : decode cX12_uses 16 = .ok (.imul, 1) := by decide +kernel
theorem dX12_uses_17 : decode cX12_uses 17 = .ok (.iload_n 2, 1) := by decide +kernel
theorem dX12_uses_18 : decode cX12_uses 18 = .ok (.iadd, 1) := by decide +kernel
theorem dX12_uses_19 : decode cX12_uses 19 = .ok (.aload_n 0, 1) := by decide +kernel
theorem dX12_uses_20 : decode cX12_uses 20 = .ok (.getfield 54, 3) := by decide +kernel
theorem dX12_uses_23 : decode cX12_uses 23 = .ok (.iconst 4, 1) := by decide +kernel
theorem dX12_uses_24 : decode cX12_uses 24 = .ok (.iload_n 1, 1) := by decide +kernel
theorem dX12_uses_25 : decode cX12_uses 25 = .ok (.imul, 1) := by decide +kernel
theorem dX12_uses_26 : decode cX12_uses 26 = .ok (.iload_n 2, 1) := by decide +kernel
theorem dX12_uses_27 : decode cX12_uses 27 = .ok (.iadd, 1) := by decide +kernel
theorem dX12_uses_28 : decode cX12_uses 28 = .ok (.iaload, 1) := by decide +kernel
theorem dX12_uses_29 : decode cX12_uses 29 = .ok (.iastore, 1) := by decide +kernel
theorem dX12_uses_30 : decode cX12_uses 30 = .ok (.iinc 2 1, 3) := by decide +kernel
theorem dX12_uses_33 : decode cX12_uses 33 = .ok (.goto (-31), 3) := by decide +kernel
theorem dX12_uses_36 : decode cX12_uses 36 = .ok (.aload_n 0, 1) := by decide +kernel
theorem dX12_uses_37 : decode cX12_uses 37 = .ok (.dup, 1) := by decide +kernel
theorem dX12_uses_38 : decode cX12_uses 38 = .ok (.getfield 271, 3) := by decide +kernel
theorem dX12_uses_41 : decode cX12_uses 41 = .ok (.iconst 1, 1) := by decide +kernel
theorem dX12_uses_42 : decode cX12_uses 42 = .ok (.iadd, 1) := by decide +kernel
theorem dX12_uses_43 : decode cX12_uses 43 = .ok (.putfield 271, 3) := by decide +kernel
theorem dX12_uses_46 : decode cX12_uses 46 = .ok (.return_, 1) := by decide +kernel
theorem dX12_handle_0 : decode cX12_handle 0 = .ok (.iconst 0, 1) := by decide +kernel
theorem dX12_handle_1 : decode cX12_handle 1 = .ok (.istore_n 2, 1) := by decide +kernel
theorem dX12_handle_2 : decode cX12_handle 2 = .ok (.iload_n 2, 1) := by decide +kernel
theorem dX12_handle_3 : decode cX12_handle 3 = .ok (.bipush 16, 2) := by decide +kernel
theorem dX12_handle_5 : decode cX12_handle 5 = .ok (.if_icmp .ge 38, 3) := by decide +kernel
theorem dX12_handle_8 : decode cX12_handle 8 = .ok (.aload_n 0, 1) := by decide +kernel
theorem dX12_handle_9 : decode cX12_handle 9 = .ok (.getfield 167, 3) := by decide +kernel
theorem dX12_handle_12 : decode cX12_handle 12 = .ok (.iload_n 2, 1) := by decide +kernel
theorem dX12_handle_13 : decode cX12_handle 13 = .ok (.aload_n 0, 1) := by decide +kernel
theorem dX12_handle_14 : decode cX12_handle 14 = .ok (.getfield 57, 3) := by decide +kernel
theorem dX12_handle_17 : decode cX12_handle 17 = .ok (.iconst 4, 1) := by decide +kernel
theorem dX12_handle_18 : decode cX12_handle 18 = .ok (.iload_n 1, 1) := by decide +kernel
theorem dX12_handle_19 : decode cX12_handle 19 = .ok (.imul, 1) := by decide +kernel
theorem dX12_handle_20 : decode cX12_handle 20 = .ok (.iload_n 2, 1) := by decide +kernel
theorem dX12_handle_21 : decode cX12_handle 21 = .ok (.iconst 4, 1) := by decide +kernel
theorem dX12_handle_22 : decode cX12_handle 22 = .ok (.idiv, 1) := by decide +kernel
theorem dX12_handle_23 : decode cX12_handle 23 = .ok (.iadd, 1) := by decide +kernel
theorem dX12_handle_24 : decode cX12_handle 24 = .ok (.iaload, 1) := by decide +kernel
theorem dX12_handle_25 : decode cX12_handle 25 = .ok (.bipush 24, 2) := by decide +kernel
theorem dX12_handle_27 : decode cX12_handle 27 = .ok (.bipush 8, 2) := by decide +kernel
theorem dX12_handle_29 : decode cX12_handle 29 = .ok (.iload_n 2, 1) := by decide +kernel
theorem dX12_handle_30 : decode cX12_handle 30 = .ok (.iconst 4, 1) := by decide +kernel
theorem dX12_handle_31 : decode cX12_handle 31 = .ok (.irem, 1) := by decide +kernel
theorem dX12_handle_32 : decode cX12_handle 32 = .ok (.imul, 1) := by decide +kernel
theorem dX12_handle_33 : decode cX12_handle 33 = .ok (.isub, 1) := by decide +kernel
theorem dX12_handle_34 : decode cX12_handle 34 = .ok (.ishr, 1) := by decide +kernel
theorem dX12_handle_35 : decode cX12_handle 35 = .ok (.i2b, 1) := by decide +kernel
theorem dX12_handle_36 : decode cX12_handle 36 = .ok (.bastore, 1) := by decide +kernel
theorem dX12_handle_37 : decode cX12_handle 37 = .ok (.iinc 2 1, 3) := by decide +kernel
theorem dX12_handle_40 : decode cX12_handle 40 = .ok (.goto (-38), 3) := by decide +kernel
theorem dX12_handle_43 : decode cX12_handle 43 = .ok (.aload_n 0, 1) := by decide +kernel
theorem dX12_handle_44 : decode cX12_handle 44 = .ok (.getfield 167, 3) := by decide +kernel
theorem dX12_handle_47 : decode cX12_handle 47 = .ok (.bipush 16, 2) := by decide +kernel
theorem dX12_handle_49 : decode cX12_handle 49 = .ok (.aload_n 0, 1) := by decide +kernel
theorem dX12_handle_50 : decode cX12_handle 50 = .ok (.getfield 170, 3) := by decide +kernel
theorem dX12_handle_53 : decode cX12_handle 53 = .ok (.invokestatic 289, 3) := by decide +kernel
theorem dX12_handle_56 : decode cX12_handle 56 = .ok (.istore_n 2, 1) := by decide +kernel
theorem dX12_handle_57 : decode cX12_handle 57 = .ok (.return_, 1) := by decide +kernel
theorem dX12_isHandle_0 : decode cX12_isHandle 0 = .ok (.aload_n 0, 1) := by decide +kernel
theorem dX12_isHandle_1 : decode cX12_isHandle 1 = .ok (.iload_n 1, 1) := by decide +kernel
theorem dX12_isHandle_2 : decode cX12_isHandle 2 = .ok (.invokevirtual 293, 3) := by decide +kernel
theorem dX12_isHandle_5 : decode cX12_isHandle 5 = .ok (.aload_n 2, 1) := by decide +kernel
theorem dX12_isHandle_6 : decode cX12_isHandle 6 = .ok (.iload_n 3, 1) := by decide +kernel
theorem dX12_isHandle_7 : decode cX12_isHandle 7 = .ok (.iload 4, 2) := by decide +kernel
theorem dX12_isHandle_9 : decode cX12_isHandle 9 = .ok (.aload_n 0, 1) := by decide +kernel
theorem dX12_isHandle_10 : decode cX12_isHandle 10 = .ok (.getfield 170, 3) := by decide +kernel
theorem dX12_isHandle_13 : decode cX12_isHandle 13 = .ok (.iconst 0, 1) := by decide +kernel
theorem dX12_isHandle_14 : decode cX12_isHandle 14 = .ok (.bipush 22, 2) := by decide +kernel
theorem dX12_isHandle_16 : decode cX12_isHandle 16 = .ok (.invokestatic 264, 3) := by decide +kernel
theorem dX12_isHandle_19 : decode cX12_isHandle 19 = .ok (.ireturn, 1) := by decide +kernel
theorem dX12_puts_0 : decode cX12_puts 0 = .ok (.aload_n 0, 1) := by decide +kernel
theorem dX12_puts_1 : decode cX12_puts 1 = .ok (.getfield 13, 3) := by decide +kernel
theorem dX12_puts_4 : decode cX12_puts 4 = .ok (.aload_n 0, 1) := by decide +kernel
theorem dX12_puts_5 : decode cX12_puts 5 = .ok (.getfield 296, 3) := by decide +kernel
theorem dX12_puts_8 : decode cX12_puts 8 = .ok (.iload_n 1, 1) := by decide +kernel
theorem dX12_puts_9 : decode cX12_puts 9 = .ok (.i2b, 1) := by decide +kernel
theorem dX12_puts_10 : decode cX12_puts 10 = .ok (.bastore, 1) := by decide +kernel
theorem dX12_puts_11 : decode cX12_puts 11 = .ok (.aload_n 0, 1) := by decide +kernel
theorem dX12_puts_12 : decode cX12_puts 12 = .ok (.dup, 1) := by decide +kernel
theorem dX12_puts_13 : decode cX12_puts 13 = .ok (.getfield 296, 3) := by decide +kernel
theorem dX12_puts_16 : decode cX12_puts 16 = .ok (.iconst 1, 1) := by decide +kernel
theorem dX12_puts_17 : decode cX12_puts 17 = .ok (.iadd, 1) := by decide +kernel
theorem dX12_puts_18 : decode cX12_puts 18 = .ok (.putfield 296, 3) := by decide +kernel
theorem dX12_puts_21 : decode cX12_puts 21 = .ok (.return_, 1) := by decide +kernel
theorem dX12_says_0 : decode cX12_says 0 = .ok (.iconst 0, 1) := by decide +kernel
theorem dX12_says_1 : decode cX12_says 1 = .ok (.istore_n 2, 1) := by decide +kernel
theorem dX12_says_2 : decode cX12_says 2 = .ok (.iload_n 2, 1) := by decide +kernel
theorem dX12_says_3 : decode cX12_says 3 = .ok (.aload_n 1, 1) := by decide +kernel
theorem dX12_says_4 : decode cX12_says 4 = .ok (.invokevirtual 191, 3) := by decide +kernel
theorem dX12_says_7 : decode cX12_says 7 = .ok (.if_icmp .ge 18, 3) := by decide +kernel
theorem dX12_says_10 : decode cX12_says 10 = .ok (.aload_n 0, 1) := by decide +kernel
theorem dX12_says_11 : decode cX12_says 11 = .ok (.aload_n 1, 1) := by decide +kernel
theorem dX12_says_12 : decode cX12_says 12 = .ok (.iload_n 2, 1) := by decide +kernel
theorem dX12_says_13 : decode cX12_says 13 = .ok (.invokevirtual 197, 3) := by decide +kernel
theorem dX12_says_16 : decode cX12_says 16 = .ok (.invokevirtual 299, 3) := by decide +kernel
theorem dX12_says_19 : decode cX12_says 19 = .ok (.iinc 2 1, 3) := by decide +kernel
theorem dX12_says_22 : decode cX12_says 22 = .ok (.goto (-20), 3) := by decide +kernel
theorem dX12_says_25 : decode cX12_says 25 = .ok (.return_, 1) := by decide +kernel
theorem dX12_saysHandle_0 : decode cX12_saysHandle 0 = .ok (.aload_n 0, 1) := by decide +kernel
theorem dX12_saysHandle_1 : decode cX12_saysHandle 1 = .ok (.iload_n 1, 1) := by decide +kernel
theorem dX12_saysHandle_2 : decode cX12_saysHandle 2 = .ok (.invokevirtual 293, 3) := by decide +kernel
theorem dX12_saysHandle_5 : decode cX12_saysHandle 5 = .ok (.iconst 0, 1) := by decide +kernel
theorem dX12_saysHandle_6 : decode cX12_saysHandle 6 = .ok (.istore_n 2, 1) := by decide +kernel
theorem dX12_saysHandle_7 : decode cX12_saysHandle 7 = .ok (.iload_n 2, 1) := by decide +kernel
theorem dX12_saysHandle_8 : decode cX12_saysHandle 8 = .ok (.bipush 22, 2) := by decide +kernel
theorem dX12_saysHandle_10 : decode cX12_saysHandle 10 = .ok (.if_icmp .ge 19, 3) := by decide +kernel
theorem dX12_saysHandle_13 : decode cX12_saysHandle 13 = .ok (.aload_n 0, 1) := by decide +kernel
theorem dX12_saysHandle_14 : decode cX12_saysHandle 14 = .ok (.aload_n 0, 1) := by decide +kernel
theorem dX12_saysHandle_15 : decode cX12_saysHandle 15 = .ok (.getfield 170, 3) := by decide +kernel
theorem dX12_saysHandle_18 : decode cX12_saysHandle 18 = .ok (.iload_n 2, 1) := by decide +kernel
theorem dX12_saysHandle_19 : decode cX12_saysHandle 19 = .ok (.baload, 1) := by decide +kernel
theorem dX12_saysHandle_20 : decode cX12_saysHandle 20 = .ok (.invokevirtual 299, 3) := by decide +kernel
theorem dX12_saysHandle_23 : decode cX12_saysHandle 23 = .ok (.iinc 2 1, 3) := by decide +kernel
theorem dX12_saysHandle_26 : decode cX12_saysHandle 26 = .ok (.goto (-19), 3) := by decide +kernel
theorem dX12_saysHandle_29 : decode cX12_saysHandle 29 = .ok (.return_, 1) := by decide +kernel
theorem dX12_errorWord_0 : decode cX12_errorWord 0 = .ok (.iload_n 0, 1) := by decide +kernel
theorem dX12_errorWord_1 : decode cX12_errorWord 1 = .ok (.tableswitch 91 1 10 #[55, 91, 59, 63, 67, 71, 75, 79, 83, 87], 55) := by decide +kernel
theorem dX12_errorWord_56 : decode cX12_errorWord 56 = .ok (.ldc_w 302, 3) := by decide +kernel
theorem dX12_errorWord_59 : decode cX12_errorWord 59 = .ok (.areturn, 1) := by decide +kernel
theorem dX12_errorWord_60 : decode cX12_errorWord 60 = .ok (.ldc_w 304, 3) := by decide +kernel
theorem dX12_errorWord_63 : decode cX12_errorWord 63 = .ok (.areturn, 1) := by decide +kernel
theorem dX12_errorWord_64 : decode cX12_errorWord 64 = .ok (.ldc_w 306, 3) := by decide +kernel
theorem dX12_errorWord_67 : decode cX12_errorWord 67 = .ok (.areturn, 1) := by decide +kernel
theorem dX12_errorWord_68 : decode cX12_errorWord 68 = .ok (.ldc_w 308, 3) := by decide +kernel
theorem dX12_errorWord_71 : decode cX12_errorWord 71 = .ok (.areturn, 1) := by decide +kernel
theorem dX12_errorWord_72 : decode cX12_errorWord 72 = .ok (.ldc_w 310, 3) := by decide +kernel
theorem dX12_errorWord_75 : decode cX12_errorWord 75 = .ok (.areturn, 1) := by decide +kernel
theorem dX12_errorWord_76 : decode cX12_errorWord 76 = .ok (.ldc_w 312, 3) := by decide +kernel
theorem dX12_errorWord_79 : decode cX12_errorWord 79 = .ok (.areturn, 1) := by decide +kernel
theorem dX12_errorWord_80 : decode cX12_errorWord 80 = .ok (.ldc_w 314, 3) := by decide +kernel
theorem dX12_errorWord_83 : decode cX12_errorWord 83 = .ok (.areturn, 1) := by decide +kernel
theorem dX12_errorWord_84 : decode cX12_errorWord 84 = .ok (.ldc_w 316, 3) := by decide +kernel
theorem dX12_errorWord_87 : decode cX12_errorWord 87 = .ok (.areturn, 1) := by decide +kernel
theorem dX12_errorWord_88 : decode cX12_errorWord 88 = .ok (.ldc_w 318, 3) := by decide +kernel
theorem dX12_errorWord_91 : decode cX12_errorWord 91 = .ok (.areturn, 1) := by decide +kernel
theorem dX12_errorWord_92 : decode cX12_errorWord 92 = .ok (.ldc_w 320, 3) := by decide +kernel
theorem dX12_errorWord_95 : decode cX12_errorWord 95 = .ok (.areturn, 1) := by decide +kernel
theorem dX12_ends_0 : decode cX12_ends 0 = .ok (.aload_n 0, 1) := by decide +kernel
theorem dX12_ends_1 : decode cX12_ends 1 = .ok (.iload_n 1, 1) := by decide +kernel
theorem dX12_ends_2 : decode cX12_ends 2 = .ok (.putfield 322, 3) := by decide +kernel
theorem dX12_ends_5 : decode cX12_ends 5 = .ok (.aload_n 0, 1) := by decide +kernel
theorem dX12_ends_6 : decode cX12_ends 6 = .ok (.iload_n 2, 1) := by decide +kernel
theorem dX12_ends_7 : decode cX12_ends 7 = .ok (.putfield 325, 3) := by decide +kernel
theorem dX12_ends_10 : decode cX12_ends 10 = .ok (.aload_n 0, 1) := by decide +kernel
theorem dX12_ends_11 : decode cX12_ends 11 = .ok (.iconst 0, 1) := by decide +kernel
theorem dX12_ends_12 : decode cX12_ends 12 = .ok (.putfield 296, 3) := by decide +kernel
theorem dX12_ends_15 : decode cX12_ends 15 = .ok (.return_, 1) := by decide +kernel
theorem dX12_refuses_0 : decode cX12_refuses 0 = .ok (.aload_n 0, 1) := by decide +kernel
theorem dX12_refuses_1 : decode cX12_refuses 1 = .ok (.iload_n 1, 1) := by decide +kernel
theorem dX12_refuses_2 : decode cX12_refuses 2 = .ok (.iload_n 2, 1) := by decide +kernel
theorem dX12_refuses_3 : decode cX12_refuses 3 = .ok (.invokevirtual 328, 3) := by decide +kernel
theorem dX12_refuses_6 : decode cX12_refuses 6 = .ok (.aload_n 0, 1) := by decide +kernel
theorem dX12_refuses_7 : decode cX12_refuses 7 = .ok (.ldc_w 332, 3) := by decide +kernel
theorem dX12_refuses_10 : decode cX12_refuses 10 = .ok (.invokevirtual 334, 3) := by decide +kernel
theorem dX12_refuses_13 : decode cX12_refuses 13 = .ok (.aload_n 0, 1) := by decide +kernel
theorem dX12_refuses_14 : decode cX12_refuses 14 = .ok (.iload_n 2, 1) := by decide +kernel
theorem dX12_refuses_15 : decode cX12_refuses 15 = .ok (.invokestatic 338, 3) := by decide +kernel
theorem dX12_refuses_18 : decode cX12_refuses 18 = .ok (.invokevirtual 334, 3) := by decide +kernel
theorem dX12_refuses_21 : decode cX12_refuses 21 = .ok (.aload_n 0, 1) := by decide +kernel
theorem dX12_refuses_22 : decode cX12_refuses 22 = .ok (.ldc_w 341, 3) := by decide +kernel
theorem dX12_refuses_25 : decode cX12_refuses 25 = .ok (.invokevirtual 334, 3) := by decide +kernel
theorem dX12_refuses_28 : decode cX12_refuses 28 = .ok (.iload_n 1, 1) := by decide +kernel
theorem dX12_refuses_29 : decode cX12_refuses 29 = .ok (.ireturn, 1) := by decide +kernel
theorem dX12_place_0 : decode cX12_place 0 = .ok (.bipush 80, 2) := by decide +kernel
theorem dX12_place_2 : decode cX12_place 2 = .ok (.iconst 3, 1) := by decide +kernel
theorem dX12_place_3 : decode cX12_place 3 = .ok (.iload_n 1, 1) := by decide +kernel
theorem dX12_place_4 : decode cX12_place 4 = .ok (.imul, 1) := by decide +kernel
theorem dX12_place_5 : decode cX12_place 5 = .ok (.iload_n 2, 1) := by decide +kernel
theorem dX12_place_6 : decode cX12_place 6 = .ok (.iadd, 1) := by decide +kernel
theorem dX12_place_7 : decode cX12_place 7 = .ok (.imul, 1) := by decide +kernel
theorem dX12_place_8 : decode cX12_place 8 = .ok (.istore_n 3, 1) := by decide +kernel
theorem dX12_place_9 : decode cX12_place 9 = .ok (.aload_n 0, 1) := by decide +kernel
theorem dX12_place_10 : decode cX12_place 10 = .ok (.getfield 48, 3) := by decide +kernel
theorem dX12_place_13 : decode cX12_place 13 = .ok (.iconst 3, 1) := by decide +kernel
theorem dX12_place_14 : decode cX12_place 14 = .ok (.iload_n 1, 1) := by decide +kernel
theorem dX12_place_15 : decode cX12_place 15 = .ok (.imul, 1) := by decide +kernel
theorem dX12_place_16 : decode cX12_place 16 = .ok (.iload_n 2, 1) := by decide +kernel
theorem dX12_place_17 : decode cX12_place 17 = .ok (.iadd, 1) := by decide +kernel
theorem dX12_place_18 : decode cX12_place 18 = .ok (.iaload, 1) := by decide +kernel
theorem dX12_place_19 : decode cX12_place 19 = .ok (.istore 4, 2) := by decide +kernel
theorem dX12_place_21 : decode cX12_place 21 = .ok (.iconst 0, 1) := by decide +kernel
theorem dX12_place_22 : decode cX12_place 22 = .ok (.istore 5, 2) := by decide +kernel
theorem dX12_place_24 : decode cX12_place 24 = .ok (.iconst 0, 1) := by decide +kernel
theorem dX12_place_25 : decode cX12_place 25 = .ok (.istore 6, 2) := by decide +kernel
theorem dX12_place_27 : decode cX12_place 27 = .ok (.iload 6, 2) := by decide +kernel
theorem dX12_place_29 : decode cX12_place 29 = .ok (.iload 4, 2) := by decide +kernel
theorem dX12_place_31 : decode cX12_place 31 = .ok (.if_icmp .ge 48, 3) := by decide +kernel
theorem dX12_place_34 : decode cX12_place 34 = .ok (.aload_n 0, 1) := by decide +kernel
theorem dX12_place_35 : decode cX12_place 35 = .ok (.aload_n 0, 1) := by decide +kernel
theorem dX12_place_36 : decode cX12_place 36 = .ok (.getfield 45, 3) := by decide +kernel
theorem dX12_place_39 : decode cX12_place 39 = .ok (.iload_n 3, 1) := by decide +kernel
theorem dX12_place_40 : decode cX12_place 40 = .ok (.iload 6, 2) := by decide +kernel
theorem dX12_place_42 : decode cX12_place 42 = .ok (.iadd, 1) := by decide +kernel
theorem dX12_place_43 : decode cX12_place 43 = .ok (.baload, 1) := by decide +kernel
theorem dX12_place_44 : decode cX12_place 44 = .ok (.invokevirtual 299, 3) := by decide +kernel
theorem dX12_place_47 : decode cX12_place 47 = .ok (.iload 5, 2) := by decide +kernel
theorem dX12_place_49 : decode cX12_place 49 = .ok (.ifCond .ne 17, 3) := by decide +kernel
theorem dX12_place_52 : decode cX12_place 52 = .ok (.aload_n 0, 1) := by decide +kernel
theorem dX12_place_53 : decode cX12_place 53 = .ok (.getfield 45, 3) := by decide +kernel
theorem dX12_place_56 : decode cX12_place 56 = .ok (.iload_n 3, 1) := by decide +kernel
theorem dX12_place_57 : decode cX12_place 57 = .ok (.iload 6, 2) := by decide +kernel
theorem dX12_place_59 : decode cX12_place 59 = .ok (.iadd, 1) := by decide +kernel
theorem dX12_place_60 : decode cX12_place 60 = .ok (.baload, 1) := by decide +kernel
theorem dX12_place_61 : decode cX12_place 61 = .ok (.bipush 63, 2) := by decide +kernel
theorem dX12_place_63 : decode cX12_place 63 = .ok (.if_icmp .ne 7, 3) := by decide +kernel
theorem dX12_place_66 : decode cX12_place 66 = .ok (.iconst 1, 1) := by decide +kernel
theorem dX12_place_67 : decode cX12_place 67 = .ok (.goto 4, 3) := by decide +kernel
theorem dX12_place_70 : decode cX12_place 70 = .ok (.iconst 0, 1) := by decide +kernel
theorem dX12_place_71 : decode cX12_place 71 = .ok (.istore 5, 2) := by decide +kernel
theorem dX12_place_73 : decode cX12_place 73 = .ok (.iinc 6 1, 3) := by decide +kernel
theorem dX12_place_76 : decode cX12_place 76 = .ok (.goto (-49), 3) := by decide +kernel
theorem dX12_place_79 : decode cX12_place 79 = .ok (.aload_n 0, 1) := by decide +kernel
theorem dX12_place_80 : decode cX12_place 80 = .ok (.iload 5, 2) := by decide +kernel
theorem dX12_place_82 : decode cX12_place 82 = .ok (.ifCond .eq 8, 3) := by decide +kernel
theorem dX12_place_85 : decode cX12_place 85 = .ok (.bipush 38, 2) := by decide +kernel
theorem dX12_place_87 : decode cX12_place 87 = .ok (.goto 5, 3) := by decide +kernel
theorem dX12_place_90 : decode cX12_place 90 = .ok (.bipush 63, 2) := by decide +kernel
theorem dX12_place_92 : decode cX12_place 92 = .ok (.invokevirtual 299, 3) := by decide +kernel
theorem dX12_place_95 : decode cX12_place 95 = .ok (.return_, 1) := by decide +kernel
theorem dX12_state_0 : decode cX12_state 0 = .ok (.iload_n 3, 1) := by decide +kernel
theorem dX12_state_1 : decode cX12_state 1 = .ok (.iconst 1, 1) := by decide +kernel
theorem dX12_state_2 : decode cX12_state 2 = .ok (.if_icmp .ge 4, 3) := by decide +kernel
theorem dX12_state_5 : decode cX12_state 5 = .ok (.return_, 1) := by decide +kernel
theorem dX12_state_6 : decode cX12_state 6 = .ok (.aload_n 0, 1) := by decide +kernel
theorem dX12_state_7 : decode cX12_state 7 = .ok (.ldc_w 343, 3) := by decide +kernel
theorem dX12_state_10 : decode cX12_state 10 = .ok (.invokevirtual 334, 3) := by decide +kernel
theorem dX12_state_13 : decode cX12_state 13 = .ok (.iconst 0, 1) := by decide +kernel
theorem dX12_state_14 : decode cX12_state 14 = .ok (.istore 4, 2) := by decide +kernel
theorem dX12_state_16 : decode cX12_state 16 = .ok (.iload 4, 2) := by decide +kernel
theorem dX12_state_18 : decode cX12_state 18 = .ok (.iload_n 3, 1) := by decide +kernel
theorem dX12_state_19 : decode cX12_state 19 = .ok (.if_icmp .ge 141, 3) := by decide +kernel
theorem dX12_state_22 : decode cX12_state 22 = .ok (.aload_n 1, 1) := by decide +kernel
theorem dX12_state_23 : decode cX12_state 23 = .ok (.iload_n 2, 1) := by decide +kernel
theorem dX12_state_24 : decode cX12_state 24 = .ok (.iload 4, 2) := by decide +kernel
theorem dX12_state_26 : decode cX12_state 26 = .ok (.iadd, 1) := by decide +kernel
theorem dX12_state_27 : decode cX12_state 27 = .ok (.baload, 1) := by decide +kernel
theorem dX12_state_28 : decode cX12_state 28 = .ok (.sipush 255, 3) := by decide +kernel
theorem dX12_state_31 : decode cX12_state 31 = .ok (.iand, 1) := by decide +kernel
theorem dX12_state_32 : decode cX12_state 32 = .ok (.istore 5, 2) := by decide +kernel
theorem dX12_state_34 : decode cX12_state 34 = .ok (.iload 5, 2) := by decide +kernel
theorem dX12_state_36 : decode cX12_state 36 = .ok (.invokestatic 345, 3) := by decide +kernel
theorem dX12_state_39 : decode cX12_state 39 = .ok (.ifCond .ne 31, 3) := by decide +kernel
theorem dX12_state_42 : decode cX12_state 42 = .ok (.iload 5, 2) := by decide +kernel
theorem dX12_state_44 : decode cX12_state 44 = .ok (.bipush 45, 2) := by decide +kernel
theorem dX12_state_46 : decode cX12_state 46 = .ok (.if_icmp .eq 24, 3) := by decide +kernel
theorem dX12_state_49 : decode cX12_state 49 = .ok (.iload 5, 2) := by decide +kernel
theorem dX12_state_51 : decode cX12_state 51 = .ok (.bipush 46, 2) := by decide +kernel
theorem dX12_state_53 : decode cX12_state 53 = .ok (.if_icmp .eq 17, 3) := by decide +kernel
theorem dX12_state_56 : decode cX12_state 56 = .ok (.iload 5, 2) := by decide +kernel
theorem dX12_state_58 : decode cX12_state 58 = .ok (.bipush 95, 2) := by decide +kernel
theorem dX12_state_60 : decode cX12_state 60 = .ok (.if_icmp .eq 10, 3) := by decide +kernel
theorem dX12_state_63 : decode cX12_state 63 = .ok (.iload 5, 2) := by decide +kernel
theorem dX12_state_65 : decode cX12_state 65 = .ok (.bipush 126, 2) := by decide +kernel
theorem dX12_state_67 : decode cX12_state 67 = .ok (.if_icmp .ne 12, 3) := by decide +kernel
theorem dX12_state_70 : decode cX12_state 70 = .ok (.aload_n 0, 1) := by decide +kernel
theorem dX12_state_71 : decode cX12_state 71 = .ok (.iload 5, 2) := by decide +kernel
theorem dX12_state_73 : decode cX12_state 73 = .ok (.invokevirtual 299, 3) := by decide +kernel
theorem dX12_state_76 : decode cX12_state 76 = .ok (.goto 78, 3) := by decide +kernel
theorem dX12_state_79 : decode cX12_state 79 = .ok (.aload_n 0, 1) := by decide +kernel
theorem dX12_state_80 : decode cX12_state 80 = .ok (.bipush 37, 2) := by decide +kernel
theorem dX12_state_82 : decode cX12_state 82 = .ok (.invokevirtual 299, 3) := by decide +kernel
theorem dX12_state_85 : decode cX12_state 85 = .ok (.aload_n 0, 1) := by decide +kernel
theorem dX12_state_86 : decode cX12_state 86 = .ok (.iload 5, 2) := by decide +kernel
theorem dX12_state_88 : decode cX12_state 88 = .ok (.iconst 4, 1) := by decide +kernel
theorem dX12_state_89 : decode cX12_state 89 = .ok (.ishr, 1) := by decide +kernel
theorem dX12_state_90 : decode cX12_state 90 = .ok (.bipush 10, 2) := by decide +kernel
theorem dX12_state_92 : decode cX12_state 92 = .ok (.if_icmp .ge 13, 3) := by decide +kernel
theorem dX12_state_95 : decode cX12_state 95 = .ok (.bipush 48, 2) := by decide +kernel
theorem dX12_state_97 : decode cX12_state 97 = .ok (.iload 5, 2) := by decide +kernel
theorem dX12_state_99 : decode cX12_state 99 = .ok (.iconst 4, 1) := by decide +kernel
theorem dX12_state_100 : decode cX12_state 100 = .ok (.ishr, 1) := by decide +kernel
theorem dX12_state_101 : decode cX12_state 101 = .ok (.iadd, 1) := by decide +kernel
theorem dX12_state_102 : decode cX12_state 102 = .ok (.goto 13, 3) := by decide +kernel
theorem dX12_state_105 : decode cX12_state 105 = .ok (.bipush 65, 2) := by decide +kernel
theorem dX12_state_107 : decode cX12_state 107 = .ok (.iload 5, 2) := by decide +kernel
theorem dX12_state_109 : decode cX12_state 109 = .ok (.iconst 4, 1) := by decide +kernel
theorem dX12_state_110 : decode cX12_state 110 = .ok (.ishr, 1) := by decide +kernel
theorem dX12_state_111 : decode cX12_state 111 = .ok (.iadd, 1) := by decide +kernel
theorem dX12_state_112 : decode cX12_state 112 = .ok (.bipush 10, 2) := by decide +kernel
theorem dX12_state_114 : decode cX12_state 114 = .ok (.isub, 1) := by decide +kernel
theorem dX12_state_115 : decode cX12_state 115 = .ok (.invokevirtual 299, 3) := by decide +kernel
theorem dX12_state_118 : decode cX12_state 118 = .ok (.aload_n 0, 1) := by decide +kernel
theorem dX12_state_119 : decode cX12_state 119 = .ok (.iload 5, 2) := by decide +kernel
theorem dX12_state_121 : decode cX12_state 121 = .ok (.bipush 15, 2) := by decide +kernel
theorem dX12_state_123 : decode cX12_state 123 = .ok (.iand, 1) := by decide +kernel
theorem dX12_state_124 : decode cX12_state 124 = .ok (.bipush 10, 2) := by decide +kernel
theorem dX12_state_126 : decode cX12_state 126 = .ok (.if_icmp .ge 14, 3) := by decide +kernel
theorem dX12_state_129 : decode cX12_state 129 = .ok (.bipush 48, 2) := by decide +kernel
theorem dX12_state_131 : decode cX12_state 131 = .ok (.iload 5, 2) := by decide +kernel
theorem dX12_state_133 : decode cX12_state 133 = .ok (.bipush 15, 2) := by decide +kernel
theorem dX12_state_135 : decode cX12_state 135 = .ok (.iand, 1) := by decide +kernel
theorem dX12_state_136 : decode cX12_state 136 = .ok (.iadd, 1) := by decide +kernel
theorem dX12_state_137 : decode cX12_state 137 = .ok (.goto 14, 3) := by decide +kernel
theorem dX12_state_140 : decode cX12_state 140 = .ok (.bipush 65, 2) := by decide +kernel
theorem dX12_state_142 : decode cX12_state 142 = .ok (.iload 5, 2) := by decide +kernel
theorem dX12_state_144 : decode cX12_state 144 = .ok (.bipush 15, 2) := by decide +kernel
theorem dX12_state_146 : decode cX12_state 146 = .ok (.iand, 1) := by decide +kernel
theorem dX12_state_147 : decode cX12_state 147 = .ok (.iadd, 1) := by decide +kernel
theorem dX12_state_148 : decode cX12_state 148 = .ok (.bipush 10, 2) := by decide +kernel
theorem dX12_state_150 : decode cX12_state 150 = .ok (.isub, 1) := by decide +kernel
theorem dX12_state_151 : decode cX12_state 151 = .ok (.invokevirtual 299, 3) := by decide +kernel
theorem dX12_state_154 : decode cX12_state 154 = .ok (.iinc 4 1, 3) := by decide +kernel
theorem dX12_state_157 : decode cX12_state 157 = .ok (.goto (-141), 3) := by decide +kernel
theorem dX12_state_160 : decode cX12_state 160 = .ok (.return_, 1) := by decide +kernel
theorem dX12_feed_0 : decode cX12_feed 0 = .ok (.aload_n 0, 1) := by decide +kernel
theorem dX12_feed_1 : decode cX12_feed 1 = .ok (.iconst 0, 1) := by decide +kernel
theorem dX12_feed_2 : decode cX12_feed 2 = .ok (.putfield 188, 3) := by decide +kernel
theorem dX12_feed_5 : decode cX12_feed 5 = .ok (.aload_n 0, 1) := by decide +kernel
theorem dX12_feed_6 : decode cX12_feed 6 = .ok (.getfield 348, 3) := by decide +kernel
theorem dX12_feed_9 : decode cX12_feed 9 = .ok (.bipush 20, 2) := by decide +kernel
theorem dX12_feed_11 : decode cX12_feed 11 = .ok (.iadd, 1) := by decide +kernel
theorem dX12_feed_12 : decode cX12_feed 12 = .ok (.sipush 2000, 3) := by decide +kernel
theorem dX12_feed_15 : decode cX12_feed 15 = .ok (.if_icmp .le 5, 3) := by decide +kernel
theorem dX12_feed_18 : decode cX12_feed 18 = .ok (.iconst (-1), 1) := by decide +kernel
theorem dX12_feed_19 : decode cX12_feed 19 = .ok (.ireturn, 1) := by decide +kernel
theorem dX12_feed_20 : decode cX12_feed 20 = .ok (.aload_n 0, 1) := by decide +kernel
theorem dX12_feed_21 : decode cX12_feed 21 = .ok (.getfield 173, 3) := by decide +kernel
theorem dX12_feed_24 : decode cX12_feed 24 = .ok (.iconst 0, 1) := by decide +kernel
theorem dX12_feed_25 : decode cX12_feed 25 = .ok (.iload_n 1, 1) := by decide +kernel
theorem dX12_feed_26 : decode cX12_feed 26 = .ok (.iastore, 1) := by decide +kernel
theorem dX12_feed_27 : decode cX12_feed 27 = .ok (.aload_n 0, 1) := by decide +kernel
theorem dX12_feed_28 : decode cX12_feed 28 = .ok (.getfield 173, 3) := by decide +kernel
theorem dX12_feed_31 : decode cX12_feed 31 = .ok (.iconst 1, 1) := by decide +kernel
theorem dX12_feed_32 : decode cX12_feed 32 = .ok (.iload_n 2, 1) := by decide +kernel
theorem dX12_feed_33 : decode cX12_feed 33 = .ok (.iastore, 1) := by decide +kernel
theorem dX12_feed_34 : decode cX12_feed 34 = .ok (.aload_n 0, 1) := by decide +kernel
theorem dX12_feed_35 : decode cX12_feed 35 = .ok (.getfield 173, 3) := by decide +kernel
theorem dX12_feed_38 : decode cX12_feed 38 = .ok (.iconst 2, 1) := by decide +kernel
theorem dX12_feed_39 : decode cX12_feed 39 = .ok (.iload_n 3, 1) := by decide +kernel
theorem dX12_feed_40 : decode cX12_feed 40 = .ok (.iastore, 1) := by decide +kernel
theorem dX12_feed_41 : decode cX12_feed 41 = .ok (.aload_n 0, 1) := by decide +kernel
theorem dX12_feed_42 : decode cX12_feed 42 = .ok (.getfield 173, 3) := by decide +kernel
theorem dX12_feed_45 : decode cX12_feed 45 = .ok (.iconst 3, 1) := by decide +kernel
theorem dX12_feed_46 : decode cX12_feed 46 = .ok (.iload 4, 2) := by decide +kernel
theorem dX12_feed_48 : decode cX12_feed 48 = .ok (.iastore, 1) := by decide +kernel
theorem dX12_feed_49 : decode cX12_feed 49 = .ok (.aload_n 0, 1) := by decide +kernel
theorem dX12_feed_50 : decode cX12_feed 50 = .ok (.getfield 173, 3) := by decide +kernel
theorem dX12_feed_53 : decode cX12_feed 53 = .ok (.iconst 4, 1) := by decide +kernel
theorem dX12_feed_54 : decode cX12_feed 54 = .ok (.iload 5, 2) := by decide +kernel
theorem dX12_feed_56 : decode cX12_feed 56 = .ok (.iastore, 1) := by decide +kernel
theorem dX12_feed_57 : decode cX12_feed 57 = .ok (.iconst 0, 1) := by decide +kernel
theorem dX12_feed_58 : decode cX12_feed 58 = .ok (.istore 6, 2) := by decide +kernel
theorem dX12_feed_60 : decode cX12_feed 60 = .ok (.iload 6, 2) := by decide +kernel
theorem dX12_feed_62 : decode cX12_feed 62 = .ok (.bipush 20, 2) := by decide +kernel
theorem dX12_feed_64 : decode cX12_feed 64 = .ok (.if_icmp .ge 42, 3) := by decide +kernel
theorem dX12_feed_67 : decode cX12_feed 67 = .ok (.aload_n 0, 1) := by decide +kernel
theorem dX12_feed_68 : decode cX12_feed 68 = .ok (.getfield 9, 3) := by decide +kernel
theorem dX12_feed_71 : decode cX12_feed 71 = .ok (.aload_n 0, 1) := by decide +kernel
theorem dX12_feed_72 : decode cX12_feed 72 = .ok (.getfield 348, 3) := by decide +kernel
theorem dX12_feed_75 : decode cX12_feed 75 = .ok (.iload 6, 2) := by decide +kernel
theorem dX12_feed_77 : decode cX12_feed 77 = .ok (.iadd, 1) := by decide +kernel
theorem dX12_feed_78 : decode cX12_feed 78 = .ok (.aload_n 0, 1) := by decide +kernel
theorem dX12_feed_79 : decode cX12_feed 79 = .ok (.getfield 173, 3) := by decide +kernel
theorem dX12_feed_82 : decode cX12_feed 82 = .ok (.iload 6, 2) := by decide +kernel
theorem dX12_feed_84 : decode cX12_feed 84 = .ok (.iconst 4, 1) := by decide +kernel
theorem dX12_feed_85 : decode cX12_feed 85 = .ok (.idiv, 1) := by decide +kernel
theorem dX12_feed_86 : decode cX12_feed 86 = .ok (.iaload, 1) := by decide +kernel
theorem dX12_feed_87 : decode cX12_feed 87 = .ok (.bipush 24, 2) := by decide +kernel
theorem dX12_feed_89 : decode cX12_feed 89 = .ok (.bipush 8, 2) := by decide +kernel
theorem dX12_feed_91 : decode cX12_feed 91 = .ok (.iload 6, 2) := by decide +kernel
theorem dX12_feed_93 : decode cX12_feed 93 = .ok (.iconst 4, 1) := by decide +kernel
theorem dX12_feed_94 : decode cX12_feed 94 = .ok (.irem, 1) := by decide +kernel
theorem dX12_feed_95 : decode cX12_feed 95 = .ok (.imul, 1) := by decide +kernel
theorem dX12_feed_96 : decode cX12_feed 96 = .ok (.isub, 1) := by decide +kernel
theorem dX12_feed_97 : decode cX12_feed 97 = .ok (.ishr, 1) := by decide +kernel
theorem dX12_feed_98 : decode cX12_feed 98 = .ok (.i2b, 1) := by decide +kernel
theorem dX12_feed_99 : decode cX12_feed 99 = .ok (.bastore, 1) := by decide +kernel
theorem dX12_feed_100 : decode cX12_feed 100 = .ok (.iinc 6 1, 3) := by decide +kernel
theorem dX12_feed_103 : decode cX12_feed 103 = .ok (.goto (-43), 3) := by decide +kernel
theorem dX12_feed_106 : decode cX12_feed 106 = .ok (.aload_n 0, 1) := by decide +kernel
theorem dX12_feed_107 : decode cX12_feed 107 = .ok (.dup, 1) := by decide +kernel
theorem dX12_feed_108 : decode cX12_feed 108 = .ok (.getfield 348, 3) := by decide +kernel
theorem dX12_feed_111 : decode cX12_feed 111 = .ok (.bipush 20, 2) := by decide +kernel
theorem dX12_feed_113 : decode cX12_feed 113 = .ok (.iadd, 1) := by decide +kernel
theorem dX12_feed_114 : decode cX12_feed 114 = .ok (.putfield 348, 3) := by decide +kernel
theorem dX12_feed_117 : decode cX12_feed 117 = .ok (.aload_n 0, 1) := by decide +kernel
theorem dX12_feed_118 : decode cX12_feed 118 = .ok (.getfield 348, 3) := by decide +kernel
theorem dX12_feed_121 : decode cX12_feed 121 = .ok (.ireturn, 1) := by decide +kernel
theorem dX12_end_0 : decode cX12_end 0 = .ok (.aload_n 0, 1) := by decide +kernel
theorem dX12_end_1 : decode cX12_end 1 = .ok (.iconst 0, 1) := by decide +kernel
theorem dX12_end_2 : decode cX12_end 2 = .ok (.putfield 188, 3) := by decide +kernel
theorem dX12_end_5 : decode cX12_end 5 = .ok (.iload_n 1, 1) := by decide +kernel
theorem dX12_end_6 : decode cX12_end 6 = .ok (.ifCond .lt 11, 3) := by decide +kernel
theorem dX12_end_9 : decode cX12_end 9 = .ok (.iload_n 1, 1) := by decide +kernel
theorem dX12_end_10 : decode cX12_end 10 = .ok (.aload_n 0, 1) := by decide +kernel
theorem dX12_end_11 : decode cX12_end 11 = .ok (.getfield 348, 3) := by decide +kernel
theorem dX12_end_14 : decode cX12_end 14 = .ok (.if_icmp .le 5, 3) := by decide +kernel
theorem dX12_end_17 : decode cX12_end 17 = .ok (.iconst 0, 1) := by decide +kernel
theorem dX12_end_18 : decode cX12_end 18 = .ok (.ireturn, 1) := by decide +kernel
theorem dX12_end_19 : decode cX12_end 19 = .ok (.aload_n 0, 1) := by decide +kernel
theorem dX12_end_20 : decode cX12_end 20 = .ok (.iload_n 1, 1) := by decide +kernel
theorem dX12_end_21 : decode cX12_end 21 = .ok (.putfield 348, 3) := by decide +kernel
theorem dX12_end_24 : decode cX12_end 24 = .ok (.iconst 1, 1) := by decide +kernel
theorem dX12_end_25 : decode cX12_end 25 = .ok (.ireturn, 1) := by decide +kernel
theorem dX12_again_0 : decode cX12_again 0 = .ok (.aload_n 0, 1) := by decide +kernel
theorem dX12_again_1 : decode cX12_again 1 = .ok (.iconst 0, 1) := by decide +kernel
theorem dX12_again_2 : decode cX12_again 2 = .ok (.putfield 188, 3) := by decide +kernel
theorem dX12_again_5 : decode cX12_again 5 = .ok (.iload_n 1, 1) := by decide +kernel
theorem dX12_again_6 : decode cX12_again 6 = .ok (.ifCond .lt 33, 3) := by decide +kernel
theorem dX12_again_9 : decode cX12_again 9 = .ok (.iload_n 2, 1) := by decide +kernel
theorem dX12_again_10 : decode cX12_again 10 = .ok (.ifCond .lt 29, 3) := by decide +kernel
theorem dX12_again_13 : decode cX12_again 13 = .ok (.iload_n 1, 1) := by decide +kernel
theorem dX12_again_14 : decode cX12_again 14 = .ok (.i2l, 1) := by decide +kernel
theorem dX12_again_15 : decode cX12_again 15 = .ok (.iload_n 2, 1) := by decide +kernel
theorem dX12_again_16 : decode cX12_again 16 = .ok (.i2l, 1) := by decide +kernel
theorem dX12_again_17 : decode cX12_again 17 = .ok (.ladd, 1) := by decide +kernel
theorem dX12_again_18 : decode cX12_again 18 = .ok (.aload_n 0, 1) := by decide +kernel
theorem dX12_again_19 : decode cX12_again 19 = .ok (.getfield 296, 3) := by decide +kernel
theorem dX12_again_22 : decode cX12_again 22 = .ok (.i2l, 1) := by decide +kernel
theorem dX12_again_23 : decode cX12_again 23 = .ok (.lcmp, 1) := by decide +kernel
theorem dX12_again_24 : decode cX12_again 24 = .ok (.ifCond .gt 15, 3) := by decide +kernel
theorem dX12_again_27 : decode cX12_again 27 = .ok (.aload_n 0, 1) := by decide +kernel
theorem dX12_again_28 : decode cX12_again 28 = .ok (.getfield 348, 3) := by decide +kernel
theorem dX12_again_31 : decode cX12_again 31 = .ok (.iload_n 2, 1) := by decide +kernel
theorem dX12_again_32 : decode cX12_again 32 = .ok (.iadd, 1) := by decide +kernel
theorem dX12_again_33 : decode cX12_again 33 = .ok (.sipush 2000, 3) := by decide +kernel
theorem dX12_again_36 : decode cX12_again 36 = .ok (.if_icmp .le 5, 3) := by decide +kernel
theorem dX12_again_39 : decode cX12_again 39 = .ok (.iconst (-1), 1) := by decide +kernel
theorem dX12_again_40 : decode cX12_again 40 = .ok (.ireturn, 1) := by decide +kernel
theorem dX12_again_41 : decode cX12_again 41 = .ok (.iconst 0, 1) := by decide +kernel
theorem dX12_again_42 : decode cX12_again 42 = .ok (.istore_n 3, 1) := by decide +kernel
theorem dX12_again_43 : decode cX12_again 43 = .ok (.iload_n 3, 1) := by decide +kernel
theorem dX12_again_44 : decode cX12_again 44 = .ok (.iload_n 2, 1) := by decide +kernel
theorem dX12_again_45 : decode cX12_again 45 = .ok (.if_icmp .ge 28, 3) := by decide +kernel
theorem dX12_again_48 : decode cX12_again 48 = .ok (.aload_n 0, 1) := by decide +kernel
theorem dX12_again_49 : decode cX12_again 49 = .ok (.getfield 9, 3) := by decide +kernel
theorem dX12_again_52 : decode cX12_again 52 = .ok (.aload_n 0, 1) := by decide +kernel
theorem dX12_again_53 : decode cX12_again 53 = .ok (.getfield 348, 3) := by decide +kernel
theorem dX12_again_56 : decode cX12_again 56 = .ok (.iload_n 3, 1) := by decide +kernel
theorem dX12_again_57 : decode cX12_again 57 = .ok (.iadd, 1) := by decide +kernel
theorem dX12_again_58 : decode cX12_again 58 = .ok (.aload_n 0, 1) := by decide +kernel
theorem dX12_again_59 : decode cX12_again 59 = .ok (.getfield 13, 3) := by decide +kernel
theorem dX12_again_62 : decode cX12_again 62 = .ok (.iload_n 1, 1) := by decide +kernel
theorem dX12_again_63 : decode cX12_again 63 = .ok (.iload_n 3, 1) := by decide +kernel
theorem dX12_again_64 : decode cX12_again 64 = .ok (.iadd, 1) := by decide +kernel
theorem dX12_again_65 : decode cX12_again 65 = .ok (.baload, 1) := by decide +kernel
theorem dX12_again_66 : decode cX12_again 66 = .ok (.bastore, 1) := by decide +kernel
theorem dX12_again_67 : decode cX12_again 67 = .ok (.iinc 3 1, 3) := by decide +kernel
theorem dX12_again_70 : decode cX12_again 70 = .ok (.goto (-27), 3) := by decide +kernel
theorem dX12_again_73 : decode cX12_again 73 = .ok (.aload_n 0, 1) := by decide +kernel
theorem dX12_again_74 : decode cX12_again 74 = .ok (.dup, 1) := by decide +kernel
theorem dX12_again_75 : decode cX12_again 75 = .ok (.getfield 348, 3) := by decide +kernel
theorem dX12_again_78 : decode cX12_again 78 = .ok (.iload_n 2, 1) := by decide +kernel
theorem dX12_again_79 : decode cX12_again 79 = .ok (.iadd, 1) := by decide +kernel
theorem dX12_again_80 : decode cX12_again 80 = .ok (.putfield 348, 3) := by decide +kernel
theorem dX12_again_83 : decode cX12_again 83 = .ok (.aload_n 0, 1) := by decide +kernel
theorem dX12_again_84 : decode cX12_again 84 = .ok (.getfield 348, 3) := by decide +kernel
theorem dX12_again_87 : decode cX12_again 87 = .ok (.ireturn, 1) := by decide +kernel
theorem dX12_used_0 : decode cX12_used 0 = .ok (.aload_n 0, 1) := by decide +kernel
theorem dX12_used_1 : decode cX12_used 1 = .ok (.iconst 0, 1) := by decide +kernel
theorem dX12_used_2 : decode cX12_used 2 = .ok (.putfield 188, 3) := by decide +kernel
theorem dX12_used_5 : decode cX12_used 5 = .ok (.aload_n 0, 1) := by decide +kernel
theorem dX12_used_6 : decode cX12_used 6 = .ok (.getfield 348, 3) := by decide +kernel
theorem dX12_used_9 : decode cX12_used 9 = .ok (.istore_n 1, 1) := by decide +kernel
theorem dX12_used_10 : decode cX12_used 10 = .ok (.aload_n 0, 1) := by decide +kernel
theorem dX12_used_11 : decode cX12_used 11 = .ok (.iconst 0, 1) := by decide +kernel
theorem dX12_used_12 : decode cX12_used 12 = .ok (.putfield 348, 3) := by decide +kernel
theorem dX12_used_15 : decode cX12_used 15 = .ok (.iload_n 1, 1) := by decide +kernel
theorem dX12_used_16 : decode cX12_used 16 = .ok (.ireturn, 1) := by decide +kernel
theorem dX12_scope_0 : decode cX12_scope 0 = .ok (.aload_n 0, 1) := by decide +kernel
theorem dX12_scope_1 : decode cX12_scope 1 = .ok (.invokevirtual 351, 3) := by decide +kernel
theorem dX12_scope_4 : decode cX12_scope 4 = .ok (.istore_n 1, 1) := by decide +kernel
theorem dX12_scope_5 : decode cX12_scope 5 = .ok (.iload_n 1, 1) := by decide +kernel
theorem dX12_scope_6 : decode cX12_scope 6 = .ok (.ifCond .le 25, 3) := by decide +kernel
theorem dX12_scope_9 : decode cX12_scope 9 = .ok (.iload_n 1, 1) := by decide +kernel
theorem dX12_scope_10 : decode cX12_scope 10 = .ok (.bipush 13, 2) := by decide +kernel
theorem dX12_scope_12 : decode cX12_scope 12 = .ok (.if_icmp .ge 19, 3) := by decide +kernel
theorem dX12_scope_15 : decode cX12_scope 15 = .ok (.aload_n 0, 1) := by decide +kernel
theorem dX12_scope_16 : decode cX12_scope 16 = .ok (.getfield 9, 3) := by decide +kernel
theorem dX12_scope_19 : decode cX12_scope 19 = .ok (.iconst 0, 1) := by decide +kernel
theorem dX12_scope_20 : decode cX12_scope 20 = .ok (.iload_n 1, 1) := by decide +kernel
theorem dX12_scope_21 : decode cX12_scope 21 = .ok (.invokestatic 353, 3) := by decide +kernel
theorem dX12_scope_24 : decode cX12_scope 24 = .ok (.ifCond .eq 7, 3) := by decide +kernel
theorem dX12_scope_27 : decode cX12_scope 27 = .ok (.iconst 1, 1) := by decide +kernel
theorem dX12_scope_28 : decode cX12_scope 28 = .ok (.goto 4, 3) := by decide +kernel
theorem dX12_scope_31 : decode cX12_scope 31 = .ok (.iconst 0, 1) := by decide +kernel
theorem dX12_scope_32 : decode cX12_scope 32 = .ok (.istore_n 2, 1) := by decide +kernel
theorem dX12_scope_33 : decode cX12_scope 33 = .ok (.iconst 0, 1) := by decide +kernel
theorem dX12_scope_34 : decode cX12_scope 34 = .ok (.istore_n 3, 1) := by decide +kernel
theorem dX12_scope_35 : decode cX12_scope 35 = .ok (.iload_n 3, 1) := by decide +kernel
theorem dX12_scope_36 : decode cX12_scope 36 = .ok (.iload_n 1, 1) := by decide +kernel
theorem dX12_scope_37 : decode cX12_scope 37 = .ok (.if_icmp .ge 41, 3) := by decide +kernel
theorem dX12_scope_40 : decode cX12_scope 40 = .ok (.iload_n 2, 1) := by decide +kernel
theorem dX12_scope_41 : decode cX12_scope 41 = .ok (.ifCond .eq 29, 3) := by decide +kernel
theorem dX12_scope_44 : decode cX12_scope 44 = .ok (.aload_n 0, 1) := by decide +kernel
theorem dX12_scope_45 : decode cX12_scope 45 = .ok (.getfield 9, 3) := by decide +kernel
theorem dX12_scope_48 : decode cX12_scope 48 = .ok (.iload_n 3, 1) := by decide +kernel
theorem dX12_scope_49 : decode cX12_scope 49 = .ok (.baload, 1) := by decide +kernel
theorem dX12_scope_50 : decode cX12_scope 50 = .ok (.bipush 34, 2) := by decide +kernel
theorem dX12_scope_52 : decode cX12_scope 52 = .ok (.if_icmp .eq 18, 3) := by decide +kernel
theorem dX12_scope_55 : decode cX12_scope 55 = .ok (.aload_n 0, 1) := by decide +kernel
theorem dX12_scope_56 : decode cX12_scope 56 = .ok (.getfield 9, 3) := by decide +kernel
theorem dX12_scope_59 : decode cX12_scope 59 = .ok (.iload_n 3, 1) := by decide +kernel
theorem dX12_scope_60 : decode cX12_scope 60 = .ok (.baload, 1) := by decide +kernel
theorem dX12_scope_61 : decode cX12_scope 61 = .ok (.bipush 92, 2) := by decide +kernel
theorem dX12_scope_63 : decode cX12_scope 63 = .ok (.if_icmp .eq 7, 3) := by decide +kernel
theorem dX12_scope_66 : decode cX12_scope 66 = .ok (.iconst 1, 1) := by decide +kernel
theorem dX12_scope_67 : decode cX12_scope 67 = .ok (.goto 4, 3) := by decide +kernel
theorem dX12_scope_70 : decode cX12_scope 70 = .ok (.iconst 0, 1) := by decide +kernel
theorem dX12_scope_71 : decode cX12_scope 71 = .ok (.istore_n 2, 1) := by decide +kernel
theorem dX12_scope_72 : decode cX12_scope 72 = .ok (.iinc 3 1, 3) := by decide +kernel
theorem dX12_scope_75 : decode cX12_scope 75 = .ok (.goto (-40), 3) := by decide +kernel
theorem dX12_scope_78 : decode cX12_scope 78 = .ok (.iconst 0, 1) := by decide +kernel
theorem dX12_scope_79 : decode cX12_scope 79 = .ok (.istore_n 3, 1) := by decide +kernel
theorem dX12_scope_80 : decode cX12_scope 80 = .ok (.iload_n 3, 1) := by decide +kernel
theorem dX12_scope_81 : decode cX12_scope 81 = .ok (.aload_n 0, 1) := by decide +kernel
theorem dX12_scope_82 : decode cX12_scope 82 = .ok (.getfield 268, 3) := by decide +kernel
theorem dX12_scope_85 : decode cX12_scope 85 = .ok (.if_icmp .ge 45, 3) := by decide +kernel
theorem dX12_scope_88 : decode cX12_scope 88 = .ok (.iload_n 2, 1) := by decide +kernel
theorem dX12_scope_89 : decode cX12_scope 89 = .ok (.ifCond .eq 33, 3) := by decide +kernel
theorem dX12_scope_92 : decode cX12_scope 92 = .ok (.aload_n 0, 1) := by decide +kernel
theorem dX12_scope_93 : decode cX12_scope 93 = .ok (.getfield 9, 3) := by decide +kernel
theorem dX12_scope_96 : decode cX12_scope 96 = .ok (.iconst 0, 1) := by decide +kernel
theorem dX12_scope_97 : decode cX12_scope 97 = .ok (.iload_n 1, 1) := by decide +kernel
theorem dX12_scope_98 : decode cX12_scope 98 = .ok (.aload_n 0, 1) := by decide +kernel
theorem dX12_scope_99 : decode cX12_scope 99 = .ok (.getfield 16, 3) := by decide +kernel
theorem dX12_scope_102 : decode cX12_scope 102 = .ok (.bipush 12, 2) := by decide +kernel
theorem dX12_scope_104 : decode cX12_scope 104 = .ok (.iload_n 3, 1) := by decide +kernel
theorem dX12_scope_105 : decode cX12_scope 105 = .ok (.imul, 1) := by decide +kernel
theorem dX12_scope_106 : decode cX12_scope 106 = .ok (.aload_n 0, 1) := by decide +kernel
theorem dX12_scope_107 : decode cX12_scope 107 = .ok (.getfield 19, 3) := by decide +kernel
theorem dX12_scope_110 : decode cX12_scope 110 = .ok (.iload_n 3, 1) := by decide +kernel
theorem dX12_scope_111 : decode cX12_scope 111 = .ok (.iaload, 1) := by decide +kernel
theorem dX12_scope_112 : decode cX12_scope 112 = .ok (.invokestatic 264, 3) := by decide +kernel
theorem dX12_scope_115 : decode cX12_scope 115 = .ok (.ifCond .ne 7, 3) := by decide +kernel
theorem dX12_scope_118 : decode cX12_scope 118 = .ok (.iconst 1, 1) := by decide +kernel
theorem dX12_scope_119 : decode cX12_scope 119 = .ok (.goto 4, 3) := by decide +kernel
theorem dX12_scope_122 : decode cX12_scope 122 = .ok (.iconst 0, 1) := by decide +kernel
theorem dX12_scope_123 : decode cX12_scope 123 = .ok (.istore_n 2, 1) := by decide +kernel
theorem dX12_scope_124 : decode cX12_scope 124 = .ok (.iinc 3 1, 3) := by decide +kernel
theorem dX12_scope_127 : decode cX12_scope 127 = .ok (.goto (-47), 3) := by decide +kernel
theorem dX12_scope_130 : decode cX12_scope 130 = .ok (.aload_n 0, 1) := by decide +kernel
theorem dX12_scope_131 : decode cX12_scope 131 = .ok (.iload_n 2, 1) := by decide +kernel
theorem dX12_scope_132 : decode cX12_scope 132 = .ok (.ifCond .ne 7, 3) := by decide +kernel
theorem dX12_scope_135 : decode cX12_scope 135 = .ok (.iconst 1, 1) := by decide +kernel
theorem dX12_scope_136 : decode cX12_scope 136 = .ok (.goto 4, 3) := by decide +kernel
theorem dX12_scope_139 : decode cX12_scope 139 = .ok (.iconst 0, 1) := by decide +kernel
theorem dX12_scope_140 : decode cX12_scope 140 = .ok (.iconst 1, 1) := by decide +kernel
theorem dX12_scope_141 : decode cX12_scope 141 = .ok (.invokevirtual 357, 3) := by decide +kernel
theorem dX12_scope_144 : decode cX12_scope 144 = .ok (.ifCond .ne 25, 3) := by decide +kernel
theorem dX12_scope_147 : decode cX12_scope 147 = .ok (.aload_n 0, 1) := by decide +kernel
theorem dX12_scope_148 : decode cX12_scope 148 = .ok (.aload_n 0, 1) := by decide +kernel
theorem dX12_scope_149 : decode cX12_scope 149 = .ok (.getfield 268, 3) := by decide +kernel
theorem dX12_scope_152 : decode cX12_scope 152 = .ok (.bipush 8, 2) := by decide +kernel
theorem dX12_scope_154 : decode cX12_scope 154 = .ok (.if_icmp .ne 7, 3) := by decide +kernel
theorem dX12_scope_157 : decode cX12_scope 157 = .ok (.iconst 1, 1) := by decide +kernel
theorem dX12_scope_158 : decode cX12_scope 158 = .ok (.goto 4, 3) := by decide +kernel
theorem dX12_scope_161 : decode cX12_scope 161 = .ok (.iconst 0, 1) := by decide +kernel
theorem dX12_scope_162 : decode cX12_scope 162 = .ok (.iconst 2, 1) := by decide +kernel
theorem dX12_scope_163 : decode cX12_scope 163 = .ok (.invokevirtual 357, 3) := by decide +kernel
theorem dX12_scope_166 : decode cX12_scope 166 = .ok (.ifCond .eq 5, 3) := by decide +kernel
theorem dX12_scope_169 : decode cX12_scope 169 = .ok (.iconst 0, 1) := by decide +kernel
theorem dX12_scope_170 : decode cX12_scope 170 = .ok (.ireturn, 1) := by decide +kernel
theorem dX12_scope_171 : decode cX12_scope 171 = .ok (.iconst 0, 1) := by decide +kernel
theorem dX12_scope_172 : decode cX12_scope 172 = .ok (.istore_n 3, 1) := by decide +kernel
theorem dX12_scope_173 : decode cX12_scope 173 = .ok (.iload_n 3, 1) := by decide +kernel
theorem dX12_scope_174 : decode cX12_scope 174 = .ok (.iload_n 1, 1) := by decide +kernel
theorem dX12_scope_175 : decode cX12_scope 175 = .ok (.if_icmp .ge 29, 3) := by decide +kernel
theorem dX12_scope_178 : decode cX12_scope 178 = .ok (.aload_n 0, 1) := by decide +kernel
theorem dX12_scope_179 : decode cX12_scope 179 = .ok (.getfield 16, 3) := by decide +kernel
theorem dX12_scope_182 : decode cX12_scope 182 = .ok (.bipush 12, 2) := by decide +kernel
theorem dX12_scope_184 : decode cX12_scope 184 = .ok (.aload_n 0, 1) := by decide +kernel
theorem dX12_scope_185 : decode cX12_scope 185 = .ok (.getfield 268, 3) := by decide +kernel
theorem dX12_scope_188 : decode cX12_scope 188 = .ok (.imul, 1) := by decide +kernel
theorem dX12_scope_189 : decode cX12_scope 189 = .ok (.iload_n 3, 1) := by decide +kernel
theorem dX12_scope_190 : decode cX12_scope 190 = .ok (.iadd, 1) := by decide +kernel
theorem dX12_scope_191 : decode cX12_scope 191 = .ok (.aload_n 0, 1) := by decide +kernel
theorem dX12_scope_192 : decode cX12_scope 192 = .ok (.getfield 9, 3) := by decide +kernel
theorem dX12_scope_195 : decode cX12_scope 195 = .ok (.iload_n 3, 1) := by decide +kernel
theorem dX12_scope_196 : decode cX12_scope 196 = .ok (.baload, 1) := by decide +kernel
theorem dX12_scope_197 : decode cX12_scope 197 = .ok (.bastore, 1) := by decide +kernel
theorem dX12_scope_198 : decode cX12_scope 198 = .ok (.iinc 3 1, 3) := by decide +kernel
theorem dX12_scope_201 : decode cX12_scope 201 = .ok (.goto (-28), 3) := by decide +kernel
theorem dX12_scope_204 : decode cX12_scope 204 = .ok (.aload_n 0, 1) := by decide +kernel
theorem dX12_scope_205 : decode cX12_scope 205 = .ok (.getfield 19, 3) := by decide +kernel
theorem dX12_scope_208 : decode cX12_scope 208 = .ok (.aload_n 0, 1) := by decide +kernel
theorem dX12_scope_209 : decode cX12_scope 209 = .ok (.getfield 268, 3) := by decide +kernel
theorem dX12_scope_212 : decode cX12_scope 212 = .ok (.iload_n 1, 1) := by decide +kernel
theorem dX12_scope_213 : decode cX12_scope 213 = .ok (.iastore, 1) := by decide +kernel
theorem dX12_scope_214 : decode cX12_scope 214 = .ok (.aload_n 0, 1) := by decide +kernel
theorem dX12_scope_215 : decode cX12_scope 215 = .ok (.dup, 1) := by decide +kernel
theorem dX12_scope_216 : decode cX12_scope 216 = .ok (.getfield 268, 3) := by decide +kernel
theorem dX12_scope_219 : decode cX12_scope 219 = .ok (.iconst 1, 1) := by decide +kernel
theorem dX12_scope_220 : decode cX12_scope 220 = .ok (.iadd, 1) := by decide +kernel
theorem dX12_scope_221 : decode cX12_scope 221 = .ok (.putfield 268, 3) := by decide +kernel
theorem dX12_scope_224 : decode cX12_scope 224 = .ok (.aload_n 0, 1) := by decide +kernel
theorem dX12_scope_225 : decode cX12_scope 225 = .ok (.getfield 268, 3) := by decide +kernel
theorem dX12_scope_228 : decode cX12_scope 228 = .ok (.iconst 1, 1) := by decide +kernel
theorem dX12_scope_229 : decode cX12_scope 229 = .ok (.isub, 1) := by decide +kernel
theorem dX12_scope_230 : decode cX12_scope 230 = .ok (.ireturn, 1) := by decide +kernel
theorem dX12_client_0 : decode cX12_client 0 = .ok (.aload_n 0, 1) := by decide +kernel
theorem dX12_client_1 : decode cX12_client 1 = .ok (.invokevirtual 351, 3) := by decide +kernel
theorem dX12_client_4 : decode cX12_client 4 = .ok (.istore 4, 2) := by decide +kernel
theorem dX12_client_6 : decode cX12_client 6 = .ok (.iconst 0, 1) := by decide +kernel
theorem dX12_client_7 : decode cX12_client 7 = .ok (.istore 5, 2) := by decide +kernel
theorem dX12_client_9 : decode cX12_client 9 = .ok (.iload 5, 2) := by decide +kernel
theorem dX12_client_11 : decode cX12_client 11 = .ok (.iload 4, 2) := by decide +kernel
theorem dX12_client_13 : decode cX12_client 13 = .ok (.if_icmp .ge 19, 3) := by decide +kernel
theorem dX12_client_16 : decode cX12_client 16 = .ok (.aload_n 0, 1) := by decide +kernel
theorem dX12_client_17 : decode cX12_client 17 = .ok (.getfield 9, 3) := by decide +kernel
theorem dX12_client_20 : decode cX12_client 20 = .ok (.iload 5, 2) := by decide +kernel
theorem dX12_client_22 : decode cX12_client 22 = .ok (.baload, 1) := by decide +kernel
theorem dX12_client_23 : decode cX12_client 23 = .ok (.ifCond .eq 9, 3) := by decide +kernel
theorem dX12_client_26 : decode cX12_client 26 = .ok (.iinc 5 1, 3) := by decide +kernel
theorem dX12_client_29 : decode cX12_client 29 = .ok (.goto (-20), 3) := by decide +kernel
theorem dX12_client_32 : decode cX12_client 32 = .ok (.iload 4, 2) := by decide +kernel
theorem dX12_client_34 : decode cX12_client 34 = .ok (.iload 5, 2) := by decide +kernel
theorem dX12_client_36 : decode cX12_client 36 = .ok (.isub, 1) := by decide +kernel
theorem dX12_client_37 : decode cX12_client 37 = .ok (.iconst 1, 1) := by decide +kernel
theorem dX12_client_38 : decode cX12_client 38 = .ok (.isub, 1) := by decide +kernel
theorem dX12_client_39 : decode cX12_client 39 = .ok (.istore 6, 2) := by decide +kernel
theorem dX12_client_41 : decode cX12_client 41 = .ok (.iload 5, 2) := by decide +kernel
theorem dX12_client_43 : decode cX12_client 43 = .ok (.ifCond .le 69, 3) := by decide +kernel
theorem dX12_client_46 : decode cX12_client 46 = .ok (.iload 5, 2) := by decide +kernel
theorem dX12_client_48 : decode cX12_client 48 = .ok (.bipush 21, 2) := by decide +kernel
theorem dX12_client_50 : decode cX12_client 50 = .ok (.if_icmp .ge 62, 3) := by decide +kernel
theorem dX12_client_53 : decode cX12_client 53 = .ok (.aload_n 0, 1) := by decide +kernel
theorem dX12_client_54 : decode cX12_client 54 = .ok (.getfield 9, 3) := by decide +kernel
theorem dX12_client_57 : decode cX12_client 57 = .ok (.iconst 0, 1) := by decide +kernel
theorem dX12_client_58 : decode cX12_client 58 = .ok (.iload 5, 2) := by decide +kernel
theorem dX12_client_60 : decode cX12_client 60 = .ok (.invokestatic 353, 3) := by decide +kernel
theorem dX12_client_63 : decode cX12_client 63 = .ok (.ifCond .eq 49, 3) := by decide +kernel
theorem dX12_client_66 : decode cX12_client 66 = .ok (.iload_n 1, 1) := by decide +kernel
theorem dX12_client_67 : decode cX12_client 67 = .ok (.ifCond .eq 34, 3) := by decide +kernel
theorem dX12_client_70 : decode cX12_client 70 = .ok (.iload 6, 2) := by decide +kernel
theorem dX12_client_72 : decode cX12_client 72 = .ok (.ifCond .le 40, 3) := by decide +kernel
theorem dX12_client_75 : decode cX12_client 75 = .ok (.iload 6, 2) := by decide +kernel
theorem dX12_client_77 : decode cX12_client 77 = .ok (.bipush 21, 2) := by decide +kernel
theorem dX12_client_79 : decode cX12_client 79 = .ok (.if_icmp .ge 33, 3) := by decide +kernel
theorem dX12_client_82 : decode cX12_client 82 = .ok (.aload_n 0, 1) := by decide +kernel
theorem dX12_client_83 : decode cX12_client 83 = .ok (.getfield 9, 3) := by decide +kernel
theorem dX12_client_86 : decode cX12_client 86 = .ok (.iload 5, 2) := by decide +kernel
theorem dX12_client_88 : decode cX12_client 88 = .ok (.iconst 1, 1) := by decide +kernel
theorem dX12_client_89 : decode cX12_client 89 = .ok (.iadd, 1) := by decide +kernel
theorem dX12_client_90 : decode cX12_client 90 = .ok (.iload 6, 2) := by decide +kernel
theorem dX12_client_92 : decode cX12_client 92 = .ok (.invokestatic 353, 3) := by decide +kernel
theorem dX12_client_95 : decode cX12_client 95 = .ok (.ifCond .eq 17, 3) := by decide +kernel
theorem dX12_client_98 : decode cX12_client 98 = .ok (.goto 10, 3) := by decide +kernel
theorem dX12_client_101 : decode cX12_client 101 = .ok (.iload 5, 2) := by decide +kernel
theorem dX12_client_103 : decode cX12_client 103 = .ok (.iload 4, 2) := by decide +kernel
theorem dX12_client_105 : decode cX12_client 105 = .ok (.if_icmp .ne 7, 3) := by decide +kernel
theorem dX12_client_108 : decode cX12_client 108 = .ok (.iconst 1, 1) := by decide +kernel
theorem dX12_client_109 : decode cX12_client 109 = .ok (.goto 4, 3) := by decide +kernel
theorem dX12_client_112 : decode cX12_client 112 = .ok (.iconst 0, 1) := by decide +kernel
theorem dX12_client_113 : decode cX12_client 113 = .ok (.istore 7, 2) := by decide +kernel
theorem dX12_client_115 : decode cX12_client 115 = .ok (.iload 7, 2) := by decide +kernel
theorem dX12_client_117 : decode cX12_client 117 = .ok (.ifCond .eq 21, 3) := by decide +kernel
theorem dX12_client_120 : decode cX12_client 120 = .ok (.iload_n 2, 1) := by decide +kernel
theorem dX12_client_121 : decode cX12_client 121 = .ok (.ifCond .lt 17, 3) := by decide +kernel
theorem dX12_client_124 : decode cX12_client 124 = .ok (.iload_n 2, 1) := by decide +kernel
theorem dX12_client_125 : decode cX12_client 125 = .ok (.iconst 1, 1) := by decide +kernel
theorem dX12_client_126 : decode cX12_client 126 = .ok (.aload_n 0, 1) := by decide +kernel
theorem dX12_client_127 : decode cX12_client 127 = .ok (.getfield 268, 3) := by decide +kernel
theorem dX12_client_130 : decode cX12_client 130 = .ok (.ishl, 1) := by decide +kernel
theorem dX12_client_131 : decode cX12_client 131 = .ok (.if_icmp .ge 7, 3) := by decide +kernel
theorem dX12_client_134 : decode cX12_client 134 = .ok (.iconst 1, 1) := by decide +kernel
theorem dX12_client_135 : decode cX12_client 135 = .ok (.goto 4, 3) := by decide +kernel
theorem dX12_client_138 : decode cX12_client 138 = .ok (.iconst 0, 1) := by decide +kernel
theorem dX12_client_139 : decode cX12_client 139 = .ok (.istore 7, 2) := by decide +kernel
theorem dX12_client_141 : decode cX12_client 141 = .ok (.iconst 0, 1) := by decide +kernel
theorem dX12_client_142 : decode cX12_client 142 = .ok (.istore 8, 2) := by decide +kernel
theorem dX12_client_144 : decode cX12_client 144 = .ok (.iload 8, 2) := by decide +kernel
theorem dX12_client_146 : decode cX12_client 146 = .ok (.aload_n 0, 1) := by decide +kernel
theorem dX12_client_147 : decode cX12_client 147 = .ok (.getfield 257, 3) := by decide +kernel
theorem dX12_client_150 : decode cX12_client 150 = .ok (.if_icmp .ge 50, 3) := by decide +kernel
theorem dX12_client_153 : decode cX12_client 153 = .ok (.iload 7, 2) := by decide +kernel
theorem dX12_client_155 : decode cX12_client 155 = .ok (.ifCond .eq 36, 3) := by decide +kernel
theorem dX12_client_158 : decode cX12_client 158 = .ok (.aload_n 0, 1) := by decide +kernel
theorem dX12_client_159 : decode cX12_client 159 = .ok (.getfield 9, 3) := by decide +kernel
theorem dX12_client_162 : decode cX12_client 162 = .ok (.iconst 0, 1) := by decide +kernel
theorem dX12_client_163 : decode cX12_client 163 = .ok (.iload 5, 2) := by decide +kernel
theorem dX12_client_165 : decode cX12_client 165 = .ok (.aload_n 0, 1) := by decide +kernel
theorem dX12_client_166 : decode cX12_client 166 = .ok (.getfield 23, 3) := by decide +kernel
theorem dX12_client_169 : decode cX12_client 169 = .ok (.bipush 20, 2) := by decide +kernel
theorem dX12_client_171 : decode cX12_client 171 = .ok (.iload 8, 2) := by decide +kernel
theorem dX12_client_173 : decode cX12_client 173 = .ok (.imul, 1) := by decide +kernel
theorem dX12_client_174 : decode cX12_client 174 = .ok (.aload_n 0, 1) := by decide +kernel
theorem dX12_client_175 : decode cX12_client 175 = .ok (.getfield 26, 3) := by decide +kernel
theorem dX12_client_178 : decode cX12_client 178 = .ok (.iload 8, 2) := by decide +kernel
theorem dX12_client_180 : decode cX12_client 180 = .ok (.iaload, 1) := by decide +kernel
theorem dX12_client_181 : decode cX12_client 181 = .ok (.invokestatic 264, 3) := by decide +kernel
theorem dX12_client_184 : decode cX12_client 184 = .ok (.ifCond .ne 7, 3) := by decide +kernel
theorem dX12_client_187 : decode cX12_client 187 = .ok (.iconst 1, 1) := by decide +kernel
theorem dX12_client_188 : decode cX12_client 188 = .ok (.goto 4, 3) := by decide +kernel
theorem dX12_client_191 : decode cX12_client 191 = .ok (.iconst 0, 1) := by decide +kernel
theorem dX12_client_192 : decode cX12_client 192 = .ok (.istore 7, 2) := by decide +kernel
theorem dX12_client_194 : decode cX12_client 194 = .ok (.iinc 8 1, 3) := by decide +kernel
theorem dX12_client_197 : decode cX12_client 197 = .ok (.goto (-53), 3) := by decide +kernel
theorem dX12_client_200 : decode cX12_client 200 = .ok (.aload_n 0, 1) := by decide +kernel
theorem dX12_client_201 : decode cX12_client 201 = .ok (.iload 7, 2) := by decide +kernel
theorem dX12_client_203 : decode cX12_client 203 = .ok (.ifCond .ne 7, 3) := by decide +kernel
theorem dX12_client_206 : decode cX12_client 206 = .ok (.iconst 1, 1) := by decide +kernel
theorem dX12_client_207 : decode cX12_client 207 = .ok (.goto 4, 3) := by decide +kernel
theorem dX12_client_210 : decode cX12_client 210 = .ok (.iconst 0, 1) := by decide +kernel
theorem dX12_client_211 : decode cX12_client 211 = .ok (.iconst 1, 1) := by decide +kernel
theorem dX12_client_212 : decode cX12_client 212 = .ok (.invokevirtual 357, 3) := by decide +kernel
theorem dX12_client_215 : decode cX12_client 215 = .ok (.ifCond .ne 25, 3) := by decide +kernel
theorem dX12_client_218 : decode cX12_client 218 = .ok (.aload_n 0, 1) := by decide +kernel
theorem dX12_client_219 : decode cX12_client 219 = .ok (.aload_n 0, 1) := by decide +kernel
theorem dX12_client_220 : decode cX12_client 220 = .ok (.getfield 257, 3) := by decide +kernel
theorem dX12_client_223 : decode cX12_client 223 = .ok (.bipush 8, 2) := by decide +kernel
theorem dX12_client_225 : decode cX12_client 225 = .ok (.if_icmp .ne 7, 3) := by decide +kernel
theorem dX12_client_228 : decode cX12_client 228 = .ok (.iconst 1, 1) := by decide +kernel
theorem dX12_client_229 : decode cX12_client 229 = .ok (.goto 4, 3) := by decide +kernel
theorem dX12_client_232 : decode cX12_client 232 = .ok (.iconst 0, 1) := by decide +kernel
theorem dX12_client_233 : decode cX12_client 233 = .ok (.iconst 2, 1) := by decide +kernel
theorem dX12_client_234 : decode cX12_client 234 = .ok (.invokevirtual 357, 3) := by decide +kernel
theorem dX12_client_237 : decode cX12_client 237 = .ok (.ifCond .eq 5, 3) := by decide +kernel
theorem dX12_client_240 : decode cX12_client 240 = .ok (.iconst 0, 1) := by decide +kernel
theorem dX12_client_241 : decode cX12_client 241 = .ok (.ireturn, 1) := by decide +kernel
theorem dX12_client_242 : decode cX12_client 242 = .ok (.iconst 0, 1) := by decide +kernel
theorem dX12_client_243 : decode cX12_client 243 = .ok (.istore 8, 2) := by decide +kernel
theorem dX12_client_245 : decode cX12_client 245 = .ok (.iload 8, 2) := by decide +kernel
theorem dX12_client_247 : decode cX12_client 247 = .ok (.iload 5, 2) := by decide +kernel
theorem dX12_client_249 : decode cX12_client 249 = .ok (.if_icmp .ge 31, 3) := by decide +kernel
theorem dX12_client_252 : decode cX12_client 252 = .ok (.aload_n 0, 1) := by decide +kernel
theorem dX12_client_253 : decode cX12_client 253 = .ok (.getfield 23, 3) := by decide +kernel
theorem dX12_client_256 : decode cX12_client 256 = .ok (.bipush 20, 2) := by decide +kernel
theorem dX12_client_258 : decode cX12_client 258 = .ok (.aload_n 0, 1) := by decide +kernel
theorem dX12_client_259 : decode cX12_client 259 = .ok (.getfield 257, 3) := by decide +kernel
theorem dX12_client_262 : decode cX12_client 262 = .ok (.imul, 1) := by decide +kernel
theorem dX12_client_263 : decode cX12_client 263 = .ok (.iload 8, 2) := by decide +kernel
theorem dX12_client_265 : decode cX12_client 265 = .ok (.iadd, 1) := by decide +kernel
theorem dX12_client_266 : decode cX12_client 266 = .ok (.aload_n 0, 1) := by decide +kernel
theorem dX12_client_267 : decode cX12_client 267 = .ok (.getfield 9, 3) := by decide +kernel
theorem dX12_client_270 : decode cX12_client 270 = .ok (.iload 8, 2) := by decide +kernel
theorem dX12_client_272 : decode cX12_client 272 = .ok (.baload, 1) := by decide +kernel
theorem dX12_client_273 : decode cX12_client 273 = .ok (.bastore, 1) := by decide +kernel
theorem dX12_client_274 : decode cX12_client 274 = .ok (.iinc 8 1, 3) := by decide +kernel
theorem dX12_client_277 : decode cX12_client 277 = .ok (.goto (-32), 3) := by decide +kernel
theorem dX12_client_280 : decode cX12_client 280 = .ok (.aload_n 0, 1) := by decide +kernel
theorem dX12_client_281 : decode cX12_client 281 = .ok (.getfield 26, 3) := by decide +kernel
theorem dX12_client_284 : decode cX12_client 284 = .ok (.aload_n 0, 1) := by decide +kernel
theorem dX12_client_285 : decode cX12_client 285 = .ok (.getfield 257, 3) := by decide +kernel
theorem dX12_client_288 : decode cX12_client 288 = .ok (.iload 5, 2) := by decide +kernel
theorem dX12_client_290 : decode cX12_client 290 = .ok (.iastore, 1) := by decide +kernel
theorem dX12_client_291 : decode cX12_client 291 = .ok (.iconst 0, 1) := by decide +kernel
theorem dX12_client_292 : decode cX12_client 292 = .ok (.istore 8, 2) := by decide +kernel
theorem dX12_client_294 : decode cX12_client 294 = .ok (.iload 8, 2) := by decide +kernel
theorem dX12_client_296 : decode cX12_client 296 = .ok (.iload 6, 2) := by decide +kernel
theorem dX12_client_298 : decode cX12_client 298 = .ok (.if_icmp .ge 40, 3) := by decide +kernel
theorem dX12_client_301 : decode cX12_client 301 = .ok (.iload_n 1, 1) := by decide +kernel
theorem dX12_client_302 : decode cX12_client 302 = .ok (.ifCond .eq 36, 3) := by decide +kernel
theorem dX12_client_305 : decode cX12_client 305 = .ok (.aload_n 0, 1) := by decide +kernel
theorem dX12_client_306 : decode cX12_client 306 = .ok (.getfield 29, 3) := by decide +kernel
theorem dX12_client_309 : decode cX12_client 309 = .ok (.bipush 20, 2) := by decide +kernel
theorem dX12_client_311 : decode cX12_client 311 = .ok (.aload_n 0, 1) := by decide +kernel
theorem dX12_client_312 : decode cX12_client 312 = .ok (.getfield 257, 3) := by decide +kernel
theorem dX12_client_315 : decode cX12_client 315 = .ok (.imul, 1) := by decide +kernel
theorem dX12_client_316 : decode cX12_client 316 = .ok (.iload 8, 2) := by decide +kernel
theorem dX12_client_318 : decode cX12_client 318 = .ok (.iadd, 1) := by decide +kernel
theorem dX12_client_319 : decode cX12_client 319 = .ok (.aload_n 0, 1) := by decide +kernel
theorem dX12_client_320 : decode cX12_client 320 = .ok (.getfield 9, 3) := by decide +kernel
theorem dX12_client_323 : decode cX12_client 323 = .ok (.iload 5, 2) := by decide +kernel
theorem dX12_client_325 : decode cX12_client 325 = .ok (.iconst 1, 1) := by decide +kernel
theorem dX12_client_326 : decode cX12_client 326 = .ok (.iadd, 1) := by decide +kernel
theorem dX12_client_327 : decode cX12_client 327 = .ok (.iload 8, 2) := by decide +kernel
theorem dX12_client_329 : decode cX12_client 329 = .ok (.iadd, 1) := by decide +kernel
theorem dX12_client_330 : decode cX12_client 330 = .ok (.baload, 1) := by decide +kernel
theorem dX12_client_331 : decode cX12_client 331 = .ok (.bastore, 1) := by decide +kernel
theorem dX12_client_332 : decode cX12_client 332 = .ok (.iinc 8 1, 3) := by decide +kernel
theorem dX12_client_335 : decode cX12_client 335 = .ok (.goto (-41), 3) := by decide +kernel
theorem dX12_client_338 : decode cX12_client 338 = .ok (.aload_n 0, 1) := by decide +kernel
theorem dX12_client_339 : decode cX12_client 339 = .ok (.getfield 32, 3) := by decide +kernel
theorem dX12_client_342 : decode cX12_client 342 = .ok (.aload_n 0, 1) := by decide +kernel
theorem dX12_client_343 : decode cX12_client 343 = .ok (.getfield 257, 3) := by decide +kernel
theorem dX12_client_346 : decode cX12_client 346 = .ok (.iload_n 1, 1) := by decide +kernel
theorem dX12_client_347 : decode cX12_client 347 = .ok (.ifCond .eq 8, 3) := by decide +kernel
theorem dX12_client_350 : decode cX12_client 350 = .ok (.iload 6, 2) := by decide +kernel
theorem dX12_client_352 : decode cX12_client 352 = .ok (.goto 4, 3) := by decide +kernel
theorem dX12_client_355 : decode cX12_client 355 = .ok (.iconst 0, 1) := by decide +kernel
theorem dX12_client_356 : decode cX12_client 356 = .ok (.iastore, 1) := by decide +kernel
theorem dX12_client_357 : decode cX12_client 357 = .ok (.aload_n 0, 1) := by decide +kernel
theorem dX12_client_358 : decode cX12_client 358 = .ok (.getfield 35, 3) := by decide +kernel
theorem dX12_client_361 : decode cX12_client 361 = .ok (.aload_n 0, 1) := by decide +kernel
theorem dX12_client_362 : decode cX12_client 362 = .ok (.getfield 257, 3) := by decide +kernel
theorem dX12_client_365 : decode cX12_client 365 = .ok (.iload_n 1, 1) := by decide +kernel
theorem dX12_client_366 : decode cX12_client 366 = .ok (.bastore, 1) := by decide +kernel
theorem dX12_client_367 : decode cX12_client 367 = .ok (.aload_n 0, 1) := by decide +kernel
theorem dX12_client_368 : decode cX12_client 368 = .ok (.getfield 39, 3) := by decide +kernel
theorem dX12_client_371 : decode cX12_client 371 = .ok (.aload_n 0, 1) := by decide +kernel
theorem dX12_client_372 : decode cX12_client 372 = .ok (.getfield 257, 3) := by decide +kernel
theorem dX12_client_375 : decode cX12_client 375 = .ok (.iload_n 2, 1) := by decide +kernel
theorem dX12_client_376 : decode cX12_client 376 = .ok (.iastore, 1) := by decide +kernel
theorem dX12_client_377 : decode cX12_client 377 = .ok (.aload_n 0, 1) := by decide +kernel
theorem dX12_client_378 : decode cX12_client 378 = .ok (.getfield 42, 3) := by decide +kernel
theorem dX12_client_381 : decode cX12_client 381 = .ok (.aload_n 0, 1) := by decide +kernel
theorem dX12_client_382 : decode cX12_client 382 = .ok (.getfield 257, 3) := by decide +kernel
theorem dX12_client_385 : decode cX12_client 385 = .ok (.iload_n 3, 1) := by decide +kernel
theorem dX12_client_386 : decode cX12_client 386 = .ok (.bastore, 1) := by decide +kernel
theorem dX12_client_387 : decode cX12_client 387 = .ok (.aload_n 0, 1) := by decide +kernel
theorem dX12_client_388 : decode cX12_client 388 = .ok (.dup, 1) := by decide +kernel
theorem dX12_client_389 : decode cX12_client 389 = .ok (.getfield 257, 3) := by decide +kernel
theorem dX12_client_392 : decode cX12_client 392 = .ok (.iconst 1, 1) := by decide +kernel
theorem dX12_client_393 : decode cX12_client 393 = .ok (.iadd, 1) := by decide +kernel
theorem dX12_client_394 : decode cX12_client 394 = .ok (.putfield 257, 3) := by decide +kernel
theorem dX12_client_397 : decode cX12_client 397 = .ok (.aload_n 0, 1) := by decide +kernel
theorem dX12_client_398 : decode cX12_client 398 = .ok (.getfield 257, 3) := by decide +kernel
theorem dX12_client_401 : decode cX12_client 401 = .ok (.iconst 1, 1) := by decide +kernel
theorem dX12_client_402 : decode cX12_client 402 = .ok (.isub, 1) := by decide +kernel
theorem dX12_client_403 : decode cX12_client 403 = .ok (.ireturn, 1) := by decide +kernel
theorem dX12_redirect_0 : decode cX12_redirect 0 = .ok (.aload_n 0, 1) := by decide +kernel
theorem dX12_redirect_1 : decode cX12_redirect 1 = .ok (.invokevirtual 351, 3) := by decide +kernel
theorem dX12_redirect_4 : decode cX12_redirect 4 = .ok (.istore_n 2, 1) := by decide +kernel
theorem dX12_redirect_5 : decode cX12_redirect 5 = .ok (.aload_n 0, 1) := by decide +kernel
theorem dX12_redirect_6 : decode cX12_redirect 6 = .ok (.iload_n 1, 1) := by decide +kernel
theorem dX12_redirect_7 : decode cX12_redirect 7 = .ok (.ifCond .lt 11, 3) := by decide +kernel
theorem dX12_redirect_10 : decode cX12_redirect 10 = .ok (.iload_n 1, 1) := by decide +kernel
theorem dX12_redirect_11 : decode cX12_redirect 11 = .ok (.aload_n 0, 1) := by decide +kernel
theorem dX12_redirect_12 : decode cX12_redirect 12 = .ok (.getfield 257, 3) := by decide +kernel
theorem dX12_redirect_15 : decode cX12_redirect 15 = .ok (.if_icmp .lt 7, 3) := by decide +kernel
theorem dX12_redirect_18 : decode cX12_redirect 18 = .ok (.iconst 1, 1) := by decide +kernel
theorem dX12_redirect_19 : decode cX12_redirect 19 = .ok (.goto 4, 3) := by decide +kernel
theorem dX12_redirect_22 : decode cX12_redirect 22 = .ok (.iconst 0, 1) := by decide +kernel
theorem dX12_redirect_23 : decode cX12_redirect 23 = .ok (.iconst 1, 1) := by decide +kernel
theorem dX12_redirect_24 : decode cX12_redirect 24 = .ok (.invokevirtual 357, 3) := by decide +kernel
theorem dX12_redirect_27 : decode cX12_redirect 27 = .ok (.ifCond .eq 5, 3) := by decide +kernel
theorem dX12_redirect_30 : decode cX12_redirect 30 = .ok (.iconst 0, 1) := by decide +kernel
theorem dX12_redirect_31 : decode cX12_redirect 31 = .ok (.ireturn, 1) := by decide +kernel
theorem dX12_redirect_32 : decode cX12_redirect 32 = .ok (.iload_n 2, 1) := by decide +kernel
theorem dX12_redirect_33 : decode cX12_redirect 33 = .ok (.ifCond .le 25, 3) := by decide +kernel
theorem dX12_redirect_36 : decode cX12_redirect 36 = .ok (.iload_n 2, 1) := by decide +kernel
theorem dX12_redirect_37 : decode cX12_redirect 37 = .ok (.bipush 81, 2) := by decide +kernel
theorem dX12_redirect_39 : decode cX12_redirect 39 = .ok (.if_icmp .ge 19, 3) := by decide +kernel
theorem dX12_redirect_42 : decode cX12_redirect 42 = .ok (.aload_n 0, 1) := by decide +kernel
theorem dX12_redirect_43 : decode cX12_redirect 43 = .ok (.getfield 9, 3) := by decide +kernel
theorem dX12_redirect_46 : decode cX12_redirect 46 = .ok (.iconst 0, 1) := by decide +kernel
theorem dX12_redirect_47 : decode cX12_redirect 47 = .ok (.iload_n 2, 1) := by decide +kernel
theorem dX12_redirect_48 : decode cX12_redirect 48 = .ok (.invokestatic 353, 3) := by decide +kernel
theorem dX12_redirect_51 : decode cX12_redirect 51 = .ok (.ifCond .eq 7, 3) := by decide +kernel
theorem dX12_redirect_54 : decode cX12_redirect 54 = .ok (.iconst 1, 1) := by decide +kernel
theorem dX12_redirect_55 : decode cX12_redirect 55 = .ok (.goto 4, 3) := by decide +kernel
theorem dX12_redirect_58 : decode cX12_redirect 58 = .ok (.iconst 0, 1) := by decide +kernel
theorem dX12_redirect_59 : decode cX12_redirect 59 = .ok (.istore_n 3, 1) := by decide +kernel
theorem dX12_redirect_60 : decode cX12_redirect 60 = .ok (.iconst 0, 1) := by decide +kernel
theorem dX12_redirect_61 : decode cX12_redirect 61 = .ok (.istore 4, 2) := by decide +kernel
theorem dX12_redirect_63 : decode cX12_redirect 63 = .ok (.iload 4, 2) := by decide +kernel
theorem dX12_redirect_65 : decode cX12_redirect 65 = .ok (.iload_n 2, 1) := by decide +kernel
theorem dX12_redirect_66 : decode cX12_redirect 66 = .ok (.if_icmp .ge 31, 3) := by decide +kernel
theorem dX12_redirect_69 : decode cX12_redirect 69 = .ok (.iload_n 3, 1) := by decide +kernel
theorem dX12_redirect_70 : decode cX12_redirect 70 = .ok (.ifCond .eq 19, 3) := by decide +kernel
theorem dX12_redirect_73 : decode cX12_redirect 73 = .ok (.aload_n 0, 1) := by decide +kernel
theorem dX12_redirect_74 : decode cX12_redirect 74 = .ok (.getfield 9, 3) := by decide +kernel
theorem dX12_redirect_77 : decode cX12_redirect 77 = .ok (.iload 4, 2) := by decide +kernel
theorem dX12_redirect_79 : decode cX12_redirect 79 = .ok (.baload, 1) := by decide +kernel
theorem dX12_redirect_80 : decode cX12_redirect 80 = .ok (.bipush 35, 2) := by decide +kernel
theorem dX12_redirect_82 : decode cX12_redirect 82 = .ok (.if_icmp .eq 7, 3) := by decide +kernel
theorem dX12_redirect_85 : decode cX12_redirect 85 = .ok (.iconst 1, 1) := by decide +kernel
theorem dX12_redirect_86 : decode cX12_redirect 86 = .ok (.goto 4, 3) := by decide +kernel
theorem dX12_redirect_89 : decode cX12_redirect 89 = .ok (.iconst 0, 1) := by decide +kernel
theorem dX12_redirect_90 : decode cX12_redirect 90 = .ok (.istore_n 3, 1) := by decide +kernel
theorem dX12_redirect_91 : decode cX12_redirect 91 = .ok (.iinc 4 1, 3) := by decide +kernel
theorem dX12_redirect_94 : decode cX12_redirect 94 = .ok (.goto (-31), 3) := by decide +kernel
theorem dX12_redirect_97 : decode cX12_redirect 97 = .ok (.aload_n 0, 1) := by decide +kernel
theorem dX12_redirect_98 : decode cX12_redirect 98 = .ok (.iload_n 3, 1) := by decide +kernel
theorem dX12_redirect_99 : decode cX12_redirect 99 = .ok (.ifCond .ne 7, 3) := by decide +kernel
theorem dX12_redirect_102 : decode cX12_redirect 102 = .ok (.iconst 1, 1) := by decide +kernel
theorem dX12_redirect_103 : decode cX12_redirect 103 = .ok (.goto 4, 3) := by decide +kernel
theorem dX12_redirect_106 : decode cX12_redirect 106 = .ok (.iconst 0, 1) := by decide +kernel
theorem dX12_redirect_107 : decode cX12_redirect 107 = .ok (.iconst 2, 1) := by decide +kernel
theorem dX12_redirect_108 : decode cX12_redirect 108 = .ok (.invokevirtual 357, 3) := by decide +kernel
theorem dX12_redirect_111 : decode cX12_redirect 111 = .ok (.ifCond .ne 26, 3) := by decide +kernel
theorem dX12_redirect_114 : decode cX12_redirect 114 = .ok (.aload_n 0, 1) := by decide +kernel
theorem dX12_redirect_115 : decode cX12_redirect 115 = .ok (.aload_n 0, 1) := by decide +kernel
theorem dX12_redirect_116 : decode cX12_redirect 116 = .ok (.getfield 51, 3) := by decide +kernel
theorem dX12_redirect_119 : decode cX12_redirect 119 = .ok (.iload_n 1, 1) := by decide +kernel
theorem dX12_redirect_120 : decode cX12_redirect 120 = .ok (.iaload, 1) := by decide +kernel
theorem dX12_redirect_121 : decode cX12_redirect 121 = .ok (.iconst 3, 1) := by decide +kernel
theorem dX12_redirect_122 : decode cX12_redirect 122 = .ok (.if_icmp .ne 7, 3) := by decide +kernel
theorem dX12_redirect_125 : decode cX12_redirect 125 = .ok (.iconst 1, 1) := by decide +kernel
theorem dX12_redirect_126 : decode cX12_redirect 126 = .ok (.goto 4, 3) := by decide +kernel
theorem dX12_redirect_129 : decode cX12_redirect 129 = .ok (.iconst 0, 1) := by decide +kernel
theorem dX12_redirect_130 : decode cX12_redirect 130 = .ok (.iconst 3, 1) := by decide +kernel
theorem dX12_redirect_131 : decode cX12_redirect 131 = .ok (.invokevirtual 357, 3) := by decide +kernel
theorem dX12_redirect_134 : decode cX12_redirect 134 = .ok (.ifCond .eq 5, 3) := by decide +kernel
theorem dX12_redirect_137 : decode cX12_redirect 137 = .ok (.iconst 0, 1) := by decide +kernel
theorem dX12_redirect_138 : decode cX12_redirect 138 = .ok (.ireturn, 1) := by decide +kernel
theorem dX12_redirect_139 : decode cX12_redirect 139 = .ok (.iconst 3, 1) := by decide +kernel
theorem dX12_redirect_140 : decode cX12_redirect 140 = .ok (.iload_n 1, 1) := by decide +kernel
theorem dX12_redirect_141 : decode cX12_redirect 141 = .ok (.imul, 1) := by decide +kernel
theorem dX12_redirect_142 : decode cX12_redirect 142 = .ok (.aload_n 0, 1) := by decide +kernel
theorem dX12_redirect_143 : decode cX12_redirect 143 = .ok (.getfield 51, 3) := by decide +kernel
theorem dX12_redirect_146 : decode cX12_redirect 146 = .ok (.iload_n 1, 1) := by decide +kernel
theorem dX12_redirect_147 : decode cX12_redirect 147 = .ok (.iaload, 1) := by decide +kernel
theorem dX12_redirect_148 : decode cX12_redirect 148 = .ok (.iadd, 1) := by decide +kernel
theorem dX12_redirect_149 : decode cX12_redirect 149 = .ok (.istore 4, 2) := by decide +kernel
theorem dX12_redirect_151 : decode cX12_redirect 151 = .ok (.iconst 0, 1) := by decide +kernel
theorem dX12_redirect_152 : decode cX12_redirect 152 = .ok (.istore 5, 2) := by decide +kernel
theorem dX12_redirect_154 : decode cX12_redirect 154 = .ok (.iload 5, 2) := by decide +kernel
theorem dX12_redirect_156 : decode cX12_redirect 156 = .ok (.iload_n 2, 1) := by decide +kernel
theorem dX12_redirect_157 : decode cX12_redirect 157 = .ok (.if_icmp .ge 29, 3) := by decide +kernel
theorem dX12_redirect_160 : decode cX12_redirect 160 = .ok (.aload_n 0, 1) := by decide +kernel
theorem dX12_redirect_161 : decode cX12_redirect 161 = .ok (.getfield 45, 3) := by decide +kernel
theorem dX12_redirect_164 : decode cX12_redirect 164 = .ok (.bipush 80, 2) := by decide +kernel
theorem dX12_redirect_166 : decode cX12_redirect 166 = .ok (.iload 4, 2) := by decide +kernel
theorem dX12_redirect_168 : decode cX12_redirect 168 = .ok (.imul, 1) := by decide +kernel
theorem dX12_redirect_169 : decode cX12_redirect 169 = .ok (.iload 5, 2) := by decide +kernel
theorem dX12_redirect_171 : decode cX12_redirect 171 = .ok (.iadd, 1) := by decide +kernel
theorem dX12_redirect_172 : decode cX12_redirect 172 = .ok (.aload_n 0, 1) := by decide +kernel
theorem dX12_redirect_173 : decode cX12_redirect 173 = .ok (.getfield 9, 3) := by decide +kernel
theorem dX12_redirect_176 : decode cX12_redirect 176 = .ok (.iload 5, 2) := by decide +kernel
theorem dX12_redirect_178 : decode cX12_redirect 178 = .ok (.baload, 1) := by decide +kernel
theorem dX12_redirect_179 : decode cX12_redirect 179 = .ok (.bastore, 1) := by decide +kernel
theorem dX12_redirect_180 : decode cX12_redirect 180 = .ok (.iinc 5 1, 3) := by decide +kernel
theorem dX12_redirect_183 : decode cX12_redirect 183 = .ok (.goto (-29), 3) := by decide +kernel
theorem dX12_redirect_186 : decode cX12_redirect 186 = .ok (.aload_n 0, 1) := by decide +kernel
theorem dX12_redirect_187 : decode cX12_redirect 187 = .ok (.getfield 48, 3) := by decide +kernel
theorem dX12_redirect_190 : decode cX12_redirect 190 = .ok (.iload 4, 2) := by decide +kernel
theorem dX12_redirect_192 : decode cX12_redirect 192 = .ok (.iload_n 2, 1) := by decide +kernel
theorem dX12_redirect_193 : decode cX12_redirect 193 = .ok (.iastore, 1) := by decide +kernel
theorem dX12_redirect_194 : decode cX12_redirect 194 = .ok (.aload_n 0, 1) := by decide +kernel
theorem dX12_redirect_195 : decode cX12_redirect 195 = .ok (.getfield 51, 3) := by decide +kernel
theorem dX12_redirect_198 : decode cX12_redirect 198 = .ok (.iload_n 1, 1) := by decide +kernel
theorem dX12_redirect_199 : decode cX12_redirect 199 = .ok (.dup2, 1) := by decide +kernel
theorem dX12_redirect_200 : decode cX12_redirect 200 = .ok (.iaload, 1) := by decide +kernel
theorem dX12_redirect_201 : decode cX12_redirect 201 = .ok (.iconst 1, 1) := by decide +kernel
theorem dX12_redirect_202 : decode cX12_redirect 202 = .ok (.iadd, 1) := by decide +kernel
theorem dX12_redirect_203 : decode cX12_redirect 203 = .ok (.iastore, 1) := by decide +kernel
theorem dX12_redirect_204 : decode cX12_redirect 204 = .ok (.aload_n 0, 1) := by decide +kernel
theorem dX12_redirect_205 : decode cX12_redirect 205 = .ok (.getfield 51, 3) := by decide +kernel
theorem dX12_redirect_208 : decode cX12_redirect 208 = .ok (.iload_n 1, 1) := by decide +kernel
theorem dX12_redirect_209 : decode cX12_redirect 209 = .ok (.iaload, 1) := by decide +kernel
theorem dX12_redirect_210 : decode cX12_redirect 210 = .ok (.ireturn, 1) := by decide +kernel
theorem dX12_isLife_0 : decode cX12_isLife 0 = .ok (.iload_n 0, 1) := by decide +kernel
theorem dX12_isLife_1 : decode cX12_isLife 1 = .ok (.iconst 1, 1) := by decide +kernel
theorem dX12_isLife_2 : decode cX12_isLife 2 = .ok (.if_icmp .lt 14, 3) := by decide +kernel
theorem dX12_isLife_5 : decode cX12_isLife 5 = .ok (.iload_n 0, 1) := by decide +kernel
theorem dX12_isLife_6 : decode cX12_isLife 6 = .ok (.ldc_w 361, 3) := by decide +kernel
theorem dX12_isLife_9 : decode cX12_isLife 9 = .ok (.if_icmp .gt 7, 3) := by decide +kernel
theorem dX12_isLife_12 : decode cX12_isLife 12 = .ok (.iconst 1, 1) := by decide +kernel
theorem dX12_isLife_13 : decode cX12_isLife 13 = .ok (.goto 4, 3) := by decide +kernel
theorem dX12_isLife_16 : decode cX12_isLife 16 = .ok (.iconst 0, 1) := by decide +kernel
theorem dX12_isLife_17 : decode cX12_isLife 17 = .ok (.ireturn, 1) := by decide +kernel
theorem dX12_lives_0 : decode cX12_lives 0 = .ok (.aload_n 0, 1) := by decide +kernel
theorem dX12_lives_1 : decode cX12_lives 1 = .ok (.iconst 0, 1) := by decide +kernel
theorem dX12_lives_2 : decode cX12_lives 2 = .ok (.putfield 188, 3) := by decide +kernel
theorem dX12_lives_5 : decode cX12_lives 5 = .ok (.aload_n 0, 1) := by decide +kernel
theorem dX12_lives_6 : decode cX12_lives 6 = .ok (.iload_n 1, 1) := by decide +kernel
theorem dX12_lives_7 : decode cX12_lives 7 = .ok (.invokestatic 362, 3) := by decide +kernel
theorem dX12_lives_10 : decode cX12_lives 10 = .ok (.ifCond .eq 17, 3) := by decide +kernel
theorem dX12_lives_13 : decode cX12_lives 13 = .ok (.iload_n 2, 1) := by decide +kernel
theorem dX12_lives_14 : decode cX12_lives 14 = .ok (.invokestatic 362, 3) := by decide +kernel
theorem dX12_lives_17 : decode cX12_lives 17 = .ok (.ifCond .eq 10, 3) := by decide +kernel
theorem dX12_lives_20 : decode cX12_lives 20 = .ok (.iload_n 3, 1) := by decide +kernel
theorem dX12_lives_21 : decode cX12_lives 21 = .ok (.invokestatic 362, 3) := by decide +kernel
theorem dX12_lives_24 : decode cX12_lives 24 = .ok (.ifCond .ne 7, 3) := by decide +kernel
theorem dX12_lives_27 : decode cX12_lives 27 = .ok (.iconst 1, 1) := by decide +kernel
theorem dX12_lives_28 : decode cX12_lives 28 = .ok (.goto 4, 3) := by decide +kernel
theorem dX12_lives_31 : decode cX12_lives 31 = .ok (.iconst 0, 1) := by decide +kernel
theorem dX12_lives_32 : decode cX12_lives 32 = .ok (.iconst 1, 1) := by decide +kernel
theorem dX12_lives_33 : decode cX12_lives 33 = .ok (.invokevirtual 357, 3) := by decide +kernel
theorem dX12_lives_36 : decode cX12_lives 36 = .ok (.ifCond .eq 4, 3) := by decide +kernel
theorem dX12_lives_39 : decode cX12_lives 39 = .ok (.return_, 1) := by decide +kernel
theorem dX12_lives_40 : decode cX12_lives 40 = .ok (.aload_n 0, 1) := by decide +kernel
theorem dX12_lives_41 : decode cX12_lives 41 = .ok (.iload_n 1, 1) := by decide +kernel
theorem dX12_lives_42 : decode cX12_lives 42 = .ok (.putfield 60, 3) := by decide +kernel
theorem dX12_lives_45 : decode cX12_lives 45 = .ok (.aload_n 0, 1) := by decide +kernel
theorem dX12_lives_46 : decode cX12_lives 46 = .ok (.iload_n 2, 1) := by decide +kernel
theorem dX12_lives_47 : decode cX12_lives 47 = .ok (.putfield 64, 3) := by decide +kernel
theorem dX12_lives_50 : decode cX12_lives 50 = .ok (.aload_n 0, 1) := by decide +kernel
theorem dX12_lives_51 : decode cX12_lives 51 = .ok (.iload_n 3, 1) := by decide +kernel
theorem dX12_lives_52 : decode cX12_lives 52 = .ok (.putfield 67, 3) := by decide +kernel
theorem dX12_lives_55 : decode cX12_lives 55 = .ok (.return_, 1) := by decide +kernel
theorem dX12_dice_0 : decode cX12_dice 0 = .ok (.aload_n 0, 1) := by decide +kernel
theorem dX12_dice_1 : decode cX12_dice 1 = .ok (.iconst 0, 1) := by decide +kernel
theorem dX12_dice_2 : decode cX12_dice 2 = .ok (.putfield 188, 3) := by decide +kernel
theorem dX12_dice_5 : decode cX12_dice 5 = .ok (.aload_n 0, 1) := by decide +kernel
theorem dX12_dice_6 : decode cX12_dice 6 = .ok (.getfield 278, 3) := by decide +kernel
theorem dX12_dice_9 : decode cX12_dice 9 = .ok (.bipush 60, 2) := by decide +kernel
theorem dX12_dice_11 : decode cX12_dice 11 = .ok (.if_icmp .ne 5, 3) := by decide +kernel
theorem dX12_dice_14 : decode cX12_dice 14 = .ok (.iconst (-1), 1) := by decide +kernel
theorem dX12_dice_15 : decode cX12_dice 15 = .ok (.ireturn, 1) := by decide +kernel
theorem dX12_dice_16 : decode cX12_dice 16 = .ok (.aload_n 0, 1) := by decide +kernel
theorem dX12_dice_17 : decode cX12_dice 17 = .ok (.getfield 54, 3) := by decide +kernel
theorem dX12_dice_20 : decode cX12_dice 20 = .ok (.iconst 4, 1) := by decide +kernel
theorem dX12_dice_21 : decode cX12_dice 21 = .ok (.aload_n 0, 1) := by decide +kernel
theorem dX12_dice_22 : decode cX12_dice 22 = .ok (.getfield 278, 3) := by decide +kernel
theorem dX12_dice_25 : decode cX12_dice 25 = .ok (.imul, 1) := by decide +kernel
theorem dX12_dice_26 : decode cX12_dice 26 = .ok (.iload_n 1, 1) := by decide +kernel
theorem dX12_dice_27 : decode cX12_dice 27 = .ok (.iastore, 1) := by decide +kernel
theorem dX12_dice_28 : decode cX12_dice 28 = .ok (.aload_n 0, 1) := by decide +kernel
theorem dX12_dice_29 : decode cX12_dice 29 = .ok (.getfield 54, 3) := by decide +kernel
theorem dX12_dice_32 : decode cX12_dice 32 = .ok (.iconst 4, 1) := by decide +kernel
theorem dX12_dice_33 : decode cX12_dice 33 = .ok (.aload_n 0, 1) := by decide +kernel
theorem dX12_dice_34 : decode cX12_dice 34 = .ok (.getfield 278, 3) := by decide +kernel
theorem dX12_dice_37 : decode cX12_dice 37 = .ok (.imul, 1) := by decide +kernel
theorem dX12_dice_38 : decode cX12_dice 38 = .ok (.iconst 1, 1) := by decide +kernel
theorem dX12_dice_39 : decode cX12_dice 39 = .ok (.iadd, 1) := by decide +kernel
theorem dX12_dice_40 : decode cX12_dice 40 = .ok (.iload_n 2, 1) := by decide +kernel
theorem dX12_dice_41 : decode cX12_dice 41 = .ok (.iastore, 1) := by decide +kernel
theorem dX12_dice_42 : decode cX12_dice 42 = .ok (.aload_n 0, 1) := by decide +kernel
theorem dX12_dice_43 : decode cX12_dice 43 = .ok (.getfield 54, 3) := by decide +kernel
theorem dX12_dice_46 : decode cX12_dice 46 = .ok (.iconst 4, 1) := by decide +kernel
theorem dX12_dice_47 : decode cX12_dice 47 = .ok (.aload_n 0, 1) := by decide +kernel
theorem dX12_dice_48 : decode cX12_dice 48 = .ok (.getfield 278, 3) := by decide +kernel
theorem dX12_dice_51 : decode cX12_dice 51 = .ok (.imul, 1) := by decide +kernel
theorem dX12_dice_52 : decode cX12_dice 52 = .ok (.iconst 2, 1) := by decide +kernel
theorem dX12_dice_53 : decode cX12_dice 53 = .ok (.iadd, 1) := by decide +kernel
theorem dX12_dice_54 : decode cX12_dice 54 = .ok (.iload_n 3, 1) := by decide +kernel
theorem dX12_dice_55 : decode cX12_dice 55 = .ok (.iastore, 1) := by decide +kernel
theorem dX12_dice_56 : decode cX12_dice 56 = .ok (.aload_n 0, 1) := by decide +kernel
theorem dX12_dice_57 : decode cX12_dice 57 = .ok (.getfield 54, 3) := by decide +kernel
theorem dX12_dice_60 : decode cX12_dice 60 = .ok (.iconst 4, 1) := by decide +kernel
theorem dX12_dice_61 : decode cX12_dice 61 = .ok (.aload_n 0, 1) := by decide +kernel
theorem dX12_dice_62 : decode cX12_dice 62 = .ok (.getfield 278, 3) := by decide +kernel
theorem dX12_dice_65 : decode cX12_dice 65 = .ok (.imul, 1) := by decide +kernel
theorem dX12_dice_66 : decode cX12_dice 66 = .ok (.iconst 3, 1) := by decide +kernel
theorem dX12_dice_67 : decode cX12_dice 67 = .ok (.iadd, 1) := by decide +kernel
theorem dX12_dice_68 : decode cX12_dice 68 = .ok (.iload 4, 2) := by decide +kernel
theorem dX12_dice_70 : decode cX12_dice 70 = .ok (.iastore, 1) := by decide +kernel
theorem dX12_dice_71 : decode cX12_dice 71 = .ok (.aload_n 0, 1) := by decide +kernel
theorem dX12_dice_72 : decode cX12_dice 72 = .ok (.dup, 1) := by decide +kernel
theorem dX12_dice_73 : decode cX12_dice 73 = .ok (.getfield 278, 3) := by decide +kernel
theorem dX12_dice_76 : decode cX12_dice 76 = .ok (.iconst 1, 1) := by decide +kernel
theorem dX12_dice_77 : decode cX12_dice 77 = .ok (.iadd, 1) := by decide +kernel
theorem dX12_dice_78 : decode cX12_dice 78 = .ok (.putfield 278, 3) := by decide +kernel
theorem dX12_dice_81 : decode cX12_dice 81 = .ok (.aload_n 0, 1) := by decide +kernel
theorem dX12_dice_82 : decode cX12_dice 82 = .ok (.getfield 278, 3) := by decide +kernel
theorem dX12_dice_85 : decode cX12_dice 85 = .ok (.ireturn, 1) := by decide +kernel
theorem dX12_tick_0 : decode cX12_tick 0 = .ok (.aload_n 0, 1) := by decide +kernel
theorem dX12_tick_1 : decode cX12_tick 1 = .ok (.iconst 0, 1) := by decide +kernel
theorem dX12_tick_2 : decode cX12_tick 2 = .ok (.putfield 188, 3) := by decide +kernel
theorem dX12_tick_5 : decode cX12_tick 5 = .ok (.aload_n 0, 1) := by decide +kernel
theorem dX12_tick_6 : decode cX12_tick 6 = .ok (.iload_n 1, 1) := by decide +kernel
theorem dX12_tick_7 : decode cX12_tick 7 = .ok (.ifCond .lt 10, 3) := by decide +kernel
theorem dX12_tick_10 : decode cX12_tick 10 = .ok (.iload_n 1, 1) := by decide +kernel
theorem dX12_tick_11 : decode cX12_tick 11 = .ok (.ldc_w 365, 3) := by decide +kernel
theorem dX12_tick_14 : decode cX12_tick 14 = .ok (.if_icmp .le 7, 3) := by decide +kernel
theorem dX12_tick_17 : decode cX12_tick 17 = .ok (.iconst 1, 1) := by decide +kernel
theorem dX12_tick_18 : decode cX12_tick 18 = .ok (.goto 4, 3) := by decide +kernel
theorem dX12_tick_21 : decode cX12_tick 21 = .ok (.iconst 0, 1) := by decide +kernel
theorem dX12_tick_22 : decode cX12_tick 22 = .ok (.iconst 1, 1) := by decide +kernel
theorem dX12_tick_23 : decode cX12_tick 23 = .ok (.invokevirtual 357, 3) := by decide +kernel
theorem dX12_tick_26 : decode cX12_tick 26 = .ok (.ifCond .eq 5, 3) := by decide +kernel
theorem dX12_tick_29 : decode cX12_tick 29 = .ok (.iconst 0, 1) := by decide +kernel
theorem dX12_tick_30 : decode cX12_tick 30 = .ok (.ireturn, 1) := by decide +kernel
theorem dX12_tick_31 : decode cX12_tick 31 = .ok (.aload_n 0, 1) := by decide +kernel
theorem dX12_tick_32 : decode cX12_tick 32 = .ok (.dup, 1) := by decide +kernel
theorem dX12_tick_33 : decode cX12_tick 33 = .ok (.getfield 366, 3) := by decide +kernel
theorem dX12_tick_36 : decode cX12_tick 36 = .ok (.iload_n 1, 1) := by decide +kernel
theorem dX12_tick_37 : decode cX12_tick 37 = .ok (.iadd, 1) := by decide +kernel
theorem dX12_tick_38 : decode cX12_tick 38 = .ok (.putfield 366, 3) := by decide +kernel
theorem dX12_tick_41 : decode cX12_tick 41 = .ok (.aload_n 0, 1) := by decide +kernel
theorem dX12_tick_42 : decode cX12_tick 42 = .ok (.getfield 366, 3) := by decide +kernel
theorem dX12_tick_45 : decode cX12_tick 45 = .ok (.ireturn, 1) := by decide +kernel
theorem dX12_isChallenge_0 : decode cX12_isChallenge 0 = .ok (.aload_n 0, 1) := by decide +kernel
theorem dX12_isChallenge_1 : decode cX12_isChallenge 1 = .ok (.iconst 5, 1) := by decide +kernel
theorem dX12_isChallenge_2 : decode cX12_isChallenge 2 = .ok (.invokevirtual 260, 3) := by decide +kernel
theorem dX12_isChallenge_5 : decode cX12_isChallenge 5 = .ok (.ifCond .eq 18, 3) := by decide +kernel
theorem dX12_isChallenge_8 : decode cX12_isChallenge 8 = .ok (.aload_n 0, 1) := by decide +kernel
theorem dX12_isChallenge_9 : decode cX12_isChallenge 9 = .ok (.getfield 161, 3) := by decide +kernel
theorem dX12_isChallenge_12 : decode cX12_isChallenge 12 = .ok (.iconst 5, 1) := by decide +kernel
theorem dX12_isChallenge_13 : decode cX12_isChallenge 13 = .ok (.iaload, 1) := by decide +kernel
theorem dX12_isChallenge_14 : decode cX12_isChallenge 14 = .ok (.bipush 43, 2) := by decide +kernel
theorem dX12_isChallenge_16 : decode cX12_isChallenge 16 = .ok (.if_icmp .ne 7, 3) := by decide +kernel
theorem dX12_isChallenge_19 : decode cX12_isChallenge 19 = .ok (.iconst 1, 1) := by decide +kernel
theorem dX12_isChallenge_20 : decode cX12_isChallenge 20 = .ok (.goto 4, 3) := by decide +kernel
theorem dX12_isChallenge_23 : decode cX12_isChallenge 23 = .ok (.iconst 0, 1) := by decide +kernel
theorem dX12_isChallenge_24 : decode cX12_isChallenge 24 = .ok (.istore_n 1, 1) := by decide +kernel
theorem dX12_isChallenge_25 : decode cX12_isChallenge 25 = .ok (.iconst 0, 1) := by decide +kernel
theorem dX12_isChallenge_26 : decode cX12_isChallenge 26 = .ok (.istore_n 2, 1) := by decide +kernel
theorem dX12_isChallenge_27 : decode cX12_isChallenge 27 = .ok (.iload_n 1, 1) := by decide +kernel
theorem dX12_isChallenge_28 : decode cX12_isChallenge 28 = .ok (.ifCond .eq 54, 3) := by decide +kernel
theorem dX12_isChallenge_31 : decode cX12_isChallenge 31 = .ok (.iload_n 2, 1) := by decide +kernel
theorem dX12_isChallenge_32 : decode cX12_isChallenge 32 = .ok (.bipush 43, 2) := by decide +kernel
theorem dX12_isChallenge_34 : decode cX12_isChallenge 34 = .ok (.if_icmp .ge 48, 3) := by decide +kernel
theorem dX12_isChallenge_37 : decode cX12_isChallenge 37 = .ok (.aload_n 0, 1) := by decide +kernel
theorem dX12_isChallenge_38 : decode cX12_isChallenge 38 = .ok (.getfield 155, 3) := by decide +kernel
theorem dX12_isChallenge_41 : decode cX12_isChallenge 41 = .ok (.aload_n 0, 1) := by decide +kernel
theorem dX12_isChallenge_42 : decode cX12_isChallenge 42 = .ok (.getfield 158, 3) := by decide +kernel
theorem dX12_isChallenge_45 : decode cX12_isChallenge 45 = .ok (.iconst 5, 1) := by decide +kernel
theorem dX12_isChallenge_46 : decode cX12_isChallenge 46 = .ok (.iaload, 1) := by decide +kernel
theorem dX12_isChallenge_47 : decode cX12_isChallenge 47 = .ok (.iload_n 2, 1) := by decide +kernel
theorem dX12_isChallenge_48 : decode cX12_isChallenge 48 = .ok (.iadd, 1) := by decide +kernel
theorem dX12_isChallenge_49 : decode cX12_isChallenge 49 = .ok (.baload, 1) := by decide +kernel
theorem dX12_isChallenge_50 : decode cX12_isChallenge 50 = .ok (.istore_n 3, 1) := by decide +kernel
theorem dX12_isChallenge_51 : decode cX12_isChallenge 51 = .ok (.iload_n 3, 1) := by decide +kernel
theorem dX12_isChallenge_52 : decode cX12_isChallenge 52 = .ok (.invokestatic 345, 3) := by decide +kernel
theorem dX12_isChallenge_55 : decode cX12_isChallenge 55 = .ok (.ifCond .ne 15, 3) := by decide +kernel
theorem dX12_isChallenge_58 : decode cX12_isChallenge 58 = .ok (.iload_n 3, 1) := by decide +kernel
theorem dX12_isChallenge_59 : decode cX12_isChallenge 59 = .ok (.bipush 45, 2) := by decide +kernel
theorem dX12_isChallenge_61 : decode cX12_isChallenge 61 = .ok (.if_icmp .eq 9, 3) := by decide +kernel
theorem dX12_isChallenge_64 : decode cX12_isChallenge 64 = .ok (.iload_n 3, 1) := by decide +kernel
theorem dX12_isChallenge_65 : decode cX12_isChallenge 65 = .ok (.bipush 95, 2) := by decide +kernel
theorem dX12_isChallenge_67 : decode cX12_isChallenge 67 = .ok (.if_icmp .ne 7, 3) := by decide +kernel
theorem dX12_isChallenge_70 : decode cX12_isChallenge 70 = .ok (.iconst 1, 1) := by decide +kernel
theorem dX12_isChallenge_71 : decode cX12_isChallenge 71 = .ok (.goto 4, 3) := by decide +kernel
theorem dX12_isChallenge_74 : decode cX12_isChallenge 74 = .ok (.iconst 0, 1) := by decide +kernel
theorem dX12_isChallenge_75 : decode cX12_isChallenge 75 = .ok (.istore_n 1, 1) := by decide +kernel
theorem dX12_isChallenge_76 : decode cX12_isChallenge 76 = .ok (.iinc 2 1, 3) := by decide +kernel
theorem dX12_isChallenge_79 : decode cX12_isChallenge 79 = .ok (.goto (-52), 3) := by decide +kernel
theorem dX12_isChallenge_82 : decode cX12_isChallenge 82 = .ok (.iload_n 1, 1) := by decide +kernel
theorem dX12_isChallenge_83 : decode cX12_isChallenge 83 = .ok (.ireturn, 1) := by decide +kernel
theorem dX12_redirectOf_0 : decode cX12_redirectOf 0 = .ok (.aload_n 0, 1) := by decide +kernel
theorem dX12_redirectOf_1 : decode cX12_redirectOf 1 = .ok (.iconst 2, 1) := by decide +kernel
theorem dX12_redirectOf_2 : decode cX12_redirectOf 2 = .ok (.invokevirtual 260, 3) := by decide +kernel
theorem dX12_redirectOf_5 : decode cX12_redirectOf 5 = .ok (.ifCond .ne 19, 3) := by decide +kernel
theorem dX12_redirectOf_8 : decode cX12_redirectOf 8 = .ok (.aload_n 0, 1) := by decide +kernel
theorem dX12_redirectOf_9 : decode cX12_redirectOf 9 = .ok (.getfield 51, 3) := by decide +kernel
theorem dX12_redirectOf_12 : decode cX12_redirectOf 12 = .ok (.iload_n 1, 1) := by decide +kernel
theorem dX12_redirectOf_13 : decode cX12_redirectOf 13 = .ok (.iaload, 1) := by decide +kernel
theorem dX12_redirectOf_14 : decode cX12_redirectOf 14 = .ok (.iconst 1, 1) := by decide +kernel
theorem dX12_redirectOf_15 : decode cX12_redirectOf 15 = .ok (.if_icmp .ne 7, 3) := by decide +kernel
theorem dX12_redirectOf_18 : decode cX12_redirectOf 18 = .ok (.iconst 0, 1) := by decide +kernel
theorem dX12_redirectOf_19 : decode cX12_redirectOf 19 = .ok (.goto 4, 3) := by decide +kernel
theorem dX12_redirectOf_22 : decode cX12_redirectOf 22 = .ok (.iconst (-1), 1) := by decide +kernel
theorem dX12_redirectOf_23 : decode cX12_redirectOf 23 = .ok (.ireturn, 1) := by decide +kernel
theorem dX12_redirectOf_24 : decode cX12_redirectOf 24 = .ok (.iconst (-1), 1) := by decide +kernel
theorem dX12_redirectOf_25 : decode cX12_redirectOf 25 = .ok (.istore_n 2, 1) := by decide +kernel
theorem dX12_redirectOf_26 : decode cX12_redirectOf 26 = .ok (.iconst 2, 1) := by decide +kernel
theorem dX12_redirectOf_27 : decode cX12_redirectOf 27 = .ok (.istore_n 3, 1) := by decide +kernel
theorem dX12_redirectOf_28 : decode cX12_redirectOf 28 = .ok (.iload_n 3, 1) := by decide +kernel
theorem dX12_redirectOf_29 : decode cX12_redirectOf 29 = .ok (.ifCond .lt 65, 3) := by decide +kernel
theorem dX12_redirectOf_32 : decode cX12_redirectOf 32 = .ok (.iload_n 3, 1) := by decide +kernel
theorem dX12_redirectOf_33 : decode cX12_redirectOf 33 = .ok (.aload_n 0, 1) := by decide +kernel
theorem dX12_redirectOf_34 : decode cX12_redirectOf 34 = .ok (.getfield 51, 3) := by decide +kernel
theorem dX12_redirectOf_37 : decode cX12_redirectOf 37 = .ok (.iload_n 1, 1) := by decide +kernel
theorem dX12_redirectOf_38 : decode cX12_redirectOf 38 = .ok (.iaload, 1) := by decide +kernel
theorem dX12_redirectOf_39 : decode cX12_redirectOf 39 = .ok (.if_icmp .ge 49, 3) := by decide +kernel
theorem dX12_redirectOf_42 : decode cX12_redirectOf 42 = .ok (.aload_n 0, 1) := by decide +kernel
theorem dX12_redirectOf_43 : decode cX12_redirectOf 43 = .ok (.getfield 155, 3) := by decide +kernel
theorem dX12_redirectOf_46 : decode cX12_redirectOf 46 = .ok (.aload_n 0, 1) := by decide +kernel
theorem dX12_redirectOf_47 : decode cX12_redirectOf 47 = .ok (.getfield 158, 3) := by decide +kernel
theorem dX12_redirectOf_50 : decode cX12_redirectOf 50 = .ok (.iconst 2, 1) := by decide +kernel
theorem dX12_redirectOf_51 : decode cX12_redirectOf 51 = .ok (.iaload, 1) := by decide +kernel
theorem dX12_redirectOf_52 : decode cX12_redirectOf 52 = .ok (.aload_n 0, 1) := by decide +kernel
theorem dX12_redirectOf_53 : decode cX12_redirectOf 53 = .ok (.getfield 161, 3) := by decide +kernel
theorem dX12_redirectOf_56 : decode cX12_redirectOf 56 = .ok (.iconst 2, 1) := by decide +kernel
theorem dX12_redirectOf_57 : decode cX12_redirectOf 57 = .ok (.iaload, 1) := by decide +kernel
theorem dX12_redirectOf_58 : decode cX12_redirectOf 58 = .ok (.aload_n 0, 1) := by decide +kernel
theorem dX12_redirectOf_59 : decode cX12_redirectOf 59 = .ok (.getfield 45, 3) := by decide +kernel
theorem dX12_redirectOf_62 : decode cX12_redirectOf 62 = .ok (.bipush 80, 2) := by decide +kernel
theorem dX12_redirectOf_64 : decode cX12_redirectOf 64 = .ok (.iconst 3, 1) := by decide +kernel
theorem dX12_redirectOf_65 : decode cX12_redirectOf 65 = .ok (.iload_n 1, 1) := by decide +kernel
theorem dX12_redirectOf_66 : decode cX12_redirectOf 66 = .ok (.imul, 1) := by decide +kernel
theorem dX12_redirectOf_67 : decode cX12_redirectOf 67 = .ok (.iload_n 3, 1) := by decide +kernel
theorem dX12_redirectOf_68 : decode cX12_redirectOf 68 = .ok (.iadd, 1) := by decide +kernel
theorem dX12_redirectOf_69 : decode cX12_redirectOf 69 = .ok (.imul, 1) := by decide +kernel
theorem dX12_redirectOf_70 : decode cX12_redirectOf 70 = .ok (.aload_n 0, 1) := by decide +kernel
theorem dX12_redirectOf_71 : decode cX12_redirectOf 71 = .ok (.getfield 48, 3) := by decide +kernel
theorem dX12_redirectOf_74 : decode cX12_redirectOf 74 = .ok (.iconst 3, 1) := by decide +kernel
theorem dX12_redirectOf_75 : decode cX12_redirectOf 75 = .ok (.iload_n 1, 1) := by decide +kernel
theorem dX12_redirectOf_76 : decode cX12_redirectOf 76 = .ok (.imul, 1) := by decide +kernel
theorem dX12_redirectOf_77 : decode cX12_redirectOf 77 = .ok (.iload_n 3, 1) := by decide +kernel
theorem dX12_redirectOf_78 : decode cX12_redirectOf 78 = .ok (.iadd, 1) := by decide +kernel
theorem dX12_redirectOf_79 : decode cX12_redirectOf 79 = .ok (.iaload, 1) := by decide +kernel
theorem dX12_redirectOf_80 : decode cX12_redirectOf 80 = .ok (.invokestatic 264, 3) := by decide +kernel
theorem dX12_redirectOf_83 : decode cX12_redirectOf 83 = .ok (.ifCond .eq 5, 3) := by decide +kernel
theorem dX12_redirectOf_86 : decode cX12_redirectOf 86 = .ok (.iload_n 3, 1) := by decide +kernel
theorem dX12_redirectOf_87 : decode cX12_redirectOf 87 = .ok (.istore_n 2, 1) := by decide +kernel
theorem dX12_redirectOf_88 : decode cX12_redirectOf 88 = .ok (.iinc 3 (-1), 3) := by decide +kernel
theorem dX12_redirectOf_91 : decode cX12_redirectOf 91 = .ok (.goto (-63), 3) := by decide +kernel
theorem dX12_redirectOf_94 : decode cX12_redirectOf 94 = .ok (.iload_n 2, 1) := by decide +kernel
theorem dX12_redirectOf_95 : decode cX12_redirectOf 95 = .ok (.ireturn, 1) := by decide +kernel
theorem dX12_asked_0 : decode cX12_asked 0 = .ok (.aload_n 0, 1) := by decide +kernel
theorem dX12_asked_1 : decode cX12_asked 1 = .ok (.iconst 3, 1) := by decide +kernel
theorem dX12_asked_2 : decode cX12_asked 2 = .ok (.invokevirtual 260, 3) := by decide +kernel
theorem dX12_asked_5 : decode cX12_asked 5 = .ok (.ifCond .ne 23, 3) := by decide +kernel
theorem dX12_asked_8 : decode cX12_asked 8 = .ok (.aload_n 0, 1) := by decide +kernel
theorem dX12_asked_9 : decode cX12_asked 9 = .ok (.getfield 39, 3) := by decide +kernel
theorem dX12_asked_12 : decode cX12_asked 12 = .ok (.iload_n 1, 1) := by decide +kernel
theorem dX12_asked_13 : decode cX12_asked 13 = .ok (.iaload, 1) := by decide +kernel
theorem dX12_asked_14 : decode cX12_asked 14 = .ok (.ifCond .ne 7, 3) := by decide +kernel
theorem dX12_asked_17 : decode cX12_asked 17 = .ok (.iconst (-1), 1) := by decide +kernel
theorem dX12_asked_18 : decode cX12_asked 18 = .ok (.goto 9, 3) := by decide +kernel
theorem dX12_asked_21 : decode cX12_asked 21 = .ok (.aload_n 0, 1) := by decide +kernel
theorem dX12_asked_22 : decode cX12_asked 22 = .ok (.getfield 39, 3) := by decide +kernel
theorem dX12_asked_25 : decode cX12_asked 25 = .ok (.iload_n 1, 1) := by decide +kernel
theorem dX12_asked_26 : decode cX12_asked 26 = .ok (.iaload, 1) := by decide +kernel
theorem dX12_asked_27 : decode cX12_asked 27 = .ok (.ireturn, 1) := by decide +kernel
theorem dX12_asked_28 : decode cX12_asked 28 = .ok (.aload_n 0, 1) := by decide +kernel
theorem dX12_asked_29 : decode cX12_asked 29 = .ok (.invokevirtual 369, 3) := by decide +kernel
theorem dX12_asked_32 : decode cX12_asked 32 = .ok (.istore_n 2, 1) := by decide +kernel
theorem dX12_asked_33 : decode cX12_asked 33 = .ok (.iload_n 2, 1) := by decide +kernel
theorem dX12_asked_34 : decode cX12_asked 34 = .ok (.ifCond .lt 16, 3) := by decide +kernel
theorem dX12_asked_37 : decode cX12_asked 37 = .ok (.iload_n 2, 1) := by decide +kernel
theorem dX12_asked_38 : decode cX12_asked 38 = .ok (.aload_n 0, 1) := by decide +kernel
theorem dX12_asked_39 : decode cX12_asked 39 = .ok (.getfield 39, 3) := by decide +kernel
theorem dX12_asked_42 : decode cX12_asked 42 = .ok (.iload_n 1, 1) := by decide +kernel
theorem dX12_asked_43 : decode cX12_asked 43 = .ok (.iaload, 1) := by decide +kernel
theorem dX12_asked_44 : decode cX12_asked 44 = .ok (.iconst (-1), 1) := by decide +kernel
theorem dX12_asked_45 : decode cX12_asked 45 = .ok (.ixor, 1) := by decide +kernel
theorem dX12_asked_46 : decode cX12_asked 46 = .ok (.iand, 1) := by decide +kernel
theorem dX12_asked_47 : decode cX12_asked 47 = .ok (.ifCond .eq 7, 3) := by decide +kernel
theorem dX12_asked_50 : decode cX12_asked 50 = .ok (.iconst (-1), 1) := by decide +kernel
theorem dX12_asked_51 : decode cX12_asked 51 = .ok (.goto 4, 3) := by decide +kernel
theorem dX12_asked_54 : decode cX12_asked 54 = .ok (.iload_n 2, 1) := by decide +kernel
theorem dX12_asked_55 : decode cX12_asked 55 = .ok (.ireturn, 1) := by decide +kernel
theorem dX12_authorize_0 : decode cX12_authorize 0 = .ok (.aload_n 0, 1) := by decide +kernel
theorem dX12_authorize_1 : decode cX12_authorize 1 = .ok (.aload_n 0, 1) := by decide +kernel
theorem dX12_authorize_2 : decode cX12_authorize 2 = .ok (.invokevirtual 351, 3) := by decide +kernel
theorem dX12_authorize_5 : decode cX12_authorize 5 = .ok (.invokevirtual 372, 3) := by decide +kernel
theorem dX12_authorize_8 : decode cX12_authorize 8 = .ok (.istore_n 1, 1) := by decide +kernel
theorem dX12_authorize_9 : decode cX12_authorize 9 = .ok (.iload_n 1, 1) := by decide +kernel
theorem dX12_authorize_10 : decode cX12_authorize 10 = .ok (.ifCond .eq 10, 3) := by decide +kernel
theorem dX12_authorize_13 : decode cX12_authorize 13 = .ok (.aload_n 0, 1) := by decide +kernel
theorem dX12_authorize_14 : decode cX12_authorize 14 = .ok (.invokevirtual 375, 3) := by decide +kernel
theorem dX12_authorize_17 : decode cX12_authorize 17 = .ok (.goto 4, 3) := by decide +kernel
theorem dX12_authorize_20 : decode cX12_authorize 20 = .ok (.iconst (-1), 1) := by decide +kernel
theorem dX12_authorize_21 : decode cX12_authorize 21 = .ok (.istore_n 2, 1) := by decide +kernel
theorem dX12_authorize_22 : decode cX12_authorize 22 = .ok (.iload_n 2, 1) := by decide +kernel
theorem dX12_authorize_23 : decode cX12_authorize 23 = .ok (.ifCond .lt 11, 3) := by decide +kernel
theorem dX12_authorize_26 : decode cX12_authorize 26 = .ok (.aload_n 0, 1) := by decide +kernel
theorem dX12_authorize_27 : decode cX12_authorize 27 = .ok (.iload_n 2, 1) := by decide +kernel
theorem dX12_authorize_28 : decode cX12_authorize 28 = .ok (.invokevirtual 378, 3) := by decide +kernel
theorem dX12_authorize_31 : decode cX12_authorize 31 = .ok (.goto 4, 3) := by decide +kernel
theorem dX12_authorize_34 : decode cX12_authorize 34 = .ok (.iconst (-1), 1) := by decide +kernel
theorem dX12_authorize_35 : decode cX12_authorize 35 = .ok (.istore_n 3, 1) := by decide +kernel
theorem dX12_authorize_36 : decode cX12_authorize 36 = .ok (.iload_n 3, 1) := by decide +kernel
theorem dX12_authorize_37 : decode cX12_authorize 37 = .ok (.ifCond .ge 26, 3) := by decide +kernel
theorem dX12_authorize_40 : decode cX12_authorize 40 = .ok (.aload_n 0, 1) := by decide +kernel
theorem dX12_authorize_41 : decode cX12_authorize 41 = .ok (.sipush 400, 3) := by decide +kernel
theorem dX12_authorize_44 : decode cX12_authorize 44 = .ok (.iload_n 1, 1) := by decide +kernel
theorem dX12_authorize_45 : decode cX12_authorize 45 = .ok (.ifCond .eq 12, 3) := by decide +kernel
theorem dX12_authorize_48 : decode cX12_authorize 48 = .ok (.iload_n 2, 1) := by decide +kernel
theorem dX12_authorize_49 : decode cX12_authorize 49 = .ok (.ifCond .ge 8, 3) := by decide +kernel
theorem dX12_authorize_52 : decode cX12_authorize 52 = .ok (.bipush 6, 2) := by decide +kernel
theorem dX12_authorize_54 : decode cX12_authorize 54 = .ok (.goto 4, 3) := by decide +kernel
theorem dX12_authorize_57 : decode cX12_authorize 57 = .ok (.iconst 1, 1) := by decide +kernel
theorem dX12_authorize_58 : decode cX12_authorize 58 = .ok (.invokevirtual 328, 3) := by decide +kernel
theorem dX12_authorize_61 : decode cX12_authorize 61 = .ok (.iconst (-1), 1) := by decide +kernel
theorem dX12_authorize_62 : decode cX12_authorize 62 = .ok (.ireturn, 1) := by decide +kernel
theorem dX12_authorize_63 : decode cX12_authorize 63 = .ok (.iconst 0, 1) := by decide +kernel
theorem dX12_authorize_64 : decode cX12_authorize 64 = .ok (.istore 4, 2) := by decide +kernel
theorem dX12_authorize_66 : decode cX12_authorize 66 = .ok (.aload_n 0, 1) := by decide +kernel
theorem dX12_authorize_67 : decode cX12_authorize 67 = .ok (.iconst 0, 1) := by decide +kernel
theorem dX12_authorize_68 : decode cX12_authorize 68 = .ok (.invokevirtual 260, 3) := by decide +kernel
theorem dX12_authorize_71 : decode cX12_authorize 71 = .ok (.ifCond .ne 9, 3) := by decide +kernel
theorem dX12_authorize_74 : decode cX12_authorize 74 = .ok (.iconst 1, 1) := by decide +kernel
theorem dX12_authorize_75 : decode cX12_authorize 75 = .ok (.istore 4, 2) := by decide +kernel
theorem dX12_authorize_77 : decode cX12_authorize 77 = .ok (.goto 81, 3) := by decide +kernel
theorem dX12_authorize_80 : decode cX12_authorize 80 = .ok (.aload_n 0, 1) := by decide +kernel
theorem dX12_authorize_81 : decode cX12_authorize 81 = .ok (.iconst 0, 1) := by decide +kernel
theorem dX12_authorize_82 : decode cX12_authorize 82 = .ok (.ldc 229, 2) := by decide +kernel
theorem dX12_authorize_84 : decode cX12_authorize 84 = .ok (.invokevirtual 381, 3) := by decide +kernel
theorem dX12_authorize_87 : decode cX12_authorize 87 = .ok (.ifCond .ne 9, 3) := by decide +kernel
theorem dX12_authorize_90 : decode cX12_authorize 90 = .ok (.iconst 4, 1) := by decide +kernel
theorem dX12_authorize_91 : decode cX12_authorize 91 = .ok (.istore 4, 2) := by decide +kernel
theorem dX12_authorize_93 : decode cX12_authorize 93 = .ok (.goto 65, 3) := by decide +kernel
theorem dX12_authorize_96 : decode cX12_authorize 96 = .ok (.aload_n 0, 1) := by decide +kernel
theorem dX12_authorize_97 : decode cX12_authorize 97 = .ok (.invokevirtual 385, 3) := by decide +kernel
theorem dX12_authorize_100 : decode cX12_authorize 100 = .ok (.ifCond .eq 24, 3) := by decide +kernel
theorem dX12_authorize_103 : decode cX12_authorize 103 = .ok (.aload_n 0, 1) := by decide +kernel
theorem dX12_authorize_104 : decode cX12_authorize 104 = .ok (.bipush 6, 2) := by decide +kernel
theorem dX12_authorize_106 : decode cX12_authorize 106 = .ok (.invokevirtual 260, 3) := by decide +kernel
theorem dX12_authorize_109 : decode cX12_authorize 109 = .ok (.ifCond .eq 15, 3) := by decide +kernel
theorem dX12_authorize_112 : decode cX12_authorize 112 = .ok (.aload_n 0, 1) := by decide +kernel
theorem dX12_authorize_113 : decode cX12_authorize 113 = .ok (.bipush 6, 2) := by decide +kernel
theorem dX12_authorize_115 : decode cX12_authorize 115 = .ok (.ldc_w 389, 3) := by decide +kernel
theorem dX12_authorize_118 : decode cX12_authorize 118 = .ok (.invokevirtual 381, 3) := by decide +kernel
theorem dX12_authorize_121 : decode cX12_authorize 121 = .ok (.ifCond .ne 9, 3) := by decide +kernel
theorem dX12_authorize_124 : decode cX12_authorize 124 = .ok (.iconst 1, 1) := by decide +kernel
theorem dX12_authorize_125 : decode cX12_authorize 125 = .ok (.istore 4, 2) := by decide +kernel
theorem dX12_authorize_127 : decode cX12_authorize 127 = .ok (.goto 31, 3) := by decide +kernel
theorem dX12_authorize_130 : decode cX12_authorize 130 = .ok (.aload_n 0, 1) := by decide +kernel
theorem dX12_authorize_131 : decode cX12_authorize 131 = .ok (.iload_n 2, 1) := by decide +kernel
theorem dX12_authorize_132 : decode cX12_authorize 132 = .ok (.invokevirtual 391, 3) := by decide +kernel
theorem dX12_authorize_135 : decode cX12_authorize 135 = .ok (.ifCond .ge 9, 3) := by decide +kernel
theorem dX12_authorize_138 : decode cX12_authorize 138 = .ok (.iconst 5, 1) := by decide +kernel
theorem dX12_authorize_139 : decode cX12_authorize 139 = .ok (.istore 4, 2) := by decide +kernel
theorem dX12_authorize_141 : decode cX12_authorize 141 = .ok (.goto 17, 3) := by decide +kernel
theorem dX12_authorize_144 : decode cX12_authorize 144 = .ok (.aload_n 0, 1) := by decide +kernel
theorem dX12_authorize_145 : decode cX12_authorize 145 = .ok (.getfield 394, 3) := by decide +kernel
theorem dX12_authorize_148 : decode cX12_authorize 148 = .ok (.sipush 200, 3) := by decide +kernel
theorem dX12_authorize_151 : decode cX12_authorize 151 = .ok (.if_icmp .ne 7, 3) := by decide +kernel
theorem dX12_authorize_154 : decode cX12_authorize 154 = .ok (.bipush 11, 2) := by decide +kernel
theorem dX12_authorize_156 : decode cX12_authorize 156 = .ok (.istore 4, 2) := by decide +kernel
theorem dX12_authorize_158 : decode cX12_authorize 158 = .ok (.iload 4, 2) := by decide +kernel
theorem dX12_authorize_160 : decode cX12_authorize 160 = .ok (.ifCond .le 56, 3) := by decide +kernel
theorem dX12_authorize_163 : decode cX12_authorize 163 = .ok (.aload_n 0, 1) := by decide +kernel
theorem dX12_authorize_164 : decode cX12_authorize 164 = .ok (.sipush 302, 3) := by decide +kernel
theorem dX12_authorize_167 : decode cX12_authorize 167 = .ok (.iload 4, 2) := by decide +kernel
theorem dX12_authorize_169 : decode cX12_authorize 169 = .ok (.invokevirtual 328, 3) := by decide +kernel
theorem dX12_authorize_172 : decode cX12_authorize 172 = .ok (.aload_n 0, 1) := by decide +kernel
theorem dX12_authorize_173 : decode cX12_authorize 173 = .ok (.iload_n 2, 1) := by decide +kernel
theorem dX12_authorize_174 : decode cX12_authorize 174 = .ok (.iload_n 3, 1) := by decide +kernel
theorem dX12_authorize_175 : decode cX12_authorize 175 = .ok (.invokevirtual 397, 3) := by decide +kernel
theorem dX12_authorize_178 : decode cX12_authorize 178 = .ok (.aload_n 0, 1) := by decide +kernel
theorem dX12_authorize_179 : decode cX12_authorize 179 = .ok (.ldc_w 400, 3) := by decide +kernel
theorem dX12_authorize_182 : decode cX12_authorize 182 = .ok (.invokevirtual 334, 3) := by decide +kernel
theorem dX12_authorize_185 : decode cX12_authorize 185 = .ok (.aload_n 0, 1) := by decide +kernel
theorem dX12_authorize_186 : decode cX12_authorize 186 = .ok (.iload 4, 2) := by decide +kernel
theorem dX12_authorize_188 : decode cX12_authorize 188 = .ok (.invokestatic 338, 3) := by decide +kernel
theorem dX12_authorize_191 : decode cX12_authorize 191 = .ok (.invokevirtual 334, 3) := by decide +kernel
theorem dX12_authorize_194 : decode cX12_authorize 194 = .ok (.aload_n 0, 1) := by decide +kernel
theorem dX12_authorize_195 : decode cX12_authorize 195 = .ok (.aload_n 0, 1) := by decide +kernel
theorem dX12_authorize_196 : decode cX12_authorize 196 = .ok (.getfield 155, 3) := by decide +kernel
theorem dX12_authorize_199 : decode cX12_authorize 199 = .ok (.aload_n 0, 1) := by decide +kernel
theorem dX12_authorize_200 : decode cX12_authorize 200 = .ok (.getfield 158, 3) := by decide +kernel
theorem dX12_authorize_203 : decode cX12_authorize 203 = .ok (.iconst 4, 1) := by decide +kernel
theorem dX12_authorize_204 : decode cX12_authorize 204 = .ok (.iaload, 1) := by decide +kernel
theorem dX12_authorize_205 : decode cX12_authorize 205 = .ok (.aload_n 0, 1) := by decide +kernel
theorem dX12_authorize_206 : decode cX12_authorize 206 = .ok (.getfield 161, 3) := by decide +kernel
theorem dX12_authorize_209 : decode cX12_authorize 209 = .ok (.iconst 4, 1) := by decide +kernel
theorem dX12_authorize_210 : decode cX12_authorize 210 = .ok (.iaload, 1) := by decide +kernel
theorem dX12_authorize_211 : decode cX12_authorize 211 = .ok (.invokevirtual 402, 3) := by decide +kernel
theorem dX12_authorize_214 : decode cX12_authorize 214 = .ok (.iconst (-1), 1) := by decide +kernel
theorem dX12_authorize_215 : decode cX12_authorize 215 = .ok (.ireturn, 1) := by decide +kernel
theorem dX12_authorize_216 : decode cX12_authorize 216 = .ok (.aload_n 0, 1) := by decide +kernel
theorem dX12_authorize_217 : decode cX12_authorize 217 = .ok (.getfield 70, 3) := by decide +kernel
theorem dX12_authorize_220 : decode cX12_authorize 220 = .ok (.aload_n 0, 1) := by decide +kernel
theorem dX12_authorize_221 : decode cX12_authorize 221 = .ok (.getfield 394, 3) := by decide +kernel
theorem dX12_authorize_224 : decode cX12_authorize 224 = .ok (.iload_n 2, 1) := by decide +kernel
theorem dX12_authorize_225 : decode cX12_authorize 225 = .ok (.iastore, 1) := by decide +kernel
theorem dX12_authorize_226 : decode cX12_authorize 226 = .ok (.aload_n 0, 1) := by decide +kernel
theorem dX12_authorize_227 : decode cX12_authorize 227 = .ok (.getfield 73, 3) := by decide +kernel
theorem dX12_authorize_230 : decode cX12_authorize 230 = .ok (.aload_n 0, 1) := by decide +kernel
theorem dX12_authorize_231 : decode cX12_authorize 231 = .ok (.getfield 394, 3) := by decide +kernel
theorem dX12_authorize_234 : decode cX12_authorize 234 = .ok (.iload_n 3, 1) := by decide +kernel
theorem dX12_authorize_235 : decode cX12_authorize 235 = .ok (.iastore, 1) := by decide +kernel
theorem dX12_authorize_236 : decode cX12_authorize 236 = .ok (.aload_n 0, 1) := by decide +kernel
theorem dX12_authorize_237 : decode cX12_authorize 237 = .ok (.getfield 76, 3) := by decide +kernel
theorem dX12_authorize_240 : decode cX12_authorize 240 = .ok (.aload_n 0, 1) := by decide +kernel
theorem dX12_authorize_241 : decode cX12_authorize 241 = .ok (.getfield 394, 3) := by decide +kernel
theorem dX12_authorize_244 : decode cX12_authorize 244 = .ok (.aload_n 0, 1) := by decide +kernel
theorem dX12_authorize_245 : decode cX12_authorize 245 = .ok (.iload_n 2, 1) := by decide +kernel
theorem dX12_authorize_246 : decode cX12_authorize 246 = .ok (.invokevirtual 391, 3) := by decide +kernel
theorem dX12_authorize_249 : decode cX12_authorize 249 = .ok (.iastore, 1) := by decide +kernel
theorem dX12_authorize_250 : decode cX12_authorize 250 = .ok (.aload_n 0, 1) := by decide +kernel
theorem dX12_authorize_251 : decode cX12_authorize 251 = .ok (.getfield 79, 3) := by decide +kernel
theorem dX12_authorize_254 : decode cX12_authorize 254 = .ok (.aload_n 0, 1) := by decide +kernel
theorem dX12_authorize_255 : decode cX12_authorize 255 = .ok (.getfield 394, 3) := by decide +kernel
theorem dX12_authorize_258 : decode cX12_authorize 258 = .ok (.iconst 1, 1) := by decide +kernel
theorem dX12_authorize_259 : decode cX12_authorize 259 = .ok (.bastore, 1) := by decide +kernel
theorem dX12_authorize_260 : decode cX12_authorize 260 = .ok (.iconst 0, 1) := by decide +kernel
theorem dX12_authorize_261 : decode cX12_authorize 261 = .ok (.istore 5, 2) := by decide +kernel
theorem dX12_authorize_263 : decode cX12_authorize 263 = .ok (.iload 5, 2) := by decide +kernel
theorem dX12_authorize_265 : decode cX12_authorize 265 = .ok (.bipush 43, 2) := by decide +kernel
theorem dX12_authorize_267 : decode cX12_authorize 267 = .ok (.if_icmp .ge 38, 3) := by decide +kernel
theorem dX12_authorize_270 : decode cX12_authorize 270 = .ok (.aload_n 0, 1) := by decide +kernel
theorem dX12_authorize_271 : decode cX12_authorize 271 = .ok (.getfield 82, 3) := by decide +kernel
theorem dX12_authorize_274 : decode cX12_authorize 274 = .ok (.bipush 43, 2) := by decide +kernel
theorem dX12_authorize_276 : decode cX12_authorize 276 = .ok (.aload_n 0, 1) := by decide +kernel
theorem dX12_authorize_277 : decode cX12_authorize 277 = .ok (.getfield 394, 3) := by decide +kernel
theorem dX12_authorize_280 : decode cX12_authorize 280 = .ok (.imul, 1) := by decide +kernel
theorem dX12_authorize_281 : decode cX12_authorize 281 = .ok (.iload 5, 2) := by decide +kernel
theorem dX12_authorize_283 : decode cX12_authorize 283 = .ok (.iadd, 1) := by decide +kernel
theorem dX12_authorize_284 : decode cX12_authorize 284 = .ok (.aload_n 0, 1) := by decide +kernel
theorem dX12_authorize_285 : decode cX12_authorize 285 = .ok (.getfield 155, 3) := by decide +kernel
theorem dX12_authorize_288 : decode cX12_authorize 288 = .ok (.aload_n 0, 1) := by decide +kernel
theorem dX12_authorize_289 : decode cX12_authorize 289 = .ok (.getfield 158, 3) := by decide +kernel
theorem dX12_authorize_292 : decode cX12_authorize 292 = .ok (.iconst 5, 1) := by decide +kernel
theorem dX12_authorize_293 : decode cX12_authorize 293 = .ok (.iaload, 1) := by decide +kernel
theorem dX12_authorize_294 : decode cX12_authorize 294 = .ok (.iload 5, 2) := by decide +kernel
theorem dX12_authorize_296 : decode cX12_authorize 296 = .ok (.iadd, 1) := by decide +kernel
theorem dX12_authorize_297 : decode cX12_authorize 297 = .ok (.baload, 1) := by decide +kernel
theorem dX12_authorize_298 : decode cX12_authorize 298 = .ok (.bastore, 1) := by decide +kernel
theorem dX12_authorize_299 : decode cX12_authorize 299 = .ok (.iinc 5 1, 3) := by decide +kernel
theorem dX12_authorize_302 : decode cX12_authorize 302 = .ok (.goto (-39), 3) := by decide +kernel
theorem dX12_authorize_305 : decode cX12_authorize 305 = .ok (.aload_n 0, 1) := by decide +kernel
theorem dX12_authorize_306 : decode cX12_authorize 306 = .ok (.getfield 89, 3) := by decide +kernel
theorem dX12_authorize_309 : decode cX12_authorize 309 = .ok (.aload_n 0, 1) := by decide +kernel
theorem dX12_authorize_310 : decode cX12_authorize 310 = .ok (.getfield 394, 3) := by decide +kernel
theorem dX12_authorize_313 : decode cX12_authorize 313 = .ok (.aload_n 0, 1) := by decide +kernel
theorem dX12_authorize_314 : decode cX12_authorize 314 = .ok (.getfield 405, 3) := by decide +kernel
theorem dX12_authorize_317 : decode cX12_authorize 317 = .ok (.iastore, 1) := by decide +kernel
theorem dX12_authorize_318 : decode cX12_authorize 318 = .ok (.aload_n 0, 1) := by decide +kernel
theorem dX12_authorize_319 : decode cX12_authorize 319 = .ok (.getfield 92, 3) := by decide +kernel
theorem dX12_authorize_322 : decode cX12_authorize 322 = .ok (.aload_n 0, 1) := by decide +kernel
theorem dX12_authorize_323 : decode cX12_authorize 323 = .ok (.getfield 394, 3) := by decide +kernel
theorem dX12_authorize_326 : decode cX12_authorize 326 = .ok (.aload_n 0, 1) := by decide +kernel
theorem dX12_authorize_327 : decode cX12_authorize 327 = .ok (.iconst 4, 1) := by decide +kernel
theorem dX12_authorize_328 : decode cX12_authorize 328 = .ok (.invokevirtual 260, 3) := by decide +kernel
theorem dX12_authorize_331 : decode cX12_authorize 331 = .ok (.ifCond .eq 12, 3) := by decide +kernel
theorem dX12_authorize_334 : decode cX12_authorize 334 = .ok (.aload_n 0, 1) := by decide +kernel
theorem dX12_authorize_335 : decode cX12_authorize 335 = .ok (.getfield 161, 3) := by decide +kernel
theorem dX12_authorize_338 : decode cX12_authorize 338 = .ok (.iconst 4, 1) := by decide +kernel
theorem dX12_authorize_339 : decode cX12_authorize 339 = .ok (.iaload, 1) := by decide +kernel
theorem dX12_authorize_340 : decode cX12_authorize 340 = .ok (.goto 4, 3) := by decide +kernel
theorem dX12_authorize_343 : decode cX12_authorize 343 = .ok (.iconst 0, 1) := by decide +kernel
theorem dX12_authorize_344 : decode cX12_authorize 344 = .ok (.iastore, 1) := by decide +kernel
theorem dX12_authorize_345 : decode cX12_authorize 345 = .ok (.iconst 0, 1) := by decide +kernel
theorem dX12_authorize_346 : decode cX12_authorize 346 = .ok (.istore 5, 2) := by decide +kernel
theorem dX12_authorize_348 : decode cX12_authorize 348 = .ok (.iload 5, 2) := by decide +kernel
theorem dX12_authorize_350 : decode cX12_authorize 350 = .ok (.aload_n 0, 1) := by decide +kernel
theorem dX12_authorize_351 : decode cX12_authorize 351 = .ok (.getfield 92, 3) := by decide +kernel
theorem dX12_authorize_354 : decode cX12_authorize 354 = .ok (.aload_n 0, 1) := by decide +kernel
theorem dX12_authorize_355 : decode cX12_authorize 355 = .ok (.getfield 394, 3) := by decide +kernel
theorem dX12_authorize_358 : decode cX12_authorize 358 = .ok (.iaload, 1) := by decide +kernel
theorem dX12_authorize_359 : decode cX12_authorize 359 = .ok (.if_icmp .ge 35, 3) := by decide +kernel
theorem dX12_authorize_362 : decode cX12_authorize 362 = .ok (.aload_n 0, 1) := by decide +kernel
theorem dX12_authorize_363 : decode cX12_authorize 363 = .ok (.getfield 86, 3) := by decide +kernel
theorem dX12_authorize_366 : decode cX12_authorize 366 = .ok (.aload_n 0, 1) := by decide +kernel
theorem dX12_authorize_367 : decode cX12_authorize 367 = .ok (.getfield 405, 3) := by decide +kernel
theorem dX12_authorize_370 : decode cX12_authorize 370 = .ok (.iload 5, 2) := by decide +kernel
theorem dX12_authorize_372 : decode cX12_authorize 372 = .ok (.iadd, 1) := by decide +kernel
theorem dX12_authorize_373 : decode cX12_authorize 373 = .ok (.aload_n 0, 1) := by decide +kernel
theorem dX12_authorize_374 : decode cX12_authorize 374 = .ok (.getfield 155, 3) := by decide +kernel
theorem dX12_authorize_377 : decode cX12_authorize 377 = .ok (.aload_n 0, 1) := by decide +kernel
theorem dX12_authorize_378 : decode cX12_authorize 378 = .ok (.getfield 158, 3) := by decide +kernel
theorem dX12_authorize_381 : decode cX12_authorize 381 = .ok (.iconst 4, 1) := by decide +kernel
theorem dX12_authorize_382 : decode cX12_authorize 382 = .ok (.iaload, 1) := by decide +kernel
theorem dX12_authorize_383 : decode cX12_authorize 383 = .ok (.iload 5, 2) := by decide +kernel
theorem dX12_authorize_385 : decode cX12_authorize 385 = .ok (.iadd, 1) := by decide +kernel
theorem dX12_authorize_386 : decode cX12_authorize 386 = .ok (.baload, 1) := by decide +kernel
theorem dX12_authorize_387 : decode cX12_authorize 387 = .ok (.bastore, 1) := by decide +kernel
theorem dX12_authorize_388 : decode cX12_authorize 388 = .ok (.iinc 5 1, 3) := by decide +kernel
theorem dX12_authorize_391 : decode cX12_authorize 391 = .ok (.goto (-43), 3) := by decide +kernel
theorem dX12_authorize_394 : decode cX12_authorize 394 = .ok (.aload_n 0, 1) := by decide +kernel
theorem dX12_authorize_395 : decode cX12_authorize 395 = .ok (.dup, 1) := by decide +kernel
theorem dX12_authorize_396 : decode cX12_authorize 396 = .ok (.getfield 405, 3) := by decide +kernel
theorem dX12_authorize_399 : decode cX12_authorize 399 = .ok (.aload_n 0, 1) := by decide +kernel
theorem dX12_authorize_400 : decode cX12_authorize 400 = .ok (.getfield 92, 3) := by decide +kernel
theorem dX12_authorize_403 : decode cX12_authorize 403 = .ok (.aload_n 0, 1) := by decide +kernel
theorem dX12_authorize_404 : decode cX12_authorize 404 = .ok (.getfield 394, 3) := by decide +kernel
theorem dX12_authorize_407 : decode cX12_authorize 407 = .ok (.iaload, 1) := by decide +kernel
theorem dX12_authorize_408 : decode cX12_authorize 408 = .ok (.iadd, 1) := by decide +kernel
theorem dX12_authorize_409 : decode cX12_authorize 409 = .ok (.putfield 405, 3) := by decide +kernel
theorem dX12_authorize_412 : decode cX12_authorize 412 = .ok (.aload_n 0, 1) := by decide +kernel
theorem dX12_authorize_413 : decode cX12_authorize 413 = .ok (.sipush 200, 3) := by decide +kernel
theorem dX12_authorize_416 : decode cX12_authorize 416 = .ok (.iconst 0, 1) := by decide +kernel
theorem dX12_authorize_417 : decode cX12_authorize 417 = .ok (.invokevirtual 328, 3) := by decide +kernel
theorem dX12_authorize_420 : decode cX12_authorize 420 = .ok (.aload_n 0, 1) := by decide +kernel
theorem dX12_authorize_421 : decode cX12_authorize 421 = .ok (.dup, 1) := by decide +kernel
theorem dX12_authorize_422 : decode cX12_authorize 422 = .ok (.getfield 394, 3) := by decide +kernel
theorem dX12_authorize_425 : decode cX12_authorize 425 = .ok (.iconst 1, 1) := by decide +kernel
theorem dX12_authorize_426 : decode cX12_authorize 426 = .ok (.iadd, 1) := by decide +kernel
theorem dX12_authorize_427 : decode cX12_authorize 427 = .ok (.putfield 394, 3) := by decide +kernel
theorem dX12_authorize_430 : decode cX12_authorize 430 = .ok (.aload_n 0, 1) := by decide +kernel
theorem dX12_authorize_431 : decode cX12_authorize 431 = .ok (.getfield 394, 3) := by decide +kernel
theorem dX12_authorize_434 : decode cX12_authorize 434 = .ok (.iconst 1, 1) := by decide +kernel
theorem dX12_authorize_435 : decode cX12_authorize 435 = .ok (.isub, 1) := by decide +kernel
theorem dX12_authorize_436 : decode cX12_authorize 436 = .ok (.ireturn, 1) := by decide +kernel
theorem dX12_consent_0 : decode cX12_consent 0 = .ok (.aload_n 0, 1) := by decide +kernel
theorem dX12_consent_1 : decode cX12_consent 1 = .ok (.iconst 0, 1) := by decide +kernel
theorem dX12_consent_2 : decode cX12_consent 2 = .ok (.putfield 188, 3) := by decide +kernel
theorem dX12_consent_5 : decode cX12_consent 5 = .ok (.aload_n 0, 1) := by decide +kernel
theorem dX12_consent_6 : decode cX12_consent 6 = .ok (.iload_n 1, 1) := by decide +kernel
theorem dX12_consent_7 : decode cX12_consent 7 = .ok (.ifCond .lt 20, 3) := by decide +kernel
theorem dX12_consent_10 : decode cX12_consent 10 = .ok (.iload_n 1, 1) := by decide +kernel
theorem dX12_consent_11 : decode cX12_consent 11 = .ok (.aload_n 0, 1) := by decide +kernel
theorem dX12_consent_12 : decode cX12_consent 12 = .ok (.getfield 394, 3) := by decide +kernel
theorem dX12_consent_15 : decode cX12_consent 15 = .ok (.if_icmp .ge 12, 3) := by decide +kernel
theorem dX12_consent_18 : decode cX12_consent 18 = .ok (.aload_n 0, 1) := by decide +kernel
theorem dX12_consent_19 : decode cX12_consent 19 = .ok (.getfield 79, 3) := by decide +kernel
theorem dX12_consent_22 : decode cX12_consent 22 = .ok (.iload_n 1, 1) := by decide +kernel
theorem dX12_consent_23 : decode cX12_consent 23 = .ok (.baload, 1) := by decide +kernel
theorem dX12_consent_24 : decode cX12_consent 24 = .ok (.ifCond .ne 7, 3) := by decide +kernel
theorem dX12_consent_27 : decode cX12_consent 27 = .ok (.iconst 1, 1) := by decide +kernel
theorem dX12_consent_28 : decode cX12_consent 28 = .ok (.goto 4, 3) := by decide +kernel
theorem dX12_consent_31 : decode cX12_consent 31 = .ok (.iconst 0, 1) := by decide +kernel
theorem dX12_consent_32 : decode cX12_consent 32 = .ok (.iconst 1, 1) := by decide +kernel
theorem dX12_consent_33 : decode cX12_consent 33 = .ok (.invokevirtual 357, 3) := by decide +kernel
theorem dX12_consent_36 : decode cX12_consent 36 = .ok (.ifCond .eq 5, 3) := by decide +kernel
theorem dX12_consent_39 : decode cX12_consent 39 = .ok (.iconst 0, 1) := by decide +kernel
theorem dX12_consent_40 : decode cX12_consent 40 = .ok (.ireturn, 1) := by decide +kernel
theorem dX12_consent_41 : decode cX12_consent 41 = .ok (.aload_n 0, 1) := by decide +kernel
theorem dX12_consent_42 : decode cX12_consent 42 = .ok (.iload 4, 2) := by decide +kernel
theorem dX12_consent_44 : decode cX12_consent 44 = .ok (.ifCond .eq 24, 3) := by decide +kernel
theorem dX12_consent_47 : decode cX12_consent 47 = .ok (.iload_n 3, 1) := by decide +kernel
theorem dX12_consent_48 : decode cX12_consent 48 = .ok (.ifCond .eq 16, 3) := by decide +kernel
theorem dX12_consent_51 : decode cX12_consent 51 = .ok (.iload_n 3, 1) := by decide +kernel
theorem dX12_consent_52 : decode cX12_consent 52 = .ok (.aload_n 0, 1) := by decide +kernel
theorem dX12_consent_53 : decode cX12_consent 53 = .ok (.getfield 76, 3) := by decide +kernel
theorem dX12_consent_56 : decode cX12_consent 56 = .ok (.iload_n 1, 1) := by decide +kernel
theorem dX12_consent_57 : decode cX12_consent 57 = .ok (.iaload, 1) := by decide +kernel
theorem dX12_consent_58 : decode cX12_consent 58 = .ok (.iconst (-1), 1) := by decide +kernel
theorem dX12_consent_59 : decode cX12_consent 59 = .ok (.ixor, 1) := by decide +kernel
theorem dX12_consent_60 : decode cX12_consent 60 = .ok (.iand, 1) := by decide +kernel
theorem dX12_consent_61 : decode cX12_consent 61 = .ok (.ifCond .eq 7, 3) := by decide +kernel
theorem dX12_consent_64 : decode cX12_consent 64 = .ok (.iconst 1, 1) := by decide +kernel
theorem dX12_consent_65 : decode cX12_consent 65 = .ok (.goto 4, 3) := by decide +kernel
theorem dX12_consent_68 : decode cX12_consent 68 = .ok (.iconst 0, 1) := by decide +kernel
theorem dX12_consent_69 : decode cX12_consent 69 = .ok (.iconst 2, 1) := by decide +kernel
theorem dX12_consent_70 : decode cX12_consent 70 = .ok (.invokevirtual 357, 3) := by decide +kernel
theorem dX12_consent_73 : decode cX12_consent 73 = .ok (.ifCond .eq 5, 3) := by decide +kernel
theorem dX12_consent_76 : decode cX12_consent 76 = .ok (.iconst 0, 1) := by decide +kernel
theorem dX12_consent_77 : decode cX12_consent 77 = .ok (.ireturn, 1) := by decide +kernel
theorem dX12_consent_78 : decode cX12_consent 78 = .ok (.iconst (-1), 1) := by decide +kernel
theorem dX12_consent_79 : decode cX12_consent 79 = .ok (.istore 5, 2) := by decide +kernel
theorem dX12_consent_81 : decode cX12_consent 81 = .ok (.iload 4, 2) := by decide +kernel
theorem dX12_consent_83 : decode cX12_consent 83 = .ok (.ifCond .eq 55, 3) := by decide +kernel
theorem dX12_consent_86 : decode cX12_consent 86 = .ok (.aload_n 0, 1) := by decide +kernel
theorem dX12_consent_87 : decode cX12_consent 87 = .ok (.aload_n 0, 1) := by decide +kernel
theorem dX12_consent_88 : decode cX12_consent 88 = .ok (.getfield 408, 3) := by decide +kernel
theorem dX12_consent_91 : decode cX12_consent 91 = .ok (.sipush 200, 3) := by decide +kernel
theorem dX12_consent_94 : decode cX12_consent 94 = .ok (.if_icmp .ne 7, 3) := by decide +kernel
theorem dX12_consent_97 : decode cX12_consent 97 = .ok (.iconst 1, 1) := by decide +kernel
theorem dX12_consent_98 : decode cX12_consent 98 = .ok (.goto 4, 3) := by decide +kernel
theorem dX12_consent_101 : decode cX12_consent 101 = .ok (.iconst 0, 1) := by decide +kernel
theorem dX12_consent_102 : decode cX12_consent 102 = .ok (.iconst 3, 1) := by decide +kernel
theorem dX12_consent_103 : decode cX12_consent 103 = .ok (.invokevirtual 357, 3) := by decide +kernel
theorem dX12_consent_106 : decode cX12_consent 106 = .ok (.ifCond .eq 5, 3) := by decide +kernel
theorem dX12_consent_109 : decode cX12_consent 109 = .ok (.iconst 0, 1) := by decide +kernel
theorem dX12_consent_110 : decode cX12_consent 110 = .ok (.ireturn, 1) := by decide +kernel
theorem dX12_consent_111 : decode cX12_consent 111 = .ok (.aload_n 0, 1) := by decide +kernel
theorem dX12_consent_112 : decode cX12_consent 112 = .ok (.iconst 1, 1) := by decide +kernel
theorem dX12_consent_113 : decode cX12_consent 113 = .ok (.invokevirtual 411, 3) := by decide +kernel
theorem dX12_consent_116 : decode cX12_consent 116 = .ok (.istore 5, 2) := by decide +kernel
theorem dX12_consent_118 : decode cX12_consent 118 = .ok (.aload_n 0, 1) := by decide +kernel
theorem dX12_consent_119 : decode cX12_consent 119 = .ok (.iload 5, 2) := by decide +kernel
theorem dX12_consent_121 : decode cX12_consent 121 = .ok (.ifCond .ge 7, 3) := by decide +kernel
theorem dX12_consent_124 : decode cX12_consent 124 = .ok (.iconst 1, 1) := by decide +kernel
theorem dX12_consent_125 : decode cX12_consent 125 = .ok (.goto 4, 3) := by decide +kernel
theorem dX12_consent_128 : decode cX12_consent 128 = .ok (.iconst 0, 1) := by decide +kernel
theorem dX12_consent_129 : decode cX12_consent 129 = .ok (.iconst 3, 1) := by decide +kernel
theorem dX12_consent_130 : decode cX12_consent 130 = .ok (.invokevirtual 357, 3) := by decide +kernel
theorem dX12_consent_133 : decode cX12_consent 133 = .ok (.ifCond .eq 5, 3) := by decide +kernel
theorem dX12_consent_136 : decode cX12_consent 136 = .ok (.iconst 0, 1) := by decide +kernel
theorem dX12_consent_137 : decode cX12_consent 137 = .ok (.ireturn, 1) := by decide +kernel
theorem dX12_consent_138 : decode cX12_consent 138 = .ok (.aload_n 0, 1) := by decide +kernel
theorem dX12_consent_139 : decode cX12_consent 139 = .ok (.getfield 79, 3) := by decide +kernel
theorem dX12_consent_142 : decode cX12_consent 142 = .ok (.iload_n 1, 1) := by decide +kernel
theorem dX12_consent_143 : decode cX12_consent 143 = .ok (.iconst 0, 1) := by decide +kernel
theorem dX12_consent_144 : decode cX12_consent 144 = .ok (.bastore, 1) := by decide +kernel
theorem dX12_consent_145 : decode cX12_consent 145 = .ok (.aload_n 0, 1) := by decide +kernel
theorem dX12_consent_146 : decode cX12_consent 146 = .ok (.sipush 302, 3) := by decide +kernel
theorem dX12_consent_149 : decode cX12_consent 149 = .ok (.iload 4, 2) := by decide +kernel
theorem dX12_consent_151 : decode cX12_consent 151 = .ok (.ifCond .eq 7, 3) := by decide +kernel
theorem dX12_consent_154 : decode cX12_consent 154 = .ok (.iconst 0, 1) := by decide +kernel
theorem dX12_consent_155 : decode cX12_consent 155 = .ok (.goto 4, 3) := by decide +kernel
theorem dX12_consent_158 : decode cX12_consent 158 = .ok (.iconst 3, 1) := by decide +kernel
theorem dX12_consent_159 : decode cX12_consent 159 = .ok (.invokevirtual 328, 3) := by decide +kernel
theorem dX12_consent_162 : decode cX12_consent 162 = .ok (.aload_n 0, 1) := by decide +kernel
theorem dX12_consent_163 : decode cX12_consent 163 = .ok (.aload_n 0, 1) := by decide +kernel
theorem dX12_consent_164 : decode cX12_consent 164 = .ok (.getfield 70, 3) := by decide +kernel
theorem dX12_consent_167 : decode cX12_consent 167 = .ok (.iload_n 1, 1) := by decide +kernel
theorem dX12_consent_168 : decode cX12_consent 168 = .ok (.iaload, 1) := by decide +kernel
theorem dX12_consent_169 : decode cX12_consent 169 = .ok (.aload_n 0, 1) := by decide +kernel
theorem dX12_consent_170 : decode cX12_consent 170 = .ok (.getfield 73, 3) := by decide +kernel
theorem dX12_consent_173 : decode cX12_consent 173 = .ok (.iload_n 1, 1) := by decide +kernel
theorem dX12_consent_174 : decode cX12_consent 174 = .ok (.iaload, 1) := by decide +kernel
theorem dX12_consent_175 : decode cX12_consent 175 = .ok (.invokevirtual 397, 3) := by decide +kernel
theorem dX12_consent_178 : decode cX12_consent 178 = .ok (.aload_n 0, 1) := by decide +kernel
theorem dX12_consent_179 : decode cX12_consent 179 = .ok (.iload 4, 2) := by decide +kernel
theorem dX12_consent_181 : decode cX12_consent 181 = .ok (.ifCond .eq 9, 3) := by decide +kernel
theorem dX12_consent_184 : decode cX12_consent 184 = .ok (.ldc_w 414, 3) := by decide +kernel
theorem dX12_consent_187 : decode cX12_consent 187 = .ok (.goto 6, 3) := by decide +kernel
theorem dX12_consent_190 : decode cX12_consent 190 = .ok (.ldc_w 416, 3) := by decide +kernel
theorem dX12_consent_193 : decode cX12_consent 193 = .ok (.invokevirtual 334, 3) := by decide +kernel
theorem dX12_consent_196 : decode cX12_consent 196 = .ok (.iload 4, 2) := by decide +kernel
theorem dX12_consent_198 : decode cX12_consent 198 = .ok (.ifCond .eq 9, 3) := by decide +kernel
theorem dX12_consent_201 : decode cX12_consent 201 = .ok (.aload_n 0, 1) := by decide +kernel
theorem dX12_consent_202 : decode cX12_consent 202 = .ok (.iload 5, 2) := by decide +kernel
theorem dX12_consent_204 : decode cX12_consent 204 = .ok (.invokevirtual 418, 3) := by decide +kernel
theorem dX12_consent_207 : decode cX12_consent 207 = .ok (.aload_n 0, 1) := by decide +kernel
theorem dX12_consent_208 : decode cX12_consent 208 = .ok (.aload_n 0, 1) := by decide +kernel
theorem dX12_consent_209 : decode cX12_consent 209 = .ok (.getfield 86, 3) := by decide +kernel
theorem dX12_consent_212 : decode cX12_consent 212 = .ok (.aload_n 0, 1) := by decide +kernel
theorem dX12_consent_213 : decode cX12_consent 213 = .ok (.getfield 89, 3) := by decide +kernel
theorem dX12_consent_216 : decode cX12_consent 216 = .ok (.iload_n 1, 1) := by decide +kernel
theorem dX12_consent_217 : decode cX12_consent 217 = .ok (.iaload, 1) := by decide +kernel
theorem dX12_consent_218 : decode cX12_consent 218 = .ok (.aload_n 0, 1) := by decide +kernel
theorem dX12_consent_219 : decode cX12_consent 219 = .ok (.getfield 92, 3) := by decide +kernel
theorem dX12_consent_222 : decode cX12_consent 222 = .ok (.iload_n 1, 1) := by decide +kernel
theorem dX12_consent_223 : decode cX12_consent 223 = .ok (.iaload, 1) := by decide +kernel
theorem dX12_consent_224 : decode cX12_consent 224 = .ok (.invokevirtual 402, 3) := by decide +kernel
theorem dX12_consent_227 : decode cX12_consent 227 = .ok (.iload 4, 2) := by decide +kernel
theorem dX12_consent_229 : decode cX12_consent 229 = .ok (.ifCond .ne 5, 3) := by decide +kernel
theorem dX12_consent_232 : decode cX12_consent 232 = .ok (.iconst (-1), 1) := by decide +kernel
theorem dX12_consent_233 : decode cX12_consent 233 = .ok (.ireturn, 1) := by decide +kernel
theorem dX12_consent_234 : decode cX12_consent 234 = .ok (.aload_n 0, 1) := by decide +kernel
theorem dX12_consent_235 : decode cX12_consent 235 = .ok (.getfield 95, 3) := by decide +kernel
theorem dX12_consent_238 : decode cX12_consent 238 = .ok (.aload_n 0, 1) := by decide +kernel
theorem dX12_consent_239 : decode cX12_consent 239 = .ok (.getfield 408, 3) := by decide +kernel
theorem dX12_consent_242 : decode cX12_consent 242 = .ok (.iload 5, 2) := by decide +kernel
theorem dX12_consent_244 : decode cX12_consent 244 = .ok (.iastore, 1) := by decide +kernel
theorem dX12_consent_245 : decode cX12_consent 245 = .ok (.aload_n 0, 1) := by decide +kernel
theorem dX12_consent_246 : decode cX12_consent 246 = .ok (.getfield 98, 3) := by decide +kernel
theorem dX12_consent_249 : decode cX12_consent 249 = .ok (.aload_n 0, 1) := by decide +kernel
theorem dX12_consent_250 : decode cX12_consent 250 = .ok (.getfield 408, 3) := by decide +kernel
theorem dX12_consent_253 : decode cX12_consent 253 = .ok (.iload_n 1, 1) := by decide +kernel
theorem dX12_consent_254 : decode cX12_consent 254 = .ok (.iastore, 1) := by decide +kernel
theorem dX12_consent_255 : decode cX12_consent 255 = .ok (.aload_n 0, 1) := by decide +kernel
theorem dX12_consent_256 : decode cX12_consent 256 = .ok (.getfield 101, 3) := by decide +kernel
theorem dX12_consent_259 : decode cX12_consent 259 = .ok (.aload_n 0, 1) := by decide +kernel
theorem dX12_consent_260 : decode cX12_consent 260 = .ok (.getfield 408, 3) := by decide +kernel
theorem dX12_consent_263 : decode cX12_consent 263 = .ok (.iload_n 2, 1) := by decide +kernel
theorem dX12_consent_264 : decode cX12_consent 264 = .ok (.iastore, 1) := by decide +kernel
theorem dX12_consent_265 : decode cX12_consent 265 = .ok (.aload_n 0, 1) := by decide +kernel
theorem dX12_consent_266 : decode cX12_consent 266 = .ok (.getfield 104, 3) := by decide +kernel
theorem dX12_consent_269 : decode cX12_consent 269 = .ok (.aload_n 0, 1) := by decide +kernel
theorem dX12_consent_270 : decode cX12_consent 270 = .ok (.getfield 408, 3) := by decide +kernel
theorem dX12_consent_273 : decode cX12_consent 273 = .ok (.iload_n 3, 1) := by decide +kernel
theorem dX12_consent_274 : decode cX12_consent 274 = .ok (.iastore, 1) := by decide +kernel
theorem dX12_consent_275 : decode cX12_consent 275 = .ok (.aload_n 0, 1) := by decide +kernel
theorem dX12_consent_276 : decode cX12_consent 276 = .ok (.getfield 107, 3) := by decide +kernel
theorem dX12_consent_279 : decode cX12_consent 279 = .ok (.aload_n 0, 1) := by decide +kernel
theorem dX12_consent_280 : decode cX12_consent 280 = .ok (.getfield 408, 3) := by decide +kernel
theorem dX12_consent_283 : decode cX12_consent 283 = .ok (.aload_n 0, 1) := by decide +kernel
theorem dX12_consent_284 : decode cX12_consent 284 = .ok (.getfield 366, 3) := by decide +kernel
theorem dX12_consent_287 : decode cX12_consent 287 = .ok (.aload_n 0, 1) := by decide +kernel
theorem dX12_consent_288 : decode cX12_consent 288 = .ok (.getfield 60, 3) := by decide +kernel
theorem dX12_consent_291 : decode cX12_consent 291 = .ok (.iadd, 1) := by decide +kernel
theorem dX12_consent_292 : decode cX12_consent 292 = .ok (.iastore, 1) := by decide +kernel
theorem dX12_consent_293 : decode cX12_consent 293 = .ok (.aload_n 0, 1) := by decide +kernel
theorem dX12_consent_294 : decode cX12_consent 294 = .ok (.getfield 110, 3) := by decide +kernel
theorem dX12_consent_297 : decode cX12_consent 297 = .ok (.aload_n 0, 1) := by decide +kernel
theorem dX12_consent_298 : decode cX12_consent 298 = .ok (.getfield 408, 3) := by decide +kernel
theorem dX12_consent_301 : decode cX12_consent 301 = .ok (.iconst (-1), 1) := by decide +kernel
theorem dX12_consent_302 : decode cX12_consent 302 = .ok (.iastore, 1) := by decide +kernel
theorem dX12_consent_303 : decode cX12_consent 303 = .ok (.aload_n 0, 1) := by decide +kernel
theorem dX12_consent_304 : decode cX12_consent 304 = .ok (.dup, 1) := by decide +kernel
theorem dX12_consent_305 : decode cX12_consent 305 = .ok (.getfield 408, 3) := by decide +kernel
theorem dX12_consent_308 : decode cX12_consent 308 = .ok (.iconst 1, 1) := by decide +kernel
theorem dX12_consent_309 : decode cX12_consent 309 = .ok (.iadd, 1) := by decide +kernel
theorem dX12_consent_310 : decode cX12_consent 310 = .ok (.putfield 408, 3) := by decide +kernel
theorem dX12_consent_313 : decode cX12_consent 313 = .ok (.aload_n 0, 1) := by decide +kernel
theorem dX12_consent_314 : decode cX12_consent 314 = .ok (.getfield 408, 3) := by decide +kernel
theorem dX12_consent_317 : decode cX12_consent 317 = .ok (.iconst 1, 1) := by decide +kernel
theorem dX12_consent_318 : decode cX12_consent 318 = .ok (.isub, 1) := by decide +kernel
theorem dX12_consent_319 : decode cX12_consent 319 = .ok (.ireturn, 1) := by decide +kernel
theorem dX12_asker_0 : decode cX12_asker 0 = .ok (.aload_n 0, 1) := by decide +kernel
theorem dX12_asker_1 : decode cX12_asker 1 = .ok (.invokevirtual 375, 3) := by decide +kernel
theorem dX12_asker_4 : decode cX12_asker 4 = .ok (.istore_n 1, 1) := by decide +kernel
theorem dX12_asker_5 : decode cX12_asker 5 = .ok (.iload_n 1, 1) := by decide +kernel
theorem dX12_asker_6 : decode cX12_asker 6 = .ok (.ifCond .ge 5, 3) := by decide +kernel
theorem dX12_asker_9 : decode cX12_asker 9 = .ok (.iconst (-1), 1) := by decide +kernel
theorem dX12_asker_10 : decode cX12_asker 10 = .ok (.ireturn, 1) := by decide +kernel
theorem dX12_asker_11 : decode cX12_asker 11 = .ok (.aload_n 0, 1) := by decide +kernel
theorem dX12_asker_12 : decode cX12_asker 12 = .ok (.getfield 35, 3) := by decide +kernel
theorem dX12_asker_15 : decode cX12_asker 15 = .ok (.iload_n 1, 1) := by decide +kernel
theorem dX12_asker_16 : decode cX12_asker 16 = .ok (.baload, 1) := by decide +kernel
theorem dX12_asker_17 : decode cX12_asker 17 = .ok (.ifCond .eq 58, 3) := by decide +kernel
theorem dX12_asker_20 : decode cX12_asker 20 = .ok (.aload_n 0, 1) := by decide +kernel
theorem dX12_asker_21 : decode cX12_asker 21 = .ok (.bipush 10, 2) := by decide +kernel
theorem dX12_asker_23 : decode cX12_asker 23 = .ok (.invokevirtual 260, 3) := by decide +kernel
theorem dX12_asker_26 : decode cX12_asker 26 = .ok (.ifCond .eq 45, 3) := by decide +kernel
theorem dX12_asker_29 : decode cX12_asker 29 = .ok (.aload_n 0, 1) := by decide +kernel
theorem dX12_asker_30 : decode cX12_asker 30 = .ok (.getfield 155, 3) := by decide +kernel
theorem dX12_asker_33 : decode cX12_asker 33 = .ok (.aload_n 0, 1) := by decide +kernel
theorem dX12_asker_34 : decode cX12_asker 34 = .ok (.getfield 158, 3) := by decide +kernel
theorem dX12_asker_37 : decode cX12_asker 37 = .ok (.bipush 10, 2) := by decide +kernel
theorem dX12_asker_39 : decode cX12_asker 39 = .ok (.iaload, 1) := by decide +kernel
theorem dX12_asker_40 : decode cX12_asker 40 = .ok (.aload_n 0, 1) := by decide +kernel
theorem dX12_asker_41 : decode cX12_asker 41 = .ok (.getfield 161, 3) := by decide +kernel
theorem dX12_asker_44 : decode cX12_asker 44 = .ok (.bipush 10, 2) := by decide +kernel
theorem dX12_asker_46 : decode cX12_asker 46 = .ok (.iaload, 1) := by decide +kernel
theorem dX12_asker_47 : decode cX12_asker 47 = .ok (.aload_n 0, 1) := by decide +kernel
theorem dX12_asker_48 : decode cX12_asker 48 = .ok (.getfield 29, 3) := by decide +kernel
theorem dX12_asker_51 : decode cX12_asker 51 = .ok (.bipush 20, 2) := by decide +kernel
theorem dX12_asker_53 : decode cX12_asker 53 = .ok (.iload_n 1, 1) := by decide +kernel
theorem dX12_asker_54 : decode cX12_asker 54 = .ok (.imul, 1) := by decide +kernel
theorem dX12_asker_55 : decode cX12_asker 55 = .ok (.aload_n 0, 1) := by decide +kernel
theorem dX12_asker_56 : decode cX12_asker 56 = .ok (.getfield 32, 3) := by decide +kernel
theorem dX12_asker_59 : decode cX12_asker 59 = .ok (.iload_n 1, 1) := by decide +kernel
theorem dX12_asker_60 : decode cX12_asker 60 = .ok (.iaload, 1) := by decide +kernel
theorem dX12_asker_61 : decode cX12_asker 61 = .ok (.invokestatic 264, 3) := by decide +kernel
theorem dX12_asker_64 : decode cX12_asker 64 = .ok (.ifCond .eq 7, 3) := by decide +kernel
theorem dX12_asker_67 : decode cX12_asker 67 = .ok (.iconst 1, 1) := by decide +kernel
theorem dX12_asker_68 : decode cX12_asker 68 = .ok (.goto 21, 3) := by decide +kernel
theorem dX12_asker_71 : decode cX12_asker 71 = .ok (.iconst 0, 1) := by decide +kernel
theorem dX12_asker_72 : decode cX12_asker 72 = .ok (.goto 17, 3) := by decide +kernel
theorem dX12_asker_75 : decode cX12_asker 75 = .ok (.aload_n 0, 1) := by decide +kernel
theorem dX12_asker_76 : decode cX12_asker 76 = .ok (.bipush 10, 2) := by decide +kernel
theorem dX12_asker_78 : decode cX12_asker 78 = .ok (.invokevirtual 260, 3) := by decide +kernel
theorem dX12_asker_81 : decode cX12_asker 81 = .ok (.ifCond .ne 7, 3) := by decide +kernel
theorem dX12_asker_84 : decode cX12_asker 84 = .ok (.iconst 1, 1) := by decide +kernel
theorem dX12_asker_85 : decode cX12_asker 85 = .ok (.goto 4, 3) := by decide +kernel
theorem dX12_asker_88 : decode cX12_asker 88 = .ok (.iconst 0, 1) := by decide +kernel
theorem dX12_asker_89 : decode cX12_asker 89 = .ok (.istore_n 2, 1) := by decide +kernel
theorem dX12_asker_90 : decode cX12_asker 90 = .ok (.iload_n 2, 1) := by decide +kernel
theorem dX12_asker_91 : decode cX12_asker 91 = .ok (.ifCond .eq 7, 3) := by decide +kernel
theorem dX12_asker_94 : decode cX12_asker 94 = .ok (.iload_n 1, 1) := by decide +kernel
theorem dX12_asker_95 : decode cX12_asker 95 = .ok (.goto 4, 3) := by decide +kernel
theorem dX12_asker_98 : decode cX12_asker 98 = .ok (.iconst (-1), 1) := by decide +kernel
theorem dX12_asker_99 : decode cX12_asker 99 = .ok (.ireturn, 1) := by decide +kernel
theorem dX12_token_0 : decode cX12_token 0 = .ok (.aload_n 0, 1) := by decide +kernel
theorem dX12_token_1 : decode cX12_token 1 = .ok (.aload_n 0, 1) := by decide +kernel
theorem dX12_token_2 : decode cX12_token 2 = .ok (.invokevirtual 351, 3) := by decide +kernel
theorem dX12_token_5 : decode cX12_token 5 = .ok (.invokevirtual 372, 3) := by decide +kernel
theorem dX12_token_8 : decode cX12_token 8 = .ok (.ifCond .eq 12, 3) := by decide +kernel
theorem dX12_token_11 : decode cX12_token 11 = .ok (.aload_n 0, 1) := by decide +kernel
theorem dX12_token_12 : decode cX12_token 12 = .ok (.bipush 7, 2) := by decide +kernel
theorem dX12_token_14 : decode cX12_token 14 = .ok (.invokevirtual 260, 3) := by decide +kernel
theorem dX12_token_17 : decode cX12_token 17 = .ok (.ifCond .ne 12, 3) := by decide +kernel
theorem dX12_token_20 : decode cX12_token 20 = .ok (.aload_n 0, 1) := by decide +kernel
theorem dX12_token_21 : decode cX12_token 21 = .ok (.sipush 400, 3) := by decide +kernel
theorem dX12_token_24 : decode cX12_token 24 = .ok (.iconst 1, 1) := by decide +kernel
theorem dX12_token_25 : decode cX12_token 25 = .ok (.invokevirtual 421, 3) := by decide +kernel
theorem dX12_token_28 : decode cX12_token 28 = .ok (.ireturn, 1) := by decide +kernel
theorem dX12_token_29 : decode cX12_token 29 = .ok (.aload_n 0, 1) := by decide +kernel
theorem dX12_token_30 : decode cX12_token 30 = .ok (.invokevirtual 424, 3) := by decide +kernel
theorem dX12_token_33 : decode cX12_token 33 = .ok (.istore_n 1, 1) := by decide +kernel
theorem dX12_token_34 : decode cX12_token 34 = .ok (.iload_n 1, 1) := by decide +kernel
theorem dX12_token_35 : decode cX12_token 35 = .ok (.ifCond .ge 13, 3) := by decide +kernel
theorem dX12_token_38 : decode cX12_token 38 = .ok (.aload_n 0, 1) := by decide +kernel
theorem dX12_token_39 : decode cX12_token 39 = .ok (.sipush 401, 3) := by decide +kernel
theorem dX12_token_42 : decode cX12_token 42 = .ok (.bipush 6, 2) := by decide +kernel
theorem dX12_token_44 : decode cX12_token 44 = .ok (.invokevirtual 421, 3) := by decide +kernel
theorem dX12_token_47 : decode cX12_token 47 = .ok (.ireturn, 1) := by decide +kernel
theorem dX12_token_48 : decode cX12_token 48 = .ok (.aload_n 0, 1) := by decide +kernel
theorem dX12_token_49 : decode cX12_token 49 = .ok (.bipush 7, 2) := by decide +kernel
theorem dX12_token_51 : decode cX12_token 51 = .ok (.ldc_w 427, 3) := by decide +kernel
theorem dX12_token_54 : decode cX12_token 54 = .ok (.invokevirtual 381, 3) := by decide +kernel
theorem dX12_token_57 : decode cX12_token 57 = .ok (.ifCond .eq 9, 3) := by decide +kernel
theorem dX12_token_60 : decode cX12_token 60 = .ok (.aload_n 0, 1) := by decide +kernel
theorem dX12_token_61 : decode cX12_token 61 = .ok (.iload_n 1, 1) := by decide +kernel
theorem dX12_token_62 : decode cX12_token 62 = .ok (.invokevirtual 429, 3) := by decide +kernel
theorem dX12_token_65 : decode cX12_token 65 = .ok (.ireturn, 1) := by decide +kernel
theorem dX12_token_66 : decode cX12_token 66 = .ok (.aload_n 0, 1) := by decide +kernel
theorem dX12_token_67 : decode cX12_token 67 = .ok (.bipush 7, 2) := by decide +kernel
theorem dX12_token_69 : decode cX12_token 69 = .ok (.ldc 235, 2) := by decide +kernel
theorem dX12_token_71 : decode cX12_token 71 = .ok (.invokevirtual 381, 3) := by decide +kernel
theorem dX12_token_74 : decode cX12_token 74 = .ok (.ifCond .eq 9, 3) := by decide +kernel
theorem dX12_token_77 : decode cX12_token 77 = .ok (.aload_n 0, 1) := by decide +kernel
theorem dX12_token_78 : decode cX12_token 78 = .ok (.iload_n 1, 1) := by decide +kernel
theorem dX12_token_79 : decode cX12_token 79 = .ok (.invokevirtual 432, 3) := by decide +kernel
theorem dX12_token_82 : decode cX12_token 82 = .ok (.ireturn, 1) := by decide +kernel
theorem dX12_token_83 : decode cX12_token 83 = .ok (.aload_n 0, 1) := by decide +kernel
theorem dX12_token_84 : decode cX12_token 84 = .ok (.sipush 400, 3) := by decide +kernel
theorem dX12_token_87 : decode cX12_token 87 = .ok (.bipush 8, 2) := by decide +kernel
theorem dX12_token_89 : decode cX12_token 89 = .ok (.invokevirtual 421, 3) := by decide +kernel
theorem dX12_token_92 : decode cX12_token 92 = .ok (.ireturn, 1) := by decide +kernel
theorem dX12_isVerifier_0 : decode cX12_isVerifier 0 = .ok (.aload_n 0, 1) := by decide +kernel
theorem dX12_isVerifier_1 : decode cX12_isVerifier 1 = .ok (.getfield 161, 3) := by decide +kernel
theorem dX12_isVerifier_4 : decode cX12_isVerifier 4 = .ok (.bipush 9, 2) := by decide +kernel
theorem dX12_isVerifier_6 : decode cX12_isVerifier 6 = .ok (.iaload, 1) := by decide +kernel
theorem dX12_isVerifier_7 : decode cX12_isVerifier 7 = .ok (.istore_n 1, 1) := by decide +kernel
theorem dX12_isVerifier_8 : decode cX12_isVerifier 8 = .ok (.iload_n 1, 1) := by decide +kernel
theorem dX12_isVerifier_9 : decode cX12_isVerifier 9 = .ok (.bipush 43, 2) := by decide +kernel
theorem dX12_isVerifier_11 : decode cX12_isVerifier 11 = .ok (.if_icmp .lt 14, 3) := by decide +kernel
theorem dX12_isVerifier_14 : decode cX12_isVerifier 14 = .ok (.iload_n 1, 1) := by decide +kernel
theorem dX12_isVerifier_15 : decode cX12_isVerifier 15 = .ok (.sipush 128, 3) := by decide +kernel
theorem dX12_isVerifier_18 : decode cX12_isVerifier 18 = .ok (.if_icmp .gt 7, 3) := by decide +kernel
theorem dX12_isVerifier_21 : decode cX12_isVerifier 21 = .ok (.iconst 1, 1) := by decide +kernel
theorem dX12_isVerifier_22 : decode cX12_isVerifier 22 = .ok (.goto 4, 3) := by decide +kernel
theorem dX12_isVerifier_25 : decode cX12_isVerifier 25 = .ok (.iconst 0, 1) := by decide +kernel
theorem dX12_isVerifier_26 : decode cX12_isVerifier 26 = .ok (.istore_n 2, 1) := by decide +kernel
theorem dX12_isVerifier_27 : decode cX12_isVerifier 27 = .ok (.iconst 0, 1) := by decide +kernel
theorem dX12_isVerifier_28 : decode cX12_isVerifier 28 = .ok (.istore_n 3, 1) := by decide +kernel
theorem dX12_isVerifier_29 : decode cX12_isVerifier 29 = .ok (.iload_n 2, 1) := by decide +kernel
theorem dX12_isVerifier_30 : decode cX12_isVerifier 30 = .ok (.ifCond .eq 72, 3) := by decide +kernel
theorem dX12_isVerifier_33 : decode cX12_isVerifier 33 = .ok (.iload_n 3, 1) := by decide +kernel
theorem dX12_isVerifier_34 : decode cX12_isVerifier 34 = .ok (.iload_n 1, 1) := by decide +kernel
theorem dX12_isVerifier_35 : decode cX12_isVerifier 35 = .ok (.if_icmp .ge 67, 3) := by decide +kernel
theorem dX12_isVerifier_38 : decode cX12_isVerifier 38 = .ok (.aload_n 0, 1) := by decide +kernel
theorem dX12_isVerifier_39 : decode cX12_isVerifier 39 = .ok (.getfield 155, 3) := by decide +kernel
theorem dX12_isVerifier_42 : decode cX12_isVerifier 42 = .ok (.aload_n 0, 1) := by decide +kernel
theorem dX12_isVerifier_43 : decode cX12_isVerifier 43 = .ok (.getfield 158, 3) := by decide +kernel
theorem dX12_isVerifier_46 : decode cX12_isVerifier 46 = .ok (.bipush 9, 2) := by decide +kernel
theorem dX12_isVerifier_48 : decode cX12_isVerifier 48 = .ok (.iaload, 1) := by decide +kernel
theorem dX12_isVerifier_49 : decode cX12_isVerifier 49 = .ok (.iload_n 3, 1) := by decide +kernel
theorem dX12_isVerifier_50 : decode cX12_isVerifier 50 = .ok (.iadd, 1) := by decide +kernel
theorem dX12_isVerifier_51 : decode cX12_isVerifier 51 = .ok (.baload, 1) := by decide +kernel
theorem dX12_isVerifier_52 : decode cX12_isVerifier 52 = .ok (.istore 4, 2) := by decide +kernel
theorem dX12_isVerifier_54 : decode cX12_isVerifier 54 = .ok (.iload 4, 2) := by decide +kernel
theorem dX12_isVerifier_56 : decode cX12_isVerifier 56 = .ok (.invokestatic 345, 3) := by decide +kernel
theorem dX12_isVerifier_59 : decode cX12_isVerifier 59 = .ok (.ifCond .ne 31, 3) := by decide +kernel
theorem dX12_isVerifier_62 : decode cX12_isVerifier 62 = .ok (.iload 4, 2) := by decide +kernel
theorem dX12_isVerifier_64 : decode cX12_isVerifier 64 = .ok (.bipush 45, 2) := by decide +kernel
theorem dX12_isVerifier_66 : decode cX12_isVerifier 66 = .ok (.if_icmp .eq 24, 3) := by decide +kernel
theorem dX12_isVerifier_69 : decode cX12_isVerifier 69 = .ok (.iload 4, 2) := by decide +kernel
theorem dX12_isVerifier_71 : decode cX12_isVerifier 71 = .ok (.bipush 46, 2) := by decide +kernel
theorem dX12_isVerifier_73 : decode cX12_isVerifier 73 = .ok (.if_icmp .eq 17, 3) := by decide +kernel
theorem dX12_isVerifier_76 : decode cX12_isVerifier 76 = .ok (.iload 4, 2) := by decide +kernel
theorem dX12_isVerifier_78 : decode cX12_isVerifier 78 = .ok (.bipush 95, 2) := by decide +kernel
theorem dX12_isVerifier_80 : decode cX12_isVerifier 80 = .ok (.if_icmp .eq 10, 3) := by decide +kernel
theorem dX12_isVerifier_83 : decode cX12_isVerifier 83 = .ok (.iload 4, 2) := by decide +kernel
theorem dX12_isVerifier_85 : decode cX12_isVerifier 85 = .ok (.bipush 126, 2) := by decide +kernel
theorem dX12_isVerifier_87 : decode cX12_isVerifier 87 = .ok (.if_icmp .ne 7, 3) := by decide +kernel
theorem dX12_isVerifier_90 : decode cX12_isVerifier 90 = .ok (.iconst 1, 1) := by decide +kernel
theorem dX12_isVerifier_91 : decode cX12_isVerifier 91 = .ok (.goto 4, 3) := by decide +kernel
theorem dX12_isVerifier_94 : decode cX12_isVerifier 94 = .ok (.iconst 0, 1) := by decide +kernel
theorem dX12_isVerifier_95 : decode cX12_isVerifier 95 = .ok (.istore_n 2, 1) := by decide +kernel
theorem dX12_isVerifier_96 : decode cX12_isVerifier 96 = .ok (.iinc 3 1, 3) := by decide +kernel
theorem dX12_isVerifier_99 : decode cX12_isVerifier 99 = .ok (.goto (-70), 3) := by decide +kernel
theorem dX12_isVerifier_102 : decode cX12_isVerifier 102 = .ok (.iload_n 2, 1) := by decide +kernel
theorem dX12_isVerifier_103 : decode cX12_isVerifier 103 = .ok (.ireturn, 1) := by decide +kernel
theorem dX12_isRedirectOf_0 : decode cX12_isRedirectOf 0 = .ok (.iconst 3, 1) := by decide +kernel
theorem dX12_isRedirectOf_1 : decode cX12_isRedirectOf 1 = .ok (.aload_n 0, 1) := by decide +kernel
theorem dX12_isRedirectOf_2 : decode cX12_isRedirectOf 2 = .ok (.getfield 70, 3) := by decide +kernel
theorem dX12_isRedirectOf_5 : decode cX12_isRedirectOf 5 = .ok (.iload_n 1, 1) := by decide +kernel
theorem dX12_isRedirectOf_6 : decode cX12_isRedirectOf 6 = .ok (.iaload, 1) := by decide +kernel
theorem dX12_isRedirectOf_7 : decode cX12_isRedirectOf 7 = .ok (.imul, 1) := by decide +kernel
theorem dX12_isRedirectOf_8 : decode cX12_isRedirectOf 8 = .ok (.aload_n 0, 1) := by decide +kernel
theorem dX12_isRedirectOf_9 : decode cX12_isRedirectOf 9 = .ok (.getfield 73, 3) := by decide +kernel
theorem dX12_isRedirectOf_12 : decode cX12_isRedirectOf 12 = .ok (.iload_n 1, 1) := by decide +kernel
theorem dX12_isRedirectOf_13 : decode cX12_isRedirectOf 13 = .ok (.iaload, 1) := by decide +kernel
theorem dX12_isRedirectOf_14 : decode cX12_isRedirectOf 14 = .ok (.iadd, 1) := by decide +kernel
theorem dX12_isRedirectOf_15 : decode cX12_isRedirectOf 15 = .ok (.istore_n 2, 1) := by decide +kernel
theorem dX12_isRedirectOf_16 : decode cX12_isRedirectOf 16 = .ok (.aload_n 0, 1) := by decide +kernel
theorem dX12_isRedirectOf_17 : decode cX12_isRedirectOf 17 = .ok (.getfield 155, 3) := by decide +kernel
theorem dX12_isRedirectOf_20 : decode cX12_isRedirectOf 20 = .ok (.aload_n 0, 1) := by decide +kernel
theorem dX12_isRedirectOf_21 : decode cX12_isRedirectOf 21 = .ok (.getfield 158, 3) := by decide +kernel
theorem dX12_isRedirectOf_24 : decode cX12_isRedirectOf 24 = .ok (.iconst 2, 1) := by decide +kernel
theorem dX12_isRedirectOf_25 : decode cX12_isRedirectOf 25 = .ok (.iaload, 1) := by decide +kernel
theorem dX12_isRedirectOf_26 : decode cX12_isRedirectOf 26 = .ok (.aload_n 0, 1) := by decide +kernel
theorem dX12_isRedirectOf_27 : decode cX12_isRedirectOf 27 = .ok (.getfield 161, 3) := by decide +kernel
theorem dX12_isRedirectOf_30 : decode cX12_isRedirectOf 30 = .ok (.iconst 2, 1) := by decide +kernel
theorem dX12_isRedirectOf_31 : decode cX12_isRedirectOf 31 = .ok (.iaload, 1) := by decide +kernel
theorem dX12_isRedirectOf_32 : decode cX12_isRedirectOf 32 = .ok (.aload_n 0, 1) := by decide +kernel
theorem dX12_isRedirectOf_33 : decode cX12_isRedirectOf 33 = .ok (.getfield 45, 3) := by decide +kernel
theorem dX12_isRedirectOf_36 : decode cX12_isRedirectOf 36 = .ok (.bipush 80, 2) := by decide +kernel
theorem dX12_isRedirectOf_38 : decode cX12_isRedirectOf 38 = .ok (.iload_n 2, 1) := by decide +kernel
theorem dX12_isRedirectOf_39 : decode cX12_isRedirectOf 39 = .ok (.imul, 1) := by decide +kernel
theorem dX12_isRedirectOf_40 : decode cX12_isRedirectOf 40 = .ok (.aload_n 0, 1) := by decide +kernel
theorem dX12_isRedirectOf_41 : decode cX12_isRedirectOf 41 = .ok (.getfield 48, 3) := by decide +kernel
theorem dX12_isRedirectOf_44 : decode cX12_isRedirectOf 44 = .ok (.iload_n 2, 1) := by decide +kernel
theorem dX12_isRedirectOf_45 : decode cX12_isRedirectOf 45 = .ok (.iaload, 1) := by decide +kernel
theorem dX12_isRedirectOf_46 : decode cX12_isRedirectOf 46 = .ok (.invokestatic 264, 3) := by decide +kernel
theorem dX12_isRedirectOf_49 : decode cX12_isRedirectOf 49 = .ok (.ireturn, 1) := by decide +kernel
theorem dX12_isProved_0 : decode cX12_isProved 0 = .ok (.aload_n 0, 1) := by decide +kernel
theorem dX12_isProved_1 : decode cX12_isProved 1 = .ok (.aload_n 0, 1) := by decide +kernel
theorem dX12_isProved_2 : decode cX12_isProved 2 = .ok (.getfield 155, 3) := by decide +kernel
theorem dX12_isProved_5 : decode cX12_isProved 5 = .ok (.aload_n 0, 1) := by decide +kernel
theorem dX12_isProved_6 : decode cX12_isProved 6 = .ok (.getfield 158, 3) := by decide +kernel
theorem dX12_isProved_9 : decode cX12_isProved 9 = .ok (.bipush 9, 2) := by decide +kernel
theorem dX12_isProved_11 : decode cX12_isProved 11 = .ok (.iaload, 1) := by decide +kernel
theorem dX12_isProved_12 : decode cX12_isProved 12 = .ok (.aload_n 0, 1) := by decide +kernel
theorem dX12_isProved_13 : decode cX12_isProved 13 = .ok (.getfield 161, 3) := by decide +kernel
theorem dX12_isProved_16 : decode cX12_isProved 16 = .ok (.bipush 9, 2) := by decide +kernel
theorem dX12_isProved_18 : decode cX12_isProved 18 = .ok (.iaload, 1) := by decide +kernel
theorem dX12_isProved_19 : decode cX12_isProved 19 = .ok (.invokevirtual 435, 3) := by decide +kernel
theorem dX12_isProved_22 : decode cX12_isProved 22 = .ok (.aload_n 0, 1) := by decide +kernel
theorem dX12_isProved_23 : decode cX12_isProved 23 = .ok (.getfield 176, 3) := by decide +kernel
theorem dX12_isProved_26 : decode cX12_isProved 26 = .ok (.bipush 32, 2) := by decide +kernel
theorem dX12_isProved_28 : decode cX12_isProved 28 = .ok (.aload_n 0, 1) := by decide +kernel
theorem dX12_isProved_29 : decode cX12_isProved 29 = .ok (.getfield 170, 3) := by decide +kernel
theorem dX12_isProved_32 : decode cX12_isProved 32 = .ok (.invokestatic 289, 3) := by decide +kernel
theorem dX12_isProved_35 : decode cX12_isProved 35 = .ok (.istore_n 2, 1) := by decide +kernel
theorem dX12_isProved_36 : decode cX12_isProved 36 = .ok (.aload_n 0, 1) := by decide +kernel
theorem dX12_isProved_37 : decode cX12_isProved 37 = .ok (.getfield 170, 3) := by decide +kernel
theorem dX12_isProved_40 : decode cX12_isProved 40 = .ok (.iconst 0, 1) := by decide +kernel
theorem dX12_isProved_41 : decode cX12_isProved 41 = .ok (.iload_n 2, 1) := by decide +kernel
theorem dX12_isProved_42 : decode cX12_isProved 42 = .ok (.aload_n 0, 1) := by decide +kernel
theorem dX12_isProved_43 : decode cX12_isProved 43 = .ok (.getfield 82, 3) := by decide +kernel
theorem dX12_isProved_46 : decode cX12_isProved 46 = .ok (.bipush 43, 2) := by decide +kernel
theorem dX12_isProved_48 : decode cX12_isProved 48 = .ok (.iload_n 1, 1) := by decide +kernel
theorem dX12_isProved_49 : decode cX12_isProved 49 = .ok (.imul, 1) := by decide +kernel
theorem dX12_isProved_50 : decode cX12_isProved 50 = .ok (.bipush 43, 2) := by decide +kernel
theorem dX12_isProved_52 : decode cX12_isProved 52 = .ok (.invokestatic 264, 3) := by decide +kernel
theorem dX12_isProved_55 : decode cX12_isProved 55 = .ok (.ireturn, 1) := by decide +kernel
theorem dX12_redeems_0 : decode cX12_redeems 0 = .ok (.aload_n 0, 1) := by decide +kernel
theorem dX12_redeems_1 : decode cX12_redeems 1 = .ok (.bipush 8, 2) := by decide +kernel
theorem dX12_redeems_3 : decode cX12_redeems 3 = .ok (.invokevirtual 260, 3) := by decide +kernel
theorem dX12_redeems_6 : decode cX12_redeems 6 = .ok (.ifCond .eq 27, 3) := by decide +kernel
theorem dX12_redeems_9 : decode cX12_redeems 9 = .ok (.aload_n 0, 1) := by decide +kernel
theorem dX12_redeems_10 : decode cX12_redeems 10 = .ok (.iconst 2, 1) := by decide +kernel
theorem dX12_redeems_11 : decode cX12_redeems 11 = .ok (.invokevirtual 260, 3) := by decide +kernel
theorem dX12_redeems_14 : decode cX12_redeems 14 = .ok (.ifCond .eq 19, 3) := by decide +kernel
theorem dX12_redeems_17 : decode cX12_redeems 17 = .ok (.aload_n 0, 1) := by decide +kernel
theorem dX12_redeems_18 : decode cX12_redeems 18 = .ok (.bipush 9, 2) := by decide +kernel
theorem dX12_redeems_20 : decode cX12_redeems 20 = .ok (.invokevirtual 260, 3) := by decide +kernel
theorem dX12_redeems_23 : decode cX12_redeems 23 = .ok (.ifCond .eq 10, 3) := by decide +kernel
theorem dX12_redeems_26 : decode cX12_redeems 26 = .ok (.aload_n 0, 1) := by decide +kernel
theorem dX12_redeems_27 : decode cX12_redeems 27 = .ok (.invokevirtual 438, 3) := by decide +kernel
theorem dX12_redeems_30 : decode cX12_redeems 30 = .ok (.ifCond .ne 12, 3) := by decide +kernel
theorem dX12_redeems_33 : decode cX12_redeems 33 = .ok (.aload_n 0, 1) := by decide +kernel
theorem dX12_redeems_34 : decode cX12_redeems 34 = .ok (.sipush 400, 3) := by decide +kernel
theorem dX12_redeems_37 : decode cX12_redeems 37 = .ok (.iconst 1, 1) := by decide +kernel
theorem dX12_redeems_38 : decode cX12_redeems 38 = .ok (.invokevirtual 421, 3) := by decide +kernel
theorem dX12_redeems_41 : decode cX12_redeems 41 = .ok (.ireturn, 1) := by decide +kernel
theorem dX12_redeems_42 : decode cX12_redeems 42 = .ok (.iconst 0, 1) := by decide +kernel
theorem dX12_redeems_43 : decode cX12_redeems 43 = .ok (.istore_n 2, 1) := by decide +kernel
theorem dX12_redeems_44 : decode cX12_redeems 44 = .ok (.iload_n 2, 1) := by decide +kernel
theorem dX12_redeems_45 : decode cX12_redeems 45 = .ok (.aload_n 0, 1) := by decide +kernel
theorem dX12_redeems_46 : decode cX12_redeems 46 = .ok (.getfield 408, 3) := by decide +kernel
theorem dX12_redeems_49 : decode cX12_redeems 49 = .ok (.if_icmp .ge 40, 3) := by decide +kernel
theorem dX12_redeems_52 : decode cX12_redeems 52 = .ok (.aload_n 0, 1) := by decide +kernel
theorem dX12_redeems_53 : decode cX12_redeems 53 = .ok (.aload_n 0, 1) := by decide +kernel
theorem dX12_redeems_54 : decode cX12_redeems 54 = .ok (.getfield 95, 3) := by decide +kernel
theorem dX12_redeems_57 : decode cX12_redeems 57 = .ok (.iload_n 2, 1) := by decide +kernel
theorem dX12_redeems_58 : decode cX12_redeems 58 = .ok (.iaload, 1) := by decide +kernel
theorem dX12_redeems_59 : decode cX12_redeems 59 = .ok (.aload_n 0, 1) := by decide +kernel
theorem dX12_redeems_60 : decode cX12_redeems 60 = .ok (.getfield 155, 3) := by decide +kernel
theorem dX12_redeems_63 : decode cX12_redeems 63 = .ok (.aload_n 0, 1) := by decide +kernel
theorem dX12_redeems_64 : decode cX12_redeems 64 = .ok (.getfield 158, 3) := by decide +kernel
theorem dX12_redeems_67 : decode cX12_redeems 67 = .ok (.bipush 8, 2) := by decide +kernel
theorem dX12_redeems_69 : decode cX12_redeems 69 = .ok (.iaload, 1) := by decide +kernel
theorem dX12_redeems_70 : decode cX12_redeems 70 = .ok (.aload_n 0, 1) := by decide +kernel
theorem dX12_redeems_71 : decode cX12_redeems 71 = .ok (.getfield 161, 3) := by decide +kernel
theorem dX12_redeems_74 : decode cX12_redeems 74 = .ok (.bipush 8, 2) := by decide +kernel
theorem dX12_redeems_76 : decode cX12_redeems 76 = .ok (.iaload, 1) := by decide +kernel
theorem dX12_redeems_77 : decode cX12_redeems 77 = .ok (.invokevirtual 441, 3) := by decide +kernel
theorem dX12_redeems_80 : decode cX12_redeems 80 = .ok (.ifCond .ne 9, 3) := by decide +kernel
theorem dX12_redeems_83 : decode cX12_redeems 83 = .ok (.iinc 2 1, 3) := by decide +kernel
theorem dX12_redeems_86 : decode cX12_redeems 86 = .ok (.goto (-42), 3) := by decide +kernel
theorem dX12_redeems_89 : decode cX12_redeems 89 = .ok (.iload_n 2, 1) := by decide +kernel
theorem dX12_redeems_90 : decode cX12_redeems 90 = .ok (.aload_n 0, 1) := by decide +kernel
theorem dX12_redeems_91 : decode cX12_redeems 91 = .ok (.getfield 408, 3) := by decide +kernel
theorem dX12_redeems_94 : decode cX12_redeems 94 = .ok (.if_icmp .eq 18, 3) := by decide +kernel
theorem dX12_redeems_97 : decode cX12_redeems 97 = .ok (.aload_n 0, 1) := by decide +kernel
theorem dX12_redeems_98 : decode cX12_redeems 98 = .ok (.getfield 70, 3) := by decide +kernel
theorem dX12_redeems_101 : decode cX12_redeems 101 = .ok (.aload_n 0, 1) := by decide +kernel
theorem dX12_redeems_102 : decode cX12_redeems 102 = .ok (.getfield 98, 3) := by decide +kernel
theorem dX12_redeems_105 : decode cX12_redeems 105 = .ok (.iload_n 2, 1) := by decide +kernel
theorem dX12_redeems_106 : decode cX12_redeems 106 = .ok (.iaload, 1) := by decide +kernel
theorem dX12_redeems_107 : decode cX12_redeems 107 = .ok (.iaload, 1) := by decide +kernel
theorem dX12_redeems_108 : decode cX12_redeems 108 = .ok (.iload_n 1, 1) := by decide +kernel
theorem dX12_redeems_109 : decode cX12_redeems 109 = .ok (.if_icmp .eq 13, 3) := by decide +kernel
theorem dX12_redeems_112 : decode cX12_redeems 112 = .ok (.aload_n 0, 1) := by decide +kernel
theorem dX12_redeems_113 : decode cX12_redeems 113 = .ok (.sipush 400, 3) := by decide +kernel
theorem dX12_redeems_116 : decode cX12_redeems 116 = .ok (.bipush 7, 2) := by decide +kernel
theorem dX12_redeems_118 : decode cX12_redeems 118 = .ok (.invokevirtual 421, 3) := by decide +kernel
theorem dX12_redeems_121 : decode cX12_redeems 121 = .ok (.ireturn, 1) := by decide +kernel
theorem dX12_redeems_122 : decode cX12_redeems 122 = .ok (.aload_n 0, 1) := by decide +kernel
theorem dX12_redeems_123 : decode cX12_redeems 123 = .ok (.getfield 110, 3) := by decide +kernel
theorem dX12_redeems_126 : decode cX12_redeems 126 = .ok (.iload_n 2, 1) := by decide +kernel
theorem dX12_redeems_127 : decode cX12_redeems 127 = .ok (.iaload, 1) := by decide +kernel
theorem dX12_redeems_128 : decode cX12_redeems 128 = .ok (.ifCond .lt 25, 3) := by decide +kernel
theorem dX12_redeems_131 : decode cX12_redeems 131 = .ok (.aload_n 0, 1) := by decide +kernel
theorem dX12_redeems_132 : decode cX12_redeems 132 = .ok (.getfield 125, 3) := by decide +kernel
theorem dX12_redeems_135 : decode cX12_redeems 135 = .ok (.aload_n 0, 1) := by decide +kernel
theorem dX12_redeems_136 : decode cX12_redeems 136 = .ok (.getfield 110, 3) := by decide +kernel
theorem dX12_redeems_139 : decode cX12_redeems 139 = .ok (.iload_n 2, 1) := by decide +kernel
theorem dX12_redeems_140 : decode cX12_redeems 140 = .ok (.iaload, 1) := by decide +kernel
theorem dX12_redeems_141 : decode cX12_redeems 141 = .ok (.iconst 1, 1) := by decide +kernel
theorem dX12_redeems_142 : decode cX12_redeems 142 = .ok (.bastore, 1) := by decide +kernel
theorem dX12_redeems_143 : decode cX12_redeems 143 = .ok (.aload_n 0, 1) := by decide +kernel
theorem dX12_redeems_144 : decode cX12_redeems 144 = .ok (.sipush 400, 3) := by decide +kernel
theorem dX12_redeems_147 : decode cX12_redeems 147 = .ok (.bipush 7, 2) := by decide +kernel
theorem dX12_redeems_149 : decode cX12_redeems 149 = .ok (.invokevirtual 421, 3) := by decide +kernel
theorem dX12_redeems_152 : decode cX12_redeems 152 = .ok (.ireturn, 1) := by decide +kernel
theorem dX12_redeems_153 : decode cX12_redeems 153 = .ok (.aload_n 0, 1) := by decide +kernel
theorem dX12_redeems_154 : decode cX12_redeems 154 = .ok (.getfield 366, 3) := by decide +kernel
theorem dX12_redeems_157 : decode cX12_redeems 157 = .ok (.aload_n 0, 1) := by decide +kernel
theorem dX12_redeems_158 : decode cX12_redeems 158 = .ok (.getfield 107, 3) := by decide +kernel
theorem dX12_redeems_161 : decode cX12_redeems 161 = .ok (.iload_n 2, 1) := by decide +kernel
theorem dX12_redeems_162 : decode cX12_redeems 162 = .ok (.iaload, 1) := by decide +kernel
theorem dX12_redeems_163 : decode cX12_redeems 163 = .ok (.if_icmp .ge 29, 3) := by decide +kernel
theorem dX12_redeems_166 : decode cX12_redeems 166 = .ok (.aload_n 0, 1) := by decide +kernel
theorem dX12_redeems_167 : decode cX12_redeems 167 = .ok (.aload_n 0, 1) := by decide +kernel
theorem dX12_redeems_168 : decode cX12_redeems 168 = .ok (.getfield 98, 3) := by decide +kernel
theorem dX12_redeems_171 : decode cX12_redeems 171 = .ok (.iload_n 2, 1) := by decide +kernel
theorem dX12_redeems_172 : decode cX12_redeems 172 = .ok (.iaload, 1) := by decide +kernel
theorem dX12_redeems_173 : decode cX12_redeems 173 = .ok (.invokevirtual 445, 3) := by decide +kernel
theorem dX12_redeems_176 : decode cX12_redeems 176 = .ok (.ifCond .eq 16, 3) := by decide +kernel
theorem dX12_redeems_179 : decode cX12_redeems 179 = .ok (.aload_n 0, 1) := by decide +kernel
theorem dX12_redeems_180 : decode cX12_redeems 180 = .ok (.aload_n 0, 1) := by decide +kernel
theorem dX12_redeems_181 : decode cX12_redeems 181 = .ok (.getfield 98, 3) := by decide +kernel
theorem dX12_redeems_184 : decode cX12_redeems 184 = .ok (.iload_n 2, 1) := by decide +kernel
theorem dX12_redeems_185 : decode cX12_redeems 185 = .ok (.iaload, 1) := by decide +kernel
theorem dX12_redeems_186 : decode cX12_redeems 186 = .ok (.invokevirtual 448, 3) := by decide +kernel
theorem dX12_redeems_189 : decode cX12_redeems 189 = .ok (.ifCond .ne 13, 3) := by decide +kernel
theorem dX12_redeems_192 : decode cX12_redeems 192 = .ok (.aload_n 0, 1) := by decide +kernel
theorem dX12_redeems_193 : decode cX12_redeems 193 = .ok (.sipush 400, 3) := by decide +kernel
theorem dX12_redeems_196 : decode cX12_redeems 196 = .ok (.bipush 7, 2) := by decide +kernel
theorem dX12_redeems_198 : decode cX12_redeems 198 = .ok (.invokevirtual 421, 3) := by decide +kernel
theorem dX12_redeems_201 : decode cX12_redeems 201 = .ok (.ireturn, 1) := by decide +kernel
theorem dX12_redeems_202 : decode cX12_redeems 202 = .ok (.aload_n 0, 1) := by decide +kernel
theorem dX12_redeems_203 : decode cX12_redeems 203 = .ok (.aload_n 0, 1) := by decide +kernel
theorem dX12_redeems_204 : decode cX12_redeems 204 = .ok (.getfield 42, 3) := by decide +kernel
theorem dX12_redeems_207 : decode cX12_redeems 207 = .ok (.iload_n 1, 1) := by decide +kernel
theorem dX12_redeems_208 : decode cX12_redeems 208 = .ok (.baload, 1) := by decide +kernel
theorem dX12_redeems_209 : decode cX12_redeems 209 = .ok (.invokevirtual 451, 3) := by decide +kernel
theorem dX12_redeems_212 : decode cX12_redeems 212 = .ok (.istore_n 3, 1) := by decide +kernel
theorem dX12_redeems_213 : decode cX12_redeems 213 = .ok (.iload_n 3, 1) := by decide +kernel
theorem dX12_redeems_214 : decode cX12_redeems 214 = .ok (.ifCond .ge 13, 3) := by decide +kernel
theorem dX12_redeems_217 : decode cX12_redeems 217 = .ok (.aload_n 0, 1) := by decide +kernel
theorem dX12_redeems_218 : decode cX12_redeems 218 = .ok (.sipush 503, 3) := by decide +kernel
theorem dX12_redeems_221 : decode cX12_redeems 221 = .ok (.bipush 11, 2) := by decide +kernel
theorem dX12_redeems_223 : decode cX12_redeems 223 = .ok (.invokevirtual 421, 3) := by decide +kernel
theorem dX12_redeems_226 : decode cX12_redeems 226 = .ok (.ireturn, 1) := by decide +kernel
theorem dX12_redeems_227 : decode cX12_redeems 227 = .ok (.aload_n 0, 1) := by decide +kernel
theorem dX12_redeems_228 : decode cX12_redeems 228 = .ok (.getfield 110, 3) := by decide +kernel
theorem dX12_redeems_231 : decode cX12_redeems 231 = .ok (.iload_n 2, 1) := by decide +kernel
theorem dX12_redeems_232 : decode cX12_redeems 232 = .ok (.aload_n 0, 1) := by decide +kernel
theorem dX12_redeems_233 : decode cX12_redeems 233 = .ok (.getfield 455, 3) := by decide +kernel
theorem dX12_redeems_236 : decode cX12_redeems 236 = .ok (.iastore, 1) := by decide +kernel
theorem dX12_redeems_237 : decode cX12_redeems 237 = .ok (.aload_n 0, 1) := by decide +kernel
theorem dX12_redeems_238 : decode cX12_redeems 238 = .ok (.getfield 113, 3) := by decide +kernel
theorem dX12_redeems_241 : decode cX12_redeems 241 = .ok (.aload_n 0, 1) := by decide +kernel
theorem dX12_redeems_242 : decode cX12_redeems 242 = .ok (.getfield 455, 3) := by decide +kernel
theorem dX12_redeems_245 : decode cX12_redeems 245 = .ok (.iload_n 1, 1) := by decide +kernel
theorem dX12_redeems_246 : decode cX12_redeems 246 = .ok (.iastore, 1) := by decide +kernel
theorem dX12_redeems_247 : decode cX12_redeems 247 = .ok (.aload_n 0, 1) := by decide +kernel
theorem dX12_redeems_248 : decode cX12_redeems 248 = .ok (.getfield 116, 3) := by decide +kernel
theorem dX12_redeems_251 : decode cX12_redeems 251 = .ok (.aload_n 0, 1) := by decide +kernel
theorem dX12_redeems_252 : decode cX12_redeems 252 = .ok (.getfield 455, 3) := by decide +kernel
theorem dX12_redeems_255 : decode cX12_redeems 255 = .ok (.aload_n 0, 1) := by decide +kernel
theorem dX12_redeems_256 : decode cX12_redeems 256 = .ok (.getfield 101, 3) := by decide +kernel
theorem dX12_redeems_259 : decode cX12_redeems 259 = .ok (.iload_n 2, 1) := by decide +kernel
theorem dX12_redeems_260 : decode cX12_redeems 260 = .ok (.iaload, 1) := by decide +kernel
theorem dX12_redeems_261 : decode cX12_redeems 261 = .ok (.iastore, 1) := by decide +kernel
theorem dX12_redeems_262 : decode cX12_redeems 262 = .ok (.aload_n 0, 1) := by decide +kernel
theorem dX12_redeems_263 : decode cX12_redeems 263 = .ok (.getfield 119, 3) := by decide +kernel
theorem dX12_redeems_266 : decode cX12_redeems 266 = .ok (.aload_n 0, 1) := by decide +kernel
theorem dX12_redeems_267 : decode cX12_redeems 267 = .ok (.getfield 455, 3) := by decide +kernel
theorem dX12_redeems_270 : decode cX12_redeems 270 = .ok (.aload_n 0, 1) := by decide +kernel
theorem dX12_redeems_271 : decode cX12_redeems 271 = .ok (.getfield 104, 3) := by decide +kernel
theorem dX12_redeems_274 : decode cX12_redeems 274 = .ok (.iload_n 2, 1) := by decide +kernel
theorem dX12_redeems_275 : decode cX12_redeems 275 = .ok (.iaload, 1) := by decide +kernel
theorem dX12_redeems_276 : decode cX12_redeems 276 = .ok (.iastore, 1) := by decide +kernel
theorem dX12_redeems_277 : decode cX12_redeems 277 = .ok (.aload_n 0, 1) := by decide +kernel
theorem dX12_redeems_278 : decode cX12_redeems 278 = .ok (.dup, 1) := by decide +kernel
theorem dX12_redeems_279 : decode cX12_redeems 279 = .ok (.getfield 455, 3) := by decide +kernel
theorem dX12_redeems_282 : decode cX12_redeems 282 = .ok (.iconst 1, 1) := by decide +kernel
theorem dX12_redeems_283 : decode cX12_redeems 283 = .ok (.iadd, 1) := by decide +kernel
theorem dX12_redeems_284 : decode cX12_redeems 284 = .ok (.putfield 455, 3) := by decide +kernel
theorem dX12_redeems_287 : decode cX12_redeems 287 = .ok (.aload_n 0, 1) := by decide +kernel
theorem dX12_redeems_288 : decode cX12_redeems 288 = .ok (.aload_n 0, 1) := by decide +kernel
theorem dX12_redeems_289 : decode cX12_redeems 289 = .ok (.getfield 455, 3) := by decide +kernel
theorem dX12_redeems_292 : decode cX12_redeems 292 = .ok (.iconst 1, 1) := by decide +kernel
theorem dX12_redeems_293 : decode cX12_redeems 293 = .ok (.isub, 1) := by decide +kernel
theorem dX12_redeems_294 : decode cX12_redeems 294 = .ok (.aload_n 0, 1) := by decide +kernel
theorem dX12_redeems_295 : decode cX12_redeems 295 = .ok (.getfield 104, 3) := by decide +kernel
theorem dX12_redeems_298 : decode cX12_redeems 298 = .ok (.iload_n 2, 1) := by decide +kernel
theorem dX12_redeems_299 : decode cX12_redeems 299 = .ok (.iaload, 1) := by decide +kernel
theorem dX12_redeems_300 : decode cX12_redeems 300 = .ok (.iload_n 3, 1) := by decide +kernel
theorem dX12_redeems_301 : decode cX12_redeems 301 = .ok (.aload_n 0, 1) := by decide +kernel
theorem dX12_redeems_302 : decode cX12_redeems 302 = .ok (.getfield 42, 3) := by decide +kernel
theorem dX12_redeems_305 : decode cX12_redeems 305 = .ok (.iload_n 1, 1) := by decide +kernel
theorem dX12_redeems_306 : decode cX12_redeems 306 = .ok (.baload, 1) := by decide +kernel
theorem dX12_redeems_307 : decode cX12_redeems 307 = .ok (.invokevirtual 458, 3) := by decide +kernel
theorem dX12_redeems_310 : decode cX12_redeems 310 = .ok (.ireturn, 1) := by decide +kernel
theorem dX12_gives_0 : decode cX12_gives 0 = .ok (.aload_n 0, 1) := by decide +kernel
theorem dX12_gives_1 : decode cX12_gives 1 = .ok (.getfield 462, 3) := by decide +kernel
theorem dX12_gives_4 : decode cX12_gives 4 = .ok (.sipush 300, 3) := by decide +kernel
theorem dX12_gives_7 : decode cX12_gives 7 = .ok (.if_icmp .eq 17, 3) := by decide +kernel
theorem dX12_gives_10 : decode cX12_gives 10 = .ok (.iload_n 1, 1) := by decide +kernel
theorem dX12_gives_11 : decode cX12_gives 11 = .ok (.ifCond .eq 17, 3) := by decide +kernel
theorem dX12_gives_14 : decode cX12_gives 14 = .ok (.aload_n 0, 1) := by decide +kernel
theorem dX12_gives_15 : decode cX12_gives 15 = .ok (.getfield 465, 3) := by decide +kernel
theorem dX12_gives_18 : decode cX12_gives 18 = .ok (.sipush 300, 3) := by decide +kernel
theorem dX12_gives_21 : decode cX12_gives 21 = .ok (.if_icmp .ne 7, 3) := by decide +kernel
theorem dX12_gives_24 : decode cX12_gives 24 = .ok (.iconst (-1), 1) := by decide +kernel
theorem dX12_gives_25 : decode cX12_gives 25 = .ok (.goto 16, 3) := by decide +kernel
theorem dX12_gives_28 : decode cX12_gives 28 = .ok (.aload_n 0, 1) := by decide +kernel
theorem dX12_gives_29 : decode cX12_gives 29 = .ok (.iload_n 1, 1) := by decide +kernel
theorem dX12_gives_30 : decode cX12_gives 30 = .ok (.ifCond .eq 7, 3) := by decide +kernel
theorem dX12_gives_33 : decode cX12_gives 33 = .ok (.iconst 2, 1) := by decide +kernel
theorem dX12_gives_34 : decode cX12_gives 34 = .ok (.goto 4, 3) := by decide +kernel
theorem dX12_gives_37 : decode cX12_gives 37 = .ok (.iconst 1, 1) := by decide +kernel
theorem dX12_gives_38 : decode cX12_gives 38 = .ok (.invokevirtual 411, 3) := by decide +kernel
theorem dX12_gives_41 : decode cX12_gives 41 = .ok (.ireturn, 1) := by decide +kernel
theorem dX12_comes_0 : decode cX12_comes 0 = .ok (.aload_n 0, 1) := by decide +kernel
theorem dX12_comes_1 : decode cX12_comes 1 = .ok (.getfield 128, 3) := by decide +kernel
theorem dX12_comes_4 : decode cX12_comes 4 = .ok (.aload_n 0, 1) := by decide +kernel
theorem dX12_comes_5 : decode cX12_comes 5 = .ok (.getfield 462, 3) := by decide +kernel
theorem dX12_comes_8 : decode cX12_comes 8 = .ok (.iload_n 3, 1) := by decide +kernel
theorem dX12_comes_9 : decode cX12_comes 9 = .ok (.iastore, 1) := by decide +kernel
theorem dX12_comes_10 : decode cX12_comes 10 = .ok (.aload_n 0, 1) := by decide +kernel
theorem dX12_comes_11 : decode cX12_comes 11 = .ok (.getfield 131, 3) := by decide +kernel
theorem dX12_comes_14 : decode cX12_comes 14 = .ok (.aload_n 0, 1) := by decide +kernel
theorem dX12_comes_15 : decode cX12_comes 15 = .ok (.getfield 462, 3) := by decide +kernel
theorem dX12_comes_18 : decode cX12_comes 18 = .ok (.iload_n 1, 1) := by decide +kernel
theorem dX12_comes_19 : decode cX12_comes 19 = .ok (.iastore, 1) := by decide +kernel
theorem dX12_comes_20 : decode cX12_comes 20 = .ok (.aload_n 0, 1) := by decide +kernel
theorem dX12_comes_21 : decode cX12_comes 21 = .ok (.getfield 134, 3) := by decide +kernel
theorem dX12_comes_24 : decode cX12_comes 24 = .ok (.aload_n 0, 1) := by decide +kernel
theorem dX12_comes_25 : decode cX12_comes 25 = .ok (.getfield 462, 3) := by decide +kernel
theorem dX12_comes_28 : decode cX12_comes 28 = .ok (.iload_n 2, 1) := by decide +kernel
theorem dX12_comes_29 : decode cX12_comes 29 = .ok (.iastore, 1) := by decide +kernel
theorem dX12_comes_30 : decode cX12_comes 30 = .ok (.aload_n 0, 1) := by decide +kernel
theorem dX12_comes_31 : decode cX12_comes 31 = .ok (.getfield 137, 3) := by decide +kernel
theorem dX12_comes_34 : decode cX12_comes 34 = .ok (.aload_n 0, 1) := by decide +kernel
theorem dX12_comes_35 : decode cX12_comes 35 = .ok (.getfield 462, 3) := by decide +kernel
theorem dX12_comes_38 : decode cX12_comes 38 = .ok (.aload_n 0, 1) := by decide +kernel
theorem dX12_comes_39 : decode cX12_comes 39 = .ok (.getfield 366, 3) := by decide +kernel
theorem dX12_comes_42 : decode cX12_comes 42 = .ok (.aload_n 0, 1) := by decide +kernel
theorem dX12_comes_43 : decode cX12_comes 43 = .ok (.getfield 64, 3) := by decide +kernel
theorem dX12_comes_46 : decode cX12_comes 46 = .ok (.iadd, 1) := by decide +kernel
theorem dX12_comes_47 : decode cX12_comes 47 = .ok (.iastore, 1) := by decide +kernel
theorem dX12_comes_48 : decode cX12_comes 48 = .ok (.aload_n 0, 1) := by decide +kernel
theorem dX12_comes_49 : decode cX12_comes 49 = .ok (.dup, 1) := by decide +kernel
theorem dX12_comes_50 : decode cX12_comes 50 = .ok (.getfield 462, 3) := by decide +kernel
theorem dX12_comes_53 : decode cX12_comes 53 = .ok (.iconst 1, 1) := by decide +kernel
theorem dX12_comes_54 : decode cX12_comes 54 = .ok (.iadd, 1) := by decide +kernel
theorem dX12_comes_55 : decode cX12_comes 55 = .ok (.putfield 462, 3) := by decide +kernel
theorem dX12_comes_58 : decode cX12_comes 58 = .ok (.iload 4, 2) := by decide +kernel
theorem dX12_comes_60 : decode cX12_comes 60 = .ok (.ifCond .eq 53, 3) := by decide +kernel
theorem dX12_comes_63 : decode cX12_comes 63 = .ok (.aload_n 0, 1) := by decide +kernel
theorem dX12_comes_64 : decode cX12_comes 64 = .ok (.getfield 143, 3) := by decide +kernel
theorem dX12_comes_67 : decode cX12_comes 67 = .ok (.aload_n 0, 1) := by decide +kernel
theorem dX12_comes_68 : decode cX12_comes 68 = .ok (.getfield 465, 3) := by decide +kernel
theorem dX12_comes_71 : decode cX12_comes 71 = .ok (.iload_n 3, 1) := by decide +kernel
theorem dX12_comes_72 : decode cX12_comes 72 = .ok (.iconst 1, 1) := by decide +kernel
theorem dX12_comes_73 : decode cX12_comes 73 = .ok (.iadd, 1) := by decide +kernel
theorem dX12_comes_74 : decode cX12_comes 74 = .ok (.iastore, 1) := by decide +kernel
theorem dX12_comes_75 : decode cX12_comes 75 = .ok (.aload_n 0, 1) := by decide +kernel
theorem dX12_comes_76 : decode cX12_comes 76 = .ok (.getfield 146, 3) := by decide +kernel
theorem dX12_comes_79 : decode cX12_comes 79 = .ok (.aload_n 0, 1) := by decide +kernel
theorem dX12_comes_80 : decode cX12_comes 80 = .ok (.getfield 465, 3) := by decide +kernel
theorem dX12_comes_83 : decode cX12_comes 83 = .ok (.iload_n 1, 1) := by decide +kernel
theorem dX12_comes_84 : decode cX12_comes 84 = .ok (.iastore, 1) := by decide +kernel
theorem dX12_comes_85 : decode cX12_comes 85 = .ok (.aload_n 0, 1) := by decide +kernel
theorem dX12_comes_86 : decode cX12_comes 86 = .ok (.getfield 149, 3) := by decide +kernel
theorem dX12_comes_89 : decode cX12_comes 89 = .ok (.aload_n 0, 1) := by decide +kernel
theorem dX12_comes_90 : decode cX12_comes 90 = .ok (.getfield 465, 3) := by decide +kernel
theorem dX12_comes_93 : decode cX12_comes 93 = .ok (.aload_n 0, 1) := by decide +kernel
theorem dX12_comes_94 : decode cX12_comes 94 = .ok (.getfield 366, 3) := by decide +kernel
theorem dX12_comes_97 : decode cX12_comes 97 = .ok (.aload_n 0, 1) := by decide +kernel
theorem dX12_comes_98 : decode cX12_comes 98 = .ok (.getfield 67, 3) := by decide +kernel
theorem dX12_comes_101 : decode cX12_comes 101 = .ok (.iadd, 1) := by decide +kernel
theorem dX12_comes_102 : decode cX12_comes 102 = .ok (.iastore, 1) := by decide +kernel
theorem dX12_comes_103 : decode cX12_comes 103 = .ok (.aload_n 0, 1) := by decide +kernel
theorem dX12_comes_104 : decode cX12_comes 104 = .ok (.dup, 1) := by decide +kernel
theorem dX12_comes_105 : decode cX12_comes 105 = .ok (.getfield 465, 3) := by decide +kernel
theorem dX12_comes_108 : decode cX12_comes 108 = .ok (.iconst 1, 1) := by decide +kernel
theorem dX12_comes_109 : decode cX12_comes 109 = .ok (.iadd, 1) := by decide +kernel
theorem dX12_comes_110 : decode cX12_comes 110 = .ok (.putfield 465, 3) := by decide +kernel
theorem dX12_comes_113 : decode cX12_comes 113 = .ok (.aload_n 0, 1) := by decide +kernel
theorem dX12_comes_114 : decode cX12_comes 114 = .ok (.sipush 200, 3) := by decide +kernel
theorem dX12_comes_117 : decode cX12_comes 117 = .ok (.iconst 0, 1) := by decide +kernel
theorem dX12_comes_118 : decode cX12_comes 118 = .ok (.invokevirtual 328, 3) := by decide +kernel
theorem dX12_comes_121 : decode cX12_comes 121 = .ok (.aload_n 0, 1) := by decide +kernel
theorem dX12_comes_122 : decode cX12_comes 122 = .ok (.ldc_w 468, 3) := by decide +kernel
theorem dX12_comes_125 : decode cX12_comes 125 = .ok (.invokevirtual 334, 3) := by decide +kernel
theorem dX12_comes_128 : decode cX12_comes 128 = .ok (.aload_n 0, 1) := by decide +kernel
theorem dX12_comes_129 : decode cX12_comes 129 = .ok (.iload_n 3, 1) := by decide +kernel
theorem dX12_comes_130 : decode cX12_comes 130 = .ok (.invokevirtual 418, 3) := by decide +kernel
theorem dX12_comes_133 : decode cX12_comes 133 = .ok (.aload_n 0, 1) := by decide +kernel
theorem dX12_comes_134 : decode cX12_comes 134 = .ok (.ldc_w 470, 3) := by decide +kernel
theorem dX12_comes_137 : decode cX12_comes 137 = .ok (.invokevirtual 334, 3) := by decide +kernel
theorem dX12_comes_140 : decode cX12_comes 140 = .ok (.iconst 1, 1) := by decide +kernel
theorem dX12_comes_141 : decode cX12_comes 141 = .ok (.istore 5, 2) := by decide +kernel
theorem dX12_comes_143 : decode cX12_comes 143 = .ok (.aload_n 0, 1) := by decide +kernel
theorem dX12_comes_144 : decode cX12_comes 144 = .ok (.getfield 64, 3) := by decide +kernel
theorem dX12_comes_147 : decode cX12_comes 147 = .ok (.iload 5, 2) := by decide +kernel
theorem dX12_comes_149 : decode cX12_comes 149 = .ok (.idiv, 1) := by decide +kernel
theorem dX12_comes_150 : decode cX12_comes 150 = .ok (.bipush 9, 2) := by decide +kernel
theorem dX12_comes_152 : decode cX12_comes 152 = .ok (.if_icmp .le 13, 3) := by decide +kernel
theorem dX12_comes_155 : decode cX12_comes 155 = .ok (.bipush 10, 2) := by decide +kernel
theorem dX12_comes_157 : decode cX12_comes 157 = .ok (.iload 5, 2) := by decide +kernel
theorem dX12_comes_159 : decode cX12_comes 159 = .ok (.imul, 1) := by decide +kernel
theorem dX12_comes_160 : decode cX12_comes 160 = .ok (.istore 5, 2) := by decide +kernel
theorem dX12_comes_162 : decode cX12_comes 162 = .ok (.goto (-19), 3) := by decide +kernel
theorem dX12_comes_165 : decode cX12_comes 165 = .ok (.iload 5, 2) := by decide +kernel
theorem dX12_comes_167 : decode cX12_comes 167 = .ok (.ifCond .le 30, 3) := by decide +kernel
theorem dX12_comes_170 : decode cX12_comes 170 = .ok (.aload_n 0, 1) := by decide +kernel
theorem dX12_comes_171 : decode cX12_comes 171 = .ok (.bipush 48, 2) := by decide +kernel
theorem dX12_comes_173 : decode cX12_comes 173 = .ok (.aload_n 0, 1) := by decide +kernel
theorem dX12_comes_174 : decode cX12_comes 174 = .ok (.getfield 64, 3) := by decide +kernel
theorem dX12_comes_177 : decode cX12_comes 177 = .ok (.iload 5, 2) := by decide +kernel
theorem dX12_comes_179 : decode cX12_comes 179 = .ok (.idiv, 1) := by decide +kernel
theorem dX12_comes_180 : decode cX12_comes 180 = .ok (.bipush 10, 2) := by decide +kernel
theorem dX12_comes_182 : decode cX12_comes 182 = .ok (.irem, 1) := by decide +kernel
theorem dX12_comes_183 : decode cX12_comes 183 = .ok (.iadd, 1) := by decide +kernel
theorem dX12_comes_184 : decode cX12_comes 184 = .ok (.invokevirtual 299, 3) := by decide +kernel
theorem dX12_comes_187 : decode cX12_comes 187 = .ok (.iload 5, 2) := by decide +kernel
theorem dX12_comes_189 : decode cX12_comes 189 = .ok (.bipush 10, 2) := by decide +kernel
theorem dX12_comes_191 : decode cX12_comes 191 = .ok (.idiv, 1) := by decide +kernel
theorem dX12_comes_192 : decode cX12_comes 192 = .ok (.istore 5, 2) := by decide +kernel
theorem dX12_comes_194 : decode cX12_comes 194 = .ok (.goto (-29), 3) := by decide +kernel
theorem dX12_comes_197 : decode cX12_comes 197 = .ok (.iload 4, 2) := by decide +kernel
theorem dX12_comes_199 : decode cX12_comes 199 = .ok (.ifCond .eq 23, 3) := by decide +kernel
theorem dX12_comes_202 : decode cX12_comes 202 = .ok (.aload_n 0, 1) := by decide +kernel
theorem dX12_comes_203 : decode cX12_comes 203 = .ok (.ldc_w 472, 3) := by decide +kernel
theorem dX12_comes_206 : decode cX12_comes 206 = .ok (.invokevirtual 334, 3) := by decide +kernel
theorem dX12_comes_209 : decode cX12_comes 209 = .ok (.aload_n 0, 1) := by decide +kernel
theorem dX12_comes_210 : decode cX12_comes 210 = .ok (.iload_n 3, 1) := by decide +kernel
theorem dX12_comes_211 : decode cX12_comes 211 = .ok (.iconst 1, 1) := by decide +kernel
theorem dX12_comes_212 : decode cX12_comes 212 = .ok (.iadd, 1) := by decide +kernel
theorem dX12_comes_213 : decode cX12_comes 213 = .ok (.invokevirtual 418, 3) := by decide +kernel
theorem dX12_comes_216 : decode cX12_comes 216 = .ok (.aload_n 0, 1) := by decide +kernel
theorem dX12_comes_217 : decode cX12_comes 217 = .ok (.bipush 34, 2) := by decide +kernel
theorem dX12_comes_219 : decode cX12_comes 219 = .ok (.invokevirtual 299, 3) := by decide +kernel
theorem dX12_comes_222 : decode cX12_comes 222 = .ok (.aload_n 0, 1) := by decide +kernel
theorem dX12_comes_223 : decode cX12_comes 223 = .ok (.ldc_w 474, 3) := by decide +kernel
theorem dX12_comes_226 : decode cX12_comes 226 = .ok (.invokevirtual 334, 3) := by decide +kernel
theorem dX12_comes_229 : decode cX12_comes 229 = .ok (.iconst 1, 1) := by decide +kernel
theorem dX12_comes_230 : decode cX12_comes 230 = .ok (.istore 6, 2) := by decide +kernel
theorem dX12_comes_232 : decode cX12_comes 232 = .ok (.iconst 0, 1) := by decide +kernel
theorem dX12_comes_233 : decode cX12_comes 233 = .ok (.istore 7, 2) := by decide +kernel
theorem dX12_comes_235 : decode cX12_comes 235 = .ok (.iload 7, 2) := by decide +kernel
theorem dX12_comes_237 : decode cX12_comes 237 = .ok (.aload_n 0, 1) := by decide +kernel
theorem dX12_comes_238 : decode cX12_comes 238 = .ok (.getfield 268, 3) := by decide +kernel
theorem dX12_comes_241 : decode cX12_comes 241 = .ok (.if_icmp .ge 73, 3) := by decide +kernel
theorem dX12_comes_244 : decode cX12_comes 244 = .ok (.iload_n 2, 1) := by decide +kernel
theorem dX12_comes_245 : decode cX12_comes 245 = .ok (.iload 7, 2) := by decide +kernel
theorem dX12_comes_247 : decode cX12_comes 247 = .ok (.ishr, 1) := by decide +kernel
theorem dX12_comes_248 : decode cX12_comes 248 = .ok (.iconst 1, 1) := by decide +kernel
theorem dX12_comes_249 : decode cX12_comes 249 = .ok (.iand, 1) := by decide +kernel
theorem dX12_comes_250 : decode cX12_comes 250 = .ok (.ifCond .ne 6, 3) := by decide +kernel
theorem dX12_comes_253 : decode cX12_comes 253 = .ok (.goto 55, 3) := by decide +kernel
theorem dX12_comes_256 : decode cX12_comes 256 = .ok (.iload 6, 2) := by decide +kernel
theorem dX12_comes_258 : decode cX12_comes 258 = .ok (.ifCond .ne 9, 3) := by decide +kernel
theorem dX12_comes_261 : decode cX12_comes 261 = .ok (.aload_n 0, 1) := by decide +kernel
theorem dX12_comes_262 : decode cX12_comes 262 = .ok (.bipush 32, 2) := by decide +kernel
theorem dX12_comes_264 : decode cX12_comes 264 = .ok (.invokevirtual 299, 3) := by decide +kernel
theorem dX12_comes_267 : decode cX12_comes 267 = .ok (.iconst 0, 1) := by decide +kernel
theorem dX12_comes_268 : decode cX12_comes 268 = .ok (.istore 6, 2) := by decide +kernel
theorem dX12_comes_270 : decode cX12_comes 270 = .ok (.iconst 0, 1) := by decide +kernel
theorem dX12_comes_271 : decode cX12_comes 271 = .ok (.istore 8, 2) := by decide +kernel
theorem dX12_comes_273 : decode cX12_comes 273 = .ok (.iload 8, 2) := by decide +kernel
theorem dX12_comes_275 : decode cX12_comes 275 = .ok (.aload_n 0, 1) := by decide +kernel
theorem dX12_comes_276 : decode cX12_comes 276 = .ok (.getfield 19, 3) := by decide +kernel
theorem dX12_comes_279 : decode cX12_comes 279 = .ok (.iload 7, 2) := by decide +kernel
theorem dX12_comes_281 : decode cX12_comes 281 = .ok (.iaload, 1) := by decide +kernel
theorem dX12_comes_282 : decode cX12_comes 282 = .ok (.if_icmp .ge 26, 3) := by decide +kernel
theorem dX12_comes_285 : decode cX12_comes 285 = .ok (.aload_n 0, 1) := by decide +kernel
theorem dX12_comes_286 : decode cX12_comes 286 = .ok (.aload_n 0, 1) := by decide +kernel
theorem dX12_comes_287 : decode cX12_comes 287 = .ok (.getfield 16, 3) := by decide +kernel
theorem dX12_comes_290 : decode cX12_comes 290 = .ok (.bipush 12, 2) := by decide +kernel
theorem dX12_comes_292 : decode cX12_comes 292 = .ok (.iload 7, 2) := by decide +kernel
theorem dX12_comes_294 : decode cX12_comes 294 = .ok (.imul, 1) := by decide +kernel
theorem dX12_comes_295 : decode cX12_comes 295 = .ok (.iload 8, 2) := by decide +kernel
theorem dX12_comes_297 : decode cX12_comes 297 = .ok (.iadd, 1) := by decide +kernel
theorem dX12_comes_298 : decode cX12_comes 298 = .ok (.baload, 1) := by decide +kernel
theorem dX12_comes_299 : decode cX12_comes 299 = .ok (.invokevirtual 299, 3) := by decide +kernel
theorem dX12_comes_302 : decode cX12_comes 302 = .ok (.iinc 8 1, 3) := by decide +kernel
theorem dX12_comes_305 : decode cX12_comes 305 = .ok (.goto (-32), 3) := by decide +kernel
theorem dX12_comes_308 : decode cX12_comes 308 = .ok (.iinc 7 1, 3) := by decide +kernel
theorem dX12_comes_311 : decode cX12_comes 311 = .ok (.goto (-76), 3) := by decide +kernel
theorem dX12_comes_314 : decode cX12_comes 314 = .ok (.aload_n 0, 1) := by decide +kernel
theorem dX12_comes_315 : decode cX12_comes 315 = .ok (.ldc_w 341, 3) := by decide +kernel
theorem dX12_comes_318 : decode cX12_comes 318 = .ok (.invokevirtual 334, 3) := by decide +kernel
theorem dX12_comes_321 : decode cX12_comes 321 = .ok (.sipush 200, 3) := by decide +kernel
theorem dX12_comes_324 : decode cX12_comes 324 = .ok (.ireturn, 1) := by decide +kernel
theorem dX12_refreshOf_0 : decode cX12_refreshOf 0 = .ok (.iconst 0, 1) := by decide +kernel
theorem dX12_refreshOf_1 : decode cX12_refreshOf 1 = .ok (.istore_n 2, 1) := by decide +kernel
theorem dX12_refreshOf_2 : decode cX12_refreshOf 2 = .ok (.iload_n 2, 1) := by decide +kernel
theorem dX12_refreshOf_3 : decode cX12_refreshOf 3 = .ok (.aload_n 0, 1) := by decide +kernel
theorem dX12_refreshOf_4 : decode cX12_refreshOf 4 = .ok (.getfield 465, 3) := by decide +kernel
theorem dX12_refreshOf_7 : decode cX12_refreshOf 7 = .ok (.if_icmp .ge 38, 3) := by decide +kernel
theorem dX12_refreshOf_10 : decode cX12_refreshOf 10 = .ok (.aload_n 0, 1) := by decide +kernel
theorem dX12_refreshOf_11 : decode cX12_refreshOf 11 = .ok (.aload_n 0, 1) := by decide +kernel
theorem dX12_refreshOf_12 : decode cX12_refreshOf 12 = .ok (.getfield 143, 3) := by decide +kernel
theorem dX12_refreshOf_15 : decode cX12_refreshOf 15 = .ok (.iload_n 2, 1) := by decide +kernel
theorem dX12_refreshOf_16 : decode cX12_refreshOf 16 = .ok (.iaload, 1) := by decide +kernel
theorem dX12_refreshOf_17 : decode cX12_refreshOf 17 = .ok (.aload_n 0, 1) := by decide +kernel
theorem dX12_refreshOf_18 : decode cX12_refreshOf 18 = .ok (.getfield 155, 3) := by decide +kernel
theorem dX12_refreshOf_21 : decode cX12_refreshOf 21 = .ok (.aload_n 0, 1) := by decide +kernel
theorem dX12_refreshOf_22 : decode cX12_refreshOf 22 = .ok (.getfield 158, 3) := by decide +kernel
theorem dX12_refreshOf_25 : decode cX12_refreshOf 25 = .ok (.iload_n 1, 1) := by decide +kernel
theorem dX12_refreshOf_26 : decode cX12_refreshOf 26 = .ok (.iaload, 1) := by decide +kernel
theorem dX12_refreshOf_27 : decode cX12_refreshOf 27 = .ok (.aload_n 0, 1) := by decide +kernel
theorem dX12_refreshOf_28 : decode cX12_refreshOf 28 = .ok (.getfield 161, 3) := by decide +kernel
theorem dX12_refreshOf_31 : decode cX12_refreshOf 31 = .ok (.iload_n 1, 1) := by decide +kernel
theorem dX12_refreshOf_32 : decode cX12_refreshOf 32 = .ok (.iaload, 1) := by decide +kernel
theorem dX12_refreshOf_33 : decode cX12_refreshOf 33 = .ok (.invokevirtual 441, 3) := by decide +kernel
theorem dX12_refreshOf_36 : decode cX12_refreshOf 36 = .ok (.ifCond .ne 9, 3) := by decide +kernel
theorem dX12_refreshOf_39 : decode cX12_refreshOf 39 = .ok (.iinc 2 1, 3) := by decide +kernel
theorem dX12_refreshOf_42 : decode cX12_refreshOf 42 = .ok (.goto (-40), 3) := by decide +kernel
theorem dX12_refreshOf_45 : decode cX12_refreshOf 45 = .ok (.iload_n 2, 1) := by decide +kernel
theorem dX12_refreshOf_46 : decode cX12_refreshOf 46 = .ok (.aload_n 0, 1) := by decide +kernel
theorem dX12_refreshOf_47 : decode cX12_refreshOf 47 = .ok (.getfield 465, 3) := by decide +kernel
theorem dX12_refreshOf_50 : decode cX12_refreshOf 50 = .ok (.if_icmp .ge 7, 3) := by decide +kernel
theorem dX12_refreshOf_53 : decode cX12_refreshOf 53 = .ok (.iload_n 2, 1) := by decide +kernel
theorem dX12_refreshOf_54 : decode cX12_refreshOf 54 = .ok (.goto 4, 3) := by decide +kernel
theorem dX12_refreshOf_57 : decode cX12_refreshOf 57 = .ok (.iconst (-1), 1) := by decide +kernel
theorem dX12_refreshOf_58 : decode cX12_refreshOf 58 = .ok (.ireturn, 1) := by decide +kernel
theorem dX12_turns_0 : decode cX12_turns 0 = .ok (.aload_n 0, 1) := by decide +kernel
theorem dX12_turns_1 : decode cX12_turns 1 = .ok (.bipush 11, 2) := by decide +kernel
theorem dX12_turns_3 : decode cX12_turns 3 = .ok (.invokevirtual 260, 3) := by decide +kernel
theorem dX12_turns_6 : decode cX12_turns 6 = .ok (.ifCond .ne 12, 3) := by decide +kernel
theorem dX12_turns_9 : decode cX12_turns 9 = .ok (.aload_n 0, 1) := by decide +kernel
theorem dX12_turns_10 : decode cX12_turns 10 = .ok (.sipush 400, 3) := by decide +kernel
theorem dX12_turns_13 : decode cX12_turns 13 = .ok (.iconst 1, 1) := by decide +kernel
theorem dX12_turns_14 : decode cX12_turns 14 = .ok (.invokevirtual 421, 3) := by decide +kernel
theorem dX12_turns_17 : decode cX12_turns 17 = .ok (.ireturn, 1) := by decide +kernel
theorem dX12_turns_18 : decode cX12_turns 18 = .ok (.aload_n 0, 1) := by decide +kernel
theorem dX12_turns_19 : decode cX12_turns 19 = .ok (.bipush 11, 2) := by decide +kernel
theorem dX12_turns_21 : decode cX12_turns 21 = .ok (.invokevirtual 476, 3) := by decide +kernel
theorem dX12_turns_24 : decode cX12_turns 24 = .ok (.istore_n 2, 1) := by decide +kernel
theorem dX12_turns_25 : decode cX12_turns 25 = .ok (.iload_n 2, 1) := by decide +kernel
theorem dX12_turns_26 : decode cX12_turns 26 = .ok (.ifCond .lt 32, 3) := by decide +kernel
theorem dX12_turns_29 : decode cX12_turns 29 = .ok (.aload_n 0, 1) := by decide +kernel
theorem dX12_turns_30 : decode cX12_turns 30 = .ok (.getfield 113, 3) := by decide +kernel
theorem dX12_turns_33 : decode cX12_turns 33 = .ok (.aload_n 0, 1) := by decide +kernel
theorem dX12_turns_34 : decode cX12_turns 34 = .ok (.getfield 146, 3) := by decide +kernel
theorem dX12_turns_37 : decode cX12_turns 37 = .ok (.iload_n 2, 1) := by decide +kernel
theorem dX12_turns_38 : decode cX12_turns 38 = .ok (.iaload, 1) := by decide +kernel
theorem dX12_turns_39 : decode cX12_turns 39 = .ok (.iaload, 1) := by decide +kernel
theorem dX12_turns_40 : decode cX12_turns 40 = .ok (.iload_n 1, 1) := by decide +kernel
theorem dX12_turns_41 : decode cX12_turns 41 = .ok (.if_icmp .ne 17, 3) := by decide +kernel
theorem dX12_turns_44 : decode cX12_turns 44 = .ok (.aload_n 0, 1) := by decide +kernel
theorem dX12_turns_45 : decode cX12_turns 45 = .ok (.getfield 125, 3) := by decide +kernel
theorem dX12_turns_48 : decode cX12_turns 48 = .ok (.aload_n 0, 1) := by decide +kernel
theorem dX12_turns_49 : decode cX12_turns 49 = .ok (.getfield 146, 3) := by decide +kernel
theorem dX12_turns_52 : decode cX12_turns 52 = .ok (.iload_n 2, 1) := by decide +kernel
theorem dX12_turns_53 : decode cX12_turns 53 = .ok (.iaload, 1) := by decide +kernel
theorem dX12_turns_54 : decode cX12_turns 54 = .ok (.baload, 1) := by decide +kernel
theorem dX12_turns_55 : decode cX12_turns 55 = .ok (.ifCond .eq 13, 3) := by decide +kernel
theorem dX12_turns_58 : decode cX12_turns 58 = .ok (.aload_n 0, 1) := by decide +kernel
theorem dX12_turns_59 : decode cX12_turns 59 = .ok (.sipush 400, 3) := by decide +kernel
theorem dX12_turns_62 : decode cX12_turns 62 = .ok (.bipush 7, 2) := by decide +kernel
theorem dX12_turns_64 : decode cX12_turns 64 = .ok (.invokevirtual 421, 3) := by decide +kernel
theorem dX12_turns_67 : decode cX12_turns 67 = .ok (.ireturn, 1) := by decide +kernel
theorem dX12_turns_68 : decode cX12_turns 68 = .ok (.aload_n 0, 1) := by decide +kernel
theorem dX12_turns_69 : decode cX12_turns 69 = .ok (.getfield 146, 3) := by decide +kernel
theorem dX12_turns_72 : decode cX12_turns 72 = .ok (.iload_n 2, 1) := by decide +kernel
theorem dX12_turns_73 : decode cX12_turns 73 = .ok (.iaload, 1) := by decide +kernel
theorem dX12_turns_74 : decode cX12_turns 74 = .ok (.istore_n 3, 1) := by decide +kernel
theorem dX12_turns_75 : decode cX12_turns 75 = .ok (.aload_n 0, 1) := by decide +kernel
theorem dX12_turns_76 : decode cX12_turns 76 = .ok (.getfield 152, 3) := by decide +kernel
theorem dX12_turns_79 : decode cX12_turns 79 = .ok (.iload_n 2, 1) := by decide +kernel
theorem dX12_turns_80 : decode cX12_turns 80 = .ok (.baload, 1) := by decide +kernel
theorem dX12_turns_81 : decode cX12_turns 81 = .ok (.ifCond .eq 20, 3) := by decide +kernel
theorem dX12_turns_84 : decode cX12_turns 84 = .ok (.aload_n 0, 1) := by decide +kernel
theorem dX12_turns_85 : decode cX12_turns 85 = .ok (.getfield 125, 3) := by decide +kernel
theorem dX12_turns_88 : decode cX12_turns 88 = .ok (.iload_n 3, 1) := by decide +kernel
theorem dX12_turns_89 : decode cX12_turns 89 = .ok (.iconst 1, 1) := by decide +kernel
theorem dX12_turns_90 : decode cX12_turns 90 = .ok (.bastore, 1) := by decide +kernel
theorem dX12_turns_91 : decode cX12_turns 91 = .ok (.aload_n 0, 1) := by decide +kernel
theorem dX12_turns_92 : decode cX12_turns 92 = .ok (.sipush 400, 3) := by decide +kernel
theorem dX12_turns_95 : decode cX12_turns 95 = .ok (.bipush 7, 2) := by decide +kernel
theorem dX12_turns_97 : decode cX12_turns 97 = .ok (.invokevirtual 421, 3) := by decide +kernel
theorem dX12_turns_100 : decode cX12_turns 100 = .ok (.ireturn, 1) := by decide +kernel
theorem dX12_turns_101 : decode cX12_turns 101 = .ok (.aload_n 0, 1) := by decide +kernel
theorem dX12_turns_102 : decode cX12_turns 102 = .ok (.getfield 366, 3) := by decide +kernel
theorem dX12_turns_105 : decode cX12_turns 105 = .ok (.aload_n 0, 1) := by decide +kernel
theorem dX12_turns_106 : decode cX12_turns 106 = .ok (.getfield 149, 3) := by decide +kernel
theorem dX12_turns_109 : decode cX12_turns 109 = .ok (.iload_n 2, 1) := by decide +kernel
theorem dX12_turns_110 : decode cX12_turns 110 = .ok (.iaload, 1) := by decide +kernel
theorem dX12_turns_111 : decode cX12_turns 111 = .ok (.if_icmp .lt 13, 3) := by decide +kernel
theorem dX12_turns_114 : decode cX12_turns 114 = .ok (.aload_n 0, 1) := by decide +kernel
theorem dX12_turns_115 : decode cX12_turns 115 = .ok (.sipush 400, 3) := by decide +kernel
theorem dX12_turns_118 : decode cX12_turns 118 = .ok (.bipush 7, 2) := by decide +kernel
theorem dX12_turns_120 : decode cX12_turns 120 = .ok (.invokevirtual 421, 3) := by decide +kernel
theorem dX12_turns_123 : decode cX12_turns 123 = .ok (.ireturn, 1) := by decide +kernel
theorem dX12_turns_124 : decode cX12_turns 124 = .ok (.aload_n 0, 1) := by decide +kernel
theorem dX12_turns_125 : decode cX12_turns 125 = .ok (.iconst 3, 1) := by decide +kernel
theorem dX12_turns_126 : decode cX12_turns 126 = .ok (.invokevirtual 260, 3) := by decide +kernel
theorem dX12_turns_129 : decode cX12_turns 129 = .ok (.ifCond .eq 10, 3) := by decide +kernel
theorem dX12_turns_132 : decode cX12_turns 132 = .ok (.aload_n 0, 1) := by decide +kernel
theorem dX12_turns_133 : decode cX12_turns 133 = .ok (.invokevirtual 369, 3) := by decide +kernel
theorem dX12_turns_136 : decode cX12_turns 136 = .ok (.goto 9, 3) := by decide +kernel
theorem dX12_turns_139 : decode cX12_turns 139 = .ok (.aload_n 0, 1) := by decide +kernel
theorem dX12_turns_140 : decode cX12_turns 140 = .ok (.getfield 119, 3) := by decide +kernel
theorem dX12_turns_143 : decode cX12_turns 143 = .ok (.iload_n 3, 1) := by decide +kernel
theorem dX12_turns_144 : decode cX12_turns 144 = .ok (.iaload, 1) := by decide +kernel
theorem dX12_turns_145 : decode cX12_turns 145 = .ok (.istore 4, 2) := by decide +kernel
theorem dX12_turns_147 : decode cX12_turns 147 = .ok (.iload 4, 2) := by decide +kernel
theorem dX12_turns_149 : decode cX12_turns 149 = .ok (.ifCond .lt 17, 3) := by decide +kernel
theorem dX12_turns_152 : decode cX12_turns 152 = .ok (.iload 4, 2) := by decide +kernel
theorem dX12_turns_154 : decode cX12_turns 154 = .ok (.aload_n 0, 1) := by decide +kernel
theorem dX12_turns_155 : decode cX12_turns 155 = .ok (.getfield 119, 3) := by decide +kernel
theorem dX12_turns_158 : decode cX12_turns 158 = .ok (.iload_n 3, 1) := by decide +kernel
theorem dX12_turns_159 : decode cX12_turns 159 = .ok (.iaload, 1) := by decide +kernel
theorem dX12_turns_160 : decode cX12_turns 160 = .ok (.iconst (-1), 1) := by decide +kernel
theorem dX12_turns_161 : decode cX12_turns 161 = .ok (.ixor, 1) := by decide +kernel
theorem dX12_turns_162 : decode cX12_turns 162 = .ok (.iand, 1) := by decide +kernel
theorem dX12_turns_163 : decode cX12_turns 163 = .ok (.ifCond .eq 12, 3) := by decide +kernel
theorem dX12_turns_166 : decode cX12_turns 166 = .ok (.aload_n 0, 1) := by decide +kernel
theorem dX12_turns_167 : decode cX12_turns 167 = .ok (.sipush 400, 3) := by decide +kernel
theorem dX12_turns_170 : decode cX12_turns 170 = .ok (.iconst 5, 1) := by decide +kernel
theorem dX12_turns_171 : decode cX12_turns 171 = .ok (.invokevirtual 421, 3) := by decide +kernel
theorem dX12_turns_174 : decode cX12_turns 174 = .ok (.ireturn, 1) := by decide +kernel
theorem dX12_turns_175 : decode cX12_turns 175 = .ok (.aload_n 0, 1) := by decide +kernel
theorem dX12_turns_176 : decode cX12_turns 176 = .ok (.iconst 1, 1) := by decide +kernel
theorem dX12_turns_177 : decode cX12_turns 177 = .ok (.invokevirtual 451, 3) := by decide +kernel
theorem dX12_turns_180 : decode cX12_turns 180 = .ok (.istore 5, 2) := by decide +kernel
theorem dX12_turns_182 : decode cX12_turns 182 = .ok (.iload 5, 2) := by decide +kernel
theorem dX12_turns_184 : decode cX12_turns 184 = .ok (.ifCond .ge 13, 3) := by decide +kernel
theorem dX12_turns_187 : decode cX12_turns 187 = .ok (.aload_n 0, 1) := by decide +kernel
theorem dX12_turns_188 : decode cX12_turns 188 = .ok (.sipush 503, 3) := by decide +kernel
theorem dX12_turns_191 : decode cX12_turns 191 = .ok (.bipush 11, 2) := by decide +kernel
theorem dX12_turns_193 : decode cX12_turns 193 = .ok (.invokevirtual 421, 3) := by decide +kernel
theorem dX12_turns_196 : decode cX12_turns 196 = .ok (.ireturn, 1) := by decide +kernel
theorem dX12_turns_197 : decode cX12_turns 197 = .ok (.aload_n 0, 1) := by decide +kernel
theorem dX12_turns_198 : decode cX12_turns 198 = .ok (.getfield 152, 3) := by decide +kernel
theorem dX12_turns_201 : decode cX12_turns 201 = .ok (.iload_n 2, 1) := by decide +kernel
theorem dX12_turns_202 : decode cX12_turns 202 = .ok (.iconst 1, 1) := by decide +kernel
theorem dX12_turns_203 : decode cX12_turns 203 = .ok (.bastore, 1) := by decide +kernel
theorem dX12_turns_204 : decode cX12_turns 204 = .ok (.aload_n 0, 1) := by decide +kernel
theorem dX12_turns_205 : decode cX12_turns 205 = .ok (.getfield 122, 3) := by decide +kernel
theorem dX12_turns_208 : decode cX12_turns 208 = .ok (.iload_n 3, 1) := by decide +kernel
theorem dX12_turns_209 : decode cX12_turns 209 = .ok (.dup2, 1) := by decide +kernel
theorem dX12_turns_210 : decode cX12_turns 210 = .ok (.iaload, 1) := by decide +kernel
theorem dX12_turns_211 : decode cX12_turns 211 = .ok (.iconst 1, 1) := by decide +kernel
theorem dX12_turns_212 : decode cX12_turns 212 = .ok (.iadd, 1) := by decide +kernel
theorem dX12_turns_213 : decode cX12_turns 213 = .ok (.iastore, 1) := by decide +kernel
theorem dX12_turns_214 : decode cX12_turns 214 = .ok (.aload_n 0, 1) := by decide +kernel
theorem dX12_turns_215 : decode cX12_turns 215 = .ok (.iload_n 3, 1) := by decide +kernel
theorem dX12_turns_216 : decode cX12_turns 216 = .ok (.iload 4, 2) := by decide +kernel
theorem dX12_turns_218 : decode cX12_turns 218 = .ok (.iload 5, 2) := by decide +kernel
theorem dX12_turns_220 : decode cX12_turns 220 = .ok (.iconst 1, 1) := by decide +kernel
theorem dX12_turns_221 : decode cX12_turns 221 = .ok (.invokevirtual 458, 3) := by decide +kernel
theorem dX12_turns_224 : decode cX12_turns 224 = .ok (.ireturn, 1) := by decide +kernel
theorem dX12_revoke_0 : decode cX12_revoke 0 = .ok (.aload_n 0, 1) := by decide +kernel
theorem dX12_revoke_1 : decode cX12_revoke 1 = .ok (.aload_n 0, 1) := by decide +kernel
theorem dX12_revoke_2 : decode cX12_revoke 2 = .ok (.invokevirtual 351, 3) := by decide +kernel
theorem dX12_revoke_5 : decode cX12_revoke 5 = .ok (.invokevirtual 372, 3) := by decide +kernel
theorem dX12_revoke_8 : decode cX12_revoke 8 = .ok (.ifCond .ne 12, 3) := by decide +kernel
theorem dX12_revoke_11 : decode cX12_revoke 11 = .ok (.aload_n 0, 1) := by decide +kernel
theorem dX12_revoke_12 : decode cX12_revoke 12 = .ok (.sipush 400, 3) := by decide +kernel
theorem dX12_revoke_15 : decode cX12_revoke 15 = .ok (.iconst 1, 1) := by decide +kernel
theorem dX12_revoke_16 : decode cX12_revoke 16 = .ok (.invokevirtual 421, 3) := by decide +kernel
theorem dX12_revoke_19 : decode cX12_revoke 19 = .ok (.ireturn, 1) := by decide +kernel
theorem dX12_revoke_20 : decode cX12_revoke 20 = .ok (.aload_n 0, 1) := by decide +kernel
theorem dX12_revoke_21 : decode cX12_revoke 21 = .ok (.invokevirtual 424, 3) := by decide +kernel
theorem dX12_revoke_24 : decode cX12_revoke 24 = .ok (.istore_n 1, 1) := by decide +kernel
theorem dX12_revoke_25 : decode cX12_revoke 25 = .ok (.iload_n 1, 1) := by decide +kernel
theorem dX12_revoke_26 : decode cX12_revoke 26 = .ok (.ifCond .ge 13, 3) := by decide +kernel
theorem dX12_revoke_29 : decode cX12_revoke 29 = .ok (.aload_n 0, 1) := by decide +kernel
theorem dX12_revoke_30 : decode cX12_revoke 30 = .ok (.sipush 401, 3) := by decide +kernel
theorem dX12_revoke_33 : decode cX12_revoke 33 = .ok (.bipush 6, 2) := by decide +kernel
theorem dX12_revoke_35 : decode cX12_revoke 35 = .ok (.invokevirtual 421, 3) := by decide +kernel
theorem dX12_revoke_38 : decode cX12_revoke 38 = .ok (.ireturn, 1) := by decide +kernel
theorem dX12_revoke_39 : decode cX12_revoke 39 = .ok (.aload_n 0, 1) := by decide +kernel
theorem dX12_revoke_40 : decode cX12_revoke 40 = .ok (.bipush 12, 2) := by decide +kernel
theorem dX12_revoke_42 : decode cX12_revoke 42 = .ok (.invokevirtual 260, 3) := by decide +kernel
theorem dX12_revoke_45 : decode cX12_revoke 45 = .ok (.ifCond .ne 12, 3) := by decide +kernel
theorem dX12_revoke_48 : decode cX12_revoke 48 = .ok (.aload_n 0, 1) := by decide +kernel
theorem dX12_revoke_49 : decode cX12_revoke 49 = .ok (.sipush 400, 3) := by decide +kernel
theorem dX12_revoke_52 : decode cX12_revoke 52 = .ok (.iconst 1, 1) := by decide +kernel
theorem dX12_revoke_53 : decode cX12_revoke 53 = .ok (.invokevirtual 421, 3) := by decide +kernel
theorem dX12_revoke_56 : decode cX12_revoke 56 = .ok (.ireturn, 1) := by decide +kernel
theorem dX12_revoke_57 : decode cX12_revoke 57 = .ok (.aload_n 0, 1) := by decide +kernel
theorem dX12_revoke_58 : decode cX12_revoke 58 = .ok (.bipush 12, 2) := by decide +kernel
theorem dX12_revoke_60 : decode cX12_revoke 60 = .ok (.invokevirtual 476, 3) := by decide +kernel
theorem dX12_revoke_63 : decode cX12_revoke 63 = .ok (.istore_n 2, 1) := by decide +kernel
theorem dX12_revoke_64 : decode cX12_revoke 64 = .ok (.iload_n 2, 1) := by decide +kernel
theorem dX12_revoke_65 : decode cX12_revoke 65 = .ok (.ifCond .lt 30, 3) := by decide +kernel
theorem dX12_revoke_68 : decode cX12_revoke 68 = .ok (.aload_n 0, 1) := by decide +kernel
theorem dX12_revoke_69 : decode cX12_revoke 69 = .ok (.getfield 113, 3) := by decide +kernel
theorem dX12_revoke_72 : decode cX12_revoke 72 = .ok (.aload_n 0, 1) := by decide +kernel
theorem dX12_revoke_73 : decode cX12_revoke 73 = .ok (.getfield 146, 3) := by decide +kernel
theorem dX12_revoke_76 : decode cX12_revoke 76 = .ok (.iload_n 2, 1) := by decide +kernel
theorem dX12_revoke_77 : decode cX12_revoke 77 = .ok (.iaload, 1) := by decide +kernel
theorem dX12_revoke_78 : decode cX12_revoke 78 = .ok (.iaload, 1) := by decide +kernel
theorem dX12_revoke_79 : decode cX12_revoke 79 = .ok (.iload_n 1, 1) := by decide +kernel
theorem dX12_revoke_80 : decode cX12_revoke 80 = .ok (.if_icmp .ne 15, 3) := by decide +kernel
theorem dX12_revoke_83 : decode cX12_revoke 83 = .ok (.aload_n 0, 1) := by decide +kernel
theorem dX12_revoke_84 : decode cX12_revoke 84 = .ok (.getfield 125, 3) := by decide +kernel
theorem dX12_revoke_87 : decode cX12_revoke 87 = .ok (.aload_n 0, 1) := by decide +kernel
theorem dX12_revoke_88 : decode cX12_revoke 88 = .ok (.getfield 146, 3) := by decide +kernel
theorem dX12_revoke_91 : decode cX12_revoke 91 = .ok (.iload_n 2, 1) := by decide +kernel
theorem dX12_revoke_92 : decode cX12_revoke 92 = .ok (.iaload, 1) := by decide +kernel
theorem dX12_revoke_93 : decode cX12_revoke 93 = .ok (.iconst 1, 1) := by decide +kernel
theorem dX12_revoke_94 : decode cX12_revoke 94 = .ok (.bastore, 1) := by decide +kernel
theorem dX12_revoke_95 : decode cX12_revoke 95 = .ok (.iconst 0, 1) := by decide +kernel
theorem dX12_revoke_96 : decode cX12_revoke 96 = .ok (.istore_n 3, 1) := by decide +kernel
theorem dX12_revoke_97 : decode cX12_revoke 97 = .ok (.iload_n 3, 1) := by decide +kernel
theorem dX12_revoke_98 : decode cX12_revoke 98 = .ok (.aload_n 0, 1) := by decide +kernel
theorem dX12_revoke_99 : decode cX12_revoke 99 = .ok (.getfield 462, 3) := by decide +kernel
theorem dX12_revoke_102 : decode cX12_revoke 102 = .ok (.if_icmp .ge 62, 3) := by decide +kernel
theorem dX12_revoke_105 : decode cX12_revoke 105 = .ok (.aload_n 0, 1) := by decide +kernel
theorem dX12_revoke_106 : decode cX12_revoke 106 = .ok (.getfield 113, 3) := by decide +kernel
theorem dX12_revoke_109 : decode cX12_revoke 109 = .ok (.aload_n 0, 1) := by decide +kernel
theorem dX12_revoke_110 : decode cX12_revoke 110 = .ok (.getfield 131, 3) := by decide +kernel
theorem dX12_revoke_113 : decode cX12_revoke 113 = .ok (.iload_n 3, 1) := by decide +kernel
theorem dX12_revoke_114 : decode cX12_revoke 114 = .ok (.iaload, 1) := by decide +kernel
theorem dX12_revoke_115 : decode cX12_revoke 115 = .ok (.iaload, 1) := by decide +kernel
theorem dX12_revoke_116 : decode cX12_revoke 116 = .ok (.iload_n 1, 1) := by decide +kernel
theorem dX12_revoke_117 : decode cX12_revoke 117 = .ok (.if_icmp .ne 41, 3) := by decide +kernel
theorem dX12_revoke_120 : decode cX12_revoke 120 = .ok (.aload_n 0, 1) := by decide +kernel
theorem dX12_revoke_121 : decode cX12_revoke 121 = .ok (.aload_n 0, 1) := by decide +kernel
theorem dX12_revoke_122 : decode cX12_revoke 122 = .ok (.getfield 128, 3) := by decide +kernel
theorem dX12_revoke_125 : decode cX12_revoke 125 = .ok (.iload_n 3, 1) := by decide +kernel
theorem dX12_revoke_126 : decode cX12_revoke 126 = .ok (.iaload, 1) := by decide +kernel
theorem dX12_revoke_127 : decode cX12_revoke 127 = .ok (.aload_n 0, 1) := by decide +kernel
theorem dX12_revoke_128 : decode cX12_revoke 128 = .ok (.getfield 155, 3) := by decide +kernel
theorem dX12_revoke_131 : decode cX12_revoke 131 = .ok (.aload_n 0, 1) := by decide +kernel
theorem dX12_revoke_132 : decode cX12_revoke 132 = .ok (.getfield 158, 3) := by decide +kernel
theorem dX12_revoke_135 : decode cX12_revoke 135 = .ok (.bipush 12, 2) := by decide +kernel
theorem dX12_revoke_137 : decode cX12_revoke 137 = .ok (.iaload, 1) := by decide +kernel
theorem dX12_revoke_138 : decode cX12_revoke 138 = .ok (.aload_n 0, 1) := by decide +kernel
theorem dX12_revoke_139 : decode cX12_revoke 139 = .ok (.getfield 161, 3) := by decide +kernel
theorem dX12_revoke_142 : decode cX12_revoke 142 = .ok (.bipush 12, 2) := by decide +kernel
theorem dX12_revoke_144 : decode cX12_revoke 144 = .ok (.iaload, 1) := by decide +kernel
theorem dX12_revoke_145 : decode cX12_revoke 145 = .ok (.invokevirtual 441, 3) := by decide +kernel
theorem dX12_revoke_148 : decode cX12_revoke 148 = .ok (.ifCond .eq 10, 3) := by decide +kernel
theorem dX12_revoke_151 : decode cX12_revoke 151 = .ok (.aload_n 0, 1) := by decide +kernel
theorem dX12_revoke_152 : decode cX12_revoke 152 = .ok (.getfield 140, 3) := by decide +kernel
theorem dX12_revoke_155 : decode cX12_revoke 155 = .ok (.iload_n 3, 1) := by decide +kernel
theorem dX12_revoke_156 : decode cX12_revoke 156 = .ok (.iconst 1, 1) := by decide +kernel
theorem dX12_revoke_157 : decode cX12_revoke 157 = .ok (.bastore, 1) := by decide +kernel
theorem dX12_revoke_158 : decode cX12_revoke 158 = .ok (.iinc 3 1, 3) := by decide +kernel
theorem dX12_revoke_161 : decode cX12_revoke 161 = .ok (.goto (-64), 3) := by decide +kernel
theorem dX12_revoke_164 : decode cX12_revoke 164 = .ok (.aload_n 0, 1) := by decide +kernel
theorem dX12_revoke_165 : decode cX12_revoke 165 = .ok (.sipush 200, 3) := by decide +kernel
theorem dX12_revoke_168 : decode cX12_revoke 168 = .ok (.iconst 0, 1) := by decide +kernel
theorem dX12_revoke_169 : decode cX12_revoke 169 = .ok (.invokevirtual 328, 3) := by decide +kernel
theorem dX12_revoke_172 : decode cX12_revoke 172 = .ok (.sipush 200, 3) := by decide +kernel
theorem dX12_revoke_175 : decode cX12_revoke 175 = .ok (.ireturn, 1) := by decide +kernel
theorem dX12_isGood_0 : decode cX12_isGood 0 = .ok (.aload_n 0, 1) := by decide +kernel
theorem dX12_isGood_1 : decode cX12_isGood 1 = .ok (.getfield 366, 3) := by decide +kernel
theorem dX12_isGood_4 : decode cX12_isGood 4 = .ok (.aload_n 0, 1) := by decide +kernel
theorem dX12_isGood_5 : decode cX12_isGood 5 = .ok (.getfield 137, 3) := by decide +kernel
theorem dX12_isGood_8 : decode cX12_isGood 8 = .ok (.iload_n 1, 1) := by decide +kernel
theorem dX12_isGood_9 : decode cX12_isGood 9 = .ok (.iaload, 1) := by decide +kernel
theorem dX12_isGood_10 : decode cX12_isGood 10 = .ok (.if_icmp .ge 30, 3) := by decide +kernel
theorem dX12_isGood_13 : decode cX12_isGood 13 = .ok (.aload_n 0, 1) := by decide +kernel
theorem dX12_isGood_14 : decode cX12_isGood 14 = .ok (.getfield 140, 3) := by decide +kernel
theorem dX12_isGood_17 : decode cX12_isGood 17 = .ok (.iload_n 1, 1) := by decide +kernel
theorem dX12_isGood_18 : decode cX12_isGood 18 = .ok (.baload, 1) := by decide +kernel
theorem dX12_isGood_19 : decode cX12_isGood 19 = .ok (.ifCond .ne 21, 3) := by decide +kernel
theorem dX12_isGood_22 : decode cX12_isGood 22 = .ok (.aload_n 0, 1) := by decide +kernel
theorem dX12_isGood_23 : decode cX12_isGood 23 = .ok (.getfield 125, 3) := by decide +kernel
theorem dX12_isGood_26 : decode cX12_isGood 26 = .ok (.aload_n 0, 1) := by decide +kernel
theorem dX12_isGood_27 : decode cX12_isGood 27 = .ok (.getfield 131, 3) := by decide +kernel
theorem dX12_isGood_30 : decode cX12_isGood 30 = .ok (.iload_n 1, 1) := by decide +kernel
theorem dX12_isGood_31 : decode cX12_isGood 31 = .ok (.iaload, 1) := by decide +kernel
theorem dX12_isGood_32 : decode cX12_isGood 32 = .ok (.baload, 1) := by decide +kernel
theorem dX12_isGood_33 : decode cX12_isGood 33 = .ok (.ifCond .ne 7, 3) := by decide +kernel
theorem dX12_isGood_36 : decode cX12_isGood 36 = .ok (.iconst 1, 1) := by decide +kernel
theorem dX12_isGood_37 : decode cX12_isGood 37 = .ok (.goto 4, 3) := by decide +kernel
theorem dX12_isGood_40 : decode cX12_isGood 40 = .ok (.iconst 0, 1) := by decide +kernel
theorem dX12_isGood_41 : decode cX12_isGood 41 = .ok (.ireturn, 1) := by decide +kernel
theorem dX12_check_0 : decode cX12_check 0 = .ok (.aload_n 0, 1) := by decide +kernel
theorem dX12_check_1 : decode cX12_check 1 = .ok (.invokevirtual 351, 3) := by decide +kernel
theorem dX12_check_4 : decode cX12_check 4 = .ok (.istore_n 2, 1) := by decide +kernel
theorem dX12_check_5 : decode cX12_check 5 = .ok (.aload_n 0, 1) := by decide +kernel
theorem dX12_check_6 : decode cX12_check 6 = .ok (.iload_n 1, 1) := by decide +kernel
theorem dX12_check_7 : decode cX12_check 7 = .ok (.ifCond .lt 11, 3) := by decide +kernel
theorem dX12_check_10 : decode cX12_check 10 = .ok (.iload_n 1, 1) := by decide +kernel
theorem dX12_check_11 : decode cX12_check 11 = .ok (.aload_n 0, 1) := by decide +kernel
theorem dX12_check_12 : decode cX12_check 12 = .ok (.getfield 268, 3) := by decide +kernel
theorem dX12_check_15 : decode cX12_check 15 = .ok (.if_icmp .lt 7, 3) := by decide +kernel
theorem dX12_check_18 : decode cX12_check 18 = .ok (.iconst 1, 1) := by decide +kernel
theorem dX12_check_19 : decode cX12_check 19 = .ok (.goto 4, 3) := by decide +kernel
theorem dX12_check_22 : decode cX12_check 22 = .ok (.iconst 0, 1) := by decide +kernel
theorem dX12_check_23 : decode cX12_check 23 = .ok (.iconst 1, 1) := by decide +kernel
theorem dX12_check_24 : decode cX12_check 24 = .ok (.invokevirtual 357, 3) := by decide +kernel
theorem dX12_check_27 : decode cX12_check 27 = .ok (.ifCond .eq 5, 3) := by decide +kernel
theorem dX12_check_30 : decode cX12_check 30 = .ok (.iconst 0, 1) := by decide +kernel
theorem dX12_check_31 : decode cX12_check 31 = .ok (.ireturn, 1) := by decide +kernel
theorem dX12_check_32 : decode cX12_check 32 = .ok (.iconst 0, 1) := by decide +kernel
theorem dX12_check_33 : decode cX12_check 33 = .ok (.istore_n 3, 1) := by decide +kernel
theorem dX12_check_34 : decode cX12_check 34 = .ok (.iload_n 3, 1) := by decide +kernel
theorem dX12_check_35 : decode cX12_check 35 = .ok (.aload_n 0, 1) := by decide +kernel
theorem dX12_check_36 : decode cX12_check 36 = .ok (.getfield 462, 3) := by decide +kernel
theorem dX12_check_39 : decode cX12_check 39 = .ok (.if_icmp .ge 28, 3) := by decide +kernel
theorem dX12_check_42 : decode cX12_check 42 = .ok (.aload_n 0, 1) := by decide +kernel
theorem dX12_check_43 : decode cX12_check 43 = .ok (.aload_n 0, 1) := by decide +kernel
theorem dX12_check_44 : decode cX12_check 44 = .ok (.getfield 128, 3) := by decide +kernel
theorem dX12_check_47 : decode cX12_check 47 = .ok (.iload_n 3, 1) := by decide +kernel
theorem dX12_check_48 : decode cX12_check 48 = .ok (.iaload, 1) := by decide +kernel
theorem dX12_check_49 : decode cX12_check 49 = .ok (.aload_n 0, 1) := by decide +kernel
theorem dX12_check_50 : decode cX12_check 50 = .ok (.getfield 9, 3) := by decide +kernel
theorem dX12_check_53 : decode cX12_check 53 = .ok (.iconst 0, 1) := by decide +kernel
theorem dX12_check_54 : decode cX12_check 54 = .ok (.iload_n 2, 1) := by decide +kernel
theorem dX12_check_55 : decode cX12_check 55 = .ok (.invokevirtual 441, 3) := by decide +kernel
theorem dX12_check_58 : decode cX12_check 58 = .ok (.ifCond .ne 9, 3) := by decide +kernel
theorem dX12_check_61 : decode cX12_check 61 = .ok (.iinc 3 1, 3) := by decide +kernel
theorem dX12_check_64 : decode cX12_check 64 = .ok (.goto (-30), 3) := by decide +kernel
theorem dX12_check_67 : decode cX12_check 67 = .ok (.iload_n 3, 1) := by decide +kernel
theorem dX12_check_68 : decode cX12_check 68 = .ok (.aload_n 0, 1) := by decide +kernel
theorem dX12_check_69 : decode cX12_check 69 = .ok (.getfield 462, 3) := by decide +kernel
theorem dX12_check_72 : decode cX12_check 72 = .ok (.if_icmp .eq 11, 3) := by decide +kernel
theorem dX12_check_75 : decode cX12_check 75 = .ok (.aload_n 0, 1) := by decide +kernel
theorem dX12_check_76 : decode cX12_check 76 = .ok (.iload_n 3, 1) := by decide +kernel
theorem dX12_check_77 : decode cX12_check 77 = .ok (.invokevirtual 479, 3) := by decide +kernel
theorem dX12_check_80 : decode cX12_check 80 = .ok (.ifCond .ne 14, 3) := by decide +kernel
theorem dX12_check_83 : decode cX12_check 83 = .ok (.aload_n 0, 1) := by decide +kernel
theorem dX12_check_84 : decode cX12_check 84 = .ok (.sipush 401, 3) := by decide +kernel
theorem dX12_check_87 : decode cX12_check 87 = .ok (.bipush 9, 2) := by decide +kernel
theorem dX12_check_89 : decode cX12_check 89 = .ok (.invokevirtual 328, 3) := by decide +kernel
theorem dX12_check_92 : decode cX12_check 92 = .ok (.iconst 0, 1) := by decide +kernel
theorem dX12_check_93 : decode cX12_check 93 = .ok (.ireturn, 1) := by decide +kernel
theorem dX12_check_94 : decode cX12_check 94 = .ok (.aload_n 0, 1) := by decide +kernel
theorem dX12_check_95 : decode cX12_check 95 = .ok (.getfield 134, 3) := by decide +kernel
theorem dX12_check_98 : decode cX12_check 98 = .ok (.iload_n 3, 1) := by decide +kernel
theorem dX12_check_99 : decode cX12_check 99 = .ok (.iaload, 1) := by decide +kernel
theorem dX12_check_100 : decode cX12_check 100 = .ok (.iload_n 1, 1) := by decide +kernel
theorem dX12_check_101 : decode cX12_check 101 = .ok (.ishr, 1) := by decide +kernel
theorem dX12_check_102 : decode cX12_check 102 = .ok (.iconst 1, 1) := by decide +kernel
theorem dX12_check_103 : decode cX12_check 103 = .ok (.iand, 1) := by decide +kernel
theorem dX12_check_104 : decode cX12_check 104 = .ok (.iconst 1, 1) := by decide +kernel
theorem dX12_check_105 : decode cX12_check 105 = .ok (.if_icmp .ne 7, 3) := by decide +kernel
theorem dX12_check_108 : decode cX12_check 108 = .ok (.iconst 1, 1) := by decide +kernel
theorem dX12_check_109 : decode cX12_check 109 = .ok (.goto 4, 3) := by decide +kernel
theorem dX12_check_112 : decode cX12_check 112 = .ok (.iconst 0, 1) := by decide +kernel
theorem dX12_check_113 : decode cX12_check 113 = .ok (.istore 4, 2) := by decide +kernel
theorem dX12_check_115 : decode cX12_check 115 = .ok (.aload_n 0, 1) := by decide +kernel
theorem dX12_check_116 : decode cX12_check 116 = .ok (.iload 4, 2) := by decide +kernel
theorem dX12_check_118 : decode cX12_check 118 = .ok (.ifCond .eq 9, 3) := by decide +kernel
theorem dX12_check_121 : decode cX12_check 121 = .ok (.sipush 200, 3) := by decide +kernel
theorem dX12_check_124 : decode cX12_check 124 = .ok (.goto 6, 3) := by decide +kernel
theorem dX12_check_127 : decode cX12_check 127 = .ok (.sipush 403, 3) := by decide +kernel
theorem dX12_check_130 : decode cX12_check 130 = .ok (.iload 4, 2) := by decide +kernel
theorem dX12_check_132 : decode cX12_check 132 = .ok (.ifCond .eq 7, 3) := by decide +kernel
theorem dX12_check_135 : decode cX12_check 135 = .ok (.iconst 0, 1) := by decide +kernel
theorem dX12_check_136 : decode cX12_check 136 = .ok (.goto 5, 3) := by decide +kernel
theorem dX12_check_139 : decode cX12_check 139 = .ok (.bipush 10, 2) := by decide +kernel
theorem dX12_check_141 : decode cX12_check 141 = .ok (.invokevirtual 328, 3) := by decide +kernel
theorem dX12_check_144 : decode cX12_check 144 = .ok (.iload 4, 2) := by decide +kernel
theorem dX12_check_146 : decode cX12_check 146 = .ok (.ifCond .eq 17, 3) := by decide +kernel
theorem dX12_check_149 : decode cX12_check 149 = .ok (.aload_n 0, 1) := by decide +kernel
theorem dX12_check_150 : decode cX12_check 150 = .ok (.getfield 116, 3) := by decide +kernel
theorem dX12_check_153 : decode cX12_check 153 = .ok (.aload_n 0, 1) := by decide +kernel
theorem dX12_check_154 : decode cX12_check 154 = .ok (.getfield 131, 3) := by decide +kernel
theorem dX12_check_157 : decode cX12_check 157 = .ok (.iload_n 3, 1) := by decide +kernel
theorem dX12_check_158 : decode cX12_check 158 = .ok (.iaload, 1) := by decide +kernel
theorem dX12_check_159 : decode cX12_check 159 = .ok (.iaload, 1) := by decide +kernel
theorem dX12_check_160 : decode cX12_check 160 = .ok (.goto 4, 3) := by decide +kernel
theorem dX12_check_163 : decode cX12_check 163 = .ok (.iconst 0, 1) := by decide +kernel
theorem dX12_check_164 : decode cX12_check 164 = .ok (.ireturn, 1) := by decide +kernel
theorem dX12_rolled_0 : decode cX12_rolled 0 = .ok (.iload_n 0, 1) := by decide +kernel
theorem dX12_rolled_1 : decode cX12_rolled 1 = .ok (.iload_n 1, 1) := by decide +kernel
theorem dX12_rolled_2 : decode cX12_rolled 2 = .ok (.iushr, 1) := by decide +kernel
theorem dX12_rolled_3 : decode cX12_rolled 3 = .ok (.iload_n 0, 1) := by decide +kernel
theorem dX12_rolled_4 : decode cX12_rolled 4 = .ok (.bipush 32, 2) := by decide +kernel
theorem dX12_rolled_6 : decode cX12_rolled 6 = .ok (.iload_n 1, 1) := by decide +kernel
theorem dX12_rolled_7 : decode cX12_rolled 7 = .ok (.isub, 1) := by decide +kernel
theorem dX12_rolled_8 : decode cX12_rolled 8 = .ok (.ishl, 1) := by decide +kernel
theorem dX12_rolled_9 : decode cX12_rolled 9 = .ok (.ior, 1) := by decide +kernel
theorem dX12_rolled_10 : decode cX12_rolled 10 = .ok (.ireturn, 1) := by decide +kernel
theorem dX12_sha_0 : decode cX12_sha 0 = .ok (.iload_n 3, 1) := by decide +kernel
theorem dX12_sha_1 : decode cX12_sha 1 = .ok (.bipush 9, 2) := by decide +kernel
theorem dX12_sha_3 : decode cX12_sha 3 = .ok (.iadd, 1) := by decide +kernel
theorem dX12_sha_4 : decode cX12_sha 4 = .ok (.bipush 63, 2) := by decide +kernel
theorem dX12_sha_6 : decode cX12_sha 6 = .ok (.iadd, 1) := by decide +kernel
theorem dX12_sha_7 : decode cX12_sha 7 = .ok (.bipush 64, 2) := by decide +kernel
theorem dX12_sha_9 : decode cX12_sha 9 = .ok (.idiv, 1) := by decide +kernel
theorem dX12_sha_10 : decode cX12_sha 10 = .ok (.bipush 64, 2) := by decide +kernel
theorem dX12_sha_12 : decode cX12_sha 12 = .ok (.imul, 1) := by decide +kernel
theorem dX12_sha_13 : decode cX12_sha 13 = .ok (.istore 4, 2) := by decide +kernel
theorem dX12_sha_15 : decode cX12_sha 15 = .ok (.iconst 0, 1) := by decide +kernel
theorem dX12_sha_16 : decode cX12_sha 16 = .ok (.istore 5, 2) := by decide +kernel
theorem dX12_sha_18 : decode cX12_sha 18 = .ok (.iload 5, 2) := by decide +kernel
theorem dX12_sha_20 : decode cX12_sha 20 = .ok (.iload 4, 2) := by decide +kernel
theorem dX12_sha_22 : decode cX12_sha 22 = .ok (.if_icmp .ge 43, 3) := by decide +kernel
theorem dX12_sha_25 : decode cX12_sha 25 = .ok (.aload_n 0, 1) := by decide +kernel
theorem dX12_sha_26 : decode cX12_sha 26 = .ok (.getfield 182, 3) := by decide +kernel
theorem dX12_sha_29 : decode cX12_sha 29 = .ok (.iload 5, 2) := by decide +kernel
theorem dX12_sha_31 : decode cX12_sha 31 = .ok (.iload 5, 2) := by decide +kernel
theorem dX12_sha_33 : decode cX12_sha 33 = .ok (.iload_n 3, 1) := by decide +kernel
theorem dX12_sha_34 : decode cX12_sha 34 = .ok (.if_icmp .ge 12, 3) := by decide +kernel
theorem dX12_sha_37 : decode cX12_sha 37 = .ok (.aload_n 1, 1) := by decide +kernel
theorem dX12_sha_38 : decode cX12_sha 38 = .ok (.iload_n 2, 1) := by decide +kernel
theorem dX12_sha_39 : decode cX12_sha 39 = .ok (.iload 5, 2) := by decide +kernel
theorem dX12_sha_41 : decode cX12_sha 41 = .ok (.iadd, 1) := by decide +kernel
theorem dX12_sha_42 : decode cX12_sha 42 = .ok (.baload, 1) := by decide +kernel
theorem dX12_sha_43 : decode cX12_sha 43 = .ok (.goto 15, 3) := by decide +kernel
theorem dX12_sha_46 : decode cX12_sha 46 = .ok (.iload 5, 2) := by decide +kernel
theorem dX12_sha_48 : decode cX12_sha 48 = .ok (.iload_n 3, 1) := by decide +kernel
theorem dX12_sha_49 : decode cX12_sha 49 = .ok (.if_icmp .ne 8, 3) := by decide +kernel
theorem dX12_sha_52 : decode cX12_sha 52 = .ok (.bipush (-128), 2) := by decide +kernel
theorem dX12_sha_54 : decode cX12_sha 54 = .ok (.goto 4, 3) := by decide +kernel
theorem dX12_sha_57 : decode cX12_sha 57 = .ok (.iconst 0, 1) := by decide +kernel
theorem dX12_sha_58 : decode cX12_sha 58 = .ok (.bastore, 1) := by decide +kernel
theorem dX12_sha_59 : decode cX12_sha 59 = .ok (.iinc 5 1, 3) := by decide +kernel
theorem dX12_sha_62 : decode cX12_sha 62 = .ok (.goto (-44), 3) := by decide +kernel
theorem dX12_sha_65 : decode cX12_sha 65 = .ok (.iconst 0, 1) := by decide +kernel
theorem dX12_sha_66 : decode cX12_sha 66 = .ok (.istore 5, 2) := by decide +kernel
theorem dX12_sha_68 : decode cX12_sha 68 = .ok (.iload 5, 2) := by decide +kernel
theorem dX12_sha_70 : decode cX12_sha 70 = .ok (.iconst 4, 1) := by decide +kernel
theorem dX12_sha_71 : decode cX12_sha 71 = .ok (.if_icmp .ge 32, 3) := by decide +kernel
theorem dX12_sha_74 : decode cX12_sha 74 = .ok (.aload_n 0, 1) := by decide +kernel
theorem dX12_sha_75 : decode cX12_sha 75 = .ok (.getfield 182, 3) := by decide +kernel
theorem dX12_sha_78 : decode cX12_sha 78 = .ok (.iload 4, 2) := by decide +kernel
theorem dX12_sha_80 : decode cX12_sha 80 = .ok (.iconst 1, 1) := by decide +kernel
theorem dX12_sha_81 : decode cX12_sha 81 = .ok (.isub, 1) := by decide +kernel
theorem dX12_sha_82 : decode cX12_sha 82 = .ok (.iload 5, 2) := by decide +kernel
theorem dX12_sha_84 : decode cX12_sha 84 = .ok (.isub, 1) := by decide +kernel
theorem dX12_sha_85 : decode cX12_sha 85 = .ok (.bipush 8, 2) := by decide +kernel
theorem dX12_sha_87 : decode cX12_sha 87 = .ok (.iload_n 3, 1) := by decide +kernel
theorem dX12_sha_88 : decode cX12_sha 88 = .ok (.imul, 1) := by decide +kernel
theorem dX12_sha_89 : decode cX12_sha 89 = .ok (.bipush 8, 2) := by decide +kernel
theorem dX12_sha_91 : decode cX12_sha 91 = .ok (.iload 5, 2) := by decide +kernel
theorem dX12_sha_93 : decode cX12_sha 93 = .ok (.imul, 1) := by decide +kernel
theorem dX12_sha_94 : decode cX12_sha 94 = .ok (.ishr, 1) := by decide +kernel
theorem dX12_sha_95 : decode cX12_sha 95 = .ok (.i2b, 1) := by decide +kernel
theorem dX12_sha_96 : decode cX12_sha 96 = .ok (.bastore, 1) := by decide +kernel
theorem dX12_sha_97 : decode cX12_sha 97 = .ok (.iinc 5 1, 3) := by decide +kernel
theorem dX12_sha_100 : decode cX12_sha 100 = .ok (.goto (-32), 3) := by decide +kernel
theorem dX12_sha_103 : decode cX12_sha 103 = .ok (.iconst 0, 1) := by decide +kernel
theorem dX12_sha_104 : decode cX12_sha 104 = .ok (.istore 5, 2) := by decide +kernel
theorem dX12_sha_106 : decode cX12_sha 106 = .ok (.iload 5, 2) := by decide +kernel
theorem dX12_sha_108 : decode cX12_sha 108 = .ok (.bipush 8, 2) := by decide +kernel
theorem dX12_sha_110 : decode cX12_sha 110 = .ok (.if_icmp .ge 22, 3) := by decide +kernel
theorem dX12_sha_113 : decode cX12_sha 113 = .ok (.aload_n 0, 1) := by decide +kernel
theorem dX12_sha_114 : decode cX12_sha 114 = .ok (.getfield 185, 3) := by decide +kernel
theorem dX12_sha_117 : decode cX12_sha 117 = .ok (.iload 5, 2) := by decide +kernel
theorem dX12_sha_119 : decode cX12_sha 119 = .ok (.getstatic 482, 3) := by decide +kernel
theorem dX12_sha_122 : decode cX12_sha 122 = .ok (.iload 5, 2) := by decide +kernel
theorem dX12_sha_124 : decode cX12_sha 124 = .ok (.iaload, 1) := by decide +kernel
theorem dX12_sha_125 : decode cX12_sha 125 = .ok (.iastore, 1) := by decide +kernel
theorem dX12_sha_126 : decode cX12_sha 126 = .ok (.iinc 5 1, 3) := by decide +kernel
theorem dX12_sha_129 : decode cX12_sha 129 = .ok (.goto (-23), 3) := by decide +kernel
theorem dX12_sha_132 : decode cX12_sha 132 = .ok (.iconst 0, 1) := by decide +kernel
theorem dX12_sha_133 : decode cX12_sha 133 = .ok (.istore 5, 2) := by decide +kernel
theorem dX12_sha_135 : decode cX12_sha 135 = .ok (.iload 5, 2) := by decide +kernel
theorem dX12_sha_137 : decode cX12_sha 137 = .ok (.iload 4, 2) := by decide +kernel
theorem dX12_sha_139 : decode cX12_sha 139 = .ok (.if_icmp .ge 15, 3) := by decide +kernel
theorem dX12_sha_142 : decode cX12_sha 142 = .ok (.aload_n 0, 1) := by decide +kernel
theorem dX12_sha_143 : decode cX12_sha 143 = .ok (.iload 5, 2) := by decide +kernel
theorem dX12_sha_145 : decode cX12_sha 145 = .ok (.invokevirtual 485, 3) := by decide +kernel
theorem dX12_sha_148 : decode cX12_sha 148 = .ok (.iinc 5 64, 3) := by decide +kernel
theorem dX12_sha_151 : decode cX12_sha 151 = .ok (.goto (-16), 3) := by decide +kernel
theorem dX12_sha_154 : decode cX12_sha 154 = .ok (.iconst 0, 1) := by decide +kernel
theorem dX12_sha_155 : decode cX12_sha 155 = .ok (.istore 5, 2) := by decide +kernel
theorem dX12_sha_157 : decode cX12_sha 157 = .ok (.iload 5, 2) := by decide +kernel
theorem dX12_sha_159 : decode cX12_sha 159 = .ok (.bipush 32, 2) := by decide +kernel
theorem dX12_sha_161 : decode cX12_sha 161 = .ok (.if_icmp .ge 37, 3) := by decide +kernel
theorem dX12_sha_164 : decode cX12_sha 164 = .ok (.aload_n 0, 1) := by decide +kernel
theorem dX12_sha_165 : decode cX12_sha 165 = .ok (.getfield 176, 3) := by decide +kernel
theorem dX12_sha_168 : decode cX12_sha 168 = .ok (.iload 5, 2) := by decide +kernel
theorem dX12_sha_170 : decode cX12_sha 170 = .ok (.aload_n 0, 1) := by decide +kernel
theorem dX12_sha_171 : decode cX12_sha 171 = .ok (.getfield 185, 3) := by decide +kernel
theorem dX12_sha_174 : decode cX12_sha 174 = .ok (.iload 5, 2) := by decide +kernel
theorem dX12_sha_176 : decode cX12_sha 176 = .ok (.iconst 4, 1) := by decide +kernel
theorem dX12_sha_177 : decode cX12_sha 177 = .ok (.idiv, 1) := by decide +kernel
theorem dX12_sha_178 : decode cX12_sha 178 = .ok (.iaload, 1) := by decide +kernel
theorem dX12_sha_179 : decode cX12_sha 179 = .ok (.bipush 24, 2) := by decide +kernel
theorem dX12_sha_181 : decode cX12_sha 181 = .ok (.bipush 8, 2) := by decide +kernel
theorem dX12_sha_183 : decode cX12_sha 183 = .ok (.iload 5, 2) := by decide +kernel
theorem dX12_sha_185 : decode cX12_sha 185 = .ok (.iconst 4, 1) := by decide +kernel
theorem dX12_sha_186 : decode cX12_sha 186 = .ok (.irem, 1) := by decide +kernel
theorem dX12_sha_187 : decode cX12_sha 187 = .ok (.imul, 1) := by decide +kernel
theorem dX12_sha_188 : decode cX12_sha 188 = .ok (.isub, 1) := by decide +kernel
theorem dX12_sha_189 : decode cX12_sha 189 = .ok (.ishr, 1) := by decide +kernel
theorem dX12_sha_190 : decode cX12_sha 190 = .ok (.i2b, 1) := by decide +kernel
theorem dX12_sha_191 : decode cX12_sha 191 = .ok (.bastore, 1) := by decide +kernel
theorem dX12_sha_192 : decode cX12_sha 192 = .ok (.iinc 5 1, 3) := by decide +kernel
theorem dX12_sha_195 : decode cX12_sha 195 = .ok (.goto (-38), 3) := by decide +kernel
theorem dX12_sha_198 : decode cX12_sha 198 = .ok (.return_, 1) := by decide +kernel
theorem dX12_block_0 : decode cX12_block 0 = .ok (.iconst 0, 1) := by decide +kernel
theorem dX12_block_1 : decode cX12_block 1 = .ok (.istore_n 2, 1) := by decide +kernel
theorem dX12_block_2 : decode cX12_block 2 = .ok (.iload_n 2, 1) := by decide +kernel
theorem dX12_block_3 : decode cX12_block 3 = .ok (.bipush 64, 2) := by decide +kernel
theorem dX12_block_5 : decode cX12_block 5 = .ok (.if_icmp .ge 179, 3) := by decide +kernel
theorem dX12_block_8 : decode cX12_block 8 = .ok (.iload_n 2, 1) := by decide +kernel
theorem dX12_block_9 : decode cX12_block 9 = .ok (.bipush 16, 2) := by decide +kernel
theorem dX12_block_11 : decode cX12_block 11 = .ok (.if_icmp .ge 82, 3) := by decide +kernel
theorem dX12_block_14 : decode cX12_block 14 = .ok (.aload_n 0, 1) := by decide +kernel
theorem dX12_block_15 : decode cX12_block 15 = .ok (.getfield 179, 3) := by decide +kernel
theorem dX12_block_18 : decode cX12_block 18 = .ok (.iload_n 2, 1) := by decide +kernel
theorem dX12_block_19 : decode cX12_block 19 = .ok (.aload_n 0, 1) := by decide +kernel
theorem dX12_block_20 : decode cX12_block 20 = .ok (.getfield 182, 3) := by decide +kernel
theorem dX12_block_23 : decode cX12_block 23 = .ok (.iload_n 1, 1) := by decide +kernel
theorem dX12_block_24 : decode cX12_block 24 = .ok (.iconst 4, 1) := by decide +kernel
theorem dX12_block_25 : decode cX12_block 25 = .ok (.iload_n 2, 1) := by decide +kernel
theorem dX12_block_26 : decode cX12_block 26 = .ok (.imul, 1) := by decide +kernel
theorem dX12_block_27 : decode cX12_block 27 = .ok (.iadd, 1) := by decide +kernel
theorem dX12_block_28 : decode cX12_block 28 = .ok (.baload, 1) := by decide +kernel
theorem dX12_block_29 : decode cX12_block 29 = .ok (.bipush 24, 2) := by decide +kernel
theorem dX12_block_31 : decode cX12_block 31 = .ok (.ishl, 1) := by decide +kernel
theorem dX12_block_32 : decode cX12_block 32 = .ok (.aload_n 0, 1) := by decide +kernel
theorem dX12_block_33 : decode cX12_block 33 = .ok (.getfield 182, 3) := by decide +kernel
theorem dX12_block_36 : decode cX12_block 36 = .ok (.iload_n 1, 1) := by decide +kernel
theorem dX12_block_37 : decode cX12_block 37 = .ok (.iconst 4, 1) := by decide +kernel
theorem dX12_block_38 : decode cX12_block 38 = .ok (.iload_n 2, 1) := by decide +kernel
theorem dX12_block_39 : decode cX12_block 39 = .ok (.imul, 1) := by decide +kernel
theorem dX12_block_40 : decode cX12_block 40 = .ok (.iadd, 1) := by decide +kernel
theorem dX12_block_41 : decode cX12_block 41 = .ok (.iconst 1, 1) := by decide +kernel
theorem dX12_block_42 : decode cX12_block 42 = .ok (.iadd, 1) := by decide +kernel
theorem dX12_block_43 : decode cX12_block 43 = .ok (.baload, 1) := by decide +kernel
theorem dX12_block_44 : decode cX12_block 44 = .ok (.sipush 255, 3) := by decide +kernel
theorem dX12_block_47 : decode cX12_block 47 = .ok (.iand, 1) := by decide +kernel
theorem dX12_block_48 : decode cX12_block 48 = .ok (.bipush 16, 2) := by decide +kernel
theorem dX12_block_50 : decode cX12_block 50 = .ok (.ishl, 1) := by decide +kernel
theorem dX12_block_51 : decode cX12_block 51 = .ok (.ior, 1) := by decide +kernel
theorem dX12_block_52 : decode cX12_block 52 = .ok (.aload_n 0, 1) := by decide +kernel
theorem dX12_block_53 : decode cX12_block 53 = .ok (.getfield 182, 3) := by decide +kernel
theorem dX12_block_56 : decode cX12_block 56 = .ok (.iload_n 1, 1) := by decide +kernel
theorem dX12_block_57 : decode cX12_block 57 = .ok (.iconst 4, 1) := by decide +kernel
theorem dX12_block_58 : decode cX12_block 58 = .ok (.iload_n 2, 1) := by decide +kernel
theorem dX12_block_59 : decode cX12_block 59 = .ok (.imul, 1) := by decide +kernel
theorem dX12_block_60 : decode cX12_block 60 = .ok (.iadd, 1) := by decide +kernel
theorem dX12_block_61 : decode cX12_block 61 = .ok (.iconst 2, 1) := by decide +kernel
theorem dX12_block_62 : decode cX12_block 62 = .ok (.iadd, 1) := by decide +kernel
theorem dX12_block_63 : decode cX12_block 63 = .ok (.baload, 1) := by decide +kernel
theorem dX12_block_64 : decode cX12_block 64 = .ok (.sipush 255, 3) := by decide +kernel
theorem dX12_block_67 : decode cX12_block 67 = .ok (.iand, 1) := by decide +kernel
theorem dX12_block_68 : decode cX12_block 68 = .ok (.bipush 8, 2) := by decide +kernel
theorem dX12_block_70 : decode cX12_block 70 = .ok (.ishl, 1) := by decide +kernel
theorem dX12_block_71 : decode cX12_block 71 = .ok (.ior, 1) := by decide +kernel
theorem dX12_block_72 : decode cX12_block 72 = .ok (.aload_n 0, 1) := by decide +kernel
theorem dX12_block_73 : decode cX12_block 73 = .ok (.getfield 182, 3) := by decide +kernel
theorem dX12_block_76 : decode cX12_block 76 = .ok (.iload_n 1, 1) := by decide +kernel
theorem dX12_block_77 : decode cX12_block 77 = .ok (.iconst 4, 1) := by decide +kernel
theorem dX12_block_78 : decode cX12_block 78 = .ok (.iload_n 2, 1) := by decide +kernel
theorem dX12_block_79 : decode cX12_block 79 = .ok (.imul, 1) := by decide +kernel
theorem dX12_block_80 : decode cX12_block 80 = .ok (.iadd, 1) := by decide +kernel
theorem dX12_block_81 : decode cX12_block 81 = .ok (.iconst 3, 1) := by decide +kernel
theorem dX12_block_82 : decode cX12_block 82 = .ok (.iadd, 1) := by decide +kernel
theorem dX12_block_83 : decode cX12_block 83 = .ok (.baload, 1) := by decide +kernel
theorem dX12_block_84 : decode cX12_block 84 = .ok (.sipush 255, 3) := by decide +kernel
theorem dX12_block_87 : decode cX12_block 87 = .ok (.iand, 1) := by decide +kernel
theorem dX12_block_88 : decode cX12_block 88 = .ok (.ior, 1) := by decide +kernel
theorem dX12_block_89 : decode cX12_block 89 = .ok (.iastore, 1) := by decide +kernel
theorem dX12_block_90 : decode cX12_block 90 = .ok (.goto 88, 3) := by decide +kernel
theorem dX12_block_93 : decode cX12_block 93 = .ok (.aload_n 0, 1) := by decide +kernel
theorem dX12_block_94 : decode cX12_block 94 = .ok (.getfield 179, 3) := by decide +kernel
theorem dX12_block_97 : decode cX12_block 97 = .ok (.iload_n 2, 1) := by decide +kernel
theorem dX12_block_98 : decode cX12_block 98 = .ok (.bipush 15, 2) := by decide +kernel
theorem dX12_block_100 : decode cX12_block 100 = .ok (.isub, 1) := by decide +kernel
theorem dX12_block_101 : decode cX12_block 101 = .ok (.iaload, 1) := by decide +kernel
theorem dX12_block_102 : decode cX12_block 102 = .ok (.istore_n 3, 1) := by decide +kernel
theorem dX12_block_103 : decode cX12_block 103 = .ok (.aload_n 0, 1) := by decide +kernel
theorem dX12_block_104 : decode cX12_block 104 = .ok (.getfield 179, 3) := by decide +kernel
theorem dX12_block_107 : decode cX12_block 107 = .ok (.iload_n 2, 1) := by decide +kernel
theorem dX12_block_108 : decode cX12_block 108 = .ok (.iconst 2, 1) := by decide +kernel
theorem dX12_block_109 : decode cX12_block 109 = .ok (.isub, 1) := by decide +kernel
theorem dX12_block_110 : decode cX12_block 110 = .ok (.iaload, 1) := by decide +kernel
theorem dX12_block_111 : decode cX12_block 111 = .ok (.istore 4, 2) := by decide +kernel
theorem dX12_block_113 : decode cX12_block 113 = .ok (.aload_n 0, 1) := by decide +kernel
theorem dX12_block_114 : decode cX12_block 114 = .ok (.getfield 179, 3) := by decide +kernel
theorem dX12_block_117 : decode cX12_block 117 = .ok (.iload_n 2, 1) := by decide +kernel
theorem dX12_block_118 : decode cX12_block 118 = .ok (.aload_n 0, 1) := by decide +kernel
theorem dX12_block_119 : decode cX12_block 119 = .ok (.getfield 179, 3) := by decide +kernel
theorem dX12_block_122 : decode cX12_block 122 = .ok (.iload_n 2, 1) := by decide +kernel
theorem dX12_block_123 : decode cX12_block 123 = .ok (.bipush 16, 2) := by decide +kernel
theorem dX12_block_125 : decode cX12_block 125 = .ok (.isub, 1) := by decide +kernel
theorem dX12_block_126 : decode cX12_block 126 = .ok (.iaload, 1) := by decide +kernel
theorem dX12_block_127 : decode cX12_block 127 = .ok (.aload_n 0, 1) := by decide +kernel
theorem dX12_block_128 : decode cX12_block 128 = .ok (.getfield 179, 3) := by decide +kernel
theorem dX12_block_131 : decode cX12_block 131 = .ok (.iload_n 2, 1) := by decide +kernel
theorem dX12_block_132 : decode cX12_block 132 = .ok (.bipush 7, 2) := by decide +kernel
theorem dX12_block_134 : decode cX12_block 134 = .ok (.isub, 1) := by decide +kernel
theorem dX12_block_135 : decode cX12_block 135 = .ok (.iaload, 1) := by decide +kernel
theorem dX12_block_136 : decode cX12_block 136 = .ok (.iadd, 1) := by decide +kernel
theorem dX12_block_137 : decode cX12_block 137 = .ok (.iload_n 3, 1) := by decide +kernel
theorem dX12_block_138 : decode cX12_block 138 = .ok (.bipush 7, 2) := by decide +kernel
theorem dX12_block_140 : decode cX12_block 140 = .ok (.invokestatic 488, 3) := by decide +kernel
theorem dX12_block_143 : decode cX12_block 143 = .ok (.iload_n 3, 1) := by decide +kernel
theorem dX12_block_144 : decode cX12_block 144 = .ok (.bipush 18, 2) := by decide +kernel
theorem dX12_block_146 : decode cX12_block 146 = .ok (.invokestatic 488, 3) := by decide +kernel
theorem dX12_block_149 : decode cX12_block 149 = .ok (.ixor, 1) := by decide +kernel
theorem dX12_block_150 : decode cX12_block 150 = .ok (.iload_n 3, 1) := by decide +kernel
theorem dX12_block_151 : decode cX12_block 151 = .ok (.iconst 3, 1) := by decide +kernel
theorem dX12_block_152 : decode cX12_block 152 = .ok (.iushr, 1) := by decide +kernel
theorem dX12_block_153 : decode cX12_block 153 = .ok (.ixor, 1) := by decide +kernel
theorem dX12_block_154 : decode cX12_block 154 = .ok (.iadd, 1) := by decide +kernel
theorem dX12_block_155 : decode cX12_block 155 = .ok (.iload 4, 2) := by decide +kernel
theorem dX12_block_157 : decode cX12_block 157 = .ok (.bipush 17, 2) := by decide +kernel
theorem dX12_block_159 : decode cX12_block 159 = .ok (.invokestatic 488, 3) := by decide +kernel
theorem dX12_block_162 : decode cX12_block 162 = .ok (.iload 4, 2) := by decide +kernel
theorem dX12_block_164 : decode cX12_block 164 = .ok (.bipush 19, 2) := by decide +kernel
theorem dX12_block_166 : decode cX12_block 166 = .ok (.invokestatic 488, 3) := by decide +kernel
theorem dX12_block_169 : decode cX12_block 169 = .ok (.ixor, 1) := by decide +kernel
theorem dX12_block_170 : decode cX12_block 170 = .ok (.iload 4, 2) := by decide +kernel
theorem dX12_block_172 : decode cX12_block 172 = .ok (.bipush 10, 2) := by decide +kernel
theorem dX12_block_174 : decode cX12_block 174 = .ok (.iushr, 1) := by decide +kernel
theorem dX12_block_175 : decode cX12_block 175 = .ok (.ixor, 1) := by decide +kernel
theorem dX12_block_176 : decode cX12_block 176 = .ok (.iadd, 1) := by decide +kernel
theorem dX12_block_177 : decode cX12_block 177 = .ok (.iastore, 1) := by decide +kernel
theorem dX12_block_178 : decode cX12_block 178 = .ok (.iinc 2 1, 3) := by decide +kernel
theorem dX12_block_181 : decode cX12_block 181 = .ok (.goto (-179), 3) := by decide +kernel
theorem dX12_block_184 : decode cX12_block 184 = .ok (.aload_n 0, 1) := by decide +kernel
theorem dX12_block_185 : decode cX12_block 185 = .ok (.getfield 185, 3) := by decide +kernel
theorem dX12_block_188 : decode cX12_block 188 = .ok (.iconst 0, 1) := by decide +kernel
theorem dX12_block_189 : decode cX12_block 189 = .ok (.iaload, 1) := by decide +kernel
theorem dX12_block_190 : decode cX12_block 190 = .ok (.istore_n 2, 1) := by decide +kernel
theorem dX12_block_191 : decode cX12_block 191 = .ok (.aload_n 0, 1) := by decide +kernel
theorem dX12_block_192 : decode cX12_block 192 = .ok (.getfield 185, 3) := by decide +kernel
theorem dX12_block_195 : decode cX12_block 195 = .ok (.iconst 1, 1) := by decide +kernel
theorem dX12_block_196 : decode cX12_block 196 = .ok (.iaload, 1) := by decide +kernel
theorem dX12_block_197 : decode cX12_block 197 = .ok (.istore_n 3, 1) := by decide +kernel
theorem dX12_block_198 : decode cX12_block 198 = .ok (.aload_n 0, 1) := by decide +kernel
theorem dX12_block_199 : decode cX12_block 199 = .ok (.getfield 185, 3) := by decide +kernel
theorem dX12_block_202 : decode cX12_block 202 = .ok (.iconst 2, 1) := by decide +kernel
theorem dX12_block_203 : decode cX12_block 203 = .ok (.iaload, 1) := by decide +kernel
theorem dX12_block_204 : decode cX12_block 204 = .ok (.istore 4, 2) := by decide +kernel
theorem dX12_block_206 : decode cX12_block 206 = .ok (.aload_n 0, 1) := by decide +kernel
theorem dX12_block_207 : decode cX12_block 207 = .ok (.getfield 185, 3) := by decide +kernel
theorem dX12_block_210 : decode cX12_block 210 = .ok (.iconst 3, 1) := by decide +kernel
theorem dX12_block_211 : decode cX12_block 211 = .ok (.iaload, 1) := by decide +kernel
theorem dX12_block_212 : decode cX12_block 212 = .ok (.istore 5, 2) := by decide +kernel
theorem dX12_block_214 : decode cX12_block 214 = .ok (.aload_n 0, 1) := by decide +kernel
theorem dX12_block_215 : decode cX12_block 215 = .ok (.getfield 185, 3) := by decide +kernel
theorem dX12_block_218 : decode cX12_block 218 = .ok (.iconst 4, 1) := by decide +kernel
theorem dX12_block_219 : decode cX12_block 219 = .ok (.iaload, 1) := by decide +kernel
theorem dX12_block_220 : decode cX12_block 220 = .ok (.istore 6, 2) := by decide +kernel
theorem dX12_block_222 : decode cX12_block 222 = .ok (.aload_n 0, 1) := by decide +kernel
theorem dX12_block_223 : decode cX12_block 223 = .ok (.getfield 185, 3) := by decide +kernel
theorem dX12_block_226 : decode cX12_block 226 = .ok (.iconst 5, 1) := by decide +kernel
theorem dX12_block_227 : decode cX12_block 227 = .ok (.iaload, 1) := by decide +kernel
theorem dX12_block_228 : decode cX12_block 228 = .ok (.istore 7, 2) := by decide +kernel
theorem dX12_block_230 : decode cX12_block 230 = .ok (.aload_n 0, 1) := by decide +kernel
theorem dX12_block_231 : decode cX12_block 231 = .ok (.getfield 185, 3) := by decide +kernel
theorem dX12_block_234 : decode cX12_block 234 = .ok (.bipush 6, 2) := by decide +kernel
theorem dX12_block_236 : decode cX12_block 236 = .ok (.iaload, 1) := by decide +kernel
theorem dX12_block_237 : decode cX12_block 237 = .ok (.istore 8, 2) := by decide +kernel
theorem dX12_block_239 : decode cX12_block 239 = .ok (.aload_n 0, 1) := by decide +kernel
theorem dX12_block_240 : decode cX12_block 240 = .ok (.getfield 185, 3) := by decide +kernel
theorem dX12_block_243 : decode cX12_block 243 = .ok (.bipush 7, 2) := by decide +kernel
theorem dX12_block_245 : decode cX12_block 245 = .ok (.iaload, 1) := by decide +kernel
theorem dX12_block_246 : decode cX12_block 246 = .ok (.istore 9, 2) := by decide +kernel
theorem dX12_block_248 : decode cX12_block 248 = .ok (.iconst 0, 1) := by decide +kernel
theorem dX12_block_249 : decode cX12_block 249 = .ok (.istore 10, 2) := by decide +kernel
theorem dX12_block_251 : decode cX12_block 251 = .ok (.iload 10, 2) := by decide +kernel
theorem dX12_block_253 : decode cX12_block 253 = .ok (.bipush 64, 2) := by decide +kernel
theorem dX12_block_255 : decode cX12_block 255 = .ok (.if_icmp .ge 135, 3) := by decide +kernel
theorem dX12_block_258 : decode cX12_block 258 = .ok (.iload 9, 2) := by decide +kernel
theorem dX12_block_260 : decode cX12_block 260 = .ok (.iload 6, 2) := by decide +kernel
theorem dX12_block_262 : decode cX12_block 262 = .ok (.bipush 6, 2) := by decide +kernel
theorem dX12_block_264 : decode cX12_block 264 = .ok (.invokestatic 488, 3) := by decide +kernel
theorem dX12_block_267 : decode cX12_block 267 = .ok (.iload 6, 2) := by decide +kernel
theorem dX12_block_269 : decode cX12_block 269 = .ok (.bipush 11, 2) := by decide +kernel
theorem dX12_block_271 : decode cX12_block 271 = .ok (.invokestatic 488, 3) := by decide +kernel
theorem dX12_block_274 : decode cX12_block 274 = .ok (.ixor, 1) := by decide +kernel
theorem dX12_block_275 : decode cX12_block 275 = .ok (.iload 6, 2) := by decide +kernel
theorem dX12_block_277 : decode cX12_block 277 = .ok (.bipush 25, 2) := by decide +kernel
theorem dX12_block_279 : decode cX12_block 279 = .ok (.invokestatic 488, 3) := by decide +kernel
theorem dX12_block_282 : decode cX12_block 282 = .ok (.ixor, 1) := by decide +kernel
theorem dX12_block_283 : decode cX12_block 283 = .ok (.iadd, 1) := by decide +kernel
theorem dX12_block_284 : decode cX12_block 284 = .ok (.iload 6, 2) := by decide +kernel
theorem dX12_block_286 : decode cX12_block 286 = .ok (.iload 7, 2) := by decide +kernel
theorem dX12_block_288 : decode cX12_block 288 = .ok (.iand, 1) := by decide +kernel
theorem dX12_block_289 : decode cX12_block 289 = .ok (.iload 6, 2) := by decide +kernel
theorem dX12_block_291 : decode cX12_block 291 = .ok (.iconst (-1), 1) := by decide +kernel
theorem dX12_block_292 : decode cX12_block 292 = .ok (.ixor, 1) := by decide +kernel
theorem dX12_block_293 : decode cX12_block 293 = .ok (.iload 8, 2) := by decide +kernel
theorem dX12_block_295 : decode cX12_block 295 = .ok (.iand, 1) := by decide +kernel
theorem dX12_block_296 : decode cX12_block 296 = .ok (.ixor, 1) := by decide +kernel
theorem dX12_block_297 : decode cX12_block 297 = .ok (.iadd, 1) := by decide +kernel
theorem dX12_block_298 : decode cX12_block 298 = .ok (.getstatic 491, 3) := by decide +kernel
theorem dX12_block_301 : decode cX12_block 301 = .ok (.iload 10, 2) := by decide +kernel
theorem dX12_block_303 : decode cX12_block 303 = .ok (.iaload, 1) := by decide +kernel
theorem dX12_block_304 : decode cX12_block 304 = .ok (.iadd, 1) := by decide +kernel
theorem dX12_block_305 : decode cX12_block 305 = .ok (.aload_n 0, 1) := by decide +kernel
theorem dX12_block_306 : decode cX12_block 306 = .ok (.getfield 179, 3) := by decide +kernel
theorem dX12_block_309 : decode cX12_block 309 = .ok (.iload 10, 2) := by decide +kernel
theorem dX12_block_311 : decode cX12_block 311 = .ok (.iaload, 1) := by decide +kernel
theorem dX12_block_312 : decode cX12_block 312 = .ok (.iadd, 1) := by decide +kernel
theorem dX12_block_313 : decode cX12_block 313 = .ok (.istore 11, 2) := by decide +kernel
theorem dX12_block_315 : decode cX12_block 315 = .ok (.iload_n 2, 1) := by decide +kernel
theorem dX12_block_316 : decode cX12_block 316 = .ok (.iconst 2, 1) := by decide +kernel
theorem dX12_block_317 : decode cX12_block 317 = .ok (.invokestatic 488, 3) := by decide +kernel
theorem dX12_block_320 : decode cX12_block 320 = .ok (.iload_n 2, 1) := by decide +kernel
theorem dX12_block_321 : decode cX12_block 321 = .ok (.bipush 13, 2) := by decide +kernel
theorem dX12_block_323 : decode cX12_block 323 = .ok (.invokestatic 488, 3) := by decide +kernel
theorem dX12_block_326 : decode cX12_block 326 = .ok (.ixor, 1) := by decide +kernel
theorem dX12_block_327 : decode cX12_block 327 = .ok (.iload_n 2, 1) := by decide +kernel
theorem dX12_block_328 : decode cX12_block 328 = .ok (.bipush 22, 2) := by decide +kernel
theorem dX12_block_330 : decode cX12_block 330 = .ok (.invokestatic 488, 3) := by decide +kernel
theorem dX12_block_333 : decode cX12_block 333 = .ok (.ixor, 1) := by decide +kernel
theorem dX12_block_334 : decode cX12_block 334 = .ok (.iload_n 2, 1) := by decide +kernel
theorem dX12_block_335 : decode cX12_block 335 = .ok (.iload_n 3, 1) := by decide +kernel
theorem dX12_block_336 : decode cX12_block 336 = .ok (.iand, 1) := by decide +kernel
theorem dX12_block_337 : decode cX12_block 337 = .ok (.iload_n 2, 1) := by decide +kernel
theorem dX12_block_338 : decode cX12_block 338 = .ok (.iload 4, 2) := by decide +kernel
theorem dX12_block_340 : decode cX12_block 340 = .ok (.iand, 1) := by decide +kernel
theorem dX12_block_341 : decode cX12_block 341 = .ok (.ixor, 1) := by decide +kernel
theorem dX12_block_342 : decode cX12_block 342 = .ok (.iload_n 3, 1) := by decide +kernel
theorem dX12_block_343 : decode cX12_block 343 = .ok (.iload 4, 2) := by decide +kernel
theorem dX12_block_345 : decode cX12_block 345 = .ok (.iand, 1) := by decide +kernel
theorem dX12_block_346 : decode cX12_block 346 = .ok (.ixor, 1) := by decide +kernel
theorem dX12_block_347 : decode cX12_block 347 = .ok (.iadd, 1) := by decide +kernel
theorem dX12_block_348 : decode cX12_block 348 = .ok (.istore 12, 2) := by decide +kernel
theorem dX12_block_350 : decode cX12_block 350 = .ok (.iload 8, 2) := by decide +kernel
theorem dX12_block_352 : decode cX12_block 352 = .ok (.istore 9, 2) := by decide +kernel
theorem dX12_block_354 : decode cX12_block 354 = .ok (.iload 7, 2) := by decide +kernel
theorem dX12_block_356 : decode cX12_block 356 = .ok (.istore 8, 2) := by decide +kernel
theorem dX12_block_358 : decode cX12_block 358 = .ok (.iload 6, 2) := by decide +kernel
theorem dX12_block_360 : decode cX12_block 360 = .ok (.istore 7, 2) := by decide +kernel
theorem dX12_block_362 : decode cX12_block 362 = .ok (.iload 5, 2) := by decide +kernel
theorem dX12_block_364 : decode cX12_block 364 = .ok (.iload 11, 2) := by decide +kernel
theorem dX12_block_366 : decode cX12_block 366 = .ok (.iadd, 1) := by decide +kernel
theorem dX12_block_367 : decode cX12_block 367 = .ok (.istore 6, 2) := by decide +kernel
theorem dX12_block_369 : decode cX12_block 369 = .ok (.iload 4, 2) := by decide +kernel
theorem dX12_block_371 : decode cX12_block 371 = .ok (.istore 5, 2) := by decide +kernel
theorem dX12_block_373 : decode cX12_block 373 = .ok (.iload_n 3, 1) := by decide +kernel
theorem dX12_block_374 : decode cX12_block 374 = .ok (.istore 4, 2) := by decide +kernel
theorem dX12_block_376 : decode cX12_block 376 = .ok (.iload_n 2, 1) := by decide +kernel
theorem dX12_block_377 : decode cX12_block 377 = .ok (.istore_n 3, 1) := by decide +kernel
theorem dX12_block_378 : decode cX12_block 378 = .ok (.iload 11, 2) := by decide +kernel
theorem dX12_block_380 : decode cX12_block 380 = .ok (.iload 12, 2) := by decide +kernel
theorem dX12_block_382 : decode cX12_block 382 = .ok (.iadd, 1) := by decide +kernel
theorem dX12_block_383 : decode cX12_block 383 = .ok (.istore_n 2, 1) := by decide +kernel
theorem dX12_block_384 : decode cX12_block 384 = .ok (.iinc 10 1, 3) := by decide +kernel
theorem dX12_block_387 : decode cX12_block 387 = .ok (.goto (-136), 3) := by decide +kernel
theorem dX12_block_390 : decode cX12_block 390 = .ok (.aload_n 0, 1) := by decide +kernel
theorem dX12_block_391 : decode cX12_block 391 = .ok (.getfield 185, 3) := by decide +kernel
theorem dX12_block_394 : decode cX12_block 394 = .ok (.iconst 0, 1) := by decide +kernel
theorem dX12_block_395 : decode cX12_block 395 = .ok (.dup2, 1) := by decide +kernel
theorem dX12_block_396 : decode cX12_block 396 = .ok (.iaload, 1) := by decide +kernel
theorem dX12_block_397 : decode cX12_block 397 = .ok (.iload_n 2, 1) := by decide +kernel
theorem dX12_block_398 : decode cX12_block 398 = .ok (.iadd, 1) := by decide +kernel
theorem dX12_block_399 : decode cX12_block 399 = .ok (.iastore, 1) := by decide +kernel
theorem dX12_block_400 : decode cX12_block 400 = .ok (.aload_n 0, 1) := by decide +kernel
theorem dX12_block_401 : decode cX12_block 401 = .ok (.getfield 185, 3) := by decide +kernel
theorem dX12_block_404 : decode cX12_block 404 = .ok (.iconst 1, 1) := by decide +kernel
theorem dX12_block_405 : decode cX12_block 405 = .ok (.dup2, 1) := by decide +kernel
theorem dX12_block_406 : decode cX12_block 406 = .ok (.iaload, 1) := by decide +kernel
theorem dX12_block_407 : decode cX12_block 407 = .ok (.iload_n 3, 1) := by decide +kernel
theorem dX12_block_408 : decode cX12_block 408 = .ok (.iadd, 1) := by decide +kernel
theorem dX12_block_409 : decode cX12_block 409 = .ok (.iastore, 1) := by decide +kernel
theorem dX12_block_410 : decode cX12_block 410 = .ok (.aload_n 0, 1) := by decide +kernel
theorem dX12_block_411 : decode cX12_block 411 = .ok (.getfield 185, 3) := by decide +kernel
theorem dX12_block_414 : decode cX12_block 414 = .ok (.iconst 2, 1) := by decide +kernel
theorem dX12_block_415 : decode cX12_block 415 = .ok (.dup2, 1) := by decide +kernel
theorem dX12_block_416 : decode cX12_block 416 = .ok (.iaload, 1) := by decide +kernel
theorem dX12_block_417 : decode cX12_block 417 = .ok (.iload 4, 2) := by decide +kernel
theorem dX12_block_419 : decode cX12_block 419 = .ok (.iadd, 1) := by decide +kernel
theorem dX12_block_420 : decode cX12_block 420 = .ok (.iastore, 1) := by decide +kernel
theorem dX12_block_421 : decode cX12_block 421 = .ok (.aload_n 0, 1) := by decide +kernel
theorem dX12_block_422 : decode cX12_block 422 = .ok (.getfield 185, 3) := by decide +kernel
theorem dX12_block_425 : decode cX12_block 425 = .ok (.iconst 3, 1) := by decide +kernel
theorem dX12_block_426 : decode cX12_block 426 = .ok (.dup2, 1) := by decide +kernel
theorem dX12_block_427 : decode cX12_block 427 = .ok (.iaload, 1) := by decide +kernel
theorem dX12_block_428 : decode cX12_block 428 = .ok (.iload 5, 2) := by decide +kernel
theorem dX12_block_430 : decode cX12_block 430 = .ok (.iadd, 1) := by decide +kernel
theorem dX12_block_431 : decode cX12_block 431 = .ok (.iastore, 1) := by decide +kernel
theorem dX12_block_432 : decode cX12_block 432 = .ok (.aload_n 0, 1) := by decide +kernel
theorem dX12_block_433 : decode cX12_block 433 = .ok (.getfield 185, 3) := by decide +kernel
theorem dX12_block_436 : decode cX12_block 436 = .ok (.iconst 4, 1) := by decide +kernel
theorem dX12_block_437 : decode cX12_block 437 = .ok (.dup2, 1) := by decide +kernel
theorem dX12_block_438 : decode cX12_block 438 = .ok (.iaload, 1) := by decide +kernel
theorem dX12_block_439 : decode cX12_block 439 = .ok (.iload 6, 2) := by decide +kernel
theorem dX12_block_441 : decode cX12_block 441 = .ok (.iadd, 1) := by decide +kernel
theorem dX12_block_442 : decode cX12_block 442 = .ok (.iastore, 1) := by decide +kernel
theorem dX12_block_443 : decode cX12_block 443 = .ok (.aload_n 0, 1) := by decide +kernel
theorem dX12_block_444 : decode cX12_block 444 = .ok (.getfield 185, 3) := by decide +kernel
theorem dX12_block_447 : decode cX12_block 447 = .ok (.iconst 5, 1) := by decide +kernel
theorem dX12_block_448 : decode cX12_block 448 = .ok (.dup2, 1) := by decide +kernel
theorem dX12_block_449 : decode cX12_block 449 = .ok (.iaload, 1) := by decide +kernel
theorem dX12_block_450 : decode cX12_block 450 = .ok (.iload 7, 2) := by decide +kernel
theorem dX12_block_452 : decode cX12_block 452 = .ok (.iadd, 1) := by decide +kernel
theorem dX12_block_453 : decode cX12_block 453 = .ok (.iastore, 1) := by decide +kernel
theorem dX12_block_454 : decode cX12_block 454 = .ok (.aload_n 0, 1) := by decide +kernel
theorem dX12_block_455 : decode cX12_block 455 = .ok (.getfield 185, 3) := by decide +kernel
theorem dX12_block_458 : decode cX12_block 458 = .ok (.bipush 6, 2) := by decide +kernel
theorem dX12_block_460 : decode cX12_block 460 = .ok (.dup2, 1) := by decide +kernel
theorem dX12_block_461 : decode cX12_block 461 = .ok (.iaload, 1) := by decide +kernel
theorem dX12_block_462 : decode cX12_block 462 = .ok (.iload 8, 2) := by decide +kernel
theorem dX12_block_464 : decode cX12_block 464 = .ok (.iadd, 1) := by decide +kernel
theorem dX12_block_465 : decode cX12_block 465 = .ok (.iastore, 1) := by decide +kernel
theorem dX12_block_466 : decode cX12_block 466 = .ok (.aload_n 0, 1) := by decide +kernel
theorem dX12_block_467 : decode cX12_block 467 = .ok (.getfield 185, 3) := by decide +kernel
theorem dX12_block_470 : decode cX12_block 470 = .ok (.bipush 7, 2) := by decide +kernel
theorem dX12_block_472 : decode cX12_block 472 = .ok (.dup2, 1) := by decide +kernel
theorem dX12_block_473 : decode cX12_block 473 = .ok (.iaload, 1) := by decide +kernel
theorem dX12_block_474 : decode cX12_block 474 = .ok (.iload 9, 2) := by decide +kernel
theorem dX12_block_476 : decode cX12_block 476 = .ok (.iadd, 1) := by decide +kernel
theorem dX12_block_477 : decode cX12_block 477 = .ok (.iastore, 1) := by decide +kernel
theorem dX12_block_478 : decode cX12_block 478 = .ok (.return_, 1) := by decide +kernel
theorem dX12_status_0 : decode cX12_status 0 = .ok (.aload_n 0, 1) := by decide +kernel
theorem dX12_status_1 : decode cX12_status 1 = .ok (.iconst 0, 1) := by decide +kernel
theorem dX12_status_2 : decode cX12_status 2 = .ok (.putfield 188, 3) := by decide +kernel
theorem dX12_status_5 : decode cX12_status 5 = .ok (.aload_n 0, 1) := by decide +kernel
theorem dX12_status_6 : decode cX12_status 6 = .ok (.getfield 322, 3) := by decide +kernel
theorem dX12_status_9 : decode cX12_status 9 = .ok (.ireturn, 1) := by decide +kernel
theorem dX12_error_0 : decode cX12_error 0 = .ok (.aload_n 0, 1) := by decide +kernel
theorem dX12_error_1 : decode cX12_error 1 = .ok (.iconst 0, 1) := by decide +kernel
theorem dX12_error_2 : decode cX12_error 2 = .ok (.putfield 188, 3) := by decide +kernel
theorem dX12_error_5 : decode cX12_error 5 = .ok (.aload_n 0, 1) := by decide +kernel
theorem dX12_error_6 : decode cX12_error 6 = .ok (.getfield 325, 3) := by decide +kernel
theorem dX12_error_9 : decode cX12_error 9 = .ok (.ireturn, 1) := by decide +kernel
theorem dX12_out_0 : decode cX12_out 0 = .ok (.aload_n 0, 1) := by decide +kernel
theorem dX12_out_1 : decode cX12_out 1 = .ok (.iconst 0, 1) := by decide +kernel
theorem dX12_out_2 : decode cX12_out 2 = .ok (.putfield 188, 3) := by decide +kernel
theorem dX12_out_5 : decode cX12_out 5 = .ok (.iload_n 1, 1) := by decide +kernel
theorem dX12_out_6 : decode cX12_out 6 = .ok (.ifCond .lt 11, 3) := by decide +kernel
theorem dX12_out_9 : decode cX12_out 9 = .ok (.iload_n 1, 1) := by decide +kernel
theorem dX12_out_10 : decode cX12_out 10 = .ok (.aload_n 0, 1) := by decide +kernel
theorem dX12_out_11 : decode cX12_out 11 = .ok (.getfield 296, 3) := by decide +kernel
theorem dX12_out_14 : decode cX12_out 14 = .ok (.if_icmp .lt 7, 3) := by decide +kernel
theorem dX12_out_17 : decode cX12_out 17 = .ok (.iconst (-1), 1) := by decide +kernel
theorem dX12_out_18 : decode cX12_out 18 = .ok (.goto 13, 3) := by decide +kernel
theorem dX12_out_21 : decode cX12_out 21 = .ok (.aload_n 0, 1) := by decide +kernel
theorem dX12_out_22 : decode cX12_out 22 = .ok (.getfield 13, 3) := by decide +kernel
theorem dX12_out_25 : decode cX12_out 25 = .ok (.iload_n 1, 1) := by decide +kernel
theorem dX12_out_26 : decode cX12_out 26 = .ok (.baload, 1) := by decide +kernel
theorem dX12_out_27 : decode cX12_out 27 = .ok (.sipush 255, 3) := by decide +kernel
theorem dX12_out_30 : decode cX12_out 30 = .ok (.iand, 1) := by decide +kernel
theorem dX12_out_31 : decode cX12_out 31 = .ok (.ireturn, 1) := by decide +kernel
theorem dX12_outs_0 : decode cX12_outs 0 = .ok (.aload_n 0, 1) := by decide +kernel
theorem dX12_outs_1 : decode cX12_outs 1 = .ok (.iconst 0, 1) := by decide +kernel
theorem dX12_outs_2 : decode cX12_outs 2 = .ok (.putfield 188, 3) := by decide +kernel
theorem dX12_outs_5 : decode cX12_outs 5 = .ok (.aload_n 0, 1) := by decide +kernel
theorem dX12_outs_6 : decode cX12_outs 6 = .ok (.getfield 296, 3) := by decide +kernel
theorem dX12_outs_9 : decode cX12_outs 9 = .ok (.ireturn, 1) := by decide +kernel
theorem dX12_code_0 : decode cX12_code 0 = .ok (.aload_n 0, 1) := by decide +kernel
theorem dX12_code_1 : decode cX12_code 1 = .ok (.iconst 0, 1) := by decide +kernel
theorem dX12_code_2 : decode cX12_code 2 = .ok (.putfield 188, 3) := by decide +kernel
theorem dX12_code_5 : decode cX12_code 5 = .ok (.aload_n 0, 1) := by decide +kernel
theorem dX12_code_6 : decode cX12_code 6 = .ok (.iload_n 1, 1) := by decide +kernel
theorem dX12_code_7 : decode cX12_code 7 = .ok (.ifCond .lt 11, 3) := by decide +kernel
theorem dX12_code_10 : decode cX12_code 10 = .ok (.iload_n 1, 1) := by decide +kernel
theorem dX12_code_11 : decode cX12_code 11 = .ok (.aload_n 0, 1) := by decide +kernel
theorem dX12_code_12 : decode cX12_code 12 = .ok (.getfield 408, 3) := by decide +kernel
theorem dX12_code_15 : decode cX12_code 15 = .ok (.if_icmp .lt 7, 3) := by decide +kernel
theorem dX12_code_18 : decode cX12_code 18 = .ok (.iconst 1, 1) := by decide +kernel
theorem dX12_code_19 : decode cX12_code 19 = .ok (.goto 4, 3) := by decide +kernel
theorem dX12_code_22 : decode cX12_code 22 = .ok (.iconst 0, 1) := by decide +kernel
theorem dX12_code_23 : decode cX12_code 23 = .ok (.iconst 1, 1) := by decide +kernel
theorem dX12_code_24 : decode cX12_code 24 = .ok (.invokevirtual 357, 3) := by decide +kernel
theorem dX12_code_27 : decode cX12_code 27 = .ok (.ifCond .eq 5, 3) := by decide +kernel
theorem dX12_code_30 : decode cX12_code 30 = .ok (.iconst 0, 1) := by decide +kernel
theorem dX12_code_31 : decode cX12_code 31 = .ok (.ireturn, 1) := by decide +kernel
theorem dX12_code_32 : decode cX12_code 32 = .ok (.iload_n 2, 1) := by decide +kernel
theorem dX12_code_33 : decode cX12_code 33 = .ok (.tableswitch 100 0 4 #[35, 67, 79, 86, 93], 35) := by decide +kernel
theorem dX12_code_68 : decode cX12_code 68 = .ok (.aload_n 0, 1) := by decide +kernel
theorem dX12_code_69 : decode cX12_code 69 = .ok (.getfield 110, 3) := by decide +kernel
theorem dX12_code_72 : decode cX12_code 72 = .ok (.iload_n 1, 1) := by decide +kernel
theorem dX12_code_73 : decode cX12_code 73 = .ok (.iaload, 1) := by decide +kernel
theorem dX12_code_74 : decode cX12_code 74 = .ok (.ifCond .lt 7, 3) := by decide +kernel
theorem dX12_code_77 : decode cX12_code 77 = .ok (.iconst 1, 1) := by decide +kernel
theorem dX12_code_78 : decode cX12_code 78 = .ok (.goto 21, 3) := by decide +kernel
theorem dX12_code_81 : decode cX12_code 81 = .ok (.aload_n 0, 1) := by decide +kernel
theorem dX12_code_82 : decode cX12_code 82 = .ok (.getfield 366, 3) := by decide +kernel
theorem dX12_code_85 : decode cX12_code 85 = .ok (.aload_n 0, 1) := by decide +kernel
theorem dX12_code_86 : decode cX12_code 86 = .ok (.getfield 107, 3) := by decide +kernel
theorem dX12_code_89 : decode cX12_code 89 = .ok (.iload_n 1, 1) := by decide +kernel
theorem dX12_code_90 : decode cX12_code 90 = .ok (.iaload, 1) := by decide +kernel
theorem dX12_code_91 : decode cX12_code 91 = .ok (.if_icmp .lt 7, 3) := by decide +kernel
theorem dX12_code_94 : decode cX12_code 94 = .ok (.iconst 2, 1) := by decide +kernel
theorem dX12_code_95 : decode cX12_code 95 = .ok (.goto 4, 3) := by decide +kernel
theorem dX12_code_98 : decode cX12_code 98 = .ok (.iconst 0, 1) := by decide +kernel
theorem dX12_code_99 : decode cX12_code 99 = .ok (.ireturn, 1) := by decide +kernel
theorem dX12_code_100 : decode cX12_code 100 = .ok (.aload_n 0, 1) := by decide +kernel
theorem dX12_code_101 : decode cX12_code 101 = .ok (.getfield 70, 3) := by decide +kernel
theorem dX12_code_104 : decode cX12_code 104 = .ok (.aload_n 0, 1) := by decide +kernel
theorem dX12_code_105 : decode cX12_code 105 = .ok (.getfield 98, 3) := by decide +kernel
theorem dX12_code_108 : decode cX12_code 108 = .ok (.iload_n 1, 1) := by decide +kernel
theorem dX12_code_109 : decode cX12_code 109 = .ok (.iaload, 1) := by decide +kernel
theorem dX12_code_110 : decode cX12_code 110 = .ok (.iaload, 1) := by decide +kernel
theorem dX12_code_111 : decode cX12_code 111 = .ok (.ireturn, 1) := by decide +kernel
theorem dX12_code_112 : decode cX12_code 112 = .ok (.aload_n 0, 1) := by decide +kernel
theorem dX12_code_113 : decode cX12_code 113 = .ok (.getfield 101, 3) := by decide +kernel
theorem dX12_code_116 : decode cX12_code 116 = .ok (.iload_n 1, 1) := by decide +kernel
theorem dX12_code_117 : decode cX12_code 117 = .ok (.iaload, 1) := by decide +kernel
theorem dX12_code_118 : decode cX12_code 118 = .ok (.ireturn, 1) := by decide +kernel
theorem dX12_code_119 : decode cX12_code 119 = .ok (.aload_n 0, 1) := by decide +kernel
theorem dX12_code_120 : decode cX12_code 120 = .ok (.getfield 104, 3) := by decide +kernel
theorem dX12_code_123 : decode cX12_code 123 = .ok (.iload_n 1, 1) := by decide +kernel
theorem dX12_code_124 : decode cX12_code 124 = .ok (.iaload, 1) := by decide +kernel
theorem dX12_code_125 : decode cX12_code 125 = .ok (.ireturn, 1) := by decide +kernel
theorem dX12_code_126 : decode cX12_code 126 = .ok (.aload_n 0, 1) := by decide +kernel
theorem dX12_code_127 : decode cX12_code 127 = .ok (.getfield 110, 3) := by decide +kernel
theorem dX12_code_130 : decode cX12_code 130 = .ok (.iload_n 1, 1) := by decide +kernel
theorem dX12_code_131 : decode cX12_code 131 = .ok (.iaload, 1) := by decide +kernel
theorem dX12_code_132 : decode cX12_code 132 = .ok (.ireturn, 1) := by decide +kernel
theorem dX12_code_133 : decode cX12_code 133 = .ok (.aload_n 0, 1) := by decide +kernel
theorem dX12_code_134 : decode cX12_code 134 = .ok (.iconst 1, 1) := by decide +kernel
theorem dX12_code_135 : decode cX12_code 135 = .ok (.putfield 188, 3) := by decide +kernel
theorem dX12_code_138 : decode cX12_code 138 = .ok (.iconst 0, 1) := by decide +kernel
theorem dX12_code_139 : decode cX12_code 139 = .ok (.ireturn, 1) := by decide +kernel
theorem dX12_family_0 : decode cX12_family 0 = .ok (.aload_n 0, 1) := by decide +kernel
theorem dX12_family_1 : decode cX12_family 1 = .ok (.iconst 0, 1) := by decide +kernel
theorem dX12_family_2 : decode cX12_family 2 = .ok (.putfield 188, 3) := by decide +kernel
theorem dX12_family_5 : decode cX12_family 5 = .ok (.aload_n 0, 1) := by decide +kernel
theorem dX12_family_6 : decode cX12_family 6 = .ok (.iload_n 1, 1) := by decide +kernel
theorem dX12_family_7 : decode cX12_family 7 = .ok (.ifCond .lt 11, 3) := by decide +kernel
theorem dX12_family_10 : decode cX12_family 10 = .ok (.iload_n 1, 1) := by decide +kernel
theorem dX12_family_11 : decode cX12_family 11 = .ok (.aload_n 0, 1) := by decide +kernel
theorem dX12_family_12 : decode cX12_family 12 = .ok (.getfield 455, 3) := by decide +kernel
theorem dX12_family_15 : decode cX12_family 15 = .ok (.if_icmp .lt 7, 3) := by decide +kernel
theorem dX12_family_18 : decode cX12_family 18 = .ok (.iconst 1, 1) := by decide +kernel
theorem dX12_family_19 : decode cX12_family 19 = .ok (.goto 4, 3) := by decide +kernel
theorem dX12_family_22 : decode cX12_family 22 = .ok (.iconst 0, 1) := by decide +kernel
theorem dX12_family_23 : decode cX12_family 23 = .ok (.iconst 1, 1) := by decide +kernel
theorem dX12_family_24 : decode cX12_family 24 = .ok (.invokevirtual 357, 3) := by decide +kernel
theorem dX12_family_27 : decode cX12_family 27 = .ok (.ifCond .eq 5, 3) := by decide +kernel
theorem dX12_family_30 : decode cX12_family 30 = .ok (.iconst 0, 1) := by decide +kernel
theorem dX12_family_31 : decode cX12_family 31 = .ok (.ireturn, 1) := by decide +kernel
theorem dX12_family_32 : decode cX12_family 32 = .ok (.iload_n 2, 1) := by decide +kernel
theorem dX12_family_33 : decode cX12_family 33 = .ok (.tableswitch 132 0 5 #[39, 54, 61, 68, 75, 125], 39) := by decide +kernel
theorem dX12_family_72 : decode cX12_family 72 = .ok (.aload_n 0, 1) := by decide +kernel
theorem dX12_family_73 : decode cX12_family 73 = .ok (.getfield 125, 3) := by decide +kernel
theorem dX12_family_76 : decode cX12_family 76 = .ok (.iload_n 1, 1) := by decide +kernel
theorem dX12_family_77 : decode cX12_family 77 = .ok (.baload, 1) := by decide +kernel
theorem dX12_family_78 : decode cX12_family 78 = .ok (.ifCond .eq 7, 3) := by decide +kernel
theorem dX12_family_81 : decode cX12_family 81 = .ok (.iconst 1, 1) := by decide +kernel
theorem dX12_family_82 : decode cX12_family 82 = .ok (.goto 4, 3) := by decide +kernel
theorem dX12_family_85 : decode cX12_family 85 = .ok (.iconst 0, 1) := by decide +kernel
theorem dX12_family_86 : decode cX12_family 86 = .ok (.ireturn, 1) := by decide +kernel
theorem dX12_family_87 : decode cX12_family 87 = .ok (.aload_n 0, 1) := by decide +kernel
theorem dX12_family_88 : decode cX12_family 88 = .ok (.getfield 113, 3) := by decide +kernel
theorem dX12_family_91 : decode cX12_family 91 = .ok (.iload_n 1, 1) := by decide +kernel
theorem dX12_family_92 : decode cX12_family 92 = .ok (.iaload, 1) := by decide +kernel
theorem dX12_family_93 : decode cX12_family 93 = .ok (.ireturn, 1) := by decide +kernel
theorem dX12_family_94 : decode cX12_family 94 = .ok (.aload_n 0, 1) := by decide +kernel
theorem dX12_family_95 : decode cX12_family 95 = .ok (.getfield 116, 3) := by decide +kernel
theorem dX12_family_98 : decode cX12_family 98 = .ok (.iload_n 1, 1) := by decide +kernel
theorem dX12_family_99 : decode cX12_family 99 = .ok (.iaload, 1) := by decide +kernel
theorem dX12_family_100 : decode cX12_family 100 = .ok (.ireturn, 1) := by decide +kernel
theorem dX12_family_101 : decode cX12_family 101 = .ok (.aload_n 0, 1) := by decide +kernel
theorem dX12_family_102 : decode cX12_family 102 = .ok (.getfield 119, 3) := by decide +kernel
theorem dX12_family_105 : decode cX12_family 105 = .ok (.iload_n 1, 1) := by decide +kernel
theorem dX12_family_106 : decode cX12_family 106 = .ok (.iaload, 1) := by decide +kernel
theorem dX12_family_107 : decode cX12_family 107 = .ok (.ireturn, 1) := by decide +kernel
theorem dX12_family_108 : decode cX12_family 108 = .ok (.iconst 0, 1) := by decide +kernel
theorem dX12_family_109 : decode cX12_family 109 = .ok (.istore_n 3, 1) := by decide +kernel
theorem dX12_family_110 : decode cX12_family 110 = .ok (.iconst 0, 1) := by decide +kernel
theorem dX12_family_111 : decode cX12_family 111 = .ok (.istore 4, 2) := by decide +kernel
theorem dX12_family_113 : decode cX12_family 113 = .ok (.iload 4, 2) := by decide +kernel
theorem dX12_family_115 : decode cX12_family 115 = .ok (.aload_n 0, 1) := by decide +kernel
theorem dX12_family_116 : decode cX12_family 116 = .ok (.getfield 462, 3) := by decide +kernel
theorem dX12_family_119 : decode cX12_family 119 = .ok (.if_icmp .ge 37, 3) := by decide +kernel
theorem dX12_family_122 : decode cX12_family 122 = .ok (.iload_n 3, 1) := by decide +kernel
theorem dX12_family_123 : decode cX12_family 123 = .ok (.aload_n 0, 1) := by decide +kernel
theorem dX12_family_124 : decode cX12_family 124 = .ok (.getfield 131, 3) := by decide +kernel
theorem dX12_family_127 : decode cX12_family 127 = .ok (.iload 4, 2) := by decide +kernel
theorem dX12_family_129 : decode cX12_family 129 = .ok (.iaload, 1) := by decide +kernel
theorem dX12_family_130 : decode cX12_family 130 = .ok (.iload_n 1, 1) := by decide +kernel
theorem dX12_family_131 : decode cX12_family 131 = .ok (.if_icmp .ne 16, 3) := by decide +kernel
theorem dX12_family_134 : decode cX12_family 134 = .ok (.aload_n 0, 1) := by decide +kernel
theorem dX12_family_135 : decode cX12_family 135 = .ok (.iload 4, 2) := by decide +kernel
theorem dX12_family_137 : decode cX12_family 137 = .ok (.invokevirtual 479, 3) := by decide +kernel
theorem dX12_family_140 : decode cX12_family 140 = .ok (.ifCond .eq 7, 3) := by decide +kernel
theorem dX12_family_143 : decode cX12_family 143 = .ok (.iconst 1, 1) := by decide +kernel
theorem dX12_family_144 : decode cX12_family 144 = .ok (.goto 4, 3) := by decide +kernel
theorem dX12_family_147 : decode cX12_family 147 = .ok (.iconst 0, 1) := by decide +kernel
theorem dX12_family_148 : decode cX12_family 148 = .ok (.iadd, 1) := by decide +kernel
theorem dX12_family_149 : decode cX12_family 149 = .ok (.istore_n 3, 1) := by decide +kernel
theorem dX12_family_150 : decode cX12_family 150 = .ok (.iinc 4 1, 3) := by decide +kernel
theorem dX12_family_153 : decode cX12_family 153 = .ok (.goto (-40), 3) := by decide +kernel
theorem dX12_family_156 : decode cX12_family 156 = .ok (.iload_n 3, 1) := by decide +kernel
theorem dX12_family_157 : decode cX12_family 157 = .ok (.ireturn, 1) := by decide +kernel
theorem dX12_family_158 : decode cX12_family 158 = .ok (.aload_n 0, 1) := by decide +kernel
theorem dX12_family_159 : decode cX12_family 159 = .ok (.getfield 122, 3) := by decide +kernel
theorem dX12_family_162 : decode cX12_family 162 = .ok (.iload_n 1, 1) := by decide +kernel
theorem dX12_family_163 : decode cX12_family 163 = .ok (.iaload, 1) := by decide +kernel
theorem dX12_family_164 : decode cX12_family 164 = .ok (.ireturn, 1) := by decide +kernel
theorem dX12_family_165 : decode cX12_family 165 = .ok (.aload_n 0, 1) := by decide +kernel
theorem dX12_family_166 : decode cX12_family 166 = .ok (.iconst 1, 1) := by decide +kernel
theorem dX12_family_167 : decode cX12_family 167 = .ok (.putfield 188, 3) := by decide +kernel
theorem dX12_family_170 : decode cX12_family 170 = .ok (.iconst 0, 1) := by decide +kernel
theorem dX12_family_171 : decode cX12_family 171 = .ok (.ireturn, 1) := by decide +kernel
theorem dX12_count_0 : decode cX12_count 0 = .ok (.aload_n 0, 1) := by decide +kernel
theorem dX12_count_1 : decode cX12_count 1 = .ok (.iconst 0, 1) := by decide +kernel
theorem dX12_count_2 : decode cX12_count 2 = .ok (.putfield 188, 3) := by decide +kernel
theorem dX12_count_5 : decode cX12_count 5 = .ok (.iconst 0, 1) := by decide +kernel
theorem dX12_count_6 : decode cX12_count 6 = .ok (.istore_n 2, 1) := by decide +kernel
theorem dX12_count_7 : decode cX12_count 7 = .ok (.iload_n 1, 1) := by decide +kernel
theorem dX12_count_8 : decode cX12_count 8 = .ok (.tableswitch 184 0 11 #[64, 69, 74, 79, 84, 119, 124, 129, 134, 139, 174, 179], 64) := by decide +kernel
theorem dX12_count_72 : decode cX12_count 72 = .ok (.aload_n 0, 1) := by decide +kernel
theorem dX12_count_73 : decode cX12_count 73 = .ok (.getfield 268, 3) := by decide +kernel
theorem dX12_count_76 : decode cX12_count 76 = .ok (.ireturn, 1) := by decide +kernel
theorem dX12_count_77 : decode cX12_count 77 = .ok (.aload_n 0, 1) := by decide +kernel
theorem dX12_count_78 : decode cX12_count 78 = .ok (.getfield 257, 3) := by decide +kernel
theorem dX12_count_81 : decode cX12_count 81 = .ok (.ireturn, 1) := by decide +kernel
theorem dX12_count_82 : decode cX12_count 82 = .ok (.aload_n 0, 1) := by decide +kernel
theorem dX12_count_83 : decode cX12_count 83 = .ok (.getfield 278, 3) := by decide +kernel
theorem dX12_count_86 : decode cX12_count 86 = .ok (.ireturn, 1) := by decide +kernel
theorem dX12_count_87 : decode cX12_count 87 = .ok (.aload_n 0, 1) := by decide +kernel
theorem dX12_count_88 : decode cX12_count 88 = .ok (.getfield 394, 3) := by decide +kernel
theorem dX12_count_91 : decode cX12_count 91 = .ok (.ireturn, 1) := by decide +kernel
theorem dX12_count_92 : decode cX12_count 92 = .ok (.iconst 0, 1) := by decide +kernel
theorem dX12_count_93 : decode cX12_count 93 = .ok (.istore_n 3, 1) := by decide +kernel
theorem dX12_count_94 : decode cX12_count 94 = .ok (.iload_n 3, 1) := by decide +kernel
theorem dX12_count_95 : decode cX12_count 95 = .ok (.aload_n 0, 1) := by decide +kernel
theorem dX12_count_96 : decode cX12_count 96 = .ok (.getfield 394, 3) := by decide +kernel
theorem dX12_count_99 : decode cX12_count 99 = .ok (.if_icmp .ge 26, 3) := by decide +kernel
theorem dX12_count_102 : decode cX12_count 102 = .ok (.iload_n 2, 1) := by decide +kernel
theorem dX12_count_103 : decode cX12_count 103 = .ok (.aload_n 0, 1) := by decide +kernel
theorem dX12_count_104 : decode cX12_count 104 = .ok (.getfield 79, 3) := by decide +kernel
theorem dX12_count_107 : decode cX12_count 107 = .ok (.iload_n 3, 1) := by decide +kernel
theorem dX12_count_108 : decode cX12_count 108 = .ok (.baload, 1) := by decide +kernel
theorem dX12_count_109 : decode cX12_count 109 = .ok (.ifCond .eq 7, 3) := by decide +kernel
theorem dX12_count_112 : decode cX12_count 112 = .ok (.iconst 1, 1) := by decide +kernel
theorem dX12_count_113 : decode cX12_count 113 = .ok (.goto 4, 3) := by decide +kernel
theorem dX12_count_116 : decode cX12_count 116 = .ok (.iconst 0, 1) := by decide +kernel
theorem dX12_count_117 : decode cX12_count 117 = .ok (.iadd, 1) := by decide +kernel
theorem dX12_count_118 : decode cX12_count 118 = .ok (.istore_n 2, 1) := by decide +kernel
theorem dX12_count_119 : decode cX12_count 119 = .ok (.iinc 3 1, 3) := by decide +kernel
theorem dX12_count_122 : decode cX12_count 122 = .ok (.goto (-28), 3) := by decide +kernel
theorem dX12_count_125 : decode cX12_count 125 = .ok (.iload_n 2, 1) := by decide +kernel
theorem dX12_count_126 : decode cX12_count 126 = .ok (.ireturn, 1) := by decide +kernel
theorem dX12_count_127 : decode cX12_count 127 = .ok (.aload_n 0, 1) := by decide +kernel
theorem dX12_count_128 : decode cX12_count 128 = .ok (.getfield 408, 3) := by decide +kernel
theorem dX12_count_131 : decode cX12_count 131 = .ok (.ireturn, 1) := by decide +kernel
theorem dX12_count_132 : decode cX12_count 132 = .ok (.aload_n 0, 1) := by decide +kernel
theorem dX12_count_133 : decode cX12_count 133 = .ok (.getfield 455, 3) := by decide +kernel
theorem dX12_count_136 : decode cX12_count 136 = .ok (.ireturn, 1) := by decide +kernel
theorem dX12_count_137 : decode cX12_count 137 = .ok (.aload_n 0, 1) := by decide +kernel
theorem dX12_count_138 : decode cX12_count 138 = .ok (.getfield 462, 3) := by decide +kernel
theorem dX12_count_141 : decode cX12_count 141 = .ok (.ireturn, 1) := by decide +kernel
theorem dX12_count_142 : decode cX12_count 142 = .ok (.aload_n 0, 1) := by decide +kernel
theorem dX12_count_143 : decode cX12_count 143 = .ok (.getfield 465, 3) := by decide +kernel
theorem dX12_count_146 : decode cX12_count 146 = .ok (.ireturn, 1) := by decide +kernel
theorem dX12_count_147 : decode cX12_count 147 = .ok (.iconst 0, 1) := by decide +kernel
theorem dX12_count_148 : decode cX12_count 148 = .ok (.istore_n 3, 1) := by decide +kernel
theorem dX12_count_149 : decode cX12_count 149 = .ok (.iload_n 3, 1) := by decide +kernel
theorem dX12_count_150 : decode cX12_count 150 = .ok (.aload_n 0, 1) := by decide +kernel
theorem dX12_count_151 : decode cX12_count 151 = .ok (.getfield 455, 3) := by decide +kernel
theorem dX12_count_154 : decode cX12_count 154 = .ok (.if_icmp .ge 26, 3) := by decide +kernel
theorem dX12_count_157 : decode cX12_count 157 = .ok (.iload_n 2, 1) := by decide +kernel
theorem dX12_count_158 : decode cX12_count 158 = .ok (.aload_n 0, 1) := by decide +kernel
theorem dX12_count_159 : decode cX12_count 159 = .ok (.getfield 125, 3) := by decide +kernel
theorem dX12_count_162 : decode cX12_count 162 = .ok (.iload_n 3, 1) := by decide +kernel
theorem dX12_count_163 : decode cX12_count 163 = .ok (.baload, 1) := by decide +kernel
theorem dX12_count_164 : decode cX12_count 164 = .ok (.ifCond .eq 7, 3) := by decide +kernel
theorem dX12_count_167 : decode cX12_count 167 = .ok (.iconst 1, 1) := by decide +kernel
theorem dX12_count_168 : decode cX12_count 168 = .ok (.goto 4, 3) := by decide +kernel
theorem dX12_count_171 : decode cX12_count 171 = .ok (.iconst 0, 1) := by decide +kernel
theorem dX12_count_172 : decode cX12_count 172 = .ok (.iadd, 1) := by decide +kernel
theorem dX12_count_173 : decode cX12_count 173 = .ok (.istore_n 2, 1) := by decide +kernel
theorem dX12_count_174 : decode cX12_count 174 = .ok (.iinc 3 1, 3) := by decide +kernel
theorem dX12_count_177 : decode cX12_count 177 = .ok (.goto (-28), 3) := by decide +kernel
theorem dX12_count_180 : decode cX12_count 180 = .ok (.iload_n 2, 1) := by decide +kernel
theorem dX12_count_181 : decode cX12_count 181 = .ok (.ireturn, 1) := by decide +kernel
theorem dX12_count_182 : decode cX12_count 182 = .ok (.aload_n 0, 1) := by decide +kernel
theorem dX12_count_183 : decode cX12_count 183 = .ok (.getfield 366, 3) := by decide +kernel
theorem dX12_count_186 : decode cX12_count 186 = .ok (.ireturn, 1) := by decide +kernel
theorem dX12_count_187 : decode cX12_count 187 = .ok (.aload_n 0, 1) := by decide +kernel
theorem dX12_count_188 : decode cX12_count 188 = .ok (.getfield 348, 3) := by decide +kernel
theorem dX12_count_191 : decode cX12_count 191 = .ok (.ireturn, 1) := by decide +kernel
theorem dX12_count_192 : decode cX12_count 192 = .ok (.iconst (-1), 1) := by decide +kernel
theorem dX12_count_193 : decode cX12_count 193 = .ok (.ireturn, 1) := by decide +kernel
