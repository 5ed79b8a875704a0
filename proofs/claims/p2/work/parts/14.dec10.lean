theorem d_L_law_126 : decode code 126 = .ok (.iaload, 1) := by decide +kernel
theorem d_L_law_127 : decode code 127 = .ok (.i2c, 1) := by decide +kernel
theorem d_L_law_128 : decode code 128 = .ok (.invokevirtual 66, 3) := by decide +kernel
theorem d_L_law_131 : decode code 131 = .ok (.aload_n 2, 1) := by decide +kernel
theorem d_L_law_132 : decode code 132 = .ok (.aload_n 0, 1) := by decide +kernel
theorem d_L_law_133 : decode code 133 = .ok (.iload 4, 2) := by decide +kernel
theorem d_L_law_135 : decode code 135 = .ok (.iconst 1, 1) := by decide +kernel
theorem d_L_law_136 : decode code 136 = .ok (.iadd, 1) := by decide +kernel
theorem d_L_law_137 : decode code 137 = .ok (.iaload, 1) := by decide +kernel
theorem d_L_law_138 : decode code 138 = .ok (.i2c, 1) := by decide +kernel
theorem d_L_law_139 : decode code 139 = .ok (.invokevirtual 70, 3) := by decide +kernel
theorem d_L_law_142 : decode code 142 = .ok (.if_icmp .eq 379, 3) := by decide +kernel
theorem d_L_law_145 : decode code 145 = .ok (.iconst 0, 1) := by decide +kernel
theorem d_L_law_146 : decode code 146 = .ok (.ireturn, 1) := by decide +kernel
theorem d_L_law_147 : decode code 147 = .ok (.aload_n 1, 1) := by decide +kernel
theorem d_L_law_148 : decode code 148 = .ok (.invokevirtual 71, 3) := by decide +kernel
theorem d_L_law_151 : decode code 151 = .ok (.pop, 1) := by decide +kernel
theorem d_L_law_152 : decode code 152 = .ok (.aload_n 2, 1) := by decide +kernel
theorem d_L_law_153 : decode code 153 = .ok (.invokevirtual 74, 3) := by decide +kernel
theorem d_L_law_156 : decode code 156 = .ok (.pop, 1) := by decide +kernel
theorem d_L_law_157 : decode code 157 = .ok (.goto 364, 3) := by decide +kernel
theorem d_L_law_160 : decode code 160 = .ok (.aload_n 1, 1) := by decide +kernel
theorem d_L_law_161 : decode code 161 = .ok (.aload_n 3, 1) := by decide +kernel
theorem d_L_law_162 : decode code 162 = .ok (.invokestatic 75, 3) := by decide +kernel
theorem d_L_law_165 : decode code 165 = .ok (.istore 5, 2) := by decide +kernel
theorem d_L_law_167 : decode code 167 = .ok (.aload_n 2, 1) := by decide +kernel
theorem d_L_law_168 : decode code 168 = .ok (.invokevirtual 80, 3) := by decide +kernel
theorem d_L_law_171 : decode code 171 = .ok (.istore 6, 2) := by decide +kernel
theorem d_L_law_173 : decode code 173 = .ok (.goto 348, 3) := by decide +kernel
theorem d_L_law_176 : decode code 176 = .ok (.aload_n 1, 1) := by decide +kernel
theorem d_L_law_177 : decode code 177 = .ok (.aload_n 0, 1) := by decide +kernel
theorem d_L_law_178 : decode code 178 = .ok (.iload 4, 2) := by decide +kernel
theorem d_L_law_180 : decode code 180 = .ok (.iconst 1, 1) := by decide +kernel
theorem d_L_law_181 : decode code 181 = .ok (.iadd, 1) := by decide +kernel
theorem d_L_law_182 : decode code 182 = .ok (.iaload, 1) := by decide +kernel
theorem d_L_law_183 : decode code 183 = .ok (.aload_n 3, 1) := by decide +kernel
theorem d_L_law_184 : decode code 184 = .ok (.invokestatic 81, 3) := by decide +kernel
theorem d_L_law_187 : decode code 187 = .ok (.istore 5, 2) := by decide +kernel
theorem d_L_law_189 : decode code 189 = .ok (.aload_n 2, 1) := by decide +kernel
theorem d_L_law_190 : decode code 190 = .ok (.aload_n 0, 1) := by decide +kernel
theorem d_L_law_191 : decode code 191 = .ok (.iload 4, 2) := by decide +kernel
theorem d_L_law_193 : decode code 193 = .ok (.iconst 1, 1) := by decide +kernel
theorem d_L_law_194 : decode code 194 = .ok (.iadd, 1) := by decide +kernel
theorem d_L_law_195 : decode code 195 = .ok (.iaload, 1) := by decide +kernel
theorem d_L_law_196 : decode code 196 = .ok (.invokevirtual 84, 3) := by decide +kernel
theorem d_L_law_199 : decode code 199 = .ok (.istore 6, 2) := by decide +kernel
theorem d_L_law_201 : decode code 201 = .ok (.goto 320, 3) := by decide +kernel
theorem d_L_law_204 : decode code 204 = .ok (.aload_n 1, 1) := by decide +kernel
theorem d_L_law_205 : decode code 205 = .ok (.aload_n 0, 1) := by decide +kernel
theorem d_L_law_206 : decode code 206 = .ok (.iload 4, 2) := by decide +kernel
theorem d_L_law_208 : decode code 208 = .ok (.iconst 1, 1) := by decide +kernel
theorem d_L_law_209 : decode code 209 = .ok (.iadd, 1) := by decide +kernel
theorem d_L_law_210 : decode code 210 = .ok (.iaload, 1) := by decide +kernel
theorem d_L_law_211 : decode code 211 = .ok (.aload_n 0, 1) := by decide +kernel
theorem d_L_law_212 : decode code 212 = .ok (.iload 4, 2) := by decide +kernel
theorem d_L_law_214 : decode code 214 = .ok (.iconst 2, 1) := by decide +kernel
theorem d_L_law_215 : decode code 215 = .ok (.iadd, 1) := by decide +kernel
theorem d_L_law_216 : decode code 216 = .ok (.iaload, 1) := by decide +kernel
theorem d_L_law_217 : decode code 217 = .ok (.ifCond .eq 7, 3) := by decide +kernel
theorem d_L_law_220 : decode code 220 = .ok (.iconst 1, 1) := by decide +kernel
theorem d_L_law_221 : decode code 221 = .ok (.goto 4, 3) := by decide +kernel
theorem d_L_law_224 : decode code 224 = .ok (.iconst 0, 1) := by decide +kernel
theorem d_L_law_225 : decode code 225 = .ok (.invokestatic 85, 3) := by decide +kernel
theorem d_L_law_228 : decode code 228 = .ok (.istore 5, 2) := by decide +kernel
theorem d_L_law_230 : decode code 230 = .ok (.aload_n 2, 1) := by decide +kernel
theorem d_L_law_231 : decode code 231 = .ok (.aload_n 0, 1) := by decide +kernel
theorem d_L_law_232 : decode code 232 = .ok (.iload 4, 2) := by decide +kernel
theorem d_L_law_234 : decode code 234 = .ok (.iconst 1, 1) := by decide +kernel
theorem d_L_law_235 : decode code 235 = .ok (.iadd, 1) := by decide +kernel
theorem d_L_law_236 : decode code 236 = .ok (.iaload, 1) := by decide +kernel
theorem d_L_law_237 : decode code 237 = .ok (.aload_n 0, 1) := by decide +kernel
theorem d_L_law_238 : decode code 238 = .ok (.iload 4, 2) := by decide +kernel
theorem d_L_law_240 : decode code 240 = .ok (.iconst 2, 1) := by decide +kernel
theorem d_L_law_241 : decode code 241 = .ok (.iadd, 1) := by decide +kernel
theorem d_L_law_242 : decode code 242 = .ok (.iaload, 1) := by decide +kernel
theorem d_L_law_243 : decode code 243 = .ok (.ifCond .eq 7, 3) := by decide +kernel
theorem d_L_law_246 : decode code 246 = .ok (.iconst 1, 1) := by decide +kernel
theorem d_L_law_247 : decode code 247 = .ok (.goto 4, 3) := by decide +kernel
theorem d_L_law_250 : decode code 250 = .ok (.iconst 0, 1) := by decide +kernel
theorem d_L_law_251 : decode code 251 = .ok (.invokevirtual 88, 3) := by decide +kernel
theorem d_L_law_254 : decode code 254 = .ok (.goto 267, 3) := by decide +kernel
theorem d_L_law_257 : decode code 257 = .ok (.aload_n 1, 1) := by decide +kernel
theorem d_L_law_258 : decode code 258 = .ok (.invokestatic 89, 3) := by decide +kernel
theorem d_L_law_261 : decode code 261 = .ok (.istore 5, 2) := by decide +kernel
theorem d_L_law_263 : decode code 263 = .ok (.aload_n 2, 1) := by decide +kernel
theorem d_L_law_264 : decode code 264 = .ok (.invokevirtual 92, 3) := by decide +kernel
theorem d_L_law_267 : decode code 267 = .ok (.goto 254, 3) := by decide +kernel
theorem d_L_law_270 : decode code 270 = .ok (.aload_n 1, 1) := by decide +kernel
theorem d_L_law_271 : decode code 271 = .ok (.invokevirtual 93, 3) := by decide +kernel
theorem d_L_law_274 : decode code 274 = .ok (.pop, 1) := by decide +kernel
theorem d_L_law_275 : decode code 275 = .ok (.aload_n 2, 1) := by decide +kernel
theorem d_L_law_276 : decode code 276 = .ok (.invokevirtual 96, 3) := by decide +kernel
theorem d_L_law_279 : decode code 279 = .ok (.pop, 1) := by decide +kernel
theorem d_L_law_280 : decode code 280 = .ok (.goto 241, 3) := by decide +kernel
theorem d_L_law_283 : decode code 283 = .ok (.aload_n 1, 1) := by decide +kernel
theorem d_L_law_284 : decode code 284 = .ok (.aload_n 0, 1) := by decide +kernel
theorem d_L_law_285 : decode code 285 = .ok (.iload 4, 2) := by decide +kernel
theorem d_L_law_287 : decode code 287 = .ok (.iconst 1, 1) := by decide +kernel
theorem d_L_law_288 : decode code 288 = .ok (.iadd, 1) := by decide +kernel
theorem d_L_law_289 : decode code 289 = .ok (.iaload, 1) := by decide +kernel
theorem d_L_law_290 : decode code 290 = .ok (.aload_n 3, 1) := by decide +kernel
theorem d_L_law_291 : decode code 291 = .ok (.invokestatic 97, 3) := by decide +kernel
theorem d_L_law_294 : decode code 294 = .ok (.istore 5, 2) := by decide +kernel
theorem d_L_law_296 : decode code 296 = .ok (.aload_n 2, 1) := by decide +kernel
theorem d_L_law_297 : decode code 297 = .ok (.aload_n 0, 1) := by decide +kernel
theorem d_L_law_298 : decode code 298 = .ok (.iload 4, 2) := by decide +kernel
theorem d_L_law_300 : decode code 300 = .ok (.iconst 1, 1) := by decide +kernel
theorem d_L_law_301 : decode code 301 = .ok (.iadd, 1) := by decide +kernel
theorem d_L_law_302 : decode code 302 = .ok (.iaload, 1) := by decide +kernel
theorem d_L_law_303 : decode code 303 = .ok (.invokevirtual 99, 3) := by decide +kernel
theorem d_L_law_306 : decode code 306 = .ok (.istore 6, 2) := by decide +kernel
theorem d_L_law_308 : decode code 308 = .ok (.goto 213, 3) := by decide +kernel
theorem d_L_law_311 : decode code 311 = .ok (.aload_n 1, 1) := by decide +kernel
theorem d_L_law_312 : decode code 312 = .ok (.aload_n 3, 1) := by decide +kernel
theorem d_L_law_313 : decode code 313 = .ok (.invokestatic 100, 3) := by decide +kernel
theorem d_L_law_316 : decode code 316 = .ok (.istore 5, 2) := by decide +kernel
theorem d_L_law_318 : decode code 318 = .ok (.aload_n 2, 1) := by decide +kernel
theorem d_L_law_319 : decode code 319 = .ok (.invokevirtual 102, 3) := by decide +kernel
theorem d_L_law_322 : decode code 322 = .ok (.istore 6, 2) := by decide +kernel
theorem d_L_law_324 : decode code 324 = .ok (.goto 197, 3) := by decide +kernel
theorem d_L_law_327 : decode code 327 = .ok (.aload_n 1, 1) := by decide +kernel
theorem d_L_law_328 : decode code 328 = .ok (.aload_n 3, 1) := by decide +kernel
theorem d_L_law_329 : decode code 329 = .ok (.invokestatic 103, 3) := by decide +kernel
theorem d_L_law_332 : decode code 332 = .ok (.istore 5, 2) := by decide +kernel
theorem d_L_law_334 : decode code 334 = .ok (.aload_n 2, 1) := by decide +kernel
theorem d_L_law_335 : decode code 335 = .ok (.invokevirtual 105, 3) := by decide +kernel
theorem d_L_law_338 : decode code 338 = .ok (.istore 6, 2) := by decide +kernel
theorem d_L_law_340 : decode code 340 = .ok (.goto 181, 3) := by decide +kernel
theorem d_L_law_343 : decode code 343 = .ok (.aload_n 1, 1) := by decide +kernel
theorem d_L_law_344 : decode code 344 = .ok (.aload_n 3, 1) := by decide +kernel
theorem d_L_law_345 : decode code 345 = .ok (.invokestatic 106, 3) := by decide +kernel
theorem d_L_law_348 : decode code 348 = .ok (.istore 5, 2) := by decide +kernel
theorem d_L_law_350 : decode code 350 = .ok (.aload_n 2, 1) := by decide +kernel
theorem d_L_law_351 : decode code 351 = .ok (.invokevirtual 108, 3) := by decide +kernel
theorem d_L_law_354 : decode code 354 = .ok (.istore 6, 2) := by decide +kernel
theorem d_L_law_356 : decode code 356 = .ok (.goto 165, 3) := by decide +kernel
theorem d_L_law_359 : decode code 359 = .ok (.aload_n 1, 1) := by decide +kernel
theorem d_L_law_360 : decode code 360 = .ok (.aload_n 0, 1) := by decide +kernel
theorem d_L_law_361 : decode code 361 = .ok (.iload 4, 2) := by decide +kernel
theorem d_L_law_363 : decode code 363 = .ok (.iconst 1, 1) := by decide +kernel
theorem d_L_law_364 : decode code 364 = .ok (.iadd, 1) := by decide +kernel
theorem d_L_law_365 : decode code 365 = .ok (.iaload, 1) := by decide +kernel
theorem d_L_law_366 : decode code 366 = .ok (.invokestatic 109, 3) := by decide +kernel
theorem d_L_law_369 : decode code 369 = .ok (.istore 5, 2) := by decide +kernel
theorem d_L_law_371 : decode code 371 = .ok (.aload_n 2, 1) := by decide +kernel
theorem d_L_law_372 : decode code 372 = .ok (.aload_n 0, 1) := by decide +kernel
theorem d_L_law_373 : decode code 373 = .ok (.iload 4, 2) := by decide +kernel
theorem d_L_law_375 : decode code 375 = .ok (.iconst 1, 1) := by decide +kernel
theorem d_L_law_376 : decode code 376 = .ok (.iadd, 1) := by decide +kernel
theorem d_L_law_377 : decode code 377 = .ok (.iaload, 1) := by decide +kernel
theorem d_L_law_378 : decode code 378 = .ok (.invokevirtual 112, 3) := by decide +kernel
theorem d_L_law_381 : decode code 381 = .ok (.goto 140, 3) := by decide +kernel
theorem d_L_law_384 : decode code 384 = .ok (.aload_n 1, 1) := by decide +kernel
theorem d_L_law_385 : decode code 385 = .ok (.invokevirtual 113, 3) := by decide +kernel
theorem d_L_law_388 : decode code 388 = .ok (.pop, 1) := by decide +kernel
theorem d_L_law_389 : decode code 389 = .ok (.aload_n 2, 1) := by decide +kernel
theorem d_L_law_390 : decode code 390 = .ok (.invokevirtual 116, 3) := by decide +kernel
theorem d_L_law_393 : decode code 393 = .ok (.pop, 1) := by decide +kernel
theorem d_L_law_394 : decode code 394 = .ok (.goto 127, 3) := by decide +kernel
theorem d_L_law_397 : decode code 397 = .ok (.aload_n 1, 1) := by decide +kernel
theorem d_L_law_398 : decode code 398 = .ok (.aload_n 0, 1) := by decide +kernel
theorem d_L_law_399 : decode code 399 = .ok (.iload 4, 2) := by decide +kernel
theorem d_L_law_401 : decode code 401 = .ok (.iconst 1, 1) := by decide +kernel
theorem d_L_law_402 : decode code 402 = .ok (.iadd, 1) := by decide +kernel
theorem d_L_law_403 : decode code 403 = .ok (.iaload, 1) := by decide +kernel
theorem d_L_law_404 : decode code 404 = .ok (.aload_n 3, 1) := by decide +kernel
theorem d_L_law_405 : decode code 405 = .ok (.invokestatic 117, 3) := by decide +kernel
theorem d_L_law_408 : decode code 408 = .ok (.istore 5, 2) := by decide +kernel
theorem d_L_law_410 : decode code 410 = .ok (.aload_n 2, 1) := by decide +kernel
theorem d_L_law_411 : decode code 411 = .ok (.aload_n 0, 1) := by decide +kernel
theorem d_L_law_412 : decode code 412 = .ok (.iload 4, 2) := by decide +kernel
theorem d_L_law_414 : decode code 414 = .ok (.iconst 1, 1) := by decide +kernel
theorem d_L_law_415 : decode code 415 = .ok (.iadd, 1) := by decide +kernel
theorem d_L_law_416 : decode code 416 = .ok (.iaload, 1) := by decide +kernel
theorem d_L_law_417 : decode code 417 = .ok (.invokevirtual 119, 3) := by decide +kernel
theorem d_L_law_420 : decode code 420 = .ok (.istore 6, 2) := by decide +kernel
theorem d_L_law_422 : decode code 422 = .ok (.goto 99, 3) := by decide +kernel
theorem d_L_law_425 : decode code 425 = .ok (.aload_n 1, 1) := by decide +kernel
theorem d_L_law_426 : decode code 426 = .ok (.aload_n 0, 1) := by decide +kernel
theorem d_L_law_427 : decode code 427 = .ok (.iload 4, 2) := by decide +kernel
theorem d_L_law_429 : decode code 429 = .ok (.iconst 1, 1) := by decide +kernel
theorem d_L_law_430 : decode code 430 = .ok (.iadd, 1) := by decide +kernel
theorem d_L_law_431 : decode code 431 = .ok (.iaload, 1) := by decide +kernel
theorem d_L_law_432 : decode code 432 = .ok (.aload_n 0, 1) := by decide +kernel
theorem d_L_law_433 : decode code 433 = .ok (.iload 4, 2) := by decide +kernel
theorem d_L_law_435 : decode code 435 = .ok (.iconst 2, 1) := by decide +kernel
theorem d_L_law_436 : decode code 436 = .ok (.iadd, 1) := by decide +kernel
theorem d_L_law_437 : decode code 437 = .ok (.iaload, 1) := by decide +kernel
theorem d_L_law_438 : decode code 438 = .ok (.aload_n 3, 1) := by decide +kernel
theorem d_L_law_439 : decode code 439 = .ok (.invokestatic 120, 3) := by decide +kernel
theorem d_L_law_442 : decode code 442 = .ok (.istore 5, 2) := by decide +kernel
theorem d_L_law_444 : decode code 444 = .ok (.aload_n 2, 1) := by decide +kernel
theorem d_L_law_445 : decode code 445 = .ok (.aload_n 0, 1) := by decide +kernel
theorem d_L_law_446 : decode code 446 = .ok (.iload 4, 2) := by decide +kernel
theorem d_L_law_448 : decode code 448 = .ok (.iconst 1, 1) := by decide +kernel
theorem d_L_law_449 : decode code 449 = .ok (.iadd, 1) := by decide +kernel
theorem d_L_law_450 : decode code 450 = .ok (.iaload, 1) := by decide +kernel
theorem d_L_law_451 : decode code 451 = .ok (.aload_n 0, 1) := by decide +kernel
theorem d_L_law_452 : decode code 452 = .ok (.iload 4, 2) := by decide +kernel
theorem d_L_law_454 : decode code 454 = .ok (.iconst 2, 1) := by decide +kernel
theorem d_L_law_455 : decode code 455 = .ok (.iadd, 1) := by decide +kernel
theorem d_L_law_456 : decode code 456 = .ok (.iaload, 1) := by decide +kernel
theorem d_L_law_457 : decode code 457 = .ok (.invokevirtual 123, 3) := by decide +kernel
theorem d_L_law_460 : decode code 460 = .ok (.istore 6, 2) := by decide +kernel
theorem d_L_law_462 : decode code 462 = .ok (.goto 59, 3) := by decide +kernel
theorem d_L_law_465 : decode code 465 = .ok (.aload_n 1, 1) := by decide +kernel
theorem d_L_law_466 : decode code 466 = .ok (.aload_n 0, 1) := by decide +kernel
theorem d_L_law_467 : decode code 467 = .ok (.iload 4, 2) := by decide +kernel
theorem d_L_law_469 : decode code 469 = .ok (.iconst 1, 1) := by decide +kernel
theorem d_L_law_470 : decode code 470 = .ok (.iadd, 1) := by decide +kernel
theorem d_L_law_471 : decode code 471 = .ok (.iaload, 1) := by decide +kernel
theorem d_L_law_472 : decode code 472 = .ok (.aload_n 3, 1) := by decide +kernel
theorem d_L_law_473 : decode code 473 = .ok (.invokestatic 124, 3) := by decide +kernel
theorem d_L_law_476 : decode code 476 = .ok (.istore 5, 2) := by decide +kernel
theorem d_L_law_478 : decode code 478 = .ok (.aload_n 2, 1) := by decide +kernel
theorem d_L_law_479 : decode code 479 = .ok (.aload_n 0, 1) := by decide +kernel
theorem d_L_law_480 : decode code 480 = .ok (.iload 4, 2) := by decide +kernel
theorem d_L_law_482 : decode code 482 = .ok (.iconst 1, 1) := by decide +kernel
theorem d_L_law_483 : decode code 483 = .ok (.iadd, 1) := by decide +kernel
theorem d_L_law_484 : decode code 484 = .ok (.iaload, 1) := by decide +kernel
theorem d_L_law_485 : decode code 485 = .ok (.invokevirtual 126, 3) := by decide +kernel
theorem d_L_law_488 : decode code 488 = .ok (.istore 6, 2) := by decide +kernel
theorem d_L_law_490 : decode code 490 = .ok (.goto 31, 3) := by decide +kernel
theorem d_L_law_493 : decode code 493 = .ok (.aload_n 1, 1) := by decide +kernel
theorem d_L_law_494 : decode code 494 = .ok (.aload_n 0, 1) := by decide +kernel
theorem d_L_law_495 : decode code 495 = .ok (.iload 4, 2) := by decide +kernel
theorem d_L_law_497 : decode code 497 = .ok (.iconst 1, 1) := by decide +kernel
theorem d_L_law_498 : decode code 498 = .ok (.iadd, 1) := by decide +kernel
theorem d_L_law_499 : decode code 499 = .ok (.iaload, 1) := by decide +kernel
theorem d_L_law_500 : decode code 500 = .ok (.aload_n 3, 1) := by decide +kernel
theorem d_L_law_501 : decode code 501 = .ok (.invokestatic 127, 3) := by decide +kernel
theorem d_L_law_504 : decode code 504 = .ok (.istore 5, 2) := by decide +kernel
theorem d_L_law_506 : decode code 506 = .ok (.aload_n 2, 1) := by decide +kernel
theorem d_L_law_507 : decode code 507 = .ok (.aload_n 0, 1) := by decide +kernel
theorem d_L_law_508 : decode code 508 = .ok (.iload 4, 2) := by decide +kernel
theorem d_L_law_510 : decode code 510 = .ok (.iconst 1, 1) := by decide +kernel
theorem d_L_law_511 : decode code 511 = .ok (.iadd, 1) := by decide +kernel
theorem d_L_law_512 : decode code 512 = .ok (.iaload, 1) := by decide +kernel
theorem d_L_law_513 : decode code 513 = .ok (.invokevirtual 129, 3) := by decide +kernel
theorem d_L_law_516 : decode code 516 = .ok (.istore 6, 2) := by decide +kernel
theorem d_L_law_518 : decode code 518 = .ok (.goto 3, 3) := by decide +kernel
theorem d_L_law_521 : decode code 521 = .ok (.iinc 4 3, 3) := by decide +kernel
theorem d_L_law_524 : decode code 524 = .ok (.goto (-501), 3) := by decide +kernel
theorem d_L_law_527 : decode code 527 = .ok (.iconst 1, 1) := by decide +kernel
theorem d_L_law_528 : decode code 528 = .ok (.ireturn, 1) := by decide +kernel
theorem d_D_init_0 : decode prog_1_method_1_code 0 = .ok (.aload_n 0, 1) := by decide +kernel
theorem d_D_init_1 : decode prog_1_method_1_code 1 = .ok (.invokespecial 1, 3) := by decide +kernel
theorem d_D_init_4 : decode prog_1_method_1_code 4 = .ok (.aload_n 0, 1) := by decide +kernel
theorem d_D_init_5 : decode prog_1_method_1_code 5 = .ok (.bipush 24, 2) := by decide +kernel
theorem d_D_init_7 : decode prog_1_method_1_code 7 = .ok (.newarray .char, 2) := by decide +kernel
theorem d_D_init_9 : decode prog_1_method_1_code 9 = .ok (.putfield 9, 3) := by decide +kernel
theorem d_D_init_12 : decode prog_1_method_1_code 12 = .ok (.aload_n 0, 1) := by decide +kernel
theorem d_D_init_13 : decode prog_1_method_1_code 13 = .ok (.bipush 40, 2) := by decide +kernel
theorem d_D_init_15 : decode prog_1_method_1_code 15 = .ok (.anewarray 13, 3) := by decide +kernel
theorem d_D_init_18 : decode prog_1_method_1_code 18 = .ok (.putfield 15, 3) := by decide +kernel
theorem d_D_init_21 : decode prog_1_method_1_code 21 = .ok (.aload_n 0, 1) := by decide +kernel
theorem d_D_init_22 : decode prog_1_method_1_code 22 = .ok (.iconst 0, 1) := by decide +kernel
theorem d_D_init_23 : decode prog_1_method_1_code 23 = .ok (.newarray .char, 2) := by decide +kernel
theorem d_D_init_25 : decode prog_1_method_1_code 25 = .ok (.putfield 19, 3) := by decide +kernel
theorem d_D_init_28 : decode prog_1_method_1_code 28 = .ok (.aload_n 0, 1) := by decide +kernel
theorem d_D_init_29 : decode prog_1_method_1_code 29 = .ok (.getfield 15, 3) := by decide +kernel
theorem d_D_init_32 : decode prog_1_method_1_code 32 = .ok (.iconst 0, 1) := by decide +kernel
theorem d_D_init_33 : decode prog_1_method_1_code 33 = .ok (.new 13, 3) := by decide +kernel
theorem d_D_init_36 : decode prog_1_method_1_code 36 = .ok (.dup, 1) := by decide +kernel
theorem d_D_init_37 : decode prog_1_method_1_code 37 = .ok (.aload_n 0, 1) := by decide +kernel
theorem d_D_init_38 : decode prog_1_method_1_code 38 = .ok (.getfield 19, 3) := by decide +kernel
theorem d_D_init_41 : decode prog_1_method_1_code 41 = .ok (.iconst 0, 1) := by decide +kernel
theorem d_D_init_42 : decode prog_1_method_1_code 42 = .ok (.iconst (-1), 1) := by decide +kernel
theorem d_D_init_43 : decode prog_1_method_1_code 43 = .ok (.invokespecial 22, 3) := by decide +kernel
theorem d_D_init_46 : decode prog_1_method_1_code 46 = .ok (.aastore, 1) := by decide +kernel
theorem d_D_init_47 : decode prog_1_method_1_code 47 = .ok (.aload_n 0, 1) := by decide +kernel
theorem d_D_init_48 : decode prog_1_method_1_code 48 = .ok (.iconst 1, 1) := by decide +kernel
theorem d_D_init_49 : decode prog_1_method_1_code 49 = .ok (.putfield 25, 3) := by decide +kernel
theorem d_D_init_52 : decode prog_1_method_1_code 52 = .ok (.aload_n 0, 1) := by decide +kernel
theorem d_D_init_53 : decode prog_1_method_1_code 53 = .ok (.iconst (-1), 1) := by decide +kernel
theorem d_D_init_54 : decode prog_1_method_1_code 54 = .ok (.putfield 29, 3) := by decide +kernel
theorem d_D_init_57 : decode prog_1_method_1_code 57 = .ok (.aload_n 0, 1) := by decide +kernel
theorem d_D_init_58 : decode prog_1_method_1_code 58 = .ok (.new 32, 3) := by decide +kernel
theorem d_D_init_61 : decode prog_1_method_1_code 61 = .ok (.dup, 1) := by decide +kernel
theorem d_D_init_62 : decode prog_1_method_1_code 62 = .ok (.invokespecial 34, 3) := by decide +kernel
theorem d_P_init_0 : decode prog_3_method_1_code 0 = .ok (.aload_n 0, 1) := by decide +kernel
theorem d_P_init_1 : decode prog_3_method_1_code 1 = .ok (.invokespecial 3, 3) := by decide +kernel
theorem d_P_init_4 : decode prog_3_method_1_code 4 = .ok (.aload_n 0, 1) := by decide +kernel
theorem d_P_init_5 : decode prog_3_method_1_code 5 = .ok (.bipush 9, 2) := by decide +kernel
theorem d_P_init_7 : decode prog_3_method_1_code 7 = .ok (.newarray .int, 2) := by decide +kernel
theorem d_P_init_9 : decode prog_3_method_1_code 9 = .ok (.putfield 9, 3) := by decide +kernel
theorem d_P_init_12 : decode prog_3_method_1_code 12 = .ok (.aload_n 0, 1) := by decide +kernel
theorem d_P_init_13 : decode prog_3_method_1_code 13 = .ok (.bipush 9, 2) := by decide +kernel
theorem d_P_init_15 : decode prog_3_method_1_code 15 = .ok (.newarray .int, 2) := by decide +kernel
theorem d_P_init_17 : decode prog_3_method_1_code 17 = .ok (.putfield 15, 3) := by decide +kernel
theorem d_P_init_20 : decode prog_3_method_1_code 20 = .ok (.aload_n 0, 1) := by decide +kernel
theorem d_P_init_21 : decode prog_3_method_1_code 21 = .ok (.bipush 9, 2) := by decide +kernel
theorem d_P_init_23 : decode prog_3_method_1_code 23 = .ok (.newarray .int, 2) := by decide +kernel
theorem d_P_init_25 : decode prog_3_method_1_code 25 = .ok (.putfield 18, 3) := by decide +kernel
theorem d_P_init_28 : decode prog_3_method_1_code 28 = .ok (.aload_n 0, 1) := by decide +kernel
theorem d_P_init_29 : decode prog_3_method_1_code 29 = .ok (.bipush 9, 2) := by decide +kernel
theorem d_P_init_31 : decode prog_3_method_1_code 31 = .ok (.newarray .int, 2) := by decide +kernel
theorem d_P_init_33 : decode prog_3_method_1_code 33 = .ok (.putfield 21, 3) := by decide +kernel
theorem d_P_init_36 : decode prog_3_method_1_code 36 = .ok (.aload_n 0, 1) := by decide +kernel
theorem d_P_init_37 : decode prog_3_method_1_code 37 = .ok (.new 24, 3) := by decide +kernel
theorem d_P_init_40 : decode prog_3_method_1_code 40 = .ok (.dup, 1) := by decide +kernel
theorem d_P_init_41 : decode prog_3_method_1_code 41 = .ok (.invokespecial 26, 3) := by decide +kernel
theorem d_A_init_0 : decode prog_2_method_1_code 0 = .ok (.aload_n 0, 1) := by decide +kernel
theorem d_A_init_1 : decode prog_2_method_1_code 1 = .ok (.invokespecial 3, 3) := by decide +kernel
theorem d_A_init_4 : decode prog_2_method_1_code 4 = .ok (.aload_n 0, 1) := by decide +kernel
theorem d_A_init_5 : decode prog_2_method_1_code 5 = .ok (.bipush 50, 2) := by decide +kernel
theorem d_A_init_7 : decode prog_2_method_1_code 7 = .ok (.newarray .int, 2) := by decide +kernel
theorem d_A_init_9 : decode prog_2_method_1_code 9 = .ok (.putfield 11, 3) := by decide +kernel
theorem d_A_init_12 : decode prog_2_method_1_code 12 = .ok (.aload_n 0, 1) := by decide +kernel
theorem d_A_init_13 : decode prog_2_method_1_code 13 = .ok (.bipush 50, 2) := by decide +kernel
theorem d_A_init_15 : decode prog_2_method_1_code 15 = .ok (.newarray .int, 2) := by decide +kernel
theorem d_A_init_17 : decode prog_2_method_1_code 17 = .ok (.putfield 15, 3) := by decide +kernel
theorem d_A_init_20 : decode prog_2_method_1_code 20 = .ok (.aload_n 0, 1) := by decide +kernel
theorem d_A_init_21 : decode prog_2_method_1_code 21 = .ok (.bipush 50, 2) := by decide +kernel
theorem d_A_init_23 : decode prog_2_method_1_code 23 = .ok (.newarray .int, 2) := by decide +kernel
theorem d_A_init_25 : decode prog_2_method_1_code 25 = .ok (.putfield 18, 3) := by decide +kernel
theorem d_A_init_28 : decode prog_2_method_1_code 28 = .ok (.aload_n 0, 1) := by decide +kernel
theorem d_A_init_29 : decode prog_2_method_1_code 29 = .ok (.bipush 50, 2) := by decide +kernel
theorem d_A_init_31 : decode prog_2_method_1_code 31 = .ok (.newarray .long, 2) := by decide +kernel
theorem d_A_init_33 : decode prog_2_method_1_code 33 = .ok (.putfield 21, 3) := by decide +kernel
theorem d_A_init_36 : decode prog_2_method_1_code 36 = .ok (.aload_n 0, 1) := by decide +kernel
theorem d_A_init_37 : decode prog_2_method_1_code 37 = .ok (.bipush 50, 2) := by decide +kernel
theorem d_A_init_39 : decode prog_2_method_1_code 39 = .ok (.newarray .long, 2) := by decide +kernel
theorem d_A_init_41 : decode prog_2_method_1_code 41 = .ok (.putfield 25, 3) := by decide +kernel
theorem d_A_init_44 : decode prog_2_method_1_code 44 = .ok (.return_, 1) := by decide +kernel
theorem d_P_init_44 : decode prog_3_method_1_code 44 = .ok (.putfield 27, 3) := by decide +kernel
theorem d_P_init_47 : decode prog_3_method_1_code 47 = .ok (.aload_n 0, 1) := by decide +kernel
theorem d_P_init_48 : decode prog_3_method_1_code 48 = .ok (.iconst 0, 1) := by decide +kernel
theorem d_P_init_49 : decode prog_3_method_1_code 49 = .ok (.newarray .char, 2) := by decide +kernel
theorem d_P_init_51 : decode prog_3_method_1_code 51 = .ok (.putfield 31, 3) := by decide +kernel
theorem d_P_init_54 : decode prog_3_method_1_code 54 = .ok (.return_, 1) := by decide +kernel
theorem d_D_init_65 : decode prog_1_method_1_code 65 = .ok (.putfield 35, 3) := by decide +kernel
theorem d_D_init_68 : decode prog_1_method_1_code 68 = .ok (.aload_n 0, 1) := by decide +kernel
theorem d_D_init_69 : decode prog_1_method_1_code 69 = .ok (.new 39, 3) := by decide +kernel
theorem d_D_init_72 : decode prog_1_method_1_code 72 = .ok (.dup, 1) := by decide +kernel
theorem d_D_init_73 : decode prog_1_method_1_code 73 = .ok (.invokespecial 41, 3) := by decide +kernel
theorem d_D_init_76 : decode prog_1_method_1_code 76 = .ok (.putfield 42, 3) := by decide +kernel
theorem d_D_init_79 : decode prog_1_method_1_code 79 = .ok (.aload_n 0, 1) := by decide +kernel
theorem d_D_init_80 : decode prog_1_method_1_code 80 = .ok (.iconst (-1), 1) := by decide +kernel
theorem d_D_init_81 : decode prog_1_method_1_code 81 = .ok (.putfield 46, 3) := by decide +kernel
theorem d_D_init_84 : decode prog_1_method_1_code 84 = .ok (.aload_n 0, 1) := by decide +kernel
theorem d_D_init_85 : decode prog_1_method_1_code 85 = .ok (.sipush 160, 3) := by decide +kernel
theorem d_D_init_88 : decode prog_1_method_1_code 88 = .ok (.newarray .int, 2) := by decide +kernel
theorem d_D_init_90 : decode prog_1_method_1_code 90 = .ok (.putfield 49, 3) := by decide +kernel
theorem d_D_init_93 : decode prog_1_method_1_code 93 = .ok (.aload_n 0, 1) := by decide +kernel
theorem d_D_init_94 : decode prog_1_method_1_code 94 = .ok (.sipush 160, 3) := by decide +kernel
theorem d_D_init_97 : decode prog_1_method_1_code 97 = .ok (.newarray .int, 2) := by decide +kernel
theorem d_D_init_99 : decode prog_1_method_1_code 99 = .ok (.putfield 53, 3) := by decide +kernel
theorem d_D_init_102 : decode prog_1_method_1_code 102 = .ok (.return_, 1) := by decide +kernel
theorem d_M_init_0 : decode prog_6_method_1_code 0 = .ok (.aload_n 0, 1) := by decide +kernel
theorem d_M_init_1 : decode prog_6_method_1_code 1 = .ok (.invokespecial 1, 3) := by decide +kernel
theorem d_M_init_4 : decode prog_6_method_1_code 4 = .ok (.aload_n 0, 1) := by decide +kernel
theorem d_M_init_5 : decode prog_6_method_1_code 5 = .ok (.bipush 24, 2) := by decide +kernel
theorem d_M_init_7 : decode prog_6_method_1_code 7 = .ok (.newarray .char, 2) := by decide +kernel
theorem d_M_init_9 : decode prog_6_method_1_code 9 = .ok (.putfield 7, 3) := by decide +kernel
theorem d_M_init_12 : decode prog_6_method_1_code 12 = .ok (.aload_n 0, 1) := by decide +kernel
theorem d_M_init_13 : decode prog_6_method_1_code 13 = .ok (.iconst 1, 1) := by decide +kernel
theorem d_M_init_14 : decode prog_6_method_1_code 14 = .ok (.putfield 13, 3) := by decide +kernel
theorem d_M_init_17 : decode prog_6_method_1_code 17 = .ok (.aload_n 0, 1) := by decide +kernel
theorem d_M_init_18 : decode prog_6_method_1_code 18 = .ok (.sipush 6400, 3) := by decide +kernel
theorem d_M_init_21 : decode prog_6_method_1_code 21 = .ok (.newarray .char, 2) := by decide +kernel
theorem d_M_init_23 : decode prog_6_method_1_code 23 = .ok (.putfield 17, 3) := by decide +kernel
theorem d_M_init_26 : decode prog_6_method_1_code 26 = .ok (.aload_n 0, 1) := by decide +kernel
theorem d_M_init_27 : decode prog_6_method_1_code 27 = .ok (.bipush 40, 2) := by decide +kernel
theorem d_M_init_29 : decode prog_6_method_1_code 29 = .ok (.newarray .int, 2) := by decide +kernel
theorem d_M_init_31 : decode prog_6_method_1_code 31 = .ok (.putfield 20, 3) := by decide +kernel
theorem d_M_init_34 : decode prog_6_method_1_code 34 = .ok (.aload_n 0, 1) := by decide +kernel
theorem d_M_init_35 : decode prog_6_method_1_code 35 = .ok (.bipush 40, 2) := by decide +kernel
theorem d_M_init_37 : decode prog_6_method_1_code 37 = .ok (.newarray .int, 2) := by decide +kernel
theorem d_M_init_39 : decode prog_6_method_1_code 39 = .ok (.putfield 24, 3) := by decide +kernel
theorem d_M_init_42 : decode prog_6_method_1_code 42 = .ok (.aload_n 0, 1) := by decide +kernel
theorem d_M_init_43 : decode prog_6_method_1_code 43 = .ok (.bipush 40, 2) := by decide +kernel
theorem d_M_init_45 : decode prog_6_method_1_code 45 = .ok (.newarray .int, 2) := by decide +kernel
theorem d_M_init_47 : decode prog_6_method_1_code 47 = .ok (.putfield 27, 3) := by decide +kernel
theorem d_M_init_50 : decode prog_6_method_1_code 50 = .ok (.aload_n 0, 1) := by decide +kernel
theorem d_M_init_51 : decode prog_6_method_1_code 51 = .ok (.bipush 40, 2) := by decide +kernel
theorem d_M_init_53 : decode prog_6_method_1_code 53 = .ok (.newarray .int, 2) := by decide +kernel
theorem d_M_init_55 : decode prog_6_method_1_code 55 = .ok (.putfield 30, 3) := by decide +kernel
theorem d_M_init_58 : decode prog_6_method_1_code 58 = .ok (.aload_n 0, 1) := by decide +kernel
theorem d_M_init_59 : decode prog_6_method_1_code 59 = .ok (.iconst (-1), 1) := by decide +kernel
theorem d_M_init_60 : decode prog_6_method_1_code 60 = .ok (.putfield 33, 3) := by decide +kernel
theorem d_M_init_63 : decode prog_6_method_1_code 63 = .ok (.aload_n 0, 1) := by decide +kernel
theorem d_M_init_64 : decode prog_6_method_1_code 64 = .ok (.iconst (-1), 1) := by decide +kernel
theorem d_M_init_65 : decode prog_6_method_1_code 65 = .ok (.putfield 36, 3) := by decide +kernel
theorem d_M_init_68 : decode prog_6_method_1_code 68 = .ok (.aload_n 0, 1) := by decide +kernel
theorem d_M_init_69 : decode prog_6_method_1_code 69 = .ok (.bipush 24, 2) := by decide +kernel
theorem d_M_init_71 : decode prog_6_method_1_code 71 = .ok (.newarray .char, 2) := by decide +kernel
theorem d_M_init_73 : decode prog_6_method_1_code 73 = .ok (.putfield 39, 3) := by decide +kernel
theorem d_M_init_76 : decode prog_6_method_1_code 76 = .ok (.aload_n 0, 1) := by decide +kernel
theorem d_M_init_77 : decode prog_6_method_1_code 77 = .ok (.sipush 160, 3) := by decide +kernel
theorem d_M_init_80 : decode prog_6_method_1_code 80 = .ok (.newarray .int, 2) := by decide +kernel
theorem d_M_init_82 : decode prog_6_method_1_code 82 = .ok (.putfield 42, 3) := by decide +kernel
theorem d_M_init_85 : decode prog_6_method_1_code 85 = .ok (.aload_n 0, 1) := by decide +kernel
theorem d_M_init_86 : decode prog_6_method_1_code 86 = .ok (.sipush 160, 3) := by decide +kernel
theorem d_M_init_89 : decode prog_6_method_1_code 89 = .ok (.newarray .int, 2) := by decide +kernel
theorem d_M_init_91 : decode prog_6_method_1_code 91 = .ok (.putfield 45, 3) := by decide +kernel
theorem d_M_init_94 : decode prog_6_method_1_code 94 = .ok (.aload_n 0, 1) := by decide +kernel
theorem d_M_init_95 : decode prog_6_method_1_code 95 = .ok (.sipush 160, 3) := by decide +kernel
theorem d_M_init_98 : decode prog_6_method_1_code 98 = .ok (.newarray .int, 2) := by decide +kernel
theorem d_M_init_100 : decode prog_6_method_1_code 100 = .ok (.putfield 48, 3) := by decide +kernel
