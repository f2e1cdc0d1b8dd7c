theorem dL_act_91 : decode cL_act 91 = .ok (.istore 9, 2) := by decide +kernel
theorem dL_act_93 : decode cL_act 93 = .ok (.iload 9, 2) := by decide +kernel
theorem dL_act_95 : decode cL_act 95 = .ok (.iload 8, 2) := by decide +kernel
theorem dL_act_97 : decode cL_act 97 = .ok (.iconst 5, 1) := by decide +kernel
theorem dL_act_98 : decode cL_act 98 = .ok (.iand, 1) := by decide +kernel
theorem dL_act_99 : decode cL_act 99 = .ok (.ifCond .ne 7, 3) := by decide +kernel
theorem dL_act_102 : decode cL_act 102 = .ok (.iconst 1, 1) := by decide +kernel
theorem dL_act_103 : decode cL_act 103 = .ok (.goto 4, 3) := by decide +kernel
theorem dL_act_106 : decode cL_act 106 = .ok (.iconst 0, 1) := by decide +kernel
theorem dL_act_107 : decode cL_act 107 = .ok (.if_icmp .ne 21, 3) := by decide +kernel
theorem dL_act_110 : decode cL_act 110 = .ok (.aload_n 0, 1) := by decide +kernel
theorem dL_act_111 : decode cL_act 111 = .ok (.iload 5, 2) := by decide +kernel
theorem dL_act_113 : decode cL_act 113 = .ok (.iload 6, 2) := by decide +kernel
theorem dL_act_115 : decode cL_act 115 = .ok (.invokestatic 98, 3) := by decide +kernel
theorem dL_act_118 : decode cL_act 118 = .ok (.iconst 5, 1) := by decide +kernel
theorem dL_act_119 : decode cL_act 119 = .ok (.iand, 1) := by decide +kernel
theorem dL_act_120 : decode cL_act 120 = .ok (.ifCond .le 8, 3) := by decide +kernel
theorem dL_act_123 : decode cL_act 123 = .ok (.iload 9, 2) := by decide +kernel
theorem dL_act_125 : decode cL_act 125 = .ok (.goto 6, 3) := by decide +kernel
theorem dL_act_128 : decode cL_act 128 = .ok (.sipush (-5000), 3) := by decide +kernel
theorem dL_act_131 : decode cL_act 131 = .ok (.ireturn, 1) := by decide +kernel
theorem dL_act_132 : decode cL_act 132 = .ok (.iload 4, 2) := by decide +kernel
theorem dL_act_134 : decode cL_act 134 = .ok (.iconst 5, 1) := by decide +kernel
theorem dL_act_135 : decode cL_act 135 = .ok (.if_icmp .ge 62, 3) := by decide +kernel
theorem dL_act_138 : decode cL_act 138 = .ok (.aload_n 0, 1) := by decide +kernel
theorem dL_act_139 : decode cL_act 139 = .ok (.iload 5, 2) := by decide +kernel
theorem dL_act_141 : decode cL_act 141 = .ok (.iload 6, 2) := by decide +kernel
theorem dL_act_143 : decode cL_act 143 = .ok (.invokestatic 152, 3) := by decide +kernel
theorem dL_act_146 : decode cL_act 146 = .ok (.istore 9, 2) := by decide +kernel
theorem dL_act_148 : decode cL_act 148 = .ok (.iload 9, 2) := by decide +kernel
theorem dL_act_150 : decode cL_act 150 = .ok (.iload 8, 2) := by decide +kernel
theorem dL_act_152 : decode cL_act 152 = .ok (.bipush 8, 2) := by decide +kernel
theorem dL_act_154 : decode cL_act 154 = .ok (.iand, 1) := by decide +kernel
theorem dL_act_155 : decode cL_act 155 = .ok (.bipush 8, 2) := by decide +kernel
theorem dL_act_157 : decode cL_act 157 = .ok (.if_icmp .ne 7, 3) := by decide +kernel
theorem dL_act_160 : decode cL_act 160 = .ok (.iconst 1, 1) := by decide +kernel
theorem dL_act_161 : decode cL_act 161 = .ok (.goto 4, 3) := by decide +kernel
theorem dL_act_164 : decode cL_act 164 = .ok (.iconst 0, 1) := by decide +kernel
theorem dL_act_165 : decode cL_act 165 = .ok (.if_icmp .ne 28, 3) := by decide +kernel
theorem dL_act_168 : decode cL_act 168 = .ok (.iload 9, 2) := by decide +kernel
theorem dL_act_170 : decode cL_act 170 = .ok (.ifCond .eq 18, 3) := by decide +kernel
theorem dL_act_173 : decode cL_act 173 = .ok (.aload_n 0, 1) := by decide +kernel
theorem dL_act_174 : decode cL_act 174 = .ok (.iload 5, 2) := by decide +kernel
theorem dL_act_176 : decode cL_act 176 = .ok (.iload 6, 2) := by decide +kernel
theorem dL_act_178 : decode cL_act 178 = .ok (.invokestatic 98, 3) := by decide +kernel
theorem dL_act_181 : decode cL_act 181 = .ok (.bipush 10, 2) := by decide +kernel
theorem dL_act_183 : decode cL_act 183 = .ok (.iand, 1) := by decide +kernel
theorem dL_act_184 : decode cL_act 184 = .ok (.iconst 2, 1) := by decide +kernel
theorem dL_act_185 : decode cL_act 185 = .ok (.if_icmp .ne 8, 3) := by decide +kernel
theorem dL_act_188 : decode cL_act 188 = .ok (.iload 9, 2) := by decide +kernel
theorem dL_act_190 : decode cL_act 190 = .ok (.goto 6, 3) := by decide +kernel
theorem dL_act_193 : decode cL_act 193 = .ok (.sipush (-5000), 3) := by decide +kernel
theorem dL_act_196 : decode cL_act 196 = .ok (.ireturn, 1) := by decide +kernel
theorem dL_act_197 : decode cL_act 197 = .ok (.iload 4, 2) := by decide +kernel
theorem dL_act_199 : decode cL_act 199 = .ok (.iconst 5, 1) := by decide +kernel
theorem dL_act_200 : decode cL_act 200 = .ok (.if_icmp .ne 54, 3) := by decide +kernel
theorem dL_act_203 : decode cL_act 203 = .ok (.aload_n 0, 1) := by decide +kernel
theorem dL_act_204 : decode cL_act 204 = .ok (.iload 5, 2) := by decide +kernel
theorem dL_act_206 : decode cL_act 206 = .ok (.iload 6, 2) := by decide +kernel
theorem dL_act_208 : decode cL_act 208 = .ok (.invokestatic 154, 3) := by decide +kernel
theorem dL_act_211 : decode cL_act 211 = .ok (.istore 9, 2) := by decide +kernel
theorem dL_act_213 : decode cL_act 213 = .ok (.iload 9, 2) := by decide +kernel
theorem dL_act_215 : decode cL_act 215 = .ok (.iload 8, 2) := by decide +kernel
theorem dL_act_217 : decode cL_act 217 = .ok (.bipush 10, 2) := by decide +kernel
theorem dL_act_219 : decode cL_act 219 = .ok (.iand, 1) := by decide +kernel
theorem dL_act_220 : decode cL_act 220 = .ok (.ifCond .le 7, 3) := by decide +kernel
theorem dL_act_223 : decode cL_act 223 = .ok (.iconst 1, 1) := by decide +kernel
theorem dL_act_224 : decode cL_act 224 = .ok (.goto 4, 3) := by decide +kernel
theorem dL_act_227 : decode cL_act 227 = .ok (.iconst 0, 1) := by decide +kernel
theorem dL_act_228 : decode cL_act 228 = .ok (.if_icmp .ne 22, 3) := by decide +kernel
theorem dL_act_231 : decode cL_act 231 = .ok (.aload_n 0, 1) := by decide +kernel
theorem dL_act_232 : decode cL_act 232 = .ok (.iload 5, 2) := by decide +kernel
theorem dL_act_234 : decode cL_act 234 = .ok (.iload 6, 2) := by decide +kernel
theorem dL_act_236 : decode cL_act 236 = .ok (.invokestatic 98, 3) := by decide +kernel
theorem dL_act_239 : decode cL_act 239 = .ok (.bipush 10, 2) := by decide +kernel
theorem dL_act_241 : decode cL_act 241 = .ok (.iand, 1) := by decide +kernel
theorem dL_act_242 : decode cL_act 242 = .ok (.ifCond .ne 8, 3) := by decide +kernel
theorem dL_act_245 : decode cL_act 245 = .ok (.iload 9, 2) := by decide +kernel
theorem dL_act_247 : decode cL_act 247 = .ok (.goto 6, 3) := by decide +kernel
theorem dL_act_250 : decode cL_act 250 = .ok (.sipush (-5000), 3) := by decide +kernel
theorem dL_act_253 : decode cL_act 253 = .ok (.ireturn, 1) := by decide +kernel
theorem dL_act_254 : decode cL_act 254 = .ok (.iload 4, 2) := by decide +kernel
theorem dL_act_256 : decode cL_act 256 = .ok (.bipush 6, 2) := by decide +kernel
theorem dL_act_258 : decode cL_act 258 = .ok (.if_icmp .ne 52, 3) := by decide +kernel
theorem dL_act_261 : decode cL_act 261 = .ok (.aload_n 0, 1) := by decide +kernel
theorem dL_act_262 : decode cL_act 262 = .ok (.iload 5, 2) := by decide +kernel
theorem dL_act_264 : decode cL_act 264 = .ok (.iload 6, 2) := by decide +kernel
theorem dL_act_266 : decode cL_act 266 = .ok (.invokestatic 156, 3) := by decide +kernel
theorem dL_act_269 : decode cL_act 269 = .ok (.istore 9, 2) := by decide +kernel
theorem dL_act_271 : decode cL_act 271 = .ok (.iload 9, 2) := by decide +kernel
theorem dL_act_273 : decode cL_act 273 = .ok (.iload 8, 2) := by decide +kernel
theorem dL_act_275 : decode cL_act 275 = .ok (.iconst 5, 1) := by decide +kernel
theorem dL_act_276 : decode cL_act 276 = .ok (.iand, 1) := by decide +kernel
theorem dL_act_277 : decode cL_act 277 = .ok (.ifCond .le 7, 3) := by decide +kernel
theorem dL_act_280 : decode cL_act 280 = .ok (.iconst 1, 1) := by decide +kernel
theorem dL_act_281 : decode cL_act 281 = .ok (.goto 4, 3) := by decide +kernel
theorem dL_act_284 : decode cL_act 284 = .ok (.iconst 0, 1) := by decide +kernel
theorem dL_act_285 : decode cL_act 285 = .ok (.if_icmp .ne 21, 3) := by decide +kernel
theorem dL_act_288 : decode cL_act 288 = .ok (.aload_n 0, 1) := by decide +kernel
theorem dL_act_289 : decode cL_act 289 = .ok (.iload 5, 2) := by decide +kernel
theorem dL_act_291 : decode cL_act 291 = .ok (.iload 6, 2) := by decide +kernel
theorem dL_act_293 : decode cL_act 293 = .ok (.invokestatic 98, 3) := by decide +kernel
theorem dL_act_296 : decode cL_act 296 = .ok (.iconst 5, 1) := by decide +kernel
theorem dL_act_297 : decode cL_act 297 = .ok (.iand, 1) := by decide +kernel
theorem dL_act_298 : decode cL_act 298 = .ok (.ifCond .ne 8, 3) := by decide +kernel
theorem dL_act_301 : decode cL_act 301 = .ok (.iload 9, 2) := by decide +kernel
theorem dL_act_303 : decode cL_act 303 = .ok (.goto 6, 3) := by decide +kernel
theorem dL_act_306 : decode cL_act 306 = .ok (.sipush (-5000), 3) := by decide +kernel
theorem dL_act_309 : decode cL_act 309 = .ok (.ireturn, 1) := by decide +kernel
theorem dL_act_310 : decode cL_act 310 = .ok (.iload 4, 2) := by decide +kernel
theorem dL_act_312 : decode cL_act 312 = .ok (.bipush 10, 2) := by decide +kernel
theorem dL_act_314 : decode cL_act 314 = .ok (.if_icmp .ge 74, 3) := by decide +kernel
theorem dL_act_317 : decode cL_act 317 = .ok (.aload_n 0, 1) := by decide +kernel
theorem dL_act_318 : decode cL_act 318 = .ok (.iload 5, 2) := by decide +kernel
theorem dL_act_320 : decode cL_act 320 = .ok (.iload 7, 2) := by decide +kernel
theorem dL_act_322 : decode cL_act 322 = .ok (.iload_n 2, 1) := by decide +kernel
theorem dL_act_323 : decode cL_act 323 = .ok (.iconst 2, 1) := by decide +kernel
theorem dL_act_324 : decode cL_act 324 = .ok (.ishr, 1) := by decide +kernel
theorem dL_act_325 : decode cL_act 325 = .ok (.bipush 19, 2) := by decide +kernel
theorem dL_act_327 : decode cL_act 327 = .ok (.invokestatic 95, 3) := by decide +kernel
theorem dL_act_330 : decode cL_act 330 = .ok (.bipush 9, 2) := by decide +kernel
theorem dL_act_332 : decode cL_act 332 = .ok (.isub, 1) := by decide +kernel
theorem dL_act_333 : decode cL_act 333 = .ok (.iload_n 2, 1) := by decide +kernel
theorem dL_act_334 : decode cL_act 334 = .ok (.bipush 7, 2) := by decide +kernel
theorem dL_act_336 : decode cL_act 336 = .ok (.ishr, 1) := by decide +kernel
theorem dL_act_337 : decode cL_act 337 = .ok (.iconst 5, 1) := by decide +kernel
theorem dL_act_338 : decode cL_act 338 = .ok (.invokestatic 95, 3) := by decide +kernel
theorem dL_act_341 : decode cL_act 341 = .ok (.invokestatic 161, 3) := by decide +kernel
theorem dL_act_344 : decode cL_act 344 = .ok (.istore 9, 2) := by decide +kernel
theorem dL_act_346 : decode cL_act 346 = .ok (.aload_n 0, 1) := by decide +kernel
theorem dL_act_347 : decode cL_act 347 = .ok (.iload 5, 2) := by decide +kernel
theorem dL_act_349 : decode cL_act 349 = .ok (.iload 7, 2) := by decide +kernel
theorem dL_act_351 : decode cL_act 351 = .ok (.iconst 0, 1) := by decide +kernel
theorem dL_act_352 : decode cL_act 352 = .ok (.invokestatic 109, 3) := by decide +kernel
theorem dL_act_355 : decode cL_act 355 = .ok (.iconst 1, 1) := by decide +kernel
theorem dL_act_356 : decode cL_act 356 = .ok (.if_icmp .ne 28, 3) := by decide +kernel
theorem dL_act_359 : decode cL_act 359 = .ok (.aload_n 0, 1) := by decide +kernel
theorem dL_act_360 : decode cL_act 360 = .ok (.iload 5, 2) := by decide +kernel
theorem dL_act_362 : decode cL_act 362 = .ok (.iload 7, 2) := by decide +kernel
theorem dL_act_364 : decode cL_act 364 = .ok (.iconst 2, 1) := by decide +kernel
theorem dL_act_365 : decode cL_act 365 = .ok (.invokestatic 109, 3) := by decide +kernel
theorem dL_act_368 : decode cL_act 368 = .ok (.iload_n 2, 1) := by decide +kernel
theorem dL_act_369 : decode cL_act 369 = .ok (.bipush 7, 2) := by decide +kernel
theorem dL_act_371 : decode cL_act 371 = .ok (.ishr, 1) := by decide +kernel
theorem dL_act_372 : decode cL_act 372 = .ok (.iconst 5, 1) := by decide +kernel
theorem dL_act_373 : decode cL_act 373 = .ok (.invokestatic 95, 3) := by decide +kernel
theorem dL_act_376 : decode cL_act 376 = .ok (.if_icmp .ne 8, 3) := by decide +kernel
theorem dL_act_379 : decode cL_act 379 = .ok (.iload 9, 2) := by decide +kernel
theorem dL_act_381 : decode cL_act 381 = .ok (.goto 6, 3) := by decide +kernel
theorem dL_act_384 : decode cL_act 384 = .ok (.sipush (-5000), 3) := by decide +kernel
theorem dL_act_387 : decode cL_act 387 = .ok (.ireturn, 1) := by decide +kernel
theorem dL_act_388 : decode cL_act 388 = .ok (.iload 4, 2) := by decide +kernel
theorem dL_act_390 : decode cL_act 390 = .ok (.bipush 10, 2) := by decide +kernel
theorem dL_act_392 : decode cL_act 392 = .ok (.if_icmp .ne 70, 3) := by decide +kernel
theorem dL_act_395 : decode cL_act 395 = .ok (.aload_n 0, 1) := by decide +kernel
theorem dL_act_396 : decode cL_act 396 = .ok (.iload 5, 2) := by decide +kernel
theorem dL_act_398 : decode cL_act 398 = .ok (.iload 7, 2) := by decide +kernel
theorem dL_act_400 : decode cL_act 400 = .ok (.iconst 0, 1) := by decide +kernel
theorem dL_act_401 : decode cL_act 401 = .ok (.invokestatic 109, 3) := by decide +kernel
theorem dL_act_404 : decode cL_act 404 = .ok (.istore 9, 2) := by decide +kernel
theorem dL_act_406 : decode cL_act 406 = .ok (.aload_n 0, 1) := by decide +kernel
theorem dL_act_407 : decode cL_act 407 = .ok (.iload 5, 2) := by decide +kernel
theorem dL_act_409 : decode cL_act 409 = .ok (.iload 7, 2) := by decide +kernel
theorem dL_act_411 : decode cL_act 411 = .ok (.invokestatic 164, 3) := by decide +kernel
theorem dL_act_414 : decode cL_act 414 = .ok (.istore 10, 2) := by decide +kernel
theorem dL_act_416 : decode cL_act 416 = .ok (.iload 10, 2) := by decide +kernel
theorem dL_act_418 : decode cL_act 418 = .ok (.sipush (-902), 3) := by decide +kernel
theorem dL_act_421 : decode cL_act 421 = .ok (.if_icmp .ne 7, 3) := by decide +kernel
theorem dL_act_424 : decode cL_act 424 = .ok (.iconst 1, 1) := by decide +kernel
theorem dL_act_425 : decode cL_act 425 = .ok (.goto 4, 3) := by decide +kernel
theorem dL_act_428 : decode cL_act 428 = .ok (.iconst 0, 1) := by decide +kernel
theorem dL_act_429 : decode cL_act 429 = .ok (.iload 9, 2) := by decide +kernel
theorem dL_act_431 : decode cL_act 431 = .ok (.ifCond .ne 7, 3) := by decide +kernel
theorem dL_act_434 : decode cL_act 434 = .ok (.iconst 1, 1) := by decide +kernel
theorem dL_act_435 : decode cL_act 435 = .ok (.goto 4, 3) := by decide +kernel
theorem dL_act_438 : decode cL_act 438 = .ok (.iconst 0, 1) := by decide +kernel
theorem dL_act_439 : decode cL_act 439 = .ok (.if_icmp .ne 19, 3) := by decide +kernel
theorem dL_act_442 : decode cL_act 442 = .ok (.aload_n 0, 1) := by decide +kernel
theorem dL_act_443 : decode cL_act 443 = .ok (.iload 5, 2) := by decide +kernel
theorem dL_act_445 : decode cL_act 445 = .ok (.iload 7, 2) := by decide +kernel
theorem dL_act_447 : decode cL_act 447 = .ok (.iconst 0, 1) := by decide +kernel
theorem dL_act_448 : decode cL_act 448 = .ok (.invokestatic 109, 3) := by decide +kernel
theorem dL_act_451 : decode cL_act 451 = .ok (.ifCond .ne 7, 3) := by decide +kernel
theorem dL_act_454 : decode cL_act 454 = .ok (.iconst 0, 1) := by decide +kernel
theorem dL_act_455 : decode cL_act 455 = .ok (.goto 6, 3) := by decide +kernel
theorem dL_act_458 : decode cL_act 458 = .ok (.sipush (-5000), 3) := by decide +kernel
theorem dL_act_461 : decode cL_act 461 = .ok (.ireturn, 1) := by decide +kernel
theorem dL_act_462 : decode cL_act 462 = .ok (.iload 4, 2) := by decide +kernel
theorem dL_act_464 : decode cL_act 464 = .ok (.bipush 11, 2) := by decide +kernel
theorem dL_act_466 : decode cL_act 466 = .ok (.if_icmp .ne 56, 3) := by decide +kernel
theorem dL_act_469 : decode cL_act 469 = .ok (.aload_n 0, 1) := by decide +kernel
theorem dL_act_470 : decode cL_act 470 = .ok (.iload 5, 2) := by decide +kernel
theorem dL_act_472 : decode cL_act 472 = .ok (.iload 6, 2) := by decide +kernel
theorem dL_act_474 : decode cL_act 474 = .ok (.iload_n 2, 1) := by decide +kernel
theorem dL_act_475 : decode cL_act 475 = .ok (.iconst 3, 1) := by decide +kernel
theorem dL_act_476 : decode cL_act 476 = .ok (.iand, 1) := by decide +kernel
theorem dL_act_477 : decode cL_act 477 = .ok (.ifCond .ne 7, 3) := by decide +kernel
theorem dL_act_480 : decode cL_act 480 = .ok (.iconst 1, 1) := by decide +kernel
theorem dL_act_481 : decode cL_act 481 = .ok (.goto 4, 3) := by decide +kernel
theorem dL_act_484 : decode cL_act 484 = .ok (.iconst 0, 1) := by decide +kernel
theorem dL_act_485 : decode cL_act 485 = .ok (.invokestatic 158, 3) := by decide +kernel
theorem dL_act_488 : decode cL_act 488 = .ok (.istore 9, 2) := by decide +kernel
theorem dL_act_490 : decode cL_act 490 = .ok (.iload 9, 2) := by decide +kernel
theorem dL_act_492 : decode cL_act 492 = .ok (.ifCond .lt 26, 3) := by decide +kernel
theorem dL_act_495 : decode cL_act 495 = .ok (.iload_n 2, 1) := by decide +kernel
theorem dL_act_496 : decode cL_act 496 = .ok (.iconst 3, 1) := by decide +kernel
theorem dL_act_497 : decode cL_act 497 = .ok (.iand, 1) := by decide +kernel
theorem dL_act_498 : decode cL_act 498 = .ok (.ifCond .gt 15, 3) := by decide +kernel
theorem dL_act_501 : decode cL_act 501 = .ok (.aload_n 0, 1) := by decide +kernel
theorem dL_act_502 : decode cL_act 502 = .ok (.iload 5, 2) := by decide +kernel
theorem dL_act_504 : decode cL_act 504 = .ok (.iload 6, 2) := by decide +kernel
theorem dL_act_506 : decode cL_act 506 = .ok (.invokestatic 102, 3) := by decide +kernel
theorem dL_act_509 : decode cL_act 509 = .ok (.iconst 1, 1) := by decide +kernel
theorem dL_act_510 : decode cL_act 510 = .ok (.if_icmp .ne 8, 3) := by decide +kernel
theorem dL_act_513 : decode cL_act 513 = .ok (.iload 9, 2) := by decide +kernel
theorem dL_act_515 : decode cL_act 515 = .ok (.goto 6, 3) := by decide +kernel
theorem dL_act_518 : decode cL_act 518 = .ok (.sipush (-5000), 3) := by decide +kernel
theorem dL_act_521 : decode cL_act 521 = .ok (.ireturn, 1) := by decide +kernel
theorem dL_act_522 : decode cL_act 522 = .ok (.iload 4, 2) := by decide +kernel
theorem dL_act_524 : decode cL_act 524 = .ok (.bipush 12, 2) := by decide +kernel
theorem dL_act_526 : decode cL_act 526 = .ok (.if_icmp .ne 49, 3) := by decide +kernel
theorem dL_act_529 : decode cL_act 529 = .ok (.aload_n 0, 1) := by decide +kernel
theorem dL_act_530 : decode cL_act 530 = .ok (.invokevirtual 125, 3) := by decide +kernel
theorem dL_act_533 : decode cL_act 533 = .ok (.ifCond .le 42, 3) := by decide +kernel
theorem dL_act_536 : decode cL_act 536 = .ok (.iload_n 2, 1) := by decide +kernel
theorem dL_act_537 : decode cL_act 537 = .ok (.aload_n 0, 1) := by decide +kernel
theorem dL_act_538 : decode cL_act 538 = .ok (.invokevirtual 125, 3) := by decide +kernel
theorem dL_act_541 : decode cL_act 541 = .ok (.invokestatic 95, 3) := by decide +kernel
theorem dL_act_544 : decode cL_act 544 = .ok (.istore 9, 2) := by decide +kernel
theorem dL_act_546 : decode cL_act 546 = .ok (.aload_n 0, 1) := by decide +kernel
