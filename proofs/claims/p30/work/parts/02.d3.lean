theorem dL_law_49 : decode cL_law 49 = .ok (.dup, 1) := by decide +kernel
theorem dL_law_50 : decode cL_law 50 = .ok (.invokespecial 113, 3) := by decide +kernel
theorem dL_law_53 : decode cL_law 53 = .ok (.invokestatic 237, 3) := by decide +kernel
theorem dL_law_56 : decode cL_law 56 = .ok (.ifCond .eq 93, 3) := by decide +kernel
theorem dL_law_59 : decode cL_law 59 = .ok (.aload_n 3, 1) := by decide +kernel
theorem dL_law_60 : decode cL_law 60 = .ok (.invokevirtual 241, 3) := by decide +kernel
theorem dL_law_63 : decode cL_law 63 = .ok (.iconst (-1), 1) := by decide +kernel
theorem dL_law_64 : decode cL_law 64 = .ok (.if_icmp .ne 85, 3) := by decide +kernel
theorem dL_law_67 : decode cL_law 67 = .ok (.aload_n 3, 1) := by decide +kernel
theorem dL_law_68 : decode cL_law 68 = .ok (.invokevirtual 244, 3) := by decide +kernel
theorem dL_law_71 : decode cL_law 71 = .ok (.iconst (-1), 1) := by decide +kernel
theorem dL_law_72 : decode cL_law 72 = .ok (.if_icmp .ne 77, 3) := by decide +kernel
theorem dL_law_75 : decode cL_law 75 = .ok (.aload_n 3, 1) := by decide +kernel
theorem dL_law_76 : decode cL_law 76 = .ok (.iconst 1, 1) := by decide +kernel
theorem dL_law_77 : decode cL_law 77 = .ok (.invokestatic 247, 3) := by decide +kernel
theorem dL_law_80 : decode cL_law 80 = .ok (.ldc 85, 2) := by decide +kernel
theorem dL_law_82 : decode cL_law 82 = .ok (.if_icmp .ne 67, 3) := by decide +kernel
theorem dL_law_85 : decode cL_law 85 = .ok (.aload_n 3, 1) := by decide +kernel
theorem dL_law_86 : decode cL_law 86 = .ok (.iconst 0, 1) := by decide +kernel
theorem dL_law_87 : decode cL_law 87 = .ok (.invokestatic 247, 3) := by decide +kernel
theorem dL_law_90 : decode cL_law 90 = .ok (.ldc 42, 2) := by decide +kernel
theorem dL_law_92 : decode cL_law 92 = .ok (.if_icmp .ne 57, 3) := by decide +kernel
theorem dL_law_95 : decode cL_law 95 = .ok (.aload_n 3, 1) := by decide +kernel
theorem dL_law_96 : decode cL_law 96 = .ok (.bipush 100, 2) := by decide +kernel
theorem dL_law_98 : decode cL_law 98 = .ok (.sipush 1000, 3) := by decide +kernel
theorem dL_law_101 : decode cL_law 101 = .ok (.invokestatic 249, 3) := by decide +kernel
theorem dL_law_104 : decode cL_law 104 = .ok (.ldc 85, 2) := by decide +kernel
theorem dL_law_106 : decode cL_law 106 = .ok (.if_icmp .ne 43, 3) := by decide +kernel
theorem dL_law_109 : decode cL_law 109 = .ok (.aload_n 3, 1) := by decide +kernel
theorem dL_law_110 : decode cL_law 110 = .ok (.iconst 4, 1) := by decide +kernel
theorem dL_law_111 : decode cL_law 111 = .ok (.invokestatic 251, 3) := by decide +kernel
theorem dL_law_114 : decode cL_law 114 = .ok (.iconst (-1), 1) := by decide +kernel
theorem dL_law_115 : decode cL_law 115 = .ok (.if_icmp .ne 34, 3) := by decide +kernel
theorem dL_law_118 : decode cL_law 118 = .ok (.aload_n 3, 1) := by decide +kernel
theorem dL_law_119 : decode cL_law 119 = .ok (.invokevirtual 253, 3) := by decide +kernel
theorem dL_law_122 : decode cL_law 122 = .ok (.iconst (-1), 1) := by decide +kernel
theorem dL_law_123 : decode cL_law 123 = .ok (.if_icmp .ne 26, 3) := by decide +kernel
theorem dL_law_126 : decode cL_law 126 = .ok (.aload_n 3, 1) := by decide +kernel
theorem dL_law_127 : decode cL_law 127 = .ok (.iconst 0, 1) := by decide +kernel
theorem dL_law_128 : decode cL_law 128 = .ok (.invokestatic 256, 3) := by decide +kernel
theorem dL_law_131 : decode cL_law 131 = .ok (.ifCond .ne 18, 3) := by decide +kernel
theorem dL_law_134 : decode cL_law 134 = .ok (.aload_n 3, 1) := by decide +kernel
theorem dL_law_135 : decode cL_law 135 = .ok (.iconst 4, 1) := by decide +kernel
theorem dL_law_136 : decode cL_law 136 = .ok (.iconst 0, 1) := by decide +kernel
theorem dL_law_137 : decode cL_law 137 = .ok (.invokestatic 258, 3) := by decide +kernel
theorem dL_law_140 : decode cL_law 140 = .ok (.ldc 85, 2) := by decide +kernel
theorem dL_law_142 : decode cL_law 142 = .ok (.if_icmp .ne 7, 3) := by decide +kernel
theorem dL_law_145 : decode cL_law 145 = .ok (.iconst 1, 1) := by decide +kernel
theorem dL_law_146 : decode cL_law 146 = .ok (.goto 4, 3) := by decide +kernel
theorem dL_law_149 : decode cL_law 149 = .ok (.iconst 0, 1) := by decide +kernel
theorem dL_law_150 : decode cL_law 150 = .ok (.istore_n 1, 1) := by decide +kernel
theorem dL_law_151 : decode cL_law 151 = .ok (.aload_n 3, 1) := by decide +kernel
theorem dL_law_152 : decode cL_law 152 = .ok (.aload 4, 2) := by decide +kernel
theorem dL_law_154 : decode cL_law 154 = .ok (.aload 5, 2) := by decide +kernel
theorem dL_law_156 : decode cL_law 156 = .ok (.invokestatic 260, 3) := by decide +kernel
theorem dL_law_159 : decode cL_law 159 = .ok (.astore 6, 2) := by decide +kernel
theorem dL_law_161 : decode cL_law 161 = .ok (.aload 6, 2) := by decide +kernel
theorem dL_law_163 : decode cL_law 163 = .ok (.ifnonnull 5, 3) := by decide +kernel
theorem dL_law_166 : decode cL_law 166 = .ok (.iconst 0, 1) := by decide +kernel
theorem dL_law_167 : decode cL_law 167 = .ok (.ireturn, 1) := by decide +kernel
theorem dL_law_168 : decode cL_law 168 = .ok (.iload_n 1, 1) := by decide +kernel
theorem dL_law_169 : decode cL_law 169 = .ok (.ifCond .eq 16, 3) := by decide +kernel
theorem dL_law_172 : decode cL_law 172 = .ok (.aload_n 3, 1) := by decide +kernel
theorem dL_law_173 : decode cL_law 173 = .ok (.aload 6, 2) := by decide +kernel
theorem dL_law_175 : decode cL_law 175 = .ok (.invokestatic 237, 3) := by decide +kernel
theorem dL_law_178 : decode cL_law 178 = .ok (.ifCond .eq 7, 3) := by decide +kernel
theorem dL_law_181 : decode cL_law 181 = .ok (.iconst 1, 1) := by decide +kernel
theorem dL_law_182 : decode cL_law 182 = .ok (.goto 4, 3) := by decide +kernel
theorem dL_law_185 : decode cL_law 185 = .ok (.iconst 0, 1) := by decide +kernel
theorem dL_law_186 : decode cL_law 186 = .ok (.istore_n 1, 1) := by decide +kernel
theorem dL_law_187 : decode cL_law 187 = .ok (.bipush 9, 2) := by decide +kernel
theorem dL_law_189 : decode cL_law 189 = .ok (.anewarray 111, 3) := by decide +kernel
theorem dL_law_192 : decode cL_law 192 = .ok (.astore 7, 2) := by decide +kernel
theorem dL_law_194 : decode cL_law 194 = .ok (.iconst 0, 1) := by decide +kernel
theorem dL_law_195 : decode cL_law 195 = .ok (.istore 8, 2) := by decide +kernel
theorem dL_law_197 : decode cL_law 197 = .ok (.iconst 0, 1) := by decide +kernel
theorem dL_law_198 : decode cL_law 198 = .ok (.istore 9, 2) := by decide +kernel
theorem dL_law_200 : decode cL_law 200 = .ok (.iload 9, 2) := by decide +kernel
theorem dL_law_202 : decode cL_law 202 = .ok (.bipush 45, 2) := by decide +kernel
theorem dL_law_204 : decode cL_law 204 = .ok (.if_icmp .ge 787, 3) := by decide +kernel
theorem dL_law_207 : decode cL_law 207 = .ok (.iload_n 1, 1) := by decide +kernel
theorem dL_law_208 : decode cL_law 208 = .ok (.ifCond .eq 783, 3) := by decide +kernel
theorem dL_law_211 : decode cL_law 211 = .ok (.aload 6, 2) := by decide +kernel
theorem dL_law_213 : decode cL_law 213 = .ok (.invokevirtual 264, 3) := by decide +kernel
theorem dL_law_216 : decode cL_law 216 = .ok (.astore 10, 2) := by decide +kernel
theorem dL_law_218 : decode cL_law 218 = .ok (.iconst 1, 1) := by decide +kernel
theorem dL_law_219 : decode cL_law 219 = .ok (.istore 11, 2) := by decide +kernel
theorem dL_law_221 : decode cL_law 221 = .ok (.ldc 42, 2) := by decide +kernel
theorem dL_law_223 : decode cL_law 223 = .ok (.istore 12, 2) := by decide +kernel
theorem dL_law_225 : decode cL_law 225 = .ok (.aload 5, 2) := by decide +kernel
theorem dL_law_227 : decode cL_law 227 = .ok (.bipush 10, 2) := by decide +kernel
theorem dL_law_229 : decode cL_law 229 = .ok (.invokevirtual 114, 3) := by decide +kernel
theorem dL_law_232 : decode cL_law 232 = .ok (.tableswitch 572 0 5 #[40, 194, 302, 428, 428, 428], 40) := by decide +kernel
theorem dL_law_272 : decode cL_law 272 = .ok (.aload 5, 2) := by decide +kernel
theorem dL_law_274 : decode cL_law 274 = .ok (.aload 6, 2) := by decide +kernel
theorem dL_law_276 : decode cL_law 276 = .ok (.getfield 143, 3) := by decide +kernel
theorem dL_law_279 : decode cL_law 279 = .ok (.arraylength, 1) := by decide +kernel
theorem dL_law_280 : decode cL_law 280 = .ok (.aload 5, 2) := by decide +kernel
theorem dL_law_282 : decode cL_law 282 = .ok (.bipush 9, 2) := by decide +kernel
theorem dL_law_284 : decode cL_law 284 = .ok (.invokevirtual 114, 3) := by decide +kernel
theorem dL_law_287 : decode cL_law 287 = .ok (.ifCond .ne 7, 3) := by decide +kernel
theorem dL_law_290 : decode cL_law 290 = .ok (.iconst 1, 1) := by decide +kernel
theorem dL_law_291 : decode cL_law 291 = .ok (.goto 4, 3) := by decide +kernel
theorem dL_law_294 : decode cL_law 294 = .ok (.iconst 0, 1) := by decide +kernel
theorem dL_law_295 : decode cL_law 295 = .ok (.iadd, 1) := by decide +kernel
theorem dL_law_296 : decode cL_law 296 = .ok (.invokevirtual 114, 3) := by decide +kernel
theorem dL_law_299 : decode cL_law 299 = .ok (.istore 13, 2) := by decide +kernel
theorem dL_law_301 : decode cL_law 301 = .ok (.aload 5, 2) := by decide +kernel
theorem dL_law_303 : decode cL_law 303 = .ok (.bipush 9, 2) := by decide +kernel
theorem dL_law_305 : decode cL_law 305 = .ok (.invokevirtual 114, 3) := by decide +kernel
theorem dL_law_308 : decode cL_law 308 = .ok (.ifCond .ne 8, 3) := by decide +kernel
theorem dL_law_311 : decode cL_law 311 = .ok (.bipush 99, 2) := by decide +kernel
theorem dL_law_313 : decode cL_law 313 = .ok (.goto 14, 3) := by decide +kernel
theorem dL_law_316 : decode cL_law 316 = .ok (.bipush 100, 2) := by decide +kernel
theorem dL_law_318 : decode cL_law 318 = .ok (.aload 5, 2) := by decide +kernel
theorem dL_law_320 : decode cL_law 320 = .ok (.sipush 801, 3) := by decide +kernel
theorem dL_law_323 : decode cL_law 323 = .ok (.invokevirtual 114, 3) := by decide +kernel
theorem dL_law_326 : decode cL_law 326 = .ok (.iadd, 1) := by decide +kernel
theorem dL_law_327 : decode cL_law 327 = .ok (.istore 14, 2) := by decide +kernel
theorem dL_law_329 : decode cL_law 329 = .ok (.iload 13, 2) := by decide +kernel
theorem dL_law_331 : decode cL_law 331 = .ok (.aload 6, 2) := by decide +kernel
theorem dL_law_333 : decode cL_law 333 = .ok (.getfield 143, 3) := by decide +kernel
theorem dL_law_336 : decode cL_law 336 = .ok (.arraylength, 1) := by decide +kernel
theorem dL_law_337 : decode cL_law 337 = .ok (.if_icmp .ge 7, 3) := by decide +kernel
theorem dL_law_340 : decode cL_law 340 = .ok (.iconst 1, 1) := by decide +kernel
theorem dL_law_341 : decode cL_law 341 = .ok (.goto 4, 3) := by decide +kernel
theorem dL_law_344 : decode cL_law 344 = .ok (.iconst 0, 1) := by decide +kernel
theorem dL_law_345 : decode cL_law 345 = .ok (.istore 15, 2) := by decide +kernel
theorem dL_law_347 : decode cL_law 347 = .ok (.iload 15, 2) := by decide +kernel
theorem dL_law_349 : decode cL_law 349 = .ok (.ifCond .eq 14, 3) := by decide +kernel
theorem dL_law_352 : decode cL_law 352 = .ok (.iload 14, 2) := by decide +kernel
theorem dL_law_354 : decode cL_law 354 = .ok (.bipush 99, 2) := by decide +kernel
theorem dL_law_356 : decode cL_law 356 = .ok (.if_icmp .le 7, 3) := by decide +kernel
theorem dL_law_359 : decode cL_law 359 = .ok (.iconst 1, 1) := by decide +kernel
theorem dL_law_360 : decode cL_law 360 = .ok (.goto 4, 3) := by decide +kernel
theorem dL_law_363 : decode cL_law 363 = .ok (.iconst 0, 1) := by decide +kernel
theorem dL_law_364 : decode cL_law 364 = .ok (.istore 11, 2) := by decide +kernel
theorem dL_law_366 : decode cL_law 366 = .ok (.iload 15, 2) := by decide +kernel
theorem dL_law_368 : decode cL_law 368 = .ok (.ifCond .ne 7, 3) := by decide +kernel
theorem dL_law_371 : decode cL_law 371 = .ok (.ldc 49, 2) := by decide +kernel
theorem dL_law_373 : decode cL_law 373 = .ok (.istore 12, 2) := by decide +kernel
theorem dL_law_375 : decode cL_law 375 = .ok (.iload 11, 2) := by decide +kernel
theorem dL_law_377 : decode cL_law 377 = .ok (.ifCond .eq 27, 3) := by decide +kernel
theorem dL_law_380 : decode cL_law 380 = .ok (.aload 6, 2) := by decide +kernel
theorem dL_law_382 : decode cL_law 382 = .ok (.getfield 143, 3) := by decide +kernel
theorem dL_law_385 : decode cL_law 385 = .ok (.iload 13, 2) := by decide +kernel
theorem dL_law_387 : decode cL_law 387 = .ok (.aaload, 1) := by decide +kernel
theorem dL_law_388 : decode cL_law 388 = .ok (.iconst 0, 1) := by decide +kernel
theorem dL_law_389 : decode cL_law 389 = .ok (.iaload, 1) := by decide +kernel
theorem dL_law_390 : decode cL_law 390 = .ok (.istore 12, 2) := by decide +kernel
theorem dL_law_392 : decode cL_law 392 = .ok (.aload 6, 2) := by decide +kernel
theorem dL_law_394 : decode cL_law 394 = .ok (.getfield 143, 3) := by decide +kernel
theorem dL_law_397 : decode cL_law 397 = .ok (.iload 13, 2) := by decide +kernel
theorem dL_law_399 : decode cL_law 399 = .ok (.aaload, 1) := by decide +kernel
theorem dL_law_400 : decode cL_law 400 = .ok (.iconst 0, 1) := by decide +kernel
theorem dL_law_401 : decode cL_law 401 = .ok (.iload 14, 2) := by decide +kernel
theorem dL_law_403 : decode cL_law 403 = .ok (.iastore, 1) := by decide +kernel
theorem dL_law_404 : decode cL_law 404 = .ok (.aload_n 3, 1) := by decide +kernel
theorem dL_law_405 : decode cL_law 405 = .ok (.iload 13, 2) := by decide +kernel
theorem dL_law_407 : decode cL_law 407 = .ok (.iload 14, 2) := by decide +kernel
theorem dL_law_409 : decode cL_law 409 = .ok (.invokestatic 268, 3) := by decide +kernel
theorem dL_law_412 : decode cL_law 412 = .ok (.iload 12, 2) := by decide +kernel
theorem dL_law_414 : decode cL_law 414 = .ok (.if_icmp .ne 7, 3) := by decide +kernel
theorem dL_law_417 : decode cL_law 417 = .ok (.iconst 1, 1) := by decide +kernel
theorem dL_law_418 : decode cL_law 418 = .ok (.goto 4, 3) := by decide +kernel
theorem dL_law_421 : decode cL_law 421 = .ok (.iconst 0, 1) := by decide +kernel
theorem dL_law_422 : decode cL_law 422 = .ok (.istore_n 1, 1) := by decide +kernel
theorem dL_law_423 : decode cL_law 423 = .ok (.goto 502, 3) := by decide +kernel
theorem dL_law_426 : decode cL_law 426 = .ok (.iconst 1, 1) := by decide +kernel
theorem dL_law_427 : decode cL_law 427 = .ok (.aload 5, 2) := by decide +kernel
theorem dL_law_429 : decode cL_law 429 = .ok (.bipush 20, 2) := by decide +kernel
theorem dL_law_431 : decode cL_law 431 = .ok (.invokevirtual 114, 3) := by decide +kernel
theorem dL_law_434 : decode cL_law 434 = .ok (.iadd, 1) := by decide +kernel
theorem dL_law_435 : decode cL_law 435 = .ok (.istore 16, 2) := by decide +kernel
theorem dL_law_437 : decode cL_law 437 = .ok (.aload 5, 2) := by decide +kernel
theorem dL_law_439 : decode cL_law 439 = .ok (.bipush 103, 2) := by decide +kernel
theorem dL_law_441 : decode cL_law 441 = .ok (.invokevirtual 114, 3) := by decide +kernel
theorem dL_law_444 : decode cL_law 444 = .ok (.bipush 51, 2) := by decide +kernel
theorem dL_law_446 : decode cL_law 446 = .ok (.isub, 1) := by decide +kernel
theorem dL_law_447 : decode cL_law 447 = .ok (.istore 17, 2) := by decide +kernel
theorem dL_law_449 : decode cL_law 449 = .ok (.iload 16, 2) := by decide +kernel
theorem dL_law_451 : decode cL_law 451 = .ok (.iconst 1, 1) := by decide +kernel
theorem dL_law_452 : decode cL_law 452 = .ok (.if_icmp .le 28, 3) := by decide +kernel
theorem dL_law_455 : decode cL_law 455 = .ok (.iload 16, 2) := by decide +kernel
theorem dL_law_457 : decode cL_law 457 = .ok (.bipush 20, 2) := by decide +kernel
theorem dL_law_459 : decode cL_law 459 = .ok (.if_icmp .ge 21, 3) := by decide +kernel
theorem dL_law_462 : decode cL_law 462 = .ok (.iload 17, 2) := by decide +kernel
theorem dL_law_464 : decode cL_law 464 = .ok (.bipush (-51), 2) := by decide +kernel
theorem dL_law_466 : decode cL_law 466 = .ok (.if_icmp .le 14, 3) := by decide +kernel
theorem dL_law_469 : decode cL_law 469 = .ok (.iload 17, 2) := by decide +kernel
theorem dL_law_471 : decode cL_law 471 = .ok (.bipush 51, 2) := by decide +kernel
theorem dL_law_473 : decode cL_law 473 = .ok (.if_icmp .ge 7, 3) := by decide +kernel
theorem dL_law_476 : decode cL_law 476 = .ok (.iconst 1, 1) := by decide +kernel
theorem dL_law_477 : decode cL_law 477 = .ok (.goto 4, 3) := by decide +kernel
theorem dL_law_480 : decode cL_law 480 = .ok (.iconst 0, 1) := by decide +kernel
theorem dL_law_481 : decode cL_law 481 = .ok (.istore 11, 2) := by decide +kernel
theorem dL_law_483 : decode cL_law 483 = .ok (.iload 11, 2) := by decide +kernel
theorem dL_law_485 : decode cL_law 485 = .ok (.ifCond .eq 27, 3) := by decide +kernel
theorem dL_law_488 : decode cL_law 488 = .ok (.aload 6, 2) := by decide +kernel
theorem dL_law_490 : decode cL_law 490 = .ok (.getfield 270, 3) := by decide +kernel
theorem dL_law_493 : decode cL_law 493 = .ok (.iload 16, 2) := by decide +kernel
theorem dL_law_495 : decode cL_law 495 = .ok (.aaload, 1) := by decide +kernel
theorem dL_law_496 : decode cL_law 496 = .ok (.iconst 3, 1) := by decide +kernel
theorem dL_law_497 : decode cL_law 497 = .ok (.iaload, 1) := by decide +kernel
theorem dL_law_498 : decode cL_law 498 = .ok (.istore 12, 2) := by decide +kernel
theorem dL_law_500 : decode cL_law 500 = .ok (.aload 6, 2) := by decide +kernel
theorem dL_law_502 : decode cL_law 502 = .ok (.getfield 270, 3) := by decide +kernel
theorem dL_law_505 : decode cL_law 505 = .ok (.iload 16, 2) := by decide +kernel
theorem dL_law_507 : decode cL_law 507 = .ok (.aaload, 1) := by decide +kernel
theorem dL_law_508 : decode cL_law 508 = .ok (.iconst 3, 1) := by decide +kernel
theorem dL_law_509 : decode cL_law 509 = .ok (.iload 17, 2) := by decide +kernel
theorem dL_law_511 : decode cL_law 511 = .ok (.iastore, 1) := by decide +kernel
theorem dL_law_512 : decode cL_law 512 = .ok (.aload_n 3, 1) := by decide +kernel
theorem dL_law_513 : decode cL_law 513 = .ok (.iload 16, 2) := by decide +kernel
theorem dL_law_515 : decode cL_law 515 = .ok (.iload 17, 2) := by decide +kernel
theorem dL_law_517 : decode cL_law 517 = .ok (.invokestatic 258, 3) := by decide +kernel
theorem dL_law_520 : decode cL_law 520 = .ok (.iload 12, 2) := by decide +kernel
theorem dL_law_522 : decode cL_law 522 = .ok (.if_icmp .ne 7, 3) := by decide +kernel
theorem dL_law_525 : decode cL_law 525 = .ok (.iconst 1, 1) := by decide +kernel
theorem dL_law_526 : decode cL_law 526 = .ok (.goto 4, 3) := by decide +kernel
theorem dL_law_529 : decode cL_law 529 = .ok (.iconst 0, 1) := by decide +kernel
theorem dL_law_530 : decode cL_law 530 = .ok (.istore_n 1, 1) := by decide +kernel
theorem dL_law_531 : decode cL_law 531 = .ok (.goto 394, 3) := by decide +kernel
theorem dL_law_534 : decode cL_law 534 = .ok (.aload 5, 2) := by decide +kernel
theorem dL_law_536 : decode cL_law 536 = .ok (.aload 6, 2) := by decide +kernel
theorem dL_law_538 : decode cL_law 538 = .ok (.getfield 184, 3) := by decide +kernel
theorem dL_law_541 : decode cL_law 541 = .ok (.arraylength, 1) := by decide +kernel
theorem dL_law_542 : decode cL_law 542 = .ok (.iconst 1, 1) := by decide +kernel
theorem dL_law_543 : decode cL_law 543 = .ok (.iadd, 1) := by decide +kernel
theorem dL_law_544 : decode cL_law 544 = .ok (.invokevirtual 114, 3) := by decide +kernel
theorem dL_law_547 : decode cL_law 547 = .ok (.istore 18, 2) := by decide +kernel
theorem dL_law_549 : decode cL_law 549 = .ok (.iload 18, 2) := by decide +kernel
theorem dL_law_551 : decode cL_law 551 = .ok (.aload 6, 2) := by decide +kernel
theorem dL_law_553 : decode cL_law 553 = .ok (.getfield 184, 3) := by decide +kernel
theorem dL_law_556 : decode cL_law 556 = .ok (.arraylength, 1) := by decide +kernel
theorem dL_law_557 : decode cL_law 557 = .ok (.if_icmp .ge 22, 3) := by decide +kernel
theorem dL_law_560 : decode cL_law 560 = .ok (.aload 6, 2) := by decide +kernel
theorem dL_law_562 : decode cL_law 562 = .ok (.getfield 184, 3) := by decide +kernel
theorem dL_law_565 : decode cL_law 565 = .ok (.iload 18, 2) := by decide +kernel
theorem dL_law_567 : decode cL_law 567 = .ok (.aaload, 1) := by decide +kernel
theorem dL_law_568 : decode cL_law 568 = .ok (.getfield 228, 3) := by decide +kernel
theorem dL_law_571 : decode cL_law 571 = .ok (.iconst 2, 1) := by decide +kernel
theorem dL_law_572 : decode cL_law 572 = .ok (.if_icmp .ge 7, 3) := by decide +kernel
theorem dL_law_575 : decode cL_law 575 = .ok (.iconst 1, 1) := by decide +kernel
theorem dL_law_576 : decode cL_law 576 = .ok (.goto 4, 3) := by decide +kernel
theorem dL_law_579 : decode cL_law 579 = .ok (.iconst 0, 1) := by decide +kernel
theorem dL_law_580 : decode cL_law 580 = .ok (.istore 11, 2) := by decide +kernel
theorem dL_law_582 : decode cL_law 582 = .ok (.iload 18, 2) := by decide +kernel
theorem dL_law_584 : decode cL_law 584 = .ok (.aload 6, 2) := by decide +kernel
theorem dL_law_586 : decode cL_law 586 = .ok (.getfield 184, 3) := by decide +kernel
theorem dL_law_589 : decode cL_law 589 = .ok (.arraylength, 1) := by decide +kernel
theorem dL_law_590 : decode cL_law 590 = .ok (.if_icmp .ne 8, 3) := by decide +kernel
theorem dL_law_593 : decode cL_law 593 = .ok (.ldc 49, 2) := by decide +kernel
theorem dL_law_595 : decode cL_law 595 = .ok (.goto 24, 3) := by decide +kernel
theorem dL_law_598 : decode cL_law 598 = .ok (.iload 11, 2) := by decide +kernel
theorem dL_law_600 : decode cL_law 600 = .ok (.ifCond .eq 17, 3) := by decide +kernel
theorem dL_law_603 : decode cL_law 603 = .ok (.aload 6, 2) := by decide +kernel
theorem dL_law_605 : decode cL_law 605 = .ok (.getfield 184, 3) := by decide +kernel
theorem dL_law_608 : decode cL_law 608 = .ok (.iload 18, 2) := by decide +kernel
theorem dL_law_610 : decode cL_law 610 = .ok (.aaload, 1) := by decide +kernel
theorem dL_law_611 : decode cL_law 611 = .ok (.getfield 228, 3) := by decide +kernel
theorem dL_law_614 : decode cL_law 614 = .ok (.goto 5, 3) := by decide +kernel
theorem dL_law_617 : decode cL_law 617 = .ok (.ldc 85, 2) := by decide +kernel
theorem dL_law_619 : decode cL_law 619 = .ok (.istore 12, 2) := by decide +kernel
theorem dL_law_621 : decode cL_law 621 = .ok (.iload 11, 2) := by decide +kernel
theorem dL_law_623 : decode cL_law 623 = .ok (.ifCond .eq 17, 3) := by decide +kernel
theorem dL_law_626 : decode cL_law 626 = .ok (.aload 6, 2) := by decide +kernel
theorem dL_law_628 : decode cL_law 628 = .ok (.aload 6, 2) := by decide +kernel
theorem dL_law_630 : decode cL_law 630 = .ok (.getfield 184, 3) := by decide +kernel
theorem dL_law_633 : decode cL_law 633 = .ok (.iload 18, 2) := by decide +kernel
theorem dL_law_635 : decode cL_law 635 = .ok (.aaload, 1) := by decide +kernel
theorem dL_law_636 : decode cL_law 636 = .ok (.iconst 5, 1) := by decide +kernel
theorem dL_law_637 : decode cL_law 637 = .ok (.invokevirtual 272, 3) := by decide +kernel
theorem dL_law_640 : decode cL_law 640 = .ok (.aload_n 3, 1) := by decide +kernel
theorem dL_law_641 : decode cL_law 641 = .ok (.iload 18, 2) := by decide +kernel
theorem dL_law_643 : decode cL_law 643 = .ok (.invokestatic 276, 3) := by decide +kernel
theorem dL_law_646 : decode cL_law 646 = .ok (.iload 12, 2) := by decide +kernel
theorem dL_law_648 : decode cL_law 648 = .ok (.if_icmp .ne 7, 3) := by decide +kernel
theorem dL_law_651 : decode cL_law 651 = .ok (.iconst 1, 1) := by decide +kernel
theorem dL_law_652 : decode cL_law 652 = .ok (.goto 4, 3) := by decide +kernel
theorem dL_law_655 : decode cL_law 655 = .ok (.iconst 0, 1) := by decide +kernel
theorem dL_law_656 : decode cL_law 656 = .ok (.istore_n 1, 1) := by decide +kernel
theorem dL_law_657 : decode cL_law 657 = .ok (.goto 268, 3) := by decide +kernel
theorem dL_law_660 : decode cL_law 660 = .ok (.aload 5, 2) := by decide +kernel
theorem dL_law_662 : decode cL_law 662 = .ok (.bipush 14, 2) := by decide +kernel
theorem dL_law_664 : decode cL_law 664 = .ok (.invokevirtual 114, 3) := by decide +kernel
theorem dL_law_667 : decode cL_law 667 = .ok (.ifCond .ne 7, 3) := by decide +kernel
theorem dL_law_670 : decode cL_law 670 = .ok (.iconst 0, 1) := by decide +kernel
theorem dL_law_671 : decode cL_law 671 = .ok (.goto 14, 3) := by decide +kernel
theorem dL_law_674 : decode cL_law 674 = .ok (.bipush 100, 2) := by decide +kernel
theorem dL_law_676 : decode cL_law 676 = .ok (.aload 5, 2) := by decide +kernel
theorem dL_law_678 : decode cL_law 678 = .ok (.sipush 900, 3) := by decide +kernel
theorem dL_law_681 : decode cL_law 681 = .ok (.invokevirtual 114, 3) := by decide +kernel
theorem dL_law_684 : decode cL_law 684 = .ok (.iadd, 1) := by decide +kernel
theorem dL_law_685 : decode cL_law 685 = .ok (.istore 19, 2) := by decide +kernel
theorem dL_law_687 : decode cL_law 687 = .ok (.iconst 1, 1) := by decide +kernel
theorem dL_law_688 : decode cL_law 688 = .ok (.iload 19, 2) := by decide +kernel
theorem dL_law_690 : decode cL_law 690 = .ok (.bipush 40, 2) := by decide +kernel
theorem dL_law_692 : decode cL_law 692 = .ok (.idiv, 1) := by decide +kernel
theorem dL_law_693 : decode cL_law 693 = .ok (.iconst 1, 1) := by decide +kernel
theorem dL_law_694 : decode cL_law 694 = .ok (.aload 5, 2) := by decide +kernel
theorem dL_law_696 : decode cL_law 696 = .ok (.bipush 20, 2) := by decide +kernel
theorem dL_law_698 : decode cL_law 698 = .ok (.invokevirtual 114, 3) := by decide +kernel
theorem dL_law_701 : decode cL_law 701 = .ok (.iadd, 1) := by decide +kernel
theorem dL_law_702 : decode cL_law 702 = .ok (.imul, 1) := by decide +kernel
theorem dL_law_703 : decode cL_law 703 = .ok (.iadd, 1) := by decide +kernel
theorem dL_law_704 : decode cL_law 704 = .ok (.istore 20, 2) := by decide +kernel
theorem dL_law_706 : decode cL_law 706 = .ok (.iload 19, 2) := by decide +kernel
theorem dL_law_708 : decode cL_law 708 = .ok (.ifCond .ne 7, 3) := by decide +kernel
theorem dL_law_711 : decode cL_law 711 = .ok (.iconst (-1), 1) := by decide +kernel
theorem dL_law_712 : decode cL_law 712 = .ok (.goto 10, 3) := by decide +kernel
theorem dL_law_715 : decode cL_law 715 = .ok (.iload 20, 2) := by decide +kernel
theorem dL_law_717 : decode cL_law 717 = .ok (.iload 19, 2) := by decide +kernel
theorem dL_law_719 : decode cL_law 719 = .ok (.invokestatic 278, 3) := by decide +kernel
theorem dL_law_722 : decode cL_law 722 = .ok (.istore 21, 2) := by decide +kernel
theorem dL_law_724 : decode cL_law 724 = .ok (.iload 21, 2) := by decide +kernel
theorem dL_law_726 : decode cL_law 726 = .ok (.ifCond .le 18, 3) := by decide +kernel
theorem dL_law_729 : decode cL_law 729 = .ok (.aload 6, 2) := by decide +kernel
theorem dL_law_731 : decode cL_law 731 = .ok (.getfield 184, 3) := by decide +kernel
theorem dL_law_734 : decode cL_law 734 = .ok (.arraylength, 1) := by decide +kernel
theorem dL_law_735 : decode cL_law 735 = .ok (.bipush 20, 2) := by decide +kernel
theorem dL_law_737 : decode cL_law 737 = .ok (.if_icmp .ge 7, 3) := by decide +kernel
theorem dL_law_740 : decode cL_law 740 = .ok (.iconst 1, 1) := by decide +kernel
theorem dL_law_741 : decode cL_law 741 = .ok (.goto 4, 3) := by decide +kernel
theorem dL_law_744 : decode cL_law 744 = .ok (.iconst 0, 1) := by decide +kernel
theorem dL_law_745 : decode cL_law 745 = .ok (.istore 11, 2) := by decide +kernel
theorem dL_law_747 : decode cL_law 747 = .ok (.iload 21, 2) := by decide +kernel
theorem dL_law_749 : decode cL_law 749 = .ok (.ifCond .le 21, 3) := by decide +kernel
theorem dL_law_752 : decode cL_law 752 = .ok (.iload 11, 2) := by decide +kernel
theorem dL_law_754 : decode cL_law 754 = .ok (.ifCond .eq 12, 3) := by decide +kernel
theorem dL_law_757 : decode cL_law 757 = .ok (.aload 6, 2) := by decide +kernel
theorem dL_law_759 : decode cL_law 759 = .ok (.getfield 184, 3) := by decide +kernel
theorem dL_law_762 : decode cL_law 762 = .ok (.arraylength, 1) := by decide +kernel
theorem dL_law_763 : decode cL_law 763 = .ok (.goto 5, 3) := by decide +kernel
theorem dL_law_766 : decode cL_law 766 = .ok (.ldc 85, 2) := by decide +kernel
theorem dL_law_768 : decode cL_law 768 = .ok (.istore 12, 2) := by decide +kernel
theorem dL_law_770 : decode cL_law 770 = .ok (.iload 11, 2) := by decide +kernel
theorem dL_law_772 : decode cL_law 772 = .ok (.ifCond .eq 10, 3) := by decide +kernel
theorem dL_law_775 : decode cL_law 775 = .ok (.aload 6, 2) := by decide +kernel
theorem dL_law_777 : decode cL_law 777 = .ok (.iload 21, 2) := by decide +kernel
theorem dL_law_779 : decode cL_law 779 = .ok (.invokevirtual 281, 3) := by decide +kernel
theorem dL_law_782 : decode cL_law 782 = .ok (.aload_n 3, 1) := by decide +kernel
theorem dL_law_783 : decode cL_law 783 = .ok (.iload 20, 2) := by decide +kernel
theorem dL_law_785 : decode cL_law 785 = .ok (.iload 19, 2) := by decide +kernel
theorem dL_law_787 : decode cL_law 787 = .ok (.invokestatic 249, 3) := by decide +kernel
theorem dL_law_790 : decode cL_law 790 = .ok (.iload 12, 2) := by decide +kernel
theorem dL_law_792 : decode cL_law 792 = .ok (.if_icmp .ne 7, 3) := by decide +kernel
theorem dL_law_795 : decode cL_law 795 = .ok (.iconst 1, 1) := by decide +kernel
theorem dL_law_796 : decode cL_law 796 = .ok (.goto 4, 3) := by decide +kernel
theorem dL_law_799 : decode cL_law 799 = .ok (.iconst 0, 1) := by decide +kernel
theorem dL_law_800 : decode cL_law 800 = .ok (.istore_n 1, 1) := by decide +kernel
theorem dL_law_801 : decode cL_law 801 = .ok (.goto 124, 3) := by decide +kernel
theorem dL_law_804 : decode cL_law 804 = .ok (.aload 5, 2) := by decide +kernel
theorem dL_law_806 : decode cL_law 806 = .ok (.bipush 9, 2) := by decide +kernel
theorem dL_law_808 : decode cL_law 808 = .ok (.invokevirtual 114, 3) := by decide +kernel
theorem dL_law_811 : decode cL_law 811 = .ok (.ifCond .ne 8, 3) := by decide +kernel
theorem dL_law_814 : decode cL_law 814 = .ok (.bipush 61, 2) := by decide +kernel
theorem dL_law_816 : decode cL_law 816 = .ok (.goto 26, 3) := by decide +kernel
theorem dL_law_819 : decode cL_law 819 = .ok (.iconst 1, 1) := by decide +kernel
theorem dL_law_820 : decode cL_law 820 = .ok (.aload 5, 2) := by decide +kernel
theorem dL_law_822 : decode cL_law 822 = .ok (.aload 5, 2) := by decide +kernel
theorem dL_law_824 : decode cL_law 824 = .ok (.iconst 2, 1) := by decide +kernel
theorem dL_law_825 : decode cL_law 825 = .ok (.invokevirtual 114, 3) := by decide +kernel
theorem dL_law_828 : decode cL_law 828 = .ok (.ifCond .ne 8, 3) := by decide +kernel
theorem dL_law_831 : decode cL_law 831 = .ok (.bipush 60, 2) := by decide +kernel
theorem dL_law_833 : decode cL_law 833 = .ok (.goto 5, 3) := by decide +kernel
theorem dL_law_836 : decode cL_law 836 = .ok (.bipush 9, 2) := by decide +kernel
theorem dL_law_838 : decode cL_law 838 = .ok (.invokevirtual 114, 3) := by decide +kernel
theorem dL_law_841 : decode cL_law 841 = .ok (.iadd, 1) := by decide +kernel
theorem dL_law_842 : decode cL_law 842 = .ok (.istore 22, 2) := by decide +kernel
theorem dL_law_844 : decode cL_law 844 = .ok (.iload 22, 2) := by decide +kernel
theorem dL_law_846 : decode cL_law 846 = .ok (.bipush 61, 2) := by decide +kernel
theorem dL_law_848 : decode cL_law 848 = .ok (.if_icmp .ge 7, 3) := by decide +kernel
theorem dL_law_851 : decode cL_law 851 = .ok (.iconst 1, 1) := by decide +kernel
theorem dL_law_852 : decode cL_law 852 = .ok (.goto 4, 3) := by decide +kernel
theorem dL_law_855 : decode cL_law 855 = .ok (.iconst 0, 1) := by decide +kernel
theorem dL_law_856 : decode cL_law 856 = .ok (.istore 11, 2) := by decide +kernel
theorem dL_law_858 : decode cL_law 858 = .ok (.aload 6, 2) := by decide +kernel
theorem dL_law_860 : decode cL_law 860 = .ok (.iconst 3, 1) := by decide +kernel
theorem dL_law_861 : decode cL_law 861 = .ok (.invokevirtual 232, 3) := by decide +kernel
theorem dL_law_864 : decode cL_law 864 = .ok (.istore 23, 2) := by decide +kernel
theorem dL_law_866 : decode cL_law 866 = .ok (.iconst 0, 1) := by decide +kernel
theorem dL_law_867 : decode cL_law 867 = .ok (.istore 24, 2) := by decide +kernel
theorem dL_law_869 : decode cL_law 869 = .ok (.iload 24, 2) := by decide +kernel
theorem dL_law_871 : decode cL_law 871 = .ok (.iload 22, 2) := by decide +kernel
theorem dL_law_873 : decode cL_law 873 = .ok (.if_icmp .ge 19, 3) := by decide +kernel
theorem dL_law_876 : decode cL_law 876 = .ok (.iload 11, 2) := by decide +kernel
theorem dL_law_878 : decode cL_law 878 = .ok (.ifCond .eq 14, 3) := by decide +kernel
theorem dL_law_881 : decode cL_law 881 = .ok (.aload 6, 2) := by decide +kernel
theorem dL_law_883 : decode cL_law 883 = .ok (.invokevirtual 283, 3) := by decide +kernel
theorem dL_law_886 : decode cL_law 886 = .ok (.iinc 24 1, 3) := by decide +kernel
theorem dL_law_889 : decode cL_law 889 = .ok (.goto (-20), 3) := by decide +kernel
theorem dL_law_892 : decode cL_law 892 = .ok (.iload 11, 2) := by decide +kernel
theorem dL_law_894 : decode cL_law 894 = .ok (.ifCond .eq 14, 3) := by decide +kernel
theorem dL_law_897 : decode cL_law 897 = .ok (.aload 6, 2) := by decide +kernel
theorem dL_law_899 : decode cL_law 899 = .ok (.iconst 3, 1) := by decide +kernel
theorem dL_law_900 : decode cL_law 900 = .ok (.invokevirtual 232, 3) := by decide +kernel
theorem dL_law_903 : decode cL_law 903 = .ok (.iload 23, 2) := by decide +kernel
theorem dL_law_905 : decode cL_law 905 = .ok (.isub, 1) := by decide +kernel
theorem dL_law_906 : decode cL_law 906 = .ok (.istore 12, 2) := by decide +kernel
theorem dL_law_908 : decode cL_law 908 = .ok (.aload_n 3, 1) := by decide +kernel
theorem dL_law_909 : decode cL_law 909 = .ok (.iload 22, 2) := by decide +kernel
theorem dL_law_911 : decode cL_law 911 = .ok (.invokestatic 247, 3) := by decide +kernel
theorem dL_law_914 : decode cL_law 914 = .ok (.iload 12, 2) := by decide +kernel
theorem dL_law_916 : decode cL_law 916 = .ok (.if_icmp .ne 7, 3) := by decide +kernel
theorem dL_law_919 : decode cL_law 919 = .ok (.iconst 1, 1) := by decide +kernel
theorem dL_law_920 : decode cL_law 920 = .ok (.goto 4, 3) := by decide +kernel
theorem dL_law_923 : decode cL_law 923 = .ok (.iconst 0, 1) := by decide +kernel
theorem dL_law_924 : decode cL_law 924 = .ok (.istore_n 1, 1) := by decide +kernel
theorem dL_law_925 : decode cL_law 925 = .ok (.iload 11, 2) := by decide +kernel
theorem dL_law_927 : decode cL_law 927 = .ok (.ifCond .eq 39, 3) := by decide +kernel
theorem dL_law_930 : decode cL_law 930 = .ok (.bipush 8, 2) := by decide +kernel
theorem dL_law_932 : decode cL_law 932 = .ok (.istore 13, 2) := by decide +kernel
theorem dL_law_934 : decode cL_law 934 = .ok (.iload 13, 2) := by decide +kernel
theorem dL_law_936 : decode cL_law 936 = .ok (.ifCond .le 21, 3) := by decide +kernel
theorem dL_law_939 : decode cL_law 939 = .ok (.aload 7, 2) := by decide +kernel
theorem dL_law_941 : decode cL_law 941 = .ok (.iload 13, 2) := by decide +kernel
theorem dL_law_943 : decode cL_law 943 = .ok (.aload 7, 2) := by decide +kernel
theorem dL_law_945 : decode cL_law 945 = .ok (.iload 13, 2) := by decide +kernel
theorem dL_law_947 : decode cL_law 947 = .ok (.iconst 1, 1) := by decide +kernel
theorem dL_law_948 : decode cL_law 948 = .ok (.isub, 1) := by decide +kernel
theorem dL_law_949 : decode cL_law 949 = .ok (.aaload, 1) := by decide +kernel
theorem dL_law_950 : decode cL_law 950 = .ok (.aastore, 1) := by decide +kernel
theorem dL_law_951 : decode cL_law 951 = .ok (.iinc 13 (-1), 3) := by decide +kernel
theorem dL_law_954 : decode cL_law 954 = .ok (.goto (-20), 3) := by decide +kernel
theorem dL_law_957 : decode cL_law 957 = .ok (.aload 7, 2) := by decide +kernel
theorem dL_law_959 : decode cL_law 959 = .ok (.iconst 0, 1) := by decide +kernel
theorem dL_law_960 : decode cL_law 960 = .ok (.aload 10, 2) := by decide +kernel
theorem dL_law_962 : decode cL_law 962 = .ok (.aastore, 1) := by decide +kernel
theorem dL_law_963 : decode cL_law 963 = .ok (.iinc 8 1, 3) := by decide +kernel
theorem dL_law_966 : decode cL_law 966 = .ok (.iload_n 1, 1) := by decide +kernel
theorem dL_law_967 : decode cL_law 967 = .ok (.ifCond .eq 16, 3) := by decide +kernel
theorem dL_law_970 : decode cL_law 970 = .ok (.aload_n 3, 1) := by decide +kernel
theorem dL_law_971 : decode cL_law 971 = .ok (.aload 6, 2) := by decide +kernel
theorem dL_law_973 : decode cL_law 973 = .ok (.invokestatic 237, 3) := by decide +kernel
theorem dL_law_976 : decode cL_law 976 = .ok (.ifCond .eq 7, 3) := by decide +kernel
theorem dL_law_979 : decode cL_law 979 = .ok (.iconst 1, 1) := by decide +kernel
theorem dL_law_980 : decode cL_law 980 = .ok (.goto 4, 3) := by decide +kernel
theorem dL_law_983 : decode cL_law 983 = .ok (.iconst 0, 1) := by decide +kernel
theorem dL_law_984 : decode cL_law 984 = .ok (.istore_n 1, 1) := by decide +kernel
theorem dL_law_985 : decode cL_law 985 = .ok (.iinc 9 1, 3) := by decide +kernel
theorem dL_law_988 : decode cL_law 988 = .ok (.goto (-788), 3) := by decide +kernel
theorem dL_law_991 : decode cL_law 991 = .ok (.iconst 0, 1) := by decide +kernel
theorem dL_law_992 : decode cL_law 992 = .ok (.istore 9, 2) := by decide +kernel
theorem dL_law_994 : decode cL_law 994 = .ok (.iload 9, 2) := by decide +kernel
theorem dL_law_996 : decode cL_law 996 = .ok (.bipush 8, 2) := by decide +kernel
theorem dL_law_998 : decode cL_law 998 = .ok (.if_icmp .ge 45, 3) := by decide +kernel
theorem dL_law_1001 : decode cL_law 1001 = .ok (.iload 9, 2) := by decide +kernel
theorem dL_law_1003 : decode cL_law 1003 = .ok (.iload 8, 2) := by decide +kernel
theorem dL_law_1005 : decode cL_law 1005 = .ok (.if_icmp .ge 38, 3) := by decide +kernel
theorem dL_law_1008 : decode cL_law 1008 = .ok (.iload_n 1, 1) := by decide +kernel
theorem dL_law_1009 : decode cL_law 1009 = .ok (.ifCond .eq 34, 3) := by decide +kernel
theorem dL_law_1012 : decode cL_law 1012 = .ok (.aload_n 3, 1) := by decide +kernel
theorem dL_law_1013 : decode cL_law 1013 = .ok (.invokevirtual 244, 3) := by decide +kernel
theorem dL_law_1016 : decode cL_law 1016 = .ok (.ifCond .lt 19, 3) := by decide +kernel
theorem dL_law_1019 : decode cL_law 1019 = .ok (.aload_n 3, 1) := by decide +kernel
theorem dL_law_1020 : decode cL_law 1020 = .ok (.aload 7, 2) := by decide +kernel
theorem dL_law_1022 : decode cL_law 1022 = .ok (.iload 9, 2) := by decide +kernel
theorem dL_law_1024 : decode cL_law 1024 = .ok (.aaload, 1) := by decide +kernel
theorem dL_law_1025 : decode cL_law 1025 = .ok (.invokestatic 237, 3) := by decide +kernel
theorem dL_law_1028 : decode cL_law 1028 = .ok (.ifCond .eq 7, 3) := by decide +kernel
theorem dL_law_1031 : decode cL_law 1031 = .ok (.iconst 1, 1) := by decide +kernel
theorem dL_law_1032 : decode cL_law 1032 = .ok (.goto 4, 3) := by decide +kernel
theorem dL_law_1035 : decode cL_law 1035 = .ok (.iconst 0, 1) := by decide +kernel
theorem dL_law_1036 : decode cL_law 1036 = .ok (.istore_n 1, 1) := by decide +kernel
theorem dL_law_1037 : decode cL_law 1037 = .ok (.iinc 9 1, 3) := by decide +kernel
theorem dL_law_1040 : decode cL_law 1040 = .ok (.goto (-46), 3) := by decide +kernel
theorem dL_law_1043 : decode cL_law 1043 = .ok (.iload_n 1, 1) := by decide +kernel
theorem dL_law_1044 : decode cL_law 1044 = .ok (.ifCond .eq 77, 3) := by decide +kernel
theorem dL_law_1047 : decode cL_law 1047 = .ok (.aload_n 3, 1) := by decide +kernel
theorem dL_law_1048 : decode cL_law 1048 = .ok (.iconst 1, 1) := by decide +kernel
theorem dL_law_1049 : decode cL_law 1049 = .ok (.invokestatic 19, 3) := by decide +kernel
theorem dL_law_1052 : decode cL_law 1052 = .ok (.ldc 42, 2) := by decide +kernel
theorem dL_law_1054 : decode cL_law 1054 = .ok (.if_icmp .ne 67, 3) := by decide +kernel
theorem dL_law_1057 : decode cL_law 1057 = .ok (.aload_n 3, 1) := by decide +kernel
theorem dL_law_1058 : decode cL_law 1058 = .ok (.iconst 0, 1) := by decide +kernel
theorem dL_law_1059 : decode cL_law 1059 = .ok (.bipush 7, 2) := by decide +kernel
theorem dL_law_1061 : decode cL_law 1061 = .ok (.invokestatic 212, 3) := by decide +kernel
theorem dL_law_1064 : decode cL_law 1064 = .ok (.ldc 42, 2) := by decide +kernel
theorem dL_law_1066 : decode cL_law 1066 = .ok (.if_icmp .ne 55, 3) := by decide +kernel
theorem dL_law_1069 : decode cL_law 1069 = .ok (.aload_n 3, 1) := by decide +kernel
theorem dL_law_1070 : decode cL_law 1070 = .ok (.iconst (-1), 1) := by decide +kernel
theorem dL_law_1071 : decode cL_law 1071 = .ok (.bipush 7, 2) := by decide +kernel
theorem dL_law_1073 : decode cL_law 1073 = .ok (.invokestatic 212, 3) := by decide +kernel
theorem dL_law_1076 : decode cL_law 1076 = .ok (.ldc 49, 2) := by decide +kernel
theorem dL_law_1078 : decode cL_law 1078 = .ok (.if_icmp .ne 43, 3) := by decide +kernel
theorem dL_law_1081 : decode cL_law 1081 = .ok (.aload_n 3, 1) := by decide +kernel
theorem dL_law_1082 : decode cL_law 1082 = .ok (.iconst (-1), 1) := by decide +kernel
theorem dL_law_1083 : decode cL_law 1083 = .ok (.sipush 301, 3) := by decide +kernel
theorem dL_law_1086 : decode cL_law 1086 = .ok (.invokestatic 286, 3) := by decide +kernel
theorem dL_law_1089 : decode cL_law 1089 = .ok (.ldc 49, 2) := by decide +kernel
theorem dL_law_1091 : decode cL_law 1091 = .ok (.if_icmp .ne 30, 3) := by decide +kernel
theorem dL_law_1094 : decode cL_law 1094 = .ok (.aload_n 3, 1) := by decide +kernel
theorem dL_law_1095 : decode cL_law 1095 = .ok (.bipush 20, 2) := by decide +kernel
theorem dL_law_1097 : decode cL_law 1097 = .ok (.iconst 0, 1) := by decide +kernel
theorem dL_law_1098 : decode cL_law 1098 = .ok (.invokestatic 288, 3) := by decide +kernel
theorem dL_law_1101 : decode cL_law 1101 = .ok (.ldc 42, 2) := by decide +kernel
theorem dL_law_1103 : decode cL_law 1103 = .ok (.if_icmp .ne 18, 3) := by decide +kernel
theorem dL_law_1106 : decode cL_law 1106 = .ok (.aload_n 3, 1) := by decide +kernel
theorem dL_law_1107 : decode cL_law 1107 = .ok (.bipush 6, 2) := by decide +kernel
theorem dL_law_1109 : decode cL_law 1109 = .ok (.invokestatic 230, 3) := by decide +kernel
theorem dL_law_1112 : decode cL_law 1112 = .ok (.ldc 42, 2) := by decide +kernel
theorem dL_law_1114 : decode cL_law 1114 = .ok (.if_icmp .ne 7, 3) := by decide +kernel
theorem dL_law_1117 : decode cL_law 1117 = .ok (.iconst 1, 1) := by decide +kernel
theorem dL_law_1118 : decode cL_law 1118 = .ok (.goto 4, 3) := by decide +kernel
theorem dL_law_1121 : decode cL_law 1121 = .ok (.iconst 0, 1) := by decide +kernel
theorem dL_law_1122 : decode cL_law 1122 = .ok (.istore_n 1, 1) := by decide +kernel
theorem dL_law_1123 : decode cL_law 1123 = .ok (.iinc 2 1, 3) := by decide +kernel
theorem dL_law_1126 : decode cL_law 1126 = .ok (.goto (-1122), 3) := by decide +kernel
theorem dL_law_1129 : decode cL_law 1129 = .ok (.iload_n 1, 1) := by decide +kernel
theorem dL_law_1130 : decode cL_law 1130 = .ok (.ireturn, 1) := by decide +kernel
