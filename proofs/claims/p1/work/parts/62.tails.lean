theorem zi_178_23 : zI 178 23 = some (.iload 4, []) := by decide +kernel
theorem zi_178_25 : zI 178 25 = some (.aload_n 0, []) := by decide +kernel
theorem zi_178_26 : zI 178 26 = some (.arraylength, []) := by decide +kernel
theorem zi_178_27 : zI 178 27 = some (.iconst 4, []) := by decide +kernel
theorem zi_178_28 : zI 178 28 = some (.isub, []) := by decide +kernel
theorem zi_178_29 : zI 178 29 = some (.if_icmp .gt 1566, [1595]) := by decide +kernel
theorem zi_178_32 : zI 178 32 = some (.aload_n 0, []) := by decide +kernel
theorem zi_178_33 : zI 178 33 = some (.iload 4, []) := by decide +kernel
theorem zi_178_35 : zI 178 35 = some (.iaload, []) := by decide +kernel
theorem zi_178_36 : zI 178 36 = some (.bipush 31, []) := by decide +kernel
theorem zi_178_38 : zI 178 38 = some (.iand, []) := by decide +kernel
theorem zi_178_39 : zI 178 39 = some (.tableswitch 1550 0 24 #[113, 193, 249, 305, 373, 386, 442, 510, 578, 646, 714, 782, 850, 918, 986, 999, 1040, 1108, 1176, 1232, 1312, 1368, 1424, 1480, 1536], [1589, 152, 232, 288, 344, 412, 425, 481, 549, 617, 685, 753, 821, 889, 957, 1025, 1038, 1079, 1147, 1215, 1271, 1351, 1407, 1463, 1519, 1575]) := by decide +kernel
theorem zi_178_152 : zI 178 152 = some (.aload_n 1, []) := by decide +kernel
theorem zi_178_153 : zI 178 153 = some (.aload_n 0, []) := by decide +kernel
theorem zi_178_154 : zI 178 154 = some (.iload 4, []) := by decide +kernel
theorem zi_178_156 : zI 178 156 = some (.iconst 1, []) := by decide +kernel
theorem zi_178_157 : zI 178 157 = some (.iadd, []) := by decide +kernel
theorem zi_178_158 : zI 178 158 = some (.iaload, []) := by decide +kernel
theorem zi_178_159 : zI 178 159 = some (.aload_n 0, []) := by decide +kernel
theorem zi_178_160 : zI 178 160 = some (.iload 4, []) := by decide +kernel
theorem zi_178_162 : zI 178 162 = some (.iconst 2, []) := by decide +kernel
theorem zi_178_163 : zI 178 163 = some (.iadd, []) := by decide +kernel
theorem zi_178_164 : zI 178 164 = some (.iaload, []) := by decide +kernel
theorem zi_178_165 : zI 178 165 = some (.aload_n 0, []) := by decide +kernel
theorem zi_178_166 : zI 178 166 = some (.iload 4, []) := by decide +kernel
theorem zi_178_168 : zI 178 168 = some (.iconst 3, []) := by decide +kernel
theorem zi_178_169 : zI 178 169 = some (.iadd, []) := by decide +kernel
theorem zi_178_170 : zI 178 170 = some (.iaload, []) := by decide +kernel
theorem zi_178_171 : zI 178 171 = some (.aload_n 3, []) := by decide +kernel
theorem zi_178_175 : zI 178 175 = some (.istore 5, []) := by decide +kernel
theorem zi_178_177 : zI 178 177 = some (.aload_n 2, []) := by decide +kernel
theorem zi_178_178 : zI 178 178 = some (.aload_n 0, []) := by decide +kernel
theorem zi_178_179 : zI 178 179 = some (.iload 4, []) := by decide +kernel
theorem zi_178_181 : zI 178 181 = some (.iconst 1, []) := by decide +kernel
theorem zi_178_182 : zI 178 182 = some (.iadd, []) := by decide +kernel
theorem zi_178_183 : zI 178 183 = some (.iaload, []) := by decide +kernel
theorem zi_178_184 : zI 178 184 = some (.aload_n 0, []) := by decide +kernel
theorem zi_178_185 : zI 178 185 = some (.iload 4, []) := by decide +kernel
theorem zi_178_187 : zI 178 187 = some (.iconst 2, []) := by decide +kernel
theorem zi_178_188 : zI 178 188 = some (.iadd, []) := by decide +kernel
theorem zi_178_189 : zI 178 189 = some (.iaload, []) := by decide +kernel
theorem zi_178_190 : zI 178 190 = some (.aload_n 0, []) := by decide +kernel
theorem zi_178_191 : zI 178 191 = some (.iload 4, []) := by decide +kernel
theorem zi_178_193 : zI 178 193 = some (.iconst 3, []) := by decide +kernel
theorem zi_178_194 : zI 178 194 = some (.iadd, []) := by decide +kernel
theorem zi_178_195 : zI 178 195 = some (.iaload, []) := by decide +kernel
theorem zi_178_196 : zI 178 196 = some (.invokevirtual 90, [132, 0, 3, 7, 692, 693, 19, 691, 0, 690]) := by decide +kernel
theorem zi_178_199 : zI 178 199 = some (.istore 6, []) := by decide +kernel
theorem zi_178_201 : zI 178 201 = some (.aload_n 2, []) := by decide +kernel
theorem zi_178_202 : zI 178 202 = some (.invokevirtual 91, [131, 0, 0, 7, 696, 697, 19, 695, 0, 694]) := by decide +kernel
theorem zi_178_205 : zI 178 205 = some (.iload 5, []) := by decide +kernel
theorem zi_178_207 : zI 178 207 = some (.if_icmp .eq 5, [212]) := by decide +kernel
theorem zi_178_212 : zI 178 212 = some (.iload 5, []) := by decide +kernel
theorem zi_178_214 : zI 178 214 = some (.ifCond .ne 15, [229]) := by decide +kernel
theorem zi_178_217 : zI 178 217 = some (.aload_n 3, []) := by decide +kernel
theorem zi_178_218 : zI 178 218 = some (.iconst 0, []) := by decide +kernel
theorem zi_178_219 : zI 178 219 = some (.laload, []) := by decide +kernel
theorem zi_178_220 : zI 178 220 = some (.iload 6, []) := by decide +kernel
theorem zi_178_222 : zI 178 222 = some (.i2l, []) := by decide +kernel
theorem zi_178_223 : zI 178 223 = some (.lcmp, []) := by decide +kernel
theorem zi_178_224 : zI 178 224 = some (.ifCond .eq 5, [229]) := by decide +kernel
theorem zi_178_229 : zI 178 229 = some (.goto 1360, [1589]) := by decide +kernel
theorem zi_178_232 : zI 178 232 = some (.aload_n 1, []) := by decide +kernel
theorem zi_178_233 : zI 178 233 = some (.aload_n 0, []) := by decide +kernel
theorem zi_178_234 : zI 178 234 = some (.iload 4, []) := by decide +kernel
theorem zi_178_236 : zI 178 236 = some (.iconst 1, []) := by decide +kernel
theorem zi_178_237 : zI 178 237 = some (.iadd, []) := by decide +kernel
theorem zi_178_238 : zI 178 238 = some (.iaload, []) := by decide +kernel
theorem zi_178_239 : zI 178 239 = some (.aload_n 3, []) := by decide +kernel
theorem zi_178_243 : zI 178 243 = some (.istore 5, []) := by decide +kernel
theorem zi_178_245 : zI 178 245 = some (.aload_n 2, []) := by decide +kernel
theorem zi_178_246 : zI 178 246 = some (.aload_n 0, []) := by decide +kernel
theorem zi_178_247 : zI 178 247 = some (.iload 4, []) := by decide +kernel
theorem zi_178_249 : zI 178 249 = some (.iconst 1, []) := by decide +kernel
theorem zi_178_250 : zI 178 250 = some (.iadd, []) := by decide +kernel
theorem zi_178_251 : zI 178 251 = some (.iaload, []) := by decide +kernel
theorem zi_178_252 : zI 178 252 = some (.invokevirtual 98, [133, 0, 1, 7, 701, 702, 19, 700, 0, 699]) := by decide +kernel
theorem zi_178_255 : zI 178 255 = some (.istore 6, []) := by decide +kernel
theorem zi_178_257 : zI 178 257 = some (.aload_n 2, []) := by decide +kernel
theorem zi_178_258 : zI 178 258 = some (.invokevirtual 91, [131, 0, 0, 7, 696, 697, 19, 695, 0, 694]) := by decide +kernel
theorem zi_178_261 : zI 178 261 = some (.iload 5, []) := by decide +kernel
theorem zi_178_263 : zI 178 263 = some (.if_icmp .eq 5, [268]) := by decide +kernel
theorem zi_178_268 : zI 178 268 = some (.iload 5, []) := by decide +kernel
theorem zi_178_270 : zI 178 270 = some (.ifCond .ne 15, [285]) := by decide +kernel
theorem zi_178_273 : zI 178 273 = some (.aload_n 3, []) := by decide +kernel
theorem zi_178_274 : zI 178 274 = some (.iconst 0, []) := by decide +kernel
theorem zi_178_275 : zI 178 275 = some (.laload, []) := by decide +kernel
theorem zi_178_276 : zI 178 276 = some (.iload 6, []) := by decide +kernel
theorem zi_178_278 : zI 178 278 = some (.i2l, []) := by decide +kernel
theorem zi_178_279 : zI 178 279 = some (.lcmp, []) := by decide +kernel
theorem zi_178_280 : zI 178 280 = some (.ifCond .eq 5, [285]) := by decide +kernel
theorem zi_178_285 : zI 178 285 = some (.goto 1304, [1589]) := by decide +kernel
theorem zi_178_288 : zI 178 288 = some (.aload_n 1, []) := by decide +kernel
theorem zi_178_289 : zI 178 289 = some (.aload_n 0, []) := by decide +kernel
theorem zi_178_290 : zI 178 290 = some (.iload 4, []) := by decide +kernel
theorem zi_178_292 : zI 178 292 = some (.iconst 1, []) := by decide +kernel
theorem zi_178_293 : zI 178 293 = some (.iadd, []) := by decide +kernel
theorem zi_178_294 : zI 178 294 = some (.iaload, []) := by decide +kernel
theorem zi_178_295 : zI 178 295 = some (.aload_n 3, []) := by decide +kernel
theorem zi_178_299 : zI 178 299 = some (.istore 5, []) := by decide +kernel
theorem zi_178_301 : zI 178 301 = some (.aload_n 2, []) := by decide +kernel
theorem zi_178_302 : zI 178 302 = some (.aload_n 0, []) := by decide +kernel
theorem zi_178_303 : zI 178 303 = some (.iload 4, []) := by decide +kernel
theorem zi_178_305 : zI 178 305 = some (.iconst 1, []) := by decide +kernel
theorem zi_178_306 : zI 178 306 = some (.iadd, []) := by decide +kernel
theorem zi_178_307 : zI 178 307 = some (.iaload, []) := by decide +kernel
theorem zi_178_308 : zI 178 308 = some (.invokevirtual 101, [134, 0, 1, 7, 706, 707, 19, 705, 0, 704]) := by decide +kernel
theorem zi_178_311 : zI 178 311 = some (.istore 6, []) := by decide +kernel
theorem zi_178_313 : zI 178 313 = some (.aload_n 2, []) := by decide +kernel
theorem zi_178_314 : zI 178 314 = some (.invokevirtual 91, [131, 0, 0, 7, 696, 697, 19, 695, 0, 694]) := by decide +kernel
theorem zi_178_317 : zI 178 317 = some (.iload 5, []) := by decide +kernel
theorem zi_178_319 : zI 178 319 = some (.if_icmp .eq 5, [324]) := by decide +kernel
theorem zi_178_324 : zI 178 324 = some (.iload 5, []) := by decide +kernel
theorem zi_178_326 : zI 178 326 = some (.ifCond .ne 15, [341]) := by decide +kernel
theorem zi_178_329 : zI 178 329 = some (.aload_n 3, []) := by decide +kernel
theorem zi_178_330 : zI 178 330 = some (.iconst 0, []) := by decide +kernel
theorem zi_178_331 : zI 178 331 = some (.laload, []) := by decide +kernel
theorem zi_178_332 : zI 178 332 = some (.iload 6, []) := by decide +kernel
theorem zi_178_334 : zI 178 334 = some (.i2l, []) := by decide +kernel
theorem zi_178_335 : zI 178 335 = some (.lcmp, []) := by decide +kernel
theorem zi_178_336 : zI 178 336 = some (.ifCond .eq 5, [341]) := by decide +kernel
theorem zi_178_341 : zI 178 341 = some (.goto 1248, [1589]) := by decide +kernel
theorem zi_178_344 : zI 178 344 = some (.aload_n 1, []) := by decide +kernel
theorem zi_178_345 : zI 178 345 = some (.aload_n 0, []) := by decide +kernel
theorem zi_178_346 : zI 178 346 = some (.iload 4, []) := by decide +kernel
theorem zi_178_348 : zI 178 348 = some (.iconst 1, []) := by decide +kernel
theorem zi_178_349 : zI 178 349 = some (.iadd, []) := by decide +kernel
theorem zi_178_350 : zI 178 350 = some (.iaload, []) := by decide +kernel
theorem zi_178_351 : zI 178 351 = some (.aload_n 0, []) := by decide +kernel
theorem zi_178_352 : zI 178 352 = some (.iload 4, []) := by decide +kernel
theorem zi_178_354 : zI 178 354 = some (.iconst 2, []) := by decide +kernel
theorem zi_178_355 : zI 178 355 = some (.iadd, []) := by decide +kernel
theorem zi_178_356 : zI 178 356 = some (.iaload, []) := by decide +kernel
theorem zi_178_357 : zI 178 357 = some (.aload_n 3, []) := by decide +kernel
theorem zi_178_361 : zI 178 361 = some (.istore 5, []) := by decide +kernel
theorem zi_178_363 : zI 178 363 = some (.aload_n 2, []) := by decide +kernel
theorem zi_178_364 : zI 178 364 = some (.aload_n 0, []) := by decide +kernel
theorem zi_178_365 : zI 178 365 = some (.iload 4, []) := by decide +kernel
theorem zi_178_367 : zI 178 367 = some (.iconst 1, []) := by decide +kernel
theorem zi_178_368 : zI 178 368 = some (.iadd, []) := by decide +kernel
theorem zi_178_369 : zI 178 369 = some (.iaload, []) := by decide +kernel
theorem zi_178_370 : zI 178 370 = some (.aload_n 0, []) := by decide +kernel
theorem zi_178_371 : zI 178 371 = some (.iload 4, []) := by decide +kernel
theorem zi_178_373 : zI 178 373 = some (.iconst 2, []) := by decide +kernel
theorem zi_178_374 : zI 178 374 = some (.iadd, []) := by decide +kernel
theorem zi_178_375 : zI 178 375 = some (.iaload, []) := by decide +kernel
theorem zi_178_376 : zI 178 376 = some (.invokevirtual 105, [135, 0, 2, 7, 711, 712, 19, 710, 0, 709]) := by decide +kernel
theorem zi_178_379 : zI 178 379 = some (.istore 6, []) := by decide +kernel
theorem zi_178_381 : zI 178 381 = some (.aload_n 2, []) := by decide +kernel
theorem zi_178_382 : zI 178 382 = some (.invokevirtual 91, [131, 0, 0, 7, 696, 697, 19, 695, 0, 694]) := by decide +kernel
theorem zi_178_385 : zI 178 385 = some (.iload 5, []) := by decide +kernel
theorem zi_178_387 : zI 178 387 = some (.if_icmp .eq 5, [392]) := by decide +kernel
theorem zi_178_392 : zI 178 392 = some (.iload 5, []) := by decide +kernel
theorem zi_178_394 : zI 178 394 = some (.ifCond .ne 15, [409]) := by decide +kernel
theorem zi_178_397 : zI 178 397 = some (.aload_n 3, []) := by decide +kernel
theorem zi_178_398 : zI 178 398 = some (.iconst 0, []) := by decide +kernel
theorem zi_178_399 : zI 178 399 = some (.laload, []) := by decide +kernel
theorem zi_178_400 : zI 178 400 = some (.iload 6, []) := by decide +kernel
theorem zi_178_402 : zI 178 402 = some (.i2l, []) := by decide +kernel
theorem zi_178_403 : zI 178 403 = some (.lcmp, []) := by decide +kernel
theorem zi_178_404 : zI 178 404 = some (.ifCond .eq 5, [409]) := by decide +kernel
theorem zi_178_409 : zI 178 409 = some (.goto 1180, [1589]) := by decide +kernel
theorem zi_178_412 : zI 178 412 = some (.aload_n 1, []) := by decide +kernel
theorem zi_178_413 : zI 178 413 = some (.invokevirtual 106, [120, 0, 0, 6, 715, 716, 118, 714, 0, 713]) := by decide +kernel
theorem zi_178_416 : zI 178 416 = some (.aload_n 2, []) := by decide +kernel
theorem zi_178_417 : zI 178 417 = some (.invokevirtual 109, [136, 0, 0, 7, 719, 720, 19, 718, 0, 717]) := by decide +kernel
theorem zi_178_420 : zI 178 420 = some (.if_icmp .eq 1169, [1589]) := by decide +kernel
theorem zi_178_425 : zI 178 425 = some (.aload_n 1, []) := by decide +kernel
theorem zi_178_426 : zI 178 426 = some (.aload_n 0, []) := by decide +kernel
theorem zi_178_427 : zI 178 427 = some (.iload 4, []) := by decide +kernel
theorem zi_178_429 : zI 178 429 = some (.iconst 1, []) := by decide +kernel
theorem zi_178_430 : zI 178 430 = some (.iadd, []) := by decide +kernel
theorem zi_178_431 : zI 178 431 = some (.iaload, []) := by decide +kernel
theorem zi_178_432 : zI 178 432 = some (.aload_n 3, []) := by decide +kernel
theorem zi_178_436 : zI 178 436 = some (.istore 5, []) := by decide +kernel
theorem zi_178_438 : zI 178 438 = some (.aload_n 2, []) := by decide +kernel
theorem zi_178_439 : zI 178 439 = some (.aload_n 0, []) := by decide +kernel
theorem zi_178_440 : zI 178 440 = some (.iload 4, []) := by decide +kernel
theorem zi_178_442 : zI 178 442 = some (.iconst 1, []) := by decide +kernel
theorem zi_178_443 : zI 178 443 = some (.iadd, []) := by decide +kernel
theorem zi_178_444 : zI 178 444 = some (.iaload, []) := by decide +kernel
theorem zi_178_445 : zI 178 445 = some (.invokevirtual 112, [137, 0, 1, 7, 724, 725, 19, 723, 0, 722]) := by decide +kernel
theorem zi_178_448 : zI 178 448 = some (.istore 6, []) := by decide +kernel
theorem zi_178_450 : zI 178 450 = some (.aload_n 2, []) := by decide +kernel
theorem zi_178_451 : zI 178 451 = some (.invokevirtual 91, [131, 0, 0, 7, 696, 697, 19, 695, 0, 694]) := by decide +kernel
theorem zi_178_454 : zI 178 454 = some (.iload 5, []) := by decide +kernel
theorem zi_178_456 : zI 178 456 = some (.if_icmp .eq 5, [461]) := by decide +kernel
theorem zi_178_461 : zI 178 461 = some (.iload 5, []) := by decide +kernel
theorem zi_178_463 : zI 178 463 = some (.ifCond .ne 15, [478]) := by decide +kernel
theorem zi_178_466 : zI 178 466 = some (.aload_n 3, []) := by decide +kernel
theorem zi_178_467 : zI 178 467 = some (.iconst 0, []) := by decide +kernel
theorem zi_178_468 : zI 178 468 = some (.laload, []) := by decide +kernel
theorem zi_178_469 : zI 178 469 = some (.iload 6, []) := by decide +kernel
theorem zi_178_471 : zI 178 471 = some (.i2l, []) := by decide +kernel
theorem zi_178_472 : zI 178 472 = some (.lcmp, []) := by decide +kernel
theorem zi_178_473 : zI 178 473 = some (.ifCond .eq 5, [478]) := by decide +kernel
theorem zi_178_478 : zI 178 478 = some (.goto 1111, [1589]) := by decide +kernel
theorem zi_178_481 : zI 178 481 = some (.aload_n 1, []) := by decide +kernel
theorem zi_178_482 : zI 178 482 = some (.aload_n 0, []) := by decide +kernel
theorem zi_178_483 : zI 178 483 = some (.iload 4, []) := by decide +kernel
theorem zi_178_485 : zI 178 485 = some (.iconst 1, []) := by decide +kernel
theorem zi_178_486 : zI 178 486 = some (.iadd, []) := by decide +kernel
theorem zi_178_487 : zI 178 487 = some (.iaload, []) := by decide +kernel
theorem zi_178_488 : zI 178 488 = some (.aload_n 0, []) := by decide +kernel
theorem zi_178_489 : zI 178 489 = some (.iload 4, []) := by decide +kernel
theorem zi_178_491 : zI 178 491 = some (.iconst 2, []) := by decide +kernel
theorem zi_178_492 : zI 178 492 = some (.iadd, []) := by decide +kernel
theorem zi_178_493 : zI 178 493 = some (.iaload, []) := by decide +kernel
theorem zi_178_494 : zI 178 494 = some (.aload_n 3, []) := by decide +kernel
theorem zi_178_498 : zI 178 498 = some (.istore 5, []) := by decide +kernel
theorem zi_178_500 : zI 178 500 = some (.aload_n 2, []) := by decide +kernel
theorem zi_178_501 : zI 178 501 = some (.aload_n 0, []) := by decide +kernel
theorem zi_178_502 : zI 178 502 = some (.iload 4, []) := by decide +kernel
theorem zi_178_504 : zI 178 504 = some (.iconst 1, []) := by decide +kernel
theorem zi_178_505 : zI 178 505 = some (.iadd, []) := by decide +kernel
theorem zi_178_506 : zI 178 506 = some (.iaload, []) := by decide +kernel
theorem zi_178_507 : zI 178 507 = some (.aload_n 0, []) := by decide +kernel
theorem zi_178_508 : zI 178 508 = some (.iload 4, []) := by decide +kernel
theorem zi_178_510 : zI 178 510 = some (.iconst 2, []) := by decide +kernel
theorem zi_178_511 : zI 178 511 = some (.iadd, []) := by decide +kernel
theorem zi_178_512 : zI 178 512 = some (.iaload, []) := by decide +kernel
theorem zi_178_513 : zI 178 513 = some (.invokevirtual 115, [138, 0, 2, 7, 729, 730, 19, 728, 0, 727]) := by decide +kernel
theorem zi_178_516 : zI 178 516 = some (.istore 6, []) := by decide +kernel
theorem zi_178_518 : zI 178 518 = some (.aload_n 2, []) := by decide +kernel
theorem zi_178_519 : zI 178 519 = some (.invokevirtual 91, [131, 0, 0, 7, 696, 697, 19, 695, 0, 694]) := by decide +kernel
theorem zi_178_522 : zI 178 522 = some (.iload 5, []) := by decide +kernel
theorem zi_178_524 : zI 178 524 = some (.if_icmp .eq 5, [529]) := by decide +kernel
theorem zi_178_529 : zI 178 529 = some (.iload 5, []) := by decide +kernel
theorem zi_178_531 : zI 178 531 = some (.ifCond .ne 15, [546]) := by decide +kernel
theorem zi_178_534 : zI 178 534 = some (.aload_n 3, []) := by decide +kernel
theorem zi_178_535 : zI 178 535 = some (.iconst 0, []) := by decide +kernel
theorem zi_178_536 : zI 178 536 = some (.laload, []) := by decide +kernel
theorem zi_178_537 : zI 178 537 = some (.iload 6, []) := by decide +kernel
theorem zi_178_539 : zI 178 539 = some (.i2l, []) := by decide +kernel
theorem zi_178_540 : zI 178 540 = some (.lcmp, []) := by decide +kernel
theorem zi_178_541 : zI 178 541 = some (.ifCond .eq 5, [546]) := by decide +kernel
theorem zi_178_546 : zI 178 546 = some (.goto 1043, [1589]) := by decide +kernel
theorem zi_178_549 : zI 178 549 = some (.aload_n 1, []) := by decide +kernel
theorem zi_178_550 : zI 178 550 = some (.aload_n 0, []) := by decide +kernel
theorem zi_178_551 : zI 178 551 = some (.iload 4, []) := by decide +kernel
theorem zi_178_553 : zI 178 553 = some (.iconst 1, []) := by decide +kernel
theorem zi_178_554 : zI 178 554 = some (.iadd, []) := by decide +kernel
theorem zi_178_555 : zI 178 555 = some (.iaload, []) := by decide +kernel
theorem zi_178_556 : zI 178 556 = some (.aload_n 0, []) := by decide +kernel
theorem zi_178_557 : zI 178 557 = some (.iload 4, []) := by decide +kernel
theorem zi_178_559 : zI 178 559 = some (.iconst 2, []) := by decide +kernel
theorem zi_178_560 : zI 178 560 = some (.iadd, []) := by decide +kernel
theorem zi_178_561 : zI 178 561 = some (.iaload, []) := by decide +kernel
theorem zi_178_562 : zI 178 562 = some (.aload_n 3, []) := by decide +kernel
theorem zi_178_566 : zI 178 566 = some (.istore 5, []) := by decide +kernel
theorem zi_178_568 : zI 178 568 = some (.aload_n 2, []) := by decide +kernel
theorem zi_178_569 : zI 178 569 = some (.aload_n 0, []) := by decide +kernel
theorem zi_178_570 : zI 178 570 = some (.iload 4, []) := by decide +kernel
theorem zi_178_572 : zI 178 572 = some (.iconst 1, []) := by decide +kernel
theorem zi_178_573 : zI 178 573 = some (.iadd, []) := by decide +kernel
theorem zi_178_574 : zI 178 574 = some (.iaload, []) := by decide +kernel
theorem zi_178_575 : zI 178 575 = some (.aload_n 0, []) := by decide +kernel
theorem zi_178_576 : zI 178 576 = some (.iload 4, []) := by decide +kernel
theorem zi_178_578 : zI 178 578 = some (.iconst 2, []) := by decide +kernel
theorem zi_178_579 : zI 178 579 = some (.iadd, []) := by decide +kernel
theorem zi_178_580 : zI 178 580 = some (.iaload, []) := by decide +kernel
theorem zi_178_581 : zI 178 581 = some (.invokevirtual 118, [139, 0, 2, 7, 734, 735, 19, 733, 0, 732]) := by decide +kernel
theorem zi_178_584 : zI 178 584 = some (.istore 6, []) := by decide +kernel
theorem zi_178_586 : zI 178 586 = some (.aload_n 2, []) := by decide +kernel
theorem zi_178_587 : zI 178 587 = some (.invokevirtual 91, [131, 0, 0, 7, 696, 697, 19, 695, 0, 694]) := by decide +kernel
theorem zi_178_590 : zI 178 590 = some (.iload 5, []) := by decide +kernel
theorem zi_178_592 : zI 178 592 = some (.if_icmp .eq 5, [597]) := by decide +kernel
theorem zi_178_597 : zI 178 597 = some (.iload 5, []) := by decide +kernel
theorem zi_178_599 : zI 178 599 = some (.ifCond .ne 15, [614]) := by decide +kernel
theorem zi_178_602 : zI 178 602 = some (.aload_n 3, []) := by decide +kernel
theorem zi_178_603 : zI 178 603 = some (.iconst 0, []) := by decide +kernel
theorem zi_178_604 : zI 178 604 = some (.laload, []) := by decide +kernel
theorem zi_178_605 : zI 178 605 = some (.iload 6, []) := by decide +kernel
theorem zi_178_607 : zI 178 607 = some (.i2l, []) := by decide +kernel
theorem zi_178_608 : zI 178 608 = some (.lcmp, []) := by decide +kernel
theorem zi_178_609 : zI 178 609 = some (.ifCond .eq 5, [614]) := by decide +kernel
theorem zi_178_614 : zI 178 614 = some (.goto 975, [1589]) := by decide +kernel
theorem zi_178_617 : zI 178 617 = some (.aload_n 1, []) := by decide +kernel
theorem zi_178_618 : zI 178 618 = some (.aload_n 0, []) := by decide +kernel
theorem zi_178_619 : zI 178 619 = some (.iload 4, []) := by decide +kernel
theorem zi_178_621 : zI 178 621 = some (.iconst 1, []) := by decide +kernel
theorem zi_178_622 : zI 178 622 = some (.iadd, []) := by decide +kernel
theorem zi_178_623 : zI 178 623 = some (.iaload, []) := by decide +kernel
theorem zi_178_624 : zI 178 624 = some (.aload_n 0, []) := by decide +kernel
theorem zi_178_625 : zI 178 625 = some (.iload 4, []) := by decide +kernel
theorem zi_178_627 : zI 178 627 = some (.iconst 2, []) := by decide +kernel
theorem zi_178_628 : zI 178 628 = some (.iadd, []) := by decide +kernel
theorem zi_178_629 : zI 178 629 = some (.iaload, []) := by decide +kernel
theorem zi_178_630 : zI 178 630 = some (.aload_n 3, []) := by decide +kernel
theorem zi_178_634 : zI 178 634 = some (.istore 5, []) := by decide +kernel
theorem zi_178_636 : zI 178 636 = some (.aload_n 2, []) := by decide +kernel
theorem zi_178_637 : zI 178 637 = some (.aload_n 0, []) := by decide +kernel
theorem zi_178_638 : zI 178 638 = some (.iload 4, []) := by decide +kernel
theorem zi_178_640 : zI 178 640 = some (.iconst 1, []) := by decide +kernel
theorem zi_178_641 : zI 178 641 = some (.iadd, []) := by decide +kernel
theorem zi_178_642 : zI 178 642 = some (.iaload, []) := by decide +kernel
theorem zi_178_643 : zI 178 643 = some (.aload_n 0, []) := by decide +kernel
theorem zi_178_644 : zI 178 644 = some (.iload 4, []) := by decide +kernel
theorem zi_178_646 : zI 178 646 = some (.iconst 2, []) := by decide +kernel
theorem zi_178_647 : zI 178 647 = some (.iadd, []) := by decide +kernel
theorem zi_178_648 : zI 178 648 = some (.iaload, []) := by decide +kernel
theorem zi_178_649 : zI 178 649 = some (.invokevirtual 121, [140, 0, 2, 7, 739, 740, 19, 738, 0, 737]) := by decide +kernel
theorem zi_178_652 : zI 178 652 = some (.istore 6, []) := by decide +kernel
theorem zi_178_654 : zI 178 654 = some (.aload_n 2, []) := by decide +kernel
theorem zi_178_655 : zI 178 655 = some (.invokevirtual 91, [131, 0, 0, 7, 696, 697, 19, 695, 0, 694]) := by decide +kernel
theorem zi_178_658 : zI 178 658 = some (.iload 5, []) := by decide +kernel
theorem zi_178_660 : zI 178 660 = some (.if_icmp .eq 5, [665]) := by decide +kernel
theorem zi_178_665 : zI 178 665 = some (.iload 5, []) := by decide +kernel
theorem zi_178_667 : zI 178 667 = some (.ifCond .ne 15, [682]) := by decide +kernel
theorem zi_178_670 : zI 178 670 = some (.aload_n 3, []) := by decide +kernel
theorem zi_178_671 : zI 178 671 = some (.iconst 0, []) := by decide +kernel
theorem zi_178_672 : zI 178 672 = some (.laload, []) := by decide +kernel
theorem zi_178_673 : zI 178 673 = some (.iload 6, []) := by decide +kernel
theorem zi_178_675 : zI 178 675 = some (.i2l, []) := by decide +kernel
theorem zi_178_676 : zI 178 676 = some (.lcmp, []) := by decide +kernel
theorem zi_178_677 : zI 178 677 = some (.ifCond .eq 5, [682]) := by decide +kernel
theorem zi_178_682 : zI 178 682 = some (.goto 907, [1589]) := by decide +kernel
theorem zi_178_685 : zI 178 685 = some (.aload_n 1, []) := by decide +kernel
theorem zi_178_686 : zI 178 686 = some (.aload_n 0, []) := by decide +kernel
theorem zi_178_687 : zI 178 687 = some (.iload 4, []) := by decide +kernel
theorem zi_178_689 : zI 178 689 = some (.iconst 1, []) := by decide +kernel
theorem zi_178_690 : zI 178 690 = some (.iadd, []) := by decide +kernel
theorem zi_178_691 : zI 178 691 = some (.iaload, []) := by decide +kernel
theorem zi_178_692 : zI 178 692 = some (.aload_n 0, []) := by decide +kernel
theorem zi_178_693 : zI 178 693 = some (.iload 4, []) := by decide +kernel
theorem zi_178_695 : zI 178 695 = some (.iconst 2, []) := by decide +kernel
theorem zi_178_696 : zI 178 696 = some (.iadd, []) := by decide +kernel
theorem zi_178_697 : zI 178 697 = some (.iaload, []) := by decide +kernel
theorem zi_178_698 : zI 178 698 = some (.aload_n 3, []) := by decide +kernel
theorem zi_178_702 : zI 178 702 = some (.istore 5, []) := by decide +kernel
theorem zi_178_704 : zI 178 704 = some (.aload_n 2, []) := by decide +kernel
theorem zi_178_705 : zI 178 705 = some (.aload_n 0, []) := by decide +kernel
theorem zi_178_706 : zI 178 706 = some (.iload 4, []) := by decide +kernel
theorem zi_178_708 : zI 178 708 = some (.iconst 1, []) := by decide +kernel
theorem zi_178_709 : zI 178 709 = some (.iadd, []) := by decide +kernel
theorem zi_178_710 : zI 178 710 = some (.iaload, []) := by decide +kernel
theorem zi_178_711 : zI 178 711 = some (.aload_n 0, []) := by decide +kernel
theorem zi_178_712 : zI 178 712 = some (.iload 4, []) := by decide +kernel
theorem zi_178_714 : zI 178 714 = some (.iconst 2, []) := by decide +kernel
theorem zi_178_715 : zI 178 715 = some (.iadd, []) := by decide +kernel
theorem zi_178_716 : zI 178 716 = some (.iaload, []) := by decide +kernel
theorem zi_178_717 : zI 178 717 = some (.invokevirtual 124, [141, 0, 2, 7, 744, 745, 19, 743, 0, 742]) := by decide +kernel
theorem zi_178_720 : zI 178 720 = some (.istore 6, []) := by decide +kernel
theorem zi_178_722 : zI 178 722 = some (.aload_n 2, []) := by decide +kernel
theorem zi_178_723 : zI 178 723 = some (.invokevirtual 91, [131, 0, 0, 7, 696, 697, 19, 695, 0, 694]) := by decide +kernel
theorem zi_178_726 : zI 178 726 = some (.iload 5, []) := by decide +kernel
theorem zi_178_728 : zI 178 728 = some (.if_icmp .eq 5, [733]) := by decide +kernel
theorem zi_178_733 : zI 178 733 = some (.iload 5, []) := by decide +kernel
theorem zi_178_735 : zI 178 735 = some (.ifCond .ne 15, [750]) := by decide +kernel
theorem zi_178_738 : zI 178 738 = some (.aload_n 3, []) := by decide +kernel
theorem zi_178_739 : zI 178 739 = some (.iconst 0, []) := by decide +kernel
theorem zi_178_740 : zI 178 740 = some (.laload, []) := by decide +kernel
theorem zi_178_741 : zI 178 741 = some (.iload 6, []) := by decide +kernel
theorem zi_178_743 : zI 178 743 = some (.i2l, []) := by decide +kernel
theorem zi_178_744 : zI 178 744 = some (.lcmp, []) := by decide +kernel
theorem zi_178_745 : zI 178 745 = some (.ifCond .eq 5, [750]) := by decide +kernel
theorem zi_178_750 : zI 178 750 = some (.goto 839, [1589]) := by decide +kernel
theorem zi_178_753 : zI 178 753 = some (.aload_n 1, []) := by decide +kernel
theorem zi_178_754 : zI 178 754 = some (.aload_n 0, []) := by decide +kernel
theorem zi_178_755 : zI 178 755 = some (.iload 4, []) := by decide +kernel
theorem zi_178_757 : zI 178 757 = some (.iconst 1, []) := by decide +kernel
theorem zi_178_758 : zI 178 758 = some (.iadd, []) := by decide +kernel
theorem zi_178_759 : zI 178 759 = some (.iaload, []) := by decide +kernel
theorem zi_178_760 : zI 178 760 = some (.aload_n 0, []) := by decide +kernel
theorem zi_178_761 : zI 178 761 = some (.iload 4, []) := by decide +kernel
theorem zi_178_763 : zI 178 763 = some (.iconst 2, []) := by decide +kernel
theorem zi_178_764 : zI 178 764 = some (.iadd, []) := by decide +kernel
theorem zi_178_765 : zI 178 765 = some (.iaload, []) := by decide +kernel
theorem zi_178_766 : zI 178 766 = some (.aload_n 3, []) := by decide +kernel
theorem zi_178_770 : zI 178 770 = some (.istore 5, []) := by decide +kernel
theorem zi_178_772 : zI 178 772 = some (.aload_n 2, []) := by decide +kernel
theorem zi_178_773 : zI 178 773 = some (.aload_n 0, []) := by decide +kernel
theorem zi_178_774 : zI 178 774 = some (.iload 4, []) := by decide +kernel
theorem zi_178_776 : zI 178 776 = some (.iconst 1, []) := by decide +kernel
theorem zi_178_777 : zI 178 777 = some (.iadd, []) := by decide +kernel
theorem zi_178_778 : zI 178 778 = some (.iaload, []) := by decide +kernel
theorem zi_178_779 : zI 178 779 = some (.aload_n 0, []) := by decide +kernel
theorem zi_178_780 : zI 178 780 = some (.iload 4, []) := by decide +kernel
theorem zi_178_782 : zI 178 782 = some (.iconst 2, []) := by decide +kernel
theorem zi_178_783 : zI 178 783 = some (.iadd, []) := by decide +kernel
theorem zi_178_784 : zI 178 784 = some (.iaload, []) := by decide +kernel
theorem zi_178_785 : zI 178 785 = some (.invokevirtual 127, [142, 0, 2, 7, 749, 750, 19, 748, 0, 747]) := by decide +kernel
theorem zi_178_788 : zI 178 788 = some (.istore 6, []) := by decide +kernel
theorem zi_178_790 : zI 178 790 = some (.aload_n 2, []) := by decide +kernel
theorem zi_178_791 : zI 178 791 = some (.invokevirtual 91, [131, 0, 0, 7, 696, 697, 19, 695, 0, 694]) := by decide +kernel
theorem zi_178_794 : zI 178 794 = some (.iload 5, []) := by decide +kernel
theorem zi_178_796 : zI 178 796 = some (.if_icmp .eq 5, [801]) := by decide +kernel
theorem zi_178_801 : zI 178 801 = some (.iload 5, []) := by decide +kernel
theorem zi_178_803 : zI 178 803 = some (.ifCond .ne 15, [818]) := by decide +kernel
theorem zi_178_806 : zI 178 806 = some (.aload_n 3, []) := by decide +kernel
theorem zi_178_807 : zI 178 807 = some (.iconst 0, []) := by decide +kernel
theorem zi_178_808 : zI 178 808 = some (.laload, []) := by decide +kernel
theorem zi_178_809 : zI 178 809 = some (.iload 6, []) := by decide +kernel
theorem zi_178_811 : zI 178 811 = some (.i2l, []) := by decide +kernel
theorem zi_178_812 : zI 178 812 = some (.lcmp, []) := by decide +kernel
theorem zi_178_813 : zI 178 813 = some (.ifCond .eq 5, [818]) := by decide +kernel
theorem zi_178_818 : zI 178 818 = some (.goto 771, [1589]) := by decide +kernel
theorem zi_178_821 : zI 178 821 = some (.aload_n 1, []) := by decide +kernel
theorem zi_178_822 : zI 178 822 = some (.aload_n 0, []) := by decide +kernel
theorem zi_178_823 : zI 178 823 = some (.iload 4, []) := by decide +kernel
theorem zi_178_825 : zI 178 825 = some (.iconst 1, []) := by decide +kernel
theorem zi_178_826 : zI 178 826 = some (.iadd, []) := by decide +kernel
theorem zi_178_827 : zI 178 827 = some (.iaload, []) := by decide +kernel
theorem zi_178_828 : zI 178 828 = some (.aload_n 0, []) := by decide +kernel
theorem zi_178_829 : zI 178 829 = some (.iload 4, []) := by decide +kernel
theorem zi_178_831 : zI 178 831 = some (.iconst 2, []) := by decide +kernel
theorem zi_178_832 : zI 178 832 = some (.iadd, []) := by decide +kernel
theorem zi_178_833 : zI 178 833 = some (.iaload, []) := by decide +kernel
theorem zi_178_834 : zI 178 834 = some (.aload_n 3, []) := by decide +kernel
theorem zi_178_838 : zI 178 838 = some (.istore 5, []) := by decide +kernel
theorem zi_178_840 : zI 178 840 = some (.aload_n 2, []) := by decide +kernel
theorem zi_178_841 : zI 178 841 = some (.aload_n 0, []) := by decide +kernel
theorem zi_178_842 : zI 178 842 = some (.iload 4, []) := by decide +kernel
theorem zi_178_844 : zI 178 844 = some (.iconst 1, []) := by decide +kernel
theorem zi_178_845 : zI 178 845 = some (.iadd, []) := by decide +kernel
theorem zi_178_846 : zI 178 846 = some (.iaload, []) := by decide +kernel
theorem zi_178_847 : zI 178 847 = some (.aload_n 0, []) := by decide +kernel
theorem zi_178_848 : zI 178 848 = some (.iload 4, []) := by decide +kernel
theorem zi_178_850 : zI 178 850 = some (.iconst 2, []) := by decide +kernel
theorem zi_178_851 : zI 178 851 = some (.iadd, []) := by decide +kernel
theorem zi_178_852 : zI 178 852 = some (.iaload, []) := by decide +kernel
theorem zi_178_853 : zI 178 853 = some (.invokevirtual 130, [143, 0, 2, 7, 754, 755, 19, 753, 0, 752]) := by decide +kernel
theorem zi_178_856 : zI 178 856 = some (.istore 6, []) := by decide +kernel
theorem zi_178_858 : zI 178 858 = some (.aload_n 2, []) := by decide +kernel
theorem zi_178_859 : zI 178 859 = some (.invokevirtual 91, [131, 0, 0, 7, 696, 697, 19, 695, 0, 694]) := by decide +kernel
theorem zi_178_862 : zI 178 862 = some (.iload 5, []) := by decide +kernel
theorem zi_178_864 : zI 178 864 = some (.if_icmp .eq 5, [869]) := by decide +kernel
theorem zi_178_869 : zI 178 869 = some (.iload 5, []) := by decide +kernel
theorem zi_178_871 : zI 178 871 = some (.ifCond .ne 15, [886]) := by decide +kernel
theorem zi_178_874 : zI 178 874 = some (.aload_n 3, []) := by decide +kernel
theorem zi_178_875 : zI 178 875 = some (.iconst 0, []) := by decide +kernel
theorem zi_178_876 : zI 178 876 = some (.laload, []) := by decide +kernel
theorem zi_178_877 : zI 178 877 = some (.iload 6, []) := by decide +kernel
theorem zi_178_879 : zI 178 879 = some (.i2l, []) := by decide +kernel
theorem zi_178_880 : zI 178 880 = some (.lcmp, []) := by decide +kernel
theorem zi_178_881 : zI 178 881 = some (.ifCond .eq 5, [886]) := by decide +kernel
theorem zi_178_886 : zI 178 886 = some (.goto 703, [1589]) := by decide +kernel
theorem zi_178_889 : zI 178 889 = some (.aload_n 1, []) := by decide +kernel
theorem zi_178_890 : zI 178 890 = some (.aload_n 0, []) := by decide +kernel
theorem zi_178_891 : zI 178 891 = some (.iload 4, []) := by decide +kernel
theorem zi_178_893 : zI 178 893 = some (.iconst 1, []) := by decide +kernel
theorem zi_178_894 : zI 178 894 = some (.iadd, []) := by decide +kernel
theorem zi_178_895 : zI 178 895 = some (.iaload, []) := by decide +kernel
theorem zi_178_896 : zI 178 896 = some (.aload_n 0, []) := by decide +kernel
theorem zi_178_897 : zI 178 897 = some (.iload 4, []) := by decide +kernel
theorem zi_178_899 : zI 178 899 = some (.iconst 2, []) := by decide +kernel
theorem zi_178_900 : zI 178 900 = some (.iadd, []) := by decide +kernel
theorem zi_178_901 : zI 178 901 = some (.iaload, []) := by decide +kernel
theorem zi_178_902 : zI 178 902 = some (.aload_n 3, []) := by decide +kernel
theorem zi_178_906 : zI 178 906 = some (.istore 5, []) := by decide +kernel
theorem zi_178_908 : zI 178 908 = some (.aload_n 2, []) := by decide +kernel
theorem zi_178_909 : zI 178 909 = some (.aload_n 0, []) := by decide +kernel
theorem zi_178_910 : zI 178 910 = some (.iload 4, []) := by decide +kernel
theorem zi_178_912 : zI 178 912 = some (.iconst 1, []) := by decide +kernel
theorem zi_178_913 : zI 178 913 = some (.iadd, []) := by decide +kernel
theorem zi_178_914 : zI 178 914 = some (.iaload, []) := by decide +kernel
theorem zi_178_915 : zI 178 915 = some (.aload_n 0, []) := by decide +kernel
theorem zi_178_916 : zI 178 916 = some (.iload 4, []) := by decide +kernel
theorem zi_178_918 : zI 178 918 = some (.iconst 2, []) := by decide +kernel
theorem zi_178_919 : zI 178 919 = some (.iadd, []) := by decide +kernel
theorem zi_178_920 : zI 178 920 = some (.iaload, []) := by decide +kernel
theorem zi_178_921 : zI 178 921 = some (.invokevirtual 133, [144, 0, 2, 7, 759, 760, 19, 758, 0, 757]) := by decide +kernel
theorem zi_178_924 : zI 178 924 = some (.istore 6, []) := by decide +kernel
theorem zi_178_926 : zI 178 926 = some (.aload_n 2, []) := by decide +kernel
theorem zi_178_927 : zI 178 927 = some (.invokevirtual 91, [131, 0, 0, 7, 696, 697, 19, 695, 0, 694]) := by decide +kernel
theorem zi_178_930 : zI 178 930 = some (.iload 5, []) := by decide +kernel
theorem zi_178_932 : zI 178 932 = some (.if_icmp .eq 5, [937]) := by decide +kernel
theorem zi_178_937 : zI 178 937 = some (.iload 5, []) := by decide +kernel
theorem zi_178_939 : zI 178 939 = some (.ifCond .ne 15, [954]) := by decide +kernel
theorem zi_178_942 : zI 178 942 = some (.aload_n 3, []) := by decide +kernel
theorem zi_178_943 : zI 178 943 = some (.iconst 0, []) := by decide +kernel
theorem zi_178_944 : zI 178 944 = some (.laload, []) := by decide +kernel
theorem zi_178_945 : zI 178 945 = some (.iload 6, []) := by decide +kernel
theorem zi_178_947 : zI 178 947 = some (.i2l, []) := by decide +kernel
theorem zi_178_948 : zI 178 948 = some (.lcmp, []) := by decide +kernel
theorem zi_178_949 : zI 178 949 = some (.ifCond .eq 5, [954]) := by decide +kernel
theorem zi_178_954 : zI 178 954 = some (.goto 635, [1589]) := by decide +kernel
theorem zi_178_957 : zI 178 957 = some (.aload_n 1, []) := by decide +kernel
theorem zi_178_958 : zI 178 958 = some (.aload_n 0, []) := by decide +kernel
theorem zi_178_959 : zI 178 959 = some (.iload 4, []) := by decide +kernel
theorem zi_178_961 : zI 178 961 = some (.iconst 1, []) := by decide +kernel
theorem zi_178_962 : zI 178 962 = some (.iadd, []) := by decide +kernel
theorem zi_178_963 : zI 178 963 = some (.iaload, []) := by decide +kernel
theorem zi_178_964 : zI 178 964 = some (.aload_n 0, []) := by decide +kernel
theorem zi_178_965 : zI 178 965 = some (.iload 4, []) := by decide +kernel
theorem zi_178_967 : zI 178 967 = some (.iconst 2, []) := by decide +kernel
theorem zi_178_968 : zI 178 968 = some (.iadd, []) := by decide +kernel
theorem zi_178_969 : zI 178 969 = some (.iaload, []) := by decide +kernel
theorem zi_178_970 : zI 178 970 = some (.aload_n 3, []) := by decide +kernel
theorem zi_178_974 : zI 178 974 = some (.istore 5, []) := by decide +kernel
theorem zi_178_976 : zI 178 976 = some (.aload_n 2, []) := by decide +kernel
theorem zi_178_977 : zI 178 977 = some (.aload_n 0, []) := by decide +kernel
theorem zi_178_978 : zI 178 978 = some (.iload 4, []) := by decide +kernel
theorem zi_178_980 : zI 178 980 = some (.iconst 1, []) := by decide +kernel
theorem zi_178_981 : zI 178 981 = some (.iadd, []) := by decide +kernel
theorem zi_178_982 : zI 178 982 = some (.iaload, []) := by decide +kernel
theorem zi_178_983 : zI 178 983 = some (.aload_n 0, []) := by decide +kernel
theorem zi_178_984 : zI 178 984 = some (.iload 4, []) := by decide +kernel
theorem zi_178_986 : zI 178 986 = some (.iconst 2, []) := by decide +kernel
theorem zi_178_987 : zI 178 987 = some (.iadd, []) := by decide +kernel
theorem zi_178_988 : zI 178 988 = some (.iaload, []) := by decide +kernel
theorem zi_178_989 : zI 178 989 = some (.invokevirtual 136, [145, 0, 2, 7, 764, 765, 19, 763, 0, 762]) := by decide +kernel
theorem zi_178_992 : zI 178 992 = some (.istore 6, []) := by decide +kernel
theorem zi_178_994 : zI 178 994 = some (.aload_n 2, []) := by decide +kernel
theorem zi_178_995 : zI 178 995 = some (.invokevirtual 91, [131, 0, 0, 7, 696, 697, 19, 695, 0, 694]) := by decide +kernel
theorem zi_178_998 : zI 178 998 = some (.iload 5, []) := by decide +kernel
theorem zi_178_1000 : zI 178 1000 = some (.if_icmp .eq 5, [1005]) := by decide +kernel
theorem zi_178_1005 : zI 178 1005 = some (.iload 5, []) := by decide +kernel
theorem zi_178_1007 : zI 178 1007 = some (.ifCond .ne 15, [1022]) := by decide +kernel
theorem zi_178_1010 : zI 178 1010 = some (.aload_n 3, []) := by decide +kernel
theorem zi_178_1011 : zI 178 1011 = some (.iconst 0, []) := by decide +kernel
theorem zi_178_1012 : zI 178 1012 = some (.laload, []) := by decide +kernel
theorem zi_178_1013 : zI 178 1013 = some (.iload 6, []) := by decide +kernel
theorem zi_178_1015 : zI 178 1015 = some (.i2l, []) := by decide +kernel
theorem zi_178_1016 : zI 178 1016 = some (.lcmp, []) := by decide +kernel
theorem zi_178_1017 : zI 178 1017 = some (.ifCond .eq 5, [1022]) := by decide +kernel
theorem zi_178_1022 : zI 178 1022 = some (.goto 567, [1589]) := by decide +kernel
theorem zi_178_1025 : zI 178 1025 = some (.aload_n 1, []) := by decide +kernel
theorem zi_178_1026 : zI 178 1026 = some (.invokevirtual 137, [100, 0, 0, 6, 555, 556, 118, 554, 0, 766]) := by decide +kernel
theorem zi_178_1029 : zI 178 1029 = some (.aload_n 2, []) := by decide +kernel
theorem zi_178_1030 : zI 178 1030 = some (.invokevirtual 140, [146, 0, 0, 7, 769, 770, 19, 768, 0, 767]) := by decide +kernel
theorem zi_178_1033 : zI 178 1033 = some (.if_icmp .eq 556, [1589]) := by decide +kernel
theorem zi_178_1038 : zI 178 1038 = some (.aload_n 1, []) := by decide +kernel
theorem zi_178_1039 : zI 178 1039 = some (.invokevirtual 141, [124, 0, 0, 6, 773, 774, 118, 772, 0, 771]) := by decide +kernel
theorem zi_178_1042 : zI 178 1042 = some (.dstore 5, []) := by decide +kernel
theorem zi_178_1044 : zI 178 1044 = some (.aload_n 2, []) := by decide +kernel
theorem zi_178_1045 : zI 178 1045 = some (.invokevirtual 145, [147, 0, 0, 7, 777, 778, 19, 776, 0, 775]) := by decide +kernel
theorem zi_178_1048 : zI 178 1048 = some (.dstore 7, []) := by decide +kernel
theorem zi_178_1050 : zI 178 1050 = some (.dload 5, []) := by decide +kernel
theorem zi_178_1052 : zI 178 1052 = some (.dload 7, []) := by decide +kernel
theorem zi_178_1054 : zI 178 1054 = some (.dcmp .l, []) := by decide +kernel
theorem zi_178_1055 : zI 178 1055 = some (.ifCond .eq 21, [1076]) := by decide +kernel
theorem zi_178_1076 : zI 178 1076 = some (.goto 513, [1589]) := by decide +kernel
theorem zi_178_1079 : zI 178 1079 = some (.aload_n 1, []) := by decide +kernel
theorem zi_178_1080 : zI 178 1080 = some (.aload_n 0, []) := by decide +kernel
theorem zi_178_1081 : zI 178 1081 = some (.iload 4, []) := by decide +kernel
theorem zi_178_1083 : zI 178 1083 = some (.iconst 1, []) := by decide +kernel
theorem zi_178_1084 : zI 178 1084 = some (.iadd, []) := by decide +kernel
theorem zi_178_1085 : zI 178 1085 = some (.iaload, []) := by decide +kernel
theorem zi_178_1086 : zI 178 1086 = some (.aload_n 0, []) := by decide +kernel
theorem zi_178_1087 : zI 178 1087 = some (.iload 4, []) := by decide +kernel
theorem zi_178_1089 : zI 178 1089 = some (.iconst 2, []) := by decide +kernel
theorem zi_178_1090 : zI 178 1090 = some (.iadd, []) := by decide +kernel
theorem zi_178_1091 : zI 178 1091 = some (.iaload, []) := by decide +kernel
theorem zi_178_1092 : zI 178 1092 = some (.aload_n 3, []) := by decide +kernel
theorem zi_178_1096 : zI 178 1096 = some (.istore 5, []) := by decide +kernel
theorem zi_178_1098 : zI 178 1098 = some (.aload_n 2, []) := by decide +kernel
theorem zi_178_1099 : zI 178 1099 = some (.aload_n 0, []) := by decide +kernel
theorem zi_178_1100 : zI 178 1100 = some (.iload 4, []) := by decide +kernel
theorem zi_178_1102 : zI 178 1102 = some (.iconst 1, []) := by decide +kernel
theorem zi_178_1103 : zI 178 1103 = some (.iadd, []) := by decide +kernel
theorem zi_178_1104 : zI 178 1104 = some (.iaload, []) := by decide +kernel
theorem zi_178_1105 : zI 178 1105 = some (.aload_n 0, []) := by decide +kernel
theorem zi_178_1106 : zI 178 1106 = some (.iload 4, []) := by decide +kernel
theorem zi_178_1108 : zI 178 1108 = some (.iconst 2, []) := by decide +kernel
theorem zi_178_1109 : zI 178 1109 = some (.iadd, []) := by decide +kernel
theorem zi_178_1110 : zI 178 1110 = some (.iaload, []) := by decide +kernel
theorem zi_178_1111 : zI 178 1111 = some (.invokevirtual 148, [148, 0, 2, 7, 782, 783, 19, 781, 0, 780]) := by decide +kernel
theorem zi_178_1114 : zI 178 1114 = some (.istore 6, []) := by decide +kernel
theorem zi_178_1116 : zI 178 1116 = some (.aload_n 2, []) := by decide +kernel
theorem zi_178_1117 : zI 178 1117 = some (.invokevirtual 91, [131, 0, 0, 7, 696, 697, 19, 695, 0, 694]) := by decide +kernel
theorem zi_178_1120 : zI 178 1120 = some (.iload 5, []) := by decide +kernel
theorem zi_178_1122 : zI 178 1122 = some (.if_icmp .eq 5, [1127]) := by decide +kernel
theorem zi_178_1127 : zI 178 1127 = some (.iload 5, []) := by decide +kernel
theorem zi_178_1129 : zI 178 1129 = some (.ifCond .ne 15, [1144]) := by decide +kernel
theorem zi_178_1132 : zI 178 1132 = some (.aload_n 3, []) := by decide +kernel
theorem zi_178_1133 : zI 178 1133 = some (.iconst 0, []) := by decide +kernel
theorem zi_178_1134 : zI 178 1134 = some (.laload, []) := by decide +kernel
theorem zi_178_1135 : zI 178 1135 = some (.iload 6, []) := by decide +kernel
theorem zi_178_1137 : zI 178 1137 = some (.i2l, []) := by decide +kernel
theorem zi_178_1138 : zI 178 1138 = some (.lcmp, []) := by decide +kernel
theorem zi_178_1139 : zI 178 1139 = some (.ifCond .eq 5, [1144]) := by decide +kernel
theorem zi_178_1144 : zI 178 1144 = some (.goto 445, [1589]) := by decide +kernel
theorem zi_178_1147 : zI 178 1147 = some (.aload_n 1, []) := by decide +kernel
theorem zi_178_1148 : zI 178 1148 = some (.aload_n 0, []) := by decide +kernel
theorem zi_178_1149 : zI 178 1149 = some (.iload 4, []) := by decide +kernel
theorem zi_178_1151 : zI 178 1151 = some (.iconst 1, []) := by decide +kernel
theorem zi_178_1152 : zI 178 1152 = some (.iadd, []) := by decide +kernel
theorem zi_178_1153 : zI 178 1153 = some (.iaload, []) := by decide +kernel
theorem zi_178_1154 : zI 178 1154 = some (.aload_n 0, []) := by decide +kernel
theorem zi_178_1155 : zI 178 1155 = some (.iload 4, []) := by decide +kernel
theorem zi_178_1157 : zI 178 1157 = some (.iconst 2, []) := by decide +kernel
theorem zi_178_1158 : zI 178 1158 = some (.iadd, []) := by decide +kernel
theorem zi_178_1159 : zI 178 1159 = some (.iaload, []) := by decide +kernel
theorem zi_178_1160 : zI 178 1160 = some (.aload_n 3, []) := by decide +kernel
theorem zi_178_1164 : zI 178 1164 = some (.istore 5, []) := by decide +kernel
theorem zi_178_1166 : zI 178 1166 = some (.aload_n 2, []) := by decide +kernel
theorem zi_178_1167 : zI 178 1167 = some (.aload_n 0, []) := by decide +kernel
theorem zi_178_1168 : zI 178 1168 = some (.iload 4, []) := by decide +kernel
theorem zi_178_1170 : zI 178 1170 = some (.iconst 1, []) := by decide +kernel
theorem zi_178_1171 : zI 178 1171 = some (.iadd, []) := by decide +kernel
theorem zi_178_1172 : zI 178 1172 = some (.iaload, []) := by decide +kernel
theorem zi_178_1173 : zI 178 1173 = some (.aload_n 0, []) := by decide +kernel
theorem zi_178_1174 : zI 178 1174 = some (.iload 4, []) := by decide +kernel
theorem zi_178_1176 : zI 178 1176 = some (.iconst 2, []) := by decide +kernel
theorem zi_178_1177 : zI 178 1177 = some (.iadd, []) := by decide +kernel
theorem zi_178_1178 : zI 178 1178 = some (.iaload, []) := by decide +kernel
theorem zi_178_1179 : zI 178 1179 = some (.invokevirtual 151, [149, 0, 2, 7, 787, 788, 19, 786, 0, 785]) := by decide +kernel
theorem zi_178_1182 : zI 178 1182 = some (.istore 6, []) := by decide +kernel
theorem zi_178_1184 : zI 178 1184 = some (.aload_n 2, []) := by decide +kernel
theorem zi_178_1185 : zI 178 1185 = some (.invokevirtual 91, [131, 0, 0, 7, 696, 697, 19, 695, 0, 694]) := by decide +kernel
theorem zi_178_1188 : zI 178 1188 = some (.iload 5, []) := by decide +kernel
theorem zi_178_1190 : zI 178 1190 = some (.if_icmp .eq 5, [1195]) := by decide +kernel
theorem zi_178_1195 : zI 178 1195 = some (.iload 5, []) := by decide +kernel
theorem zi_178_1197 : zI 178 1197 = some (.ifCond .ne 15, [1212]) := by decide +kernel
theorem zi_178_1200 : zI 178 1200 = some (.aload_n 3, []) := by decide +kernel
theorem zi_178_1201 : zI 178 1201 = some (.iconst 0, []) := by decide +kernel
theorem zi_178_1202 : zI 178 1202 = some (.laload, []) := by decide +kernel
theorem zi_178_1203 : zI 178 1203 = some (.iload 6, []) := by decide +kernel
theorem zi_178_1205 : zI 178 1205 = some (.i2l, []) := by decide +kernel
theorem zi_178_1206 : zI 178 1206 = some (.lcmp, []) := by decide +kernel
theorem zi_178_1207 : zI 178 1207 = some (.ifCond .eq 5, [1212]) := by decide +kernel
theorem zi_178_1212 : zI 178 1212 = some (.goto 377, [1589]) := by decide +kernel
theorem zi_178_1215 : zI 178 1215 = some (.aload_n 1, []) := by decide +kernel
theorem zi_178_1216 : zI 178 1216 = some (.aload_n 0, []) := by decide +kernel
theorem zi_178_1217 : zI 178 1217 = some (.iload 4, []) := by decide +kernel
theorem zi_178_1219 : zI 178 1219 = some (.iconst 1, []) := by decide +kernel
theorem zi_178_1220 : zI 178 1220 = some (.iadd, []) := by decide +kernel
theorem zi_178_1221 : zI 178 1221 = some (.iaload, []) := by decide +kernel
theorem zi_178_1222 : zI 178 1222 = some (.aload_n 3, []) := by decide +kernel
theorem zi_178_1226 : zI 178 1226 = some (.istore 5, []) := by decide +kernel
theorem zi_178_1228 : zI 178 1228 = some (.aload_n 2, []) := by decide +kernel
theorem zi_178_1229 : zI 178 1229 = some (.aload_n 0, []) := by decide +kernel
theorem zi_178_1230 : zI 178 1230 = some (.iload 4, []) := by decide +kernel
theorem zi_178_1232 : zI 178 1232 = some (.iconst 1, []) := by decide +kernel
theorem zi_178_1233 : zI 178 1233 = some (.iadd, []) := by decide +kernel
theorem zi_178_1234 : zI 178 1234 = some (.iaload, []) := by decide +kernel
theorem zi_178_1235 : zI 178 1235 = some (.invokevirtual 154, [150, 0, 1, 7, 792, 793, 19, 791, 0, 790]) := by decide +kernel
theorem zi_178_1238 : zI 178 1238 = some (.istore 6, []) := by decide +kernel
theorem zi_178_1240 : zI 178 1240 = some (.aload_n 2, []) := by decide +kernel
theorem zi_178_1241 : zI 178 1241 = some (.invokevirtual 91, [131, 0, 0, 7, 696, 697, 19, 695, 0, 694]) := by decide +kernel
theorem zi_178_1244 : zI 178 1244 = some (.iload 5, []) := by decide +kernel
theorem zi_178_1246 : zI 178 1246 = some (.if_icmp .eq 5, [1251]) := by decide +kernel
theorem zi_178_1251 : zI 178 1251 = some (.iload 5, []) := by decide +kernel
theorem zi_178_1253 : zI 178 1253 = some (.ifCond .ne 15, [1268]) := by decide +kernel
theorem zi_178_1256 : zI 178 1256 = some (.aload_n 3, []) := by decide +kernel
theorem zi_178_1257 : zI 178 1257 = some (.iconst 0, []) := by decide +kernel
theorem zi_178_1258 : zI 178 1258 = some (.laload, []) := by decide +kernel
theorem zi_178_1259 : zI 178 1259 = some (.iload 6, []) := by decide +kernel
theorem zi_178_1261 : zI 178 1261 = some (.i2l, []) := by decide +kernel
theorem zi_178_1262 : zI 178 1262 = some (.lcmp, []) := by decide +kernel
theorem zi_178_1263 : zI 178 1263 = some (.ifCond .eq 5, [1268]) := by decide +kernel
theorem zi_178_1268 : zI 178 1268 = some (.goto 321, [1589]) := by decide +kernel
theorem zi_178_1271 : zI 178 1271 = some (.aload_n 1, []) := by decide +kernel
theorem zi_178_1272 : zI 178 1272 = some (.aload_n 0, []) := by decide +kernel
theorem zi_178_1273 : zI 178 1273 = some (.iload 4, []) := by decide +kernel
theorem zi_178_1275 : zI 178 1275 = some (.iconst 1, []) := by decide +kernel
theorem zi_178_1276 : zI 178 1276 = some (.iadd, []) := by decide +kernel
theorem zi_178_1277 : zI 178 1277 = some (.iaload, []) := by decide +kernel
theorem zi_178_1278 : zI 178 1278 = some (.aload_n 0, []) := by decide +kernel
theorem zi_178_1279 : zI 178 1279 = some (.iload 4, []) := by decide +kernel
theorem zi_178_1281 : zI 178 1281 = some (.iconst 2, []) := by decide +kernel
theorem zi_178_1282 : zI 178 1282 = some (.iadd, []) := by decide +kernel
theorem zi_178_1283 : zI 178 1283 = some (.iaload, []) := by decide +kernel
theorem zi_178_1284 : zI 178 1284 = some (.aload_n 0, []) := by decide +kernel
theorem zi_178_1285 : zI 178 1285 = some (.iload 4, []) := by decide +kernel
theorem zi_178_1287 : zI 178 1287 = some (.iconst 3, []) := by decide +kernel
theorem zi_178_1288 : zI 178 1288 = some (.iadd, []) := by decide +kernel
theorem zi_178_1289 : zI 178 1289 = some (.iaload, []) := by decide +kernel
theorem zi_178_1290 : zI 178 1290 = some (.aload_n 3, []) := by decide +kernel
theorem zi_178_1294 : zI 178 1294 = some (.istore 5, []) := by decide +kernel
theorem zi_178_1296 : zI 178 1296 = some (.aload_n 2, []) := by decide +kernel
theorem zi_178_1297 : zI 178 1297 = some (.aload_n 0, []) := by decide +kernel
theorem zi_178_1298 : zI 178 1298 = some (.iload 4, []) := by decide +kernel
theorem zi_178_1300 : zI 178 1300 = some (.iconst 1, []) := by decide +kernel
theorem zi_178_1301 : zI 178 1301 = some (.iadd, []) := by decide +kernel
theorem zi_178_1302 : zI 178 1302 = some (.iaload, []) := by decide +kernel
theorem zi_178_1303 : zI 178 1303 = some (.aload_n 0, []) := by decide +kernel
theorem zi_178_1304 : zI 178 1304 = some (.iload 4, []) := by decide +kernel
theorem zi_178_1306 : zI 178 1306 = some (.iconst 2, []) := by decide +kernel
theorem zi_178_1307 : zI 178 1307 = some (.iadd, []) := by decide +kernel
theorem zi_178_1308 : zI 178 1308 = some (.iaload, []) := by decide +kernel
theorem zi_178_1309 : zI 178 1309 = some (.aload_n 0, []) := by decide +kernel
theorem zi_178_1310 : zI 178 1310 = some (.iload 4, []) := by decide +kernel
theorem zi_178_1312 : zI 178 1312 = some (.iconst 3, []) := by decide +kernel
theorem zi_178_1313 : zI 178 1313 = some (.iadd, []) := by decide +kernel
theorem zi_178_1314 : zI 178 1314 = some (.iaload, []) := by decide +kernel
theorem zi_178_1315 : zI 178 1315 = some (.invokevirtual 157, [151, 0, 3, 7, 797, 798, 19, 796, 0, 795]) := by decide +kernel
theorem zi_178_1318 : zI 178 1318 = some (.istore 6, []) := by decide +kernel
theorem zi_178_1320 : zI 178 1320 = some (.aload_n 2, []) := by decide +kernel
theorem zi_178_1321 : zI 178 1321 = some (.invokevirtual 91, [131, 0, 0, 7, 696, 697, 19, 695, 0, 694]) := by decide +kernel
theorem zi_178_1324 : zI 178 1324 = some (.iload 5, []) := by decide +kernel
theorem zi_178_1326 : zI 178 1326 = some (.if_icmp .eq 5, [1331]) := by decide +kernel
theorem zi_178_1331 : zI 178 1331 = some (.iload 5, []) := by decide +kernel
theorem zi_178_1333 : zI 178 1333 = some (.ifCond .ne 15, [1348]) := by decide +kernel
theorem zi_178_1336 : zI 178 1336 = some (.aload_n 3, []) := by decide +kernel
theorem zi_178_1337 : zI 178 1337 = some (.iconst 0, []) := by decide +kernel
theorem zi_178_1338 : zI 178 1338 = some (.laload, []) := by decide +kernel
theorem zi_178_1339 : zI 178 1339 = some (.iload 6, []) := by decide +kernel
theorem zi_178_1341 : zI 178 1341 = some (.i2l, []) := by decide +kernel
theorem zi_178_1342 : zI 178 1342 = some (.lcmp, []) := by decide +kernel
theorem zi_178_1343 : zI 178 1343 = some (.ifCond .eq 5, [1348]) := by decide +kernel
theorem zi_178_1348 : zI 178 1348 = some (.goto 241, [1589]) := by decide +kernel
theorem zi_178_1351 : zI 178 1351 = some (.aload_n 1, []) := by decide +kernel
theorem zi_178_1352 : zI 178 1352 = some (.aload_n 0, []) := by decide +kernel
theorem zi_178_1353 : zI 178 1353 = some (.iload 4, []) := by decide +kernel
theorem zi_178_1355 : zI 178 1355 = some (.iconst 1, []) := by decide +kernel
theorem zi_178_1356 : zI 178 1356 = some (.iadd, []) := by decide +kernel
theorem zi_178_1357 : zI 178 1357 = some (.iaload, []) := by decide +kernel
theorem zi_178_1358 : zI 178 1358 = some (.aload_n 3, []) := by decide +kernel
theorem zi_178_1362 : zI 178 1362 = some (.istore 5, []) := by decide +kernel
theorem zi_178_1364 : zI 178 1364 = some (.aload_n 2, []) := by decide +kernel
theorem zi_178_1365 : zI 178 1365 = some (.aload_n 0, []) := by decide +kernel
theorem zi_178_1366 : zI 178 1366 = some (.iload 4, []) := by decide +kernel
theorem zi_178_1368 : zI 178 1368 = some (.iconst 1, []) := by decide +kernel
theorem zi_178_1369 : zI 178 1369 = some (.iadd, []) := by decide +kernel
theorem zi_178_1370 : zI 178 1370 = some (.iaload, []) := by decide +kernel
theorem zi_178_1371 : zI 178 1371 = some (.invokevirtual 160, [152, 0, 1, 7, 802, 803, 19, 801, 0, 800]) := by decide +kernel
theorem zi_178_1374 : zI 178 1374 = some (.istore 6, []) := by decide +kernel
theorem zi_178_1376 : zI 178 1376 = some (.aload_n 2, []) := by decide +kernel
theorem zi_178_1377 : zI 178 1377 = some (.invokevirtual 91, [131, 0, 0, 7, 696, 697, 19, 695, 0, 694]) := by decide +kernel
theorem zi_178_1380 : zI 178 1380 = some (.iload 5, []) := by decide +kernel
theorem zi_178_1382 : zI 178 1382 = some (.if_icmp .eq 5, [1387]) := by decide +kernel
theorem zi_178_1387 : zI 178 1387 = some (.iload 5, []) := by decide +kernel
theorem zi_178_1389 : zI 178 1389 = some (.ifCond .ne 15, [1404]) := by decide +kernel
theorem zi_178_1392 : zI 178 1392 = some (.aload_n 3, []) := by decide +kernel
theorem zi_178_1393 : zI 178 1393 = some (.iconst 0, []) := by decide +kernel
theorem zi_178_1394 : zI 178 1394 = some (.laload, []) := by decide +kernel
theorem zi_178_1395 : zI 178 1395 = some (.iload 6, []) := by decide +kernel
theorem zi_178_1397 : zI 178 1397 = some (.i2l, []) := by decide +kernel
theorem zi_178_1398 : zI 178 1398 = some (.lcmp, []) := by decide +kernel
theorem zi_178_1399 : zI 178 1399 = some (.ifCond .eq 5, [1404]) := by decide +kernel
theorem zi_178_1404 : zI 178 1404 = some (.goto 185, [1589]) := by decide +kernel
theorem zi_178_1407 : zI 178 1407 = some (.aload_n 1, []) := by decide +kernel
theorem zi_178_1408 : zI 178 1408 = some (.aload_n 0, []) := by decide +kernel
theorem zi_178_1409 : zI 178 1409 = some (.iload 4, []) := by decide +kernel
theorem zi_178_1411 : zI 178 1411 = some (.iconst 1, []) := by decide +kernel
theorem zi_178_1412 : zI 178 1412 = some (.iadd, []) := by decide +kernel
theorem zi_178_1413 : zI 178 1413 = some (.iaload, []) := by decide +kernel
theorem zi_178_1414 : zI 178 1414 = some (.aload_n 3, []) := by decide +kernel
theorem zi_178_1418 : zI 178 1418 = some (.istore 5, []) := by decide +kernel
theorem zi_178_1420 : zI 178 1420 = some (.aload_n 2, []) := by decide +kernel
theorem zi_178_1421 : zI 178 1421 = some (.aload_n 0, []) := by decide +kernel
theorem zi_178_1422 : zI 178 1422 = some (.iload 4, []) := by decide +kernel
theorem zi_178_1424 : zI 178 1424 = some (.iconst 1, []) := by decide +kernel
theorem zi_178_1425 : zI 178 1425 = some (.iadd, []) := by decide +kernel
theorem zi_178_1426 : zI 178 1426 = some (.iaload, []) := by decide +kernel
theorem zi_178_1427 : zI 178 1427 = some (.invokevirtual 163, [153, 0, 1, 7, 807, 808, 19, 806, 0, 805]) := by decide +kernel
theorem zi_178_1430 : zI 178 1430 = some (.istore 6, []) := by decide +kernel
theorem zi_178_1432 : zI 178 1432 = some (.aload_n 2, []) := by decide +kernel
theorem zi_178_1433 : zI 178 1433 = some (.invokevirtual 91, [131, 0, 0, 7, 696, 697, 19, 695, 0, 694]) := by decide +kernel
theorem zi_178_1436 : zI 178 1436 = some (.iload 5, []) := by decide +kernel
theorem zi_178_1438 : zI 178 1438 = some (.if_icmp .eq 5, [1443]) := by decide +kernel
theorem zi_178_1443 : zI 178 1443 = some (.iload 5, []) := by decide +kernel
theorem zi_178_1445 : zI 178 1445 = some (.ifCond .ne 15, [1460]) := by decide +kernel
theorem zi_178_1448 : zI 178 1448 = some (.aload_n 3, []) := by decide +kernel
theorem zi_178_1449 : zI 178 1449 = some (.iconst 0, []) := by decide +kernel
theorem zi_178_1450 : zI 178 1450 = some (.laload, []) := by decide +kernel
theorem zi_178_1451 : zI 178 1451 = some (.iload 6, []) := by decide +kernel
theorem zi_178_1453 : zI 178 1453 = some (.i2l, []) := by decide +kernel
theorem zi_178_1454 : zI 178 1454 = some (.lcmp, []) := by decide +kernel
theorem zi_178_1455 : zI 178 1455 = some (.ifCond .eq 5, [1460]) := by decide +kernel
theorem zi_178_1460 : zI 178 1460 = some (.goto 129, [1589]) := by decide +kernel
theorem zi_178_1463 : zI 178 1463 = some (.aload_n 1, []) := by decide +kernel
theorem zi_178_1464 : zI 178 1464 = some (.aload_n 0, []) := by decide +kernel
theorem zi_178_1465 : zI 178 1465 = some (.iload 4, []) := by decide +kernel
theorem zi_178_1467 : zI 178 1467 = some (.iconst 1, []) := by decide +kernel
theorem zi_178_1468 : zI 178 1468 = some (.iadd, []) := by decide +kernel
theorem zi_178_1469 : zI 178 1469 = some (.iaload, []) := by decide +kernel
theorem zi_178_1470 : zI 178 1470 = some (.aload_n 3, []) := by decide +kernel
theorem zi_178_1474 : zI 178 1474 = some (.istore 5, []) := by decide +kernel
theorem zi_178_1476 : zI 178 1476 = some (.aload_n 2, []) := by decide +kernel
theorem zi_178_1477 : zI 178 1477 = some (.aload_n 0, []) := by decide +kernel
theorem zi_178_1478 : zI 178 1478 = some (.iload 4, []) := by decide +kernel
theorem zi_178_1480 : zI 178 1480 = some (.iconst 1, []) := by decide +kernel
theorem zi_178_1481 : zI 178 1481 = some (.iadd, []) := by decide +kernel
theorem zi_178_1482 : zI 178 1482 = some (.iaload, []) := by decide +kernel
theorem zi_178_1483 : zI 178 1483 = some (.invokevirtual 166, [154, 0, 1, 7, 812, 813, 19, 811, 0, 810]) := by decide +kernel
theorem zi_178_1486 : zI 178 1486 = some (.istore 6, []) := by decide +kernel
theorem zi_178_1488 : zI 178 1488 = some (.aload_n 2, []) := by decide +kernel
theorem zi_178_1489 : zI 178 1489 = some (.invokevirtual 91, [131, 0, 0, 7, 696, 697, 19, 695, 0, 694]) := by decide +kernel
theorem zi_178_1492 : zI 178 1492 = some (.iload 5, []) := by decide +kernel
theorem zi_178_1494 : zI 178 1494 = some (.if_icmp .eq 5, [1499]) := by decide +kernel
theorem zi_178_1499 : zI 178 1499 = some (.iload 5, []) := by decide +kernel
theorem zi_178_1501 : zI 178 1501 = some (.ifCond .ne 15, [1516]) := by decide +kernel
theorem zi_178_1504 : zI 178 1504 = some (.aload_n 3, []) := by decide +kernel
theorem zi_178_1505 : zI 178 1505 = some (.iconst 0, []) := by decide +kernel
theorem zi_178_1506 : zI 178 1506 = some (.laload, []) := by decide +kernel
theorem zi_178_1507 : zI 178 1507 = some (.iload 6, []) := by decide +kernel
theorem zi_178_1509 : zI 178 1509 = some (.i2l, []) := by decide +kernel
theorem zi_178_1510 : zI 178 1510 = some (.lcmp, []) := by decide +kernel
theorem zi_178_1511 : zI 178 1511 = some (.ifCond .eq 5, [1516]) := by decide +kernel
theorem zi_178_1516 : zI 178 1516 = some (.goto 73, [1589]) := by decide +kernel
theorem zi_178_1519 : zI 178 1519 = some (.aload_n 1, []) := by decide +kernel
theorem zi_178_1520 : zI 178 1520 = some (.aload_n 0, []) := by decide +kernel
theorem zi_178_1521 : zI 178 1521 = some (.iload 4, []) := by decide +kernel
theorem zi_178_1523 : zI 178 1523 = some (.iconst 1, []) := by decide +kernel
theorem zi_178_1524 : zI 178 1524 = some (.iadd, []) := by decide +kernel
theorem zi_178_1525 : zI 178 1525 = some (.iaload, []) := by decide +kernel
theorem zi_178_1526 : zI 178 1526 = some (.aload_n 3, []) := by decide +kernel
theorem zi_178_1530 : zI 178 1530 = some (.istore 5, []) := by decide +kernel
theorem zi_178_1532 : zI 178 1532 = some (.aload_n 2, []) := by decide +kernel
theorem zi_178_1533 : zI 178 1533 = some (.aload_n 0, []) := by decide +kernel
theorem zi_178_1534 : zI 178 1534 = some (.iload 4, []) := by decide +kernel
theorem zi_178_1536 : zI 178 1536 = some (.iconst 1, []) := by decide +kernel
theorem zi_178_1537 : zI 178 1537 = some (.iadd, []) := by decide +kernel
theorem zi_178_1538 : zI 178 1538 = some (.iaload, []) := by decide +kernel
theorem zi_178_1539 : zI 178 1539 = some (.invokevirtual 169, [155, 0, 1, 7, 817, 818, 19, 816, 0, 815]) := by decide +kernel
theorem zi_178_1542 : zI 178 1542 = some (.istore 6, []) := by decide +kernel
theorem zi_178_1544 : zI 178 1544 = some (.aload_n 2, []) := by decide +kernel
theorem zi_178_1545 : zI 178 1545 = some (.invokevirtual 91, [131, 0, 0, 7, 696, 697, 19, 695, 0, 694]) := by decide +kernel
theorem zi_178_1548 : zI 178 1548 = some (.iload 5, []) := by decide +kernel
theorem zi_178_1550 : zI 178 1550 = some (.if_icmp .eq 5, [1555]) := by decide +kernel
theorem zi_178_1555 : zI 178 1555 = some (.iload 5, []) := by decide +kernel
theorem zi_178_1557 : zI 178 1557 = some (.ifCond .ne 15, [1572]) := by decide +kernel
theorem zi_178_1560 : zI 178 1560 = some (.aload_n 3, []) := by decide +kernel
theorem zi_178_1561 : zI 178 1561 = some (.iconst 0, []) := by decide +kernel
theorem zi_178_1562 : zI 178 1562 = some (.laload, []) := by decide +kernel
theorem zi_178_1563 : zI 178 1563 = some (.iload 6, []) := by decide +kernel
theorem zi_178_1565 : zI 178 1565 = some (.i2l, []) := by decide +kernel
theorem zi_178_1566 : zI 178 1566 = some (.lcmp, []) := by decide +kernel
theorem zi_178_1567 : zI 178 1567 = some (.ifCond .eq 5, [1572]) := by decide +kernel
theorem zi_178_1572 : zI 178 1572 = some (.goto 17, [1589]) := by decide +kernel
theorem zi_178_1575 : zI 178 1575 = some (.aload_n 1, []) := by decide +kernel
theorem zi_178_1576 : zI 178 1576 = some (.invokevirtual 170, [129, 0, 0, 6, 821, 822, 118, 820, 0, 819]) := by decide +kernel
theorem zi_178_1579 : zI 178 1579 = some (.aload_n 2, []) := by decide +kernel
theorem zi_178_1580 : zI 178 1580 = some (.invokevirtual 174, [156, 0, 0, 7, 825, 826, 19, 824, 0, 823]) := by decide +kernel
theorem zi_178_1583 : zI 178 1583 = some (.lcmp, []) := by decide +kernel
theorem zi_178_1584 : zI 178 1584 = some (.ifCond .eq 5, [1589]) := by decide +kernel
theorem zi_178_1589 : zI 178 1589 = some (.iinc 4 4, []) := by decide +kernel
theorem zi_178_1592 : zI 178 1592 = some (.goto (-1569), [23]) := by decide +kernel
theorem zi_178_1595 : zI 178 1595 = some (.iconst 1, []) := by decide +kernel
theorem zi_178_1596 : zI 178 1596 = some (.ireturn, []) := by decide +kernel
/-! THE LAW'S STRETCHES (n: the script's length, f: its numbers) -/
section LT
variable {y pc pc' : Nat} {L L' : zL} {st : List Value} {h : zH} {r : zR} {ax : List Nat}
theorem zr_dload {n : Nat} {x : UInt64} (hI : zI y pc = some (.dload n, ax)) (hl : L[n]? = some (some (.double x))) (hp : pc + 2 = pc') (k : zruns zTB y pc' L (.double x :: st) h r) : zruns zTB y pc L st h r := zruns_step hI (fun _ => by subst hp; simp only [zstep, zbase, zloadD, hl, zgo]) k
theorem zr_dstore {n : Nat} {x : UInt64} (hI : zI y pc = some (.dstore n, ax)) (hn : n + 1 < L.length) (hL : zst2 L n (.double x) = L') (hp : pc + 2 = pc') (k : zruns zTB y pc' L' st h r) : zruns zTB y pc L (.double x :: st) h r := zruns_step hI (fun _ => by subst hL; subst hp; simp only [zstep, zbase, zstoreD, if_pos hn, zgo]) k
theorem lg_same (a : Int64) : lg_cmp a a = 0 := by
  unfold lg_cmp
  rw [if_neg (by exact Int64.lt_irrefl), if_pos rfl]
end LT
abbrev lLs (a5 a6 a7 a8 : Option Value) : zL := [some (.ref 0), some (.ref 1), some (.ref 72), some (.ref 88), some (.int (nI 0)), a5, a6, a7, a8]
section LE
variable {h : zH} {f : Nat → Int32} {ob : Nat → Int64} {fs : List Value}
theorem l_end (h0 : h[0]? = some (.inl (0, 4, .inl f))) (a5 a6 a7 a8 : Option Value) : zruns zTB 178 1589 (lLs a5 a6 a7 a8) [] h (some (.int 1), h) := by
  refine zr_iinc (v := (nI 4)) (pc' := 1592) zi_178_1589 rfl rfl (by rfl) rfl ?_
  refine zr_goto zi_178_1592 ?_
  refine zr_iload (pc' := 25) zi_178_23 rfl rfl ?_
  refine zr_aload_n (pc' := 26) zi_178_25 rfl rfl ?_
  refine zr_alen (v := (nI 4)) (pc' := 27) zi_178_26 h0 rfl rfl ?_
  refine zr_iconst (v := (nI 4)) (pc' := 28) zi_178_27 rfl rfl ?_
  refine zr_isub (v := (nI 0)) (pc' := 29) zi_178_28 rfl rfl ?_
  refine zr_icmpt zi_178_29 rfl ?_
  refine zr_iconst (v := 1) (pc' := 1596) zi_178_1595 rfl rfl ?_
  exact zr_zreturn zi_178_1596 rfl (Or.inr rfl)
theorem lp_line (h0 : h[0]? = some (.inl (0, 4, .inl f))) (hx0 : f 0 &&& nI 31 = nI 0) : zgt 178 23 (lLs none none none none) [] h (172, lLs none none none none, ([.ref 1, .int (f 1), .int (f 2), .int (f 3), .ref 88] : List Value).reverse, h) := by
  refine zg_iload (pc' := 25) zi_178_23 rfl rfl ?_
  refine zg_aload_n (pc' := 26) zi_178_25 rfl rfl ?_
  refine zg_alen (v := (nI 4)) (pc' := 27) zi_178_26 h0 rfl rfl ?_
  refine zg_iconst (v := (nI 4)) (pc' := 28) zi_178_27 rfl rfl ?_
  refine zg_isub (v := (nI 0)) (pc' := 29) zi_178_28 rfl rfl ?_
  refine zg_icmpf (pc' := 32) zi_178_29 rfl rfl ?_
  refine zg_aload_n (pc' := 33) zi_178_32 rfl rfl ?_
  refine zg_iload (pc' := 35) zi_178_33 rfl rfl ?_
  refine zg_iald (v := f 0) (pc' := 36) zi_178_35 h0 (by decide) rfl rfl ?_
  refine zg_bipush (v := (nI 31)) (pc' := 38) zi_178_36 rfl rfl ?_
  refine zg_iand (v := nI 0) (pc' := 39) zi_178_38 hx0 rfl ?_
  refine zg_table_in zi_178_39 0 (by decide) (by decide) rfl ?_
  refine zg_aload_n (pc' := 153) zi_178_152 rfl rfl ?_
  refine zg_aload_n (pc' := 154) zi_178_153 rfl rfl ?_
  refine zg_iload (pc' := 156) zi_178_154 rfl rfl ?_
  refine zg_iconst (v := (nI 1)) (pc' := 157) zi_178_156 rfl rfl ?_
  refine zg_iadd (v := (nI 1)) (pc' := 158) zi_178_157 rfl rfl ?_
  refine zg_iald (v := f 1) (pc' := 159) zi_178_158 h0 (by decide) rfl rfl ?_
  refine zg_aload_n (pc' := 160) zi_178_159 rfl rfl ?_
  refine zg_iload (pc' := 162) zi_178_160 rfl rfl ?_
  refine zg_iconst (v := (nI 2)) (pc' := 163) zi_178_162 rfl rfl ?_
  refine zg_iadd (v := (nI 2)) (pc' := 164) zi_178_163 rfl rfl ?_
  refine zg_iald (v := f 2) (pc' := 165) zi_178_164 h0 (by decide) rfl rfl ?_
  refine zg_aload_n (pc' := 166) zi_178_165 rfl rfl ?_
  refine zg_iload (pc' := 168) zi_178_166 rfl rfl ?_
  refine zg_iconst (v := (nI 3)) (pc' := 169) zi_178_168 rfl rfl ?_
  refine zg_iadd (v := (nI 3)) (pc' := 170) zi_178_169 rfl rfl ?_
  refine zg_iald (v := f 3) (pc' := 171) zi_178_170 h0 (by decide) rfl rfl ?_
  refine zg_aload_n (pc' := 172) zi_178_171 rfl rfl ?_
  exact zgt_here _ _ _ _ _
theorem tl_line {k res : Int32} (h0 : h[0]? = some (.inl (0, 4, .inl f))) (h72 : h[72]? = some (.inr (7, fs))) (h88 : h[88]? = some (.inl (1, 1, .inr (.inl ob)))) (hlen : h.length = 89) (mo : zMo 72 h 132 [.ref 72, .int (f 1), .int (f 2), .int (f 3)] k (.int res)) (hres : k = 0 → ob 0 = res.toInt64) : ∃ h3, (h3.length ≤ 97 ∧ zss h3 ≤ zss h + 600) ∧ zruns zTB 178 175 (lLs none none none none) [.int k] h (some (.int 1), h3) := by
  obtain ⟨⟨q1, h2⟩, ⟨e1, ⟨fs2, e2⟩, e3, e4, e5⟩, hc⟩ := mo
  simp only at e1 e2 e3 e4 e5
  subst e1
  have g0 : h2[0]? = some (.inl (0, 4, .inl f)) := by rw [e3 0 (Or.inl (by decide)) (by omega)]; exact h0
  have g88 : h2[88]? = some (.inl (1, 1, .inr (.inl ob))) := by rw [e3 88 (Or.inr (by decide)) (by omega)]; exact h88
  refine ⟨h2, ⟨by omega, e5⟩, ?_⟩
  refine zr_istore (pc' := 177) zi_178_175 (Nat.le_of_ble_eq_true rfl) rfl rfl ?_
  dsimp only [zst1, zst2, zkill, List.set, List.getElem?_cons_succ, List.getElem?_cons_zero]
  refine zr_aload_n (pc' := 178) zi_178_177 rfl rfl ?_
  refine zr_aload_n (pc' := 179) zi_178_178 rfl rfl ?_
  refine zr_iload (pc' := 181) zi_178_179 rfl rfl ?_
  refine zr_iconst (v := (nI 1)) (pc' := 182) zi_178_181 rfl rfl ?_
  refine zr_iadd (v := (nI 1)) (pc' := 183) zi_178_182 rfl rfl ?_
  refine zr_iald (v := f 1) (pc' := 184) zi_178_183 h0 (by decide) rfl rfl ?_
  refine zr_aload_n (pc' := 185) zi_178_184 rfl rfl ?_
  refine zr_iload (pc' := 187) zi_178_185 rfl rfl ?_
  refine zr_iconst (v := (nI 2)) (pc' := 188) zi_178_187 rfl rfl ?_
  refine zr_iadd (v := (nI 2)) (pc' := 189) zi_178_188 rfl rfl ?_
  refine zr_iald (v := f 2) (pc' := 190) zi_178_189 h0 (by decide) rfl rfl ?_
  refine zr_aload_n (pc' := 191) zi_178_190 rfl rfl ?_
  refine zr_iload (pc' := 193) zi_178_191 rfl rfl ?_
  refine zr_iconst (v := (nI 3)) (pc' := 194) zi_178_193 rfl rfl ?_
  refine zr_iadd (v := (nI 3)) (pc' := 195) zi_178_194 rfl rfl ?_
  refine zr_iald (v := f 3) (pc' := 196) zi_178_195 h0 (by decide) rfl rfl ?_
  refine zr_v3 (pc' := 199) zi_178_196 h72 rfl hc rfl ?_
  refine zr_istore (pc' := 201) zi_178_199 (Nat.le_of_ble_eq_true rfl) rfl rfl ?_
  dsimp only [zst1, zst2, zkill, List.set, List.getElem?_cons_succ, List.getElem?_cons_zero]
  refine zr_aload_n (pc' := 202) zi_178_201 rfl rfl ?_
  refine zr_v0 (pc' := 205) zi_178_202 e2 rfl (m_thrown e2) rfl ?_
  refine zr_iload (pc' := 207) zi_178_205 rfl rfl ?_
  refine zr_icmpt zi_178_207 (decide_eq_true rfl) ?_
  refine zr_iload (pc' := 214) zi_178_212 rfl rfl ?_
  refine zr_if (pc' := 217) zi_178_214 rfl (fun hk => ?_) (fun hk => ?_)
  · refine zr_goto zi_178_229 ?_
    exact l_end g0 _ _ _ _
  · refine zr_aload_n (pc' := 218) zi_178_217 rfl rfl ?_
    refine zr_iconst (v := (nI 0)) (pc' := 219) zi_178_218 rfl rfl ?_
    refine zr_lald (v := ob 0) (pc' := 220) zi_178_219 g88 (by decide) rfl rfl ?_
    refine zr_iload (pc' := 222) zi_178_220 rfl rfl ?_
    refine zr_i2l (pc' := 223) zi_178_222 rfl ?_
    refine zr_lcmp (pc' := 224) zi_178_223 rfl ?_
    refine zr_ift zi_178_224 (by rw [hres (zc_ne_f hk), lg_same]; rfl) ?_
    refine zr_goto zi_178_229 ?_
    exact l_end g0 _ _ _ _
theorem lp_word (h0 : h[0]? = some (.inl (0, 4, .inl f))) (hx0 : f 0 &&& nI 31 = nI 1) : zgt 178 23 (lLs none none none none) [] h (240, lLs none none none none, ([.ref 1, .int (f 1), .ref 88] : List Value).reverse, h) := by
  refine zg_iload (pc' := 25) zi_178_23 rfl rfl ?_
  refine zg_aload_n (pc' := 26) zi_178_25 rfl rfl ?_
  refine zg_alen (v := (nI 4)) (pc' := 27) zi_178_26 h0 rfl rfl ?_
  refine zg_iconst (v := (nI 4)) (pc' := 28) zi_178_27 rfl rfl ?_
  refine zg_isub (v := (nI 0)) (pc' := 29) zi_178_28 rfl rfl ?_
  refine zg_icmpf (pc' := 32) zi_178_29 rfl rfl ?_
  refine zg_aload_n (pc' := 33) zi_178_32 rfl rfl ?_
  refine zg_iload (pc' := 35) zi_178_33 rfl rfl ?_
  refine zg_iald (v := f 0) (pc' := 36) zi_178_35 h0 (by decide) rfl rfl ?_
  refine zg_bipush (v := (nI 31)) (pc' := 38) zi_178_36 rfl rfl ?_
  refine zg_iand (v := nI 1) (pc' := 39) zi_178_38 hx0 rfl ?_
  refine zg_table_in zi_178_39 1 (by decide) (by decide) rfl ?_
  refine zg_aload_n (pc' := 233) zi_178_232 rfl rfl ?_
  refine zg_aload_n (pc' := 234) zi_178_233 rfl rfl ?_
  refine zg_iload (pc' := 236) zi_178_234 rfl rfl ?_
  refine zg_iconst (v := (nI 1)) (pc' := 237) zi_178_236 rfl rfl ?_
  refine zg_iadd (v := (nI 1)) (pc' := 238) zi_178_237 rfl rfl ?_
  refine zg_iald (v := f 1) (pc' := 239) zi_178_238 h0 (by decide) rfl rfl ?_
  refine zg_aload_n (pc' := 240) zi_178_239 rfl rfl ?_
  exact zgt_here _ _ _ _ _
theorem tl_word {k res : Int32} (h0 : h[0]? = some (.inl (0, 4, .inl f))) (h72 : h[72]? = some (.inr (7, fs))) (h88 : h[88]? = some (.inl (1, 1, .inr (.inl ob)))) (hlen : h.length = 89) (mo : zMo 72 h 133 [.ref 72, .int (f 1)] k (.int res)) (hres : k = 0 → ob 0 = res.toInt64) : ∃ h3, (h3.length ≤ 97 ∧ zss h3 ≤ zss h + 600) ∧ zruns zTB 178 243 (lLs none none none none) [.int k] h (some (.int 1), h3) := by
  obtain ⟨⟨q1, h2⟩, ⟨e1, ⟨fs2, e2⟩, e3, e4, e5⟩, hc⟩ := mo
  simp only at e1 e2 e3 e4 e5
  subst e1
  have g0 : h2[0]? = some (.inl (0, 4, .inl f)) := by rw [e3 0 (Or.inl (by decide)) (by omega)]; exact h0
  have g88 : h2[88]? = some (.inl (1, 1, .inr (.inl ob))) := by rw [e3 88 (Or.inr (by decide)) (by omega)]; exact h88
  refine ⟨h2, ⟨by omega, e5⟩, ?_⟩
  refine zr_istore (pc' := 245) zi_178_243 (Nat.le_of_ble_eq_true rfl) rfl rfl ?_
  dsimp only [zst1, zst2, zkill, List.set, List.getElem?_cons_succ, List.getElem?_cons_zero]
  refine zr_aload_n (pc' := 246) zi_178_245 rfl rfl ?_
  refine zr_aload_n (pc' := 247) zi_178_246 rfl rfl ?_
  refine zr_iload (pc' := 249) zi_178_247 rfl rfl ?_
  refine zr_iconst (v := (nI 1)) (pc' := 250) zi_178_249 rfl rfl ?_
  refine zr_iadd (v := (nI 1)) (pc' := 251) zi_178_250 rfl rfl ?_
  refine zr_iald (v := f 1) (pc' := 252) zi_178_251 h0 (by decide) rfl rfl ?_
  refine zr_v1 (pc' := 255) zi_178_252 h72 rfl hc rfl ?_
  refine zr_istore (pc' := 257) zi_178_255 (Nat.le_of_ble_eq_true rfl) rfl rfl ?_
  dsimp only [zst1, zst2, zkill, List.set, List.getElem?_cons_succ, List.getElem?_cons_zero]
  refine zr_aload_n (pc' := 258) zi_178_257 rfl rfl ?_
  refine zr_v0 (pc' := 261) zi_178_258 e2 rfl (m_thrown e2) rfl ?_
  refine zr_iload (pc' := 263) zi_178_261 rfl rfl ?_
  refine zr_icmpt zi_178_263 (decide_eq_true rfl) ?_
  refine zr_iload (pc' := 270) zi_178_268 rfl rfl ?_
  refine zr_if (pc' := 273) zi_178_270 rfl (fun hk => ?_) (fun hk => ?_)
  · refine zr_goto zi_178_285 ?_
    exact l_end g0 _ _ _ _
  · refine zr_aload_n (pc' := 274) zi_178_273 rfl rfl ?_
    refine zr_iconst (v := (nI 0)) (pc' := 275) zi_178_274 rfl rfl ?_
    refine zr_lald (v := ob 0) (pc' := 276) zi_178_275 g88 (by decide) rfl rfl ?_
    refine zr_iload (pc' := 278) zi_178_276 rfl rfl ?_
    refine zr_i2l (pc' := 279) zi_178_278 rfl ?_
    refine zr_lcmp (pc' := 280) zi_178_279 rfl ?_
    refine zr_ift zi_178_280 (by rw [hres (zc_ne_f hk), lg_same]; rfl) ?_
    refine zr_goto zi_178_285 ?_
    exact l_end g0 _ _ _ _
theorem lp_learn (h0 : h[0]? = some (.inl (0, 4, .inl f))) (hx0 : f 0 &&& nI 31 = nI 2) : zgt 178 23 (lLs none none none none) [] h (296, lLs none none none none, ([.ref 1, .int (f 1), .ref 88] : List Value).reverse, h) := by
  refine zg_iload (pc' := 25) zi_178_23 rfl rfl ?_
  refine zg_aload_n (pc' := 26) zi_178_25 rfl rfl ?_
  refine zg_alen (v := (nI 4)) (pc' := 27) zi_178_26 h0 rfl rfl ?_
  refine zg_iconst (v := (nI 4)) (pc' := 28) zi_178_27 rfl rfl ?_
  refine zg_isub (v := (nI 0)) (pc' := 29) zi_178_28 rfl rfl ?_
  refine zg_icmpf (pc' := 32) zi_178_29 rfl rfl ?_
  refine zg_aload_n (pc' := 33) zi_178_32 rfl rfl ?_
  refine zg_iload (pc' := 35) zi_178_33 rfl rfl ?_
  refine zg_iald (v := f 0) (pc' := 36) zi_178_35 h0 (by decide) rfl rfl ?_
  refine zg_bipush (v := (nI 31)) (pc' := 38) zi_178_36 rfl rfl ?_
  refine zg_iand (v := nI 2) (pc' := 39) zi_178_38 hx0 rfl ?_
  refine zg_table_in zi_178_39 2 (by decide) (by decide) rfl ?_
  refine zg_aload_n (pc' := 289) zi_178_288 rfl rfl ?_
  refine zg_aload_n (pc' := 290) zi_178_289 rfl rfl ?_
  refine zg_iload (pc' := 292) zi_178_290 rfl rfl ?_
  refine zg_iconst (v := (nI 1)) (pc' := 293) zi_178_292 rfl rfl ?_
  refine zg_iadd (v := (nI 1)) (pc' := 294) zi_178_293 rfl rfl ?_
  refine zg_iald (v := f 1) (pc' := 295) zi_178_294 h0 (by decide) rfl rfl ?_
  refine zg_aload_n (pc' := 296) zi_178_295 rfl rfl ?_
  exact zgt_here _ _ _ _ _
theorem tl_learn {k res : Int32} (h0 : h[0]? = some (.inl (0, 4, .inl f))) (h72 : h[72]? = some (.inr (7, fs))) (h88 : h[88]? = some (.inl (1, 1, .inr (.inl ob)))) (hlen : h.length = 89) (mo : zMo 72 h 134 [.ref 72, .int (f 1)] k (.int res)) (hres : k = 0 → ob 0 = res.toInt64) : ∃ h3, (h3.length ≤ 97 ∧ zss h3 ≤ zss h + 600) ∧ zruns zTB 178 299 (lLs none none none none) [.int k] h (some (.int 1), h3) := by
  obtain ⟨⟨q1, h2⟩, ⟨e1, ⟨fs2, e2⟩, e3, e4, e5⟩, hc⟩ := mo
  simp only at e1 e2 e3 e4 e5
  subst e1
  have g0 : h2[0]? = some (.inl (0, 4, .inl f)) := by rw [e3 0 (Or.inl (by decide)) (by omega)]; exact h0
  have g88 : h2[88]? = some (.inl (1, 1, .inr (.inl ob))) := by rw [e3 88 (Or.inr (by decide)) (by omega)]; exact h88
  refine ⟨h2, ⟨by omega, e5⟩, ?_⟩
  refine zr_istore (pc' := 301) zi_178_299 (Nat.le_of_ble_eq_true rfl) rfl rfl ?_
  dsimp only [zst1, zst2, zkill, List.set, List.getElem?_cons_succ, List.getElem?_cons_zero]
  refine zr_aload_n (pc' := 302) zi_178_301 rfl rfl ?_
  refine zr_aload_n (pc' := 303) zi_178_302 rfl rfl ?_
  refine zr_iload (pc' := 305) zi_178_303 rfl rfl ?_
  refine zr_iconst (v := (nI 1)) (pc' := 306) zi_178_305 rfl rfl ?_
  refine zr_iadd (v := (nI 1)) (pc' := 307) zi_178_306 rfl rfl ?_
  refine zr_iald (v := f 1) (pc' := 308) zi_178_307 h0 (by decide) rfl rfl ?_
  refine zr_v1 (pc' := 311) zi_178_308 h72 rfl hc rfl ?_
  refine zr_istore (pc' := 313) zi_178_311 (Nat.le_of_ble_eq_true rfl) rfl rfl ?_
  dsimp only [zst1, zst2, zkill, List.set, List.getElem?_cons_succ, List.getElem?_cons_zero]
  refine zr_aload_n (pc' := 314) zi_178_313 rfl rfl ?_
  refine zr_v0 (pc' := 317) zi_178_314 e2 rfl (m_thrown e2) rfl ?_
  refine zr_iload (pc' := 319) zi_178_317 rfl rfl ?_
  refine zr_icmpt zi_178_319 (decide_eq_true rfl) ?_
  refine zr_iload (pc' := 326) zi_178_324 rfl rfl ?_
  refine zr_if (pc' := 329) zi_178_326 rfl (fun hk => ?_) (fun hk => ?_)
  · refine zr_goto zi_178_341 ?_
    exact l_end g0 _ _ _ _
  · refine zr_aload_n (pc' := 330) zi_178_329 rfl rfl ?_
    refine zr_iconst (v := (nI 0)) (pc' := 331) zi_178_330 rfl rfl ?_
    refine zr_lald (v := ob 0) (pc' := 332) zi_178_331 g88 (by decide) rfl rfl ?_
    refine zr_iload (pc' := 334) zi_178_332 rfl rfl ?_
    refine zr_i2l (pc' := 335) zi_178_334 rfl ?_
    refine zr_lcmp (pc' := 336) zi_178_335 rfl ?_
    refine zr_ift zi_178_336 (by rw [hres (zc_ne_f hk), lg_same]; rfl) ?_
    refine zr_goto zi_178_341 ?_
    exact l_end g0 _ _ _ _
theorem lp_set (h0 : h[0]? = some (.inl (0, 4, .inl f))) (hx0 : f 0 &&& nI 31 = nI 3) : zgt 178 23 (lLs none none none none) [] h (358, lLs none none none none, ([.ref 1, .int (f 1), .int (f 2), .ref 88] : List Value).reverse, h) := by
  refine zg_iload (pc' := 25) zi_178_23 rfl rfl ?_
  refine zg_aload_n (pc' := 26) zi_178_25 rfl rfl ?_
  refine zg_alen (v := (nI 4)) (pc' := 27) zi_178_26 h0 rfl rfl ?_
  refine zg_iconst (v := (nI 4)) (pc' := 28) zi_178_27 rfl rfl ?_
  refine zg_isub (v := (nI 0)) (pc' := 29) zi_178_28 rfl rfl ?_
  refine zg_icmpf (pc' := 32) zi_178_29 rfl rfl ?_
  refine zg_aload_n (pc' := 33) zi_178_32 rfl rfl ?_
  refine zg_iload (pc' := 35) zi_178_33 rfl rfl ?_
  refine zg_iald (v := f 0) (pc' := 36) zi_178_35 h0 (by decide) rfl rfl ?_
  refine zg_bipush (v := (nI 31)) (pc' := 38) zi_178_36 rfl rfl ?_
  refine zg_iand (v := nI 3) (pc' := 39) zi_178_38 hx0 rfl ?_
  refine zg_table_in zi_178_39 3 (by decide) (by decide) rfl ?_
  refine zg_aload_n (pc' := 345) zi_178_344 rfl rfl ?_
  refine zg_aload_n (pc' := 346) zi_178_345 rfl rfl ?_
  refine zg_iload (pc' := 348) zi_178_346 rfl rfl ?_
  refine zg_iconst (v := (nI 1)) (pc' := 349) zi_178_348 rfl rfl ?_
  refine zg_iadd (v := (nI 1)) (pc' := 350) zi_178_349 rfl rfl ?_
  refine zg_iald (v := f 1) (pc' := 351) zi_178_350 h0 (by decide) rfl rfl ?_
  refine zg_aload_n (pc' := 352) zi_178_351 rfl rfl ?_
  refine zg_iload (pc' := 354) zi_178_352 rfl rfl ?_
  refine zg_iconst (v := (nI 2)) (pc' := 355) zi_178_354 rfl rfl ?_
  refine zg_iadd (v := (nI 2)) (pc' := 356) zi_178_355 rfl rfl ?_
  refine zg_iald (v := f 2) (pc' := 357) zi_178_356 h0 (by decide) rfl rfl ?_
  refine zg_aload_n (pc' := 358) zi_178_357 rfl rfl ?_
  exact zgt_here _ _ _ _ _
theorem tl_set {k res : Int32} (h0 : h[0]? = some (.inl (0, 4, .inl f))) (h72 : h[72]? = some (.inr (7, fs))) (h88 : h[88]? = some (.inl (1, 1, .inr (.inl ob)))) (hlen : h.length = 89) (mo : zMo 72 h 135 [.ref 72, .int (f 1), .int (f 2)] k (.int res)) (hres : k = 0 → ob 0 = res.toInt64) : ∃ h3, (h3.length ≤ 97 ∧ zss h3 ≤ zss h + 600) ∧ zruns zTB 178 361 (lLs none none none none) [.int k] h (some (.int 1), h3) := by
  obtain ⟨⟨q1, h2⟩, ⟨e1, ⟨fs2, e2⟩, e3, e4, e5⟩, hc⟩ := mo
  simp only at e1 e2 e3 e4 e5
  subst e1
  have g0 : h2[0]? = some (.inl (0, 4, .inl f)) := by rw [e3 0 (Or.inl (by decide)) (by omega)]; exact h0
  have g88 : h2[88]? = some (.inl (1, 1, .inr (.inl ob))) := by rw [e3 88 (Or.inr (by decide)) (by omega)]; exact h88
  refine ⟨h2, ⟨by omega, e5⟩, ?_⟩
  refine zr_istore (pc' := 363) zi_178_361 (Nat.le_of_ble_eq_true rfl) rfl rfl ?_
  dsimp only [zst1, zst2, zkill, List.set, List.getElem?_cons_succ, List.getElem?_cons_zero]
  refine zr_aload_n (pc' := 364) zi_178_363 rfl rfl ?_
  refine zr_aload_n (pc' := 365) zi_178_364 rfl rfl ?_
  refine zr_iload (pc' := 367) zi_178_365 rfl rfl ?_
  refine zr_iconst (v := (nI 1)) (pc' := 368) zi_178_367 rfl rfl ?_
  refine zr_iadd (v := (nI 1)) (pc' := 369) zi_178_368 rfl rfl ?_
  refine zr_iald (v := f 1) (pc' := 370) zi_178_369 h0 (by decide) rfl rfl ?_
  refine zr_aload_n (pc' := 371) zi_178_370 rfl rfl ?_
  refine zr_iload (pc' := 373) zi_178_371 rfl rfl ?_
  refine zr_iconst (v := (nI 2)) (pc' := 374) zi_178_373 rfl rfl ?_
  refine zr_iadd (v := (nI 2)) (pc' := 375) zi_178_374 rfl rfl ?_
  refine zr_iald (v := f 2) (pc' := 376) zi_178_375 h0 (by decide) rfl rfl ?_
  refine zr_v2 (pc' := 379) zi_178_376 h72 rfl hc rfl ?_
  refine zr_istore (pc' := 381) zi_178_379 (Nat.le_of_ble_eq_true rfl) rfl rfl ?_
  dsimp only [zst1, zst2, zkill, List.set, List.getElem?_cons_succ, List.getElem?_cons_zero]
  refine zr_aload_n (pc' := 382) zi_178_381 rfl rfl ?_
  refine zr_v0 (pc' := 385) zi_178_382 e2 rfl (m_thrown e2) rfl ?_
  refine zr_iload (pc' := 387) zi_178_385 rfl rfl ?_
  refine zr_icmpt zi_178_387 (decide_eq_true rfl) ?_
  refine zr_iload (pc' := 394) zi_178_392 rfl rfl ?_
  refine zr_if (pc' := 397) zi_178_394 rfl (fun hk => ?_) (fun hk => ?_)
  · refine zr_goto zi_178_409 ?_
    exact l_end g0 _ _ _ _
  · refine zr_aload_n (pc' := 398) zi_178_397 rfl rfl ?_
    refine zr_iconst (v := (nI 0)) (pc' := 399) zi_178_398 rfl rfl ?_
    refine zr_lald (v := ob 0) (pc' := 400) zi_178_399 g88 (by decide) rfl rfl ?_
    refine zr_iload (pc' := 402) zi_178_400 rfl rfl ?_
    refine zr_i2l (pc' := 403) zi_178_402 rfl ?_
    refine zr_lcmp (pc' := 404) zi_178_403 rfl ?_
    refine zr_ift zi_178_404 (by rw [hres (zc_ne_f hk), lg_same]; rfl) ?_
    refine zr_goto zi_178_409 ?_
    exact l_end g0 _ _ _ _
theorem lp_many (h0 : h[0]? = some (.inl (0, 4, .inl f))) (hx0 : f 0 &&& nI 31 = nI 5) : zgt 178 23 (lLs none none none none) [] h (433, lLs none none none none, ([.ref 1, .int (f 1), .ref 88] : List Value).reverse, h) := by
  refine zg_iload (pc' := 25) zi_178_23 rfl rfl ?_
  refine zg_aload_n (pc' := 26) zi_178_25 rfl rfl ?_
  refine zg_alen (v := (nI 4)) (pc' := 27) zi_178_26 h0 rfl rfl ?_
  refine zg_iconst (v := (nI 4)) (pc' := 28) zi_178_27 rfl rfl ?_
  refine zg_isub (v := (nI 0)) (pc' := 29) zi_178_28 rfl rfl ?_
  refine zg_icmpf (pc' := 32) zi_178_29 rfl rfl ?_
  refine zg_aload_n (pc' := 33) zi_178_32 rfl rfl ?_
  refine zg_iload (pc' := 35) zi_178_33 rfl rfl ?_
  refine zg_iald (v := f 0) (pc' := 36) zi_178_35 h0 (by decide) rfl rfl ?_
  refine zg_bipush (v := (nI 31)) (pc' := 38) zi_178_36 rfl rfl ?_
  refine zg_iand (v := nI 5) (pc' := 39) zi_178_38 hx0 rfl ?_
  refine zg_table_in zi_178_39 5 (by decide) (by decide) rfl ?_
  refine zg_aload_n (pc' := 426) zi_178_425 rfl rfl ?_
  refine zg_aload_n (pc' := 427) zi_178_426 rfl rfl ?_
  refine zg_iload (pc' := 429) zi_178_427 rfl rfl ?_
  refine zg_iconst (v := (nI 1)) (pc' := 430) zi_178_429 rfl rfl ?_
  refine zg_iadd (v := (nI 1)) (pc' := 431) zi_178_430 rfl rfl ?_
  refine zg_iald (v := f 1) (pc' := 432) zi_178_431 h0 (by decide) rfl rfl ?_
  refine zg_aload_n (pc' := 433) zi_178_432 rfl rfl ?_
  exact zgt_here _ _ _ _ _
theorem tl_many {k res : Int32} (h0 : h[0]? = some (.inl (0, 4, .inl f))) (h72 : h[72]? = some (.inr (7, fs))) (h88 : h[88]? = some (.inl (1, 1, .inr (.inl ob)))) (hlen : h.length = 89) (mo : zMo 72 h 137 [.ref 72, .int (f 1)] k (.int res)) (hres : k = 0 → ob 0 = res.toInt64) : ∃ h3, (h3.length ≤ 97 ∧ zss h3 ≤ zss h + 600) ∧ zruns zTB 178 436 (lLs none none none none) [.int k] h (some (.int 1), h3) := by
  obtain ⟨⟨q1, h2⟩, ⟨e1, ⟨fs2, e2⟩, e3, e4, e5⟩, hc⟩ := mo
  simp only at e1 e2 e3 e4 e5
  subst e1
  have g0 : h2[0]? = some (.inl (0, 4, .inl f)) := by rw [e3 0 (Or.inl (by decide)) (by omega)]; exact h0
  have g88 : h2[88]? = some (.inl (1, 1, .inr (.inl ob))) := by rw [e3 88 (Or.inr (by decide)) (by omega)]; exact h88
  refine ⟨h2, ⟨by omega, e5⟩, ?_⟩
  refine zr_istore (pc' := 438) zi_178_436 (Nat.le_of_ble_eq_true rfl) rfl rfl ?_
  dsimp only [zst1, zst2, zkill, List.set, List.getElem?_cons_succ, List.getElem?_cons_zero]
  refine zr_aload_n (pc' := 439) zi_178_438 rfl rfl ?_
  refine zr_aload_n (pc' := 440) zi_178_439 rfl rfl ?_
  refine zr_iload (pc' := 442) zi_178_440 rfl rfl ?_
  refine zr_iconst (v := (nI 1)) (pc' := 443) zi_178_442 rfl rfl ?_
  refine zr_iadd (v := (nI 1)) (pc' := 444) zi_178_443 rfl rfl ?_
  refine zr_iald (v := f 1) (pc' := 445) zi_178_444 h0 (by decide) rfl rfl ?_
  refine zr_v1 (pc' := 448) zi_178_445 h72 rfl hc rfl ?_
  refine zr_istore (pc' := 450) zi_178_448 (Nat.le_of_ble_eq_true rfl) rfl rfl ?_
  dsimp only [zst1, zst2, zkill, List.set, List.getElem?_cons_succ, List.getElem?_cons_zero]
  refine zr_aload_n (pc' := 451) zi_178_450 rfl rfl ?_
  refine zr_v0 (pc' := 454) zi_178_451 e2 rfl (m_thrown e2) rfl ?_
  refine zr_iload (pc' := 456) zi_178_454 rfl rfl ?_
  refine zr_icmpt zi_178_456 (decide_eq_true rfl) ?_
  refine zr_iload (pc' := 463) zi_178_461 rfl rfl ?_
  refine zr_if (pc' := 466) zi_178_463 rfl (fun hk => ?_) (fun hk => ?_)
  · refine zr_goto zi_178_478 ?_
    exact l_end g0 _ _ _ _
  · refine zr_aload_n (pc' := 467) zi_178_466 rfl rfl ?_
    refine zr_iconst (v := (nI 0)) (pc' := 468) zi_178_467 rfl rfl ?_
    refine zr_lald (v := ob 0) (pc' := 469) zi_178_468 g88 (by decide) rfl rfl ?_
    refine zr_iload (pc' := 471) zi_178_469 rfl rfl ?_
    refine zr_i2l (pc' := 472) zi_178_471 rfl ?_
    refine zr_lcmp (pc' := 473) zi_178_472 rfl ?_
    refine zr_ift zi_178_473 (by rw [hres (zc_ne_f hk), lg_same]; rfl) ?_
    refine zr_goto zi_178_478 ?_
    exact l_end g0 _ _ _ _
theorem lp_ofLine (h0 : h[0]? = some (.inl (0, 4, .inl f))) (hx0 : f 0 &&& nI 31 = nI 6) : zgt 178 23 (lLs none none none none) [] h (495, lLs none none none none, ([.ref 1, .int (f 1), .int (f 2), .ref 88] : List Value).reverse, h) := by
  refine zg_iload (pc' := 25) zi_178_23 rfl rfl ?_
  refine zg_aload_n (pc' := 26) zi_178_25 rfl rfl ?_
  refine zg_alen (v := (nI 4)) (pc' := 27) zi_178_26 h0 rfl rfl ?_
  refine zg_iconst (v := (nI 4)) (pc' := 28) zi_178_27 rfl rfl ?_
  refine zg_isub (v := (nI 0)) (pc' := 29) zi_178_28 rfl rfl ?_
  refine zg_icmpf (pc' := 32) zi_178_29 rfl rfl ?_
  refine zg_aload_n (pc' := 33) zi_178_32 rfl rfl ?_
  refine zg_iload (pc' := 35) zi_178_33 rfl rfl ?_
  refine zg_iald (v := f 0) (pc' := 36) zi_178_35 h0 (by decide) rfl rfl ?_
  refine zg_bipush (v := (nI 31)) (pc' := 38) zi_178_36 rfl rfl ?_
  refine zg_iand (v := nI 6) (pc' := 39) zi_178_38 hx0 rfl ?_
  refine zg_table_in zi_178_39 6 (by decide) (by decide) rfl ?_
  refine zg_aload_n (pc' := 482) zi_178_481 rfl rfl ?_
  refine zg_aload_n (pc' := 483) zi_178_482 rfl rfl ?_
  refine zg_iload (pc' := 485) zi_178_483 rfl rfl ?_
  refine zg_iconst (v := (nI 1)) (pc' := 486) zi_178_485 rfl rfl ?_
  refine zg_iadd (v := (nI 1)) (pc' := 487) zi_178_486 rfl rfl ?_
  refine zg_iald (v := f 1) (pc' := 488) zi_178_487 h0 (by decide) rfl rfl ?_
  refine zg_aload_n (pc' := 489) zi_178_488 rfl rfl ?_
  refine zg_iload (pc' := 491) zi_178_489 rfl rfl ?_
  refine zg_iconst (v := (nI 2)) (pc' := 492) zi_178_491 rfl rfl ?_
  refine zg_iadd (v := (nI 2)) (pc' := 493) zi_178_492 rfl rfl ?_
  refine zg_iald (v := f 2) (pc' := 494) zi_178_493 h0 (by decide) rfl rfl ?_
  refine zg_aload_n (pc' := 495) zi_178_494 rfl rfl ?_
  exact zgt_here _ _ _ _ _
theorem tl_ofLine {k res : Int32} (h0 : h[0]? = some (.inl (0, 4, .inl f))) (h72 : h[72]? = some (.inr (7, fs))) (h88 : h[88]? = some (.inl (1, 1, .inr (.inl ob)))) (hlen : h.length = 89) (mo : zMo 72 h 138 [.ref 72, .int (f 1), .int (f 2)] k (.int res)) (hres : k = 0 → ob 0 = res.toInt64) : ∃ h3, (h3.length ≤ 97 ∧ zss h3 ≤ zss h + 600) ∧ zruns zTB 178 498 (lLs none none none none) [.int k] h (some (.int 1), h3) := by
  obtain ⟨⟨q1, h2⟩, ⟨e1, ⟨fs2, e2⟩, e3, e4, e5⟩, hc⟩ := mo
  simp only at e1 e2 e3 e4 e5
  subst e1
  have g0 : h2[0]? = some (.inl (0, 4, .inl f)) := by rw [e3 0 (Or.inl (by decide)) (by omega)]; exact h0
  have g88 : h2[88]? = some (.inl (1, 1, .inr (.inl ob))) := by rw [e3 88 (Or.inr (by decide)) (by omega)]; exact h88
  refine ⟨h2, ⟨by omega, e5⟩, ?_⟩
  refine zr_istore (pc' := 500) zi_178_498 (Nat.le_of_ble_eq_true rfl) rfl rfl ?_
  dsimp only [zst1, zst2, zkill, List.set, List.getElem?_cons_succ, List.getElem?_cons_zero]
  refine zr_aload_n (pc' := 501) zi_178_500 rfl rfl ?_
  refine zr_aload_n (pc' := 502) zi_178_501 rfl rfl ?_
  refine zr_iload (pc' := 504) zi_178_502 rfl rfl ?_
  refine zr_iconst (v := (nI 1)) (pc' := 505) zi_178_504 rfl rfl ?_
  refine zr_iadd (v := (nI 1)) (pc' := 506) zi_178_505 rfl rfl ?_
  refine zr_iald (v := f 1) (pc' := 507) zi_178_506 h0 (by decide) rfl rfl ?_
  refine zr_aload_n (pc' := 508) zi_178_507 rfl rfl ?_
  refine zr_iload (pc' := 510) zi_178_508 rfl rfl ?_
  refine zr_iconst (v := (nI 2)) (pc' := 511) zi_178_510 rfl rfl ?_
  refine zr_iadd (v := (nI 2)) (pc' := 512) zi_178_511 rfl rfl ?_
  refine zr_iald (v := f 2) (pc' := 513) zi_178_512 h0 (by decide) rfl rfl ?_
  refine zr_v2 (pc' := 516) zi_178_513 h72 rfl hc rfl ?_
  refine zr_istore (pc' := 518) zi_178_516 (Nat.le_of_ble_eq_true rfl) rfl rfl ?_
  dsimp only [zst1, zst2, zkill, List.set, List.getElem?_cons_succ, List.getElem?_cons_zero]
  refine zr_aload_n (pc' := 519) zi_178_518 rfl rfl ?_
  refine zr_v0 (pc' := 522) zi_178_519 e2 rfl (m_thrown e2) rfl ?_
  refine zr_iload (pc' := 524) zi_178_522 rfl rfl ?_
  refine zr_icmpt zi_178_524 (decide_eq_true rfl) ?_
  refine zr_iload (pc' := 531) zi_178_529 rfl rfl ?_
  refine zr_if (pc' := 534) zi_178_531 rfl (fun hk => ?_) (fun hk => ?_)
  · refine zr_goto zi_178_546 ?_
    exact l_end g0 _ _ _ _
  · refine zr_aload_n (pc' := 535) zi_178_534 rfl rfl ?_
    refine zr_iconst (v := (nI 0)) (pc' := 536) zi_178_535 rfl rfl ?_
    refine zr_lald (v := ob 0) (pc' := 537) zi_178_536 g88 (by decide) rfl rfl ?_
    refine zr_iload (pc' := 539) zi_178_537 rfl rfl ?_
    refine zr_i2l (pc' := 540) zi_178_539 rfl ?_
    refine zr_lcmp (pc' := 541) zi_178_540 rfl ?_
    refine zr_ift zi_178_541 (by rw [hres (zc_ne_f hk), lg_same]; rfl) ?_
    refine zr_goto zi_178_546 ?_
    exact l_end g0 _ _ _ _
theorem lp_wordAt (h0 : h[0]? = some (.inl (0, 4, .inl f))) (hx0 : f 0 &&& nI 31 = nI 7) : zgt 178 23 (lLs none none none none) [] h (563, lLs none none none none, ([.ref 1, .int (f 1), .int (f 2), .ref 88] : List Value).reverse, h) := by
  refine zg_iload (pc' := 25) zi_178_23 rfl rfl ?_
  refine zg_aload_n (pc' := 26) zi_178_25 rfl rfl ?_
  refine zg_alen (v := (nI 4)) (pc' := 27) zi_178_26 h0 rfl rfl ?_
  refine zg_iconst (v := (nI 4)) (pc' := 28) zi_178_27 rfl rfl ?_
  refine zg_isub (v := (nI 0)) (pc' := 29) zi_178_28 rfl rfl ?_
  refine zg_icmpf (pc' := 32) zi_178_29 rfl rfl ?_
  refine zg_aload_n (pc' := 33) zi_178_32 rfl rfl ?_
  refine zg_iload (pc' := 35) zi_178_33 rfl rfl ?_
  refine zg_iald (v := f 0) (pc' := 36) zi_178_35 h0 (by decide) rfl rfl ?_
  refine zg_bipush (v := (nI 31)) (pc' := 38) zi_178_36 rfl rfl ?_
  refine zg_iand (v := nI 7) (pc' := 39) zi_178_38 hx0 rfl ?_
  refine zg_table_in zi_178_39 7 (by decide) (by decide) rfl ?_
  refine zg_aload_n (pc' := 550) zi_178_549 rfl rfl ?_
  refine zg_aload_n (pc' := 551) zi_178_550 rfl rfl ?_
  refine zg_iload (pc' := 553) zi_178_551 rfl rfl ?_
  refine zg_iconst (v := (nI 1)) (pc' := 554) zi_178_553 rfl rfl ?_
  refine zg_iadd (v := (nI 1)) (pc' := 555) zi_178_554 rfl rfl ?_
  refine zg_iald (v := f 1) (pc' := 556) zi_178_555 h0 (by decide) rfl rfl ?_
  refine zg_aload_n (pc' := 557) zi_178_556 rfl rfl ?_
  refine zg_iload (pc' := 559) zi_178_557 rfl rfl ?_
  refine zg_iconst (v := (nI 2)) (pc' := 560) zi_178_559 rfl rfl ?_
  refine zg_iadd (v := (nI 2)) (pc' := 561) zi_178_560 rfl rfl ?_
  refine zg_iald (v := f 2) (pc' := 562) zi_178_561 h0 (by decide) rfl rfl ?_
  refine zg_aload_n (pc' := 563) zi_178_562 rfl rfl ?_
  exact zgt_here _ _ _ _ _
theorem tl_wordAt {k res : Int32} (h0 : h[0]? = some (.inl (0, 4, .inl f))) (h72 : h[72]? = some (.inr (7, fs))) (h88 : h[88]? = some (.inl (1, 1, .inr (.inl ob)))) (hlen : h.length = 89) (mo : zMo 72 h 139 [.ref 72, .int (f 1), .int (f 2)] k (.int res)) (hres : k = 0 → ob 0 = res.toInt64) : ∃ h3, (h3.length ≤ 97 ∧ zss h3 ≤ zss h + 600) ∧ zruns zTB 178 566 (lLs none none none none) [.int k] h (some (.int 1), h3) := by
  obtain ⟨⟨q1, h2⟩, ⟨e1, ⟨fs2, e2⟩, e3, e4, e5⟩, hc⟩ := mo
  simp only at e1 e2 e3 e4 e5
  subst e1
  have g0 : h2[0]? = some (.inl (0, 4, .inl f)) := by rw [e3 0 (Or.inl (by decide)) (by omega)]; exact h0
  have g88 : h2[88]? = some (.inl (1, 1, .inr (.inl ob))) := by rw [e3 88 (Or.inr (by decide)) (by omega)]; exact h88
  refine ⟨h2, ⟨by omega, e5⟩, ?_⟩
  refine zr_istore (pc' := 568) zi_178_566 (Nat.le_of_ble_eq_true rfl) rfl rfl ?_
  dsimp only [zst1, zst2, zkill, List.set, List.getElem?_cons_succ, List.getElem?_cons_zero]
  refine zr_aload_n (pc' := 569) zi_178_568 rfl rfl ?_
  refine zr_aload_n (pc' := 570) zi_178_569 rfl rfl ?_
  refine zr_iload (pc' := 572) zi_178_570 rfl rfl ?_
  refine zr_iconst (v := (nI 1)) (pc' := 573) zi_178_572 rfl rfl ?_
  refine zr_iadd (v := (nI 1)) (pc' := 574) zi_178_573 rfl rfl ?_
  refine zr_iald (v := f 1) (pc' := 575) zi_178_574 h0 (by decide) rfl rfl ?_
  refine zr_aload_n (pc' := 576) zi_178_575 rfl rfl ?_
  refine zr_iload (pc' := 578) zi_178_576 rfl rfl ?_
  refine zr_iconst (v := (nI 2)) (pc' := 579) zi_178_578 rfl rfl ?_
  refine zr_iadd (v := (nI 2)) (pc' := 580) zi_178_579 rfl rfl ?_
  refine zr_iald (v := f 2) (pc' := 581) zi_178_580 h0 (by decide) rfl rfl ?_
  refine zr_v2 (pc' := 584) zi_178_581 h72 rfl hc rfl ?_
  refine zr_istore (pc' := 586) zi_178_584 (Nat.le_of_ble_eq_true rfl) rfl rfl ?_
  dsimp only [zst1, zst2, zkill, List.set, List.getElem?_cons_succ, List.getElem?_cons_zero]
  refine zr_aload_n (pc' := 587) zi_178_586 rfl rfl ?_
  refine zr_v0 (pc' := 590) zi_178_587 e2 rfl (m_thrown e2) rfl ?_
  refine zr_iload (pc' := 592) zi_178_590 rfl rfl ?_
  refine zr_icmpt zi_178_592 (decide_eq_true rfl) ?_
  refine zr_iload (pc' := 599) zi_178_597 rfl rfl ?_
  refine zr_if (pc' := 602) zi_178_599 rfl (fun hk => ?_) (fun hk => ?_)
  · refine zr_goto zi_178_614 ?_
    exact l_end g0 _ _ _ _
  · refine zr_aload_n (pc' := 603) zi_178_602 rfl rfl ?_
    refine zr_iconst (v := (nI 0)) (pc' := 604) zi_178_603 rfl rfl ?_
    refine zr_lald (v := ob 0) (pc' := 605) zi_178_604 g88 (by decide) rfl rfl ?_
    refine zr_iload (pc' := 607) zi_178_605 rfl rfl ?_
    refine zr_i2l (pc' := 608) zi_178_607 rfl ?_
    refine zr_lcmp (pc' := 609) zi_178_608 rfl ?_
    refine zr_ift zi_178_609 (by rw [hres (zc_ne_f hk), lg_same]; rfl) ?_
    refine zr_goto zi_178_614 ?_
    exact l_end g0 _ _ _ _
theorem lp_ofTemplate (h0 : h[0]? = some (.inl (0, 4, .inl f))) (hx0 : f 0 &&& nI 31 = nI 8) : zgt 178 23 (lLs none none none none) [] h (631, lLs none none none none, ([.ref 1, .int (f 1), .int (f 2), .ref 88] : List Value).reverse, h) := by
  refine zg_iload (pc' := 25) zi_178_23 rfl rfl ?_
  refine zg_aload_n (pc' := 26) zi_178_25 rfl rfl ?_
  refine zg_alen (v := (nI 4)) (pc' := 27) zi_178_26 h0 rfl rfl ?_
  refine zg_iconst (v := (nI 4)) (pc' := 28) zi_178_27 rfl rfl ?_
  refine zg_isub (v := (nI 0)) (pc' := 29) zi_178_28 rfl rfl ?_
  refine zg_icmpf (pc' := 32) zi_178_29 rfl rfl ?_
  refine zg_aload_n (pc' := 33) zi_178_32 rfl rfl ?_
  refine zg_iload (pc' := 35) zi_178_33 rfl rfl ?_
  refine zg_iald (v := f 0) (pc' := 36) zi_178_35 h0 (by decide) rfl rfl ?_
  refine zg_bipush (v := (nI 31)) (pc' := 38) zi_178_36 rfl rfl ?_
  refine zg_iand (v := nI 8) (pc' := 39) zi_178_38 hx0 rfl ?_
  refine zg_table_in zi_178_39 8 (by decide) (by decide) rfl ?_
  refine zg_aload_n (pc' := 618) zi_178_617 rfl rfl ?_
  refine zg_aload_n (pc' := 619) zi_178_618 rfl rfl ?_
  refine zg_iload (pc' := 621) zi_178_619 rfl rfl ?_
  refine zg_iconst (v := (nI 1)) (pc' := 622) zi_178_621 rfl rfl ?_
  refine zg_iadd (v := (nI 1)) (pc' := 623) zi_178_622 rfl rfl ?_
  refine zg_iald (v := f 1) (pc' := 624) zi_178_623 h0 (by decide) rfl rfl ?_
  refine zg_aload_n (pc' := 625) zi_178_624 rfl rfl ?_
  refine zg_iload (pc' := 627) zi_178_625 rfl rfl ?_
  refine zg_iconst (v := (nI 2)) (pc' := 628) zi_178_627 rfl rfl ?_
  refine zg_iadd (v := (nI 2)) (pc' := 629) zi_178_628 rfl rfl ?_
  refine zg_iald (v := f 2) (pc' := 630) zi_178_629 h0 (by decide) rfl rfl ?_
  refine zg_aload_n (pc' := 631) zi_178_630 rfl rfl ?_
  exact zgt_here _ _ _ _ _
theorem tl_ofTemplate {k res : Int32} (h0 : h[0]? = some (.inl (0, 4, .inl f))) (h72 : h[72]? = some (.inr (7, fs))) (h88 : h[88]? = some (.inl (1, 1, .inr (.inl ob)))) (hlen : h.length = 89) (mo : zMo 72 h 140 [.ref 72, .int (f 1), .int (f 2)] k (.int res)) (hres : k = 0 → ob 0 = res.toInt64) : ∃ h3, (h3.length ≤ 97 ∧ zss h3 ≤ zss h + 600) ∧ zruns zTB 178 634 (lLs none none none none) [.int k] h (some (.int 1), h3) := by
  obtain ⟨⟨q1, h2⟩, ⟨e1, ⟨fs2, e2⟩, e3, e4, e5⟩, hc⟩ := mo
  simp only at e1 e2 e3 e4 e5
  subst e1
  have g0 : h2[0]? = some (.inl (0, 4, .inl f)) := by rw [e3 0 (Or.inl (by decide)) (by omega)]; exact h0
  have g88 : h2[88]? = some (.inl (1, 1, .inr (.inl ob))) := by rw [e3 88 (Or.inr (by decide)) (by omega)]; exact h88
  refine ⟨h2, ⟨by omega, e5⟩, ?_⟩
  refine zr_istore (pc' := 636) zi_178_634 (Nat.le_of_ble_eq_true rfl) rfl rfl ?_
  dsimp only [zst1, zst2, zkill, List.set, List.getElem?_cons_succ, List.getElem?_cons_zero]
  refine zr_aload_n (pc' := 637) zi_178_636 rfl rfl ?_
  refine zr_aload_n (pc' := 638) zi_178_637 rfl rfl ?_
  refine zr_iload (pc' := 640) zi_178_638 rfl rfl ?_
  refine zr_iconst (v := (nI 1)) (pc' := 641) zi_178_640 rfl rfl ?_
  refine zr_iadd (v := (nI 1)) (pc' := 642) zi_178_641 rfl rfl ?_
  refine zr_iald (v := f 1) (pc' := 643) zi_178_642 h0 (by decide) rfl rfl ?_
  refine zr_aload_n (pc' := 644) zi_178_643 rfl rfl ?_
  refine zr_iload (pc' := 646) zi_178_644 rfl rfl ?_
  refine zr_iconst (v := (nI 2)) (pc' := 647) zi_178_646 rfl rfl ?_
  refine zr_iadd (v := (nI 2)) (pc' := 648) zi_178_647 rfl rfl ?_
  refine zr_iald (v := f 2) (pc' := 649) zi_178_648 h0 (by decide) rfl rfl ?_
  refine zr_v2 (pc' := 652) zi_178_649 h72 rfl hc rfl ?_
  refine zr_istore (pc' := 654) zi_178_652 (Nat.le_of_ble_eq_true rfl) rfl rfl ?_
  dsimp only [zst1, zst2, zkill, List.set, List.getElem?_cons_succ, List.getElem?_cons_zero]
  refine zr_aload_n (pc' := 655) zi_178_654 rfl rfl ?_
  refine zr_v0 (pc' := 658) zi_178_655 e2 rfl (m_thrown e2) rfl ?_
  refine zr_iload (pc' := 660) zi_178_658 rfl rfl ?_
  refine zr_icmpt zi_178_660 (decide_eq_true rfl) ?_
  refine zr_iload (pc' := 667) zi_178_665 rfl rfl ?_
  refine zr_if (pc' := 670) zi_178_667 rfl (fun hk => ?_) (fun hk => ?_)
  · refine zr_goto zi_178_682 ?_
    exact l_end g0 _ _ _ _
  · refine zr_aload_n (pc' := 671) zi_178_670 rfl rfl ?_
    refine zr_iconst (v := (nI 0)) (pc' := 672) zi_178_671 rfl rfl ?_
    refine zr_lald (v := ob 0) (pc' := 673) zi_178_672 g88 (by decide) rfl rfl ?_
    refine zr_iload (pc' := 675) zi_178_673 rfl rfl ?_
    refine zr_i2l (pc' := 676) zi_178_675 rfl ?_
    refine zr_lcmp (pc' := 677) zi_178_676 rfl ?_
    refine zr_ift zi_178_677 (by rw [hres (zc_ne_f hk), lg_same]; rfl) ?_
    refine zr_goto zi_178_682 ?_
    exact l_end g0 _ _ _ _
theorem lp_slot (h0 : h[0]? = some (.inl (0, 4, .inl f))) (hx0 : f 0 &&& nI 31 = nI 9) : zgt 178 23 (lLs none none none none) [] h (699, lLs none none none none, ([.ref 1, .int (f 1), .int (f 2), .ref 88] : List Value).reverse, h) := by
  refine zg_iload (pc' := 25) zi_178_23 rfl rfl ?_
  refine zg_aload_n (pc' := 26) zi_178_25 rfl rfl ?_
  refine zg_alen (v := (nI 4)) (pc' := 27) zi_178_26 h0 rfl rfl ?_
  refine zg_iconst (v := (nI 4)) (pc' := 28) zi_178_27 rfl rfl ?_
  refine zg_isub (v := (nI 0)) (pc' := 29) zi_178_28 rfl rfl ?_
  refine zg_icmpf (pc' := 32) zi_178_29 rfl rfl ?_
  refine zg_aload_n (pc' := 33) zi_178_32 rfl rfl ?_
  refine zg_iload (pc' := 35) zi_178_33 rfl rfl ?_
  refine zg_iald (v := f 0) (pc' := 36) zi_178_35 h0 (by decide) rfl rfl ?_
  refine zg_bipush (v := (nI 31)) (pc' := 38) zi_178_36 rfl rfl ?_
  refine zg_iand (v := nI 9) (pc' := 39) zi_178_38 hx0 rfl ?_
  refine zg_table_in zi_178_39 9 (by decide) (by decide) rfl ?_
  refine zg_aload_n (pc' := 686) zi_178_685 rfl rfl ?_
  refine zg_aload_n (pc' := 687) zi_178_686 rfl rfl ?_
  refine zg_iload (pc' := 689) zi_178_687 rfl rfl ?_
  refine zg_iconst (v := (nI 1)) (pc' := 690) zi_178_689 rfl rfl ?_
  refine zg_iadd (v := (nI 1)) (pc' := 691) zi_178_690 rfl rfl ?_
  refine zg_iald (v := f 1) (pc' := 692) zi_178_691 h0 (by decide) rfl rfl ?_
  refine zg_aload_n (pc' := 693) zi_178_692 rfl rfl ?_
  refine zg_iload (pc' := 695) zi_178_693 rfl rfl ?_
  refine zg_iconst (v := (nI 2)) (pc' := 696) zi_178_695 rfl rfl ?_
  refine zg_iadd (v := (nI 2)) (pc' := 697) zi_178_696 rfl rfl ?_
  refine zg_iald (v := f 2) (pc' := 698) zi_178_697 h0 (by decide) rfl rfl ?_
  refine zg_aload_n (pc' := 699) zi_178_698 rfl rfl ?_
  exact zgt_here _ _ _ _ _
theorem tl_slot {k res : Int32} (h0 : h[0]? = some (.inl (0, 4, .inl f))) (h72 : h[72]? = some (.inr (7, fs))) (h88 : h[88]? = some (.inl (1, 1, .inr (.inl ob)))) (hlen : h.length = 89) (mo : zMo 72 h 141 [.ref 72, .int (f 1), .int (f 2)] k (.int res)) (hres : k = 0 → ob 0 = res.toInt64) : ∃ h3, (h3.length ≤ 97 ∧ zss h3 ≤ zss h + 600) ∧ zruns zTB 178 702 (lLs none none none none) [.int k] h (some (.int 1), h3) := by
  obtain ⟨⟨q1, h2⟩, ⟨e1, ⟨fs2, e2⟩, e3, e4, e5⟩, hc⟩ := mo
  simp only at e1 e2 e3 e4 e5
  subst e1
  have g0 : h2[0]? = some (.inl (0, 4, .inl f)) := by rw [e3 0 (Or.inl (by decide)) (by omega)]; exact h0
  have g88 : h2[88]? = some (.inl (1, 1, .inr (.inl ob))) := by rw [e3 88 (Or.inr (by decide)) (by omega)]; exact h88
  refine ⟨h2, ⟨by omega, e5⟩, ?_⟩
  refine zr_istore (pc' := 704) zi_178_702 (Nat.le_of_ble_eq_true rfl) rfl rfl ?_
  dsimp only [zst1, zst2, zkill, List.set, List.getElem?_cons_succ, List.getElem?_cons_zero]
  refine zr_aload_n (pc' := 705) zi_178_704 rfl rfl ?_
  refine zr_aload_n (pc' := 706) zi_178_705 rfl rfl ?_
  refine zr_iload (pc' := 708) zi_178_706 rfl rfl ?_
  refine zr_iconst (v := (nI 1)) (pc' := 709) zi_178_708 rfl rfl ?_
  refine zr_iadd (v := (nI 1)) (pc' := 710) zi_178_709 rfl rfl ?_
  refine zr_iald (v := f 1) (pc' := 711) zi_178_710 h0 (by decide) rfl rfl ?_
  refine zr_aload_n (pc' := 712) zi_178_711 rfl rfl ?_
  refine zr_iload (pc' := 714) zi_178_712 rfl rfl ?_
  refine zr_iconst (v := (nI 2)) (pc' := 715) zi_178_714 rfl rfl ?_
  refine zr_iadd (v := (nI 2)) (pc' := 716) zi_178_715 rfl rfl ?_
  refine zr_iald (v := f 2) (pc' := 717) zi_178_716 h0 (by decide) rfl rfl ?_
  refine zr_v2 (pc' := 720) zi_178_717 h72 rfl hc rfl ?_
  refine zr_istore (pc' := 722) zi_178_720 (Nat.le_of_ble_eq_true rfl) rfl rfl ?_
  dsimp only [zst1, zst2, zkill, List.set, List.getElem?_cons_succ, List.getElem?_cons_zero]
  refine zr_aload_n (pc' := 723) zi_178_722 rfl rfl ?_
  refine zr_v0 (pc' := 726) zi_178_723 e2 rfl (m_thrown e2) rfl ?_
  refine zr_iload (pc' := 728) zi_178_726 rfl rfl ?_
  refine zr_icmpt zi_178_728 (decide_eq_true rfl) ?_
  refine zr_iload (pc' := 735) zi_178_733 rfl rfl ?_
  refine zr_if (pc' := 738) zi_178_735 rfl (fun hk => ?_) (fun hk => ?_)
  · refine zr_goto zi_178_750 ?_
    exact l_end g0 _ _ _ _
  · refine zr_aload_n (pc' := 739) zi_178_738 rfl rfl ?_
    refine zr_iconst (v := (nI 0)) (pc' := 740) zi_178_739 rfl rfl ?_
    refine zr_lald (v := ob 0) (pc' := 741) zi_178_740 g88 (by decide) rfl rfl ?_
    refine zr_iload (pc' := 743) zi_178_741 rfl rfl ?_
    refine zr_i2l (pc' := 744) zi_178_743 rfl ?_
    refine zr_lcmp (pc' := 745) zi_178_744 rfl ?_
    refine zr_ift zi_178_745 (by rw [hres (zc_ne_f hk), lg_same]; rfl) ?_
    refine zr_goto zi_178_750 ?_
    exact l_end g0 _ _ _ _
theorem lp_values (h0 : h[0]? = some (.inl (0, 4, .inl f))) (hx0 : f 0 &&& nI 31 = nI 10) : zgt 178 23 (lLs none none none none) [] h (767, lLs none none none none, ([.ref 1, .int (f 1), .int (f 2), .ref 88] : List Value).reverse, h) := by
  refine zg_iload (pc' := 25) zi_178_23 rfl rfl ?_
  refine zg_aload_n (pc' := 26) zi_178_25 rfl rfl ?_
  refine zg_alen (v := (nI 4)) (pc' := 27) zi_178_26 h0 rfl rfl ?_
  refine zg_iconst (v := (nI 4)) (pc' := 28) zi_178_27 rfl rfl ?_
  refine zg_isub (v := (nI 0)) (pc' := 29) zi_178_28 rfl rfl ?_
  refine zg_icmpf (pc' := 32) zi_178_29 rfl rfl ?_
  refine zg_aload_n (pc' := 33) zi_178_32 rfl rfl ?_
  refine zg_iload (pc' := 35) zi_178_33 rfl rfl ?_
  refine zg_iald (v := f 0) (pc' := 36) zi_178_35 h0 (by decide) rfl rfl ?_
  refine zg_bipush (v := (nI 31)) (pc' := 38) zi_178_36 rfl rfl ?_
  refine zg_iand (v := nI 10) (pc' := 39) zi_178_38 hx0 rfl ?_
  refine zg_table_in zi_178_39 10 (by decide) (by decide) rfl ?_
  refine zg_aload_n (pc' := 754) zi_178_753 rfl rfl ?_
  refine zg_aload_n (pc' := 755) zi_178_754 rfl rfl ?_
  refine zg_iload (pc' := 757) zi_178_755 rfl rfl ?_
  refine zg_iconst (v := (nI 1)) (pc' := 758) zi_178_757 rfl rfl ?_
  refine zg_iadd (v := (nI 1)) (pc' := 759) zi_178_758 rfl rfl ?_
  refine zg_iald (v := f 1) (pc' := 760) zi_178_759 h0 (by decide) rfl rfl ?_
  refine zg_aload_n (pc' := 761) zi_178_760 rfl rfl ?_
  refine zg_iload (pc' := 763) zi_178_761 rfl rfl ?_
  refine zg_iconst (v := (nI 2)) (pc' := 764) zi_178_763 rfl rfl ?_
  refine zg_iadd (v := (nI 2)) (pc' := 765) zi_178_764 rfl rfl ?_
  refine zg_iald (v := f 2) (pc' := 766) zi_178_765 h0 (by decide) rfl rfl ?_
  refine zg_aload_n (pc' := 767) zi_178_766 rfl rfl ?_
  exact zgt_here _ _ _ _ _
theorem tl_values {k res : Int32} (h0 : h[0]? = some (.inl (0, 4, .inl f))) (h72 : h[72]? = some (.inr (7, fs))) (h88 : h[88]? = some (.inl (1, 1, .inr (.inl ob)))) (hlen : h.length = 89) (mo : zMo 72 h 142 [.ref 72, .int (f 1), .int (f 2)] k (.int res)) (hres : k = 0 → ob 0 = res.toInt64) : ∃ h3, (h3.length ≤ 97 ∧ zss h3 ≤ zss h + 600) ∧ zruns zTB 178 770 (lLs none none none none) [.int k] h (some (.int 1), h3) := by
  obtain ⟨⟨q1, h2⟩, ⟨e1, ⟨fs2, e2⟩, e3, e4, e5⟩, hc⟩ := mo
  simp only at e1 e2 e3 e4 e5
  subst e1
  have g0 : h2[0]? = some (.inl (0, 4, .inl f)) := by rw [e3 0 (Or.inl (by decide)) (by omega)]; exact h0
  have g88 : h2[88]? = some (.inl (1, 1, .inr (.inl ob))) := by rw [e3 88 (Or.inr (by decide)) (by omega)]; exact h88
  refine ⟨h2, ⟨by omega, e5⟩, ?_⟩
  refine zr_istore (pc' := 772) zi_178_770 (Nat.le_of_ble_eq_true rfl) rfl rfl ?_
  dsimp only [zst1, zst2, zkill, List.set, List.getElem?_cons_succ, List.getElem?_cons_zero]
  refine zr_aload_n (pc' := 773) zi_178_772 rfl rfl ?_
  refine zr_aload_n (pc' := 774) zi_178_773 rfl rfl ?_
  refine zr_iload (pc' := 776) zi_178_774 rfl rfl ?_
  refine zr_iconst (v := (nI 1)) (pc' := 777) zi_178_776 rfl rfl ?_
  refine zr_iadd (v := (nI 1)) (pc' := 778) zi_178_777 rfl rfl ?_
  refine zr_iald (v := f 1) (pc' := 779) zi_178_778 h0 (by decide) rfl rfl ?_
  refine zr_aload_n (pc' := 780) zi_178_779 rfl rfl ?_
  refine zr_iload (pc' := 782) zi_178_780 rfl rfl ?_
  refine zr_iconst (v := (nI 2)) (pc' := 783) zi_178_782 rfl rfl ?_
  refine zr_iadd (v := (nI 2)) (pc' := 784) zi_178_783 rfl rfl ?_
  refine zr_iald (v := f 2) (pc' := 785) zi_178_784 h0 (by decide) rfl rfl ?_
  refine zr_v2 (pc' := 788) zi_178_785 h72 rfl hc rfl ?_
  refine zr_istore (pc' := 790) zi_178_788 (Nat.le_of_ble_eq_true rfl) rfl rfl ?_
  dsimp only [zst1, zst2, zkill, List.set, List.getElem?_cons_succ, List.getElem?_cons_zero]
  refine zr_aload_n (pc' := 791) zi_178_790 rfl rfl ?_
  refine zr_v0 (pc' := 794) zi_178_791 e2 rfl (m_thrown e2) rfl ?_
  refine zr_iload (pc' := 796) zi_178_794 rfl rfl ?_
  refine zr_icmpt zi_178_796 (decide_eq_true rfl) ?_
  refine zr_iload (pc' := 803) zi_178_801 rfl rfl ?_
  refine zr_if (pc' := 806) zi_178_803 rfl (fun hk => ?_) (fun hk => ?_)
  · refine zr_goto zi_178_818 ?_
    exact l_end g0 _ _ _ _
  · refine zr_aload_n (pc' := 807) zi_178_806 rfl rfl ?_
    refine zr_iconst (v := (nI 0)) (pc' := 808) zi_178_807 rfl rfl ?_
    refine zr_lald (v := ob 0) (pc' := 809) zi_178_808 g88 (by decide) rfl rfl ?_
    refine zr_iload (pc' := 811) zi_178_809 rfl rfl ?_
    refine zr_i2l (pc' := 812) zi_178_811 rfl ?_
    refine zr_lcmp (pc' := 813) zi_178_812 rfl ?_
    refine zr_ift zi_178_813 (by rw [hres (zc_ne_f hk), lg_same]; rfl) ?_
    refine zr_goto zi_178_818 ?_
    exact l_end g0 _ _ _ _
theorem lp_alike (h0 : h[0]? = some (.inl (0, 4, .inl f))) (hx0 : f 0 &&& nI 31 = nI 11) : zgt 178 23 (lLs none none none none) [] h (835, lLs none none none none, ([.ref 1, .int (f 1), .int (f 2), .ref 88] : List Value).reverse, h) := by
  refine zg_iload (pc' := 25) zi_178_23 rfl rfl ?_
  refine zg_aload_n (pc' := 26) zi_178_25 rfl rfl ?_
  refine zg_alen (v := (nI 4)) (pc' := 27) zi_178_26 h0 rfl rfl ?_
  refine zg_iconst (v := (nI 4)) (pc' := 28) zi_178_27 rfl rfl ?_
  refine zg_isub (v := (nI 0)) (pc' := 29) zi_178_28 rfl rfl ?_
  refine zg_icmpf (pc' := 32) zi_178_29 rfl rfl ?_
  refine zg_aload_n (pc' := 33) zi_178_32 rfl rfl ?_
  refine zg_iload (pc' := 35) zi_178_33 rfl rfl ?_
  refine zg_iald (v := f 0) (pc' := 36) zi_178_35 h0 (by decide) rfl rfl ?_
  refine zg_bipush (v := (nI 31)) (pc' := 38) zi_178_36 rfl rfl ?_
  refine zg_iand (v := nI 11) (pc' := 39) zi_178_38 hx0 rfl ?_
  refine zg_table_in zi_178_39 11 (by decide) (by decide) rfl ?_
  refine zg_aload_n (pc' := 822) zi_178_821 rfl rfl ?_
  refine zg_aload_n (pc' := 823) zi_178_822 rfl rfl ?_
  refine zg_iload (pc' := 825) zi_178_823 rfl rfl ?_
  refine zg_iconst (v := (nI 1)) (pc' := 826) zi_178_825 rfl rfl ?_
  refine zg_iadd (v := (nI 1)) (pc' := 827) zi_178_826 rfl rfl ?_
  refine zg_iald (v := f 1) (pc' := 828) zi_178_827 h0 (by decide) rfl rfl ?_
  refine zg_aload_n (pc' := 829) zi_178_828 rfl rfl ?_
  refine zg_iload (pc' := 831) zi_178_829 rfl rfl ?_
  refine zg_iconst (v := (nI 2)) (pc' := 832) zi_178_831 rfl rfl ?_
  refine zg_iadd (v := (nI 2)) (pc' := 833) zi_178_832 rfl rfl ?_
  refine zg_iald (v := f 2) (pc' := 834) zi_178_833 h0 (by decide) rfl rfl ?_
  refine zg_aload_n (pc' := 835) zi_178_834 rfl rfl ?_
  exact zgt_here _ _ _ _ _
theorem tl_alike {k res : Int32} (h0 : h[0]? = some (.inl (0, 4, .inl f))) (h72 : h[72]? = some (.inr (7, fs))) (h88 : h[88]? = some (.inl (1, 1, .inr (.inl ob)))) (hlen : h.length = 89) (mo : zMo 72 h 143 [.ref 72, .int (f 1), .int (f 2)] k (.int res)) (hres : k = 0 → ob 0 = res.toInt64) : ∃ h3, (h3.length ≤ 97 ∧ zss h3 ≤ zss h + 600) ∧ zruns zTB 178 838 (lLs none none none none) [.int k] h (some (.int 1), h3) := by
  obtain ⟨⟨q1, h2⟩, ⟨e1, ⟨fs2, e2⟩, e3, e4, e5⟩, hc⟩ := mo
  simp only at e1 e2 e3 e4 e5
  subst e1
  have g0 : h2[0]? = some (.inl (0, 4, .inl f)) := by rw [e3 0 (Or.inl (by decide)) (by omega)]; exact h0
  have g88 : h2[88]? = some (.inl (1, 1, .inr (.inl ob))) := by rw [e3 88 (Or.inr (by decide)) (by omega)]; exact h88
  refine ⟨h2, ⟨by omega, e5⟩, ?_⟩
  refine zr_istore (pc' := 840) zi_178_838 (Nat.le_of_ble_eq_true rfl) rfl rfl ?_
  dsimp only [zst1, zst2, zkill, List.set, List.getElem?_cons_succ, List.getElem?_cons_zero]
  refine zr_aload_n (pc' := 841) zi_178_840 rfl rfl ?_
  refine zr_aload_n (pc' := 842) zi_178_841 rfl rfl ?_
  refine zr_iload (pc' := 844) zi_178_842 rfl rfl ?_
  refine zr_iconst (v := (nI 1)) (pc' := 845) zi_178_844 rfl rfl ?_
  refine zr_iadd (v := (nI 1)) (pc' := 846) zi_178_845 rfl rfl ?_
  refine zr_iald (v := f 1) (pc' := 847) zi_178_846 h0 (by decide) rfl rfl ?_
  refine zr_aload_n (pc' := 848) zi_178_847 rfl rfl ?_
  refine zr_iload (pc' := 850) zi_178_848 rfl rfl ?_
  refine zr_iconst (v := (nI 2)) (pc' := 851) zi_178_850 rfl rfl ?_
  refine zr_iadd (v := (nI 2)) (pc' := 852) zi_178_851 rfl rfl ?_
  refine zr_iald (v := f 2) (pc' := 853) zi_178_852 h0 (by decide) rfl rfl ?_
  refine zr_v2 (pc' := 856) zi_178_853 h72 rfl hc rfl ?_
  refine zr_istore (pc' := 858) zi_178_856 (Nat.le_of_ble_eq_true rfl) rfl rfl ?_
  dsimp only [zst1, zst2, zkill, List.set, List.getElem?_cons_succ, List.getElem?_cons_zero]
  refine zr_aload_n (pc' := 859) zi_178_858 rfl rfl ?_
  refine zr_v0 (pc' := 862) zi_178_859 e2 rfl (m_thrown e2) rfl ?_
  refine zr_iload (pc' := 864) zi_178_862 rfl rfl ?_
  refine zr_icmpt zi_178_864 (decide_eq_true rfl) ?_
  refine zr_iload (pc' := 871) zi_178_869 rfl rfl ?_
  refine zr_if (pc' := 874) zi_178_871 rfl (fun hk => ?_) (fun hk => ?_)
  · refine zr_goto zi_178_886 ?_
    exact l_end g0 _ _ _ _
  · refine zr_aload_n (pc' := 875) zi_178_874 rfl rfl ?_
    refine zr_iconst (v := (nI 0)) (pc' := 876) zi_178_875 rfl rfl ?_
    refine zr_lald (v := ob 0) (pc' := 877) zi_178_876 g88 (by decide) rfl rfl ?_
    refine zr_iload (pc' := 879) zi_178_877 rfl rfl ?_
    refine zr_i2l (pc' := 880) zi_178_879 rfl ?_
    refine zr_lcmp (pc' := 881) zi_178_880 rfl ?_
    refine zr_ift zi_178_881 (by rw [hres (zc_ne_f hk), lg_same]; rfl) ?_
    refine zr_goto zi_178_886 ?_
    exact l_end g0 _ _ _ _
theorem lp_ofSession (h0 : h[0]? = some (.inl (0, 4, .inl f))) (hx0 : f 0 &&& nI 31 = nI 12) : zgt 178 23 (lLs none none none none) [] h (903, lLs none none none none, ([.ref 1, .int (f 1), .int (f 2), .ref 88] : List Value).reverse, h) := by
  refine zg_iload (pc' := 25) zi_178_23 rfl rfl ?_
  refine zg_aload_n (pc' := 26) zi_178_25 rfl rfl ?_
  refine zg_alen (v := (nI 4)) (pc' := 27) zi_178_26 h0 rfl rfl ?_
  refine zg_iconst (v := (nI 4)) (pc' := 28) zi_178_27 rfl rfl ?_
  refine zg_isub (v := (nI 0)) (pc' := 29) zi_178_28 rfl rfl ?_
  refine zg_icmpf (pc' := 32) zi_178_29 rfl rfl ?_
  refine zg_aload_n (pc' := 33) zi_178_32 rfl rfl ?_
  refine zg_iload (pc' := 35) zi_178_33 rfl rfl ?_
  refine zg_iald (v := f 0) (pc' := 36) zi_178_35 h0 (by decide) rfl rfl ?_
  refine zg_bipush (v := (nI 31)) (pc' := 38) zi_178_36 rfl rfl ?_
  refine zg_iand (v := nI 12) (pc' := 39) zi_178_38 hx0 rfl ?_
  refine zg_table_in zi_178_39 12 (by decide) (by decide) rfl ?_
  refine zg_aload_n (pc' := 890) zi_178_889 rfl rfl ?_
  refine zg_aload_n (pc' := 891) zi_178_890 rfl rfl ?_
  refine zg_iload (pc' := 893) zi_178_891 rfl rfl ?_
  refine zg_iconst (v := (nI 1)) (pc' := 894) zi_178_893 rfl rfl ?_
  refine zg_iadd (v := (nI 1)) (pc' := 895) zi_178_894 rfl rfl ?_
  refine zg_iald (v := f 1) (pc' := 896) zi_178_895 h0 (by decide) rfl rfl ?_
  refine zg_aload_n (pc' := 897) zi_178_896 rfl rfl ?_
  refine zg_iload (pc' := 899) zi_178_897 rfl rfl ?_
  refine zg_iconst (v := (nI 2)) (pc' := 900) zi_178_899 rfl rfl ?_
  refine zg_iadd (v := (nI 2)) (pc' := 901) zi_178_900 rfl rfl ?_
  refine zg_iald (v := f 2) (pc' := 902) zi_178_901 h0 (by decide) rfl rfl ?_
  refine zg_aload_n (pc' := 903) zi_178_902 rfl rfl ?_
  exact zgt_here _ _ _ _ _
theorem tl_ofSession {k res : Int32} (h0 : h[0]? = some (.inl (0, 4, .inl f))) (h72 : h[72]? = some (.inr (7, fs))) (h88 : h[88]? = some (.inl (1, 1, .inr (.inl ob)))) (hlen : h.length = 89) (mo : zMo 72 h 144 [.ref 72, .int (f 1), .int (f 2)] k (.int res)) (hres : k = 0 → ob 0 = res.toInt64) : ∃ h3, (h3.length ≤ 97 ∧ zss h3 ≤ zss h + 600) ∧ zruns zTB 178 906 (lLs none none none none) [.int k] h (some (.int 1), h3) := by
  obtain ⟨⟨q1, h2⟩, ⟨e1, ⟨fs2, e2⟩, e3, e4, e5⟩, hc⟩ := mo
  simp only at e1 e2 e3 e4 e5
  subst e1
  have g0 : h2[0]? = some (.inl (0, 4, .inl f)) := by rw [e3 0 (Or.inl (by decide)) (by omega)]; exact h0
  have g88 : h2[88]? = some (.inl (1, 1, .inr (.inl ob))) := by rw [e3 88 (Or.inr (by decide)) (by omega)]; exact h88
  refine ⟨h2, ⟨by omega, e5⟩, ?_⟩
  refine zr_istore (pc' := 908) zi_178_906 (Nat.le_of_ble_eq_true rfl) rfl rfl ?_
  dsimp only [zst1, zst2, zkill, List.set, List.getElem?_cons_succ, List.getElem?_cons_zero]
  refine zr_aload_n (pc' := 909) zi_178_908 rfl rfl ?_
  refine zr_aload_n (pc' := 910) zi_178_909 rfl rfl ?_
  refine zr_iload (pc' := 912) zi_178_910 rfl rfl ?_
  refine zr_iconst (v := (nI 1)) (pc' := 913) zi_178_912 rfl rfl ?_
  refine zr_iadd (v := (nI 1)) (pc' := 914) zi_178_913 rfl rfl ?_
  refine zr_iald (v := f 1) (pc' := 915) zi_178_914 h0 (by decide) rfl rfl ?_
  refine zr_aload_n (pc' := 916) zi_178_915 rfl rfl ?_
  refine zr_iload (pc' := 918) zi_178_916 rfl rfl ?_
  refine zr_iconst (v := (nI 2)) (pc' := 919) zi_178_918 rfl rfl ?_
  refine zr_iadd (v := (nI 2)) (pc' := 920) zi_178_919 rfl rfl ?_
  refine zr_iald (v := f 2) (pc' := 921) zi_178_920 h0 (by decide) rfl rfl ?_
  refine zr_v2 (pc' := 924) zi_178_921 h72 rfl hc rfl ?_
  refine zr_istore (pc' := 926) zi_178_924 (Nat.le_of_ble_eq_true rfl) rfl rfl ?_
  dsimp only [zst1, zst2, zkill, List.set, List.getElem?_cons_succ, List.getElem?_cons_zero]
  refine zr_aload_n (pc' := 927) zi_178_926 rfl rfl ?_
  refine zr_v0 (pc' := 930) zi_178_927 e2 rfl (m_thrown e2) rfl ?_
  refine zr_iload (pc' := 932) zi_178_930 rfl rfl ?_
  refine zr_icmpt zi_178_932 (decide_eq_true rfl) ?_
  refine zr_iload (pc' := 939) zi_178_937 rfl rfl ?_
  refine zr_if (pc' := 942) zi_178_939 rfl (fun hk => ?_) (fun hk => ?_)
  · refine zr_goto zi_178_954 ?_
    exact l_end g0 _ _ _ _
  · refine zr_aload_n (pc' := 943) zi_178_942 rfl rfl ?_
    refine zr_iconst (v := (nI 0)) (pc' := 944) zi_178_943 rfl rfl ?_
    refine zr_lald (v := ob 0) (pc' := 945) zi_178_944 g88 (by decide) rfl rfl ?_
    refine zr_iload (pc' := 947) zi_178_945 rfl rfl ?_
    refine zr_i2l (pc' := 948) zi_178_947 rfl ?_
    refine zr_lcmp (pc' := 949) zi_178_948 rfl ?_
    refine zr_ift zi_178_949 (by rw [hres (zc_ne_f hk), lg_same]; rfl) ?_
    refine zr_goto zi_178_954 ?_
    exact l_end g0 _ _ _ _
theorem lp_inSession (h0 : h[0]? = some (.inl (0, 4, .inl f))) (hx0 : f 0 &&& nI 31 = nI 13) : zgt 178 23 (lLs none none none none) [] h (971, lLs none none none none, ([.ref 1, .int (f 1), .int (f 2), .ref 88] : List Value).reverse, h) := by
  refine zg_iload (pc' := 25) zi_178_23 rfl rfl ?_
  refine zg_aload_n (pc' := 26) zi_178_25 rfl rfl ?_
  refine zg_alen (v := (nI 4)) (pc' := 27) zi_178_26 h0 rfl rfl ?_
  refine zg_iconst (v := (nI 4)) (pc' := 28) zi_178_27 rfl rfl ?_
  refine zg_isub (v := (nI 0)) (pc' := 29) zi_178_28 rfl rfl ?_
  refine zg_icmpf (pc' := 32) zi_178_29 rfl rfl ?_
  refine zg_aload_n (pc' := 33) zi_178_32 rfl rfl ?_
  refine zg_iload (pc' := 35) zi_178_33 rfl rfl ?_
  refine zg_iald (v := f 0) (pc' := 36) zi_178_35 h0 (by decide) rfl rfl ?_
  refine zg_bipush (v := (nI 31)) (pc' := 38) zi_178_36 rfl rfl ?_
  refine zg_iand (v := nI 13) (pc' := 39) zi_178_38 hx0 rfl ?_
  refine zg_table_in zi_178_39 13 (by decide) (by decide) rfl ?_
  refine zg_aload_n (pc' := 958) zi_178_957 rfl rfl ?_
  refine zg_aload_n (pc' := 959) zi_178_958 rfl rfl ?_
  refine zg_iload (pc' := 961) zi_178_959 rfl rfl ?_
  refine zg_iconst (v := (nI 1)) (pc' := 962) zi_178_961 rfl rfl ?_
  refine zg_iadd (v := (nI 1)) (pc' := 963) zi_178_962 rfl rfl ?_
  refine zg_iald (v := f 1) (pc' := 964) zi_178_963 h0 (by decide) rfl rfl ?_
  refine zg_aload_n (pc' := 965) zi_178_964 rfl rfl ?_
  refine zg_iload (pc' := 967) zi_178_965 rfl rfl ?_
  refine zg_iconst (v := (nI 2)) (pc' := 968) zi_178_967 rfl rfl ?_
  refine zg_iadd (v := (nI 2)) (pc' := 969) zi_178_968 rfl rfl ?_
  refine zg_iald (v := f 2) (pc' := 970) zi_178_969 h0 (by decide) rfl rfl ?_
  refine zg_aload_n (pc' := 971) zi_178_970 rfl rfl ?_
  exact zgt_here _ _ _ _ _
theorem tl_inSession {k res : Int32} (h0 : h[0]? = some (.inl (0, 4, .inl f))) (h72 : h[72]? = some (.inr (7, fs))) (h88 : h[88]? = some (.inl (1, 1, .inr (.inl ob)))) (hlen : h.length = 89) (mo : zMo 72 h 145 [.ref 72, .int (f 1), .int (f 2)] k (.int res)) (hres : k = 0 → ob 0 = res.toInt64) : ∃ h3, (h3.length ≤ 97 ∧ zss h3 ≤ zss h + 600) ∧ zruns zTB 178 974 (lLs none none none none) [.int k] h (some (.int 1), h3) := by
  obtain ⟨⟨q1, h2⟩, ⟨e1, ⟨fs2, e2⟩, e3, e4, e5⟩, hc⟩ := mo
  simp only at e1 e2 e3 e4 e5
  subst e1
  have g0 : h2[0]? = some (.inl (0, 4, .inl f)) := by rw [e3 0 (Or.inl (by decide)) (by omega)]; exact h0
  have g88 : h2[88]? = some (.inl (1, 1, .inr (.inl ob))) := by rw [e3 88 (Or.inr (by decide)) (by omega)]; exact h88
  refine ⟨h2, ⟨by omega, e5⟩, ?_⟩
  refine zr_istore (pc' := 976) zi_178_974 (Nat.le_of_ble_eq_true rfl) rfl rfl ?_
  dsimp only [zst1, zst2, zkill, List.set, List.getElem?_cons_succ, List.getElem?_cons_zero]
  refine zr_aload_n (pc' := 977) zi_178_976 rfl rfl ?_
  refine zr_aload_n (pc' := 978) zi_178_977 rfl rfl ?_
  refine zr_iload (pc' := 980) zi_178_978 rfl rfl ?_
  refine zr_iconst (v := (nI 1)) (pc' := 981) zi_178_980 rfl rfl ?_
  refine zr_iadd (v := (nI 1)) (pc' := 982) zi_178_981 rfl rfl ?_
  refine zr_iald (v := f 1) (pc' := 983) zi_178_982 h0 (by decide) rfl rfl ?_
  refine zr_aload_n (pc' := 984) zi_178_983 rfl rfl ?_
  refine zr_iload (pc' := 986) zi_178_984 rfl rfl ?_
  refine zr_iconst (v := (nI 2)) (pc' := 987) zi_178_986 rfl rfl ?_
  refine zr_iadd (v := (nI 2)) (pc' := 988) zi_178_987 rfl rfl ?_
  refine zr_iald (v := f 2) (pc' := 989) zi_178_988 h0 (by decide) rfl rfl ?_
  refine zr_v2 (pc' := 992) zi_178_989 h72 rfl hc rfl ?_
  refine zr_istore (pc' := 994) zi_178_992 (Nat.le_of_ble_eq_true rfl) rfl rfl ?_
  dsimp only [zst1, zst2, zkill, List.set, List.getElem?_cons_succ, List.getElem?_cons_zero]
  refine zr_aload_n (pc' := 995) zi_178_994 rfl rfl ?_
  refine zr_v0 (pc' := 998) zi_178_995 e2 rfl (m_thrown e2) rfl ?_
  refine zr_iload (pc' := 1000) zi_178_998 rfl rfl ?_
  refine zr_icmpt zi_178_1000 (decide_eq_true rfl) ?_
  refine zr_iload (pc' := 1007) zi_178_1005 rfl rfl ?_
  refine zr_if (pc' := 1010) zi_178_1007 rfl (fun hk => ?_) (fun hk => ?_)
  · refine zr_goto zi_178_1022 ?_
    exact l_end g0 _ _ _ _
  · refine zr_aload_n (pc' := 1011) zi_178_1010 rfl rfl ?_
    refine zr_iconst (v := (nI 0)) (pc' := 1012) zi_178_1011 rfl rfl ?_
    refine zr_lald (v := ob 0) (pc' := 1013) zi_178_1012 g88 (by decide) rfl rfl ?_
    refine zr_iload (pc' := 1015) zi_178_1013 rfl rfl ?_
    refine zr_i2l (pc' := 1016) zi_178_1015 rfl ?_
    refine zr_lcmp (pc' := 1017) zi_178_1016 rfl ?_
    refine zr_ift zi_178_1017 (by rw [hres (zc_ne_f hk), lg_same]; rfl) ?_
    refine zr_goto zi_178_1022 ?_
    exact l_end g0 _ _ _ _
theorem lp_count (h0 : h[0]? = some (.inl (0, 4, .inl f))) (hx0 : f 0 &&& nI 31 = nI 16) : zgt 178 23 (lLs none none none none) [] h (1093, lLs none none none none, ([.ref 1, .int (f 1), .int (f 2), .ref 88] : List Value).reverse, h) := by
  refine zg_iload (pc' := 25) zi_178_23 rfl rfl ?_
  refine zg_aload_n (pc' := 26) zi_178_25 rfl rfl ?_
  refine zg_alen (v := (nI 4)) (pc' := 27) zi_178_26 h0 rfl rfl ?_
  refine zg_iconst (v := (nI 4)) (pc' := 28) zi_178_27 rfl rfl ?_
  refine zg_isub (v := (nI 0)) (pc' := 29) zi_178_28 rfl rfl ?_
  refine zg_icmpf (pc' := 32) zi_178_29 rfl rfl ?_
  refine zg_aload_n (pc' := 33) zi_178_32 rfl rfl ?_
  refine zg_iload (pc' := 35) zi_178_33 rfl rfl ?_
  refine zg_iald (v := f 0) (pc' := 36) zi_178_35 h0 (by decide) rfl rfl ?_
  refine zg_bipush (v := (nI 31)) (pc' := 38) zi_178_36 rfl rfl ?_
  refine zg_iand (v := nI 16) (pc' := 39) zi_178_38 hx0 rfl ?_
  refine zg_table_in zi_178_39 16 (by decide) (by decide) rfl ?_
  refine zg_aload_n (pc' := 1080) zi_178_1079 rfl rfl ?_
  refine zg_aload_n (pc' := 1081) zi_178_1080 rfl rfl ?_
  refine zg_iload (pc' := 1083) zi_178_1081 rfl rfl ?_
  refine zg_iconst (v := (nI 1)) (pc' := 1084) zi_178_1083 rfl rfl ?_
  refine zg_iadd (v := (nI 1)) (pc' := 1085) zi_178_1084 rfl rfl ?_
  refine zg_iald (v := f 1) (pc' := 1086) zi_178_1085 h0 (by decide) rfl rfl ?_
  refine zg_aload_n (pc' := 1087) zi_178_1086 rfl rfl ?_
  refine zg_iload (pc' := 1089) zi_178_1087 rfl rfl ?_
  refine zg_iconst (v := (nI 2)) (pc' := 1090) zi_178_1089 rfl rfl ?_
  refine zg_iadd (v := (nI 2)) (pc' := 1091) zi_178_1090 rfl rfl ?_
  refine zg_iald (v := f 2) (pc' := 1092) zi_178_1091 h0 (by decide) rfl rfl ?_
  refine zg_aload_n (pc' := 1093) zi_178_1092 rfl rfl ?_
  exact zgt_here _ _ _ _ _
theorem tl_count {k res : Int32} (h0 : h[0]? = some (.inl (0, 4, .inl f))) (h72 : h[72]? = some (.inr (7, fs))) (h88 : h[88]? = some (.inl (1, 1, .inr (.inl ob)))) (hlen : h.length = 89) (mo : zMo 72 h 148 [.ref 72, .int (f 1), .int (f 2)] k (.int res)) (hres : k = 0 → ob 0 = res.toInt64) : ∃ h3, (h3.length ≤ 97 ∧ zss h3 ≤ zss h + 600) ∧ zruns zTB 178 1096 (lLs none none none none) [.int k] h (some (.int 1), h3) := by
  obtain ⟨⟨q1, h2⟩, ⟨e1, ⟨fs2, e2⟩, e3, e4, e5⟩, hc⟩ := mo
  simp only at e1 e2 e3 e4 e5
  subst e1
  have g0 : h2[0]? = some (.inl (0, 4, .inl f)) := by rw [e3 0 (Or.inl (by decide)) (by omega)]; exact h0
  have g88 : h2[88]? = some (.inl (1, 1, .inr (.inl ob))) := by rw [e3 88 (Or.inr (by decide)) (by omega)]; exact h88
  refine ⟨h2, ⟨by omega, e5⟩, ?_⟩
  refine zr_istore (pc' := 1098) zi_178_1096 (Nat.le_of_ble_eq_true rfl) rfl rfl ?_
  dsimp only [zst1, zst2, zkill, List.set, List.getElem?_cons_succ, List.getElem?_cons_zero]
  refine zr_aload_n (pc' := 1099) zi_178_1098 rfl rfl ?_
  refine zr_aload_n (pc' := 1100) zi_178_1099 rfl rfl ?_
  refine zr_iload (pc' := 1102) zi_178_1100 rfl rfl ?_
  refine zr_iconst (v := (nI 1)) (pc' := 1103) zi_178_1102 rfl rfl ?_
  refine zr_iadd (v := (nI 1)) (pc' := 1104) zi_178_1103 rfl rfl ?_
  refine zr_iald (v := f 1) (pc' := 1105) zi_178_1104 h0 (by decide) rfl rfl ?_
  refine zr_aload_n (pc' := 1106) zi_178_1105 rfl rfl ?_
  refine zr_iload (pc' := 1108) zi_178_1106 rfl rfl ?_
  refine zr_iconst (v := (nI 2)) (pc' := 1109) zi_178_1108 rfl rfl ?_
  refine zr_iadd (v := (nI 2)) (pc' := 1110) zi_178_1109 rfl rfl ?_
  refine zr_iald (v := f 2) (pc' := 1111) zi_178_1110 h0 (by decide) rfl rfl ?_
  refine zr_v2 (pc' := 1114) zi_178_1111 h72 rfl hc rfl ?_
  refine zr_istore (pc' := 1116) zi_178_1114 (Nat.le_of_ble_eq_true rfl) rfl rfl ?_
  dsimp only [zst1, zst2, zkill, List.set, List.getElem?_cons_succ, List.getElem?_cons_zero]
  refine zr_aload_n (pc' := 1117) zi_178_1116 rfl rfl ?_
  refine zr_v0 (pc' := 1120) zi_178_1117 e2 rfl (m_thrown e2) rfl ?_
  refine zr_iload (pc' := 1122) zi_178_1120 rfl rfl ?_
  refine zr_icmpt zi_178_1122 (decide_eq_true rfl) ?_
  refine zr_iload (pc' := 1129) zi_178_1127 rfl rfl ?_
  refine zr_if (pc' := 1132) zi_178_1129 rfl (fun hk => ?_) (fun hk => ?_)
  · refine zr_goto zi_178_1144 ?_
    exact l_end g0 _ _ _ _
  · refine zr_aload_n (pc' := 1133) zi_178_1132 rfl rfl ?_
    refine zr_iconst (v := (nI 0)) (pc' := 1134) zi_178_1133 rfl rfl ?_
    refine zr_lald (v := ob 0) (pc' := 1135) zi_178_1134 g88 (by decide) rfl rfl ?_
    refine zr_iload (pc' := 1137) zi_178_1135 rfl rfl ?_
    refine zr_i2l (pc' := 1138) zi_178_1137 rfl ?_
    refine zr_lcmp (pc' := 1139) zi_178_1138 rfl ?_
    refine zr_ift zi_178_1139 (by rw [hres (zc_ne_f hk), lg_same]; rfl) ?_
    refine zr_goto zi_178_1144 ?_
    exact l_end g0 _ _ _ _
theorem lp_spike (h0 : h[0]? = some (.inl (0, 4, .inl f))) (hx0 : f 0 &&& nI 31 = nI 17) : zgt 178 23 (lLs none none none none) [] h (1161, lLs none none none none, ([.ref 1, .int (f 1), .int (f 2), .ref 88] : List Value).reverse, h) := by
  refine zg_iload (pc' := 25) zi_178_23 rfl rfl ?_
  refine zg_aload_n (pc' := 26) zi_178_25 rfl rfl ?_
  refine zg_alen (v := (nI 4)) (pc' := 27) zi_178_26 h0 rfl rfl ?_
  refine zg_iconst (v := (nI 4)) (pc' := 28) zi_178_27 rfl rfl ?_
  refine zg_isub (v := (nI 0)) (pc' := 29) zi_178_28 rfl rfl ?_
  refine zg_icmpf (pc' := 32) zi_178_29 rfl rfl ?_
  refine zg_aload_n (pc' := 33) zi_178_32 rfl rfl ?_
  refine zg_iload (pc' := 35) zi_178_33 rfl rfl ?_
  refine zg_iald (v := f 0) (pc' := 36) zi_178_35 h0 (by decide) rfl rfl ?_
  refine zg_bipush (v := (nI 31)) (pc' := 38) zi_178_36 rfl rfl ?_
  refine zg_iand (v := nI 17) (pc' := 39) zi_178_38 hx0 rfl ?_
  refine zg_table_in zi_178_39 17 (by decide) (by decide) rfl ?_
  refine zg_aload_n (pc' := 1148) zi_178_1147 rfl rfl ?_
  refine zg_aload_n (pc' := 1149) zi_178_1148 rfl rfl ?_
  refine zg_iload (pc' := 1151) zi_178_1149 rfl rfl ?_
  refine zg_iconst (v := (nI 1)) (pc' := 1152) zi_178_1151 rfl rfl ?_
  refine zg_iadd (v := (nI 1)) (pc' := 1153) zi_178_1152 rfl rfl ?_
  refine zg_iald (v := f 1) (pc' := 1154) zi_178_1153 h0 (by decide) rfl rfl ?_
  refine zg_aload_n (pc' := 1155) zi_178_1154 rfl rfl ?_
  refine zg_iload (pc' := 1157) zi_178_1155 rfl rfl ?_
  refine zg_iconst (v := (nI 2)) (pc' := 1158) zi_178_1157 rfl rfl ?_
  refine zg_iadd (v := (nI 2)) (pc' := 1159) zi_178_1158 rfl rfl ?_
  refine zg_iald (v := f 2) (pc' := 1160) zi_178_1159 h0 (by decide) rfl rfl ?_
  refine zg_aload_n (pc' := 1161) zi_178_1160 rfl rfl ?_
  exact zgt_here _ _ _ _ _
theorem tl_spike {k res : Int32} (h0 : h[0]? = some (.inl (0, 4, .inl f))) (h72 : h[72]? = some (.inr (7, fs))) (h88 : h[88]? = some (.inl (1, 1, .inr (.inl ob)))) (hlen : h.length = 89) (mo : zMo 72 h 149 [.ref 72, .int (f 1), .int (f 2)] k (.int res)) (hres : k = 0 → ob 0 = res.toInt64) : ∃ h3, (h3.length ≤ 97 ∧ zss h3 ≤ zss h + 600) ∧ zruns zTB 178 1164 (lLs none none none none) [.int k] h (some (.int 1), h3) := by
  obtain ⟨⟨q1, h2⟩, ⟨e1, ⟨fs2, e2⟩, e3, e4, e5⟩, hc⟩ := mo
  simp only at e1 e2 e3 e4 e5
  subst e1
  have g0 : h2[0]? = some (.inl (0, 4, .inl f)) := by rw [e3 0 (Or.inl (by decide)) (by omega)]; exact h0
  have g88 : h2[88]? = some (.inl (1, 1, .inr (.inl ob))) := by rw [e3 88 (Or.inr (by decide)) (by omega)]; exact h88
  refine ⟨h2, ⟨by omega, e5⟩, ?_⟩
  refine zr_istore (pc' := 1166) zi_178_1164 (Nat.le_of_ble_eq_true rfl) rfl rfl ?_
  dsimp only [zst1, zst2, zkill, List.set, List.getElem?_cons_succ, List.getElem?_cons_zero]
  refine zr_aload_n (pc' := 1167) zi_178_1166 rfl rfl ?_
  refine zr_aload_n (pc' := 1168) zi_178_1167 rfl rfl ?_
  refine zr_iload (pc' := 1170) zi_178_1168 rfl rfl ?_
  refine zr_iconst (v := (nI 1)) (pc' := 1171) zi_178_1170 rfl rfl ?_
  refine zr_iadd (v := (nI 1)) (pc' := 1172) zi_178_1171 rfl rfl ?_
  refine zr_iald (v := f 1) (pc' := 1173) zi_178_1172 h0 (by decide) rfl rfl ?_
  refine zr_aload_n (pc' := 1174) zi_178_1173 rfl rfl ?_
  refine zr_iload (pc' := 1176) zi_178_1174 rfl rfl ?_
  refine zr_iconst (v := (nI 2)) (pc' := 1177) zi_178_1176 rfl rfl ?_
  refine zr_iadd (v := (nI 2)) (pc' := 1178) zi_178_1177 rfl rfl ?_
  refine zr_iald (v := f 2) (pc' := 1179) zi_178_1178 h0 (by decide) rfl rfl ?_
  refine zr_v2 (pc' := 1182) zi_178_1179 h72 rfl hc rfl ?_
  refine zr_istore (pc' := 1184) zi_178_1182 (Nat.le_of_ble_eq_true rfl) rfl rfl ?_
  dsimp only [zst1, zst2, zkill, List.set, List.getElem?_cons_succ, List.getElem?_cons_zero]
  refine zr_aload_n (pc' := 1185) zi_178_1184 rfl rfl ?_
  refine zr_v0 (pc' := 1188) zi_178_1185 e2 rfl (m_thrown e2) rfl ?_
  refine zr_iload (pc' := 1190) zi_178_1188 rfl rfl ?_
  refine zr_icmpt zi_178_1190 (decide_eq_true rfl) ?_
  refine zr_iload (pc' := 1197) zi_178_1195 rfl rfl ?_
  refine zr_if (pc' := 1200) zi_178_1197 rfl (fun hk => ?_) (fun hk => ?_)
  · refine zr_goto zi_178_1212 ?_
    exact l_end g0 _ _ _ _
  · refine zr_aload_n (pc' := 1201) zi_178_1200 rfl rfl ?_
    refine zr_iconst (v := (nI 0)) (pc' := 1202) zi_178_1201 rfl rfl ?_
    refine zr_lald (v := ob 0) (pc' := 1203) zi_178_1202 g88 (by decide) rfl rfl ?_
    refine zr_iload (pc' := 1205) zi_178_1203 rfl rfl ?_
    refine zr_i2l (pc' := 1206) zi_178_1205 rfl ?_
    refine zr_lcmp (pc' := 1207) zi_178_1206 rfl ?_
    refine zr_ift zi_178_1207 (by rw [hres (zc_ne_f hk), lg_same]; rfl) ?_
    refine zr_goto zi_178_1212 ?_
    exact l_end g0 _ _ _ _
theorem lp_causes (h0 : h[0]? = some (.inl (0, 4, .inl f))) (hx0 : f 0 &&& nI 31 = nI 18) : zgt 178 23 (lLs none none none none) [] h (1223, lLs none none none none, ([.ref 1, .int (f 1), .ref 88] : List Value).reverse, h) := by
  refine zg_iload (pc' := 25) zi_178_23 rfl rfl ?_
  refine zg_aload_n (pc' := 26) zi_178_25 rfl rfl ?_
  refine zg_alen (v := (nI 4)) (pc' := 27) zi_178_26 h0 rfl rfl ?_
  refine zg_iconst (v := (nI 4)) (pc' := 28) zi_178_27 rfl rfl ?_
  refine zg_isub (v := (nI 0)) (pc' := 29) zi_178_28 rfl rfl ?_
  refine zg_icmpf (pc' := 32) zi_178_29 rfl rfl ?_
  refine zg_aload_n (pc' := 33) zi_178_32 rfl rfl ?_
  refine zg_iload (pc' := 35) zi_178_33 rfl rfl ?_
  refine zg_iald (v := f 0) (pc' := 36) zi_178_35 h0 (by decide) rfl rfl ?_
  refine zg_bipush (v := (nI 31)) (pc' := 38) zi_178_36 rfl rfl ?_
  refine zg_iand (v := nI 18) (pc' := 39) zi_178_38 hx0 rfl ?_
  refine zg_table_in zi_178_39 18 (by decide) (by decide) rfl ?_
  refine zg_aload_n (pc' := 1216) zi_178_1215 rfl rfl ?_
  refine zg_aload_n (pc' := 1217) zi_178_1216 rfl rfl ?_
  refine zg_iload (pc' := 1219) zi_178_1217 rfl rfl ?_
  refine zg_iconst (v := (nI 1)) (pc' := 1220) zi_178_1219 rfl rfl ?_
  refine zg_iadd (v := (nI 1)) (pc' := 1221) zi_178_1220 rfl rfl ?_
  refine zg_iald (v := f 1) (pc' := 1222) zi_178_1221 h0 (by decide) rfl rfl ?_
  refine zg_aload_n (pc' := 1223) zi_178_1222 rfl rfl ?_
  exact zgt_here _ _ _ _ _
theorem tl_causes {k res : Int32} (h0 : h[0]? = some (.inl (0, 4, .inl f))) (h72 : h[72]? = some (.inr (7, fs))) (h88 : h[88]? = some (.inl (1, 1, .inr (.inl ob)))) (hlen : h.length = 89) (mo : zMo 72 h 150 [.ref 72, .int (f 1)] k (.int res)) (hres : k = 0 → ob 0 = res.toInt64) : ∃ h3, (h3.length ≤ 97 ∧ zss h3 ≤ zss h + 600) ∧ zruns zTB 178 1226 (lLs none none none none) [.int k] h (some (.int 1), h3) := by
  obtain ⟨⟨q1, h2⟩, ⟨e1, ⟨fs2, e2⟩, e3, e4, e5⟩, hc⟩ := mo
  simp only at e1 e2 e3 e4 e5
  subst e1
  have g0 : h2[0]? = some (.inl (0, 4, .inl f)) := by rw [e3 0 (Or.inl (by decide)) (by omega)]; exact h0
  have g88 : h2[88]? = some (.inl (1, 1, .inr (.inl ob))) := by rw [e3 88 (Or.inr (by decide)) (by omega)]; exact h88
  refine ⟨h2, ⟨by omega, e5⟩, ?_⟩
  refine zr_istore (pc' := 1228) zi_178_1226 (Nat.le_of_ble_eq_true rfl) rfl rfl ?_
  dsimp only [zst1, zst2, zkill, List.set, List.getElem?_cons_succ, List.getElem?_cons_zero]
  refine zr_aload_n (pc' := 1229) zi_178_1228 rfl rfl ?_
  refine zr_aload_n (pc' := 1230) zi_178_1229 rfl rfl ?_
  refine zr_iload (pc' := 1232) zi_178_1230 rfl rfl ?_
  refine zr_iconst (v := (nI 1)) (pc' := 1233) zi_178_1232 rfl rfl ?_
  refine zr_iadd (v := (nI 1)) (pc' := 1234) zi_178_1233 rfl rfl ?_
  refine zr_iald (v := f 1) (pc' := 1235) zi_178_1234 h0 (by decide) rfl rfl ?_
  refine zr_v1 (pc' := 1238) zi_178_1235 h72 rfl hc rfl ?_
  refine zr_istore (pc' := 1240) zi_178_1238 (Nat.le_of_ble_eq_true rfl) rfl rfl ?_
  dsimp only [zst1, zst2, zkill, List.set, List.getElem?_cons_succ, List.getElem?_cons_zero]
  refine zr_aload_n (pc' := 1241) zi_178_1240 rfl rfl ?_
  refine zr_v0 (pc' := 1244) zi_178_1241 e2 rfl (m_thrown e2) rfl ?_
  refine zr_iload (pc' := 1246) zi_178_1244 rfl rfl ?_
  refine zr_icmpt zi_178_1246 (decide_eq_true rfl) ?_
  refine zr_iload (pc' := 1253) zi_178_1251 rfl rfl ?_
  refine zr_if (pc' := 1256) zi_178_1253 rfl (fun hk => ?_) (fun hk => ?_)
  · refine zr_goto zi_178_1268 ?_
    exact l_end g0 _ _ _ _
  · refine zr_aload_n (pc' := 1257) zi_178_1256 rfl rfl ?_
    refine zr_iconst (v := (nI 0)) (pc' := 1258) zi_178_1257 rfl rfl ?_
    refine zr_lald (v := ob 0) (pc' := 1259) zi_178_1258 g88 (by decide) rfl rfl ?_
    refine zr_iload (pc' := 1261) zi_178_1259 rfl rfl ?_
    refine zr_i2l (pc' := 1262) zi_178_1261 rfl ?_
    refine zr_lcmp (pc' := 1263) zi_178_1262 rfl ?_
    refine zr_ift zi_178_1263 (by rw [hres (zc_ne_f hk), lg_same]; rfl) ?_
    refine zr_goto zi_178_1268 ?_
    exact l_end g0 _ _ _ _
theorem lp_cause (h0 : h[0]? = some (.inl (0, 4, .inl f))) (hx0 : f 0 &&& nI 31 = nI 19) : zgt 178 23 (lLs none none none none) [] h (1291, lLs none none none none, ([.ref 1, .int (f 1), .int (f 2), .int (f 3), .ref 88] : List Value).reverse, h) := by
  refine zg_iload (pc' := 25) zi_178_23 rfl rfl ?_
  refine zg_aload_n (pc' := 26) zi_178_25 rfl rfl ?_
  refine zg_alen (v := (nI 4)) (pc' := 27) zi_178_26 h0 rfl rfl ?_
  refine zg_iconst (v := (nI 4)) (pc' := 28) zi_178_27 rfl rfl ?_
  refine zg_isub (v := (nI 0)) (pc' := 29) zi_178_28 rfl rfl ?_
  refine zg_icmpf (pc' := 32) zi_178_29 rfl rfl ?_
  refine zg_aload_n (pc' := 33) zi_178_32 rfl rfl ?_
  refine zg_iload (pc' := 35) zi_178_33 rfl rfl ?_
  refine zg_iald (v := f 0) (pc' := 36) zi_178_35 h0 (by decide) rfl rfl ?_
  refine zg_bipush (v := (nI 31)) (pc' := 38) zi_178_36 rfl rfl ?_
  refine zg_iand (v := nI 19) (pc' := 39) zi_178_38 hx0 rfl ?_
  refine zg_table_in zi_178_39 19 (by decide) (by decide) rfl ?_
  refine zg_aload_n (pc' := 1272) zi_178_1271 rfl rfl ?_
  refine zg_aload_n (pc' := 1273) zi_178_1272 rfl rfl ?_
  refine zg_iload (pc' := 1275) zi_178_1273 rfl rfl ?_
  refine zg_iconst (v := (nI 1)) (pc' := 1276) zi_178_1275 rfl rfl ?_
  refine zg_iadd (v := (nI 1)) (pc' := 1277) zi_178_1276 rfl rfl ?_
  refine zg_iald (v := f 1) (pc' := 1278) zi_178_1277 h0 (by decide) rfl rfl ?_
  refine zg_aload_n (pc' := 1279) zi_178_1278 rfl rfl ?_
  refine zg_iload (pc' := 1281) zi_178_1279 rfl rfl ?_
  refine zg_iconst (v := (nI 2)) (pc' := 1282) zi_178_1281 rfl rfl ?_
  refine zg_iadd (v := (nI 2)) (pc' := 1283) zi_178_1282 rfl rfl ?_
  refine zg_iald (v := f 2) (pc' := 1284) zi_178_1283 h0 (by decide) rfl rfl ?_
  refine zg_aload_n (pc' := 1285) zi_178_1284 rfl rfl ?_
  refine zg_iload (pc' := 1287) zi_178_1285 rfl rfl ?_
  refine zg_iconst (v := (nI 3)) (pc' := 1288) zi_178_1287 rfl rfl ?_
  refine zg_iadd (v := (nI 3)) (pc' := 1289) zi_178_1288 rfl rfl ?_
  refine zg_iald (v := f 3) (pc' := 1290) zi_178_1289 h0 (by decide) rfl rfl ?_
  refine zg_aload_n (pc' := 1291) zi_178_1290 rfl rfl ?_
  exact zgt_here _ _ _ _ _
theorem tl_cause {k res : Int32} (h0 : h[0]? = some (.inl (0, 4, .inl f))) (h72 : h[72]? = some (.inr (7, fs))) (h88 : h[88]? = some (.inl (1, 1, .inr (.inl ob)))) (hlen : h.length = 89) (mo : zMo 72 h 151 [.ref 72, .int (f 1), .int (f 2), .int (f 3)] k (.int res)) (hres : k = 0 → ob 0 = res.toInt64) : ∃ h3, (h3.length ≤ 97 ∧ zss h3 ≤ zss h + 600) ∧ zruns zTB 178 1294 (lLs none none none none) [.int k] h (some (.int 1), h3) := by
  obtain ⟨⟨q1, h2⟩, ⟨e1, ⟨fs2, e2⟩, e3, e4, e5⟩, hc⟩ := mo
  simp only at e1 e2 e3 e4 e5
  subst e1
  have g0 : h2[0]? = some (.inl (0, 4, .inl f)) := by rw [e3 0 (Or.inl (by decide)) (by omega)]; exact h0
  have g88 : h2[88]? = some (.inl (1, 1, .inr (.inl ob))) := by rw [e3 88 (Or.inr (by decide)) (by omega)]; exact h88
  refine ⟨h2, ⟨by omega, e5⟩, ?_⟩
  refine zr_istore (pc' := 1296) zi_178_1294 (Nat.le_of_ble_eq_true rfl) rfl rfl ?_
  dsimp only [zst1, zst2, zkill, List.set, List.getElem?_cons_succ, List.getElem?_cons_zero]
  refine zr_aload_n (pc' := 1297) zi_178_1296 rfl rfl ?_
  refine zr_aload_n (pc' := 1298) zi_178_1297 rfl rfl ?_
  refine zr_iload (pc' := 1300) zi_178_1298 rfl rfl ?_
  refine zr_iconst (v := (nI 1)) (pc' := 1301) zi_178_1300 rfl rfl ?_
  refine zr_iadd (v := (nI 1)) (pc' := 1302) zi_178_1301 rfl rfl ?_
  refine zr_iald (v := f 1) (pc' := 1303) zi_178_1302 h0 (by decide) rfl rfl ?_
  refine zr_aload_n (pc' := 1304) zi_178_1303 rfl rfl ?_
  refine zr_iload (pc' := 1306) zi_178_1304 rfl rfl ?_
  refine zr_iconst (v := (nI 2)) (pc' := 1307) zi_178_1306 rfl rfl ?_
  refine zr_iadd (v := (nI 2)) (pc' := 1308) zi_178_1307 rfl rfl ?_
  refine zr_iald (v := f 2) (pc' := 1309) zi_178_1308 h0 (by decide) rfl rfl ?_
  refine zr_aload_n (pc' := 1310) zi_178_1309 rfl rfl ?_
  refine zr_iload (pc' := 1312) zi_178_1310 rfl rfl ?_
  refine zr_iconst (v := (nI 3)) (pc' := 1313) zi_178_1312 rfl rfl ?_
  refine zr_iadd (v := (nI 3)) (pc' := 1314) zi_178_1313 rfl rfl ?_
  refine zr_iald (v := f 3) (pc' := 1315) zi_178_1314 h0 (by decide) rfl rfl ?_
  refine zr_v3 (pc' := 1318) zi_178_1315 h72 rfl hc rfl ?_
  refine zr_istore (pc' := 1320) zi_178_1318 (Nat.le_of_ble_eq_true rfl) rfl rfl ?_
  dsimp only [zst1, zst2, zkill, List.set, List.getElem?_cons_succ, List.getElem?_cons_zero]
  refine zr_aload_n (pc' := 1321) zi_178_1320 rfl rfl ?_
  refine zr_v0 (pc' := 1324) zi_178_1321 e2 rfl (m_thrown e2) rfl ?_
  refine zr_iload (pc' := 1326) zi_178_1324 rfl rfl ?_
  refine zr_icmpt zi_178_1326 (decide_eq_true rfl) ?_
  refine zr_iload (pc' := 1333) zi_178_1331 rfl rfl ?_
  refine zr_if (pc' := 1336) zi_178_1333 rfl (fun hk => ?_) (fun hk => ?_)
  · refine zr_goto zi_178_1348 ?_
    exact l_end g0 _ _ _ _
  · refine zr_aload_n (pc' := 1337) zi_178_1336 rfl rfl ?_
    refine zr_iconst (v := (nI 0)) (pc' := 1338) zi_178_1337 rfl rfl ?_
    refine zr_lald (v := ob 0) (pc' := 1339) zi_178_1338 g88 (by decide) rfl rfl ?_
    refine zr_iload (pc' := 1341) zi_178_1339 rfl rfl ?_
    refine zr_i2l (pc' := 1342) zi_178_1341 rfl ?_
    refine zr_lcmp (pc' := 1343) zi_178_1342 rfl ?_
    refine zr_ift zi_178_1343 (by rw [hres (zc_ne_f hk), lg_same]; rfl) ?_
    refine zr_goto zi_178_1348 ?_
    exact l_end g0 _ _ _ _
theorem lp_because (h0 : h[0]? = some (.inl (0, 4, .inl f))) (hx0 : f 0 &&& nI 31 = nI 20) : zgt 178 23 (lLs none none none none) [] h (1359, lLs none none none none, ([.ref 1, .int (f 1), .ref 88] : List Value).reverse, h) := by
  refine zg_iload (pc' := 25) zi_178_23 rfl rfl ?_
  refine zg_aload_n (pc' := 26) zi_178_25 rfl rfl ?_
  refine zg_alen (v := (nI 4)) (pc' := 27) zi_178_26 h0 rfl rfl ?_
  refine zg_iconst (v := (nI 4)) (pc' := 28) zi_178_27 rfl rfl ?_
  refine zg_isub (v := (nI 0)) (pc' := 29) zi_178_28 rfl rfl ?_
  refine zg_icmpf (pc' := 32) zi_178_29 rfl rfl ?_
  refine zg_aload_n (pc' := 33) zi_178_32 rfl rfl ?_
  refine zg_iload (pc' := 35) zi_178_33 rfl rfl ?_
  refine zg_iald (v := f 0) (pc' := 36) zi_178_35 h0 (by decide) rfl rfl ?_
  refine zg_bipush (v := (nI 31)) (pc' := 38) zi_178_36 rfl rfl ?_
  refine zg_iand (v := nI 20) (pc' := 39) zi_178_38 hx0 rfl ?_
  refine zg_table_in zi_178_39 20 (by decide) (by decide) rfl ?_
  refine zg_aload_n (pc' := 1352) zi_178_1351 rfl rfl ?_
  refine zg_aload_n (pc' := 1353) zi_178_1352 rfl rfl ?_
  refine zg_iload (pc' := 1355) zi_178_1353 rfl rfl ?_
  refine zg_iconst (v := (nI 1)) (pc' := 1356) zi_178_1355 rfl rfl ?_
  refine zg_iadd (v := (nI 1)) (pc' := 1357) zi_178_1356 rfl rfl ?_
  refine zg_iald (v := f 1) (pc' := 1358) zi_178_1357 h0 (by decide) rfl rfl ?_
  refine zg_aload_n (pc' := 1359) zi_178_1358 rfl rfl ?_
  exact zgt_here _ _ _ _ _
theorem tl_because {k res : Int32} (h0 : h[0]? = some (.inl (0, 4, .inl f))) (h72 : h[72]? = some (.inr (7, fs))) (h88 : h[88]? = some (.inl (1, 1, .inr (.inl ob)))) (hlen : h.length = 89) (mo : zMo 72 h 152 [.ref 72, .int (f 1)] k (.int res)) (hres : k = 0 → ob 0 = res.toInt64) : ∃ h3, (h3.length ≤ 97 ∧ zss h3 ≤ zss h + 600) ∧ zruns zTB 178 1362 (lLs none none none none) [.int k] h (some (.int 1), h3) := by
  obtain ⟨⟨q1, h2⟩, ⟨e1, ⟨fs2, e2⟩, e3, e4, e5⟩, hc⟩ := mo
  simp only at e1 e2 e3 e4 e5
  subst e1
  have g0 : h2[0]? = some (.inl (0, 4, .inl f)) := by rw [e3 0 (Or.inl (by decide)) (by omega)]; exact h0
  have g88 : h2[88]? = some (.inl (1, 1, .inr (.inl ob))) := by rw [e3 88 (Or.inr (by decide)) (by omega)]; exact h88
  refine ⟨h2, ⟨by omega, e5⟩, ?_⟩
  refine zr_istore (pc' := 1364) zi_178_1362 (Nat.le_of_ble_eq_true rfl) rfl rfl ?_
  dsimp only [zst1, zst2, zkill, List.set, List.getElem?_cons_succ, List.getElem?_cons_zero]
  refine zr_aload_n (pc' := 1365) zi_178_1364 rfl rfl ?_
  refine zr_aload_n (pc' := 1366) zi_178_1365 rfl rfl ?_
  refine zr_iload (pc' := 1368) zi_178_1366 rfl rfl ?_
  refine zr_iconst (v := (nI 1)) (pc' := 1369) zi_178_1368 rfl rfl ?_
  refine zr_iadd (v := (nI 1)) (pc' := 1370) zi_178_1369 rfl rfl ?_
  refine zr_iald (v := f 1) (pc' := 1371) zi_178_1370 h0 (by decide) rfl rfl ?_
  refine zr_v1 (pc' := 1374) zi_178_1371 h72 rfl hc rfl ?_
  refine zr_istore (pc' := 1376) zi_178_1374 (Nat.le_of_ble_eq_true rfl) rfl rfl ?_
  dsimp only [zst1, zst2, zkill, List.set, List.getElem?_cons_succ, List.getElem?_cons_zero]
  refine zr_aload_n (pc' := 1377) zi_178_1376 rfl rfl ?_
  refine zr_v0 (pc' := 1380) zi_178_1377 e2 rfl (m_thrown e2) rfl ?_
  refine zr_iload (pc' := 1382) zi_178_1380 rfl rfl ?_
  refine zr_icmpt zi_178_1382 (decide_eq_true rfl) ?_
  refine zr_iload (pc' := 1389) zi_178_1387 rfl rfl ?_
  refine zr_if (pc' := 1392) zi_178_1389 rfl (fun hk => ?_) (fun hk => ?_)
  · refine zr_goto zi_178_1404 ?_
    exact l_end g0 _ _ _ _
  · refine zr_aload_n (pc' := 1393) zi_178_1392 rfl rfl ?_
    refine zr_iconst (v := (nI 0)) (pc' := 1394) zi_178_1393 rfl rfl ?_
    refine zr_lald (v := ob 0) (pc' := 1395) zi_178_1394 g88 (by decide) rfl rfl ?_
    refine zr_iload (pc' := 1397) zi_178_1395 rfl rfl ?_
    refine zr_i2l (pc' := 1398) zi_178_1397 rfl ?_
    refine zr_lcmp (pc' := 1399) zi_178_1398 rfl ?_
    refine zr_ift zi_178_1399 (by rw [hres (zc_ne_f hk), lg_same]; rfl) ?_
    refine zr_goto zi_178_1404 ?_
    exact l_end g0 _ _ _ _
theorem lp_templatesWith (h0 : h[0]? = some (.inl (0, 4, .inl f))) (hx0 : f 0 &&& nI 31 = nI 21) : zgt 178 23 (lLs none none none none) [] h (1415, lLs none none none none, ([.ref 1, .int (f 1), .ref 88] : List Value).reverse, h) := by
  refine zg_iload (pc' := 25) zi_178_23 rfl rfl ?_
  refine zg_aload_n (pc' := 26) zi_178_25 rfl rfl ?_
  refine zg_alen (v := (nI 4)) (pc' := 27) zi_178_26 h0 rfl rfl ?_
  refine zg_iconst (v := (nI 4)) (pc' := 28) zi_178_27 rfl rfl ?_
  refine zg_isub (v := (nI 0)) (pc' := 29) zi_178_28 rfl rfl ?_
  refine zg_icmpf (pc' := 32) zi_178_29 rfl rfl ?_
  refine zg_aload_n (pc' := 33) zi_178_32 rfl rfl ?_
  refine zg_iload (pc' := 35) zi_178_33 rfl rfl ?_
  refine zg_iald (v := f 0) (pc' := 36) zi_178_35 h0 (by decide) rfl rfl ?_
  refine zg_bipush (v := (nI 31)) (pc' := 38) zi_178_36 rfl rfl ?_
  refine zg_iand (v := nI 21) (pc' := 39) zi_178_38 hx0 rfl ?_
  refine zg_table_in zi_178_39 21 (by decide) (by decide) rfl ?_
  refine zg_aload_n (pc' := 1408) zi_178_1407 rfl rfl ?_
  refine zg_aload_n (pc' := 1409) zi_178_1408 rfl rfl ?_
  refine zg_iload (pc' := 1411) zi_178_1409 rfl rfl ?_
  refine zg_iconst (v := (nI 1)) (pc' := 1412) zi_178_1411 rfl rfl ?_
  refine zg_iadd (v := (nI 1)) (pc' := 1413) zi_178_1412 rfl rfl ?_
  refine zg_iald (v := f 1) (pc' := 1414) zi_178_1413 h0 (by decide) rfl rfl ?_
  refine zg_aload_n (pc' := 1415) zi_178_1414 rfl rfl ?_
  exact zgt_here _ _ _ _ _
theorem tl_templatesWith {k res : Int32} (h0 : h[0]? = some (.inl (0, 4, .inl f))) (h72 : h[72]? = some (.inr (7, fs))) (h88 : h[88]? = some (.inl (1, 1, .inr (.inl ob)))) (hlen : h.length = 89) (mo : zMo 72 h 153 [.ref 72, .int (f 1)] k (.int res)) (hres : k = 0 → ob 0 = res.toInt64) : ∃ h3, (h3.length ≤ 97 ∧ zss h3 ≤ zss h + 600) ∧ zruns zTB 178 1418 (lLs none none none none) [.int k] h (some (.int 1), h3) := by
  obtain ⟨⟨q1, h2⟩, ⟨e1, ⟨fs2, e2⟩, e3, e4, e5⟩, hc⟩ := mo
  simp only at e1 e2 e3 e4 e5
  subst e1
  have g0 : h2[0]? = some (.inl (0, 4, .inl f)) := by rw [e3 0 (Or.inl (by decide)) (by omega)]; exact h0
  have g88 : h2[88]? = some (.inl (1, 1, .inr (.inl ob))) := by rw [e3 88 (Or.inr (by decide)) (by omega)]; exact h88
  refine ⟨h2, ⟨by omega, e5⟩, ?_⟩
  refine zr_istore (pc' := 1420) zi_178_1418 (Nat.le_of_ble_eq_true rfl) rfl rfl ?_
  dsimp only [zst1, zst2, zkill, List.set, List.getElem?_cons_succ, List.getElem?_cons_zero]
  refine zr_aload_n (pc' := 1421) zi_178_1420 rfl rfl ?_
  refine zr_aload_n (pc' := 1422) zi_178_1421 rfl rfl ?_
  refine zr_iload (pc' := 1424) zi_178_1422 rfl rfl ?_
  refine zr_iconst (v := (nI 1)) (pc' := 1425) zi_178_1424 rfl rfl ?_
  refine zr_iadd (v := (nI 1)) (pc' := 1426) zi_178_1425 rfl rfl ?_
  refine zr_iald (v := f 1) (pc' := 1427) zi_178_1426 h0 (by decide) rfl rfl ?_
  refine zr_v1 (pc' := 1430) zi_178_1427 h72 rfl hc rfl ?_
  refine zr_istore (pc' := 1432) zi_178_1430 (Nat.le_of_ble_eq_true rfl) rfl rfl ?_
  dsimp only [zst1, zst2, zkill, List.set, List.getElem?_cons_succ, List.getElem?_cons_zero]
  refine zr_aload_n (pc' := 1433) zi_178_1432 rfl rfl ?_
  refine zr_v0 (pc' := 1436) zi_178_1433 e2 rfl (m_thrown e2) rfl ?_
  refine zr_iload (pc' := 1438) zi_178_1436 rfl rfl ?_
  refine zr_icmpt zi_178_1438 (decide_eq_true rfl) ?_
  refine zr_iload (pc' := 1445) zi_178_1443 rfl rfl ?_
  refine zr_if (pc' := 1448) zi_178_1445 rfl (fun hk => ?_) (fun hk => ?_)
  · refine zr_goto zi_178_1460 ?_
    exact l_end g0 _ _ _ _
  · refine zr_aload_n (pc' := 1449) zi_178_1448 rfl rfl ?_
    refine zr_iconst (v := (nI 0)) (pc' := 1450) zi_178_1449 rfl rfl ?_
    refine zr_lald (v := ob 0) (pc' := 1451) zi_178_1450 g88 (by decide) rfl rfl ?_
    refine zr_iload (pc' := 1453) zi_178_1451 rfl rfl ?_
    refine zr_i2l (pc' := 1454) zi_178_1453 rfl ?_
    refine zr_lcmp (pc' := 1455) zi_178_1454 rfl ?_
    refine zr_ift zi_178_1455 (by rw [hres (zc_ne_f hk), lg_same]; rfl) ?_
    refine zr_goto zi_178_1460 ?_
    exact l_end g0 _ _ _ _
theorem lp_sessionsWith (h0 : h[0]? = some (.inl (0, 4, .inl f))) (hx0 : f 0 &&& nI 31 = nI 22) : zgt 178 23 (lLs none none none none) [] h (1471, lLs none none none none, ([.ref 1, .int (f 1), .ref 88] : List Value).reverse, h) := by
  refine zg_iload (pc' := 25) zi_178_23 rfl rfl ?_
  refine zg_aload_n (pc' := 26) zi_178_25 rfl rfl ?_
  refine zg_alen (v := (nI 4)) (pc' := 27) zi_178_26 h0 rfl rfl ?_
  refine zg_iconst (v := (nI 4)) (pc' := 28) zi_178_27 rfl rfl ?_
  refine zg_isub (v := (nI 0)) (pc' := 29) zi_178_28 rfl rfl ?_
  refine zg_icmpf (pc' := 32) zi_178_29 rfl rfl ?_
  refine zg_aload_n (pc' := 33) zi_178_32 rfl rfl ?_
  refine zg_iload (pc' := 35) zi_178_33 rfl rfl ?_
  refine zg_iald (v := f 0) (pc' := 36) zi_178_35 h0 (by decide) rfl rfl ?_
  refine zg_bipush (v := (nI 31)) (pc' := 38) zi_178_36 rfl rfl ?_
  refine zg_iand (v := nI 22) (pc' := 39) zi_178_38 hx0 rfl ?_
  refine zg_table_in zi_178_39 22 (by decide) (by decide) rfl ?_
  refine zg_aload_n (pc' := 1464) zi_178_1463 rfl rfl ?_
  refine zg_aload_n (pc' := 1465) zi_178_1464 rfl rfl ?_
  refine zg_iload (pc' := 1467) zi_178_1465 rfl rfl ?_
  refine zg_iconst (v := (nI 1)) (pc' := 1468) zi_178_1467 rfl rfl ?_
  refine zg_iadd (v := (nI 1)) (pc' := 1469) zi_178_1468 rfl rfl ?_
  refine zg_iald (v := f 1) (pc' := 1470) zi_178_1469 h0 (by decide) rfl rfl ?_
  refine zg_aload_n (pc' := 1471) zi_178_1470 rfl rfl ?_
  exact zgt_here _ _ _ _ _
theorem tl_sessionsWith {k res : Int32} (h0 : h[0]? = some (.inl (0, 4, .inl f))) (h72 : h[72]? = some (.inr (7, fs))) (h88 : h[88]? = some (.inl (1, 1, .inr (.inl ob)))) (hlen : h.length = 89) (mo : zMo 72 h 154 [.ref 72, .int (f 1)] k (.int res)) (hres : k = 0 → ob 0 = res.toInt64) : ∃ h3, (h3.length ≤ 97 ∧ zss h3 ≤ zss h + 600) ∧ zruns zTB 178 1474 (lLs none none none none) [.int k] h (some (.int 1), h3) := by
  obtain ⟨⟨q1, h2⟩, ⟨e1, ⟨fs2, e2⟩, e3, e4, e5⟩, hc⟩ := mo
  simp only at e1 e2 e3 e4 e5
  subst e1
  have g0 : h2[0]? = some (.inl (0, 4, .inl f)) := by rw [e3 0 (Or.inl (by decide)) (by omega)]; exact h0
  have g88 : h2[88]? = some (.inl (1, 1, .inr (.inl ob))) := by rw [e3 88 (Or.inr (by decide)) (by omega)]; exact h88
  refine ⟨h2, ⟨by omega, e5⟩, ?_⟩
  refine zr_istore (pc' := 1476) zi_178_1474 (Nat.le_of_ble_eq_true rfl) rfl rfl ?_
  dsimp only [zst1, zst2, zkill, List.set, List.getElem?_cons_succ, List.getElem?_cons_zero]
  refine zr_aload_n (pc' := 1477) zi_178_1476 rfl rfl ?_
  refine zr_aload_n (pc' := 1478) zi_178_1477 rfl rfl ?_
  refine zr_iload (pc' := 1480) zi_178_1478 rfl rfl ?_
  refine zr_iconst (v := (nI 1)) (pc' := 1481) zi_178_1480 rfl rfl ?_
  refine zr_iadd (v := (nI 1)) (pc' := 1482) zi_178_1481 rfl rfl ?_
  refine zr_iald (v := f 1) (pc' := 1483) zi_178_1482 h0 (by decide) rfl rfl ?_
  refine zr_v1 (pc' := 1486) zi_178_1483 h72 rfl hc rfl ?_
  refine zr_istore (pc' := 1488) zi_178_1486 (Nat.le_of_ble_eq_true rfl) rfl rfl ?_
  dsimp only [zst1, zst2, zkill, List.set, List.getElem?_cons_succ, List.getElem?_cons_zero]
  refine zr_aload_n (pc' := 1489) zi_178_1488 rfl rfl ?_
  refine zr_v0 (pc' := 1492) zi_178_1489 e2 rfl (m_thrown e2) rfl ?_
  refine zr_iload (pc' := 1494) zi_178_1492 rfl rfl ?_
  refine zr_icmpt zi_178_1494 (decide_eq_true rfl) ?_
  refine zr_iload (pc' := 1501) zi_178_1499 rfl rfl ?_
  refine zr_if (pc' := 1504) zi_178_1501 rfl (fun hk => ?_) (fun hk => ?_)
  · refine zr_goto zi_178_1516 ?_
    exact l_end g0 _ _ _ _
  · refine zr_aload_n (pc' := 1505) zi_178_1504 rfl rfl ?_
    refine zr_iconst (v := (nI 0)) (pc' := 1506) zi_178_1505 rfl rfl ?_
    refine zr_lald (v := ob 0) (pc' := 1507) zi_178_1506 g88 (by decide) rfl rfl ?_
    refine zr_iload (pc' := 1509) zi_178_1507 rfl rfl ?_
    refine zr_i2l (pc' := 1510) zi_178_1509 rfl ?_
    refine zr_lcmp (pc' := 1511) zi_178_1510 rfl ?_
    refine zr_ift zi_178_1511 (by rw [hres (zc_ne_f hk), lg_same]; rfl) ?_
    refine zr_goto zi_178_1516 ?_
    exact l_end g0 _ _ _ _
theorem lp_wouldBe (h0 : h[0]? = some (.inl (0, 4, .inl f))) (hx0 : f 0 &&& nI 31 = nI 23) : zgt 178 23 (lLs none none none none) [] h (1527, lLs none none none none, ([.ref 1, .int (f 1), .ref 88] : List Value).reverse, h) := by
  refine zg_iload (pc' := 25) zi_178_23 rfl rfl ?_
  refine zg_aload_n (pc' := 26) zi_178_25 rfl rfl ?_
  refine zg_alen (v := (nI 4)) (pc' := 27) zi_178_26 h0 rfl rfl ?_
  refine zg_iconst (v := (nI 4)) (pc' := 28) zi_178_27 rfl rfl ?_
  refine zg_isub (v := (nI 0)) (pc' := 29) zi_178_28 rfl rfl ?_
  refine zg_icmpf (pc' := 32) zi_178_29 rfl rfl ?_
  refine zg_aload_n (pc' := 33) zi_178_32 rfl rfl ?_
  refine zg_iload (pc' := 35) zi_178_33 rfl rfl ?_
  refine zg_iald (v := f 0) (pc' := 36) zi_178_35 h0 (by decide) rfl rfl ?_
  refine zg_bipush (v := (nI 31)) (pc' := 38) zi_178_36 rfl rfl ?_
  refine zg_iand (v := nI 23) (pc' := 39) zi_178_38 hx0 rfl ?_
  refine zg_table_in zi_178_39 23 (by decide) (by decide) rfl ?_
  refine zg_aload_n (pc' := 1520) zi_178_1519 rfl rfl ?_
  refine zg_aload_n (pc' := 1521) zi_178_1520 rfl rfl ?_
  refine zg_iload (pc' := 1523) zi_178_1521 rfl rfl ?_
  refine zg_iconst (v := (nI 1)) (pc' := 1524) zi_178_1523 rfl rfl ?_
  refine zg_iadd (v := (nI 1)) (pc' := 1525) zi_178_1524 rfl rfl ?_
  refine zg_iald (v := f 1) (pc' := 1526) zi_178_1525 h0 (by decide) rfl rfl ?_
  refine zg_aload_n (pc' := 1527) zi_178_1526 rfl rfl ?_
  exact zgt_here _ _ _ _ _
theorem tl_wouldBe {k res : Int32} (h0 : h[0]? = some (.inl (0, 4, .inl f))) (h72 : h[72]? = some (.inr (7, fs))) (h88 : h[88]? = some (.inl (1, 1, .inr (.inl ob)))) (hlen : h.length = 89) (mo : zMo 72 h 155 [.ref 72, .int (f 1)] k (.int res)) (hres : k = 0 → ob 0 = res.toInt64) : ∃ h3, (h3.length ≤ 97 ∧ zss h3 ≤ zss h + 600) ∧ zruns zTB 178 1530 (lLs none none none none) [.int k] h (some (.int 1), h3) := by
  obtain ⟨⟨q1, h2⟩, ⟨e1, ⟨fs2, e2⟩, e3, e4, e5⟩, hc⟩ := mo
  simp only at e1 e2 e3 e4 e5
  subst e1
  have g0 : h2[0]? = some (.inl (0, 4, .inl f)) := by rw [e3 0 (Or.inl (by decide)) (by omega)]; exact h0
  have g88 : h2[88]? = some (.inl (1, 1, .inr (.inl ob))) := by rw [e3 88 (Or.inr (by decide)) (by omega)]; exact h88
  refine ⟨h2, ⟨by omega, e5⟩, ?_⟩
  refine zr_istore (pc' := 1532) zi_178_1530 (Nat.le_of_ble_eq_true rfl) rfl rfl ?_
  dsimp only [zst1, zst2, zkill, List.set, List.getElem?_cons_succ, List.getElem?_cons_zero]
  refine zr_aload_n (pc' := 1533) zi_178_1532 rfl rfl ?_
  refine zr_aload_n (pc' := 1534) zi_178_1533 rfl rfl ?_
  refine zr_iload (pc' := 1536) zi_178_1534 rfl rfl ?_
  refine zr_iconst (v := (nI 1)) (pc' := 1537) zi_178_1536 rfl rfl ?_
  refine zr_iadd (v := (nI 1)) (pc' := 1538) zi_178_1537 rfl rfl ?_
  refine zr_iald (v := f 1) (pc' := 1539) zi_178_1538 h0 (by decide) rfl rfl ?_
  refine zr_v1 (pc' := 1542) zi_178_1539 h72 rfl hc rfl ?_
  refine zr_istore (pc' := 1544) zi_178_1542 (Nat.le_of_ble_eq_true rfl) rfl rfl ?_
  dsimp only [zst1, zst2, zkill, List.set, List.getElem?_cons_succ, List.getElem?_cons_zero]
  refine zr_aload_n (pc' := 1545) zi_178_1544 rfl rfl ?_
  refine zr_v0 (pc' := 1548) zi_178_1545 e2 rfl (m_thrown e2) rfl ?_
  refine zr_iload (pc' := 1550) zi_178_1548 rfl rfl ?_
  refine zr_icmpt zi_178_1550 (decide_eq_true rfl) ?_
  refine zr_iload (pc' := 1557) zi_178_1555 rfl rfl ?_
  refine zr_if (pc' := 1560) zi_178_1557 rfl (fun hk => ?_) (fun hk => ?_)
  · refine zr_goto zi_178_1572 ?_
    exact l_end g0 _ _ _ _
  · refine zr_aload_n (pc' := 1561) zi_178_1560 rfl rfl ?_
    refine zr_iconst (v := (nI 0)) (pc' := 1562) zi_178_1561 rfl rfl ?_
    refine zr_lald (v := ob 0) (pc' := 1563) zi_178_1562 g88 (by decide) rfl rfl ?_
    refine zr_iload (pc' := 1565) zi_178_1563 rfl rfl ?_
    refine zr_i2l (pc' := 1566) zi_178_1565 rfl ?_
    refine zr_lcmp (pc' := 1567) zi_178_1566 rfl ?_
    refine zr_ift zi_178_1567 (by rw [hres (zc_ne_f hk), lg_same]; rfl) ?_
    refine zr_goto zi_178_1572 ?_
    exact l_end g0 _ _ _ _
theorem ln_forget {h1 : zH} {fs1 : List Value} (h0 : h[0]? = some (.inl (0, 4, .inl f))) (hx0 : f 0 &&& nI 31 = nI 4) (hb : h[1]? = some (.inr (6, fs))) (hc1 : zcalls zTB 120 [.ref 1] h (some (.int 0), h1)) (h72 : h1[72]? = some (.inr (7, fs1))) (g0 : h1[0]? = some (.inl (0, 4, .inl f))) (hlen : h1.length = 89) (mo : zMo 72 h1 136 [.ref 72] 0 (.int 0)) : ∃ h3, (h3.length ≤ 97 ∧ zss h3 ≤ zss h1 + 600) ∧ zruns zTB 178 23 (lLs none none none none) [] h (some (.int 1), h3) := by
  obtain ⟨⟨q1, h2⟩, ⟨e1, ⟨fs2, e2⟩, e3, e4, e5⟩, hc⟩ := mo
  simp only at e1 e2 e3 e4 e5
  subst e1
  have k0 : h2[0]? = some (.inl (0, 4, .inl f)) := by rw [e3 0 (Or.inl (by decide)) (by omega)]; exact g0
  refine ⟨h2, ⟨by omega, e5⟩, ?_⟩
  refine zr_iload (pc' := 25) zi_178_23 rfl rfl ?_
  refine zr_aload_n (pc' := 26) zi_178_25 rfl rfl ?_
  refine zr_alen (v := (nI 4)) (pc' := 27) zi_178_26 h0 rfl rfl ?_
  refine zr_iconst (v := (nI 4)) (pc' := 28) zi_178_27 rfl rfl ?_
  refine zr_isub (v := (nI 0)) (pc' := 29) zi_178_28 rfl rfl ?_
  refine zr_icmpf (pc' := 32) zi_178_29 rfl rfl ?_
  refine zr_aload_n (pc' := 33) zi_178_32 rfl rfl ?_
  refine zr_iload (pc' := 35) zi_178_33 rfl rfl ?_
  refine zr_iald (v := f 0) (pc' := 36) zi_178_35 h0 (by decide) rfl rfl ?_
  refine zr_bipush (v := (nI 31)) (pc' := 38) zi_178_36 rfl rfl ?_
  refine zr_iand (v := nI 4) (pc' := 39) zi_178_38 hx0 rfl ?_
  refine zr_table_in zi_178_39 4 (by decide) (by decide) rfl ?_
  refine zr_aload_n (pc' := 413) zi_178_412 rfl rfl ?_
  refine zr_v0 (pc' := 416) zi_178_413 hb rfl hc1 rfl ?_
  refine zr_aload_n (pc' := 417) zi_178_416 rfl rfl ?_
  refine zr_v0 (pc' := 420) zi_178_417 h72 rfl hc rfl ?_
  refine zr_icmpt zi_178_420 rfl ?_
  exact l_end k0 _ _ _ _
theorem ln_usual {h1 : zH} {fs1 : List Value} (h0 : h[0]? = some (.inl (0, 4, .inl f))) (hx0 : f 0 &&& nI 31 = nI 14) (hb : h[1]? = some (.inr (6, fs))) (hc1 : zcalls zTB 100 [.ref 1] h (some (.int (-1)), h1)) (h72 : h1[72]? = some (.inr (7, fs1))) (g0 : h1[0]? = some (.inl (0, 4, .inl f))) (hlen : h1.length = 89) (mo : zMo 72 h1 146 [.ref 72] 0 (.int (-1))) : ∃ h3, (h3.length ≤ 97 ∧ zss h3 ≤ zss h1 + 600) ∧ zruns zTB 178 23 (lLs none none none none) [] h (some (.int 1), h3) := by
  obtain ⟨⟨q1, h2⟩, ⟨e1, ⟨fs2, e2⟩, e3, e4, e5⟩, hc⟩ := mo
  simp only at e1 e2 e3 e4 e5
  subst e1
  have k0 : h2[0]? = some (.inl (0, 4, .inl f)) := by rw [e3 0 (Or.inl (by decide)) (by omega)]; exact g0
  refine ⟨h2, ⟨by omega, e5⟩, ?_⟩
  refine zr_iload (pc' := 25) zi_178_23 rfl rfl ?_
  refine zr_aload_n (pc' := 26) zi_178_25 rfl rfl ?_
  refine zr_alen (v := (nI 4)) (pc' := 27) zi_178_26 h0 rfl rfl ?_
  refine zr_iconst (v := (nI 4)) (pc' := 28) zi_178_27 rfl rfl ?_
  refine zr_isub (v := (nI 0)) (pc' := 29) zi_178_28 rfl rfl ?_
  refine zr_icmpf (pc' := 32) zi_178_29 rfl rfl ?_
  refine zr_aload_n (pc' := 33) zi_178_32 rfl rfl ?_
  refine zr_iload (pc' := 35) zi_178_33 rfl rfl ?_
  refine zr_iald (v := f 0) (pc' := 36) zi_178_35 h0 (by decide) rfl rfl ?_
  refine zr_bipush (v := (nI 31)) (pc' := 38) zi_178_36 rfl rfl ?_
  refine zr_iand (v := nI 14) (pc' := 39) zi_178_38 hx0 rfl ?_
  refine zr_table_in zi_178_39 14 (by decide) (by decide) rfl ?_
  refine zr_aload_n (pc' := 1026) zi_178_1025 rfl rfl ?_
  refine zr_v0 (pc' := 1029) zi_178_1026 hb rfl hc1 rfl ?_
  refine zr_aload_n (pc' := 1030) zi_178_1029 rfl rfl ?_
  refine zr_v0 (pc' := 1033) zi_178_1030 h72 rfl hc rfl ?_
  refine zr_icmpt zi_178_1033 rfl ?_
  exact l_end k0 _ _ _ _
theorem ln_meanSession {h1 : zH} {fs1 : List Value} (h0 : h[0]? = some (.inl (0, 4, .inl f))) (hx0 : f 0 &&& nI 31 = nI 15) (hb : h[1]? = some (.inr (6, fs))) (hc1 : zcalls zTB 124 [.ref 1] h (some (.double 0), h1)) (h72 : h1[72]? = some (.inr (7, fs1))) (g0 : h1[0]? = some (.inl (0, 4, .inl f))) (hlen : h1.length = 89) (mo : zMo 72 h1 147 [.ref 72] 0 (.double 0)) : ∃ h3, (h3.length ≤ 97 ∧ zss h3 ≤ zss h1 + 600) ∧ zruns zTB 178 23 (lLs none none none none) [] h (some (.int 1), h3) := by
  obtain ⟨⟨q1, h2⟩, ⟨e1, ⟨fs2, e2⟩, e3, e4, e5⟩, hc⟩ := mo
  simp only at e1 e2 e3 e4 e5
  subst e1
  have k0 : h2[0]? = some (.inl (0, 4, .inl f)) := by rw [e3 0 (Or.inl (by decide)) (by omega)]; exact g0
  refine ⟨h2, ⟨by omega, e5⟩, ?_⟩
  refine zr_iload (pc' := 25) zi_178_23 rfl rfl ?_
  refine zr_aload_n (pc' := 26) zi_178_25 rfl rfl ?_
  refine zr_alen (v := (nI 4)) (pc' := 27) zi_178_26 h0 rfl rfl ?_
  refine zr_iconst (v := (nI 4)) (pc' := 28) zi_178_27 rfl rfl ?_
  refine zr_isub (v := (nI 0)) (pc' := 29) zi_178_28 rfl rfl ?_
  refine zr_icmpf (pc' := 32) zi_178_29 rfl rfl ?_
  refine zr_aload_n (pc' := 33) zi_178_32 rfl rfl ?_
  refine zr_iload (pc' := 35) zi_178_33 rfl rfl ?_
  refine zr_iald (v := f 0) (pc' := 36) zi_178_35 h0 (by decide) rfl rfl ?_
  refine zr_bipush (v := (nI 31)) (pc' := 38) zi_178_36 rfl rfl ?_
  refine zr_iand (v := nI 15) (pc' := 39) zi_178_38 hx0 rfl ?_
  refine zr_table_in zi_178_39 15 (by decide) (by decide) rfl ?_
  refine zr_aload_n (pc' := 1039) zi_178_1038 rfl rfl ?_
  refine zr_v0 (pc' := 1042) zi_178_1039 hb rfl hc1 rfl ?_
  refine zr_dstore (pc' := 1044) zi_178_1042 (Nat.le_of_ble_eq_true rfl) rfl rfl ?_
  dsimp only [zst1, zst2, zkill, List.set, List.getElem?_cons_succ, List.getElem?_cons_zero]
  refine zr_aload_n (pc' := 1045) zi_178_1044 rfl rfl ?_
  refine zr_v0 (pc' := 1048) zi_178_1045 h72 rfl hc rfl ?_
  refine zr_dstore (pc' := 1050) zi_178_1048 (Nat.le_of_ble_eq_true rfl) rfl rfl ?_
  dsimp only [zst1, zst2, zkill, List.set, List.getElem?_cons_succ, List.getElem?_cons_zero]
  refine zr_dload (pc' := 1052) zi_178_1050 rfl rfl ?_
  refine zr_dload (pc' := 1054) zi_178_1052 rfl rfl ?_
  refine zr_dcmp (pc' := 1055) zi_178_1054 rfl ?_
  refine zr_ift zi_178_1055 (by decide +kernel) ?_
  refine zr_goto zi_178_1076 ?_
  exact l_end k0 _ _ _ _
theorem ln_digest {h1 : zH} {fs1 : List Value} (h0 : h[0]? = some (.inl (0, 4, .inl f))) (hx0 : f 0 &&& nI 31 = nI 24) (hb : h[1]? = some (.inr (6, fs))) (hc1 : zcalls zTB 129 [.ref 1] h (some (.long 1598070190637434), h1)) (h72 : h1[72]? = some (.inr (7, fs1))) (g0 : h1[0]? = some (.inl (0, 4, .inl f))) (hlen : h1.length = 89) (mo : zMo 72 h1 156 [.ref 72] 0 (.long 1598070190637434)) : ∃ h3, (h3.length ≤ 97 ∧ zss h3 ≤ zss h1 + 600) ∧ zruns zTB 178 23 (lLs none none none none) [] h (some (.int 1), h3) := by
  obtain ⟨⟨q1, h2⟩, ⟨e1, ⟨fs2, e2⟩, e3, e4, e5⟩, hc⟩ := mo
  simp only at e1 e2 e3 e4 e5
  subst e1
  have k0 : h2[0]? = some (.inl (0, 4, .inl f)) := by rw [e3 0 (Or.inl (by decide)) (by omega)]; exact g0
  refine ⟨h2, ⟨by omega, e5⟩, ?_⟩
  refine zr_iload (pc' := 25) zi_178_23 rfl rfl ?_
  refine zr_aload_n (pc' := 26) zi_178_25 rfl rfl ?_
  refine zr_alen (v := (nI 4)) (pc' := 27) zi_178_26 h0 rfl rfl ?_
  refine zr_iconst (v := (nI 4)) (pc' := 28) zi_178_27 rfl rfl ?_
  refine zr_isub (v := (nI 0)) (pc' := 29) zi_178_28 rfl rfl ?_
  refine zr_icmpf (pc' := 32) zi_178_29 rfl rfl ?_
  refine zr_aload_n (pc' := 33) zi_178_32 rfl rfl ?_
  refine zr_iload (pc' := 35) zi_178_33 rfl rfl ?_
  refine zr_iald (v := f 0) (pc' := 36) zi_178_35 h0 (by decide) rfl rfl ?_
  refine zr_bipush (v := (nI 31)) (pc' := 38) zi_178_36 rfl rfl ?_
  refine zr_iand (v := nI 24) (pc' := 39) zi_178_38 hx0 rfl ?_
  refine zr_table_in zi_178_39 24 (by decide) (by decide) rfl ?_
  refine zr_aload_n (pc' := 1576) zi_178_1575 rfl rfl ?_
  refine zr_v0 (pc' := 1579) zi_178_1576 hb rfl hc1 rfl ?_
  refine zr_aload_n (pc' := 1580) zi_178_1579 rfl rfl ?_
  refine zr_v0 (pc' := 1583) zi_178_1580 h72 rfl hc rfl ?_
  refine zr_lcmp (pc' := 1584) zi_178_1583 rfl ?_
  refine zr_ift zi_178_1584 (by rw [lg_same]; rfl) ?_
  exact l_end k0 _ _ _ _
theorem ln_none (h0 : h[0]? = some (.inl (0, 4, .inl f))) {k : Nat} (hk : 25 ≤ k) (hk2 : k < 32) (hx0 : f 0 &&& nI 31 = nI k) : zruns zTB 178 23 (lLs none none none none) [] h (some (.int 1), h) := by
  refine zr_iload (pc' := 25) zi_178_23 rfl rfl ?_
  refine zr_aload_n (pc' := 26) zi_178_25 rfl rfl ?_
  refine zr_alen (v := (nI 4)) (pc' := 27) zi_178_26 h0 rfl rfl ?_
  refine zr_iconst (v := (nI 4)) (pc' := 28) zi_178_27 rfl rfl ?_
  refine zr_isub (v := (nI 0)) (pc' := 29) zi_178_28 rfl rfl ?_
  refine zr_icmpf (pc' := 32) zi_178_29 rfl rfl ?_
  refine zr_aload_n (pc' := 33) zi_178_32 rfl rfl ?_
  refine zr_iload (pc' := 35) zi_178_33 rfl rfl ?_
  refine zr_iald (v := f 0) (pc' := 36) zi_178_35 h0 (by decide) rfl rfl ?_
  refine zr_bipush (v := (nI 31)) (pc' := 38) zi_178_36 rfl rfl ?_
  refine zr_iand (v := nI k) (pc' := 39) zi_178_38 hx0 rfl ?_
  refine zr_table_out zi_178_39 (Or.inr ?_) ?_
  · rw [show (nI k).toInt = (k : Int) from Int32.toInt_ofNat_of_lt (by omega)]; omega
  · exact l_end h0 _ _ _ _
theorem ln_short {n : Nat} (hn : n < 4) (h0 : h[0]? = some (.inl (0, n, .inl f))) : zruns zTB 178 23 (lLs none none none none) [] h (some (.int 1), h) := by
  refine zr_iload (pc' := 25) zi_178_23 rfl rfl ?_
  refine zr_aload_n (pc' := 26) zi_178_25 rfl rfl ?_
  refine zr_alen (v := (nI n)) (pc' := 27) zi_178_26 h0 rfl rfl ?_
  refine zr_iconst (v := (nI 4)) (pc' := 28) zi_178_27 rfl rfl ?_
  refine zr_isub (v := nI n - nI 4) (pc' := 29) zi_178_28 rfl rfl ?_
  refine zr_icmpt zi_178_29 (by rcases (show n = 0 ∨ n = 1 ∨ n = 2 ∨ n = 3 by omega) with rfl | rfl | rfl | rfl <;> rfl) ?_
  refine zr_iconst (v := 1) (pc' := 1596) zi_178_1595 rfl rfl ?_
  exact zr_zreturn zi_178_1596 rfl (Or.inr rfl)
end LE

