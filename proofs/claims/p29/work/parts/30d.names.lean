theorem dL_isRight_225 : decode cL_isRight 225 = .ok (.invokevirtual 25, 3) := by decide +kernel
theorem dL_isRight_228 : decode cL_isRight 228 = .ok (.iload_n 2, 1) := by decide +kernel
theorem dL_isRight_229 : decode cL_isRight 229 = .ok (.ishr, 1) := by decide +kernel
theorem dL_isRight_230 : decode cL_isRight 230 = .ok (.iconst 1, 1) := by decide +kernel
theorem dL_isRight_231 : decode cL_isRight 231 = .ok (.iand, 1) := by decide +kernel
theorem dL_isRight_232 : decode cL_isRight 232 = .ok (.iconst 1, 1) := by decide +kernel
theorem dL_isRight_233 : decode cL_isRight 233 = .ok (.if_icmp .ne 7, 3) := by decide +kernel
theorem dL_isRight_236 : decode cL_isRight 236 = .ok (.iconst 1, 1) := by decide +kernel
theorem dL_isRight_237 : decode cL_isRight 237 = .ok (.goto 4, 3) := by decide +kernel
theorem dL_isRight_240 : decode cL_isRight 240 = .ok (.iconst 0, 1) := by decide +kernel
theorem dL_isRight_241 : decode cL_isRight 241 = .ok (.istore 10, 2) := by decide +kernel
theorem dL_isRight_243 : decode cL_isRight 243 = .ok (.iload 7, 2) := by decide +kernel
theorem dL_isRight_245 : decode cL_isRight 245 = .ok (.iload_n 3, 1) := by decide +kernel
theorem dL_isRight_246 : decode cL_isRight 246 = .ok (.if_icmp .gt 111, 3) := by decide +kernel
theorem dL_isRight_249 : decode cL_isRight 249 = .ok (.iload 10, 2) := by decide +kernel
theorem dL_isRight_251 : decode cL_isRight 251 = .ok (.ifCond .eq 8, 3) := by decide +kernel
theorem dL_isRight_254 : decode cL_isRight 254 = .ok (.iload 7, 2) := by decide +kernel
theorem dL_isRight_256 : decode cL_isRight 256 = .ok (.ifCond .ne 101, 3) := by decide +kernel
theorem dL_isRight_259 : decode cL_isRight 259 = .ok (.aload_n 0, 1) := by decide +kernel
theorem dL_isRight_260 : decode cL_isRight 260 = .ok (.iload 6, 2) := by decide +kernel
theorem dL_isRight_262 : decode cL_isRight 262 = .ok (.iconst 3, 1) := by decide +kernel
theorem dL_isRight_263 : decode cL_isRight 263 = .ok (.invokevirtual 25, 3) := by decide +kernel
theorem dL_isRight_266 : decode cL_isRight 266 = .ok (.iload_n 2, 1) := by decide +kernel
theorem dL_isRight_267 : decode cL_isRight 267 = .ok (.ishr, 1) := by decide +kernel
theorem dL_isRight_268 : decode cL_isRight 268 = .ok (.iconst 1, 1) := by decide +kernel
theorem dL_isRight_269 : decode cL_isRight 269 = .ok (.iand, 1) := by decide +kernel
theorem dL_isRight_270 : decode cL_isRight 270 = .ok (.iconst 1, 1) := by decide +kernel
theorem dL_isRight_271 : decode cL_isRight 271 = .ok (.if_icmp .ne 7, 3) := by decide +kernel
theorem dL_isRight_274 : decode cL_isRight 274 = .ok (.iconst 1, 1) := by decide +kernel
theorem dL_isRight_275 : decode cL_isRight 275 = .ok (.goto 4, 3) := by decide +kernel
theorem dL_isRight_278 : decode cL_isRight 278 = .ok (.iconst 0, 1) := by decide +kernel
theorem dL_isRight_279 : decode cL_isRight 279 = .ok (.iload 7, 2) := by decide +kernel
theorem dL_isRight_281 : decode cL_isRight 281 = .ok (.ifCond .le 7, 3) := by decide +kernel
theorem dL_isRight_284 : decode cL_isRight 284 = .ok (.iconst 1, 1) := by decide +kernel
theorem dL_isRight_285 : decode cL_isRight 285 = .ok (.goto 4, 3) := by decide +kernel
theorem dL_isRight_288 : decode cL_isRight 288 = .ok (.iconst 0, 1) := by decide +kernel
theorem dL_isRight_289 : decode cL_isRight 289 = .ok (.if_icmp .ne 68, 3) := by decide +kernel
theorem dL_isRight_292 : decode cL_isRight 292 = .ok (.iload 8, 2) := by decide +kernel
theorem dL_isRight_294 : decode cL_isRight 294 = .ok (.iconst 1, 1) := by decide +kernel
theorem dL_isRight_295 : decode cL_isRight 295 = .ok (.if_icmp .ne 7, 3) := by decide +kernel
theorem dL_isRight_298 : decode cL_isRight 298 = .ok (.iconst 1, 1) := by decide +kernel
theorem dL_isRight_299 : decode cL_isRight 299 = .ok (.goto 4, 3) := by decide +kernel
theorem dL_isRight_302 : decode cL_isRight 302 = .ok (.iconst 0, 1) := by decide +kernel
theorem dL_isRight_303 : decode cL_isRight 303 = .ok (.iload 7, 2) := by decide +kernel
theorem dL_isRight_305 : decode cL_isRight 305 = .ok (.ifCond .le 7, 3) := by decide +kernel
theorem dL_isRight_308 : decode cL_isRight 308 = .ok (.iconst 1, 1) := by decide +kernel
theorem dL_isRight_309 : decode cL_isRight 309 = .ok (.goto 4, 3) := by decide +kernel
theorem dL_isRight_312 : decode cL_isRight 312 = .ok (.iconst 0, 1) := by decide +kernel
theorem dL_isRight_313 : decode cL_isRight 313 = .ok (.if_icmp .ne 44, 3) := by decide +kernel
theorem dL_isRight_316 : decode cL_isRight 316 = .ok (.iload 8, 2) := by decide +kernel
theorem dL_isRight_318 : decode cL_isRight 318 = .ok (.ifCond .le 7, 3) := by decide +kernel
theorem dL_isRight_321 : decode cL_isRight 321 = .ok (.iconst 1, 1) := by decide +kernel
theorem dL_isRight_322 : decode cL_isRight 322 = .ok (.goto 4, 3) := by decide +kernel
theorem dL_isRight_325 : decode cL_isRight 325 = .ok (.iconst 0, 1) := by decide +kernel
theorem dL_isRight_326 : decode cL_isRight 326 = .ok (.iload 9, 2) := by decide +kernel
theorem dL_isRight_328 : decode cL_isRight 328 = .ok (.ifCond .lt 7, 3) := by decide +kernel
theorem dL_isRight_331 : decode cL_isRight 331 = .ok (.iconst 1, 1) := by decide +kernel
theorem dL_isRight_332 : decode cL_isRight 332 = .ok (.goto 4, 3) := by decide +kernel
theorem dL_isRight_335 : decode cL_isRight 335 = .ok (.iconst 0, 1) := by decide +kernel
theorem dL_isRight_336 : decode cL_isRight 336 = .ok (.if_icmp .ne 21, 3) := by decide +kernel
theorem dL_isRight_339 : decode cL_isRight 339 = .ok (.iload 9, 2) := by decide +kernel
theorem dL_isRight_341 : decode cL_isRight 341 = .ok (.iload_n 3, 1) := by decide +kernel
theorem dL_isRight_342 : decode cL_isRight 342 = .ok (.if_icmp .gt 15, 3) := by decide +kernel
theorem dL_isRight_345 : decode cL_isRight 345 = .ok (.iload 7, 2) := by decide +kernel
theorem dL_isRight_347 : decode cL_isRight 347 = .ok (.iload 9, 2) := by decide +kernel
theorem dL_isRight_349 : decode cL_isRight 349 = .ok (.if_icmp .le 10, 3) := by decide +kernel
theorem dL_isRight_352 : decode cL_isRight 352 = .ok (.iload 7, 2) := by decide +kernel
theorem dL_isRight_354 : decode cL_isRight 354 = .ok (.ifCond .le 5, 3) := by decide +kernel
theorem dL_isRight_357 : decode cL_isRight 357 = .ok (.iconst 0, 1) := by decide +kernel
theorem dL_isRight_358 : decode cL_isRight 358 = .ok (.ireturn, 1) := by decide +kernel
theorem dL_isRight_359 : decode cL_isRight 359 = .ok (.iload 8, 2) := by decide +kernel
theorem dL_isRight_361 : decode cL_isRight 361 = .ok (.ifCond .le 62, 3) := by decide +kernel
theorem dL_isRight_364 : decode cL_isRight 364 = .ok (.iload 8, 2) := by decide +kernel
theorem dL_isRight_366 : decode cL_isRight 366 = .ok (.iconst 4, 1) := by decide +kernel
theorem dL_isRight_367 : decode cL_isRight 367 = .ok (.if_icmp .gt 54, 3) := by decide +kernel
theorem dL_isRight_370 : decode cL_isRight 370 = .ok (.aload_n 0, 1) := by decide +kernel
theorem dL_isRight_371 : decode cL_isRight 371 = .ok (.iload_n 2, 1) := by decide +kernel
theorem dL_isRight_372 : decode cL_isRight 372 = .ok (.iload 6, 2) := by decide +kernel
theorem dL_isRight_374 : decode cL_isRight 374 = .ok (.iconst 0, 1) := by decide +kernel
theorem dL_isRight_375 : decode cL_isRight 375 = .ok (.invokevirtual 71, 3) := by decide +kernel
theorem dL_isRight_378 : decode cL_isRight 378 = .ok (.iload_n 2, 1) := by decide +kernel
theorem dL_isRight_379 : decode cL_isRight 379 = .ok (.if_icmp .ne 42, 3) := by decide +kernel
theorem dL_isRight_382 : decode cL_isRight 382 = .ok (.aload_n 0, 1) := by decide +kernel
theorem dL_isRight_383 : decode cL_isRight 383 = .ok (.iload_n 2, 1) := by decide +kernel
theorem dL_isRight_384 : decode cL_isRight 384 = .ok (.iload 6, 2) := by decide +kernel
theorem dL_isRight_386 : decode cL_isRight 386 = .ok (.iload 8, 2) := by decide +kernel
theorem dL_isRight_388 : decode cL_isRight 388 = .ok (.invokevirtual 71, 3) := by decide +kernel
theorem dL_isRight_391 : decode cL_isRight 391 = .ok (.bipush (-99), 2) := by decide +kernel
theorem dL_isRight_393 : decode cL_isRight 393 = .ok (.if_icmp .ne 28, 3) := by decide +kernel
theorem dL_isRight_396 : decode cL_isRight 396 = .ok (.aload_n 0, 1) := by decide +kernel
theorem dL_isRight_397 : decode cL_isRight 397 = .ok (.iload 6, 2) := by decide +kernel
theorem dL_isRight_399 : decode cL_isRight 399 = .ok (.iconst 3, 1) := by decide +kernel
theorem dL_isRight_400 : decode cL_isRight 400 = .ok (.invokevirtual 25, 3) := by decide +kernel
theorem dL_isRight_403 : decode cL_isRight 403 = .ok (.aload_n 0, 1) := by decide +kernel
theorem dL_isRight_404 : decode cL_isRight 404 = .ok (.iload_n 2, 1) := by decide +kernel
theorem dL_isRight_405 : decode cL_isRight 405 = .ok (.iload 6, 2) := by decide +kernel
theorem dL_isRight_407 : decode cL_isRight 407 = .ok (.iload 8, 2) := by decide +kernel
theorem dL_isRight_409 : decode cL_isRight 409 = .ok (.iconst 1, 1) := by decide +kernel
theorem dL_isRight_410 : decode cL_isRight 410 = .ok (.isub, 1) := by decide +kernel
theorem dL_isRight_411 : decode cL_isRight 411 = .ok (.invokevirtual 71, 3) := by decide +kernel
theorem dL_isRight_414 : decode cL_isRight 414 = .ok (.ishr, 1) := by decide +kernel
theorem dL_isRight_415 : decode cL_isRight 415 = .ok (.iconst 1, 1) := by decide +kernel
theorem dL_isRight_416 : decode cL_isRight 416 = .ok (.iand, 1) := by decide +kernel
theorem dL_isRight_417 : decode cL_isRight 417 = .ok (.iconst 1, 1) := by decide +kernel
theorem dL_isRight_418 : decode cL_isRight 418 = .ok (.if_icmp .eq 5, 3) := by decide +kernel
theorem dL_isRight_421 : decode cL_isRight 421 = .ok (.iconst 0, 1) := by decide +kernel
theorem dL_isRight_422 : decode cL_isRight 422 = .ok (.ireturn, 1) := by decide +kernel
theorem dL_isRight_423 : decode cL_isRight 423 = .ok (.aload_n 0, 1) := by decide +kernel
theorem dL_isRight_424 : decode cL_isRight 424 = .ok (.iload 6, 2) := by decide +kernel
theorem dL_isRight_426 : decode cL_isRight 426 = .ok (.invokevirtual 77, 3) := by decide +kernel
theorem dL_isRight_429 : decode cL_isRight 429 = .ok (.iload_n 2, 1) := by decide +kernel
theorem dL_isRight_430 : decode cL_isRight 430 = .ok (.ishr, 1) := by decide +kernel
theorem dL_isRight_431 : decode cL_isRight 431 = .ok (.iconst 1, 1) := by decide +kernel
theorem dL_isRight_432 : decode cL_isRight 432 = .ok (.iand, 1) := by decide +kernel
theorem dL_isRight_433 : decode cL_isRight 433 = .ok (.iconst 1, 1) := by decide +kernel
theorem dL_isRight_434 : decode cL_isRight 434 = .ok (.if_icmp .ne 7, 3) := by decide +kernel
theorem dL_isRight_437 : decode cL_isRight 437 = .ok (.iconst 1, 1) := by decide +kernel
theorem dL_isRight_438 : decode cL_isRight 438 = .ok (.goto 4, 3) := by decide +kernel
theorem dL_isRight_441 : decode cL_isRight 441 = .ok (.iconst 0, 1) := by decide +kernel
theorem dL_isRight_442 : decode cL_isRight 442 = .ok (.iload 10, 2) := by decide +kernel
theorem dL_isRight_444 : decode cL_isRight 444 = .ok (.ifCond .eq 12, 3) := by decide +kernel
theorem dL_isRight_447 : decode cL_isRight 447 = .ok (.iload 8, 2) := by decide +kernel
theorem dL_isRight_449 : decode cL_isRight 449 = .ok (.ifCond .le 7, 3) := by decide +kernel
theorem dL_isRight_452 : decode cL_isRight 452 = .ok (.iconst 1, 1) := by decide +kernel
theorem dL_isRight_453 : decode cL_isRight 453 = .ok (.goto 4, 3) := by decide +kernel
theorem dL_isRight_456 : decode cL_isRight 456 = .ok (.iconst 0, 1) := by decide +kernel
theorem dL_isRight_457 : decode cL_isRight 457 = .ok (.if_icmp .eq 5, 3) := by decide +kernel
theorem dL_isRight_460 : decode cL_isRight 460 = .ok (.iconst 0, 1) := by decide +kernel
theorem dL_isRight_461 : decode cL_isRight 461 = .ok (.ireturn, 1) := by decide +kernel
theorem dL_isRight_462 : decode cL_isRight 462 = .ok (.iinc 6 1, 3) := by decide +kernel
theorem dL_isRight_465 : decode cL_isRight 465 = .ok (.goto (-279), 3) := by decide +kernel
theorem dL_isRight_468 : decode cL_isRight 468 = .ok (.iinc 2 1, 3) := by decide +kernel
theorem dL_isRight_471 : decode cL_isRight 471 = .ok (.goto (-467), 3) := by decide +kernel
theorem dL_isRight_474 : decode cL_isRight 474 = .ok (.aload_n 0, 1) := by decide +kernel
theorem dL_isRight_475 : decode cL_isRight 475 = .ok (.invokevirtual 80, 3) := by decide +kernel
theorem dL_isRight_478 : decode cL_isRight 478 = .ok (.istore_n 2, 1) := by decide +kernel
theorem dL_isRight_479 : decode cL_isRight 479 = .ok (.iconst 0, 1) := by decide +kernel
theorem dL_isRight_480 : decode cL_isRight 480 = .ok (.istore_n 3, 1) := by decide +kernel
theorem dL_isRight_481 : decode cL_isRight 481 = .ok (.iload_n 3, 1) := by decide +kernel
theorem dL_isRight_482 : decode cL_isRight 482 = .ok (.iconst 4, 1) := by decide +kernel
theorem dL_isRight_483 : decode cL_isRight 483 = .ok (.if_icmp .ge 133, 3) := by decide +kernel
theorem dL_isRight_486 : decode cL_isRight 486 = .ok (.aload_n 0, 1) := by decide +kernel
theorem dL_isRight_487 : decode cL_isRight 487 = .ok (.iload_n 3, 1) := by decide +kernel
theorem dL_isRight_488 : decode cL_isRight 488 = .ok (.iconst 1, 1) := by decide +kernel
theorem dL_isRight_489 : decode cL_isRight 489 = .ok (.invokevirtual 25, 3) := by decide +kernel
theorem dL_isRight_492 : decode cL_isRight 492 = .ok (.istore 4, 2) := by decide +kernel
theorem dL_isRight_494 : decode cL_isRight 494 = .ok (.iload_n 2, 1) := by decide +kernel
theorem dL_isRight_495 : decode cL_isRight 495 = .ok (.iload_n 3, 1) := by decide +kernel
theorem dL_isRight_496 : decode cL_isRight 496 = .ok (.ishr, 1) := by decide +kernel
theorem dL_isRight_497 : decode cL_isRight 497 = .ok (.iconst 1, 1) := by decide +kernel
theorem dL_isRight_498 : decode cL_isRight 498 = .ok (.iand, 1) := by decide +kernel
theorem dL_isRight_499 : decode cL_isRight 499 = .ok (.iconst 1, 1) := by decide +kernel
theorem dL_isRight_500 : decode cL_isRight 500 = .ok (.if_icmp .ne 7, 3) := by decide +kernel
theorem dL_isRight_503 : decode cL_isRight 503 = .ok (.iconst 1, 1) := by decide +kernel
theorem dL_isRight_504 : decode cL_isRight 504 = .ok (.goto 4, 3) := by decide +kernel
theorem dL_isRight_507 : decode cL_isRight 507 = .ok (.iconst 0, 1) := by decide +kernel
theorem dL_isRight_508 : decode cL_isRight 508 = .ok (.iload 4, 2) := by decide +kernel
theorem dL_isRight_510 : decode cL_isRight 510 = .ok (.ifCond .lt 27, 3) := by decide +kernel
theorem dL_isRight_513 : decode cL_isRight 513 = .ok (.aload_n 0, 1) := by decide +kernel
theorem dL_isRight_514 : decode cL_isRight 514 = .ok (.iload 4, 2) := by decide +kernel
theorem dL_isRight_516 : decode cL_isRight 516 = .ok (.ifCond .ge 7, 3) := by decide +kernel
theorem dL_isRight_519 : decode cL_isRight 519 = .ok (.iconst 0, 1) := by decide +kernel
theorem dL_isRight_520 : decode cL_isRight 520 = .ok (.goto 5, 3) := by decide +kernel
theorem dL_isRight_523 : decode cL_isRight 523 = .ok (.iload 4, 2) := by decide +kernel
theorem dL_isRight_525 : decode cL_isRight 525 = .ok (.iload_n 3, 1) := by decide +kernel
theorem dL_isRight_526 : decode cL_isRight 526 = .ok (.iconst (-1), 1) := by decide +kernel
theorem dL_isRight_527 : decode cL_isRight 527 = .ok (.invokevirtual 71, 3) := by decide +kernel
theorem dL_isRight_530 : decode cL_isRight 530 = .ok (.ifCond .le 7, 3) := by decide +kernel
theorem dL_isRight_533 : decode cL_isRight 533 = .ok (.iconst 1, 1) := by decide +kernel
theorem dL_isRight_534 : decode cL_isRight 534 = .ok (.goto 4, 3) := by decide +kernel
theorem dL_isRight_537 : decode cL_isRight 537 = .ok (.iconst 0, 1) := by decide +kernel
theorem dL_isRight_538 : decode cL_isRight 538 = .ok (.if_icmp .ne 70, 3) := by decide +kernel
theorem dL_isRight_541 : decode cL_isRight 541 = .ok (.aload_n 0, 1) := by decide +kernel
theorem dL_isRight_542 : decode cL_isRight 542 = .ok (.iload_n 3, 1) := by decide +kernel
theorem dL_isRight_543 : decode cL_isRight 543 = .ok (.iconst 2, 1) := by decide +kernel
theorem dL_isRight_544 : decode cL_isRight 544 = .ok (.invokevirtual 25, 3) := by decide +kernel
theorem dL_isRight_547 : decode cL_isRight 547 = .ok (.ifCond .lt 61, 3) := by decide +kernel
theorem dL_isRight_550 : decode cL_isRight 550 = .ok (.aload_n 0, 1) := by decide +kernel
theorem dL_isRight_551 : decode cL_isRight 551 = .ok (.iload_n 3, 1) := by decide +kernel
theorem dL_isRight_552 : decode cL_isRight 552 = .ok (.iconst 2, 1) := by decide +kernel
theorem dL_isRight_553 : decode cL_isRight 553 = .ok (.invokevirtual 25, 3) := by decide +kernel
theorem dL_isRight_556 : decode cL_isRight 556 = .ok (.sipush 9999, 3) := by decide +kernel
theorem dL_isRight_559 : decode cL_isRight 559 = .ok (.if_icmp .gt 49, 3) := by decide +kernel
theorem dL_isRight_562 : decode cL_isRight 562 = .ok (.aload_n 0, 1) := by decide +kernel
theorem dL_isRight_563 : decode cL_isRight 563 = .ok (.iload_n 3, 1) := by decide +kernel
theorem dL_isRight_564 : decode cL_isRight 564 = .ok (.invokevirtual 77, 3) := by decide +kernel
theorem dL_isRight_567 : decode cL_isRight 567 = .ok (.ifCond .ne 7, 3) := by decide +kernel
theorem dL_isRight_570 : decode cL_isRight 570 = .ok (.iconst 1, 1) := by decide +kernel
theorem dL_isRight_571 : decode cL_isRight 571 = .ok (.goto 4, 3) := by decide +kernel
theorem dL_isRight_574 : decode cL_isRight 574 = .ok (.iconst 0, 1) := by decide +kernel
theorem dL_isRight_575 : decode cL_isRight 575 = .ok (.aload_n 0, 1) := by decide +kernel
theorem dL_isRight_576 : decode cL_isRight 576 = .ok (.iload_n 3, 1) := by decide +kernel
theorem dL_isRight_577 : decode cL_isRight 577 = .ok (.invokevirtual 83, 3) := by decide +kernel
theorem dL_isRight_580 : decode cL_isRight 580 = .ok (.bipush (-2), 2) := by decide +kernel
theorem dL_isRight_582 : decode cL_isRight 582 = .ok (.if_icmp .ne 7, 3) := by decide +kernel
theorem dL_isRight_585 : decode cL_isRight 585 = .ok (.iconst 1, 1) := by decide +kernel
theorem dL_isRight_586 : decode cL_isRight 586 = .ok (.goto 4, 3) := by decide +kernel
theorem dL_isRight_589 : decode cL_isRight 589 = .ok (.iconst 0, 1) := by decide +kernel
theorem dL_isRight_590 : decode cL_isRight 590 = .ok (.if_icmp .ne 18, 3) := by decide +kernel
theorem dL_isRight_593 : decode cL_isRight 593 = .ok (.aload_n 0, 1) := by decide +kernel
theorem dL_isRight_594 : decode cL_isRight 594 = .ok (.iload_n 3, 1) := by decide +kernel
theorem dL_isRight_595 : decode cL_isRight 595 = .ok (.iconst 0, 1) := by decide +kernel
theorem dL_isRight_596 : decode cL_isRight 596 = .ok (.invokevirtual 86, 3) := by decide +kernel
theorem dL_isRight_599 : decode cL_isRight 599 = .ok (.aload_n 0, 1) := by decide +kernel
theorem dL_isRight_600 : decode cL_isRight 600 = .ok (.iload_n 3, 1) := by decide +kernel
theorem dL_isRight_601 : decode cL_isRight 601 = .ok (.iconst 2, 1) := by decide +kernel
theorem dL_isRight_602 : decode cL_isRight 602 = .ok (.invokevirtual 25, 3) := by decide +kernel
theorem dL_isRight_605 : decode cL_isRight 605 = .ok (.if_icmp .eq 5, 3) := by decide +kernel
theorem dL_isRight_608 : decode cL_isRight 608 = .ok (.iconst 0, 1) := by decide +kernel
theorem dL_isRight_609 : decode cL_isRight 609 = .ok (.ireturn, 1) := by decide +kernel
theorem dL_isRight_610 : decode cL_isRight 610 = .ok (.iinc 3 1, 3) := by decide +kernel
theorem dL_isRight_613 : decode cL_isRight 613 = .ok (.goto (-132), 3) := by decide +kernel
theorem dL_isRight_616 : decode cL_isRight 616 = .ok (.aload_n 0, 1) := by decide +kernel
theorem dL_isRight_617 : decode cL_isRight 617 = .ok (.iconst 4, 1) := by decide +kernel
theorem dL_isRight_618 : decode cL_isRight 618 = .ok (.invokevirtual 12, 3) := by decide +kernel
theorem dL_isRight_621 : decode cL_isRight 621 = .ok (.istore_n 3, 1) := by decide +kernel
theorem dL_isRight_622 : decode cL_isRight 622 = .ok (.iload_n 1, 1) := by decide +kernel
theorem dL_isRight_623 : decode cL_isRight 623 = .ok (.aload_n 0, 1) := by decide +kernel
theorem dL_isRight_624 : decode cL_isRight 624 = .ok (.bipush 8, 2) := by decide +kernel
theorem dL_isRight_626 : decode cL_isRight 626 = .ok (.invokevirtual 12, 3) := by decide +kernel
theorem dL_isRight_629 : decode cL_isRight 629 = .ok (.if_icmp .ne 53, 3) := by decide +kernel
theorem dL_isRight_632 : decode cL_isRight 632 = .ok (.aload_n 0, 1) := by decide +kernel
theorem dL_isRight_633 : decode cL_isRight 633 = .ok (.iconst 1, 1) := by decide +kernel
theorem dL_isRight_634 : decode cL_isRight 634 = .ok (.invokevirtual 12, 3) := by decide +kernel
theorem dL_isRight_637 : decode cL_isRight 637 = .ok (.ifCond .lt 45, 3) := by decide +kernel
theorem dL_isRight_640 : decode cL_isRight 640 = .ok (.iload_n 3, 1) := by decide +kernel
theorem dL_isRight_641 : decode cL_isRight 641 = .ok (.ifCond .ge 7, 3) := by decide +kernel
theorem dL_isRight_644 : decode cL_isRight 644 = .ok (.iconst 1, 1) := by decide +kernel
theorem dL_isRight_645 : decode cL_isRight 645 = .ok (.goto 4, 3) := by decide +kernel
theorem dL_isRight_648 : decode cL_isRight 648 = .ok (.iconst 0, 1) := by decide +kernel
theorem dL_isRight_649 : decode cL_isRight 649 = .ok (.aload_n 0, 1) := by decide +kernel
theorem dL_isRight_650 : decode cL_isRight 650 = .ok (.iconst 5, 1) := by decide +kernel
theorem dL_isRight_651 : decode cL_isRight 651 = .ok (.invokevirtual 12, 3) := by decide +kernel
theorem dL_isRight_654 : decode cL_isRight 654 = .ok (.ifCond .ge 7, 3) := by decide +kernel
theorem dL_isRight_657 : decode cL_isRight 657 = .ok (.iconst 1, 1) := by decide +kernel
theorem dL_isRight_658 : decode cL_isRight 658 = .ok (.goto 4, 3) := by decide +kernel
theorem dL_isRight_661 : decode cL_isRight 661 = .ok (.iconst 0, 1) := by decide +kernel
theorem dL_isRight_662 : decode cL_isRight 662 = .ok (.if_icmp .ne 20, 3) := by decide +kernel
theorem dL_isRight_665 : decode cL_isRight 665 = .ok (.iload_n 3, 1) := by decide +kernel
theorem dL_isRight_666 : decode cL_isRight 666 = .ok (.ifCond .lt 12, 3) := by decide +kernel
theorem dL_isRight_669 : decode cL_isRight 669 = .ok (.iload_n 3, 1) := by decide +kernel
theorem dL_isRight_670 : decode cL_isRight 670 = .ok (.aload_n 0, 1) := by decide +kernel
theorem dL_isRight_671 : decode cL_isRight 671 = .ok (.iconst 5, 1) := by decide +kernel
theorem dL_isRight_672 : decode cL_isRight 672 = .ok (.invokevirtual 12, 3) := by decide +kernel
theorem dL_isRight_675 : decode cL_isRight 675 = .ok (.if_icmp .ge 7, 3) := by decide +kernel
theorem dL_isRight_678 : decode cL_isRight 678 = .ok (.iconst 1, 1) := by decide +kernel
theorem dL_isRight_679 : decode cL_isRight 679 = .ok (.goto 4, 3) := by decide +kernel
theorem dL_isRight_682 : decode cL_isRight 682 = .ok (.iconst 0, 1) := by decide +kernel
theorem dL_isRight_683 : decode cL_isRight 683 = .ok (.ireturn, 1) := by decide +kernel
set_option maxRecDepth 20000 in
theorem ggL_law_X5_init : GoodIn wsL_law wsX5_init := goodIn_r _ [5, 6, 7, 8, 9, 10, 11, 12, 13, 14, 15, 16, 17, 18, 19, 20, 21, 22, 23, 24, 25, 26, 27, 28, 29, 30, 31, 32, 33, 34, 35, 36, 37, 38, 39, 40, 41, 42, 43, 44, 45, 46, 47, 48, 49, 50, 51, 52, 53, 54, 55, 56, 57, 58, 59, 60, 61, 62, 63, 64, 65, 66, 67, 549, 550, 551, 552, 553, 554, 555, 556, 557, 558, 559, 560, 561, 562, 563, 564, 565, 566, 544, 545, 546, 547, 548, 567, 568, 569, 570, 571, 572, 573, 574, 575, 576, 577, 578, 579, 580, 581] (by decide +kernel) (by decide +kernel)
set_option maxRecDepth 20000 in
theorem gL_law_X5_init : GoodIn wsL_law (wsX5_init) := ggL_law_X5_init
set_option maxRecDepth 20000 in
theorem ggL_law_L_cell : GoodIn wsL_law wsL_cell := goodIn_r _ [71] (by decide +kernel) (by decide +kernel)
set_option maxRecDepth 20000 in
theorem gL_law_L_cell : GoodIn wsL_law (va_wsS RL 90 yL_cell wsL_cell) := goodIn_app (goodIn_of _ (by decide +kernel)) ggL_law_L_cell
set_option maxRecDepth 20000 in
theorem ggL_law_L_digest : GoodIn wsL_law wsL_digest := goodIn_r _ [74, 75, 76, 77, 78, 79, 2, 80, 12, 17, 25, 81, 82, 83, 42, 84, 85, 86, 87, 88, 89, 90, 91, 92, 93, 94, 95, 11, 96, 97, 98, 99, 100, 101, 32, 33, 102, 103, 104, 105, 106, 107, 108, 109, 110, 111, 112, 113, 114, 115, 116, 117, 118, 119, 120, 121, 31, 122, 123, 124, 125, 126, 127, 128, 129, 130, 131, 36, 132, 133, 134, 135, 136, 137, 138, 139, 140, 141, 142, 143, 144, 145, 146, 147, 148, 149, 150, 151, 152, 153, 154, 155, 156, 157, 158, 159, 160, 35, 34, 161, 162, 163, 164, 165, 166, 167, 168, 169, 170, 171, 172, 173, 544, 545, 546, 547, 548, 549, 550, 551, 552, 553, 554, 555, 556, 557, 558, 559, 560, 561, 562, 563, 564, 565, 566, 577, 578, 579, 580, 581, 567, 568, 569, 574, 575, 576] (by decide +kernel) (by decide +kernel)
set_option maxRecDepth 20000 in
theorem gL_law_L_digest : GoodIn wsL_law (va_wsS RL 94 yL_digest wsL_digest) := goodIn_app (goodIn_of _ (by decide +kernel)) ggL_law_L_digest
